/-! methods that return or throw; a caller that catches -/
section ZGX
def zgQcX (G : zgG) {σ : Type} (out : Option String) (r : σ → Option Value) (w0 : va_W) (w1 : σ → va_W) (sz : Nat) : Array Value → State → Outcome → State → Prop := fun a st oc t => out = none ∧ zgQc G r w0 w1 sz a st oc t
def zgXC (G : zgG) {σ : Type} (out : Option String) (w0 : va_W) (w1 : σ → va_W) (sz : Nat) : String → State → State → Prop := fun E st t => out = some E ∧ (∃ u : σ, va_P G.2.1 vwCl (w1 u) t.heap ∧ va_D (va_A w0 sz) (w1 u)) ∧ va_F (va_A w0 sz) st t
def zgCtX (G : zgG) {σ : Type} (y : MethodName) (ws : List Cond) (rm : Room) (as : List Value) (w0 : va_W) (out : Option String) (r : σ → Option Value) (w1 : σ → va_W) (mc ms : Nat) : Prop :=
  ∀ sz : Nat, vx_Met G.1 y ws rm (zgPc G as w0 sz) (zgQcX G out r w0 w1 sz) (zgXC G out w0 w1 sz) mc ms (va_A w0 sz)
def zgFinX (G : zgG) (Z : zgZ) {σ : Type} (out : Option String) (r : σ → Option Value) (w0 : va_W) (w1 : σ → va_W) (mc ms : Nat) : Prop :=
  zZA Z = va_A w0 (zZs Z).heap.size ∧ zZQ Z = vx_MQ (zZb Z) (zgQcX G out r w0 w1 (zZs Z).heap.size) (zgXC G out w0 w1 (zZs Z).heap.size) (zZa Z) (zZs Z) mc ms (va_A w0 (zZs Z).heap.size)
theorem zg_ofX {G : zgG} {σ : Type} {y : MethodName} {ws ws' : List Cond} {rm : Room} {as : List Value} {w0 : va_W} {out : Option String} {r : σ → Option Value} {w1 : σ → va_W} {mc ms : Nat} {cc : ByteArray} {nL : Nat} {ret : Option FieldType} {own : String}
    (hy : plainName y.cls = true) (hown : y.cls = own) (hw : ws = Cond.code y cc nL ret :: ws') (hn : (lg_sl as).length ≤ nL)
    (body : ∀ Z : zgZ, zgCx G Z cc own ret nL ws → (∀ x ∈ (zZc Z).exceptionTable.toList, False) → zgFinX G Z out r w0 w1 mc ms → zgGd G Z rm 0 0 nL w0 0 (lv_args 0 as) []) : zgCtX G y ws rm as w0 out r w1 mc ms := by
  subst hown
  intro sz
  refine vx_ofW hy hw ?_
  intro p e s m args below meth c s₁ B hml ht hv
  obtain ⟨rfl, hsz, hP, hK, hD0, hE⟩ := hv
  subst hsz
  have hD := hD0.self (sz := s.heap.size)
  have hl := lv_entry as hn
  rw [lg_entry_eq]
  have hown : s.vm.findClass y.cls = some m.cls := findClass_of_methodNamed B.named
  exact body (p, e, s, m, as.toArray, below, meth, c, va_A w0 s.heap.size, vx_MQ below (zgQcX G out r w0 w1 s.heap.size) (zgXC G out w0 w1 s.heap.size) as.toArray s mc ms (va_A w0 s.heap.size)) ⟨B.exec, B.bytes, B.returns, hml, hown, atoms_spec (ws := ws) B.pre, B.notSynchronized, hK, fun q h => Or.inr h, hE⟩ ht ⟨rfl, rfl⟩ s.heap [] _ hP hD va_S.rf hl
/-- a body with a table of its own -/
theorem zg_ofW {G : zgG} {σ : Type} {y : MethodName} {ws ws' : List Cond} {rm : Room} {as : List Value} {w0 : va_W} {r : σ → Option Value} {w1 : σ → va_W} {mc ms : Nat} {cc : ByteArray} {nL : Nat} {ret : Option FieldType} {own : String} {hh : List (Nat × Nat × Nat × Nat)}
    (hy : plainName y.cls = true) (hown : y.cls = own) (hw : ws = Cond.codeWith y cc nL ret hh :: ws') (hn : (lg_sl as).length ≤ nL)
    (body : ∀ Z : zgZ, zgCx G Z cc own ret nL ws → (zZc Z).exceptionTable.toList = tableOf hh → zgFin G Z r w0 w1 mc ms → zgGd G Z rm 0 0 nL w0 0 (lv_args 0 as) []) : zgCt G y ws rm as w0 r w1 mc ms := by
  subst hown
  intro sz
  refine va_MetW hy hw ?_
  intro p e s m args below meth c s₁ B hml hv
  obtain ⟨rfl, hsz, hP, hK, hD0, hE⟩ := hv
  subst hsz
  have hD := hD0.self (sz := s.heap.size)
  have hl := lv_entry as hn
  rw [lg_entry_eq]
  have hown : s.vm.findClass y.cls = some m.cls := findClass_of_methodNamed B.named
  have hts := atoms_spec (ws := ws) B.pre
  have htab : c.exceptionTable.toList = tableOf hh := vx_table (x := y) B (hts _ (by rw [hw]; exact List.mem_cons_self))
  exact body (p, e, s, m, as.toArray, below, meth, c, va_A w0 s.heap.size, MQ below (zgQc G r w0 w1 s.heap.size) as.toArray s mc ms (va_A w0 s.heap.size)) ⟨B.exec, B.bytes, B.returns, hml, hown, hts, B.notSynchronized, hK, fun q h => Or.inr h, hE⟩ htab ⟨rfl, rfl⟩ s.heap [] _ hP hD va_S.rf hl
end ZGX
section ZGY
variable {G : zgG} {Z : zgZ} {R : Room} {cc : ByteArray} {own : String} {ret : Option FieldType} {nL : Nat} {Ts : List Cond} {k n : Nat} {ws : va_W} {pc : Nat} {L : List (Nat × Value)} {rest : List Value}
theorem zg_iretX (X : zgCx G Z cc own ret nL Ts) {σ : Type} {out : Option String} {r : σ → Option Value} {w0 : va_W} {w1 : σ → va_W} {mc ms : Nat} (hF : zgFinX G Z out r w0 w1 mc ms) (ho : out = none) {ty : FieldType} (hrt : ret = some ty) {v : Int32} (hn : narrow ty (.int v) = .int v) (u : σ) (hr : r u = some (.int v)) (hw : ws = w1 u) (h1 : k ≤ mc) (h2 : n ≤ ms) (hd : decode cc pc = .ok (.ireturn, 1)) : zgGd G Z R k n nL ws pc L [.int v] := by
  subst hrt
  subst hw
  intro H locs ls hP hD hS hl
  obtain ⟨hA, hQ⟩ := hF
  refine W.widen h1 h2 ?_
  rw [hQ]
  rw [hA] at hD hS
  exact vx_ret (W.zret X.1 X.2.1 X.2.2.1 hn (fun t ht hW => ⟨ho, ⟨u, by rw [hr], by rw [ht]; exact hP, hD⟩, hS.F ht⟩) hS.2.2 hd X.2.2.2.2.2.2.1)
/-- throw new E("text") -/
theorem zg_throw (X : zgCx G Z cc "TelexReceiver" ret nL Ts) (hT : ∀ x ∈ (zZc Z).exceptionTable.toList, False) (hst : G.1.stackTraces = false) {σ : Type} {out : Option String} {r : σ → Option Value} {w0 : va_W} {w1 : σ → va_W} {mc ms : Nat} (hF : zgFinX G Z out r w0 w1 mc ms) {cls text : String} {ik is ic : Nat} (ho : out = some cls)
    (htx : (is, text) ∈ zgTexts) (hcls : Bundle.fit cls = true) (hk : Cond.classLink "TelexReceiver" ik cls ∈ Ts) (hini : Cond.initialized cls ∈ Ts) (hat : ∀ w ∈ (vx_atS "TelexReceiver" ic cls ["java/lang/RuntimeException", "java/lang/Exception"]).filter goodWord, w ∈ Ts) (hat2 : ∀ w ∈ (vx_atS "TelexReceiver" ic cls ["java/lang/RuntimeException", "java/lang/Exception"]).filter (fun w => !goodWord w), w ∈ zgNO)
    (hgood : ∀ w ∈ Cond.classLink "TelexReceiver" ik cls :: Cond.initialized cls :: vx_atS "TelexReceiver" ic cls ["java/lang/RuntimeException", "java/lang/Exception"], vx_ot w = true) (hnames : ∀ n ∈ ["java/lang/RuntimeException", "java/lang/Exception"], Bundle.fit n = true)
    (d0 : decode cc pc = .ok (.new ik, 3)) (d3 : decode cc (pc + 3) = .ok (.dup, 1)) (d4 : decode cc (pc + 4) = .ok (.ldc is, 2)) (d6 : decode cc (pc + 6) = .ok (.invokespecial ic, 3)) (d9 : decode cc (pc + 9) = .ok (.athrow, 1))
    (hRf : 5 < R.frames) (hRl : (rest.map fun v => v.category).sum + 82 ≤ R.locals) (hRc : k + 1 ≤ R.cells) (hRs : n + 6 ≤ R.slots) (u : σ) (hw : ws = w1 u) (h1 : k + 1 ≤ mc) (h2 : n + 6 ≤ ms) : zgGd G Z R k n nL ws pc L rest := by
  subst hw
  intro H locs ls hP hD hS hl
  obtain ⟨a, ha⟩ := X.2.2.2.2.2.2.2.2.2.2.2.2.2.2.2.1 (is, text) htx
  have hU := X.2.2.2.2.2.2.2.2.2.2.2.2.2.1
  have hN := X.2.2.2.2.2.2.2.2.2.2.2.2.2.2.1
  obtain ⟨hA, hQ⟩ := hF
  rw [hQ]
  rw [hA] at hD hS hU hN
  refine vx_throwS X.1 X.2.1 hst X.2.2.2.2.1 hcls hnames (X.2.2.2.2.2.1 _ hk) (X.2.2.2.2.2.1 _ hini) ha (vx_hat (fun w hw => X.2.2.2.2.2.1 _ (hat w hw)) hat2 (fun w hw => va_Nw.use (zgNO_tab w hw) (X.ex.no w hw))) hgood hU hN hS (hl.1.trans X.2.2.2.1.symm) d0 d3 d4 d6 d9 (fun x hx => absurd hx (hT x)) hRf hRl hRc hRs X.2.2.2.2.2.2.1 (fun t hv hsz hk => ?_) hS.2.2 h1 h2
  refine ⟨ho, ⟨u, hP.kept (fun j q hj => hk q.1 ((hP j q hj).lt)), hD⟩, Nat.le_trans hS.1 hsz, fun q h1 h2 => ?_⟩
  rw [hk q (Nat.lt_of_lt_of_le h1 hS.1)]
  exact hS.2.1 q h1 h2
/-- E is being thrown over the frame at pc -/
def zgTh (G : zgG) (Z : zgZ) (R : Room) (k n nL : Nat) (ws : va_W) (pc : Nat) (L : List (Nat × Value)) (rest : List Value) (E : String) : Prop :=
  ∀ (H : Heap) (locs : List Loc) (ls : Array Slot) (q : Nat) (ce : Cell), va_P G.2.1 vwCl ws H → va_D (zZA Z) ws → va_S (zZA Z) (zZs Z).heap H locs → lv_has ls nL L → H[q]? = some ce → ce.vm = .none → (zZs Z).vm.findClass E = some ce.cls →
    vx_W (zZp Z) G.1 (zZe Z) R (zZs Z) (zZm Z) (zZa Z) (zZb Z) (zZt Z) (zZc Z) H locs k n (zZQ Z) (F0 (zZm Z) pc ls rest) q
def zgRunX (G : zgG) (Z : zgZ) (R : Room) (cc : ByteArray) (k n nL : Nat) (ws : va_W) (pc : Nat) (L : List (Nat × Value)) (st0 rest : List Value) {σ : Type} (is : List Nat) (wc : va_W) (out : Option String) (r : σ → Option Value) (w1 : σ → va_W) (mc ms : Nat) : Prop :=
  va_nd is = true ∧ is.map (fun i => ws[i]?) = wc.map some ∧ ∀ (H : Heap) (locs : List Loc) (ls : Array Slot), va_P G.2.1 vwCl ws H → va_D (zZA Z) ws → va_S (zZA Z) (zZs Z).heap H locs → lv_has ls nL L → ∃ a : Array Value,
    vx_Run (zZp Z) G.1 (zZe Z) R (zZs Z) (zZm Z) (zZa Z) (zZb Z) (zZt Z) (zZc Z) H locs k n mc ms (F0 (zZm Z) pc ls st0) rest (zgQcX G out r wc w1 H.size a) (zgXC G out wc w1 H.size) (va_A wc H.size)
theorem zg_runVX (X : zgCx G Z cc own ret nL Ts) {σ : Type} {y : MethodName} {wy wy' : List Cond} {rm : Room} {As : List Value} {b : Nat} {wc : va_W} {out : Option String} {r : σ → Option Value} {w1 : σ → va_W} {mc ms maxL index nA ci N : Nat} {bytes : ByteArray} {rt : Option FieldType} {C : String} {T : u_T} {fs : List Value}
    (hM : zgCtX G y wy rm (.ref b :: As) wc out r w1 mc ms) (hT : GoodIn Ts (wsV own index C y wy)) (hw : wy = Cond.code y bytes maxL rt :: wy') (hd0 : y.cls = C ∧ y.cls ≠ "java/lang/invoke/MethodHandle" ∧ y.cls ≠ "java/lang/invoke/VarHandle" ∧ (parseMethodDescriptor y.desc).map (fun d => d.parameters.length) = some nA) (hrm : rm.cells = mc ∧ rm.slots = ms)
    (hR : rm.frames + 1 ≤ R.frames ∧ 8 + (maxL + 11) + rm.locals ≤ R.locals) (hcl : vwCl[ci]? = some (C, T, N)) (he : wc[0]? = some (b, .inr (ci, fs))) (hlen : As.length = nA) (hcat : (rest.map fun v => v.category).sum ≤ 8) (hf : k + mc ≤ R.cells ∧ n + ms ≤ R.slots) (is : List Nat) (hnd : va_nd is = true) (hC : is.map (fun i => ws[i]?) = wc.map some) {st0 : List Value} (hst : st0 = As.reverse ++ .ref b :: rest) (hd : decode cc pc = .ok (.invokevirtual index, 3)) :
    zgRunX G Z R cc k n nL ws pc L st0 rest is wc out r w1 mc ms := by
  subst hst
  refine ⟨hnd, hC, fun H locs ls hP hD hS hl => ⟨(Value.ref b :: As).toArray, ?_⟩⟩
  exact vx_runV (b := b) (As := As) (rest := rest) ⟨X.1, X.2.1, X.2.2.2.1, X.2.2.2.2.1, X.2.2.2.2.2.1⟩ (hM H.size) (cwV nA X.2.2.2.2.2.1 hT hw hrm.1 hrm.2 hd0 hR) ⟨zgPc_blind, va_recv (q := (C, T, N)) X.2.2.2.2.2.2.2.1 (hP.sub is (zg_fm _ hC)) hcl he, zg_pre X is hnd hC hP hD hS _⟩ rfl hlen hl.1 rfl (lv_room hcat) hd hf
/-- a call that may throw: the callee's cells come anew, at the old places (no cell is made that stays in the world) or beside the rest -/
theorem zg_callX (X : zgCx G Z cc own ret nL Ts) {σ : Type} {is : List Nat} {wc wr : va_W} {out : Option String} {r : σ → Option Value} {w1 : σ → va_W} {mc ms : Nat} {st0 : List Value} (hr : zgRunX G Z R cc k n nL ws pc L st0 rest is wc out r w1 mc ms) (isR : List Nat) (hR : isR.map (fun i => ws[i]?) = wr.map some) (hn : va_nd isR = true) (hdis : ∀ i ∈ isR, i ∉ is)
    (K : out = none → ∀ u : σ, zgGd G Z R (k + mc) (n + ms) nL (wr ++ w1 u) (pc + 3) L ((r u).toList ++ rest)) (Kx : ∀ E : String, out = some E → ∀ u : σ, zgTh G Z R (k + mc) (n + ms) nL (wr ++ w1 u) pc L rest E) : zgGd G Z R k n nL ws pc L st0 := by
  intro H locs ls hP hD hS hl
  obtain ⟨-, hC, hr⟩ := hr
  obtain ⟨a, hr⟩ := hr H locs ls hP hD hS hl
  have hfree := va_free (wc := wc) hD hS X.2.2.2.2.2.2.2.2.1 is hC
  have next : ∀ (u : σ) (H1 : Heap) (Ls : List Loc), va_P G.2.1 vwCl (w1 u) H1 → va_D (va_A wc H.size) (w1 u) → H.size ≤ H1.size → (∀ q : Nat, q < H.size → ¬ va_A wc H.size q → H1[q]? = H[q]?) → (∀ z ∈ Ls, va_A wc H.size z.base) →
      va_P G.2.1 vwCl (wr ++ w1 u) H1 ∧ va_D (zZA Z) (wr ++ w1 u) ∧ va_S (zZA Z) (zZs Z).heap H1 (locs ++ Ls) := by
    intro u H1 Ls hP1 hD1 hz hk hL
    obtain ⟨q1, q2⟩ := va_join hP hD is isR hC hR hn hdis hk hfree hP1 hD1
    refine ⟨q1, q2, Nat.le_trans hS.1 hz, fun q h1 h2 => ?_, fun q hq => ?_⟩
    · rw [hk q (Nat.lt_of_lt_of_le h1 hS.1) (fun z => h2 (hfree q z))]
      exact hS.2.1 q h1 h2
    · rcases List.mem_append.mp hq with h | h
      · exact hS.2.2 q h
      · exact hfree _ (hL q h)
  intro T hT Y
  rcases hr T hT Y with ⟨v, st₀, t, T', Ls, h0, X', hL, e1, e2, ⟨ho, ⟨u, hv, hp, hd⟩, hz, hk⟩, st⟩ | ⟨q, st₀, t, T', Ls, E, ce, h0, X', hL, e1, e2, ⟨ho, ⟨u, hp, hd⟩, hz, hk⟩, hce, hcv, hcl, st⟩
  · cases hv
    rw [h0] at hz hk
    obtain ⟨a1, a2, a3⟩ := next u T'.heap Ls (by rw [e1]; exact hp) hd (by rw [e1]; exact hz) (fun q h1 h2 => by rw [e1]; exact hk q h1 h2) hL
    obtain ⟨t2, b1, b2⟩ := K ho u T'.heap (locs ++ Ls) ls a1 a2 a3 hl T' rfl X'
    exact ⟨t2, st t2 b1, b2⟩
  · rw [h0] at hz hk
    obtain ⟨a1, a2, a3⟩ := next u T'.heap Ls (by rw [e1]; exact hp) hd (by rw [e1]; exact hz) (fun q h1 h2 => by rw [e1]; exact hk q h1 h2) hL
    obtain ⟨t2, b1, b2⟩ := Kx E ho u T'.heap (locs ++ Ls) ls q ce a1 a2 a3 hl (by rw [e1]; exact hce) hcv hcl T' rfl X'
    exact ⟨t2, st.trans b1, b2⟩
/-- the row x of the table takes it -/
theorem zg_catch (X : zgCx G Z cc own ret nL Ts) {E name : String} (pre : List ExceptionTableEntry) (x : ExceptionTableEntry) (suf : List ExceptionTableEntry) {hh : List (Nat × Nat × Nat × Nat)} (htab : (zZc Z).exceptionTable.toList = tableOf hh) (hsplit : tableOf hh = pre ++ x :: suf)
    (hpass : ∀ z ∈ pre, covers z pc = false ∨ (z.catchType ≠ 0 ∧ ∃ nm : String, Cond.classLink own z.catchType nm ∈ Ts ∧ va_Nc E nm (zZs Z))) (hx : covers x pc = true) (h0 : x.catchType ≠ 0) (hlink : Cond.classLink own x.catchType name ∈ Ts) (hcast : (E, name) ∈ zgNC) {hpc : Nat} (hh0 : x.handlerPc = hpc)
    (K : ∀ q : Nat, zgGd G Z R k n nL ws hpc L [.ref q]) : zgTh G Z R k n nL ws pc L rest E := by
  subst hh0
  exact fun H locs ls q ce hP hD hS hl hc hv hcl => vx_catch X.2.2.2.2.1 pre x suf (htab.trans hsplit) (fun z hz => (hpass z hz).imp id (fun ⟨h, nm, h1, h2⟩ => ⟨h, nm, X.2.2.2.2.2.1 _ h1, h2⟩)) hx h0 (X.2.2.2.2.2.1 _ hlink) (va_Nw.use rfl (X.ex.cs _ hcast)) hc hv hcl (K q H locs ls hP hD hS hl)
/-- a static call of a method with a table of its own -/
theorem zg_runSW (X : zgCx G Z cc own ret nL Ts) {σ : Type} {y : MethodName} {wy wy' : List Cond} {rm : Room} {As : List Value} {wc : va_W} {r : σ → Option Value} {w1 : σ → va_W} {mc ms maxL index nA : Nat} {bytes : ByteArray} {rt : Option FieldType} {hh : List (Nat × Nat × Nat × Nat)}
    (hM : zgCt G y wy rm As wc r w1 mc ms) (hT : GoodIn Ts (va_wsS own index y wy)) (hw : wy = Cond.codeWith y bytes maxL rt hh :: wy') (hd0 : y.cls ≠ "java/lang/invoke/MethodHandle" ∧ y.cls ≠ "java/lang/invoke/VarHandle" ∧ (parseMethodDescriptor y.desc).map (fun d => d.parameters.length) = some nA) (hrm : rm.cells = mc ∧ rm.slots = ms)
    (hR : rm.frames + 1 ≤ R.frames ∧ 8 + (maxL + 11) + rm.locals ≤ R.locals) (hlen : As.length = nA) (hcat : (rest.map fun v => v.category).sum ≤ 8) (hf : k + mc ≤ R.cells ∧ n + ms ≤ R.slots) (is : List Nat) (hnd : va_nd is = true) (hC : is.map (fun i => ws[i]?) = wc.map some) {st0 : List Value} (hst : st0 = As.reverse ++ rest) (hd : decode cc pc = .ok (.invokestatic index, 3)) :
    zgRun G Z R cc k n nL ws pc L st0 rest is wc r w1 mc ms := by
  subst hst
  refine ⟨hnd, hC, fun H locs ls hP hD hS hl => ⟨As.toArray, ?_⟩⟩
  exact vx_runSW (As := As) (rest := rest) ⟨X.1, X.2.1, X.2.2.2.1, X.2.2.2.2.1, X.2.2.2.2.2.1⟩ (hM H.size) (vx_cwSW nA X.2.2.2.2.2.1 hT hw hrm.1 hrm.2 hd0 hR) ⟨zgPc_blind, zg_pre X is hnd hC hP hD hS _⟩ rfl hlen hl.1 rfl (lv_room hcat) hd hf
theorem zg_perm_th (js : List Nat) (hn : va_nd js = true) {ws' : va_W} {E : String} (h : js.map (fun i => ws[i]?) = ws'.map some) (h2 : js.filterMap (fun i => ws[i]?) = ws') (K : zgTh G Z R k n nL ws' pc L rest E) : zgTh G Z R k n nL ws pc L rest E :=
  fun H locs ls q ce hP hD hS hl => K H locs ls q ce (hP.sub js h2) (hD.sub js hn h) hS hl
/-- the script -/
theorem zg_sld (X : zgCx G Z cc own ret nL Ts) {b Ls : Nat} {xs : Nat → Int32} (hX : va_X b Ls xs (zZs Z) (zZs Z).heap) (hbl : b < (zZs Z).heap.size) (hbA : ¬ zZA Z b) {i : Int32} (hin : vp_in i Ls) (hd : decode cc pc = .ok (.iaload, 1)) (K : zgGd G Z R k n nL ws (pc + 1) L (.int (xs i.toNatClampNeg) :: rest)) : zgGd G Z R k n nL ws pc L (.int i :: .ref b :: rest) :=
  fun H locs ls hP hD hS hl => va_sld X.1 X.2.1 hX hbl hbA hS hin hd (K H locs ls hP hD hS hl)
theorem zg_slen (X : zgCx G Z cc own ret nL Ts) {b Ls : Nat} {xs : Nat → Int32} (hX : va_X b Ls xs (zZs Z) (zZs Z).heap) (hbl : b < (zZs Z).heap.size) (hbA : ¬ zZA Z b) (hd : decode cc pc = .ok (.arraylength, 1)) (K : zgGd G Z R k n nL ws (pc + 1) L (.int (nI Ls) :: rest)) : zgGd G Z R k n nL ws pc L (.ref b :: rest) :=
  fun H locs ls hP hD hS hl => va_slen X.1 X.2.1 hX hbl hbA hS hd (K H locs ls hP hD hS hl)
end ZGY
