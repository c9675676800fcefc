/-! the script, read by a method of the law's own -/
def zf_L_cell (xs : Nat → Int32) (Ls : Nat) (a1 : Int32) : Option Int32 := if nI Ls ≤ a1 then some (((52361 : Int32) * (a1 + 3) + 19) &&& 2147483647) else if a1 < 0 ∨ Ls ≤ a1.toNatClampNeg then none else some (xs a1.toNatClampNeg &&& 2147483647)
def zgPs (G : zgG) (sb Ls : Nat) (xs : Nat → Int32) (as : List Value) (sz : Nat) : Array Value → State → Prop := fun a U => zgPc G as [] sz a U ∧ va_X sb Ls xs U U.heap ∧ sb < sz
theorem zgPs_blind {G : zgG} {sb Ls : Nat} {xs : Nat → Int32} {as : List Value} {sz : Nat} : FrameBlind (zgPs G sb Ls xs as sz) := by
  intro a U g mk q
  exact ⟨zgPc_blind a U g mk q.1, va_X.moved (u := U) (U := U.calling g mk a) (Vm.Alike.refl U.vm) q.2.1, q.2.2⟩
theorem zg_ofS {G : zgG} {y : MethodName} {ws ws' : List Cond} {rm : Room} {as : List Value} {r : Unit → Option Value} {mc ms : Nat} {cc : ByteArray} {nL : Nat} {ret : Option FieldType} {own : String} {sb Ls : Nat} {xs : Nat → Int32}
    (hy : plainName y.cls = true) (hown : y.cls = own) (hw : ws = Cond.code y cc nL ret :: ws') (hn : (lg_sl as).length ≤ nL)
    (body : ∀ Z : zgZ, zgCx G Z cc own ret nL ws → va_X sb Ls xs (zZs Z) (zZs Z).heap → sb < (zZs Z).heap.size → ¬ zZA Z sb → zgFin G Z r [] (fun _ => []) mc ms → zgGd G Z rm 0 0 nL [] 0 (lv_args 0 as) []) : ∀ sz : Nat, Met G.1 y ws rm (zgPs G sb Ls xs as sz) (zgQc G r [] (fun _ : Unit => []) sz) mc ms (va_A [] sz) := by
  subst hown
  intro sz
  refine Met.ofW hy hw ?_
  intro p e s m args below meth c s₁ B hml hv
  obtain ⟨⟨rfl, hsz, hP, hK, hD0, hE⟩, hX, hbl⟩ := hv
  subst hsz
  have hD := hD0.self (sz := s.heap.size)
  have hl := lv_entry as hn
  rw [lg_entry_eq]
  have hown : s.vm.findClass y.cls = some m.cls := findClass_of_methodNamed B.named
  have hbA : ¬ va_A [] s.heap.size sb := fun h => h.elim (fun ⟨_, _, h⟩ => by simp at h) (fun h => by omega)
  exact body (p, e, s, m, as.toArray, below, meth, c, va_A [] s.heap.size, MQ below (zgQc G r [] (fun _ : Unit => []) s.heap.size) as.toArray s mc ms (va_A [] s.heap.size)) ⟨B.exec, B.bytes, B.returns, hml, hown, atoms_spec (ws := ws) B.pre, B.notSynchronized, hK, fun q h => Or.inr h, hE⟩ hX hbl hbA ⟨rfl, rfl⟩ s.heap [] _ hP hD va_S.rf hl
theorem zh_L_cell : yL_cell.cls ≠ "java/lang/invoke/MethodHandle" ∧ yL_cell.cls ≠ "java/lang/invoke/VarHandle" ∧ (parseMethodDescriptor yL_cell.desc).map (fun d => d.parameters.length) = some 2 := by decide +kernel
theorem zc_L_cell (G : zgG) (sb Ls : Nat) (xs : Nat → Int32) (a1 res : Int32) (hf : zf_L_cell xs Ls a1 = some res) : ∀ sz : Nat, Met G.1 yL_cell wsL_cell ({ frames := 0, cells := 0, slots := 0, locals := 0 } : Room) (zgPs G sb Ls xs [.ref sb, .int a1] sz) (zgQc G (fun _ : Unit => some (.int res)) [] (fun _ : Unit => []) sz) 0 0 (va_A [] sz) := by
  have hw7 : Cond.constant RL 7 52361 ∈ wsL_cell := by decide +kernel
  have hw8 : Cond.constant RL 8 2147483647 ∈ wsL_cell := by decide +kernel
  refine zg_ofS (own := RL) (cc := cL_cell) (nL := 2) (ret := (some .int)) (by decide +kernel) rfl rfl (Nat.le_of_ble_eq_true rfl) (fun Z X hX hbl hbA hF => ?_)
  show zgGd G Z ({ frames := 0, cells := 0, slots := 0, locals := 0 } : Room) 0 0 2 [] 0 [(0, .ref sb), (1, .int a1)] []
  have hB21 : ∀ z : Int32, z &&& 2147483647 = res → zgGd G Z ({ frames := 0, cells := 0, slots := 0, locals := 0 } : Room) 0 0 2 [] 21 [(0, .ref sb), (1, .int a1)] [.int z] := by
    intro z hz
    refine zg_ldcI (v := 2147483647) X dL_cell_21 hw8 ?_
    refine zg_iand X dL_cell_23 ?_
    subst hz
    exact zg_iret X hF rfl rfl () rfl rfl (Nat.le_of_ble_eq_true rfl) (Nat.le_of_ble_eq_true rfl) dL_cell_24
  unfold zf_L_cell at hf
  refine zg_iload_n X dL_cell_0 rfl 1 rfl ?_
  refine zg_aload_n X dL_cell_1 rfl 0 rfl ?_
  refine zg_slen X hX hbl hbA dL_cell_2 ?_
  refine zg_icmp_ge (tgt := 12) X dL_cell_3 (by decide) (fun c => ?_) (fun c => ?_)
  · have hf := pl_t c hf
    refine zg_ldcI (v := 52361) X dL_cell_12 hw7 ?_
    refine zg_iload_n X dL_cell_14 rfl 1 rfl ?_
    refine zg_iconst (v := 3) X dL_cell_15 (by decide) ?_
    refine zg_iadd X dL_cell_16 ?_
    refine zg_imul X dL_cell_17 ?_
    refine zg_bipush (v := 19) X dL_cell_18 (by decide) ?_
    refine zg_iadd X dL_cell_20 ?_
    exact hB21 _ (Option.some.inj hf)
  · have hf := pl_f c hf
    obtain ⟨hin, hf⟩ := pl_in hf
    refine zg_aload_n X dL_cell_6 rfl 0 rfl ?_
    refine zg_iload_n X dL_cell_7 rfl 1 rfl ?_
    refine zg_sld X hX hbl hbA hin dL_cell_8 ?_
    refine zg_goto (tgt := 21) X dL_cell_9 (by decide) ?_
    exact hB21 _ (Option.some.inj hf)
theorem zg_cell {G : zgG} {Z : zgZ} {R : Room} {cc : ByteArray} {ret : Option FieldType} {nL : Nat} {Ts : List Cond} {k n : Nat} {pc : Nat} {L : List (Nat × Value)} {rest : List Value} {ws : va_W} {sb Ls : Nat} {xs : Nat → Int32} (X : zgCx G Z cc RL ret nL Ts) (hX : va_X sb Ls xs (zZs Z) (zZs Z).heap) (hbl : sb < (zZs Z).heap.size) (hbA : ¬ zZA Z sb) {a1 res : Int32} (hc : zf_L_cell xs Ls a1 = some res) {index : Nat} (hT : GoodIn Ts (va_wsS RL index yL_cell wsL_cell))
    (hRf : 0 + 1 ≤ R.frames) (hRl : 8 + (2 + 11) + 0 ≤ R.locals) (hcat : (rest.map fun v => v.category).sum ≤ 8) (h1 : k + 0 ≤ R.cells) (h2 : n + 0 ≤ R.slots) (hd : decode cc pc = .ok (.invokestatic index, 3)) (K : zgGd G Z R k n nL ws (pc + 3) L (.int res :: rest)) : zgGd G Z R k n nL ws pc L (.int a1 :: .ref sb :: rest) := by
  have ok : ∀ w ∈ va_wsS RL index yL_cell wsL_cell, w.before (zZa Z) (zZs Z) = true := fun w h => X.2.2.2.2.2.1 w (hT w h).1
  refine zg_cP1 X (is := []) (wc := []) (w1 := []) ⟨rfl, rfl, fun H locs ls hP hD hS hl => ⟨#[.ref sb, .int a1], ?_⟩⟩ rfl K
  exact va_runS (As := [.ref sb, .int a1]) (rest := rest) ⟨X.1, X.2.1, X.2.2.2.1, X.2.2.2.2.1, X.2.2.2.2.2.1⟩ (zc_L_cell G sb Ls xs a1 res hc H.size) ⟨callB_of 2 X.2.2.2.2.2.1 (fun w h => hT w (by unfold va_wsS; exact List.mem_append_right _ h)) rfl rfl rfl (ok _ (by simp [va_wsS])) (ok _ (by simp [va_wsS])) zh_L_cell ⟨hRf, hRl⟩, ok _ (by simp [va_wsS])⟩ ⟨zgPs_blind, fun U hU hW => ⟨zg_pre X (wc := []) [] rfl rfl hP hD hS _ U hU hW, by rw [hU]; exact va_X.moved hW.alike (hX.kept (hS.2.1 sb hbl hbA)), Nat.lt_of_lt_of_le hbl hS.1⟩⟩ rfl rfl hl.1 rfl (lv_room hcat) hd ⟨h1, h2⟩
