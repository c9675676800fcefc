theorem zl_tab {w : Cond} (h : w ∈ tables_1) : w ∈ lw_tbl := List.mem_append_right _ h
abbrev zPre : Cond := Jvm.Cond.and given_1 narrow_1
theorem zn_fig : ∀ j : Nat, j < 26 → Cond.eq (.elem (.field (.string "TelexReceiver$Codes" 19) "java/lang/String" "value" "[B") (.int (Int32.ofNat j))) (.int (zgFigB.getD j 0)) ∈ flatC zPre := by decide +kernel
theorem zn_txt : ∀ q ∈ zgTexts, Cond.exactly (.string "TelexReceiver" q.1) "java/lang/String" ∈ flatC zPre := by decide +kernel
theorem zn_ref : ∀ q ∈ zgTexts, Cond.stringRef "TelexReceiver" q.1 q.2 ∈ tables_1 := by decide +kernel
theorem zn_nf : ∀ q ∈ zgNF, Cond.fieldLinkNest q.1 q.2.1 q.2.2.1 q.2.2.2.1 q.2.2.2.2.1 q.2.2.2.2.2 ∈ tables_1 := by decide +kernel
theorem zn_nm : ∀ q ∈ zgNM, Cond.methodLinkNest q.1 q.2.1 q.2.2.1 q.2.2.2 ∈ tables_1 := by decide +kernel
theorem zn_no : ∀ w ∈ zgNO, w ∈ tables_1 := by decide +kernel
theorem zn_nc : ∀ q ∈ zgNC, Cond.castable q.1 q.2 ∈ tables_1 := by decide +kernel
theorem zn_nd : ∀ q ∈ zgND, Cond.declares q ∈ tables_1 := by decide +kernel
theorem zn_u1 : ∀ w ∈ u_ws RX1 TX1 1, w ∈ tables_1 := by decide +kernel
theorem zn_u2 : ∀ w ∈ u_ws RX2 TX2 2, w ∈ tables_1 := by decide +kernel
theorem zn_u3 : ∀ w ∈ u_ws RX3 TX3 7, w ∈ tables_1 := by decide +kernel
theorem zn_u4 : ∀ w ∈ u_ws RX4 TX4 8, w ∈ tables_1 := by decide +kernel
theorem zn_u5 : ∀ w ∈ u_ws RX5 TX5 2, w ∈ tables_1 := by decide +kernel
theorem zn_u6 : ∀ w ∈ u_ws RX6 TX6 7, w ∈ tables_1 := by decide +kernel
theorem zn_u7 : ∀ w ∈ u_ws RX7 TX7 5, w ∈ tables_1 := by decide +kernel
theorem z_arrI {s : State} {args : Array Value} {ty : FieldType} (h : (Cond.arrayClass ty).before args s = true) : ∃ c : ClassId, ArrOfT s c ty ∧ s.vm.findClass ("[" ++ ty.toString) = some c := by
  obtain ⟨c, k, comp, h1, h2, h3⟩ := Cond.arrayClass_spec h
  exact ⟨c, fun n z => ⟨fun k h => (by cases h), k, h2, comp, h3⟩, h1⟩
theorem z_arrS {s : State} {args : Array Value} (h : (Cond.arrayOver (.object "TelexReceiver$Saved")).before args s = true) : ∃ c : ClassId, ArrOfT s c (.object "TelexReceiver$Saved") ∧ va_RA s c (.object "TelexReceiver$Saved") := by
  obtain ⟨comp, c, k, h1, -, h2, h3, h4⟩ := Cond.arrayOver_spec h
  exact ⟨c, fun n z => ⟨fun k h => (by cases h), k, h2, comp, h3⟩, k, comp, h2, h3, h1, h4⟩
set_option maxHeartbeats 4000000 in
theorem zg_entry {p : Program} {e : Env} {s : State} {m : MethodId} {below : List Frame} {meth : Method} {c : Code} (l : Launch) (hflags : l.flags = flags0) {b L : Nat} {xs : Nat → Int32} (C0 : lw_At p s m meth c b L xs) (fu fn fl : Nat) (hfn : fn ≤ 250) (hfl : fl ≤ 31) (r : zRow) (hr : zf_X5_fill fu 200 ((fun _ => 0), 0) 200 (-1) = some r) (hp : zf_L_law_b16 fu fn fl xs L (zTR0 r) (zTR0 r) = some 1) : W p l e room_1 s m #[Value.ref b] below meth c s.heap [] 0 0 (lw_Z below #[Value.ref b] s) (entryFrame m ([Value.ref b] : List Value).toArray 8) := by
  obtain ⟨hx, hb, hr0, hml, hown, hts, hX, hbl, hlk, hgv⟩ := C0
  have hst : l.stackTraces = false := by
    rw [show l.stackTraces = (!l.flags.contains Jvm.noTraceFlag) from rfl, hflags]
    decide +kernel
  have hq := flat_of_before zPre hgv
  have hA : ∀ a : Nat, a < s.heap.size → ¬ s.heap.size ≤ a := fun a h => by omega
  have hT : ∀ w ∈ wsL_law, w.before #[Value.ref b] s = true := fun w h => hts w (wsL_law_in w h)
  obtain ⟨c0, i0, K0⟩ := u_known (T := TX1) hts (fun w h => zl_tab (zn_u1 w h)) (hts _ (zl_tab (show Cond.instantiable RX1 1 ∈ tables_1 by decide +kernel)))
  obtain ⟨c1, i1, K1⟩ := u_known (T := TX2) hts (fun w h => zl_tab (zn_u2 w h)) (hts _ (zl_tab (show Cond.instantiable RX2 2 ∈ tables_1 by decide +kernel)))
  obtain ⟨c2, i2, K2⟩ := u_known (T := TX3) hts (fun w h => zl_tab (zn_u3 w h)) (hts _ (zl_tab (show Cond.instantiable RX3 7 ∈ tables_1 by decide +kernel)))
  obtain ⟨c3, i3, K3⟩ := u_known (T := TX4) hts (fun w h => zl_tab (zn_u4 w h)) (hts _ (zl_tab (show Cond.instantiable RX4 8 ∈ tables_1 by decide +kernel)))
  obtain ⟨c4, i4, K4⟩ := u_known (T := TX5) hts (fun w h => zl_tab (zn_u5 w h)) (hts _ (zl_tab (show Cond.instantiable RX5 2 ∈ tables_1 by decide +kernel)))
  obtain ⟨c5, i5, K5⟩ := u_known (T := TX6) hts (fun w h => zl_tab (zn_u6 w h)) (hts _ (zl_tab (show Cond.instantiable RX6 7 ∈ tables_1 by decide +kernel)))
  obtain ⟨c6, i6, K6⟩ := u_known (T := TX7) hts (fun w h => zl_tab (zn_u7 w h)) (hts _ (zl_tab (show Cond.instantiable RX7 5 ∈ tables_1 by decide +kernel)))
  obtain ⟨cI, aI1, aI2⟩ := z_arrI (hts _ (zl_tab (show Cond.arrayClass .int ∈ tables_1 by decide +kernel)))
  obtain ⟨cS, aS1, aS2⟩ := z_arrS (hts _ (zl_tab (show Cond.arrayOver (.object "TelexReceiver$Saved") ∈ tables_1 by decide +kernel)))
  obtain ⟨adK, adV, hS0, hS1⟩ := vk_Sof (args := #[Value.ref b]) (s := s) (N := 1) (tm := fun _ => (Term.string "TelexReceiver$Codes" 19)) (len := [26]) (byt := [zgFigB]) (A := fun a => s.heap.size ≤ a)
    (fun i hi => by obtain rfl : i = 0 := by omega
                    decide)
    (fun i hi => hq _ (by decide +kernel)) (fun i hi => hq _ (by decide +kernel)) (fun i hi => hq _ (by decide +kernel))
    (fun i hi => by obtain rfl : i = 0 := by omega
                    exact hq _ (by decide +kernel))
    (fun i hi j hj => by obtain rfl : i = 0 := by omega
                         exact hq _ (zn_fig j hj))
    (fun i j hi hj h => absurd (show i = j by omega) h) hA
  have hD : va_K (((fun k => [c0, c1, c2, c3, c4, c5, c6].getD k 0), (fun k => [i0, i1, i2, i3, i4, i5, i6].getD k (fun _ => 0))) : va_G) vwCl [(cI, .int), (cS, .object "TelexReceiver$Saved")] s := by
    refine ⟨fun k q hk => ?_, fun k q hk => ?_⟩
    · match k, hk with
      | 0, hk => obtain rfl := Option.some.inj (show some (RX1, TX1, 1) = some q from hk); exact K0
      | 1, hk => obtain rfl := Option.some.inj (show some (RX2, TX2, 2) = some q from hk); exact K1
      | 2, hk => obtain rfl := Option.some.inj (show some (RX3, TX3, 7) = some q from hk); exact K2
      | 3, hk => obtain rfl := Option.some.inj (show some (RX4, TX4, 8) = some q from hk); exact K3
      | 4, hk => obtain rfl := Option.some.inj (show some (RX5, TX5, 2) = some q from hk); exact K4
      | 5, hk => obtain rfl := Option.some.inj (show some (RX6, TX6, 7) = some q from hk); exact K5
      | 6, hk => obtain rfl := Option.some.inj (show some (RX7, TX7, 5) = some q from hk); exact K6
      | k + 7, hk => exact absurd hk (by simp)
    · match k, hk with
      | 0, hk => obtain rfl := Option.some.inj (show some (cI, FieldType.int) = some q from hk); exact ⟨aI1, aI2⟩
      | 1, hk => obtain rfl := Option.some.inj (show some (cS, FieldType.object "TelexReceiver$Saved") = some q from hk); exact ⟨aS1, aS2⟩
      | k + 2, hk => exact absurd hk (by simp)
  have hSS : vk_S 1 [26] [zgFigB] (fun _ => adK 0) (fun _ => adV 0) (fun a => s.heap.size ≤ a) s s.heap := by
    refine ⟨fun i hi => ?_, fun i j hi hj _ => by omega⟩
    obtain rfl : i = 0 := by omega
    exact hS0.1 0 hi
  have hE : zgEX (l, (((fun k => [c0, c1, c2, c3, c4, c5, c6].getD k 0), (fun k => [i0, i1, i2, i3, i4, i5, i6].getD k (fun _ => 0))) : va_G), cI, cS, cI, adK 0, adV 0) (fun a => s.heap.size ≤ a) s s.heap := by
    refine ⟨vk_R.of (hts _ (zl_tab (show Cond.stringRef "TelexReceiver$Codes" 19 zgFig ∈ tables_1 by decide +kernel))) (hS1 0 (by omega)), hSS,
      va_Zof (hts _ (zl_tab (show Cond.laysStatic "java/lang/String" "COMPACT_STRINGS" "Z" ∈ tables_1 by decide +kernel))) (hts _ (zl_tab (show Cond.initialized "java/lang/String" ∈ tables_1 by decide +kernel))) (va_eqt (hq _ (show Cond.eq (.static "java/lang/String" "COMPACT_STRINGS" "Z") (.int 1) ∈ flatC zPre by decide +kernel))) hA,
      va_Zqof (hts _ (zl_tab (show Cond.laysStatic "jdk/internal/util/Preconditions" "SIOOBE_FORMATTER" "Ljava/util/function/BiFunction;" ∈ tables_1 by decide +kernel))) (hts _ (zl_tab (show Cond.initialized "jdk/internal/util/Preconditions" ∈ tables_1 by decide +kernel))) (hq _ (show Cond.isRef (.static "jdk/internal/util/Preconditions" "SIOOBE_FORMATTER" "Ljava/util/function/BiFunction;") ∈ flatC zPre by decide +kernel)) hA,
      vx_Zqof (hts _ (zl_tab (show Cond.laysStatic Bundle.tN "UNASSIGNED_STACK" Bundle.steD ∈ tables_1 by decide +kernel))) (hts _ (zl_tab (show Cond.initialized Bundle.tN ∈ tables_1 by decide +kernel))) (hq _ (show Cond.isRef (.static Bundle.tN "UNASSIGNED_STACK" Bundle.steD) ∈ flatC zPre by decide +kernel)) hA,
      vx_Zqof (hts _ (zl_tab (show Cond.laysStatic Bundle.tN "SUPPRESSED_SENTINEL" Bundle.listD ∈ tables_1 by decide +kernel))) (hts _ (zl_tab (show Cond.initialized Bundle.tN ∈ tables_1 by decide +kernel))) (hq _ (show Cond.isRef (.static Bundle.tN "SUPPRESSED_SENTINEL" Bundle.listD) ∈ flatC zPre by decide +kernel)) hA,
      fun q h => ?_, va_Nc.of (hq _ (show Cond.not (.castable "java/lang/IllegalStateException" "java/lang/IllegalArgumentException") ∈ flatC zPre by decide +kernel)), va_Nc.of (hq _ (show Cond.not (.castable "java/lang/IllegalArgumentException" "java/lang/IndexOutOfBoundsException") ∈ flatC zPre by decide +kernel)),
      fun q h => va_tabs rfl rfl (hts _ (zl_tab (zn_nf q h))), fun q h => va_tabs rfl rfl (hts _ (zl_tab (zn_nm q h))), fun q h => va_tabs rfl rfl (hts _ (zl_tab (zn_nc q h))), fun q h => va_tabs rfl rfl (hts _ (zl_tab (zn_nd q h))), va_AO.of (hts _ (zl_tab (show Cond.arrayOver (.object "TelexReceiver$Saved") ∈ tables_1 by decide +kernel)))⟩
    obtain ⟨a, -, -, -, h1, -⟩ := Cond.exactly_spec (hq _ (zn_txt q h))
    exact ⟨a, vk_R.of (hts _ (zl_tab (zn_ref q h))) h1⟩
  have hn : (lg_sl [Value.ref b]).length ≤ 8 := Nat.le_of_ble_eq_true rfl
  have hl := lv_entry [Value.ref b] hn
  rw [lg_entry_eq]
  refine zc_start (l, (((fun k => [c0, c1, c2, c3, c4, c5, c6].getD k 0), (fun k => [i0, i1, i2, i3, i4, i5, i6].getD k (fun _ => 0))) : va_G), cI, cS, cI, adK 0, adV 0) hst fu fn fl hfn hfl xs L b (p, e, s, m, #[Value.ref b], below, meth, c, (fun a => s.heap.size ≤ a), lw_Z below #[Value.ref b] s)
    ⟨hx, hb, hr0, hml, hown, hT, hlk, hD, fun q h => h, hE⟩ hX hbl (hA b hbl) ?_ r hr hp s.heap [] _ (fun k q h => by simp at h) ⟨fun i j p q h => by simp at h, fun k q h => by simp at h⟩ va_S.rf hl
  intro k n pc ws L' h1 h2 hd H locs ls hP hD hS hl
  refine W.widen (Nat.le_trans h1 (show 600000 ≤ 600172 by omega)) (Nat.le_trans h2 (show 7300000 ≤ 7300668 by omega)) (va_forget (fun q hq => hS.2.2 q hq) (W.base ?_))
  exact lw_ret (Drawn.sameBut.refl s.drawn lw_cs) hx hb hr0 hlk hd
