/-! calls with one answer, Math, the figures' text -/
theorem pl_o {α : Type} {v : Int32} {K : Option α} {r : α} (hf : (if v = 0 ∨ v = 1 then K else none) = some r) : (v = 0 ∨ v = 1) ∧ K = some r := by
  by_cases h : v = 0 ∨ v = 1
  · rw [if_pos h] at hf; exact ⟨h, hf⟩
  · rw [if_neg h] at hf; cases hf
theorem pl_nz {v : Int32} (h : v = 0 ∨ v = 1) : narrow .boolean (.int v) = .int v := by
  rcases h with rfl | rfl <;> rfl
theorem pl_fz {v : Int32} (h : v = 0 ∨ v = 1) : fits .boolean (.int v) = true := by
  rcases h with rfl | rfl <;> rfl
theorem pl_ch {α : Type} {v : Int32} {K : Option α} {r : α} (hf : (if (v.toUInt32 % 65536).toInt32 = v then K else none) = some r) : (v.toUInt32 % 65536).toInt32 = v ∧ K = some r := by
  by_cases h : (v.toUInt32 % 65536).toInt32 = v
  · rw [if_pos h] at hf; exact ⟨h, hf⟩
  · rw [if_neg h] at hf; cases hf
theorem pl_nch {v : Int32} (h : (v.toUInt32 % 65536).toInt32 = v) : narrow .char (.int v) = .int v := by
  have h2 := pk_nc v
  rw [h] at h2
  exact h2
theorem pl_d {α : Type} {v : UInt64} {K : Option α} {r : α} (hf : (if v &&& 0x7fffffffffffffff ≤ 0x7ff0000000000000 then K else none) = some r) : vf_n64 v ∧ K = some r := by
  by_cases h : v &&& 0x7fffffffffffffff ≤ 0x7ff0000000000000
  · rw [if_pos h] at hf; exact ⟨h, hf⟩
  · rw [if_neg h] at hf; cases hf
theorem pl_ne {x c : Int32} {i : Int} (h : ¬ x = c) (hc : c.toInt = i) : x.toInt ≠ i := fun e => h (Int32.toInt_inj.mp (e.trans hc.symm))
section ZGE
variable {G : zgG} {Z : zgZ} {R : Room} {cc : ByteArray} {own : String} {ret : Option FieldType} {nL : Nat} {Ts : List Cond} {k n : Nat} {ws : va_W} {pc : Nat} {L : List (Nat × Value)} {rest : List Value}
theorem zg_topi {x y : Int32} (h : y = x) (K : zgGd G Z R k n nL ws pc L (.int y :: rest)) : zgGd G Z R k n nL ws pc L (.int x :: rest) := by subst h; exact K
theorem zg_topl {x y : Int64} (h : y = x) (K : zgGd G Z R k n nL ws pc L (.long y :: rest)) : zgGd G Z R k n nL ws pc L (.long x :: rest) := by subst h; exact K
theorem zg_topd {x y : UInt64} (h : y = x) (K : zgGd G Z R k n nL ws pc L (.double y :: rest)) : zgGd G Z R k n nL ws pc L (.double x :: rest) := by subst h; exact K
theorem zg_dconst1 (X : zgCx G Z cc own ret nL Ts) (hd : decode cc pc = .ok (.dconst 1, 1)) (K : zgGd G Z R k n nL ws (pc + 1) L (.double FP.dconst1 :: rest)) : zgGd G Z R k n nL ws pc L rest :=
  fun H locs ls hP hD hS hl => lv_dconst1 X.1 X.2.1 hd (K H locs ls hP hD hS hl)
theorem zg_cP1 (X : zgCx G Z cc own ret nL Ts) {is : List Nat} {wc w1 : va_W} {v : Value} {st0 : List Value} (hr : zgRun G Z R cc k n nL ws pc L st0 rest is wc (fun _ : Unit => some v) (fun _ => w1) 0 0) (hw : w1 = wc) (K : zgGd G Z R k n nL ws (pc + 3) L (v :: rest)) : zgGd G Z R k n nL ws pc L st0 :=
  zg_callP X hr (fun _ => hw) (fun _ => K)
theorem zg_cU1 (X : zgCx G Z cc own ret nL Ts) {is : List Nat} {wc w1 ws2 : va_W} {v : Value} {st0 : List Value} (hr : zgRun G Z R cc k n nL ws pc L st0 rest is wc (fun _ : Unit => some v) (fun _ => w1) 0 0) (hA : w1.map Prod.fst = wc.map Prod.fst) (hw : zgput ws is w1 = ws2) (K : zgGd G Z R k n nL ws2 (pc + 3) L (v :: rest)) : zgGd G Z R k n nL ws pc L st0 :=
  zg_callU (ws2 := fun _ => ws2) X hr (fun _ => hA) (fun _ => hw) (fun _ => K)
theorem zg_cU0 (X : zgCx G Z cc own ret nL Ts) {is : List Nat} {wc w1 ws2 : va_W} {st0 : List Value} (hr : zgRun G Z R cc k n nL ws pc L st0 rest is wc (fun _ : Unit => none) (fun _ => w1) 0 0) (hA : w1.map Prod.fst = wc.map Prod.fst) (hw : zgput ws is w1 = ws2) (K : zgGd G Z R k n nL ws2 (pc + 3) L rest) : zgGd G Z R k n nL ws pc L st0 :=
  zg_callU (ws2 := fun _ => ws2) X hr (fun _ => hA) (fun _ => hw) (fun _ => K)
theorem zg_cP0 (X : zgCx G Z cc own ret nL Ts) {is : List Nat} {wc w1 : va_W} {st0 : List Value} (hr : zgRun G Z R cc k n nL ws pc L st0 rest is wc (fun _ : Unit => none) (fun _ => w1) 0 0) (hw : w1 = wc) (K : zgGd G Z R k n nL ws (pc + 3) L rest) : zgGd G Z R k n nL ws pc L st0 :=
  zg_callP X hr (fun _ => hw) (fun _ => K)
theorem zg_mmax (X : zgCx G Z cc own ret nL Ts) {index : Nat} {x y : Int32} (hlink : Cond.methodLink own index Lib.Math.max.name ∈ Ts) (hst : Cond.static Lib.Math.max.name ∈ Ts) (hini : Cond.initialized "java/lang/Math" ∈ Ts) (hcode : Cond.code Lib.Math.max.name Lib.Math.max.code 2 (some .int) ∈ Ts) (hfr : 1 ≤ R.frames) (hlo : (rest.map fun v => v.category).sum + 13 ≤ R.locals) (hc : k ≤ R.cells) (hs : n ≤ R.slots) (hd : decode cc pc = .ok (.invokestatic index, 3)) (K : zgGd G Z R k n nL ws (pc + 3) L (.int (if x < y then y else x) :: rest)) : zgGd G Z R k n nL ws pc L (.int y :: .int x :: rest) :=
  fun H locs ls hP hD hS hl => va_mmax X.1 X.2.1 (X.2.2.2.1.trans hl.1.symm) X.2.2.2.2.1 (X.2.2.2.2.2.1 _ hlink) (X.2.2.2.2.2.1 _ hst) (X.2.2.2.2.2.1 _ hini) (X.2.2.2.2.2.1 _ hcode) hfr hlo hc hs hd (K H locs ls hP hD hS hl)
theorem zg_mmin (X : zgCx G Z cc own ret nL Ts) {index : Nat} {x y : Int32} (hlink : Cond.methodLink own index Lib.Math.min.name ∈ Ts) (hst : Cond.static Lib.Math.min.name ∈ Ts) (hini : Cond.initialized "java/lang/Math" ∈ Ts) (hcode : Cond.code Lib.Math.min.name Lib.Math.min.code 2 (some .int) ∈ Ts) (hfr : 1 ≤ R.frames) (hlo : (rest.map fun v => v.category).sum + 13 ≤ R.locals) (hc : k ≤ R.cells) (hs : n ≤ R.slots) (hd : decode cc pc = .ok (.invokestatic index, 3)) (K : zgGd G Z R k n nL ws (pc + 3) L (.int (if y < x then y else x) :: rest)) : zgGd G Z R k n nL ws pc L (.int y :: .int x :: rest) :=
  fun H locs ls hP hD hS hl => va_mmin X.1 X.2.1 (X.2.2.2.1.trans hl.1.symm) X.2.2.2.2.1 (X.2.2.2.2.2.1 _ hlink) (X.2.2.2.2.2.1 _ hst) (X.2.2.2.2.2.1 _ hini) (X.2.2.2.2.2.1 _ hcode) hfr hlo hc hs hd (K H locs ls hP hD hS hl)
theorem zg_ldcK (X : zgCx G Z cc "TelexReceiver$Codes" ret nL Ts) (hd : decode cc pc = .ok (.ldc 19, 2)) (K : zgGd G Z R k n nL ws (pc + 2) L (.ref G.2.2.2.2.2.1 :: rest)) : zgGd G Z R k n nL ws pc L rest :=
  fun H locs ls hP hD hS hl => va_ldcS X.1 X.2.1 X.2.2.2.2.1 X.2.2.2.2.2.2.2.2.2.1 hd (K H locs ls hP hD hS hl)
theorem zg_kval (X : zgCx G Z cc own ret nL Ts) {index : Nat} (hlink : Cond.fieldLink own index "java/lang/String" "value" "[B" ∈ Ts) (hd : decode cc pc = .ok (.getfield index, 3)) (K : zgGd G Z R k n nL ws (pc + 3) L (.ref G.2.2.2.2.2.2 :: rest)) : zgGd G Z R k n nL ws pc L (.ref G.2.2.2.2.2.1 :: rest) :=
  fun H locs ls hP hD hS hl => vk_getf X.1 X.2.1 (X.2.2.2.2.2.2.2.2.2.2.1.1 0 Nat.zero_lt_one).2.2.1 hS X.2.2.2.2.1 (X.2.2.2.2.2.1 _ hlink) (fun _ h => h) hd (K H locs ls hP hD hS hl)
theorem zg_kcod (X : zgCx G Z cc own ret nL Ts) {index : Nat} (hlink : Cond.fieldLink own index "java/lang/String" "coder" "B" ∈ Ts) (hd : decode cc pc = .ok (.getfield index, 3)) (K : zgGd G Z R k n nL ws (pc + 3) L (.int 0 :: rest)) : zgGd G Z R k n nL ws pc L (.ref G.2.2.2.2.2.1 :: rest) :=
  fun H locs ls hP hD hS hl => vk_getf X.1 X.2.1 (X.2.2.2.2.2.2.2.2.2.2.1.1 0 Nat.zero_lt_one).2.1 hS X.2.2.2.2.1 (X.2.2.2.2.2.1 _ hlink) (fun _ h => h) hd (K H locs ls hP hD hS hl)
theorem zg_kcs (X : zgCx G Z cc own ret nL Ts) {index : Nat} (hlink : Cond.fieldLink own index "java/lang/String" "COMPACT_STRINGS" "Z" ∈ Ts) (hd : decode cc pc = .ok (.getstatic index, 3)) (K : zgGd G Z R k n nL ws (pc + 3) L (.int 1 :: rest)) : zgGd G Z R k n nL ws pc L rest :=
  fun H locs ls hP hD hS hl => va_gets X.1 X.2.1 X.2.2.2.2.2.2.2.2.2.2.2.1 hS X.2.2.2.2.1 (X.2.2.2.2.2.1 _ hlink) (fun _ h => h) hd (K H locs ls hP hD hS hl)
theorem zg_kfm (X : zgCx G Z cc own ret nL Ts) {index : Nat} (hlink : Cond.fieldLink own index "jdk/internal/util/Preconditions" "SIOOBE_FORMATTER" "Ljava/util/function/BiFunction;" ∈ Ts) (hd : decode cc pc = .ok (.getstatic index, 3)) (K : ∀ v : Value, (v = .null ∨ ∃ a, v = .ref a) → zgGd G Z R k n nL ws (pc + 3) L (v :: rest)) : zgGd G Z R k n nL ws pc L rest := by
  intro H locs ls hP hD hS hl
  rcases X.2.2.2.2.2.2.2.2.2.2.2.2.1 with h | ⟨t, h⟩
  · exact va_gets X.1 X.2.1 h hS X.2.2.2.2.1 (X.2.2.2.2.2.1 _ hlink) (fun _ h => h) hd (K _ (Or.inl rfl) H locs ls hP hD hS hl)
  · exact va_gets X.1 X.2.1 h hS X.2.2.2.2.1 (X.2.2.2.2.2.1 _ hlink) (fun _ h => h) hd (K _ (Or.inr ⟨_, rfl⟩) H locs ls hP hD hS hl)
theorem zg_klen (X : zgCx G Z cc own ret nL Ts) (hd : decode cc pc = .ok (.arraylength, 1)) (K : zgGd G Z R k n nL ws (pc + 1) L (.int 26 :: rest)) : zgGd G Z R k n nL ws pc L (.ref G.2.2.2.2.2.2 :: rest) :=
  fun H locs ls hP hD hS hl => va_tlen X.1 X.2.1 (X.2.2.2.2.2.2.2.2.2.2.1.1 0 Nat.zero_lt_one).2.2.2 hS rfl hd (K H locs ls hP hD hS hl)
theorem zg_kbald (X : zgCx G Z cc own ret nL Ts) {i : Int32} (hin : vp_in i 26) (hd : decode cc pc = .ok (.baload, 1)) (K : zgGd G Z R k n nL ws (pc + 1) L (.int (zgFigB.getD i.toNatClampNeg 0) :: rest)) : zgGd G Z R k n nL ws pc L (.int i :: .ref G.2.2.2.2.2.2 :: rest) :=
  fun H locs ls hP hD hS hl => va_tb X.1 X.2.1 (X.2.2.2.2.2.2.2.2.2.2.1.1 0 Nat.zero_lt_one).2.2.2 hS hin rfl hd (K H locs ls hP hD hS hl)
theorem zg_runVK (X : zgCx G Z cc own ret nL Ts) {σ : Type} {y : MethodName} {wy wy' : List Cond} {rm : Room} {As : List Value} {wc : va_W} {r : σ → Option Value} {w1 : σ → va_W} {mc ms maxL index nA : Nat} {bytes : ByteArray} {rt : Option FieldType}
    (hM : zgCt G y wy rm (.ref G.2.2.2.2.2.1 :: As) wc r w1 mc ms) (hT : GoodIn Ts (wsV own index "java/lang/String" y wy)) (hw : wy = Cond.code y bytes maxL rt :: wy') (hd0 : y.cls = "java/lang/String" ∧ y.cls ≠ "java/lang/invoke/MethodHandle" ∧ y.cls ≠ "java/lang/invoke/VarHandle" ∧ (parseMethodDescriptor y.desc).map (fun d => d.parameters.length) = some nA) (hrm : rm.cells = mc ∧ rm.slots = ms)
    (hR : rm.frames + 1 ≤ R.frames ∧ 8 + (maxL + 11) + rm.locals ≤ R.locals) (hlen : As.length = nA) (hcat : (rest.map fun v => v.category).sum ≤ 8) (hf : k + mc ≤ R.cells ∧ n + ms ≤ R.slots) (is : List Nat) (hnd : va_nd is = true) (hC : is.map (fun i => ws[i]?) = wc.map some) {st0 : List Value} (hst : st0 = As.reverse ++ .ref G.2.2.2.2.2.1 :: rest) (hd : decode cc pc = .ok (.invokevirtual index, 3)) :
    zgRun G Z R cc k n nL ws pc L st0 rest is wc r w1 mc ms := by
  subst hst
  refine ⟨hnd, hC, fun H locs ls hP hD hS hl => ⟨(Value.ref G.2.2.2.2.2.1 :: As).toArray, ?_⟩⟩
  exact va_runV (b := G.2.2.2.2.2.1) (As := As) (rest := rest) ⟨X.1, X.2.1, X.2.2.2.1, X.2.2.2.2.1, X.2.2.2.2.2.1⟩ (hM H.size) (cwV nA X.2.2.2.2.2.1 hT hw hrm.1 hrm.2 hd0 hR) ⟨zgPc_blind, vk_recv X.2.2.2.2.2.2.2.2.2.2.1 Nat.zero_lt_one hS, zg_pre X is hnd hC hP hD hS _⟩ rfl hlen hl.1 rfl (lv_room hcat) hd hf
end ZGE
abbrev zRow : Type := (Nat → Int32) × Int32
abbrev zLine : Type := zRow × zRow × zRow × zRow × zRow × Int32 × Int32
abbrev zPrinter : Type := zRow × zRow × zRow × zRow × zRow × Int32 × Int32 × Int32
abbrev zSaved : Type := zRow × zRow × Int32 × Int32 × Int32 × Int32 × Int32
theorem zg_ofI {G : zgG} {σ : Type} {y : MethodName} {ws ws' : List Cond} {rm : Room} {as : List Value} {w0 : va_W} {r : σ → Option Value} {w1 : σ → va_W} {mc ms : Nat} {cc : ByteArray} {nL : Nat} {ret : Option FieldType} {own : String}
    (hy : plainName y.cls = true) (hown : y.cls = own) (hyn : y.name = "<init>") (hw : ws = Cond.code y cc nL ret :: ws') (hn : (lg_sl as).length ≤ nL)
    (body : ∀ Z : zgZ, zgCx G Z cc own ret nL ws → (zZt Z).name = "<init>" → zgFin G Z r w0 w1 mc ms → zgGd G Z rm 0 0 nL w0 0 (lv_args 0 as) []) : zgCt G y ws rm as w0 r w1 mc ms := by
  subst hown
  intro sz
  refine Met.ofW hy hw ?_
  intro p e s m args below meth c s₁ B hml hv
  obtain ⟨rfl, hsz, hP, hK, hD0, hE⟩ := hv
  subst hsz
  have hD := hD0.self (sz := s.heap.size)
  have hl := lv_entry as hn
  rw [lg_entry_eq]
  have hown : s.vm.findClass y.cls = some m.cls := findClass_of_methodNamed B.named
  have hini : meth.name = "<init>" := (name_of_methodNamed B.named B.method).1.trans hyn
  exact body (p, e, s, m, as.toArray, below, meth, c, va_A w0 s.heap.size, MQ below (zgQc G r w0 w1 s.heap.size) as.toArray s mc ms (va_A w0 s.heap.size)) ⟨B.exec, B.bytes, B.returns, hml, hown, atoms_spec (ws := ws) B.pre, B.notSynchronized, hK, fun q h => Or.inr h, hE⟩ hini ⟨rfl, rfl⟩ s.heap [] _ hP hD va_S.rf hl
/-- the row of the saved states' references -/
def zSt (l : List Nat) : Nat → Option Nat := fun i => l[i]?
theorem zSt_up (l : List Nat) (i a : Nat) (h : i < l.length) : va_up (zSt l) i (some a) = zSt (l.set i a) := by
  funext j
  show (if j = i then some a else l[j]?) = (l.set i a)[j]?
  by_cases hj : j = i
  · subst hj
    rw [if_pos rfl, List.getElem?_set_self h]
  · rw [if_neg hj, List.getElem?_set_ne (Ne.symm hj)]
theorem zSt_6 (a b c d e f : Nat) : va_up (va_up (va_up (va_up (va_up (va_up (fun _ => none) 0 (some a)) 1 (some b)) 2 (some c)) 3 (some d)) 4 (some e)) 5 (some f) = zSt [a, b, c, d, e, f] := by
  funext j
  match j with
  | 0 => rfl
  | 1 => rfl
  | 2 => rfl
  | 3 => rfl
  | 4 => rfl
  | 5 => rfl
  | j + 6 => rfl
theorem pl_sw {x : Int32} (lo : Int) (n : Nat) (h : ∀ k : Nat, k < n → x.toInt ≠ lo + (k : Int)) : x.toInt < lo ∨ lo + (n : Int) - 1 < x.toInt := by
  by_cases h1 : x.toInt < lo
  · exact Or.inl h1
  · by_cases h2 : lo + (n : Int) - 1 < x.toInt
    · exact Or.inr h2
    · exact absurd (show x.toInt = lo + (((x.toInt - lo).toNat : Nat) : Int) by omega) (h (x.toInt - lo).toNat (by omega))
abbrev zHist : Type := (Nat → zSaved) × Int32
abbrev zTR : Type := zRow × zLine × zRow × zPrinter × zHist
def zxo (l : List String) (k : Int32) : Option String := if k = 0 then none else if k = 1 then some (l.getD 0 "") else some (l.getD 1 (l.getD 0 ""))
theorem zxo_n {l : List String} {k : Int32} (h : zxo l k = none) : k = 0 := by
  unfold zxo at h
  by_cases h0 : k = 0
  · exact h0
  · rw [if_neg h0] at h
    by_cases h1 : k = 1
    · rw [if_pos h1] at h; cases h
    · rw [if_neg h1] at h; cases h
theorem zxo_1 {A E : String} {k : Int32} (h : zxo [A] k = some E) : ¬ k = 0 ∧ E = A := by
  unfold zxo at h
  by_cases h0 : k = 0
  · rw [if_pos h0] at h; cases h
  · rw [if_neg h0] at h
    refine ⟨h0, ?_⟩
    by_cases h1 : k = 1
    · rw [if_pos h1] at h; exact (Option.some.inj h).symm
    · rw [if_neg h1] at h; exact (Option.some.inj h).symm
theorem zxo_2 {A B E : String} {k : Int32} (h : zxo [A, B] k = some E) : (k = 1 ∧ E = A) ∨ (¬ k = 0 ∧ ¬ k = 1 ∧ E = B) := by
  unfold zxo at h
  by_cases h0 : k = 0
  · rw [if_pos h0] at h; cases h
  · rw [if_neg h0] at h
    by_cases h1 : k = 1
    · rw [if_pos h1] at h; exact Or.inl ⟨h1, (Option.some.inj h).symm⟩
    · rw [if_neg h1] at h; exact Or.inr ⟨h0, h1, (Option.some.inj h).symm⟩
theorem pl_k {α : Type} {c : Prop} [Decidable c] {A : Option α} {r : α} (hf : (if c then A else none) = some r) : c ∧ A = some r := by
  by_cases h : c
  · rw [if_pos h] at hf; exact ⟨h, hf⟩
  · rw [if_neg h] at hf; cases hf
def zhb (c : Int32) (hb : Nat → Nat) : Nat → Nat := if c = 6 then (fun i => if i < 25 then hb (i + 5) else hb (i - 25)) else hb
def zhx (k c : Int32) (hb : Nat → Nat) : Nat → Nat := if k = 0 then zhb c hb else hb
