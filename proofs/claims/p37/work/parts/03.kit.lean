/-! The walk's own words: one judgement that carries the world, the locals and the frame. -/
section ZGA
abbrev zgG : Type := Launch × va_G × ClassId × ClassId × ClassId × Nat × Nat
abbrev zgTys (G : zgG) : List (ClassId × FieldType) := [(G.2.2.1, .int), (G.2.2.2.1, .object "TelexReceiver$Saved")]
def zgFig : String := "1234567890.,:;?!'()/-+=&%\""
def zgFigB : List Int32 := [49, 50, 51, 52, 53, 54, 55, 56, 57, 48, 46, 44, 58, 59, 63, 33, 39, 40, 41, 47, 45, 43, 61, 38, 37, 34]
def zgTexts : List (Nat × String) := [(54, "not a character of the telex"), (65, "the buffer is full"), (78, "the buffer is empty"), (86, "more codes than can be sent in all"), (111, "no such index of a code"), (114, "no such fault"), (129, "no such code was sent"), (131, "no such code was received"), (148, "the buffer is not a word"), (159, "the dictionary is full"), (161, "no such word to forget"), (169, "no such word"), (171, "no word is so long"), (184, "no such character is printed"), (192, "no such segment"), (218, "no such place among the received codes"), (220, "the code is no shift"), (244, "no state is saved")]
/-- links to private members of nest mates: own class, place, class, name, descriptor, host -/
def zgNF : List (String × Nat × String × String × String × String) := [("TelexReceiver", 102, "TelexReceiver$Line", "faultRow", "LTelexReceiver$Row;", "TelexReceiver"), ("TelexReceiver", 123, "TelexReceiver$Line", "sentRow", "LTelexReceiver$Row;", "TelexReceiver"), ("TelexReceiver", 126, "TelexReceiver$Line", "receivedRow", "LTelexReceiver$Row;", "TelexReceiver"), ("TelexReceiver", 133, "TelexReceiver$Line", "shift", "I", "TelexReceiver"), ("TelexReceiver", 140, "TelexReceiver$Line", "unshifts", "Z", "TelexReceiver"), ("TelexReceiver", 150, "TelexReceiver$Dictionary", "wordRow", "LTelexReceiver$Row;", "TelexReceiver"), ("TelexReceiver", 180, "TelexReceiver$Printer", "wordRow", "LTelexReceiver$Row;", "TelexReceiver"), ("TelexReceiver", 181, "TelexReceiver$Printer", "printedRow", "LTelexReceiver$Row;", "TelexReceiver"), ("TelexReceiver", 186, "TelexReceiver$Printer", "kindRow", "LTelexReceiver$Row;", "TelexReceiver"), ("TelexReceiver", 189, "TelexReceiver$Printer", "lengthRow", "LTelexReceiver$Row;", "TelexReceiver"), ("TelexReceiver", 194, "TelexReceiver$Printer", "bellCount", "I", "TelexReceiver"), ("TelexReceiver", 197, "TelexReceiver$Printer", "questionCount", "I", "TelexReceiver"), ("TelexReceiver", 200, "TelexReceiver$Printer", "shift", "I", "TelexReceiver"), ("TelexReceiver", 201, "TelexReceiver$Line", "characterRow", "LTelexReceiver$Row;", "TelexReceiver"), ("TelexReceiver", 225, "TelexReceiver$Printer", "startRow", "LTelexReceiver$Row;", "TelexReceiver"), ("TelexReceiver", 242, "TelexReceiver$History", "count", "I", "TelexReceiver"), ("TelexReceiver$Printer", 39, "TelexReceiver$Line", "receivedRow", "LTelexReceiver$Row;", "TelexReceiver"), ("TelexReceiver$Printer", 62, "TelexReceiver$Line", "unshifts", "Z", "TelexReceiver"), ("TelexReceiver$Saved", 23, "TelexReceiver$Line", "faultRow", "LTelexReceiver$Row;", "TelexReceiver"), ("TelexReceiver$Saved", 30, "TelexReceiver$Dictionary", "wordRow", "LTelexReceiver$Row;", "TelexReceiver"), ("TelexReceiver$Saved", 33, "TelexReceiver$Line", "characterRow", "LTelexReceiver$Row;", "TelexReceiver"), ("TelexReceiver$Saved", 44, "TelexReceiver$Line", "sentRow", "LTelexReceiver$Row;", "TelexReceiver"), ("TelexReceiver$Saved", 50, "TelexReceiver$Line", "receivedRow", "LTelexReceiver$Row;", "TelexReceiver"), ("TelexReceiver$Saved", 56, "TelexReceiver$Line", "shift", "I", "TelexReceiver"), ("TelexReceiver$Saved", 60, "TelexReceiver$Line", "unshifts", "Z", "TelexReceiver")]
def zgNM : List (String × Nat × MethodName × String) := [("TelexReceiver", 27, yX1_init, "TelexReceiver"), ("TelexReceiver", 34, yX4_init, "TelexReceiver"), ("TelexReceiver$History", 17, yX6_init, "TelexReceiver")]
def zgNC : List (String × String) := [("java/lang/IllegalArgumentException", "java/lang/IllegalArgumentException"), ("java/lang/IllegalStateException", "java/lang/IllegalStateException"), ("java/lang/IndexOutOfBoundsException", "java/lang/IndexOutOfBoundsException")]
def zgND : List MethodName := [Bundle.initS "java/lang/RuntimeException", Bundle.initS "java/lang/Exception", Bundle.initS Bundle.tN]
def zgNO : List Cond := zgNC.map (fun q => Cond.castable q.1 q.2) ++ zgND.map (fun q => Cond.declares q)
/-- what lies outside every world: the figures' text, the statics that the walk reads, the texts of the throws -/
def zgEX (G : zgG) (A : Nat → Prop) (U : State) (H : Heap) : Prop :=
  vk_R "TelexReceiver$Codes" 19 zgFig G.2.2.2.2.2.1 U ∧
  vk_S 1 [26] [zgFigB] (fun _ => G.2.2.2.2.2.1) (fun _ => G.2.2.2.2.2.2) A U H ∧
  va_Z "java/lang/String" "COMPACT_STRINGS" "Z" (.int 1) A U H ∧
  va_Zq "jdk/internal/util/Preconditions" "SIOOBE_FORMATTER" "Ljava/util/function/BiFunction;" A U H ∧
  vx_Zq Bundle.tN "UNASSIGNED_STACK" Bundle.steD A U H ∧
  vx_Zq Bundle.tN "SUPPRESSED_SENTINEL" Bundle.listD A U H ∧
  (∀ q ∈ zgTexts, ∃ a : Nat, vk_R "TelexReceiver" q.1 q.2 a U) ∧
  va_Nc "java/lang/IllegalStateException" "java/lang/IllegalArgumentException" U ∧ va_Nc "java/lang/IllegalArgumentException" "java/lang/IndexOutOfBoundsException" U ∧
  (∀ q ∈ zgNF, va_Nw (.fieldLinkNest q.1 q.2.1 q.2.2.1 q.2.2.2.1 q.2.2.2.2.1 q.2.2.2.2.2) U) ∧ (∀ q ∈ zgNM, va_Nw (.methodLinkNest q.1 q.2.1 q.2.2.1 q.2.2.2) U) ∧ (∀ q ∈ zgNC, va_Nw (.castable q.1 q.2) U) ∧ (∀ q ∈ zgND, va_Nw (.declares q) U) ∧ va_AO "TelexReceiver$Saved" U
theorem zgEX.kept {G : zgG} {A : Nat → Prop} {U : State} {H H1 : Heap} (h : zgEX G A U H) (hq : ∀ a : Nat, a < H.size → ¬ A a → H1[a]? = H[a]?) : zgEX G A U H1 :=
  ⟨h.1, h.2.1.kept hq, h.2.2.1.kept hq, h.2.2.2.1.kept hq, h.2.2.2.2.1.kept hq, h.2.2.2.2.2.1.kept hq, h.2.2.2.2.2.2⟩
theorem zgEX.narrow {G : zgG} {A B : Nat → Prop} {U : State} {H : Heap} (h : zgEX G A U H) (hAB : ∀ q, B q → A q) : zgEX G B U H :=
  ⟨h.1, h.2.1.narrow hAB, h.2.2.1.narrow hAB, h.2.2.2.1.narrow hAB, h.2.2.2.2.1.narrow hAB, h.2.2.2.2.2.1.narrow hAB, h.2.2.2.2.2.2⟩
theorem zgEX.warm {G : zgG} {A : Nat → Prop} {s U : State} {H : Heap} (hW : s.WarmedH U.vm) (h : zgEX G A s H) : zgEX G A U H :=
  ⟨vk_R.warm hW h.1, vk_S.moved hW.alike h.2.1, va_Z.moved hW.alike h.2.2.1, va_Zq.moved hW.alike h.2.2.2.1, vx_Zq.moved hW.alike h.2.2.2.2.1, vx_Zq.moved hW.alike h.2.2.2.2.2.1, fun q hq => by
    obtain ⟨a, ha⟩ := h.2.2.2.2.2.2.1 q hq
    exact ⟨a, vk_R.warm hW ha⟩, va_Nc.moved hW.alike h.2.2.2.2.2.2.2.1, va_Nc.moved hW.alike h.2.2.2.2.2.2.2.2.1, fun q hq => va_Nw.warmF hW (h.2.2.2.2.2.2.2.2.2.1 q hq), fun q hq => va_Nw.warmM hW (h.2.2.2.2.2.2.2.2.2.2.1 q hq), fun q hq => va_Nw.warmC hW (h.2.2.2.2.2.2.2.2.2.2.2.1 q hq), fun q hq => va_Nw.warmD hW (h.2.2.2.2.2.2.2.2.2.2.2.2.1 q hq), va_AO.moved hW.alike h.2.2.2.2.2.2.2.2.2.2.2.2.2⟩
/-- a contract's start and end -/
def zgPc (G : zgG) (as : List Value) (w0 : va_W) (sz : Nat) : Array Value → State → Prop := va_Pc as (fun U => U.heap.size = sz ∧ va_P G.2.1 vwCl w0 U.heap ∧ va_K G.2.1 vwCl (zgTys G) U ∧ va_D (fun _ => True) w0 ∧ zgEX G (va_A w0 sz) U U.heap)
def zgQc (G : zgG) {σ : Type} (r : σ → Option Value) (w0 : va_W) (w1 : σ → va_W) (sz : Nat) : Array Value → State → Outcome → State → Prop := fun _ st oc t => (∃ u : σ, oc = .returned (r u) ∧ va_P G.2.1 vwCl (w1 u) t.heap ∧ va_D (va_A w0 sz) (w1 u)) ∧ va_F (va_A w0 sz) st t
def zgCt (G : zgG) {σ : Type} (y : MethodName) (ws : List Cond) (rm : Room) (as : List Value) (w0 : va_W) (r : σ → Option Value) (w1 : σ → va_W) (mc ms : Nat) : Prop :=
  ∀ sz : Nat, Met G.1 y ws rm (zgPc G as w0 sz) (zgQc G r w0 w1 sz) mc ms (va_A w0 sz)
theorem zgPc_blind {G : zgG} {as : List Value} {w0 : va_W} {sz : Nat} : FrameBlind (zgPc G as w0 sz) := by
  intro a U g mk q
  obtain ⟨q0, q1, q2, q3, q4, q5⟩ := q
  exact ⟨q0, q1, q2, va_K.moved (u := U) (U := U.calling g mk a) (Vm.Alike.refl U.vm) q3, q4, zgEX.warm (s := U) (U := U.calling g mk a) (State.WarmedH.refl U) q5⟩
abbrev zgZ : Type := Program × Env × State × MethodId × Array Value × List Frame × Method × Code × (Nat → Prop) × (State → Prop)
abbrev zZp (Z : zgZ) : Program := Z.1
abbrev zZe (Z : zgZ) : Env := Z.2.1
abbrev zZs (Z : zgZ) : State := Z.2.2.1
abbrev zZm (Z : zgZ) : MethodId := Z.2.2.2.1
abbrev zZa (Z : zgZ) : Array Value := Z.2.2.2.2.1
abbrev zZb (Z : zgZ) : List Frame := Z.2.2.2.2.2.1
abbrev zZt (Z : zgZ) : Method := Z.2.2.2.2.2.2.1
abbrev zZc (Z : zgZ) : Code := Z.2.2.2.2.2.2.2.1
abbrev zZA (Z : zgZ) : Nat → Prop := Z.2.2.2.2.2.2.2.2.1
abbrev zZQ (Z : zgZ) : State → Prop := Z.2.2.2.2.2.2.2.2.2
/-- what holds all through a body -/
def zgCx (G : zgG) (Z : zgZ) (cc : ByteArray) (own : String) (ret : Option FieldType) (nL : Nat) (Ts : List Cond) : Prop :=
  (zZp Z).tables.exec = Jvm.exec ∧ (zZc Z).code = cc ∧ (zZt Z).sig.returnType = ret ∧ (zZc Z).maxLocals = nL ∧ (zZs Z).vm.findClass own = some (zZm Z).cls ∧ (∀ w ∈ Ts, w.before (zZa Z) (zZs Z) = true) ∧ (zZt Z).locks = false ∧
  va_K G.2.1 vwCl (zgTys G) (zZs Z) ∧ (∀ q, (zZs Z).heap.size ≤ q → zZA Z q) ∧ zgEX G (zZA Z) (zZs Z) (zZs Z).heap
/-- the frame at pc, with its locals and its stack, over the world ws -/
def zgGd (G : zgG) (Z : zgZ) (R : Room) (k n nL : Nat) (ws : va_W) (pc : Nat) (L : List (Nat × Value)) (st : List Value) : Prop :=
  ∀ (H : Heap) (locs : List Loc) (ls : Array Slot), va_P G.2.1 vwCl ws H → va_D (zZA Z) ws → va_S (zZA Z) (zZs Z).heap H locs → lv_has ls nL L →
    W (zZp Z) G.1 (zZe Z) R (zZs Z) (zZm Z) (zZa Z) (zZb Z) (zZt Z) (zZc Z) H locs k n (zZQ Z) (F0 (zZm Z) pc ls st)
/-- what a body owes at its end -/
def zgFin (G : zgG) (Z : zgZ) {σ : Type} (r : σ → Option Value) (w0 : va_W) (w1 : σ → va_W) (mc ms : Nat) : Prop :=
  zZA Z = va_A w0 (zZs Z).heap.size ∧ zZQ Z = MQ (zZb Z) (zgQc G r w0 w1 (zZs Z).heap.size) (zZa Z) (zZs Z) mc ms (va_A w0 (zZs Z).heap.size)
theorem zg_of {G : zgG} {σ : Type} {y : MethodName} {ws ws' : List Cond} {rm : Room} {as : List Value} {w0 : va_W} {r : σ → Option Value} {w1 : σ → va_W} {mc ms : Nat} {cc : ByteArray} {nL : Nat} {ret : Option FieldType} {own : String}
    (hy : plainName y.cls = true) (hown : y.cls = own) (hw : ws = Cond.code y cc nL ret :: ws') (hn : (lg_sl as).length ≤ nL)
    (body : ∀ Z : zgZ, zgCx G Z cc own ret nL ws → zgFin G Z r w0 w1 mc ms → zgGd G Z rm 0 0 nL w0 0 (lv_args 0 as) []) : zgCt G y ws rm as w0 r w1 mc ms := by
  subst hown
  intro sz
  refine Met.ofW hy hw ?_
  intro p e s m args below meth c s₁ B hml hv
  obtain ⟨rfl, hsz, hP, hK, hD0, hE⟩ := hv
  subst hsz
  have hD := hD0.self (sz := s.heap.size)
  have hl := lv_entry as hn
  rw [lg_entry_eq]
  have hown : s.vm.findClass y.cls = some m.cls := findClass_of_methodNamed B.named
  exact body (p, e, s, m, as.toArray, below, meth, c, va_A w0 s.heap.size, MQ below (zgQc G r w0 w1 s.heap.size) as.toArray s mc ms (va_A w0 s.heap.size)) ⟨B.exec, B.bytes, B.returns, hml, hown, atoms_spec (ws := ws) B.pre, B.notSynchronized, hK, fun q h => Or.inr h, hE⟩ ⟨rfl, rfl⟩ s.heap [] _ hP hD va_S.rf hl
end ZGA
/-! peeling of a printed function's value -/
theorem pl_t {α : Type} {c : Prop} [Decidable c] {A B : Option α} {r : α} (h : c) (hf : (if c then A else B) = some r) : A = some r := by rwa [if_pos h] at hf
theorem pl_f {α : Type} {c : Prop} [Decidable c] {A B : Option α} {r : α} (h : ¬ c) (hf : (if c then A else B) = some r) : B = some r := by rwa [if_neg h] at hf
theorem pl_b {α β : Type} {x : Option β} {k : β → Option α} {r : α} (hf : x.bind k = some r) : ∃ b, x = some b ∧ k b = some r := by
  cases x with
  | none => cases hf
  | some b => exact ⟨b, rfl, hf⟩
theorem pl_in {α : Type} {i : Int32} {n : Nat} {K : Option α} {r : α} (hf : (if i < 0 ∨ n ≤ i.toNatClampNeg then none else K) = some r) : vp_in i n ∧ K = some r := by
  by_cases h : i < 0 ∨ n ≤ i.toNatClampNeg
  · rw [if_pos h] at hf; cases hf
  · rw [if_neg h] at hf; exact ⟨h, hf⟩
theorem pl_z {α : Type} {i : Int32} {K : Option α} {r : α} (hf : (if i = 0 then none else K) = some r) : ¬ i = 0 ∧ K = some r := by
  by_cases h : i = 0
  · rw [if_pos h] at hf; cases hf
  · rw [if_neg h] at hf; exact ⟨h, hf⟩
def zlet {α β : Type} (x : β) (k : β → Option α) : Option α := k x
theorem pl_l {α β : Type} {x : β} {k : β → Option α} {r : α} (hf : zlet x k = some r) : ∃ b, b = x ∧ k b = some r := ⟨x, rfl, hf⟩
theorem zgEX.nc1 {G : zgG} {A : Nat → Prop} {U : State} {H : Heap} (h : zgEX G A U H) : va_Nc "java/lang/IllegalStateException" "java/lang/IllegalArgumentException" U := h.2.2.2.2.2.2.2.1
theorem zgEX.nc2 {G : zgG} {A : Nat → Prop} {U : State} {H : Heap} (h : zgEX G A U H) : va_Nc "java/lang/IllegalArgumentException" "java/lang/IndexOutOfBoundsException" U := h.2.2.2.2.2.2.2.2.1
theorem zgEX.nf {G : zgG} {A : Nat → Prop} {U : State} {H : Heap} (h : zgEX G A U H) : ∀ q ∈ zgNF, va_Nw (.fieldLinkNest q.1 q.2.1 q.2.2.1 q.2.2.2.1 q.2.2.2.2.1 q.2.2.2.2.2) U := h.2.2.2.2.2.2.2.2.2.1
theorem zgEX.nm {G : zgG} {A : Nat → Prop} {U : State} {H : Heap} (h : zgEX G A U H) : ∀ q ∈ zgNM, va_Nw (.methodLinkNest q.1 q.2.1 q.2.2.1 q.2.2.2) U := h.2.2.2.2.2.2.2.2.2.2.1
theorem zgEX.cs {G : zgG} {A : Nat → Prop} {U : State} {H : Heap} (h : zgEX G A U H) : ∀ q ∈ zgNC, va_Nw (.castable q.1 q.2) U := h.2.2.2.2.2.2.2.2.2.2.2.1
theorem zgEX.ao {G : zgG} {A : Nat → Prop} {U : State} {H : Heap} (h : zgEX G A U H) : va_AO "TelexReceiver$Saved" U := h.2.2.2.2.2.2.2.2.2.2.2.2.2
theorem zgEX.no {G : zgG} {A : Nat → Prop} {U : State} {H : Heap} (h : zgEX G A U H) : ∀ w ∈ zgNO, va_Nw w U := by
  intro w hw
  rcases List.mem_append.mp hw with hw | hw
  · obtain ⟨q, hq, rfl⟩ := List.mem_map.mp hw
    exact h.cs q hq
  · obtain ⟨q, hq, rfl⟩ := List.mem_map.mp hw
    exact h.2.2.2.2.2.2.2.2.2.2.2.2.1 q hq
theorem zgNO_tab : ∀ w ∈ zgNO, w.onTables = true := by decide +kernel
theorem zgCx.ex {G : zgG} {Z : zgZ} {cc : ByteArray} {own : String} {ret : Option FieldType} {nL : Nat} {Ts : List Cond} (X : zgCx G Z cc own ret nL Ts) : zgEX G (zZA Z) (zZs Z) (zZs Z).heap := X.2.2.2.2.2.2.2.2.2
