/-! a receiver as one word of the world -/
def zTc (G : zgG) (a hb : Nat → Nat) (v : zTR) : va_W := [((a 0), .inr (6, [.ref (a 1), .ref (a 3), .ref (a 14), .ref (a 17), .ref (a 28)])), ((a 1), .inr (4, [.ref (a 2), .int v.1.2])), ((a 2), .inl (G.2.2.1, 60, .inl v.1.1)), ((a 3), .inr (2, [.ref (a 4), .ref (a 6), .ref (a 8), .ref (a 10), .ref (a 12), .int v.2.1.2.2.2.2.2.1, .int v.2.1.2.2.2.2.2.2])), ((a 4), .inr (4, [.ref (a 5), .int v.2.1.1.2])), ((a 5), .inl (G.2.2.1, 200, .inl v.2.1.1.1)), ((a 6), .inr (4, [.ref (a 7), .int v.2.1.2.1.2])), ((a 7), .inl (G.2.2.1, 200, .inl v.2.1.2.1.1)), ((a 8), .inr (4, [.ref (a 9), .int v.2.1.2.2.1.2])), ((a 9), .inl (G.2.2.1, 200, .inl v.2.1.2.2.1.1)), ((a 10), .inr (4, [.ref (a 11), .int v.2.1.2.2.2.1.2])), ((a 11), .inl (G.2.2.1, 200, .inl v.2.1.2.2.2.1.1)), ((a 12), .inr (4, [.ref (a 13), .int v.2.1.2.2.2.2.1.2])), ((a 13), .inl (G.2.2.1, 120, .inl v.2.1.2.2.2.2.1.1)), ((a 14), .inr (0, [.ref (a 15)])), ((a 15), .inr (4, [.ref (a 16), .int v.2.2.1.2])), ((a 16), .inl (G.2.2.1, 20, .inl v.2.2.1.1)), ((a 17), .inr (3, [.ref (a 18), .ref (a 20), .ref (a 22), .ref (a 24), .ref (a 26), .int v.2.2.2.1.2.2.2.2.2.1, .int v.2.2.2.1.2.2.2.2.2.2.1, .int v.2.2.2.1.2.2.2.2.2.2.2])), ((a 18), .inr (4, [.ref (a 19), .int v.2.2.2.1.1.2])), ((a 19), .inl (G.2.2.1, 200, .inl v.2.2.2.1.1.1)), ((a 20), .inr (4, [.ref (a 21), .int v.2.2.2.1.2.1.2])), ((a 21), .inl (G.2.2.1, 200, .inl v.2.2.2.1.2.1.1)), ((a 22), .inr (4, [.ref (a 23), .int v.2.2.2.1.2.2.1.2])), ((a 23), .inl (G.2.2.1, 200, .inl v.2.2.2.1.2.2.1.1)), ((a 24), .inr (4, [.ref (a 25), .int v.2.2.2.1.2.2.2.1.2])), ((a 25), .inl (G.2.2.1, 200, .inl v.2.2.2.1.2.2.2.1.1)), ((a 26), .inr (4, [.ref (a 27), .int v.2.2.2.1.2.2.2.2.1.2])), ((a 27), .inl (G.2.2.1, 200, .inl v.2.2.2.1.2.2.2.2.1.1)), ((a 28), .inr (1, [.ref (a 29), .int v.2.2.2.2.2])), ((a 29), .inl (G.2.2.2.1, 6, .inr (.inr (.inr (.inr (zSt [(hb 0), (hb 5), (hb 10), (hb 15), (hb 20), (hb 25)])))))), ((hb 0), .inr (5, [.ref (hb 1), .ref (hb 3), .int ((v.2.2.2.2.1 0).2.2.1), .int ((v.2.2.2.2.1 0).2.2.2.1), .int ((v.2.2.2.2.1 0).2.2.2.2.1), .int ((v.2.2.2.2.1 0).2.2.2.2.2.1), .int ((v.2.2.2.2.1 0).2.2.2.2.2.2)])), ((hb 1), .inr (4, [.ref (hb 2), .int ((v.2.2.2.2.1 0).1.2)])), ((hb 2), .inl (G.2.2.1, 200, .inl ((v.2.2.2.2.1 0).1.1))), ((hb 3), .inr (4, [.ref (hb 4), .int ((v.2.2.2.2.1 0).2.1.2)])), ((hb 4), .inl (G.2.2.1, 20, .inl ((v.2.2.2.2.1 0).2.1.1))), ((hb 5), .inr (5, [.ref (hb 6), .ref (hb 8), .int ((v.2.2.2.2.1 1).2.2.1), .int ((v.2.2.2.2.1 1).2.2.2.1), .int ((v.2.2.2.2.1 1).2.2.2.2.1), .int ((v.2.2.2.2.1 1).2.2.2.2.2.1), .int ((v.2.2.2.2.1 1).2.2.2.2.2.2)])), ((hb 6), .inr (4, [.ref (hb 7), .int ((v.2.2.2.2.1 1).1.2)])), ((hb 7), .inl (G.2.2.1, 200, .inl ((v.2.2.2.2.1 1).1.1))), ((hb 8), .inr (4, [.ref (hb 9), .int ((v.2.2.2.2.1 1).2.1.2)])), ((hb 9), .inl (G.2.2.1, 20, .inl ((v.2.2.2.2.1 1).2.1.1))), ((hb 10), .inr (5, [.ref (hb 11), .ref (hb 13), .int ((v.2.2.2.2.1 2).2.2.1), .int ((v.2.2.2.2.1 2).2.2.2.1), .int ((v.2.2.2.2.1 2).2.2.2.2.1), .int ((v.2.2.2.2.1 2).2.2.2.2.2.1), .int ((v.2.2.2.2.1 2).2.2.2.2.2.2)])), ((hb 11), .inr (4, [.ref (hb 12), .int ((v.2.2.2.2.1 2).1.2)])), ((hb 12), .inl (G.2.2.1, 200, .inl ((v.2.2.2.2.1 2).1.1))), ((hb 13), .inr (4, [.ref (hb 14), .int ((v.2.2.2.2.1 2).2.1.2)])), ((hb 14), .inl (G.2.2.1, 20, .inl ((v.2.2.2.2.1 2).2.1.1))), ((hb 15), .inr (5, [.ref (hb 16), .ref (hb 18), .int ((v.2.2.2.2.1 3).2.2.1), .int ((v.2.2.2.2.1 3).2.2.2.1), .int ((v.2.2.2.2.1 3).2.2.2.2.1), .int ((v.2.2.2.2.1 3).2.2.2.2.2.1), .int ((v.2.2.2.2.1 3).2.2.2.2.2.2)])), ((hb 16), .inr (4, [.ref (hb 17), .int ((v.2.2.2.2.1 3).1.2)])), ((hb 17), .inl (G.2.2.1, 200, .inl ((v.2.2.2.2.1 3).1.1))), ((hb 18), .inr (4, [.ref (hb 19), .int ((v.2.2.2.2.1 3).2.1.2)])), ((hb 19), .inl (G.2.2.1, 20, .inl ((v.2.2.2.2.1 3).2.1.1))), ((hb 20), .inr (5, [.ref (hb 21), .ref (hb 23), .int ((v.2.2.2.2.1 4).2.2.1), .int ((v.2.2.2.2.1 4).2.2.2.1), .int ((v.2.2.2.2.1 4).2.2.2.2.1), .int ((v.2.2.2.2.1 4).2.2.2.2.2.1), .int ((v.2.2.2.2.1 4).2.2.2.2.2.2)])), ((hb 21), .inr (4, [.ref (hb 22), .int ((v.2.2.2.2.1 4).1.2)])), ((hb 22), .inl (G.2.2.1, 200, .inl ((v.2.2.2.2.1 4).1.1))), ((hb 23), .inr (4, [.ref (hb 24), .int ((v.2.2.2.2.1 4).2.1.2)])), ((hb 24), .inl (G.2.2.1, 20, .inl ((v.2.2.2.2.1 4).2.1.1))), ((hb 25), .inr (5, [.ref (hb 26), .ref (hb 28), .int ((v.2.2.2.2.1 5).2.2.1), .int ((v.2.2.2.2.1 5).2.2.2.1), .int ((v.2.2.2.2.1 5).2.2.2.2.1), .int ((v.2.2.2.2.1 5).2.2.2.2.2.1), .int ((v.2.2.2.2.1 5).2.2.2.2.2.2)])), ((hb 26), .inr (4, [.ref (hb 27), .int ((v.2.2.2.2.1 5).1.2)])), ((hb 27), .inl (G.2.2.1, 200, .inl ((v.2.2.2.2.1 5).1.1))), ((hb 28), .inr (4, [.ref (hb 29), .int ((v.2.2.2.2.1 5).2.1.2)])), ((hb 29), .inl (G.2.2.1, 20, .inl ((v.2.2.2.2.1 5).2.1.1)))]
abbrev zI1 : List Nat := [0, 1, 2, 3, 4, 5, 6, 7, 8, 9, 10, 11, 12, 13, 14, 15, 16, 17, 18, 19, 20, 21, 22, 23, 24, 25, 26, 27, 28, 29, 30, 31, 32, 33, 34, 35, 36, 37, 38, 39, 40, 41, 42, 43, 44, 45, 46, 47, 48, 49, 50, 51, 52, 53, 54, 55, 56, 57, 58, 59]
abbrev zI2 : List Nat := [60, 61, 62, 63, 64, 65, 66, 67, 68, 69, 70, 71, 72, 73, 74, 75, 76, 77, 78, 79, 80, 81, 82, 83, 84, 85, 86, 87, 88, 89, 90, 91, 92, 93, 94, 95, 96, 97, 98, 99, 100, 101, 102, 103, 104, 105, 106, 107, 108, 109, 110, 111, 112, 113, 114, 115, 116, 117, 118, 119]
abbrev zI21 : List Nat := [60, 61, 62, 63, 64, 65, 66, 67, 68, 69, 70, 71, 72, 73, 74, 75, 76, 77, 78, 79, 80, 81, 82, 83, 84, 85, 86, 87, 88, 89, 90, 91, 92, 93, 94, 95, 96, 97, 98, 99, 100, 101, 102, 103, 104, 105, 106, 107, 108, 109, 110, 111, 112, 113, 114, 115, 116, 117, 118, 119, 0, 1, 2, 3, 4, 5, 6, 7, 8, 9, 10, 11, 12, 13, 14, 15, 16, 17, 18, 19, 20, 21, 22, 23, 24, 25, 26, 27, 28, 29, 30, 31, 32, 33, 34, 35, 36, 37, 38, 39, 40, 41, 42, 43, 44, 45, 46, 47, 48, 49, 50, 51, 52, 53, 54, 55, 56, 57, 58, 59]
theorem zT_nd : va_nd zI1 = true := by decide
theorem zT_nd2 : va_nd zI2 = true := by decide
theorem zT_nd21 : va_nd zI21 = true := by decide
theorem zT_ix {G : zgG} {a hb : Nat → Nat} {v : zTR} : zI1.map (fun i => (zTc G a hb v)[i]?) = (zTc G a hb v).map some := rfl
theorem zT_ixo {G : zgG} {a hb b hc : Nat → Nat} {v w : zTR} : zI1.map (fun i => (zTc G a hb v ++ zTc G b hc w)[i]?) = (zTc G a hb v).map some := rfl
theorem zT_ixq {G : zgG} {a hb b hc : Nat → Nat} {v w : zTR} : zI2.map (fun i => (zTc G a hb v ++ zTc G b hc w)[i]?) = (zTc G b hc w).map some := rfl
theorem zT_d12 : ∀ i ∈ zI1, i ∉ zI2 := by decide
theorem zT_d21 : ∀ i ∈ zI2, i ∉ zI1 := by decide
section ZT
variable {G : zgG} {Z : zgZ} {R : Room} {cc : ByteArray} {own : String} {ret : Option FieldType} {nL : Nat} {Ts : List Cond} {k n : Nat} {pc : Nat} {L : List (Nat × Value)} {rest : List Value}
theorem zg_t1 (X : zgCx G Z cc own ret nL Ts) {σ : Type} {a hb : Nat → Nat} {v v' : zTR} {r : σ → Option Value} {w1 : σ → va_W} {mc ms : Nat} {x : Value} {st0 : List Value} (hr : zgRun G Z R cc k n nL (zTc G a hb v) pc L st0 rest zI1 (zTc G a hb v) r w1 mc ms) (hw : ∀ u, ∃ h, w1 u = zTc G a h v') (hx : ∀ u, r u = some x) (K : ∀ hb, zgGd G Z R (k + mc) (n + ms) nL (zTc G a hb v') (pc + 3) L (x :: rest)) : zgGd G Z R k n nL (zTc G a hb v) pc L st0 := by
  refine zg_callJ (wr := []) X hr [] rfl rfl (fun _ h => absurd h List.not_mem_nil) (fun u => ?_)
  obtain ⟨h, e⟩ := hw u
  rw [hx u, e]
  exact K h
theorem zg_t10 (X : zgCx G Z cc own ret nL Ts) {a hb : Nat → Nat} {v v' : zTR} {w1 : Unit → va_W} {x : Value} {st0 : List Value} (hr : zgRun G Z R cc k n nL (zTc G a hb v) pc L st0 rest zI1 (zTc G a hb v) (fun _ : Unit => some x) w1 0 0) (hw : ∃ h, w1 () = zTc G a h v') (K : ∀ hb, zgGd G Z R k n nL (zTc G a hb v') (pc + 3) L (x :: rest)) : zgGd G Z R k n nL (zTc G a hb v) pc L st0 :=
  zg_t1 X hr (fun _ => hw) (fun _ => rfl) K
theorem zg_o1 (X : zgCx G Z cc own ret nL Ts) {σ : Type} {a hb b hc : Nat → Nat} {v v' w : zTR} {r : σ → Option Value} {w1 : σ → va_W} {mc ms : Nat} {x : Value} {st0 : List Value} (hr : zgRun G Z R cc k n nL (zTc G a hb v ++ zTc G b hc w) pc L st0 rest zI1 (zTc G a hb v) r w1 mc ms) (hw : ∀ u, ∃ h, w1 u = zTc G a h v') (hx : ∀ u, r u = some x) (K : ∀ hb, zgGd G Z R (k + mc) (n + ms) nL (zTc G a hb v' ++ zTc G b hc w) (pc + 3) L (x :: rest)) : zgGd G Z R k n nL (zTc G a hb v ++ zTc G b hc w) pc L st0 := by
  refine zg_callJ (wr := zTc G b hc w) X hr zI2 zT_ixq zT_nd2 zT_d21 (fun u => ?_)
  obtain ⟨h, e⟩ := hw u
  rw [hx u, e]
  exact zg_perm zI21 zT_nd21 (ws' := zTc G a h v' ++ zTc G b hc w) rfl rfl (K h)
theorem zg_o10 (X : zgCx G Z cc own ret nL Ts) {a hb b hc : Nat → Nat} {v v' w : zTR} {w1 : Unit → va_W} {x : Value} {st0 : List Value} (hr : zgRun G Z R cc k n nL (zTc G a hb v ++ zTc G b hc w) pc L st0 rest zI1 (zTc G a hb v) (fun _ : Unit => some x) w1 0 0) (hw : ∃ h, w1 () = zTc G a h v') (K : ∀ hb, zgGd G Z R k n nL (zTc G a hb v' ++ zTc G b hc w) (pc + 3) L (x :: rest)) : zgGd G Z R k n nL (zTc G a hb v ++ zTc G b hc w) pc L st0 :=
  zg_o1 X hr (fun _ => hw) (fun _ => rfl) K
theorem zg_q1 (X : zgCx G Z cc own ret nL Ts) {σ : Type} {a hb b hc : Nat → Nat} {v w w' : zTR} {r : σ → Option Value} {w1 : σ → va_W} {mc ms : Nat} {x : Value} {st0 : List Value} (hr : zgRun G Z R cc k n nL (zTc G a hb v ++ zTc G b hc w) pc L st0 rest zI2 (zTc G b hc w) r w1 mc ms) (hw : ∀ u, ∃ h, w1 u = zTc G b h w') (hx : ∀ u, r u = some x) (K : ∀ hc, zgGd G Z R (k + mc) (n + ms) nL (zTc G a hb v ++ zTc G b hc w') (pc + 3) L (x :: rest)) : zgGd G Z R k n nL (zTc G a hb v ++ zTc G b hc w) pc L st0 := by
  refine zg_callJ (wr := zTc G a hb v) X hr zI1 zT_ixo zT_nd zT_d12 (fun u => ?_)
  obtain ⟨h, e⟩ := hw u
  rw [hx u, e]
  exact K h
theorem zg_q10 (X : zgCx G Z cc own ret nL Ts) {a hb b hc : Nat → Nat} {v w w' : zTR} {w1 : Unit → va_W} {x : Value} {st0 : List Value} (hr : zgRun G Z R cc k n nL (zTc G a hb v ++ zTc G b hc w) pc L st0 rest zI2 (zTc G b hc w) (fun _ : Unit => some x) w1 0 0) (hw : ∃ h, w1 () = zTc G b h w') (K : ∀ hc, zgGd G Z R k n nL (zTc G a hb v ++ zTc G b hc w') (pc + 3) L (x :: rest)) : zgGd G Z R k n nL (zTc G a hb v ++ zTc G b hc w) pc L st0 :=
  zg_q1 X hr (fun _ => hw) (fun _ => rfl) K
theorem zg_ldcI (X : zgCx G Z cc own ret nL Ts) {index : Nat} {v : Int32} (hd : decode cc pc = .ok (.ldc index, 2)) (hc : Jvm.Cond.constant own index v ∈ Ts) {ws : va_W} (K : zgGd G Z R k n nL ws (pc + 2) L (.int v :: rest)) : zgGd G Z R k n nL ws pc L rest :=
  fun H locs ls hP hD hS hl => lv_ldc X.1 X.2.1 X.2.2.2.2.1 (X.2.2.2.2.2.1 _ hc) hd (K H locs ls hP hD hS hl)
end ZT
set_option maxHeartbeats 4000000 in
set_option maxRecDepth 20000 in
theorem zt_X7_append (G : zgG) (hst : G.1.stackTraces = false) (a hb : Nat → Nat) (v0 : zTR) (a1 : Int32) (fu : Nat) (res : (Int32 × Int32 × zTR)) (hf : zf_X7_append fu v0 a1 = some res) : zgCtX G yX7_append wsX7_append ({ frames := 6, cells := 1, slots := 6, locals := 132 } : Room) [.ref (a 0), .int a1] (zTc G a hb v0) (zxo ["java/lang/IllegalArgumentException", "java/lang/IllegalStateException"] res.1) (fun _ : Unit => some (.int res.2.1)) (fun _ => zTc G a hb res.2.2) 1 6 := zc_X7_append G hst a hb v0 a1 fu res hf
set_option maxHeartbeats 4000000 in
set_option maxRecDepth 20000 in
theorem zt_X7_clearBuffer (G : zgG) (a hb : Nat → Nat) (v0 : zTR) (fu : Nat) (res : (Int32 × zTR)) (hf : zf_X7_clearBuffer fu v0 = some res) : zgCt G yX7_clearBuffer wsX7_clearBuffer ({ frames := 1, cells := 0, slots := 0, locals := 20 } : Room) [.ref (a 0)] (zTc G a hb v0) (fun _ : Unit => some (.int res.1)) (fun _ => zTc G a hb res.2) 0 0 := zc_X7_clearBuffer G a hb v0 fu res hf
set_option maxHeartbeats 4000000 in
set_option maxRecDepth 20000 in
theorem zt_X7_codesToSend (G : zgG) (a hb : Nat → Nat) (v0 : zTR) (fu : Nat) (res : (Int32 × zTR)) (hf : zf_X7_codesToSend fu v0 = some res) : zgCt G yX7_codesToSend wsX7_codesToSend ({ frames := 7, cells := 0, slots := 0, locals := 158 } : Room) [.ref (a 0)] (zTc G a hb v0) (fun _ : Unit => some (.int res.1)) (fun _ => zTc G a hb res.2) 0 0 := zc_X7_codesToSend G a hb v0 fu res hf
set_option maxHeartbeats 4000000 in
set_option maxRecDepth 20000 in
theorem zt_X7_sent (G : zgG) (a hb : Nat → Nat) (v0 : zTR) (fu : Nat) (res : Int32) (hf : zf_X7_sent fu v0 = some res) : zgCt G yX7_sent wsX7_sent ({ frames := 1, cells := 0, slots := 0, locals := 20 } : Room) [.ref (a 0)] (zTc G a hb v0) (fun _ : Unit => some (.int res)) (fun _ => zTc G a hb v0) 0 0 := zc_X7_sent G a hb v0 fu res hf
set_option maxHeartbeats 4000000 in
set_option maxRecDepth 20000 in
theorem zt_X7_received (G : zgG) (a hb : Nat → Nat) (v0 : zTR) (fu : Nat) (res : Int32) (hf : zf_X7_received fu v0 = some res) : zgCt G yX7_received wsX7_received ({ frames := 1, cells := 0, slots := 0, locals := 20 } : Room) [.ref (a 0)] (zTc G a hb v0) (fun _ : Unit => some (.int res)) (fun _ => zTc G a hb v0) 0 0 := zc_X7_received G a hb v0 fu res hf
set_option maxHeartbeats 4000000 in
set_option maxRecDepth 20000 in
theorem zt_X7_send (G : zgG) (hst : G.1.stackTraces = false) (a hb : Nat → Nat) (v0 : zTR) (fu : Nat) (res : (Int32 × Int32 × zTR)) (hf : zf_X7_send fu v0 = some res) : zgCtX G yX7_send wsX7_send ({ frames := 8, cells := 1, slots := 6, locals := 182 } : Room) [.ref (a 0)] (zTc G a hb v0) (zxo ["java/lang/IllegalStateException"] res.1) (fun _ : Unit => some (.int res.2.1)) (fun _ => zTc G a (zhx res.1 v0.2.2.2.2.2 hb) res.2.2) 1 6 := zc_X7_send G hst a hb v0 fu res hf
set_option maxHeartbeats 4000000 in
set_option maxRecDepth 20000 in
theorem zt_X7_setFault (G : zgG) (hst : G.1.stackTraces = false) (a hb : Nat → Nat) (v0 : zTR) (a1 : Int32) (a2 : Int32) (fu : Nat) (res : (Int32 × Int32 × zTR)) (hf : zf_X7_setFault fu v0 a1 a2 = some res) : zgCtX G yX7_setFault wsX7_setFault ({ frames := 6, cells := 1, slots := 6, locals := 90 } : Room) [.ref (a 0), .int a1, .int a2] (zTc G a hb v0) (zxo ["java/lang/IndexOutOfBoundsException", "java/lang/IllegalArgumentException"] res.1) (fun _ : Unit => some (.int res.2.1)) (fun _ => zTc G a (zhx res.1 v0.2.2.2.2.2 hb) res.2.2) 1 6 := zc_X7_setFault G hst a hb v0 a1 a2 fu res hf
set_option maxHeartbeats 4000000 in
set_option maxRecDepth 20000 in
theorem zt_X7_sentCode (G : zgG) (hst : G.1.stackTraces = false) (a hb : Nat → Nat) (v0 : zTR) (a1 : Int32) (fu : Nat) (res : (Int32 × Int32)) (hf : zf_X7_sentCode fu v0 a1 = some res) : zgCtX G yX7_sentCode wsX7_sentCode ({ frames := 6, cells := 1, slots := 6, locals := 90 } : Room) [.ref (a 0), .int a1] (zTc G a hb v0) (zxo ["java/lang/IndexOutOfBoundsException"] res.1) (fun _ : Unit => some (.int res.2)) (fun _ => zTc G a hb v0) 1 6 := zc_X7_sentCode G hst a hb v0 a1 fu res hf
set_option maxHeartbeats 4000000 in
set_option maxRecDepth 20000 in
theorem zt_X7_receivedCode (G : zgG) (hst : G.1.stackTraces = false) (a hb : Nat → Nat) (v0 : zTR) (a1 : Int32) (fu : Nat) (res : (Int32 × Int32)) (hf : zf_X7_receivedCode fu v0 a1 = some res) : zgCtX G yX7_receivedCode wsX7_receivedCode ({ frames := 6, cells := 1, slots := 6, locals := 90 } : Room) [.ref (a 0), .int a1] (zTc G a hb v0) (zxo ["java/lang/IndexOutOfBoundsException"] res.1) (fun _ : Unit => some (.int res.2)) (fun _ => zTc G a hb v0) 1 6 := zc_X7_receivedCode G hst a hb v0 a1 fu res hf
set_option maxHeartbeats 4000000 in
set_option maxRecDepth 20000 in
theorem zt_X7_senderShift (G : zgG) (a hb : Nat → Nat) (v0 : zTR) (fu : Nat) (res : Int32) (hf : zf_X7_senderShift fu v0 = some res) : zgCt G yX7_senderShift wsX7_senderShift ({ frames := 0, cells := 0, slots := 0, locals := 0 } : Room) [.ref (a 0)] (zTc G a hb v0) (fun _ : Unit => some (.int res)) (fun _ => zTc G a hb v0) 0 0 := zc_X7_senderShift G a hb v0 fu res hf
set_option maxHeartbeats 4000000 in
set_option maxRecDepth 20000 in
theorem zt_X7_faults (G : zgG) (a hb : Nat → Nat) (v0 : zTR) (fu : Nat) (res : Int32) (hf : zf_X7_faults fu v0 = some res) : zgCt G yX7_faults wsX7_faults ({ frames := 2, cells := 0, slots := 0, locals := 44 } : Room) [.ref (a 0)] (zTc G a hb v0) (fun _ : Unit => some (.int res)) (fun _ => zTc G a hb v0) 0 0 := zc_X7_faults G a hb v0 fu res hf
set_option maxHeartbeats 4000000 in
set_option maxRecDepth 20000 in
theorem zt_X7_unshiftOnSpace (G : zgG) (a hb : Nat → Nat) (v0 : zTR) (a1 : Int32) (fu : Nat) (res : (Int32 × zTR)) (hf : zf_X7_unshiftOnSpace fu v0 a1 = some res) : zgCt G yX7_unshiftOnSpace wsX7_unshiftOnSpace ({ frames := 7, cells := 0, slots := 0, locals := 159 } : Room) [.ref (a 0), .int a1] (zTc G a hb v0) (fun _ : Unit => some (.int res.1)) (fun _ => zTc G a (zhb v0.2.2.2.2.2 hb) res.2) 0 0 := zc_X7_unshiftOnSpace G a hb v0 a1 fu res hf
set_option maxHeartbeats 4000000 in
set_option maxRecDepth 20000 in
theorem zt_X7_words (G : zgG) (a hb : Nat → Nat) (v0 : zTR) (fu : Nat) (res : Int32) (hf : zf_X7_words fu v0 = some res) : zgCt G yX7_words wsX7_words ({ frames := 1, cells := 0, slots := 0, locals := 20 } : Room) [.ref (a 0)] (zTc G a hb v0) (fun _ : Unit => some (.int res)) (fun _ => zTc G a hb v0) 0 0 := zc_X7_words G a hb v0 fu res hf
set_option maxHeartbeats 4000000 in
set_option maxRecDepth 20000 in
theorem zt_X7_learn (G : zgG) (hst : G.1.stackTraces = false) (a hb : Nat → Nat) (v0 : zTR) (fu : Nat) (res : (Int32 × Int32 × zTR)) (hf : zf_X7_learn fu v0 = some res) : zgCtX G yX7_learn wsX7_learn ({ frames := 7, cells := 1, slots := 6, locals := 159 } : Room) [.ref (a 0)] (zTc G a hb v0) (zxo ["java/lang/IllegalArgumentException", "java/lang/IllegalStateException"] res.1) (fun _ : Unit => some (.int res.2.1)) (fun _ => zTc G a (zhx res.1 v0.2.2.2.2.2 hb) res.2.2) 1 6 := zc_X7_learn G hst a hb v0 fu res hf
set_option maxHeartbeats 4000000 in
set_option maxRecDepth 20000 in
theorem zt_X7_forget (G : zgG) (hst : G.1.stackTraces = false) (a hb : Nat → Nat) (v0 : zTR) (a1 : Int32) (fu : Nat) (res : (Int32 × Int32 × zTR)) (hf : zf_X7_forget fu v0 a1 = some res) : zgCtX G yX7_forget wsX7_forget ({ frames := 7, cells := 1, slots := 6, locals := 159 } : Room) [.ref (a 0), .int a1] (zTc G a hb v0) (zxo ["java/lang/IndexOutOfBoundsException"] res.1) (fun _ : Unit => some (.int res.2.1)) (fun _ => zTc G a (zhx res.1 v0.2.2.2.2.2 hb) res.2.2) 1 6 := zc_X7_forget G hst a hb v0 a1 fu res hf
set_option maxHeartbeats 4000000 in
set_option maxRecDepth 20000 in
theorem zt_X7_wordLetter (G : zgG) (hst : G.1.stackTraces = false) (a hb : Nat → Nat) (v0 : zTR) (a1 : Int32) (a2 : Int32) (fu : Nat) (res : (Int32 × Int32)) (hf : zf_X7_wordLetter fu v0 a1 a2 = some res) : zgCtX G yX7_wordLetter wsX7_wordLetter ({ frames := 6, cells := 1, slots := 6, locals := 107 } : Room) [.ref (a 0), .int a1, .int a2] (zTc G a hb v0) (zxo ["java/lang/IndexOutOfBoundsException"] res.1) (fun _ : Unit => some (.int res.2)) (fun _ => zTc G a hb v0) 1 6 := zc_X7_wordLetter G hst a hb v0 a1 a2 fu res hf
set_option maxHeartbeats 4000000 in
set_option maxRecDepth 20000 in
theorem zt_X7_uses (G : zgG) (hst : G.1.stackTraces = false) (a hb : Nat → Nat) (v0 : zTR) (a1 : Int32) (fu : Nat) (res : (Int32 × Int32)) (hf : zf_X7_uses fu v0 a1 = some res) : zgCtX G yX7_uses wsX7_uses ({ frames := 6, cells := 1, slots := 6, locals := 90 } : Room) [.ref (a 0), .int a1] (zTc G a hb v0) (zxo ["java/lang/IndexOutOfBoundsException"] res.1) (fun _ : Unit => some (.int res.2)) (fun _ => zTc G a hb v0) 1 6 := zc_X7_uses G hst a hb v0 a1 fu res hf
set_option maxHeartbeats 4000000 in
set_option maxRecDepth 20000 in
theorem zt_X7_printedLength (G : zgG) (a hb : Nat → Nat) (v0 : zTR) (fu : Nat) (res : Int32) (hf : zf_X7_printedLength fu v0 = some res) : zgCt G yX7_printedLength wsX7_printedLength ({ frames := 1, cells := 0, slots := 0, locals := 20 } : Room) [.ref (a 0)] (zTc G a hb v0) (fun _ : Unit => some (.int res)) (fun _ => zTc G a hb v0) 0 0 := zc_X7_printedLength G a hb v0 fu res hf
set_option maxHeartbeats 4000000 in
set_option maxRecDepth 20000 in
theorem zt_X7_printed (G : zgG) (hst : G.1.stackTraces = false) (a hb : Nat → Nat) (v0 : zTR) (a1 : Int32) (fu : Nat) (res : (Int32 × Int32)) (hf : zf_X7_printed fu v0 a1 = some res) : zgCtX G yX7_printed wsX7_printed ({ frames := 6, cells := 1, slots := 6, locals := 90 } : Room) [.ref (a 0), .int a1] (zTc G a hb v0) (zxo ["java/lang/IndexOutOfBoundsException"] res.1) (fun _ : Unit => some (.int res.2)) (fun _ => zTc G a hb v0) 1 6 := zc_X7_printed G hst a hb v0 a1 fu res hf
set_option maxHeartbeats 4000000 in
set_option maxRecDepth 20000 in
theorem zt_X7_segments (G : zgG) (a hb : Nat → Nat) (v0 : zTR) (fu : Nat) (res : Int32) (hf : zf_X7_segments fu v0 = some res) : zgCt G yX7_segments wsX7_segments ({ frames := 1, cells := 0, slots := 0, locals := 20 } : Room) [.ref (a 0)] (zTc G a hb v0) (fun _ : Unit => some (.int res)) (fun _ => zTc G a hb v0) 0 0 := zc_X7_segments G a hb v0 fu res hf
set_option maxHeartbeats 4000000 in
set_option maxRecDepth 20000 in
theorem zt_X7_segmentLength (G : zgG) (hst : G.1.stackTraces = false) (a hb : Nat → Nat) (v0 : zTR) (a1 : Int32) (fu : Nat) (res : (Int32 × Int32)) (hf : zf_X7_segmentLength fu v0 a1 = some res) : zgCtX G yX7_segmentLength wsX7_segmentLength ({ frames := 6, cells := 1, slots := 6, locals := 90 } : Room) [.ref (a 0), .int a1] (zTc G a hb v0) (zxo ["java/lang/IndexOutOfBoundsException"] res.1) (fun _ : Unit => some (.int res.2)) (fun _ => zTc G a hb v0) 1 6 := zc_X7_segmentLength G hst a hb v0 a1 fu res hf
set_option maxHeartbeats 4000000 in
set_option maxRecDepth 20000 in
theorem zt_X7_segmentKind (G : zgG) (hst : G.1.stackTraces = false) (a hb : Nat → Nat) (v0 : zTR) (a1 : Int32) (fu : Nat) (res : (Int32 × Int32)) (hf : zf_X7_segmentKind fu v0 a1 = some res) : zgCtX G yX7_segmentKind wsX7_segmentKind ({ frames := 6, cells := 1, slots := 6, locals := 90 } : Room) [.ref (a 0), .int a1] (zTc G a hb v0) (zxo ["java/lang/IndexOutOfBoundsException"] res.1) (fun _ : Unit => some (.int res.2)) (fun _ => zTc G a hb v0) 1 6 := zc_X7_segmentKind G hst a hb v0 a1 fu res hf
set_option maxHeartbeats 4000000 in
set_option maxRecDepth 20000 in
theorem zt_X7_guesses (G : zgG) (a hb : Nat → Nat) (v0 : zTR) (fu : Nat) (res : Int32) (hf : zf_X7_guesses fu v0 = some res) : zgCt G yX7_guesses wsX7_guesses ({ frames := 2, cells := 0, slots := 0, locals := 44 } : Room) [.ref (a 0)] (zTc G a hb v0) (fun _ : Unit => some (.int res)) (fun _ => zTc G a hb v0) 0 0 := zc_X7_guesses G a hb v0 fu res hf
set_option maxHeartbeats 4000000 in
set_option maxRecDepth 20000 in
theorem zt_X7_doubtful (G : zgG) (a hb : Nat → Nat) (v0 : zTR) (fu : Nat) (res : Int32) (hf : zf_X7_doubtful fu v0 = some res) : zgCt G yX7_doubtful wsX7_doubtful ({ frames := 2, cells := 0, slots := 0, locals := 44 } : Room) [.ref (a 0)] (zTc G a hb v0) (fun _ : Unit => some (.int res)) (fun _ => zTc G a hb v0) 0 0 := zc_X7_doubtful G a hb v0 fu res hf
set_option maxHeartbeats 4000000 in
set_option maxRecDepth 20000 in
theorem zt_X7_bells (G : zgG) (a hb : Nat → Nat) (v0 : zTR) (fu : Nat) (res : Int32) (hf : zf_X7_bells fu v0 = some res) : zgCt G yX7_bells wsX7_bells ({ frames := 0, cells := 0, slots := 0, locals := 0 } : Room) [.ref (a 0)] (zTc G a hb v0) (fun _ : Unit => some (.int res)) (fun _ => zTc G a hb v0) 0 0 := zc_X7_bells G a hb v0 fu res hf
set_option maxHeartbeats 4000000 in
set_option maxRecDepth 20000 in
theorem zt_X7_questions (G : zgG) (a hb : Nat → Nat) (v0 : zTR) (fu : Nat) (res : Int32) (hf : zf_X7_questions fu v0 = some res) : zgCt G yX7_questions wsX7_questions ({ frames := 0, cells := 0, slots := 0, locals := 0 } : Room) [.ref (a 0)] (zTc G a hb v0) (fun _ : Unit => some (.int res)) (fun _ => zTc G a hb v0) 0 0 := zc_X7_questions G a hb v0 fu res hf
set_option maxHeartbeats 4000000 in
set_option maxRecDepth 20000 in
theorem zt_X7_receiverShift (G : zgG) (a hb : Nat → Nat) (v0 : zTR) (fu : Nat) (res : Int32) (hf : zf_X7_receiverShift fu v0 = some res) : zgCt G yX7_receiverShift wsX7_receiverShift ({ frames := 0, cells := 0, slots := 0, locals := 0 } : Room) [.ref (a 0)] (zTc G a hb v0) (fun _ : Unit => some (.int res)) (fun _ => zTc G a hb v0) 0 0 := zc_X7_receiverShift G a hb v0 fu res hf
set_option maxHeartbeats 4000000 in
set_option maxRecDepth 20000 in
theorem zt_X7_wrongCharacters (G : zgG) (a hb : Nat → Nat) (v0 : zTR) (fu : Nat) (res : Int32) (hf : zf_X7_wrongCharacters fu v0 = some res) : zgCt G yX7_wrongCharacters wsX7_wrongCharacters ({ frames := 1, cells := 0, slots := 0, locals := 21 } : Room) [.ref (a 0)] (zTc G a hb v0) (fun _ : Unit => some (.int res)) (fun _ => zTc G a hb v0) 0 0 := zc_X7_wrongCharacters G a hb v0 fu res hf
set_option maxHeartbeats 4000000 in
set_option maxRecDepth 20000 in
theorem zt_X7_plausibility (G : zgG) (a hb : Nat → Nat) (v0 : zTR) (fu : Nat) (res : UInt64) (hf : zf_X7_plausibility fu v0 = some res) : zgCt G yX7_plausibility wsX7_plausibility ({ frames := 3, cells := 0, slots := 0, locals := 64 } : Room) [.ref (a 0)] (zTc G a hb v0) (fun _ : Unit => some (.double res)) (fun _ => zTc G a hb v0) 0 0 := zc_X7_plausibility G a hb v0 fu res hf
set_option maxHeartbeats 4000000 in
set_option maxRecDepth 20000 in
theorem zt_X7_doubtfulWith (G : zgG) (hst : G.1.stackTraces = false) (a hb : Nat → Nat) (v0 : zTR) (a1 : Int32) (a2 : Int32) (fu : Nat) (res : (Int32 × Int32)) (hf : zf_X7_doubtfulWith fu v0 a1 a2 = some res) : zgCtX G yX7_doubtfulWith wsX7_doubtfulWith ({ frames := 6, cells := 1, slots := 6, locals := 139 } : Room) [.ref (a 0), .int a1, .int a2] (zTc G a hb v0) (zxo ["java/lang/IndexOutOfBoundsException", "java/lang/IllegalArgumentException"] res.1) (fun _ : Unit => some (.int res.2)) (fun _ => zTc G a hb v0) 1 6 := zc_X7_doubtfulWith G hst a hb v0 a1 a2 fu res hf
set_option maxHeartbeats 4000000 in
set_option maxRecDepth 20000 in
theorem zt_X7_bestRepair (G : zgG) (a hb : Nat → Nat) (v0 : zTR) (fu : Nat) (res : Int32) (hf : zf_X7_bestRepair fu v0 = some res) : zgCt G yX7_bestRepair wsX7_bestRepair ({ frames := 5, cells := 0, slots := 0, locals := 116 } : Room) [.ref (a 0)] (zTc G a hb v0) (fun _ : Unit => some (.int res)) (fun _ => zTc G a hb v0) 0 0 := zc_X7_bestRepair G a hb v0 fu res hf
set_option maxHeartbeats 4000000 in
set_option maxRecDepth 20000 in
theorem zt_X7_undo (G : zgG) (hst : G.1.stackTraces = false) (a hb : Nat → Nat) (v0 : zTR) (fu : Nat) (res : (Int32 × Int32 × zTR)) (hf : zf_X7_undo fu v0 = some res) : zgCtX G yX7_undo wsX7_undo ({ frames := 7, cells := 1, slots := 6, locals := 159 } : Room) [.ref (a 0)] (zTc G a hb v0) (zxo ["java/lang/IllegalStateException"] res.1) (fun _ : Unit => some (.int res.2.1)) (fun _ => zTc G a hb res.2.2) 1 6 := zc_X7_undo G hst a hb v0 fu res hf
set_option maxHeartbeats 4000000 in
set_option maxRecDepth 20000 in
theorem zt_X7_savedStates (G : zgG) (a hb : Nat → Nat) (v0 : zTR) (fu : Nat) (res : Int32) (hf : zf_X7_savedStates fu v0 = some res) : zgCt G yX7_savedStates wsX7_savedStates ({ frames := 0, cells := 0, slots := 0, locals := 0 } : Room) [.ref (a 0)] (zTc G a hb v0) (fun _ : Unit => some (.int res)) (fun _ => zTc G a hb v0) 0 0 := zc_X7_savedStates G a hb v0 fu res hf
set_option maxHeartbeats 4000000 in
set_option maxRecDepth 20000 in
theorem zt_X7_digest (G : zgG) (a hb : Nat → Nat) (v0 : zTR) (fu : Nat) (res : Int64) (hf : zf_X7_digest fu v0 = some res) : zgCt G yX7_digest wsX7_digest ({ frames := 6, cells := 0, slots := 0, locals := 140 } : Room) [.ref (a 0)] (zTc G a hb v0) (fun _ : Unit => some (.long res)) (fun _ => zTc G a hb v0) 0 0 := zc_X7_digest G a hb v0 fu res hf
