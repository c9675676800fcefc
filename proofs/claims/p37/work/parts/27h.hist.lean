set_option maxHeartbeats 8000000 in
set_option maxRecDepth 100000 in
theorem zc_X2_restore (G : zgG) (q0 q1 : Nat) (hb : Nat → Nat) (q2 q3 q4 q5 q6 q7 q8 q9 q10 q11 q12 q13 q14 q15 : Nat) (v0 : zHist) (v1 : zLine) (v2 : zRow) (fu : Nat) (res : zHist × zLine × zRow) (hf : zf_X2_restore fu v0 v1 v2 = some res) : zgCt G yX2_restore wsX2_restore ({ frames := 3, cells := 0, slots := 0, locals := 65 } : Room) [.ref q0, .ref q2, .ref q13] [(q0, .inr (1, [.ref q1, .int v0.2])), (q1, .inl (G.2.2.2.1, 6, .inr (.inr (.inr (.inr (zSt [(hb 0), (hb 5), (hb 10), (hb 15), (hb 20), (hb 25)])))))), ((hb 0), .inr (5, [.ref (hb 1), .ref (hb 3), .int ((v0.1 0).2.2.1), .int ((v0.1 0).2.2.2.1), .int ((v0.1 0).2.2.2.2.1), .int ((v0.1 0).2.2.2.2.2.1), .int ((v0.1 0).2.2.2.2.2.2)])), ((hb 1), .inr (4, [.ref (hb 2), .int ((v0.1 0).1.2)])), ((hb 2), .inl (G.2.2.1, 200, .inl ((v0.1 0).1.1))), ((hb 3), .inr (4, [.ref (hb 4), .int ((v0.1 0).2.1.2)])), ((hb 4), .inl (G.2.2.1, 20, .inl ((v0.1 0).2.1.1))), ((hb 5), .inr (5, [.ref (hb 6), .ref (hb 8), .int ((v0.1 1).2.2.1), .int ((v0.1 1).2.2.2.1), .int ((v0.1 1).2.2.2.2.1), .int ((v0.1 1).2.2.2.2.2.1), .int ((v0.1 1).2.2.2.2.2.2)])), ((hb 6), .inr (4, [.ref (hb 7), .int ((v0.1 1).1.2)])), ((hb 7), .inl (G.2.2.1, 200, .inl ((v0.1 1).1.1))), ((hb 8), .inr (4, [.ref (hb 9), .int ((v0.1 1).2.1.2)])), ((hb 9), .inl (G.2.2.1, 20, .inl ((v0.1 1).2.1.1))), ((hb 10), .inr (5, [.ref (hb 11), .ref (hb 13), .int ((v0.1 2).2.2.1), .int ((v0.1 2).2.2.2.1), .int ((v0.1 2).2.2.2.2.1), .int ((v0.1 2).2.2.2.2.2.1), .int ((v0.1 2).2.2.2.2.2.2)])), ((hb 11), .inr (4, [.ref (hb 12), .int ((v0.1 2).1.2)])), ((hb 12), .inl (G.2.2.1, 200, .inl ((v0.1 2).1.1))), ((hb 13), .inr (4, [.ref (hb 14), .int ((v0.1 2).2.1.2)])), ((hb 14), .inl (G.2.2.1, 20, .inl ((v0.1 2).2.1.1))), ((hb 15), .inr (5, [.ref (hb 16), .ref (hb 18), .int ((v0.1 3).2.2.1), .int ((v0.1 3).2.2.2.1), .int ((v0.1 3).2.2.2.2.1), .int ((v0.1 3).2.2.2.2.2.1), .int ((v0.1 3).2.2.2.2.2.2)])), ((hb 16), .inr (4, [.ref (hb 17), .int ((v0.1 3).1.2)])), ((hb 17), .inl (G.2.2.1, 200, .inl ((v0.1 3).1.1))), ((hb 18), .inr (4, [.ref (hb 19), .int ((v0.1 3).2.1.2)])), ((hb 19), .inl (G.2.2.1, 20, .inl ((v0.1 3).2.1.1))), ((hb 20), .inr (5, [.ref (hb 21), .ref (hb 23), .int ((v0.1 4).2.2.1), .int ((v0.1 4).2.2.2.1), .int ((v0.1 4).2.2.2.2.1), .int ((v0.1 4).2.2.2.2.2.1), .int ((v0.1 4).2.2.2.2.2.2)])), ((hb 21), .inr (4, [.ref (hb 22), .int ((v0.1 4).1.2)])), ((hb 22), .inl (G.2.2.1, 200, .inl ((v0.1 4).1.1))), ((hb 23), .inr (4, [.ref (hb 24), .int ((v0.1 4).2.1.2)])), ((hb 24), .inl (G.2.2.1, 20, .inl ((v0.1 4).2.1.1))), ((hb 25), .inr (5, [.ref (hb 26), .ref (hb 28), .int ((v0.1 5).2.2.1), .int ((v0.1 5).2.2.2.1), .int ((v0.1 5).2.2.2.2.1), .int ((v0.1 5).2.2.2.2.2.1), .int ((v0.1 5).2.2.2.2.2.2)])), ((hb 26), .inr (4, [.ref (hb 27), .int ((v0.1 5).1.2)])), ((hb 27), .inl (G.2.2.1, 200, .inl ((v0.1 5).1.1))), ((hb 28), .inr (4, [.ref (hb 29), .int ((v0.1 5).2.1.2)])), ((hb 29), .inl (G.2.2.1, 20, .inl ((v0.1 5).2.1.1))), (q2, .inr (2, [.ref q3, .ref q5, .ref q7, .ref q9, .ref q11, .int v1.2.2.2.2.2.1, .int v1.2.2.2.2.2.2])), (q3, .inr (4, [.ref q4, .int v1.1.2])), (q4, .inl (G.2.2.1, 200, .inl v1.1.1)), (q5, .inr (4, [.ref q6, .int v1.2.1.2])), (q6, .inl (G.2.2.1, 200, .inl v1.2.1.1)), (q7, .inr (4, [.ref q8, .int v1.2.2.1.2])), (q8, .inl (G.2.2.1, 200, .inl v1.2.2.1.1)), (q9, .inr (4, [.ref q10, .int v1.2.2.2.1.2])), (q10, .inl (G.2.2.1, 200, .inl v1.2.2.2.1.1)), (q11, .inr (4, [.ref q12, .int v1.2.2.2.2.1.2])), (q12, .inl (G.2.2.1, 120, .inl v1.2.2.2.2.1.1)), (q13, .inr (0, [.ref q14])), (q14, .inr (4, [.ref q15, .int v2.2])), (q15, .inl (G.2.2.1, 20, .inl v2.1))] (fun _ : Unit => none) (fun _ => [(q0, .inr (1, [.ref q1, .int res.1.2])), (q1, .inl (G.2.2.2.1, 6, .inr (.inr (.inr (.inr (zSt [(hb 0), (hb 5), (hb 10), (hb 15), (hb 20), (hb 25)])))))), ((hb 0), .inr (5, [.ref (hb 1), .ref (hb 3), .int ((res.1.1 0).2.2.1), .int ((res.1.1 0).2.2.2.1), .int ((res.1.1 0).2.2.2.2.1), .int ((res.1.1 0).2.2.2.2.2.1), .int ((res.1.1 0).2.2.2.2.2.2)])), ((hb 1), .inr (4, [.ref (hb 2), .int ((res.1.1 0).1.2)])), ((hb 2), .inl (G.2.2.1, 200, .inl ((res.1.1 0).1.1))), ((hb 3), .inr (4, [.ref (hb 4), .int ((res.1.1 0).2.1.2)])), ((hb 4), .inl (G.2.2.1, 20, .inl ((res.1.1 0).2.1.1))), ((hb 5), .inr (5, [.ref (hb 6), .ref (hb 8), .int ((res.1.1 1).2.2.1), .int ((res.1.1 1).2.2.2.1), .int ((res.1.1 1).2.2.2.2.1), .int ((res.1.1 1).2.2.2.2.2.1), .int ((res.1.1 1).2.2.2.2.2.2)])), ((hb 6), .inr (4, [.ref (hb 7), .int ((res.1.1 1).1.2)])), ((hb 7), .inl (G.2.2.1, 200, .inl ((res.1.1 1).1.1))), ((hb 8), .inr (4, [.ref (hb 9), .int ((res.1.1 1).2.1.2)])), ((hb 9), .inl (G.2.2.1, 20, .inl ((res.1.1 1).2.1.1))), ((hb 10), .inr (5, [.ref (hb 11), .ref (hb 13), .int ((res.1.1 2).2.2.1), .int ((res.1.1 2).2.2.2.1), .int ((res.1.1 2).2.2.2.2.1), .int ((res.1.1 2).2.2.2.2.2.1), .int ((res.1.1 2).2.2.2.2.2.2)])), ((hb 11), .inr (4, [.ref (hb 12), .int ((res.1.1 2).1.2)])), ((hb 12), .inl (G.2.2.1, 200, .inl ((res.1.1 2).1.1))), ((hb 13), .inr (4, [.ref (hb 14), .int ((res.1.1 2).2.1.2)])), ((hb 14), .inl (G.2.2.1, 20, .inl ((res.1.1 2).2.1.1))), ((hb 15), .inr (5, [.ref (hb 16), .ref (hb 18), .int ((res.1.1 3).2.2.1), .int ((res.1.1 3).2.2.2.1), .int ((res.1.1 3).2.2.2.2.1), .int ((res.1.1 3).2.2.2.2.2.1), .int ((res.1.1 3).2.2.2.2.2.2)])), ((hb 16), .inr (4, [.ref (hb 17), .int ((res.1.1 3).1.2)])), ((hb 17), .inl (G.2.2.1, 200, .inl ((res.1.1 3).1.1))), ((hb 18), .inr (4, [.ref (hb 19), .int ((res.1.1 3).2.1.2)])), ((hb 19), .inl (G.2.2.1, 20, .inl ((res.1.1 3).2.1.1))), ((hb 20), .inr (5, [.ref (hb 21), .ref (hb 23), .int ((res.1.1 4).2.2.1), .int ((res.1.1 4).2.2.2.1), .int ((res.1.1 4).2.2.2.2.1), .int ((res.1.1 4).2.2.2.2.2.1), .int ((res.1.1 4).2.2.2.2.2.2)])), ((hb 21), .inr (4, [.ref (hb 22), .int ((res.1.1 4).1.2)])), ((hb 22), .inl (G.2.2.1, 200, .inl ((res.1.1 4).1.1))), ((hb 23), .inr (4, [.ref (hb 24), .int ((res.1.1 4).2.1.2)])), ((hb 24), .inl (G.2.2.1, 20, .inl ((res.1.1 4).2.1.1))), ((hb 25), .inr (5, [.ref (hb 26), .ref (hb 28), .int ((res.1.1 5).2.2.1), .int ((res.1.1 5).2.2.2.1), .int ((res.1.1 5).2.2.2.2.1), .int ((res.1.1 5).2.2.2.2.2.1), .int ((res.1.1 5).2.2.2.2.2.2)])), ((hb 26), .inr (4, [.ref (hb 27), .int ((res.1.1 5).1.2)])), ((hb 27), .inl (G.2.2.1, 200, .inl ((res.1.1 5).1.1))), ((hb 28), .inr (4, [.ref (hb 29), .int ((res.1.1 5).2.1.2)])), ((hb 29), .inl (G.2.2.1, 20, .inl ((res.1.1 5).2.1.1))), (q2, .inr (2, [.ref q3, .ref q5, .ref q7, .ref q9, .ref q11, .int res.2.1.2.2.2.2.2.1, .int res.2.1.2.2.2.2.2.2])), (q3, .inr (4, [.ref q4, .int res.2.1.1.2])), (q4, .inl (G.2.2.1, 200, .inl res.2.1.1.1)), (q5, .inr (4, [.ref q6, .int res.2.1.2.1.2])), (q6, .inl (G.2.2.1, 200, .inl res.2.1.2.1.1)), (q7, .inr (4, [.ref q8, .int res.2.1.2.2.1.2])), (q8, .inl (G.2.2.1, 200, .inl res.2.1.2.2.1.1)), (q9, .inr (4, [.ref q10, .int res.2.1.2.2.2.1.2])), (q10, .inl (G.2.2.1, 200, .inl res.2.1.2.2.2.1.1)), (q11, .inr (4, [.ref q12, .int res.2.1.2.2.2.2.1.2])), (q12, .inl (G.2.2.1, 120, .inl res.2.1.2.2.2.2.1.1)), (q13, .inr (0, [.ref q14])), (q14, .inr (4, [.ref q15, .int res.2.2.2])), (q15, .inl (G.2.2.1, 20, .inl res.2.2.1))]) 0 0 := by
  obtain ⟨sv, cnt⟩ := v0
  unfold zf_X2_restore at hf
  by_cases c1 : cnt = 1
  · subst c1
    have hf := pl_t rfl hf
    obtain ⟨r, hr, hf⟩ := pl_b hf
    have hf := Option.some.inj hf
    subst hf
    exact zc_X2_restore_1 G q0 q1 hb q2 q3 q4 q5 q6 q7 q8 q9 q10 q11 q12 q13 q14 q15 sv v1 v2 fu r hr
  have hf := pl_f c1 hf
  by_cases c2 : cnt = 2
  · subst c2
    have hf := pl_t rfl hf
    obtain ⟨r, hr, hf⟩ := pl_b hf
    have hf := Option.some.inj hf
    subst hf
    exact zc_X2_restore_2 G q0 q1 hb q2 q3 q4 q5 q6 q7 q8 q9 q10 q11 q12 q13 q14 q15 sv v1 v2 fu r hr
  have hf := pl_f c2 hf
  by_cases c3 : cnt = 3
  · subst c3
    have hf := pl_t rfl hf
    obtain ⟨r, hr, hf⟩ := pl_b hf
    have hf := Option.some.inj hf
    subst hf
    exact zc_X2_restore_3 G q0 q1 hb q2 q3 q4 q5 q6 q7 q8 q9 q10 q11 q12 q13 q14 q15 sv v1 v2 fu r hr
  have hf := pl_f c3 hf
  by_cases c4 : cnt = 4
  · subst c4
    have hf := pl_t rfl hf
    obtain ⟨r, hr, hf⟩ := pl_b hf
    have hf := Option.some.inj hf
    subst hf
    exact zc_X2_restore_4 G q0 q1 hb q2 q3 q4 q5 q6 q7 q8 q9 q10 q11 q12 q13 q14 q15 sv v1 v2 fu r hr
  have hf := pl_f c4 hf
  by_cases c5 : cnt = 5
  · subst c5
    have hf := pl_t rfl hf
    obtain ⟨r, hr, hf⟩ := pl_b hf
    have hf := Option.some.inj hf
    subst hf
    exact zc_X2_restore_5 G q0 q1 hb q2 q3 q4 q5 q6 q7 q8 q9 q10 q11 q12 q13 q14 q15 sv v1 v2 fu r hr
  have hf := pl_f c5 hf
  by_cases c6 : cnt = 6
  · subst c6
    have hf := pl_t rfl hf
    obtain ⟨r, hr, hf⟩ := pl_b hf
    have hf := Option.some.inj hf
    subst hf
    exact zc_X2_restore_6 G q0 q1 hb q2 q3 q4 q5 q6 q7 q8 q9 q10 q11 q12 q13 q14 q15 sv v1 v2 fu r hr
  have hf := pl_f c6 hf
  cases hf

