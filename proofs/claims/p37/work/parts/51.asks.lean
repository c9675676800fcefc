/-! ===== the pure part: what the class answers, asked ===== -/
section ZQ
def zidx (a : Int32) (l : List Int32) : Int32 × Int32 := match zin a l.length with
  | none => (1, 0)
  | some i => (0, l.getD i 0)
theorem zq_idx {N : Nat} {v : zRow} {l : List Int32} (h : zr N v l) (a : Int32) : ((zf_X5_has 10000 N v a).bind fun b1 => if b1 = 0 then some ((1 : Int32), (0 : Int32)) else ((zf_X5_at 10000 N v a).bind fun b3 => some (0, b3))) = some (zidx a l) := by
  unfold zidx
  rcases zp_has (fu := 10000) h a with ⟨e, e1⟩ | ⟨i, hi, rfl, e, e1⟩
  · rw [e1, e, Option.bind_some, if_pos rfl]
  · rw [e1, e, Option.bind_some, if_neg z10, zp_at h (show l[i]? = some (l.getD i 0) by rw [List.getD_eq_getElem?_getD, List.getElem?_eq_getElem hi]; rfl), Option.bind_some]
theorem cq_sent {v : zTR} {A : zAb} (h : zcR v A) : zf_X7_sent 10000 v = some (nI A.2.1.1.length) := by
  unfold zf_X7_sent; rw [zp_size h.2.1.1.2.1, Option.bind_some]
theorem cq_recv {v : zTR} {A : zAb} (h : zcR v A) : zf_X7_received 10000 v = some (nI A.2.1.2.1.length) := by
  unfold zf_X7_received; rw [zp_size h.2.1.1.2.2.1, Option.bind_some]
theorem cq_sentCode {v : zTR} {A : zAb} (h : zcR v A) (a : Int32) : zf_X7_sentCode 10000 v a = some (zidx a A.2.1.1) := zq_idx h.2.1.1.2.1 a
theorem cq_recvCode {v : zTR} {A : zAb} (h : zcR v A) (a : Int32) : zf_X7_receivedCode 10000 v a = some (zidx a A.2.1.2.1) := zq_idx h.2.1.1.2.2.1 a
theorem cq_shift {v : zTR} {A : zAb} (h : zcR v A) : zf_X7_senderShift 10000 v = some A.2.1.2.2.2.2.2.1 := by
  unfold zf_X7_senderShift; rw [h.2.1.1.2.2.2.2.1]
theorem cq_faults {v : zTR} {A : zAb} (h : zcR v A) : zf_X7_faults 10000 v = some (200 - nI (A.2.1.2.2.2.1.count (-1))) := by
  unfold zf_X7_faults; rw [zp_count h.2.1.1.2.2.2.1 (by have := h.2.1.1.2.2.2.1.2.1; omega), Option.bind_some, zlet_eq]
theorem cq_words {v : zTR} {A : zAb} (h : zcR v A) : zf_X7_words 10000 v = some (nI A.2.1.2.2.2.2.1.length) := by
  unfold zf_X7_words; rw [zp_size h.2.1.2, Option.bind_some, List.length_map]
theorem cq_prLen {v : zTR} {A : zAb} (h : zcR v A) : zf_X7_printedLength 10000 v = some (nI (zPn A.2.1).1.length) := by
  unfold zf_X7_printedLength; rw [zp_size h.2.2.1.1, Option.bind_some]
theorem cq_printed {v : zTR} {A : zAb} (h : zcR v A) (a : Int32) : zf_X7_printed 10000 v a = some (zidx a (zPn A.2.1).1) := zq_idx h.2.2.1.1 a
theorem cq_segs {v : zTR} {A : zAb} (h : zcR v A) : zf_X7_segments 10000 v = some (nI (zPn A.2.1).2.2.1.length) := by
  unfold zf_X7_segments; rw [zp_size h.2.2.1.2.2.1, Option.bind_some]
theorem cq_segLen {v : zTR} {A : zAb} (h : zcR v A) (a : Int32) : zf_X7_segmentLength 10000 v a = some (zidx a (zPn A.2.1).2.1) := zq_idx h.2.2.1.2.1 a
theorem cq_segKind {v : zTR} {A : zAb} (h : zcR v A) (a : Int32) : zf_X7_segmentKind 10000 v a = some (zidx a (zPn A.2.1).2.2.1) := zq_idx h.2.2.1.2.2.1 a
theorem cq_guess {v : zTR} {A : zAb} (h : zcR v A) : zf_X7_guesses 10000 v = some (nI ((zPn A.2.1).2.2.1.count 2 + (zPn A.2.1).2.2.1.count 3)) := by
  have hl := h.2.2.1.2.2.1.2.1
  unfold zf_X7_guesses; rw [zp_count h.2.2.1.2.2.1 (by omega), Option.bind_some, zp_count h.2.2.1.2.2.1 (by omega), Option.bind_some, zlet_eq, nI_add]
theorem cq_doubt {v : zTR} {A : zAb} (h : zcR v A) : zf_X7_doubtful 10000 v = some (nI ((zPn A.2.1).2.2.1.count 4 + (zPn A.2.1).2.2.1.count 5)) := by
  have hl := h.2.2.1.2.2.1.2.1
  unfold zf_X7_doubtful; rw [zp_count h.2.2.1.2.2.1 (by omega), Option.bind_some, zp_count h.2.2.1.2.2.1 (by omega), Option.bind_some, zlet_eq, nI_add]
theorem cq_bells {v : zTR} {A : zAb} (h : zcR v A) : zf_X7_bells 10000 v = some (zPn A.2.1).2.2.2.2.2.1 := by
  unfold zf_X7_bells; rw [h.2.2.1.2.2.2.2.1]
theorem cq_quest {v : zTR} {A : zAb} (h : zcR v A) : zf_X7_questions 10000 v = some (zPn A.2.1).2.2.2.2.2.2 := by
  unfold zf_X7_questions; rw [h.2.2.1.2.2.2.2.1]
theorem cq_rshift {v : zTR} {A : zAb} (h : zcR v A) : zf_X7_receiverShift 10000 v = some (zPn A.2.1).2.2.2.2.1 := by
  unfold zf_X7_receiverShift; rw [h.2.2.1.2.2.2.2.1]
theorem cq_saved {v : zTR} {A : zAb} (h : zcR v A) : zf_X7_savedStates 10000 v = some (nI A.2.2.length) := by
  unfold zf_X7_savedStates; rw [h.2.2.2.1]
/-- uses -/
def aUse (A : zAb) (a : Int32) : Int32 × Int32 := match zin a A.2.1.2.2.2.2.1.length with
  | none => (1, 0)
  | some _ => (0, nI ((zPn A.2.1).2.2.2.1.count a))
theorem cq_uses {v : zTR} {A : zAb} (h : zcR v A) (a : Int32) : zf_X7_uses 10000 v a = some (aUse A a) := by
  have hl := h.2.2.1.2.2.2.1.2.1
  unfold zf_X7_uses aUse
  rcases zp_has (fu := 10000) h.2.1.2 a with ⟨e, e1⟩ | ⟨i, hi, rfl, e, e1⟩
  · rw [List.length_map] at e
    rw [e1, e, Option.bind_some, if_pos rfl]
  · rw [List.length_map] at e
    rw [e1, e, Option.bind_some, if_neg z10, zp_count h.2.2.1.2.2.2.1 (by omega), Option.bind_some]
/-- wordLetter -/
def aLet (A : zAb) (a j : Int32) : Int32 × Int32 := match zin a A.2.1.2.2.2.2.1.length with
  | none => (1, 0)
  | some i => match zin j 6 with
    | none => (1, 0)
    | some k => (0, if (A.2.1.2.2.2.2.1.getD i []).getD k 0 = 0 then -1 else zchr ((A.2.1.2.2.2.2.1.getD i []).getD k 0) 0)
theorem cq_letter {v : zTR} {A : zAb} (h : zcR v A) (hk : zok A) (a j : Int32) : zf_X7_wordLetter 10000 v a j = some (aLet A a j) := by
  have o3 := hk.2.2.1
  unfold zf_X7_wordLetter aLet zf_X7_wordLetter_b34
  rcases zp_has (fu := 10000) h.2.1.2 a with ⟨e, e1⟩ | ⟨i, hi, rfl, e, e1⟩
  · rw [List.length_map] at e
    rw [e1, e, Option.bind_some, if_pos rfl]
  · rw [List.length_map] at e hi
    rw [e1, e, Option.bind_some, if_neg z10]
    rcases zin_cases j (n := 6) (by omega) with ⟨f, h1 | ⟨k, h1, h2, rfl⟩⟩ | ⟨k, h1, rfl, f⟩
    · rw [if_pos h1, f]
    · rw [if_neg (nI_pos h2), if_neg (show ¬ nI k < 6 from nI_nlt (b := 6) h1 h2), f]
    · have hwi : A.2.1.2.2.2.2.1[i]? = some (A.2.1.2.2.2.2.1.getD i []) := by rw [List.getD_eq_getElem?_getD, List.getElem?_eq_getElem hi]; rfl
      have hwd := o3.2.2.2.2.2.2.2.1 _ (List.mem_of_getElem? hwi)
      rw [if_neg (nI_pos (by omega)), if_pos (show nI k < 6 from nI_lt (b := 6) h1 (by omega)), f, zl_cod h.2.1.2 o3.2.2.2.2.2.2.2.1 hwi h1, Option.bind_some]
      by_cases hz : (A.2.1.2.2.2.2.1.getD i []).getD k 0 = 0
      · rw [if_pos hz]
        simp only [if_pos hz]
      · rw [if_neg hz]
        simp only [if_neg hz]
        have hc : zcd ((A.2.1.2.2.2.2.1.getD i []).getD k 0) := by
          by_cases hl : k < (A.2.1.2.2.2.2.1.getD i []).length
          · rw [List.getD_eq_getElem?_getD, List.getElem?_eq_getElem hl]
            exact (hwd.2.2 _ (List.getElem_mem hl)).2
          · exact absurd (by rw [List.getD_eq_getElem?_getD, List.getElem?_eq_none (by omega)]; rfl) hz
        rw [zchr_c hc (Or.inl rfl), Option.bind_some]
end ZQ
