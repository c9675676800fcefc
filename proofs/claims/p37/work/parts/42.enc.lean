/-! ===== the pure part: encoding and sending ===== -/
section ZE
theorem zp_clear' {fu N : Nat} {v : zRow} (hN : N < 2 ^ 30) : ∃ v', zf_X5_clear fu N v = some v' ∧ zr N v' [] :=
  ⟨(v.1, 0), rfl, hN, Nat.zero_le _, by show (0 : Int32) = nI 0; exact nI_0.symm, fun i hi => absurd hi (Nat.not_lt_zero _)⟩
theorem zp_copyFrom' {fu N N1 : Nat} {v0 v1 : zRow} {l1 : List Int32} (h0 : N < 2 ^ 30) (h1 : zr N1 v1 l1) (hN : l1.length ≤ N) (hf : l1.length < fu) : ∃ v', zf_X5_copyFrom fu N N1 v0 v1 = some v' ∧ zr N v' l1 := by
  obtain ⟨w, e1, e2⟩ := zp_clear' (fu := fu) (v := v0) h0
  unfold zf_X5_copyFrom
  rw [e1]
  exact zp_copyL h1 hN l1.length 0 fu w [] (by omega) hf (by simp) e2
/-- the codes of characters, from the shift s on -/
def zenc (u : Int32) : Int32 → List Int32 → List Int32
  | _, [] => []
  | s, c :: cs => if zsft c = -1 ∨ zsft c = s then zcode c :: zenc u (zbeh (zcode c) s u) cs else (if zsft c = 1 then 30 else 31) :: zcode c :: zenc u (zbeh (zcode c) (zsft c) u) cs
theorem zenc_len (u : Int32) : ∀ (cs : List Int32) (s : Int32), (zenc u s cs).length ≤ 2 * cs.length
  | [], _ => Nat.le_refl _
  | c :: cs, s => by
    unfold zenc
    split
    · have := zenc_len u cs (zbeh (zcode c) s u)
      simp only [List.length_cons]; omega
    · have := zenc_len u cs (zbeh (zcode c) (zsft c) u)
      simp only [List.length_cons]; omega
theorem ze_L {v0 : zLine} {v1 : zRow} {buf : List Int32} (hb : zr 60 v1 buf) : ∀ (d i n : Nat) (s : Int32) (w : zRow) (acc : List Int32), i + d = buf.length → d < n → zr 120 w acc → acc.length ≤ 2 * i →
    ∃ e, zf_X3_encode_L14 10000 60 v0 v1 n s (nI i) w = some (v0.1, v0.2.1, v0.2.2.1, v0.2.2.2.1, e, v0.2.2.2.2.2.1, v0.2.2.2.2.2.2) ∧ zr 120 e (acc ++ zenc v0.2.2.2.2.2.2 s (buf.drop i))
  | d, i, 0, s, w, acc, hd, hn, hw, ha => absurd hn (Nat.not_lt_zero _)
  | 0, i, n + 1, s, w, acc, hd, hn, hw, ha => by
    have hlt := hb.lt
    unfold zf_X3_encode_L14
    rw [zp_size hb, Option.bind_some, if_pos (nI_le (by omega) (by omega)), List.drop_of_length_le (by omega)]
    exact ⟨w, rfl, by rw [show zenc v0.2.2.2.2.2.2 s [] = [] from by unfold zenc; rfl, List.append_nil]; exact hw⟩
  | d + 1, i, n + 1, s, w, acc, hd, hn, hw, ha => by
    have hlt := hb.lt
    have hi : i < buf.length := by omega
    have h60 := hb.2.1
    have b71 : ∀ (s' : Int32) (w' : zRow) (acc' : List Int32), zr 120 w' acc' → acc'.length ≤ 2 * i + 1 → ∃ e, zf_X3_encode_b71 10000 60 v0 v1 (zf_X3_encode_L14 10000 60 v0 v1 n) s' (nI i) buf[i] w' = some (v0.1, v0.2.1, v0.2.2.1, v0.2.2.2.1, e, v0.2.2.2.2.2.1, v0.2.2.2.2.2.2) ∧ zr 120 e (acc' ++ zcode buf[i] :: zenc v0.2.2.2.2.2.2 (zbeh (zcode buf[i]) s' v0.2.2.2.2.2.2) (buf.drop (i + 1))) := by
      intro s' w' acc' hw' ha'
      obtain ⟨w2, e2, h2⟩ := zp_add (fu := 10000) hw' (by omega) (zcode buf[i])
      unfold zf_X3_encode_b71
      rw [zcode_c, Option.bind_some, e2, Option.bind_some, zbeh_c, Option.bind_some, zlet_eq, nI_1]
      obtain ⟨e, e3, h3⟩ := ze_L hb d (i + 1) n (zbeh (zcode buf[i]) s' v0.2.2.2.2.2.2) w2 _ (by omega) (by omega) h2 (by rw [List.length_append]; simp only [List.length_cons, List.length_nil]; omega)
      refine ⟨e, e3, ?_⟩
      rw [List.append_assoc] at h3
      exact h3
    have b65 : ∀ z1 : Int32, ∃ e, zf_X3_encode_b65 10000 60 v0 v1 (zf_X3_encode_L14 10000 60 v0 v1 n) (nI i) buf[i] (zsft buf[i]) z1 w = some (v0.1, v0.2.1, v0.2.2.1, v0.2.2.2.1, e, v0.2.2.2.2.2.1, v0.2.2.2.2.2.2) ∧ zr 120 e (acc ++ z1 :: zcode buf[i] :: zenc v0.2.2.2.2.2.2 (zbeh (zcode buf[i]) (zsft buf[i]) v0.2.2.2.2.2.2) (buf.drop (i + 1))) := by
      intro z1
      obtain ⟨w2, e2, h2⟩ := zp_add (fu := 10000) hw (by omega) z1
      unfold zf_X3_encode_b65
      rw [e2, Option.bind_some]
      obtain ⟨e, e3, h3⟩ := b71 (zsft buf[i]) w2 _ h2 (by rw [List.length_append]; simp only [List.length_cons, List.length_nil]; omega)
      refine ⟨e, e3, ?_⟩
      rw [List.append_assoc] at h3
      exact h3
    unfold zf_X3_encode_L14
    rw [zp_size hb, Option.bind_some, if_neg (nI_ge hi (by omega)), zp_at hb (List.getElem?_eq_getElem hi), Option.bind_some, zsft_c, Option.bind_some, List.drop_eq_getElem_cons hi]
    unfold zenc
    by_cases h1 : zsft buf[i] = -1
    · rw [if_pos h1, if_pos (Or.inl h1)]
      exact b71 s w acc hw (by omega)
    · by_cases h2 : zsft buf[i] = s
      · rw [if_neg h1, if_pos h2, if_pos (Or.inr h2)]
        exact b71 s w acc hw (by omega)
      · rw [if_neg h1, if_neg h2, if_neg (show ¬ (zsft buf[i] = -1 ∨ zsft buf[i] = s) from fun h => h.elim h1 h2)]
        by_cases h3 : zsft buf[i] = 1
        · rw [if_pos h3, if_pos h3]
          exact b65 30
        · rw [if_neg h3, if_neg h3]
          exact b65 31
theorem ze_encode {v0 : zLine} {v1 : zRow} {buf : List Int32} (hb : zr 60 v1 buf) : ∃ e, zf_X3_encode 10000 60 v0 v1 = some (v0.1, v0.2.1, v0.2.2.1, v0.2.2.2.1, e, v0.2.2.2.2.2.1, v0.2.2.2.2.2.2) ∧ zr 120 e (zenc v0.2.2.2.2.2.2 v0.2.2.2.2.2.1 buf) := by
  obtain ⟨w, e1, h1⟩ := zp_clear' (fu := 10000) (N := 120) (v := v0.2.2.2.2.1) (by omega)
  unfold zf_X3_encode
  rw [e1, Option.bind_some]
  have := ze_L (v0 := v0) hb buf.length 0 10000 v0.2.2.2.2.2.1 w [] (by omega) (by have := hb.2.1; omega) h1 (Nat.le_refl _)
  rw [List.drop_zero] at this
  exact this
/-- what arrives of a code under a fault -/
def zrx (f c : Int32) : List Int32 := if f = -1 then [c] else if f = 0 then [] else [c ^^^ ((1 : Int32) <<< ((f - 1) &&& 31))]
/-- the line's lists after a code: sent, received -/
def ztx (flt : List Int32) (q : List Int32 × List Int32) (c : Int32) : List Int32 × List Int32 := (q.1 ++ [c], q.2 ++ zrx (flt.getD q.1.length 0) c)
theorem zrx_len (f c : Int32) : (zrx f c).length ≤ 1 := by
  unfold zrx
  split
  · exact Nat.le_refl _
  split
  · exact Nat.zero_le _
  · exact Nat.le_refl _
/-- the line v: written, sent, received, faults, shift, unshifts -/
def zrL (v : zLine) (wr se re fl : List Int32) (sh un : Int32) : Prop := zr 200 v.1 wr ∧ zr 200 v.2.1 se ∧ zr 200 v.2.2.1 re ∧ zr 200 v.2.2.2.1 fl ∧ v.2.2.2.2.2.1 = sh ∧ v.2.2.2.2.2.2 = un
theorem ze_code {v : zLine} {wr se re fl : List Int32} {sh un : Int32} (h : zrL v wr se re fl sh un) (hf : fl.length = 200) (hs : se.length < 200) (hr : re.length ≤ se.length) (c : Int32) :
    ∃ v', zf_X3_transmitCode 10000 v c = some v' ∧ zrL v' wr (ztx fl (se, re) c).1 (ztx fl (se, re) c).2 fl (zbeh c sh un) un ∧ v'.2.2.2.2.1 = v.2.2.2.2.1 := by
  obtain ⟨h1, h2, h3, h4, h5, h6⟩ := h
  have hx : fl[se.length]? = some (fl.getD se.length 0) := by
    rw [List.getD_eq_getElem?_getD, List.getElem?_eq_getElem (by omega)]; rfl
  obtain ⟨b3, e3, g3⟩ := zp_add (fu := 10000) h2 hs c
  unfold zf_X3_transmitCode
  rw [zp_size h2, Option.bind_some, zp_at h4 hx, Option.bind_some, e3, Option.bind_some, zbeh_c, Option.bind_some, h5, h6]
  unfold ztx zrx
  by_cases q1 : fl.getD se.length 0 = -1
  · obtain ⟨b8, e8, g8⟩ := zp_add (fu := 10000) h3 (by omega) c
    rw [if_pos q1, e8, Option.bind_some]
    refine ⟨_, rfl, ⟨h1, g3, ?_, h4, rfl, rfl⟩, rfl⟩
    show zr 200 b8 (re ++ if fl.getD se.length 0 = -1 then [c] else _)
    rw [if_pos q1]
    exact g8
  · rw [if_neg q1]
    by_cases q2 : fl.getD se.length 0 = 0
    · rw [if_pos q2]
      refine ⟨_, rfl, ⟨h1, g3, ?_, h4, rfl, rfl⟩, rfl⟩
      show zr 200 v.2.2.1 (re ++ if fl.getD se.length 0 = -1 then [c] else if fl.getD se.length 0 = 0 then [] else _)
      rw [if_neg q1, if_pos q2, List.append_nil]
      exact h3
    · obtain ⟨b7, e7, g7⟩ := zp_add (fu := 10000) h3 (by omega) (c ^^^ ((1 : Int32) <<< ((fl.getD se.length 0 - 1) &&& 31)))
      rw [if_neg q2, e7, Option.bind_some]
      refine ⟨_, rfl, ⟨h1, g3, ?_, h4, rfl, rfl⟩, rfl⟩
      show zr 200 b7 (re ++ if fl.getD se.length 0 = -1 then [c] else if fl.getD se.length 0 = 0 then [] else _)
      rw [if_neg q1, if_neg q2]
      exact g7
/-- the shift behind codes -/
def zshs (u : Int32) : Int32 → List Int32 → Int32
  | s, [] => s
  | s, c :: cs => zshs u (zbeh c s u) cs
def ztxs (flt : List Int32) : List Int32 × List Int32 → List Int32 → List Int32 × List Int32
  | q, [] => q
  | q, c :: cs => ztxs flt (ztx flt q c) cs
theorem ztx_len (fl : List Int32) (q : List Int32 × List Int32) (c : Int32) (h : q.2.length ≤ q.1.length) : (ztx fl q c).2.length ≤ (ztx fl q c).1.length ∧ (ztx fl q c).1.length = q.1.length + 1 := by
  have := zrx_len (fl.getD q.1.length 0) c
  show (q.2 ++ zrx (fl.getD q.1.length 0) c).length ≤ (q.1 ++ [c]).length ∧ (q.1 ++ [c]).length = q.1.length + 1
  refine ⟨?_, by simp⟩
  simp only [List.length_append, List.length_cons, List.length_nil]
  omega
theorem ztxs_len (fl : List Int32) : ∀ (cs : List Int32) (q : List Int32 × List Int32), q.2.length ≤ q.1.length → (ztxs fl q cs).2.length ≤ (ztxs fl q cs).1.length ∧ (ztxs fl q cs).1.length = q.1.length + cs.length
  | [], q, h => ⟨h, rfl⟩
  | c :: cs, q, h => by
    obtain ⟨h1, h2⟩ := ztx_len fl q c h
    obtain ⟨h3, h4⟩ := ztxs_len fl cs _ h1
    exact ⟨h3, by show (ztxs fl (ztx fl q c) cs).1.length = _; rw [h4, h2, List.length_cons]; omega⟩
/-- characters that are written: all but those of code 29 -/
def zwri (cs : List Int32) : List Int32 := cs.filter (fun c => !decide (zcode c = 29))
theorem ze_W {v0 : zLine} {v1 : zRow} {buf : List Int32} (hb : zr 60 v1 buf) : ∀ (d i n : Nat) (w : zLine) (wr se re fl : List Int32) (sh un : Int32), i + d = buf.length → d < n → zrL w wr se re fl sh un → wr.length + d ≤ 200 →
    ∃ w', zf_X3_transmit_L33 10000 60 v0 v1 n (nI i) w.1 w.2.1 w.2.2.1 w.2.2.2.1 w.2.2.2.2.1 w.2.2.2.2.2.1 w.2.2.2.2.2.2 = some w' ∧ zrL w' (wr ++ zwri (buf.drop i)) se re fl sh un
  | d, i, 0, w, wr, se, re, fl, sh, un, hd, hn, h, hl => absurd hn (Nat.not_lt_zero _)
  | 0, i, n + 1, w, wr, se, re, fl, sh, un, hd, hn, h, hl => by
    have hlt := hb.lt
    unfold zf_X3_transmit_L33
    rw [zp_size hb, Option.bind_some, if_pos (nI_le (by omega) (by omega)), List.drop_of_length_le (by omega)]
    exact ⟨w, rfl, by rw [show zwri [] = [] from rfl, List.append_nil]; exact h⟩
  | d + 1, i, n + 1, w, wr, se, re, fl, sh, un, hd, hn, h, hl => by
    have hlt := hb.lt
    have hi : i < buf.length := by omega
    unfold zf_X3_transmit_L33
    rw [zp_size hb, Option.bind_some, if_neg (nI_ge hi (by omega)), zp_at hb (List.getElem?_eq_getElem hi), Option.bind_some, zcode_c, Option.bind_some, List.drop_eq_getElem_cons hi]
    unfold zwri zf_X3_transmit_b67
    by_cases h1 : zcode buf[i] = 29
    · rw [if_pos h1, zlet_eq, nI_1, List.filter_cons_of_neg (by simp [h1])]
      exact ze_W hb d (i + 1) n w wr se re fl sh un (by omega) (by omega) h (by omega)
    · obtain ⟨b, e, g⟩ := zp_add (fu := 10000) h.1 (by omega) buf[i]
      rw [if_neg h1, e, Option.bind_some, zlet_eq, nI_1, List.filter_cons_of_pos (by simp [h1])]
      obtain ⟨w', e', g'⟩ := ze_W hb d (i + 1) n (b, w.2) (wr ++ [buf[i]]) se re fl sh un (by omega) (by omega) ⟨g, h.2⟩ (by rw [List.length_append]; simp only [List.length_cons, List.length_nil]; omega)
      refine ⟨w', e', ?_⟩
      rw [List.append_assoc] at g'
      exact g'
theorem ze_T {v0 : zLine} {v1 : zRow} {buf cs wr fl : List Int32} {un : Int32} (hb : zr 60 v1 buf) (hf : fl.length = 200) (hw : wr.length + buf.length ≤ 200) : ∀ (d i n : Nat) (w : zLine) (se re : List Int32) (sh : Int32), i + d = cs.length → d < n → zr 120 w.2.2.2.2.1 cs → zrL w wr se re fl sh un → se.length + d ≤ 200 → re.length ≤ se.length →
    ∃ w', zf_X3_transmit_L8 10000 60 v0 v1 n (nI i) w.1 w.2.1 w.2.2.1 w.2.2.2.1 w.2.2.2.2.1 w.2.2.2.2.2.1 w.2.2.2.2.2.2 = some w' ∧ zrL w' (wr ++ zwri buf) (ztxs fl (se, re) (cs.drop i)).1 (ztxs fl (se, re) (cs.drop i)).2 fl (zshs un sh (cs.drop i)) un
  | d, i, 0, w, se, re, sh, hd, hn, hc, h, hl, hr => absurd hn (Nat.not_lt_zero _)
  | 0, i, n + 1, w, se, re, sh, hd, hn, hc, h, hl, hr => by
    have hlt := hc.lt
    unfold zf_X3_transmit_L8
    rw [zp_size hc, Option.bind_some, if_pos (nI_le (by omega) (by omega)), List.drop_of_length_le (by omega)]
    have := ze_W (v0 := v0) hb buf.length 0 10000 w wr se re fl sh un (by omega) (by have := hb.2.1; omega) h hw
    rw [nI_0, List.drop_zero] at this
    exact this
  | d + 1, i, n + 1, w, se, re, sh, hd, hn, hc, h, hl, hr => by
    have hlt := hc.lt
    have hi : i < cs.length := by omega
    unfold zf_X3_transmit_L8
    rw [zp_size hc, Option.bind_some, if_neg (nI_ge hi (by omega)), zp_at hc (List.getElem?_eq_getElem hi), Option.bind_some, List.drop_eq_getElem_cons hi]
    obtain ⟨w2, e2, g2, k2⟩ := ze_code h hf (by omega) hr cs[i]
    rw [show ((w.1, w.2.1, w.2.2.1, w.2.2.2.1, w.2.2.2.2.1, w.2.2.2.2.2.1, w.2.2.2.2.2.2) : zLine) = w from rfl, e2, Option.bind_some, zlet_eq, nI_1]
    obtain ⟨h1, h2⟩ := ztx_len fl (se, re) cs[i] hr
    have h2 : (ztx fl (se, re) cs[i]).1.length = se.length + 1 := h2
    exact ze_T hb hf hw d (i + 1) n w2 (ztx fl (se, re) cs[i]).1 (ztx fl (se, re) cs[i]).2 _ (by omega) (by omega) (by rw [k2]; exact hc) g2 (by omega) h1
theorem ze_transmit {v : zLine} {v1 : zRow} {buf wr se re fl : List Int32} {sh un : Int32} (hb : zr 60 v1 buf) (h : zrL v wr se re fl sh un) (hf : fl.length = 200) (hw : wr.length + buf.length ≤ 200) (hl : se.length + (zenc un sh buf).length ≤ 200) (hr : re.length ≤ se.length) :
    ∃ w', zf_X3_transmit 10000 60 v v1 = some w' ∧ zrL w' (wr ++ zwri buf) (ztxs fl (se, re) (zenc un sh buf)).1 (ztxs fl (se, re) (zenc un sh buf)).2 fl (zshs un sh (zenc un sh buf)) un := by
  obtain ⟨e, e1, g1⟩ := ze_encode (v0 := v) hb
  unfold zf_X3_transmit
  rw [e1, Option.bind_some]
  obtain ⟨h1, h2, h3, h4, h5, h6⟩ := h
  rw [h5, h6] at g1
  have hcl := zenc_len un buf sh
  have hbl := hb.2.1
  have := ze_T (v0 := v) hb hf hw (zenc un sh buf).length 0 10000 (v.1, v.2.1, v.2.2.1, v.2.2.2.1, e, v.2.2.2.2.2.1, v.2.2.2.2.2.2) se re sh (by omega) (by omega) g1 ⟨h1, h2, h3, h4, h5, h6⟩ hl hr
  rw [nI_0, List.drop_zero] at this
  exact this
end ZE
