/-! ===== the pure part: the class's calls over lists ===== -/
section ZK
/-- buffer, the line and the words now, the saved states -/
abbrev zAb : Type := List Int32 × zNow × List zNow
def zPn (S : zNow) : zPr := zdec (S.2.2.2.2.1.map zpk) S.2.2.2.2.2.2 [] S.2.1 zP0
def zcR (v : zTR) (A : zAb) : Prop := zr 60 v.1 A.1 ∧ zrC v.2.1 v.2.2.1 A.2.1 ∧ zrP v.2.2.2.1 (zPn A.2.1) (zstl (zsgs 0 0 A.2.1.2.1)) ∧ zrH v.2.2.2.2 A.2.2
def zwd (w : List Int32) : Prop := 0 < w.length ∧ w.length ≤ 6 ∧ ∀ c ∈ w, zsg c = true ∧ zcd c
/-- what always holds of the line and the words -/
def zokS (S : zNow) : Prop := S.1.length ≤ 200 ∧ S.2.1.length ≤ S.1.length ∧ S.2.2.1.length ≤ S.1.length ∧ (∀ c ∈ S.2.1, zcd c) ∧ S.2.2.2.1.length = 200 ∧ (∀ f ∈ S.2.2.2.1, f = -1 ∨ ∃ k : Nat, k ≤ 5 ∧ f = nI k) ∧ S.2.2.2.2.1.length ≤ 20 ∧ (∀ w ∈ S.2.2.2.2.1, zwd w) ∧ S.2.2.2.2.1.Nodup ∧ zbit S.2.2.2.2.2.1 ∧ zbit S.2.2.2.2.2.2
def zok (A : zAb) : Prop := (∀ c ∈ A.1, ¬ zcode c = -1) ∧ A.1.length ≤ 60 ∧ zokS A.2.1 ∧ A.2.2.length ≤ 6 ∧ (∀ S ∈ A.2.2, zokS S) ∧ (A.2.2 ++ [A.2.1]).Pairwise zpre
theorem zokS.un {S : zNow} (h : zokS S) : zbit S.2.2.2.2.2.2 := h.2.2.2.2.2.2.2.2.2.2
theorem zokS.sh {S : zNow} (h : zokS S) : zbit S.2.2.2.2.2.1 := h.2.2.2.2.2.2.2.2.2.1
theorem zokS.w0 {S : zNow} (h : zokS S) : (0 : Int32) ∉ S.2.2.2.2.1.map zpk := by
  intro hm
  obtain ⟨w, hw, e⟩ := List.mem_map.mp hm
  obtain ⟨h1, h2, h3⟩ := h.2.2.2.2.2.2.2.1 w hw
  exact zpk_ne0 h3 h1 h2 e
theorem zk_anew (v0 : zPrinter) {v1 : zLine} {v2 : zRow} {S : zNow} (h : zrC v1 v2 S) (hk : zokS S) : ∃ b, zf_X4_decode 10000 v0 v1 v2 = some b ∧ zrP b (zPn S) (zstl (zsgs 0 0 S.2.1)) := by
  obtain ⟨⟨h1, h2, h3, h4, h5, h6⟩, h7⟩ := h
  obtain ⟨b, e, g⟩ := zd_decode (v0 := v0) (v1 := v1) h3 h7 hk.w0 hk.2.2.2.1
  rw [h6] at g
  exact ⟨b, e, g⟩
/-- append -/
def aApp (A : zAb) (c : Int32) : Int32 × Int32 × zAb := if zcode c = -1 then (1, 0, A) else if A.1.length < 60 then (0, nI (A.1.length + 1), (A.1 ++ [c], A.2)) else (2, 0, A)
theorem ck_app {v : zTR} {A : zAb} (h : zcR v A) (c : Int32) : ∃ v', zf_X7_append 10000 v c = some ((aApp A c).1, (aApp A c).2.1, v') ∧ zcR v' (aApp A c).2.2 := by
  obtain ⟨h1, h2, h3, h4⟩ := h
  have hlt := h1.lt
  unfold zf_X7_append aApp
  rw [zcode_c, Option.bind_some]
  by_cases hc : zcode c = -1
  · rw [if_pos hc, if_pos hc]
    exact ⟨v, rfl, h1, h2, h3, h4⟩
  · rw [if_neg hc, if_neg hc, zp_size h1, Option.bind_some]
    by_cases hl : A.1.length < 60
    · obtain ⟨b, e, g⟩ := zp_add (fu := 10000) h1 hl c
      rw [if_pos (show nI A.1.length < 60 from nI_lt (b := 60) hl (by omega)), if_pos hl, e, Option.bind_some, zp_size g, Option.bind_some]
      rw [List.length_append]
      exact ⟨_, rfl, g, h2, h3, h4⟩
    · rw [if_neg (show ¬ nI A.1.length < 60 from nI_nlt (b := 60) (by omega) hlt), if_neg hl]
      exact ⟨v, rfl, h1, h2, h3, h4⟩
theorem ok_app {A : zAb} (h : zok A) (c : Int32) : zok (aApp A c).2.2 := by
  unfold aApp
  by_cases hc : zcode c = -1
  · rw [if_pos hc]; exact h
  rw [if_neg hc]
  by_cases hl : A.1.length < 60
  · rw [if_pos hl]
    refine ⟨fun x hx => ?_, by show (A.1 ++ [c]).length ≤ 60; rw [List.length_append]; exact hl, h.2.2⟩
    rcases List.mem_append.mp hx with hx | hx
    · exact h.1 x hx
    · rw [List.mem_singleton.mp hx]; exact hc
  · rw [if_neg hl]; exact h
/-- clearBuffer -/
def aClr (A : zAb) : Int32 × zAb := (nI A.1.length, ([], A.2))
theorem ck_clr {v : zTR} {A : zAb} (h : zcR v A) : ∃ v', zf_X7_clearBuffer 10000 v = some ((aClr A).1, v') ∧ zcR v' (aClr A).2 := by
  obtain ⟨h1, h2, h3, h4⟩ := h
  obtain ⟨b, e, g⟩ := zp_clear (fu := 10000) h1
  unfold zf_X7_clearBuffer
  rw [zp_size h1, Option.bind_some, e, Option.bind_some]
  exact ⟨_, rfl, g, h2, h3, h4⟩
theorem ok_clr {A : zAb} (h : zok A) : zok (aClr A).2 := ⟨fun x hx => absurd hx List.not_mem_nil, Nat.zero_le _, h.2.2⟩
/-- codesToSend -/
def aNeed (A : zAb) : List Int32 := zenc A.2.1.2.2.2.2.2.2 A.2.1.2.2.2.2.2.1 A.1
theorem ck_need {v : zTR} {A : zAb} (h : zcR v A) : ∃ v', zf_X7_codesToSend 10000 v = some (nI (aNeed A).length, v') ∧ zcR v' A := by
  obtain ⟨h1, h2, h3, h4⟩ := h
  obtain ⟨⟨k1, k2, k3, k4, k5, k6⟩, k7⟩ := h2
  obtain ⟨b, e, g⟩ := ze_encode (v0 := v.2.1) h1
  unfold zf_X7_codesToSend
  rw [e, Option.bind_some]
  rw [k5, k6] at g
  rw [show zf_X5_size 10000 120 (v.2.1.1, v.2.1.2.1, v.2.1.2.2.1, v.2.1.2.2.2.1, b, v.2.1.2.2.2.2.2.1, v.2.1.2.2.2.2.2.2).2.2.2.2.1 = some (nI (aNeed A).length) from zp_size g, Option.bind_some]
  exact ⟨_, rfl, h1, ⟨⟨k1, k2, k3, k4, k5, k6⟩, k7⟩, h3, h4⟩
/-- send -/
def aSnd (A : zAb) : Int32 × Int32 × zAb := if A.1 = [] then (1, 0, A) else if A.2.1.1.length + (aNeed A).length ≤ 200 then (0, nI ((ztxs A.2.1.2.2.2.1 (A.2.1.1, A.2.1.2.1) (aNeed A)).2.length - A.2.1.2.1.length), ([], ((ztxs A.2.1.2.2.2.1 (A.2.1.1, A.2.1.2.1) (aNeed A)).1, (ztxs A.2.1.2.2.2.1 (A.2.1.1, A.2.1.2.1) (aNeed A)).2, A.2.1.2.2.1 ++ zwri A.1, A.2.1.2.2.2.1, A.2.1.2.2.2.2.1, zshs A.2.1.2.2.2.2.2.2 A.2.1.2.2.2.2.2.1 (aNeed A), A.2.1.2.2.2.2.2.2), zHs A.2.2 A.2.1)) else (1, 0, A)
theorem zenc_ge (u : Int32) : ∀ (cs : List Int32) (s : Int32), cs.length ≤ (zenc u s cs).length
  | [], _ => Nat.le_refl _
  | c :: cs, s => by
    unfold zenc
    split
    · have := zenc_ge u cs (zbeh (zcode c) s u)
      simp only [List.length_cons]; omega
    · have := zenc_ge u cs (zbeh (zcode c) (zsft c) u)
      simp only [List.length_cons]; omega
theorem zenc_cd (u : Int32) : ∀ (cs : List Int32) (s : Int32), (∀ c ∈ cs, ¬ zcode c = -1) → ∀ c ∈ zenc u s cs, zcd c
  | [], _, _, c, hc => by rw [show zenc u _ [] = [] from by unfold zenc; rfl] at hc; exact absurd hc List.not_mem_nil
  | x :: cs, s, h, c, hc => by
    have hx : zcd (zcode x) := by
      rcases zcode_r x with e | ⟨j, hj, -, e⟩
      · exact absurd e (h x List.mem_cons_self)
      · exact ⟨j, by omega, e⟩
    have hr := fun s => zenc_cd u cs s (fun c hc => h c (List.mem_cons_of_mem _ hc))
    unfold zenc at hc
    split at hc
    · rcases List.mem_cons.mp hc with rfl | hc
      · exact hx
      · exact hr _ c hc
    · rcases List.mem_cons.mp hc with rfl | hc
      · split
        · exact ⟨30, by omega, by decide⟩
        · exact ⟨31, by omega, by decide⟩
      · rcases List.mem_cons.mp hc with rfl | hc
        · exact hx
        · exact hr _ c hc
theorem zxor_cd : ∀ k : Nat, k < 32 → ∀ f : Nat, f < 6 → f = 0 ∨ ∃ j : Nat, j < 32 ∧ (nI k ^^^ ((1 : Int32) <<< ((nI f - 1) &&& 31))) = nI j := by decide +kernel
theorem zrx_cd {f c : Int32} (hf : f = -1 ∨ ∃ k : Nat, k ≤ 5 ∧ f = nI k) (hc : zcd c) : ∀ x ∈ zrx f c, zcd x := by
  intro x hx
  unfold zrx at hx
  split at hx
  · rw [List.mem_singleton.mp hx]; exact hc
  · split at hx
    · exact absurd hx List.not_mem_nil
    · rename_i h1 h2
      rw [List.mem_singleton.mp hx]
      obtain ⟨k, hk, rfl⟩ := hc
      rcases hf with hf | ⟨j, hj, rfl⟩
      · exact absurd hf h1
      · rcases zxor_cd k hk j (by omega) with rfl | h
        · exact absurd nI_0 h2
        · exact h
theorem ztxs_cd {fl : List Int32} (hf : ∀ f ∈ fl, f = -1 ∨ ∃ k : Nat, k ≤ 5 ∧ f = nI k) : ∀ (cs : List Int32) (q : List Int32 × List Int32), (∀ c ∈ cs, zcd c) → (∀ c ∈ q.2, zcd c) → ∀ c ∈ (ztxs fl q cs).2, zcd c
  | [], q, _, h => h
  | c :: cs, q, hc, h => by
    refine ztxs_cd hf cs (ztx fl q c) (fun x hx => hc x (List.mem_cons_of_mem _ hx)) (fun x hx => ?_)
    rcases List.mem_append.mp hx with hx | hx
    · exact h x hx
    · refine zrx_cd ?_ (hc c List.mem_cons_self) x hx
      by_cases hl : q.1.length < fl.length
      · rw [List.getD_eq_getElem?_getD, List.getElem?_eq_getElem hl]
        exact hf _ (List.getElem_mem hl)
      · rw [List.getD_eq_getElem?_getD, List.getElem?_eq_none (by omega)]
        exact Or.inr ⟨0, by omega, nI_0.symm⟩
theorem ztxs_pre (fl : List Int32) : ∀ (cs : List Int32) (q : List Int32 × List Int32), q.1 <+: (ztxs fl q cs).1 ∧ q.2 <+: (ztxs fl q cs).2
  | [], q => ⟨List.prefix_refl _, List.prefix_refl _⟩
  | c :: cs, q => by
    obtain ⟨h1, h2⟩ := ztxs_pre fl cs (ztx fl q c)
    exact ⟨(List.prefix_append _ _).trans h1, (List.prefix_append _ _).trans h2⟩
theorem zshs_bit {u : Int32} : ∀ (cs : List Int32) (s : Int32), zbit s → zbit (zshs u s cs)
  | [], s, h => h
  | c :: cs, s, h => zshs_bit cs _ (zd_beh h)
theorem ck_snd {v : zTR} {A : zAb} (h : zcR v A) (hk : zok A) : ∃ v', zf_X7_send 10000 v = some ((aSnd A).1, (aSnd A).2.1, v') ∧ zcR v' (aSnd A).2.2 := by
  obtain ⟨v4, e4, g4⟩ := ck_need h
  have h0 := h
  obtain ⟨h1, h2, h3, h4⟩ := h
  obtain ⟨⟨k1, k2, k3, k4, k5, k6⟩, k7⟩ := h2
  obtain ⟨o1, o2, o3, o4, o5, o6⟩ := hk
  have hlt := h1.lt
  have hnl := zenc_len A.2.1.2.2.2.2.2.2 A.1 A.2.1.2.2.2.2.2.1
  have hng := zenc_ge A.2.1.2.2.2.2.2.2 A.1 A.2.1.2.2.2.2.2.1
  unfold zf_X7_send aSnd zf_X7_sent
  rw [zp_size h1, Option.bind_some]
  by_cases hb : A.1 = []
  · rw [if_pos (show nI A.1.length = 0 by rw [hb]; exact nI_0), if_pos hb]
    exact ⟨v, rfl, h0⟩
  have hpos : 0 < A.1.length := List.length_pos_iff.mpr hb
  rw [if_neg (nI_ne0 hpos hlt), if_neg hb, zp_size k2, Option.bind_some, Option.bind_some, e4, Option.bind_some, nI_add]
  have hnl' : (aNeed A).length ≤ 2 * A.1.length := hnl
  have hng' : A.1.length ≤ (aNeed A).length := hng
  have o31 := o3.1
  by_cases hle : A.2.1.1.length + (aNeed A).length ≤ 200
  · rw [if_pos (show nI (A.2.1.1.length + (aNeed A).length) ≤ 200 from nI_le (b := 200) hle (by omega)), if_pos hle]
    obtain ⟨g1, g2, g3, g5⟩ := g4
    obtain ⟨b6, e6, g6⟩ := zh_save g5 g2 o3.un
    have g22 := g2
    obtain ⟨⟨m1, m2, m3, m4, m5, m6⟩, m7⟩ := g2
    obtain ⟨b8, e8, g8⟩ := ze_transmit (un := A.2.1.2.2.2.2.2.2) (sh := A.2.1.2.2.2.2.2.1) g1 ⟨m1, m2, m3, m4, m5, m6⟩ o3.2.2.2.2.1 (by have := o3.2.2.1; omega) hle o3.2.1
    obtain ⟨b9, e9, g9⟩ := zp_clear (fu := 10000) g1
    unfold zf_X7_received
    rw [e6, Option.bind_some]
    rw [show zf_X5_size 10000 200 (v4.1, v4.2.1, v4.2.2.1, v4.2.2.2.1, b6).2.1.2.2.1 = some (nI A.2.1.2.1.length) from zp_size m3, Option.bind_some, Option.bind_some, e8, Option.bind_some, e9, Option.bind_some]
    have hok' : zokS ((ztxs A.2.1.2.2.2.1 (A.2.1.1, A.2.1.2.1) (aNeed A)).1, (ztxs A.2.1.2.2.2.1 (A.2.1.1, A.2.1.2.1) (aNeed A)).2, A.2.1.2.2.1 ++ zwri A.1, A.2.1.2.2.2.1, A.2.1.2.2.2.2.1, zshs A.2.1.2.2.2.2.2.2 A.2.1.2.2.2.2.2.1 (aNeed A), A.2.1.2.2.2.2.2.2) := by
      obtain ⟨q1, q2⟩ := ztxs_len A.2.1.2.2.2.1 (aNeed A) (A.2.1.1, A.2.1.2.1) o3.2.1
      have q2 : (ztxs A.2.1.2.2.2.1 (A.2.1.1, A.2.1.2.1) (aNeed A)).1.length = A.2.1.1.length + (aNeed A).length := q2
      have hw : (zwri A.1).length ≤ A.1.length := List.length_filter_le _ _
      refine ⟨by show (ztxs A.2.1.2.2.2.1 (A.2.1.1, A.2.1.2.1) (aNeed A)).1.length ≤ 200; omega, q1, ?_, ztxs_cd o3.2.2.2.2.2.1 _ _ (zenc_cd _ _ _ o1) o3.2.2.2.1, o3.2.2.2.2.1, o3.2.2.2.2.2.1, o3.2.2.2.2.2.2.1, o3.2.2.2.2.2.2.2.1, o3.2.2.2.2.2.2.2.2.1, zshs_bit _ _ o3.sh, o3.un⟩
      show (A.2.1.2.2.1 ++ zwri A.1).length ≤ (ztxs A.2.1.2.2.2.1 (A.2.1.1, A.2.1.2.1) (aNeed A)).1.length
      rw [List.length_append]
      have := o3.2.2.1
      omega
    obtain ⟨b, e, g⟩ := zk_anew v4.2.2.2.1 (v1 := b8) (v2 := v4.2.2.1) (S := ((ztxs A.2.1.2.2.2.1 (A.2.1.1, A.2.1.2.1) (aNeed A)).1, (ztxs A.2.1.2.2.2.1 (A.2.1.1, A.2.1.2.1) (aNeed A)).2, A.2.1.2.2.1 ++ zwri A.1, A.2.1.2.2.2.1, A.2.1.2.2.2.2.1, zshs A.2.1.2.2.2.2.2.2 A.2.1.2.2.2.2.2.1 (aNeed A), A.2.1.2.2.2.2.2.2)) ⟨g8, m7⟩ hok'
    rw [e, Option.bind_some]
    rw [show zf_X5_size 10000 200 (b9, b8, v4.2.2.1, b, b6).2.1.2.2.1 = some (nI (ztxs A.2.1.2.2.2.1 (A.2.1.1, A.2.1.2.1) (aNeed A)).2.length) from zp_size g8.2.2.1, Option.bind_some, Option.bind_some, zlet_eq]
    have hp := (ztxs_pre A.2.1.2.2.2.1 (aNeed A) (A.2.1.1, A.2.1.2.1)).2.length_le
    have hsub : nI (ztxs A.2.1.2.2.2.1 (A.2.1.1, A.2.1.2.1) (aNeed A)).2.length - nI A.2.1.2.1.length = nI ((ztxs A.2.1.2.2.2.1 (A.2.1.1, A.2.1.2.1) (aNeed A)).2.length - A.2.1.2.1.length) := by
      have hp : A.2.1.2.1.length ≤ (ztxs A.2.1.2.2.2.1 (A.2.1.1, A.2.1.2.1) (aNeed A)).2.length := hp
      have := nI_subL A.2.1.2.1.length ((ztxs A.2.1.2.2.2.1 (A.2.1.1, A.2.1.2.1) (aNeed A)).2.length - A.2.1.2.1.length)
      rw [Nat.add_sub_cancel' hp] at this
      exact this
    rw [hsub]
    exact ⟨_, rfl, g9, ⟨g8, m7⟩, g, g6⟩
  · rw [if_neg (show ¬ nI (A.2.1.1.length + (aNeed A).length) ≤ 200 from nI_ge (a := 200) (by omega) (by omega)), if_neg hle]
    exact ⟨v4, rfl, g4⟩
end ZK
