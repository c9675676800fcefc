/-! ===== the pure part: what the law expects to be refused ===== -/
section ZLR
theorem pN1 (j : Nat) (hj : j < 2 ^ 30) : (-1 : Int32) - nI j < 0 := by
  rw [Int32.lt_iff_toInt_lt, Int32.toInt_sub, nI_toInt (by omega), show (-1 : Int32).toInt = -1 by decide, show (0 : Int32).toInt = 0 by decide, Int.bmod_def]
  omega
theorem pN2 (j : Nat) (hj : j < 2 ^ 30) : (-2 : Int32) - nI j < -1 := by
  rw [Int32.lt_iff_toInt_lt, Int32.toInt_sub, nI_toInt (by omega), show (-2 : Int32).toInt = -2 by decide, show (-1 : Int32).toInt = -1 by decide, Int.bmod_def]
  omega
theorem zl_caps : ∀ m : Nat, m < 26 → zcode (nI (65 + m)) = -1 := by decide +kernel
theorem zl_49 : ¬ zcode 49 = -1 ∧ zlet0 49 = false ∧ ¬ zcode 97 = -1 := by decide +kernel
theorem zcode_big {n : Nat} (h : 127 < n) (hn : n < 2 ^ 31) : zcode (nI n) = -1 := by
  unfold zcode
  rw [(zcode_out (Or.inr (show (127 : Int32) < nI n from nI_lt (a := 127) h hn))).1]
  rfl
theorem zh_2i {X : Option (Int32 × Int32)} {c x : Int32} (hX : X = some (c, x)) (hc : c = 0 ∨ c = 1 ∨ c = 2) (e1 e2 : Int32) : (X.bind fun b => if b.1 = 0 then some b.2 else if b.1 = 1 then some e1 else if b.1 = 2 then some e2 else none) = some (zhr c x e1 e2) := by
  rw [hX, Option.bind_some]
  rcases hc with rfl | rfl | rfl
  · rw [zhr_0]
    exact if_pos rfl
  · rw [zhr_1]
    exact (if_neg z10).trans (if_pos rfl)
  · rw [zhr_2]
    exact (if_neg z20).trans ((if_neg z21).trans (if_pos rfl))
theorem zr_s3 (T : zNow × List zNow) : aSnd ([], T) = (1, 0, ([], T)) := if_pos rfl
theorem zr_s5 (T : zNow × List zNow) : aLrn ([], T) = (1, 0, ([], T)) := if_pos (Or.inr rfl)
theorem zr_s7 (T : zNow × List zNow) {j : Nat} (hj : j < 100000) : aFlt ([], T) ((200 : Int32) + nI j) 0 = (1, 0, ([], T)) := aFlt_n (by rw [show (200 : Int32) = nI 200 from by decide, nI_add]; exact zin_b (by omega) (by omega))
theorem zr_s9 (T : zNow × List zNow) {j : Nat} (hj : j < 100000) : aFlt ([], T) ((-1 : Int32) - nI j) 9 = (1, 0, ([], T)) := aFlt_n (zin_n (pN1 j (by omega)))
theorem zr_z0 : zin 0 200 = some 0 := by rw [← nI_0]; exact zin_s (by omega) (by omega)
theorem zr_s11 (T : zNow × List zNow) {j : Nat} (hj : j < 100000) : aFlt ([], T) 0 ((6 : Int32) + nI j) = (2, 0, ([], T)) := aFlt_b zr_z0 (Or.inr (by rw [show (6 : Int32) = nI 6 from by decide, nI_add]; exact nI_lt (a := 5) (by omega) (by omega)))
theorem zr_s13 (T : zNow × List zNow) {j : Nat} (hj : j < 100000) : aFlt ([], T) 0 ((-2 : Int32) - nI j) = (2, 0, ([], T)) := aFlt_b zr_z0 (Or.inl (pN2 j (by omega)))
theorem zr_20 {n j : Nat} (hn : n ≤ 20) (hj : j < 100000) : zin ((20 : Int32) + nI j) n = none := by rw [show (20 : Int32) = nI 20 from by decide, nI_add]; exact zin_b (by omega) (by omega)
theorem zr_m1 {n j : Nat} (hj : j < 100000) : zin ((-1 : Int32) - nI j) n = none := zin_n (pN1 j (by omega))
theorem zr_in {n j : Nat} (hn : n ≤ 300) (hj : j < 100000) : zin (nI n + nI j) n = none := by rw [nI_add]; exact zin_b (by omega) (by omega)
theorem zr_q25 {v : zTR} {A : zAb} (g : zcR v A) (hk : zok A) {a : Int32} (hz : zin a A.2.1.2.2.2.2.1.length = none) : zf_L_wordLetter 10000 v a 0 = some (-2) := by
  unfold zf_L_wordLetter
  rw [cq_letter g hk, Option.bind_some]
  unfold aLet
  rw [hz]
  exact (if_neg z10).trans (if_pos rfl)
theorem zr_q27 {v : zTR} {A : zAb} (g : zcR v A) {a : Int32} (hz : zin a A.2.1.2.2.2.2.1.length = none) : zf_L_uses 10000 v a = some (-2) := by
  unfold zf_L_uses
  rw [cq_uses g, Option.bind_some]
  unfold aUse
  rw [hz]
  exact (if_neg z10).trans (if_pos rfl)
theorem zr_q33 {v : zTR} {A : zAb} (g : zcR v A) (hk : zok A) {a c : Int32} (hz : zin a (A.2.1.2.1.length + 1) = none) : zf_L_doubtfulWith 10000 v a c = some (-3) := by
  have hd : aDwt A a c = (1, 0) := by
    unfold aDwt
    rw [hz]
  unfold zf_L_doubtfulWith
  rw [cq_dwt g hk, hd, Option.bind_some]
  exact (if_neg z10).trans (if_pos rfl)
theorem zr_q35 {v : zTR} {A : zAb} (g : zcR v A) (hk : zok A) {c : Int32} (hc : ¬ (c = 30 ∨ c = 31)) : zf_L_doubtfulWith 10000 v 0 c = some (-2) := by
  have h200 := zr_31 hk
  have hd : aDwt A 0 c = (2, 0) := by
    unfold aDwt
    rw [show zin 0 (A.2.1.2.1.length + 1) = some 0 from by rw [← nI_0]; exact zin_s (by omega) (by omega)]
    exact if_neg hc
  unfold zf_L_doubtfulWith
  rw [cq_dwt g hk, hd, Option.bind_some]
  exact (if_neg z20).trans ((if_neg z21).trans (if_pos rfl))
theorem zr_c32 {j : Nat} (hj : j < 100000) : ¬ ((32 : Int32) + nI j = 30 ∨ (32 : Int32) + nI j = 31) := by
  rw [show (32 : Int32) = nI 32 from by decide, nI_add]
  intro h
  rcases h with h | h
  · have := (nI_eq (a := 32 + j) (b := 30) (by omega) (by omega)).mp h; omega
  · have := (nI_eq (a := 32 + j) (b := 31) (by omega) (by omega)).mp h; omega
theorem zr_s37 (T : zNow × List zNow) {j : Nat} (hj : j < 100000) : aApp ([], T) ((128 : Int32) + nI j) = (1, 0, ([], T)) := if_pos (by rw [show (128 : Int32) = nI 128 from by decide, nI_add]; exact zcode_big (by omega) (by omega))
theorem zr_s39 (T : zNow × List zNow) {j : Nat} (hj : j < 100000) : aApp ([], T) ((65 : Int32) + (nI j - nI j / 26 * 26)) = (1, 0, ([], T)) := if_pos (by rw [show (26 : Int32) = nI 26 from by decide, pk_rem (by omega) (by omega) (by omega), show (65 : Int32) = nI 65 from by decide, nI_add]; exact zl_caps _ (Nat.mod_lt _ (by omega)))
theorem zr_s42 (T : zNow × List zNow) {c : Int32} (hc : ¬ zcode c = -1) : aApp ([], T) c = (0, nI 1, ([c], T)) := by
  unfold aApp
  rw [if_neg hc]
  exact if_pos (show ([] : List Int32).length < 60 by decide)
theorem zr_s44 (T : zNow × List zNow) : aLrn ([49], T) = (1, 0, ([49], T)) := by
  unfold aLrn
  refine if_pos (Or.inl (fun h => ?_))
  have h2 : ([49] : List Int32).all zlet0 = true := h.2
  rw [List.all_cons, zl_49.2.1] at h2
  cases h2
theorem zl_refuses (T : zNow × List zNow) {j : Nat} (hj : j < 100000) (v : zTR) (A : zAb) (hA : A.2 = T) (hv : zcR v A) (hk : zok A) : ∃ v', zf_L_refuses 10000 250 v (nI j) = some (1, v') ∧ zcR v' ([], T) ∧ zok ([], T) := by
  obtain ⟨b0, T2⟩ := A
  have hA : T2 = T := hA
  subst hA
  have o3 := hk.2.2.1
  have h20 : T2.1.2.2.2.2.1.length ≤ 20 := o3.2.2.2.2.2.2.1
  have h200 : T2.1.1.length ≤ 200 := o3.1
  have hr : T2.1.2.1.length ≤ T2.1.1.length := o3.2.1
  have hkl : (zPn T2.1).2.2.1.length ≤ 200 := zh_kl hk
  have hk0 : zok ([], T2) := ok_clr hk
  obtain ⟨v1, e1, g1, -⟩ := zD_clr (b0, T2) v hv hk
  -- send
  have s3 := zr_s3 T2
  obtain ⟨v3, e3, g3, -⟩ := zD_snd ([], T2) v1 g1 hk0
  rw [s3, zhr_1] at e3
  rw [s3] at g3
  -- learn
  have s5 := zr_s5 T2
  obtain ⟨v5, e5, g5, -⟩ := zD_lrn ([], T2) v3 g3 hk0
  rw [s5, zhr_1] at e5
  rw [s5] at g5
  -- faults
  have s7 := zr_s7 T2 hj
  obtain ⟨v7, e7, g7, -⟩ := zD_flt ([], T2) ((200 : Int32) + nI j) 0 v5 g5 hk0
  rw [s7, zhr_1] at e7
  rw [s7] at g7
  have s9 := zr_s9 T2 hj
  obtain ⟨v9, e9, g9, -⟩ := zD_flt ([], T2) ((-1 : Int32) - nI j) 9 v7 g7 hk0
  rw [s9, zhr_1] at e9
  rw [s9] at g9
  have s11 := zr_s11 T2 hj
  obtain ⟨v11, e11, g11, -⟩ := zD_flt ([], T2) 0 ((6 : Int32) + nI j) v9 g9 hk0
  rw [s11, zhr_2] at e11
  rw [s11] at g11
  have s13 := zr_s13 T2 hj
  obtain ⟨v13, e13, g13, -⟩ := zD_flt ([], T2) 0 ((-2 : Int32) - nI j) v11 g11 hk0
  rw [s13, zhr_2] at e13
  rw [s13] at g13
  -- words
  have n20 : zin ((20 : Int32) + nI j) T2.1.2.2.2.2.1.length = none := zr_20 h20 hj
  have nm1 : zin ((-1 : Int32) - nI j) T2.1.2.2.2.2.1.length = none := zr_m1 hj
  have s15 : aFgt ([], T2) ((20 : Int32) + nI j) = (1, 0, ([], T2)) := aFgt_n n20
  obtain ⟨v15, e15, g15, -⟩ := zD_fgt ([], T2) ((20 : Int32) + nI j) v13 g13 hk0
  rw [s15, zhr_1] at e15
  rw [s15] at g15
  have s17 : aFgt ([], T2) ((-1 : Int32) - nI j) = (1, 0, ([], T2)) := aFgt_n nm1
  obtain ⟨v17, e17, g17, -⟩ := zD_fgt ([], T2) ((-1 : Int32) - nI j) v15 g15 hk0
  rw [s17, zhr_1] at e17
  rw [s17] at g17
  -- asked
  have q20 : zf_L_sentCode 10000 v17 (nI T2.1.1.length + nI j) = some (-2) := zh_no (cq_sentCode g17 _) (zr_in (Nat.le_trans h200 (by omega)) hj)
  have q23 : zf_L_receivedCode 10000 v17 (nI T2.1.2.1.length + nI j) = some (-2) := zh_no (cq_recvCode g17 _) (zr_in (Nat.le_trans hr (Nat.le_trans h200 (by omega))) hj)
  have q25 := zr_q25 g17 hk0 n20
  have q27 := zr_q27 g17 nm1
  have q30 : zf_L_segmentKind 10000 v17 (nI (zPn T2.1).2.2.1.length + nI j) = some (-2) := zh_no (cq_segKind g17 _) (zr_in (Nat.le_trans hkl (by omega)) hj)
  have q33 : zf_L_doubtfulWith 10000 v17 ((nI T2.1.2.1.length + (1 : Int32)) + nI j) 30 = some (-3) := zr_q33 g17 hk0 (by rw [nI_1]; exact zr_in (show T2.1.2.1.length + 1 ≤ 300 by omega) hj)
  have q35 : zf_L_doubtfulWith 10000 v17 0 ((32 : Int32) + nI j) = some (-2) := zr_q35 g17 hk0 (zr_c32 hj)
  -- appends that are refused
  have s37 := zr_s37 T2 hj
  obtain ⟨v37, e37, g37, -⟩ := zD_app ([], T2) ((128 : Int32) + nI j) v17 g17 hk0
  rw [s37, zhr_1] at e37
  rw [s37] at g37
  have s39 := zr_s39 T2 hj
  obtain ⟨v39, e39, g39, -⟩ := zD_app ([], T2) ((65 : Int32) + (nI j - nI j / 26 * 26)) v37 g37 hk0
  rw [s39, zhr_1] at e39
  rw [s39] at g39
  -- a digit is appended, is no word, goes
  have s42 := zr_s42 T2 zl_49.1
  obtain ⟨v42, e42, g42, k42⟩ := zD_app ([], T2) 49 v39 g39 hk0
  rw [s42, zhr_0] at e42
  rw [s42] at g42 k42
  have s44 := zr_s44 T2
  obtain ⟨v44, e44, g44, k44⟩ := zD_lrn ([49], T2) v42 g42 k42
  rw [s44, zhr_1] at e44
  rw [s44] at g44 k44
  obtain ⟨v46, e46, g46, k46⟩ := zD_clr ([49], T2) v44 g44 k44
  refine ⟨v46, ?_, g46, k46⟩
  have c17s := cq_sent g17
  have c17r := cq_recv g17
  have c17g := cq_segs g17
  unfold zf_L_refuses
  refine zh_bd e1 (zh_nf (nI_pos (by have := hk.2.1; show b0.length < _; have h60 : b0.length ≤ 60 := hk.2.1; omega)) ?_)
  refine zh_bd e3 (zh_if rfl ?_)
  refine zh_bd e5 (zh_if rfl ?_)
  refine zh_bd e7 (zh_if rfl ?_)
  refine zh_bd e9 (zh_if rfl ?_)
  refine zh_bd e11 (zh_if rfl ?_)
  refine zh_bd e13 (zh_if rfl ?_)
  refine zh_bd e15 (zh_if rfl ?_)
  refine zh_bd e17 (zh_if rfl ?_)
  refine zh_bd c17s (zh_bd q20 (zh_if rfl ?_))
  refine zh_bd c17r (zh_bd q23 (zh_if rfl ?_))
  refine zh_bd q25 (zh_if rfl ?_)
  refine zh_bd q27 (zh_if rfl ?_)
  refine zh_bd c17g (zh_bd q30 (zh_if rfl ?_))
  refine zh_bd c17r (zh_bd q33 (zh_if rfl ?_))
  refine zh_bd q35 (zh_if rfl ?_)
  refine zh_bd e37 (zh_if rfl ?_)
  refine zh_bd e39 (zh_if rfl ?_)
  unfold zf_L_refuses_b248
  refine zh_nf z10 ?_
  refine zh_bd e42 (zh_if (show nI 1 = 1 by decide) ?_)
  refine zh_bd e44 (zh_if rfl ?_)
  refine zh_bd e46 (zh_if (show nI ([49] : List Int32).length = 1 by decide) ?_)
  rfl
end ZLR
