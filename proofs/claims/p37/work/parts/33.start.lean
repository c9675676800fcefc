def zSv0 : zSaved := ((fun _ => 0, 0), (fun _ => 0, 0), 0, 0, 0, 0, 0)
def zTR0 (r : zRow) : zTR := ((fun _ => 0, 0), ((fun _ => 0, 0), (fun _ => 0, 0), (fun _ => 0, 0), r, (fun _ => 0, 0), 0, 0), (fun _ => 0, 0), ((fun _ => 0, 0), (fun _ => 0, 0), (fun _ => 0, 0), (fun _ => 0, 0), (fun _ => 0, 0), 0, 0, 0), (fun _ => zSv0, 0))
def zA0 (n1 : Nat) (u : Nat → Nat) : Nat → Nat := fun i => match i with | 0 => n1 | i + 1 => u (i + 1)
def zH0 (u : Nat → Nat) : Nat → Nat := fun i => u (30 + i)
theorem zT_ix1 {G : zgG} {a hb : Nat → Nat} {v : zTR} {q} : zI1.map (fun i => (zTc G a hb v ++ [q])[i]?) = (zTc G a hb v).map some := rfl
set_option maxHeartbeats 8000000 in
set_option maxRecDepth 100000 in
theorem zc_start (G : zgG) (hst : G.1.stackTraces = false) (fu fn fl : Nat) (hfn : fn ≤ 250) (hfl : fl ≤ 31) (xs : Nat → Int32) (Ls : Nat) (sb : Nat) (Z : zgZ) (X : zgCx G Z cL_law RL (some .boolean) 8 wsL_law) (hX : va_X sb Ls xs (zZs Z) (zZs Z).heap) (hbl : sb < (zZs Z).heap.size) (hbA : ¬ zZA Z sb)
    (hend : ∀ (k n pc : Nat) (ws : va_W) (L : List (Nat × Value)), k ≤ 600000 → n ≤ 7300000 → decode cL_law pc = .ok (.ireturn, 1) → zgGd G Z room_1 k n 8 ws pc L [.int 1]) (r : zRow) (hr : zf_X5_fill fu 200 ((fun _ => 0), 0) 200 (-1) = some r) (hp : zf_L_law_b16 fu fn fl xs Ls (zTR0 r) (zTR0 r) = some 1) : zgGd G Z room_1 0 0 8 [] 0 [(0, .ref sb)] [] := by
  have hi7 : ∀ w ∈ u_ws RX7 TX7 5, w ∈ wsL_law := by decide +kernel
  have hc7 : Cond.classLink RL 10 RX7 ∈ wsL_law := by decide +kernel
  have hn7 : Cond.instantiable RX7 5 ∈ wsL_law := by decide +kernel
  have ht7 : Cond.initialized RX7 ∈ wsL_law := by decide +kernel
  have hy7 : Cond.initialized yX7_init.cls ∈ wsL_law := by decide +kernel
  have hl7 : Cond.methodLink RL 157 yX7_init ∈ wsL_law := by decide +kernel
  have hm7 : Cond.instanceMethod yX7_init ∈ wsL_law := by decide +kernel
  refine zg_new (C := RX7) (T := TX7) (N := 5) (ci := 6) (fs := [.null, .null, .null, .null, .null]) X hi7 tyX7 tyX7_ok hc7 hn7 ht7 rfl (fun j hj => by rcases (show j = 0 ∨ j = 1 ∨ j = 2 ∨ j = 3 ∨ j = 4 by omega) with rfl | rfl | rfl | rfl | rfl <;> rfl) (Nat.le_of_ble_eq_true rfl) (Nat.le_of_ble_eq_true rfl) dL_law_0 (fun n1 => ?_)
  refine zg_ws (ws' := [(n1, .inr (6, [.null, .null, .null, .null, .null]))]) rfl ?_
  refine zg_dup X dL_law_3 rfl ?_
  refine zg_callJ (wr := []) X (zg_runI X (zc_X7_init G n1 fu r hr) gL_law_X7_init rfl hy7 hl7 hm7 zh_X7_init rfl ⟨rfl, rfl⟩ ⟨Nat.le_of_ble_eq_true rfl, Nat.le_of_ble_eq_true rfl⟩ rfl (Nat.le_of_ble_eq_true rfl) ⟨Nat.le_of_ble_eq_true rfl, Nat.le_of_ble_eq_true rfl⟩ [0] (by decide) rfl rfl dL_law_4) [] rfl (by decide) (by decide) (fun u1 => ?_)
  refine zg_ws (ws' := zTc G (zA0 n1 u1) (zH0 u1) (zTR0 r)) rfl ?_
  refine zg_astore_n (L' := [(1, .ref n1), (0, .ref sb)]) X dL_law_7 rfl (by decide) rfl ?_
  refine zg_pc 8 rfl ?_
  refine zg_new (C := RX7) (T := TX7) (N := 5) (ci := 6) (fs := [.null, .null, .null, .null, .null]) X hi7 tyX7 tyX7_ok hc7 hn7 ht7 rfl (fun j hj => by rcases (show j = 0 ∨ j = 1 ∨ j = 2 ∨ j = 3 ∨ j = 4 by omega) with rfl | rfl | rfl | rfl | rfl <;> rfl) (Nat.le_of_ble_eq_true rfl) (Nat.le_of_ble_eq_true rfl) dL_law_8 (fun n2 => ?_)
  refine zg_ws (ws' := zTc G (zA0 n1 u1) (zH0 u1) (zTR0 r) ++ [(n2, .inr (6, [.null, .null, .null, .null, .null]))]) rfl ?_
  refine zg_dup X dL_law_11 rfl ?_
  refine zg_callJ (wr := zTc G (zA0 n1 u1) (zH0 u1) (zTR0 r)) X (zg_runI X (zc_X7_init G n2 fu r hr) gL_law_X7_init rfl hy7 hl7 hm7 zh_X7_init rfl ⟨rfl, rfl⟩ ⟨Nat.le_of_ble_eq_true rfl, Nat.le_of_ble_eq_true rfl⟩ rfl (Nat.le_of_ble_eq_true rfl) ⟨Nat.le_of_ble_eq_true rfl, Nat.le_of_ble_eq_true rfl⟩ [60] (by decide) rfl rfl dL_law_12) zI1 zT_ix1 zT_nd (by decide) (fun u2 => ?_)
  refine zg_ws (ws' := zTc G (zA0 n1 u1) (zH0 u1) (zTR0 r) ++ zTc G (zA0 n2 u2) (zH0 u2) (zTR0 r)) rfl ?_
  refine zg_astore_n (L' := [(2, .ref n2), (1, .ref n1), (0, .ref sb)]) X dL_law_15 rfl (by decide) rfl ?_
  refine zg_loc [2, 1, 0] rfl ?_
  refine zg_pc 16 rfl ?_
  exact zc_law G hst fu fn fl hfn hfl xs Ls (zA0 n1 u1) (zA0 n2 u2) sb Z X hX hbl hbA hend (zH0 u1) (zH0 u2) _ _ (zTR0 r) (zTR0 r) (by decide) (by decide) hp
