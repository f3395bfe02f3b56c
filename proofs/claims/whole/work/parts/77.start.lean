-- printed by wip/whole/gen/c_start2.py: the law from its start on
set_option maxHeartbeats 8000000 in
set_option maxRecDepth 100000 in
theorem lw_start {p : Program} {e : Env} {s : State} {m : MethodId} {below : List Frame} {meth : Method} {c : Code} (l : Launch) {b L : Nat} {ys : Nat → Int32} (hL : L ≤ 2051) (C0 : lw_At p s m meth c b L ys) : W p l e room_1 s m #[Value.ref b] below meth c s.heap [] 0 0 (lw_Z below #[Value.ref b] s) (entryFrame m ([Value.ref b] : List Value).toArray 4) := by
  obtain ⟨hx, hb, hr, hml, hown, hts, hX, hbl, hlocks, -⟩ := C0
  obtain ⟨D, g, hK, hE⟩ := lw_known hts
  have cx : gX rn_W cb_W_law 4 p c s m #[Value.ref b] D g := ⟨⟨hx, hb, hml, hown, fun w h => hts w (gw_sub h)⟩, hK, hE⟩
  obtain ⟨B, hB⟩ : ∃ B, B = s.heap.size := ⟨_, rfl⟩
  have hbB : b < B := by omega
  have hP : gP D B B (fun _ => none) s.heap := ⟨hB.symm, Nat.le_refl _, fun a e h => by cases h⟩
  have hS : gS B s.heap s.heap [] := va_S.rf
  have hN3 := (clN_b (show 3 ≤ 7 by omega) (scv L ys 0)).1
  have hN7 := (clN_b (show 3 ≤ 7 by omega) (scv L ys 0)).2
  have hK1 := (clN_b (show 1 ≤ clN 3 7 (scv L ys 0) by omega) (scv L ys 1)).1
  have hKN := (clN_b (show 1 ≤ clN 3 7 (scv L ys 0) by omega) (scv L ys 1)).2
  have hE3 := (clN_b (show 0 ≤ 3 by omega) (scv L ys 2)).2
  rw [lg_entry_eq]
  suffices main : ∀ ls : Array Slot, lv_has ls 4 [(0, .ref b)] → W p l e room_1 s m #[Value.ref b] below meth c s.heap [] 0 0 (lw_Z below #[Value.ref b] s) (F0 m 0 ls []) from main _ (lv_entry [Value.ref b] (Nat.le_of_ble_eq_true rfl))
  intro ls hl
  refine g_new (pc := 0) (ci := 5) (fs := [.int 0, .int 0, .null, .null, .null, .null, .null, .int 0]) cx hP hS kl_W_X is_X in_X rfl wf_X ty_X tk_X (fun j hj => match j, hj with | 0, _ => rfl | 1, _ => rfl | 2, _ => rfl | 3, _ => rfl | 4, _ => rfl | 5, _ => rfl | 6, _ => rfl | 7, _ => rfl | q + 8, hj => absurd hj (by show ¬ q + 8 < 8; omega)) (by show _ ≤ 652497; decide) (by show _ ≤ 7144758; decide) dd_W_law_0 (fun H hP hS => ?_)
  refine lv_dup (pc := 3) hx hb dd_W_law_3 rfl ?_
  refine lv_aload_n (pc := 4) hx hb dd_W_law_4 rfl (lv_at hl 0 rfl) ?_
  refine lv_iconst (pc := 5) (v := nI 0) hx hb dd_W_law_5 (by decide) ?_
  refine k_cell (pc := 6) (j := 0) cx hl hP hS hX hbB hbl hL (by decide) ⟨(Nat.le_of_ble_eq_true rfl), (Nat.le_of_ble_eq_true rfl)⟩ ⟨(by show _ ≤ 652497; decide), (by show _ ≤ 7144758; decide)⟩ (Nat.le_of_ble_eq_true rfl) dd_W_law_6 (fun H locs hP hS => ?_)
  refine lv_aload_n (pc := 9) hx hb dd_W_law_9 rfl (lv_at hl 0 rfl) ?_
  refine lv_iconst (pc := 10) (v := nI 1) hx hb dd_W_law_10 (by decide) ?_
  refine k_cell (pc := 11) (j := 1) cx hl hP hS hX hbB hbl hL (by decide) ⟨(Nat.le_of_ble_eq_true rfl), (Nat.le_of_ble_eq_true rfl)⟩ ⟨(by show _ ≤ 652497; decide), (by show _ ≤ 7144758; decide)⟩ (Nat.le_of_ble_eq_true rfl) dd_W_law_11 (fun H locs hP hS => ?_)
  refine lv_aload_n (pc := 14) hx hb dd_W_law_14 rfl (lv_at hl 0 rfl) ?_
  refine lv_iconst (pc := 15) (v := nI 2) hx hb dd_W_law_15 (by decide) ?_
  refine k_cell (pc := 16) (j := 2) cx hl hP hS hX hbB hbl hL (by decide) ⟨(Nat.le_of_ble_eq_true rfl), (Nat.le_of_ble_eq_true rfl)⟩ ⟨(by show _ ≤ 652497; decide), (by show _ ≤ 7144758; decide)⟩ (Nat.le_of_ble_eq_true rfl) dd_W_law_16 (fun H locs hP hS => ?_)
  refine g_callv (g_runI (k := 3) (As := [.int (scv L ys 0), .int (scv L ys 1), .int (scv L ys 2)]) (rest := [.ref B]) (pc := 19) co_X_init ml_W_X_init im_X_init in_X rfl (by decide +kernel) rfl cx hl hP (ct_X_init l D g B (B + 1) _ _ _ _ rfl (vu_s _ _ _)) rfl rfl ⟨(Nat.le_of_ble_eq_true rfl), (Nat.le_of_ble_eq_true rfl)⟩ ⟨(by show _ ≤ 652497; decide), (by show _ ≤ 7144758; decide)⟩ (Nat.le_of_ble_eq_true rfl) dd_W_law_19) hS (fun w2 H locs hw2 hP hS => ?_)
  refine lv_astore_n (pc := 22) (lv' := [(1, _), (0, _)]) hx hb dd_W_law_22 rfl hl (Nat.le_of_ble_eq_true rfl) rfl (fun ls hl => ?_)
  refine g_new (pc := 23) (ci := 6) (fs := [.int 0, .int 0, .int 0, .null, .null, .null, .null, .null, .null, .null, .null, .null, .null, .null, .null, .null, .null, .null, .int 0, .null, .null, .null, .null, .null, .null, .null, .null]) cx hP hS kl_W_M is_M in_M rfl wf_M ty_M tk_M (fun j hj => match j, hj with | 0, _ => rfl | 1, _ => rfl | 2, _ => rfl | 3, _ => rfl | 4, _ => rfl | 5, _ => rfl | 6, _ => rfl | 7, _ => rfl | 8, _ => rfl | 9, _ => rfl | 10, _ => rfl | 11, _ => rfl | 12, _ => rfl | 13, _ => rfl | 14, _ => rfl | 15, _ => rfl | 16, _ => rfl | 17, _ => rfl | 18, _ => rfl | 19, _ => rfl | 20, _ => rfl | 21, _ => rfl | 22, _ => rfl | 23, _ => rfl | 24, _ => rfl | 25, _ => rfl | 26, _ => rfl | q + 27, hj => absurd hj (by show ¬ q + 27 < 27; omega)) (by show _ ≤ 652497; decide) (by show _ ≤ 7144758; decide) dd_W_law_23 (fun H hP hS => ?_)
  refine lv_dup (pc := 26) hx hb dd_W_law_26 rfl ?_
  refine lv_aload_n (pc := 27) hx hb dd_W_law_27 rfl (lv_at hl 1 rfl) ?_
  refine lv_iconst (pc := 28) (v := nI 0) hx hb dd_W_law_28 (by decide) ?_
  refine k_cell (pc := 29) (j := 0) cx hl hP hS hX hbB hbl hL (by decide) ⟨(Nat.le_of_ble_eq_true rfl), (Nat.le_of_ble_eq_true rfl)⟩ ⟨(by show _ ≤ 652497; decide), (by show _ ≤ 7144758; decide)⟩ (Nat.le_of_ble_eq_true rfl) dd_W_law_29 (fun H locs hP hS => ?_)
  refine lv_aload_n (pc := 32) hx hb dd_W_law_32 rfl (lv_at hl 1 rfl) ?_
  refine lv_iconst (pc := 33) (v := nI 1) hx hb dd_W_law_33 (by decide) ?_
  refine k_cell (pc := 34) (j := 1) cx hl hP hS hX hbB hbl hL (by decide) ⟨(Nat.le_of_ble_eq_true rfl), (Nat.le_of_ble_eq_true rfl)⟩ ⟨(by show _ ≤ 652497; decide), (by show _ ≤ 7144758; decide)⟩ (Nat.le_of_ble_eq_true rfl) dd_W_law_34 (fun H locs hP hS => ?_)
  refine lv_aload_n (pc := 37) hx hb dd_W_law_37 rfl (lv_at hl 1 rfl) ?_
  refine lv_iconst (pc := 38) (v := nI 2) hx hb dd_W_law_38 (by decide) ?_
  refine k_cell (pc := 39) (j := 2) cx hl hP hS hX hbB hbl hL (by decide) ⟨(Nat.le_of_ble_eq_true rfl), (Nat.le_of_ble_eq_true rfl)⟩ ⟨(by show _ ≤ 652497; decide), (by show _ ≤ 7144758; decide)⟩ (Nat.le_of_ble_eq_true rfl) dd_W_law_39 (fun H locs hP hS => ?_)
  refine g_callv (g_runI (k := 3) (As := [.int (scv L ys 0), .int (scv L ys 1), .int (scv L ys 2)]) (rest := [.ref (B + 22 + 23 * (clN 3 7 (scv L ys 0)))]) (pc := 42) co_M_init ml_W_M_init im_M_init in_M rfl (by decide +kernel) rfl cx hl hP (ct_M_init l D g B _ _ _ (vu_s _ _ _) _ _ _) rfl rfl ⟨(Nat.le_of_ble_eq_true rfl), (Nat.le_of_ble_eq_true rfl)⟩ ⟨(by show _ ≤ 652497; decide), (by show _ ≤ 7144758; decide)⟩ (Nat.le_of_ble_eq_true rfl) dd_W_law_42) hS (fun w4 H locs hw4 hP hS => ?_)
  refine lv_astore_n (pc := 45) (lv' := [(2, _), (1, _), (0, _)]) hx hb dd_W_law_45 rfl hl (Nat.le_of_ble_eq_true rfl) rfl (fun ls hl => ?_)
  refine lv_iconst (pc := 46) (v := nI 3) hx hb dd_W_law_46 (by decide) ?_
  refine lv_istore_n (pc := 47) (lv' := [(3, _), (2, _), (1, _), (0, _)]) hx hb dd_W_law_47 rfl hl (Nat.le_of_ble_eq_true rfl) rfl (fun ls hl => ?_)
  obtain ⟨m1, m2, m3, m4⟩ := hw4
  have e1 : B + 22 + 23 * (clN 3 7 (scv L ys 0)) + 1 = B + 23 + 23 * (clN 3 7 (scv L ys 0)) := by omega
  have e2 : B + 23 + 23 * (clN 3 7 (scv L ys 0)) + 23 = B + 46 + 23 * (clN 3 7 (scv L ys 0)) := by omega
  rw [e1] at hP m1 m2 m3 m4
  rw [e2] at hP
  have hfp : fP (x0 D g B (clN 3 7 (scv L ys 0)) (clN 1 (clN 3 7 (scv L ys 0)) (scv L ys 1)) (clN 0 3 (scv L ys 2))) (S0 B (clN 3 7 (scv L ys 0))) H := fP_made hN3 hN7 hK1 hKN hE3 hP (fun q h1 h2 => by rw [m4 q (by omega) (by omega), vu_n _ _ (by omega)]; exact hw2 q h1 h2) m1 m2 m3
  have hO := x0_O D g B (clN 3 7 (scv L ys 0)) (clN 1 (clN 3 7 (scv L ys 0)) (scv L ys 1)) (clN 0 3 (scv L ys 2)) hN3 hN7 hK1 hKN hE3
  have cx2 : fX rn_W cb_W_law 4 p c s m #[Value.ref b] (x0 D g B (clN 3 7 (scv L ys 0)) (clN 1 (clN 3 7 (scv L ys 0)) (scv L ys 1)) (clN 0 3 (scv L ys 2))) := ⟨cx.1, hK⟩
  exact lw_loop (x := x0 D g B (clN 3 7 (scv L ys 0)) (clN 1 (clN 3 7 (scv L ys 0)) (scv L ys 1)) (clN 0 3 (scv L ys 2))) cx2 hr hlocks hO (x0_L D g B _ _ _ hN3 hN7) (x0_M D g B _ _ _ hN3 hN7) hX hbl hB hL 512 0 (S0 B (clN 3 7 (scv L ys 0))) H locs ls _ _ (by omega) (by omega) (sim_0 hO (Nat.le_refl _)) hl hfp hS (by decide) (by decide)
