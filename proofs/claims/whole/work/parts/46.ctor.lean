-- contracts of the making of the register, by wip/whole/gen/c_ctor2.py
set_option maxHeartbeats 4000000 in
set_option maxRecDepth 100000 in
theorem ct_X_between (l : Launch) (D : va_G) (g : Nat → ClassId) (b n : Nat) (w : Nat → Option va_E) (lo hi : Nat) (z : Int32) (h1 : lo ≤ hi) (h2 : hi < 2 ^ 31) : Met l mn_X_between (gw_ws mn_X_between cb_X_between 3 (some .int)) ({ frames := 1, cells := 0, slots := 0, locals := 21 } : Room) (gPc D g b n w [.int (nI lo), .int z, .int (nI hi)]) (gQi D b n w (nI (clN lo hi z))) 0 0 (fun q => b ≤ q) := by
  refine g_met (by decide) (Nat.le_of_ble_eq_true rfl) ?_
  intro p e s m below meth c0 cx hr hlocks hnm hP hS ls hl
  have cx : gX rn_X cb_X_between 3 p c0 s m [.int (nI lo), .int z, .int (nI hi)].toArray D g := cx
  have hx := cx.1.1
  have hb := cx.1.2.1
  have hl : lv_has ls 3 [(0, .int (nI lo)), (1, .int z), (2, .int (nI hi))] := hl
  refine lv_iload_n (pc := 0) hx hb dd_X_between_0 rfl (lv_at hl 0 rfl) ?_
  refine lv_iload_n (pc := 1) hx hb dd_X_between_1 rfl (lv_at hl 1 rfl) ?_
  refine lv_iload_n (pc := 2) hx hb dd_X_between_2 rfl (lv_at hl 2 rfl) ?_
  refine va_mmin (pc := 3) hx hb (by rw [cx.1.2.2.1]; exact hl.1.symm) cx.1.2.2.2.1 (cx.1.2.2.2.2 _ ml_X_J_min) (cx.1.2.2.2.2 _ st_J_min) (cx.1.2.2.2.2 _ in_J) (cx.1.2.2.2.2 _ co_J_min) (Nat.le_of_ble_eq_true rfl) (Nat.le_of_ble_eq_true rfl) (Nat.le_of_ble_eq_true rfl) (Nat.le_of_ble_eq_true rfl) dd_X_between_3 ?_
  refine va_mmax (pc := 6) hx hb (by rw [cx.1.2.2.1]; exact hl.1.symm) cx.1.2.2.2.1 (cx.1.2.2.2.2 _ ml_X_J_max) (cx.1.2.2.2.2 _ st_J_max) (cx.1.2.2.2.2 _ in_J) (cx.1.2.2.2.2 _ co_J_max) (Nat.le_of_ble_eq_true rfl) (Nat.le_of_ble_eq_true rfl) (Nat.le_of_ble_eq_true rfl) (Nat.le_of_ble_eq_true rfl) dd_X_between_6 ?_
  exact g_iret (pc := 9) cx hr hlocks hP hS (clN_eq h1 h2 z) dd_X_between_9
set_option maxHeartbeats 4000000 in
set_option maxRecDepth 100000 in
theorem ct_X_emptyRows (l : Launch) (D : va_G) (g : Nat → ClassId) (b n : Nat) (w : Nat → Option va_E) (k : Nat) (hk : k ≤ 35) : Met l mn_X_emptyRows (gw_ws mn_X_emptyRows cb_X_emptyRows 3 (some (.array (.object "SealedFragmentRegister$Row")))) ({ frames := 2, cells := 71, slots := 350, locals := 41 } : Room) (gPc D g b n w [.int (nI k)]) (gQq D b (n + 1 + 2 * k) n (fun w1 => w1 n = some (.inl (g 5, k, qa (fun j => some (n + 1 + 2 * j)))) ∧ (∀ j, j < k → w1 (n + 1 + 2 * j) = some (.inr (3, [.ref (n + 2 + 2 * j), .int 0])) ∧ w1 (n + 2 + 2 * j) = some (ccr g 0)) ∧ ∀ q, q < n → w1 q = w q)) 71 350 (fun q => b ≤ q) := by
  refine g_met (by decide) (Nat.le_of_ble_eq_true rfl) ?_
  intro p e s m below meth c0 cx hr hlocks hnm hP hS ls hl
  have cx : gX rn_X cb_X_emptyRows 3 p c0 s m [.int (nI k)].toArray D g := cx
  have hx := cx.1.1
  have hb := cx.1.2.1
  have hl : lv_has ls 3 [(0, .int (nI k))] := hl
  have loop : ∀ (t i : Nat) (w1 : Nat → Option va_E) (f : Nat → Option Nat) (H : Heap) (locs : List Loc), i + t = k → gP D b (n + 1 + 2 * i) w1 H → gS b s.heap H locs → w1 n = some (.inl (g 5, k, qa f)) → (∀ j, j < i → f j = some (n + 1 + 2 * j)) → (∀ j, j < i → w1 (n + 1 + 2 * j) = some (.inr (3, [.ref (n + 2 + 2 * j), .int 0])) ∧ w1 (n + 2 + 2 * j) = some (ccr g 0)) → (∀ q, q < n → w1 q = w q) → ∀ ls : Array Slot, lv_has ls 3 [(2, .int (nI i)), (1, .ref n), (0, .int (nI k))] → W p l e ({ frames := 2, cells := 71, slots := 350, locals := 41 } : Room) s m [.int (nI k)].toArray below meth c0 H locs (1 + 2 * i) (k + 9 * i) (MQ below (gQq D b (n + 1 + 2 * k) n (fun w1 => w1 n = some (.inl (g 5, k, qa (fun j => some (n + 1 + 2 * j)))) ∧ (∀ j, j < k → w1 (n + 1 + 2 * j) = some (.inr (3, [.ref (n + 2 + 2 * j), .int 0])) ∧ w1 (n + 2 + 2 * j) = some (ccr g 0)) ∧ ∀ q, q < n → w1 q = w q)) [.int (nI k)].toArray s 71 350 (fun q => b ≤ q)) (F0 m 7 ls []) := by
    intro t
    induction t with
    | zero =>
      intro i w1 f H locs hi hP hS ha hf hR fr ls hl
      have hi : i = k := by omega
      subst hi
      have hP := hP.recell ha (arr_q (f' := fun j => some (n + 1 + 2 * j)) hf)
      refine lv_iload_n (pc := 7) hx hb dd_X_emptyRows_7 rfl (lv_at hl 0 rfl) ?_
      refine lv_iload_n (pc := 8) hx hb dd_X_emptyRows_8 rfl (lv_at hl 2 rfl) ?_
      refine lv_icmp_ge (pc := 9) (tgt := 28) hx hb dd_X_emptyRows_9 (by decide) (fun h9 => ?_) (fun h9 => ?_)
      · -- 9: t to 28
        refine lv_aload_n (pc := 28) hx hb dd_X_emptyRows_28 rfl (lv_at hl 1 rfl) ?_
        refine W.widen (k := 71) (n := 350) (by omega) (by omega) ?_
        exact g_qret (pc := 29) cx hr hlocks hP hS ⟨vu_s _ _ _, fun j hj => ⟨by rw [vu_n _ _ (by omega)]; exact (hR j hj).1, by rw [vu_n _ _ (by omega)]; exact (hR j hj).2⟩, fun q hq => by rw [vu_n _ _ (by omega)]; exact fr q hq⟩ dd_X_emptyRows_29
      · -- 9: f to 12
        exact absurd ((nI_leI (by omega) (by omega)).mpr (Nat.le_refl _)) h9
    | succ t ih =>
      intro i w1 f H locs hi hP hS ha hf hR fr ls hl
      refine lv_iload_n (pc := 7) hx hb dd_X_emptyRows_7 rfl (lv_at hl 0 rfl) ?_
      refine lv_iload_n (pc := 8) hx hb dd_X_emptyRows_8 rfl (lv_at hl 2 rfl) ?_
      refine lv_icmp_ge (pc := 9) (tgt := 28) hx hb dd_X_emptyRows_9 (by decide) (fun h9 => ?_) (fun h9 => ?_)
      · -- 9: t to 28
        exact absurd ((nI_leI (by omega) (by omega)).mp h9) (by omega)
      · -- 9: f to 12
        refine lv_aload_n (pc := 12) hx hb dd_X_emptyRows_12 rfl (lv_at hl 1 rfl) ?_
        refine lv_iload_n (pc := 13) hx hb dd_X_emptyRows_13 rfl (lv_at hl 0 rfl) ?_
        refine g_new (pc := 14) (ci := 3) (fs := [.null, .int 0]) cx hP hS kl_X_R is_R in_R rfl wf_R ty_R tk_R (fun j hj => match j, hj with | 0, _ => rfl | 1, _ => rfl | q + 2, hj => absurd hj (by show ¬ q + 2 < 2; omega)) (by show 1 + 2 * i + 1 ≤ 71; omega) (by show k + 9 * i + 2 ≤ 350; omega) dd_X_emptyRows_14 (fun H hP hS => ?_)
        refine lv_dup (pc := 17) hx hb dd_X_emptyRows_17 rfl ?_
        refine g_callv (g_runIN (k := 0) (a := n + 1 + 2 * i) (As := []) (rest := [.ref (n + 1 + 2 * i), .int (nI i), .ref n]) (pc := 18) co_R_init im_R_init in_R rfl (by decide +kernel) rfl cx cx.2.2.2.2.2.2 hl hP (ct_R_init l D g b (n + 1 + 2 * i + 1) _ (n + 1 + 2 * i) (vu_s _ _ _)) rfl rfl ⟨(Nat.le_of_ble_eq_true rfl), (Nat.le_of_ble_eq_true rfl)⟩ ⟨by show 1 + 2 * i + 1 + 1 ≤ 71; omega, by show k + 9 * i + 2 + 7 ≤ 350; omega⟩ (Nat.le_of_ble_eq_true rfl) dd_X_emptyRows_18) hS (fun w2 H locs hw hP hS => ?_)
        obtain ⟨g1, g2, g3⟩ := hw
        have ha2 : w2 n = some (.inl (g 5, k, qa f)) := by rw [g3 n (by omega) (by omega), vu_n _ _ (by omega)]; exact ha
        refine g_aast (pc := 21) 5 3 (r := (rn_R, tf_R, 2)) cx hP hS ha2 rfl g1 rfl rfl (by omega) (by omega) dd_X_emptyRows_21 (fun H locs hP hS => ?_)
        refine lv_iinc (pc := 22) (k := 0) (lv' := [(2, _), (1, _), (0, _)]) hx hb dd_X_emptyRows_22 hl rfl (f_inc1 i) (Nat.le_of_ble_eq_true rfl) rfl (fun ls hl => ?_)
        refine lv_goto (pc := 25) (tgt := 7) hx hb dd_X_emptyRows_25 (by decide) ?_
        refine W.widen (k := 1 + 2 * (i + 1)) (n := k + 9 * (i + 1)) (by omega) (by omega) ?_
        have hP : gP D b (n + 1 + 2 * (i + 1)) _ H := hP
        refine ih (i + 1) _ (va_up f i (some (n + 1 + 2 * i))) _ _ (by omega) hP hS (vu_s _ _ _) (fun j hj => ?_) (fun j hj => ?_) (fun q hq => ?_) ls (lv_sub hl [0, 1, 2] rfl)
        · by_cases hji : j = i
          · rw [hji, vu_s]
          · rw [vu_n _ _ hji]; exact hf j (by omega)
        · rw [vu_n _ _ (by omega), vu_n _ _ (by omega)]
          by_cases hji : j = i
          · rw [hji, show n + 2 + 2 * i = n + 1 + 2 * i + 1 by omega]
            exact ⟨g1, g2 0 (by omega)⟩
          · rw [g3 _ (by omega) (by omega), g3 _ (by omega) (by omega), vu_n _ _ (by omega), vu_n _ _ (by omega)]
            exact hR j (by omega)
        · rw [vu_n _ _ (by omega), g3 q (by omega) (by omega), vu_n _ _ (by omega)]
          exact fr q hq
  refine lv_iload_n (pc := 0) hx hb dd_X_emptyRows_0 rfl (lv_at hl 0 rfl) ?_
  refine g_newq (pc := 1) 5 (N' := k) cx hP hS kl_X_R cx.2.2.2.2.1 rfl rfl (by omega) (Nat.le_of_ble_eq_true rfl) (by show 0 + k ≤ 350; omega) dd_X_emptyRows_1 (fun H hP hS => ?_)
  refine lv_astore_n (pc := 4) (lv' := [(1, _), (0, _)]) hx hb dd_X_emptyRows_4 rfl hl (Nat.le_of_ble_eq_true rfl) rfl (fun ls hl => ?_)
  refine lv_iconst (pc := 5) (v := nI 0) hx hb dd_X_emptyRows_5 (by decide) ?_
  refine lv_istore_n (pc := 6) (lv' := [(2, _), (1, _), (0, _)]) hx hb dd_X_emptyRows_6 rfl hl (Nat.le_of_ble_eq_true rfl) rfl (fun ls hl => ?_)
  refine W.widen (k := 1 + 2 * 0) (n := k + 9 * 0) (by omega) (by omega) ?_
  exact loop k 0 _ (fun _ => none) _ _ (by omega) hP hS (vu_s _ _ _) (fun j hj => absurd hj (Nat.not_lt_zero j)) (fun j hj => absurd hj (Nat.not_lt_zero j)) (fun q hq => vu_n _ _ (by omega)) ls (lv_sub hl [0, 1, 2] rfl)
set_option maxHeartbeats 4000000 in
set_option maxRecDepth 100000 in
theorem ct_X_init (l : Launch) (D : va_G) (g : Nat → ClassId) (b n : Nat) (w : Nat → Option va_E) (z1 z2 z3 : Int32) (hn : n = b + 1) (fa : w b = some (.inr (5, [.int 0, .int 0, .null, .null, .null, .null, .null, .int 0]))) : Met l mn_X_init (gw_ws mn_X_init cb_X_init 8 none) ({ frames := 3, cells := 182, slots := 997, locals := 63 } : Room) (gPc D g b n w [.ref b, .int z1, .int z2, .int z3]) (gQv D b (b + 22 + 23 * (clN 3 7 z1)) (fun w1 => ∀ q, b ≤ q → q < b + 22 + 23 * (clN 3 7 z1) → w1 q = wd (x0 D g b (clN 3 7 z1) (clN 1 (clN 3 7 z1) z2) (clN 0 3 z3)) (S0 b (clN 3 7 z1)) q)) 182 997 (fun q => b ≤ q) := by
  refine g_met (by decide) (Nat.le_of_ble_eq_true rfl) ?_
  intro p e s m below meth c0 cx hr hlocks hnm hP hS ls hl
  have cx : gX rn_X cb_X_init 8 p c0 s m [.ref b, .int z1, .int z2, .int z3].toArray D g := cx
  have hx := cx.1.1
  have hb := cx.1.2.1
  have hl : lv_has ls 8 [(0, .ref b), (1, .int z1), (2, .int z2), (3, .int z3)] := hl
  subst hn
  have hN3 := (clN_b (show 3 ≤ 7 by omega) z1).1
  have hN7 := (clN_b (show 3 ≤ 7 by omega) z1).2
  have hK1 := (clN_b (show 1 ≤ clN 3 7 z1 by omega) z2).1
  have hKN := (clN_b (show 1 ≤ clN 3 7 z1 by omega) z2).2
  have hE3 := (clN_b (show 0 ≤ 3 by omega) z3).2
  have hO : fO (x0 D g b (clN 3 7 z1) (clN 1 (clN 3 7 z1) z2) (clN 0 3 z3)) := x0_O D g b _ _ _ hN3 hN7 hK1 hKN hE3
  obtain ⟨v0, v1, v2, v3, v4, v5, v6, vC, vS, vR⟩ : fL (x0 D g b (clN 3 7 z1) (clN 1 (clN 3 7 z1) z2) (clN 0 3 z3)) := x0_L D g b _ _ _ hN3 hN7
  have serv : ∀ (t i : Nat) (w2 : Nat → Option va_E) (f : Nat → Option Nat) (H : Heap) (locs : List Loc), i + t = (clN 3 7 z1) → gP D b (b + 20 + 3 * i) w2 H → gS b s.heap H locs → w2 b = some (.inr (5, [.int (nI (xQ (x0 D g b (clN 3 7 z1) (clN 1 (clN 3 7 z1) z2) (clN 0 3 z3)))), .int (nI (xM (x0 D g b (clN 3 7 z1) (clN 1 (clN 3 7 z1) z2) (clN 0 3 z3)))), .ref (b + 1), .ref (b + 3), .ref (b + 19), .null, .null, .int 0])) → w2 (b + 19) = some (.inl (g 4, (clN 3 7 z1), qa f)) → (∀ j, j < i → f j = some (b + 20 + 3 * j)) → (∀ q, b < q → q < b + 20 + 3 * i → q ≠ b + 19 → w2 q = wd (x0 D g b (clN 3 7 z1) (clN 1 (clN 3 7 z1) z2) (clN 0 3 z3)) (S0 b (clN 3 7 z1)) q) → ∀ ls : Array Slot, lv_has ls 8 [(7, .int (nI i)), (4, .int (nI (clN 3 7 z1))), (5, .int (nI (clN 1 (clN 3 7 z1) z2))), (6, .int (nI (clN 0 3 z3))), (0, .ref b)] → W p l e ({ frames := 3, cells := 182, slots := 997, locals := 63 } : Room) s m [.ref b, .int z1, .int z2, .int z3].toArray below meth c0 H locs (19 + 3 * i) (157 + 20 * i) (MQ below (gQv D b (b + 22 + 23 * (clN 3 7 z1)) (fun w1 => ∀ q, b ≤ q → q < b + 22 + 23 * (clN 3 7 z1) → w1 q = wd (x0 D g b (clN 3 7 z1) (clN 1 (clN 3 7 z1) z2) (clN 0 3 z3)) (S0 b (clN 3 7 z1)) q)) [.ref b, .int z1, .int z2, .int z3].toArray s 182 997 (fun q => b ≤ q)) (F0 m 118 ls []) := by
    intro t
    induction t with
    | zero =>
      intro i w2 f H locs hi hP hS fa ha hf J ls hl
      have hi : i = (clN 3 7 z1) := by omega
      subst hi
      have hP := hP.recell ha (arr_q (f' := fun j => some (b + 20 + 3 * j)) hf)
      have T19 : wd (x0 D g b (clN 3 7 z1) (clN 1 (clN 3 7 z1) z2) (clN 0 3 z3)) (S0 b (clN 3 7 z1)) (b + 19) = _ := (v4.at (S0 b (clN 3 7 z1))).cell
      obtain ⟨w3, hw3⟩ : ∃ w3, w3 = va_up w2 (b + 19) (some (.inl (g 4, (clN 3 7 z1), qa (fun j => some (b + 20 + 3 * j))))) := ⟨_, rfl⟩
      rw [← hw3] at hP
      have fa : w3 b = some (.inr (5, [.int (nI (xQ (x0 D g b (clN 3 7 z1) (clN 1 (clN 3 7 z1) z2) (clN 0 3 z3)))), .int (nI (xM (x0 D g b (clN 3 7 z1) (clN 1 (clN 3 7 z1) z2) (clN 0 3 z3)))), .ref (b + 1), .ref (b + 3), .ref (b + 19), .null, .null, .int 0])) := by rw [hw3, vu_n _ _ (by omega)]; exact fa
      have J : ∀ q, b < q → q < b + 20 + 3 * (clN 3 7 z1) → w3 q = wd (x0 D g b (clN 3 7 z1) (clN 1 (clN 3 7 z1) z2) (clN 0 3 z3)) (S0 b (clN 3 7 z1)) q := by
        intro q h1 h2
        by_cases hq : q = b + 19
        · rw [hq, T19, hw3, vu_s]; rfl
        · rw [hw3, vu_n _ _ hq]; exact J q h1 h2 hq
      clear hw3
      obtain ⟨w2, hw2⟩ : ∃ w2, w2 = w3 := ⟨_, rfl⟩
      rw [← hw2] at hP fa J
      clear hw2
      refine lv_iload (pc := 118) hx hb dd_X_init_118 (lv_at hl 0 rfl) ?_
      refine lv_iload (pc := 120) hx hb dd_X_init_120 (lv_at hl 1 rfl) ?_
      refine lv_icmp_ge (pc := 122) (tgt := 149) hx hb dd_X_init_122 (by decide) (fun h122 => ?_) (fun h122 => ?_)
      · -- 122: t to 149
        refine lv_aload_n (pc := 149) hx hb dd_X_init_149 rfl (lv_at hl 4 rfl) ?_
        refine lv_iconst (pc := 150) (v := nI 5) hx hb dd_X_init_150 (by decide) ?_
        refine lv_iload (pc := 151) hx hb dd_X_init_151 (lv_at hl 1 rfl) ?_
        refine lv_imul (pc := 153) hx hb dd_X_init_153 ?_
        refine f_topi (pk_mul 5 (clN 3 7 z1)) ?_
        refine g_callq (g_runS (k := 1) (As := [.int (nI (5 * (clN 3 7 z1)))]) (rest := [.ref b]) (pc := 154) co_X_emptyRows ml_X_X_emptyRows st_X_emptyRows in_X (by decide +kernel) rfl cx hl hP (ct_X_emptyRows l D g b (b + 20 + 3 * (clN 3 7 z1)) w2 (5 * (clN 3 7 z1)) (by omega)) rfl rfl ⟨(Nat.le_of_ble_eq_true rfl), (Nat.le_of_ble_eq_true rfl)⟩ ⟨by show 19 + 3 * (clN 3 7 z1) + 71 ≤ 182; omega, by show 157 + 20 * (clN 3 7 z1) + 350 ≤ 997; omega⟩ (Nat.le_of_ble_eq_true rfl) dd_X_init_154) hS (fun w3 H locs hw hP hS => ?_)
        obtain ⟨g1, g2, g3⟩ := hw
        have hP : gP D b (b + 20 + 3 * (clN 3 7 z1) + 1 + 10 * (clN 3 7 z1)) w3 H := by rw [show b + 20 + 3 * (clN 3 7 z1) + 1 + 10 * (clN 3 7 z1) = b + 20 + 3 * (clN 3 7 z1) + 1 + 2 * (5 * (clN 3 7 z1)) by omega]; exact hP
        have hP := hP.recell g1 (arr_q (f' := fun j => some (xa (x0 D g b (clN 3 7 z1) (clN 1 (clN 3 7 z1) z2) (clN 0 3 z3)) 13 (j))) (fun j hj => congrArg some (by show _ = lay_a b (clN 3 7 z1) 13 (j); unfold lay_a; rw [if_neg (by omega), if_neg (by omega), if_neg (by omega), if_neg (by omega), if_neg (by omega), if_neg (by omega), if_neg (by omega), if_neg (by omega), if_neg (by omega), if_pos (by omega), if_pos (by omega)]; omega)))
        have Ta : wd (x0 D g b (clN 3 7 z1) (clN 1 (clN 3 7 z1) z2) (clN 0 3 z3)) (S0 b (clN 3 7 z1)) (b + 20 + 3 * (clN 3 7 z1)) = _ := (v5.at (S0 b (clN 3 7 z1))).cell
        obtain ⟨w4, hw4⟩ : ∃ w4, w4 = va_up w3 (b + 20 + 3 * (clN 3 7 z1)) (some (.inl (g 5, 5 * (clN 3 7 z1), qa (fun j => some (xa (x0 D g b (clN 3 7 z1) (clN 1 (clN 3 7 z1) z2) (clN 0 3 z3)) 13 (j)))))) := ⟨_, rfl⟩
        rw [← hw4] at hP
        have fa : w4 b = some (.inr (5, [.int (nI (xQ (x0 D g b (clN 3 7 z1) (clN 1 (clN 3 7 z1) z2) (clN 0 3 z3)))), .int (nI (xM (x0 D g b (clN 3 7 z1) (clN 1 (clN 3 7 z1) z2) (clN 0 3 z3)))), .ref (b + 1), .ref (b + 3), .ref (b + 19), .null, .null, .int 0])) := by rw [hw4, vu_n _ _ (by omega), g3 b (by omega)]; exact fa
        have J : ∀ q, b < q → q < b + 20 + 3 * (clN 3 7 z1) + 1 + 10 * (clN 3 7 z1) → w4 q = wd (x0 D g b (clN 3 7 z1) (clN 1 (clN 3 7 z1) z2) (clN 0 3 z3)) (S0 b (clN 3 7 z1)) q := by
          intro q h1 h2
          by_cases hq2 : q = b + 20 + 3 * (clN 3 7 z1)
          · rw [hq2, Ta, hw4, vu_s]; rfl
          · rw [hw4, vu_n _ _ hq2]
            by_cases hq : q < b + 20 + 3 * (clN 3 7 z1)
            · rw [g3 q hq]; exact J q h1 hq
            · obtain ⟨j, hj, hjq⟩ : ∃ j, j < 5 * (clN 3 7 z1) ∧ (q = b + 20 + 3 * (clN 3 7 z1) + 1 + 2 * j ∨ q = b + 20 + 3 * (clN 3 7 z1) + 2 + 2 * j) := ⟨(q - (b + 20 + 3 * (clN 3 7 z1) + 1)) / 2, by omega, by omega⟩
              have Tr := ((vR j hj).1.at (S0 b (clN 3 7 z1))).cell
              have Tl := ((vR j hj).2.1.at (S0 b (clN 3 7 z1))).cell
              have e2 : xa (x0 D g b (clN 3 7 z1) (clN 1 (clN 3 7 z1) z2) (clN 0 3 z3)) 14 (j) = b + 20 + 3 * (clN 3 7 z1) + 2 + 2 * j := by show lay_a b (clN 3 7 z1) 14 (j) = _; unfold lay_a; rw [if_neg (by omega), if_neg (by omega), if_neg (by omega), if_neg (by omega), if_neg (by omega), if_neg (by omega), if_neg (by omega), if_neg (by omega), if_neg (by omega), if_pos (by omega), if_pos (by omega)]; omega
              rcases hjq with h | h
              · have e1 : xa (x0 D g b (clN 3 7 z1) (clN 1 (clN 3 7 z1) z2) (clN 0 3 z3)) 13 (j) = q := by rw [h]; show lay_a b (clN 3 7 z1) 13 (j) = _; unfold lay_a; rw [if_neg (by omega), if_neg (by omega), if_neg (by omega), if_neg (by omega), if_neg (by omega), if_neg (by omega), if_neg (by omega), if_neg (by omega), if_neg (by omega), if_pos (by omega), if_pos (by omega)]; omega
                rw [e1] at Tr
                rw [Tr, h, (g2 j hj).1]
                show some (Sum.inr (3, [Value.ref (b + 20 + 3 * (clN 3 7 z1) + 2 + 2 * j), Value.int 0])) = some (Sum.inr (3, [Value.ref (xa (x0 D g b (clN 3 7 z1) (clN 1 (clN 3 7 z1) z2) (clN 0 3 z3)) 14 (j)), _]))
                rw [e2]; rfl
              · rw [e2, ← h] at Tl
                rw [Tl, h, (g2 j hj).2]; rfl
        clear g1 g2 g3 Ta hw4
        obtain ⟨w2, hw2⟩ : ∃ w2, w2 = w4 := ⟨_, rfl⟩
        rw [← hw2] at hP fa J
        clear hw2
        refine g_put (pc := 157) cx hnm hP hS fa rfl wf_X ty_X tk_X nm_X 5 (by decide) fl_X_X_requestRows (fun _ h => h) rfl (ty := .array (.object "SealedFragmentRegister$Row")) (by decide +kernel) rfl rfl (Nat.le_of_ble_eq_true rfl) dd_X_init_157 (fun H locs hP hS => ?_)
        obtain ⟨w3, hw3⟩ : ∃ w3, w3 = va_up w2 b (some (.inr (5, [.int (nI (xQ (x0 D g b (clN 3 7 z1) (clN 1 (clN 3 7 z1) z2) (clN 0 3 z3)))), .int (nI (xM (x0 D g b (clN 3 7 z1) (clN 1 (clN 3 7 z1) z2) (clN 0 3 z3)))), .ref (b + 1), .ref (b + 3), .ref (b + 19), .ref (b + 20 + 3 * (clN 3 7 z1)), .null, .int 0]))) := ⟨_, rfl⟩
        have hP : gP D b (b + 21 + 13 * (clN 3 7 z1)) w3 H := by rw [hw3, show b + 21 + 13 * (clN 3 7 z1) = b + 20 + 3 * (clN 3 7 z1) + 1 + 10 * (clN 3 7 z1) by omega]; exact hP
        have fa : w3 b = some (.inr (5, [.int (nI (xQ (x0 D g b (clN 3 7 z1) (clN 1 (clN 3 7 z1) z2) (clN 0 3 z3)))), .int (nI (xM (x0 D g b (clN 3 7 z1) (clN 1 (clN 3 7 z1) z2) (clN 0 3 z3)))), .ref (b + 1), .ref (b + 3), .ref (b + 19), .ref (b + 20 + 3 * (clN 3 7 z1)), .null, .int 0])) := by rw [hw3, vu_s]
        have J : ∀ q, b < q → q < b + 21 + 13 * (clN 3 7 z1) → w3 q = wd (x0 D g b (clN 3 7 z1) (clN 1 (clN 3 7 z1) z2) (clN 0 3 z3)) (S0 b (clN 3 7 z1)) q := fun q h1 h2 => by rw [hw3, vu_n _ _ (by omega)]; exact J q h1 (by omega)
        clear hw3
        obtain ⟨w2, hw2⟩ : ∃ w2, w2 = w3 := ⟨_, rfl⟩
        rw [← hw2] at hP fa J
        clear hw2
        refine lv_aload_n (pc := 160) hx hb dd_X_init_160 rfl (lv_at hl 4 rfl) ?_
        refine lv_iconst (pc := 161) (v := nI 5) hx hb dd_X_init_161 (by decide) ?_
        refine lv_iload (pc := 162) hx hb dd_X_init_162 (lv_at hl 1 rfl) ?_
        refine lv_imul (pc := 164) hx hb dd_X_init_164 ?_
        refine f_topi (pk_mul 5 (clN 3 7 z1)) ?_
        refine g_callq (g_runS (k := 1) (As := [.int (nI (5 * (clN 3 7 z1)))]) (rest := [.ref b]) (pc := 165) co_X_emptyRows ml_X_X_emptyRows st_X_emptyRows in_X (by decide +kernel) rfl cx hl hP (ct_X_emptyRows l D g b (b + 21 + 13 * (clN 3 7 z1)) w2 (5 * (clN 3 7 z1)) (by omega)) rfl rfl ⟨(Nat.le_of_ble_eq_true rfl), (Nat.le_of_ble_eq_true rfl)⟩ ⟨by show 19 + 3 * (clN 3 7 z1) + 71 + 71 ≤ 182; omega, by show 157 + 20 * (clN 3 7 z1) + 350 + 350 ≤ 997; omega⟩ (Nat.le_of_ble_eq_true rfl) dd_X_init_165) hS (fun w3 H locs hw hP hS => ?_)
        obtain ⟨g1, g2, g3⟩ := hw
        have hP : gP D b (b + 21 + 13 * (clN 3 7 z1) + 1 + 10 * (clN 3 7 z1)) w3 H := by rw [show b + 21 + 13 * (clN 3 7 z1) + 1 + 10 * (clN 3 7 z1) = b + 21 + 13 * (clN 3 7 z1) + 1 + 2 * (5 * (clN 3 7 z1)) by omega]; exact hP
        have hP := hP.recell g1 (arr_q (f' := fun j => some (xa (x0 D g b (clN 3 7 z1) (clN 1 (clN 3 7 z1) z2) (clN 0 3 z3)) 13 (100 + j))) (fun j hj => congrArg some (by show _ = lay_a b (clN 3 7 z1) 13 (100 + j); unfold lay_a; rw [if_neg (by omega), if_neg (by omega), if_neg (by omega), if_neg (by omega), if_neg (by omega), if_neg (by omega), if_neg (by omega), if_neg (by omega), if_neg (by omega), if_pos (by omega), if_neg (by omega)]; omega)))
        have Ta : wd (x0 D g b (clN 3 7 z1) (clN 1 (clN 3 7 z1) z2) (clN 0 3 z3)) (S0 b (clN 3 7 z1)) (b + 21 + 13 * (clN 3 7 z1)) = _ := (v6.at (S0 b (clN 3 7 z1))).cell
        obtain ⟨w4, hw4⟩ : ∃ w4, w4 = va_up w3 (b + 21 + 13 * (clN 3 7 z1)) (some (.inl (g 5, 5 * (clN 3 7 z1), qa (fun j => some (xa (x0 D g b (clN 3 7 z1) (clN 1 (clN 3 7 z1) z2) (clN 0 3 z3)) 13 (100 + j)))))) := ⟨_, rfl⟩
        rw [← hw4] at hP
        have fa : w4 b = some (.inr (5, [.int (nI (xQ (x0 D g b (clN 3 7 z1) (clN 1 (clN 3 7 z1) z2) (clN 0 3 z3)))), .int (nI (xM (x0 D g b (clN 3 7 z1) (clN 1 (clN 3 7 z1) z2) (clN 0 3 z3)))), .ref (b + 1), .ref (b + 3), .ref (b + 19), .ref (b + 20 + 3 * (clN 3 7 z1)), .null, .int 0])) := by rw [hw4, vu_n _ _ (by omega), g3 b (by omega)]; exact fa
        have J : ∀ q, b < q → q < b + 21 + 13 * (clN 3 7 z1) + 1 + 10 * (clN 3 7 z1) → w4 q = wd (x0 D g b (clN 3 7 z1) (clN 1 (clN 3 7 z1) z2) (clN 0 3 z3)) (S0 b (clN 3 7 z1)) q := by
          intro q h1 h2
          by_cases hq2 : q = b + 21 + 13 * (clN 3 7 z1)
          · rw [hq2, Ta, hw4, vu_s]; rfl
          · rw [hw4, vu_n _ _ hq2]
            by_cases hq : q < b + 21 + 13 * (clN 3 7 z1)
            · rw [g3 q hq]; exact J q h1 hq
            · obtain ⟨j, hj, hjq⟩ : ∃ j, j < 5 * (clN 3 7 z1) ∧ (q = b + 21 + 13 * (clN 3 7 z1) + 1 + 2 * j ∨ q = b + 21 + 13 * (clN 3 7 z1) + 2 + 2 * j) := ⟨(q - (b + 21 + 13 * (clN 3 7 z1) + 1)) / 2, by omega, by omega⟩
              have Tr := ((vR j hj).2.2.1.at (S0 b (clN 3 7 z1))).cell
              have Tl := ((vR j hj).2.2.2.at (S0 b (clN 3 7 z1))).cell
              have e2 : xa (x0 D g b (clN 3 7 z1) (clN 1 (clN 3 7 z1) z2) (clN 0 3 z3)) 14 (100 + j) = b + 21 + 13 * (clN 3 7 z1) + 2 + 2 * j := by show lay_a b (clN 3 7 z1) 14 (100 + j) = _; unfold lay_a; rw [if_neg (by omega), if_neg (by omega), if_neg (by omega), if_neg (by omega), if_neg (by omega), if_neg (by omega), if_neg (by omega), if_neg (by omega), if_neg (by omega), if_pos (by omega), if_neg (by omega)]; omega
              rcases hjq with h | h
              · have e1 : xa (x0 D g b (clN 3 7 z1) (clN 1 (clN 3 7 z1) z2) (clN 0 3 z3)) 13 (100 + j) = q := by rw [h]; show lay_a b (clN 3 7 z1) 13 (100 + j) = _; unfold lay_a; rw [if_neg (by omega), if_neg (by omega), if_neg (by omega), if_neg (by omega), if_neg (by omega), if_neg (by omega), if_neg (by omega), if_neg (by omega), if_neg (by omega), if_pos (by omega), if_neg (by omega)]; omega
                rw [e1] at Tr
                rw [Tr, h, (g2 j hj).1]
                show some (Sum.inr (3, [Value.ref (b + 21 + 13 * (clN 3 7 z1) + 2 + 2 * j), Value.int 0])) = some (Sum.inr (3, [Value.ref (xa (x0 D g b (clN 3 7 z1) (clN 1 (clN 3 7 z1) z2) (clN 0 3 z3)) 14 (100 + j)), _]))
                rw [e2]; rfl
              · rw [e2, ← h] at Tl
                rw [Tl, h, (g2 j hj).2]; rfl
        clear g1 g2 g3 Ta hw4
        obtain ⟨w2, hw2⟩ : ∃ w2, w2 = w4 := ⟨_, rfl⟩
        rw [← hw2] at hP fa J
        clear hw2
        refine g_put (pc := 168) cx hnm hP hS fa rfl wf_X ty_X tk_X nm_X 6 (by decide) fl_X_X_replyRows (fun _ h => h) rfl (ty := .array (.object "SealedFragmentRegister$Row")) (by decide +kernel) rfl rfl (Nat.le_of_ble_eq_true rfl) dd_X_init_168 (fun H locs hP hS => ?_)
        refine W.widen (k := 182) (n := 997) (by omega) (by omega) ?_
        rw [show b + 21 + 13 * (clN 3 7 z1) + 1 + 10 * (clN 3 7 z1) = b + 22 + 23 * (clN 3 7 z1) by omega] at hP
        exact g_vret (pc := 171) cx hr hlocks hP hS (fun q h1 h2 => by
          by_cases hq : q = b
          · rw [hq, vu_s]; exact (v0.at (S0 b (clN 3 7 z1))).cell.symm
          · rw [vu_n _ _ hq]; exact J q (by omega) (by omega)) dd_X_init_171
      · -- 122: f to 125
        exact absurd ((nI_leI (by omega) (by omega)).mpr (Nat.le_refl _)) h122
    | succ t ih =>
      intro i w2 f H locs hi hP hS fa ha hf J ls hl
      refine lv_iload (pc := 118) hx hb dd_X_init_118 (lv_at hl 0 rfl) ?_
      refine lv_iload (pc := 120) hx hb dd_X_init_120 (lv_at hl 1 rfl) ?_
      refine lv_icmp_ge (pc := 122) (tgt := 149) hx hb dd_X_init_122 (by decide) (fun h122 => ?_) (fun h122 => ?_)
      · -- 122: t to 149
        exact absurd ((nI_leI (by omega) (by omega)).mp h122) (by omega)
      · -- 122: f to 125
        refine lv_aload_n (pc := 125) hx hb dd_X_init_125 rfl (lv_at hl 4 rfl) ?_
        refine g_get (pc := 126) cx hP fa rfl wf_X 4 (by decide) fl_X_X_servers (fun _ h => h) rfl dd_X_init_126 ?_
        refine lv_iload (pc := 129) hx hb dd_X_init_129 (lv_at hl 0 rfl) ?_
        refine g_new (pc := 131) (ci := 4) (fs := [.int 0, .null, .null, .int 0, .int 0, .int 0]) cx hP hS kl_X_S is_S in_S rfl wf_S ty_S tk_S (fun j hj => match j, hj with | 0, _ => rfl | 1, _ => rfl | 2, _ => rfl | 3, _ => rfl | 4, _ => rfl | 5, _ => rfl | q + 6, hj => absurd hj (by show ¬ q + 6 < 6; omega)) (by show 19 + 3 * i + 1 ≤ 182; omega) (by show 157 + 20 * i + 6 ≤ 997; omega) dd_X_init_131 (fun H hP hS => ?_)
        refine lv_dup (pc := 134) hx hb dd_X_init_134 rfl ?_
        refine lv_iload (pc := 135) hx hb dd_X_init_135 (lv_at hl 3 rfl) ?_
        refine lv_iconst (pc := 137) (v := 1) hx hb dd_X_init_137 (by decide) ?_
        refine lv_iadd (pc := 138) hx hb dd_X_init_138 ?_
        refine f_topi (nI_1 (clN 0 3 z3)) ?_
        refine g_callv (g_runI (k := 1) (a := b + 20 + 3 * i) (As := [.int (nI ((clN 0 3 z3) + 1))]) (rest := [.ref (b + 20 + 3 * i), .int (nI i), .ref (b + 19)]) (pc := 139) co_S_init ml_X_S_init im_S_init in_S rfl (by decide +kernel) rfl cx hl hP (ct_S_init l D g b (b + 20 + 3 * i + 1) _ (b + 20 + 3 * i) (vu_s _ _ _) ((clN 0 3 z3) + 1) (by omega)) rfl rfl ⟨(Nat.le_of_ble_eq_true rfl), (Nat.le_of_ble_eq_true rfl)⟩ ⟨by show 19 + 3 * i + 1 + 2 ≤ 182; omega, by show 157 + 20 * i + 6 + 14 ≤ 997; omega⟩ (Nat.le_of_ble_eq_true rfl) dd_X_init_139) hS (fun w3 H locs hw hP hS => ?_)
        obtain ⟨g1, g2, g3⟩ := hw
        have ha2 : w3 (b + 19) = some (.inl (g 4, (clN 3 7 z1), qa f)) := by rw [g3 _ (by omega) (by omega), vu_n _ _ (by omega)]; exact ha
        refine g_aast (pc := 142) 4 4 (r := (rn_S, tf_S, 6)) cx hP hS ha2 rfl g1 rfl rfl (by omega) (by omega) dd_X_init_142 (fun H locs hP hS => ?_)
        refine lv_iinc (pc := 143) (k := 0) (lv' := [(7, _), (4, _), (5, _), (6, _), (0, _)]) hx hb dd_X_init_143 hl rfl (f_inc1 i) (Nat.le_of_ble_eq_true rfl) rfl (fun ls hl => ?_)
        refine lv_goto (pc := 146) (tgt := 118) hx hb dd_X_init_146 (by decide) ?_
        refine W.widen (k := 19 + 3 * (i + 1)) (n := 157 + 20 * (i + 1)) (by omega) (by omega) ?_
        have hP : gP D b (b + 20 + 3 * (i + 1)) _ H := hP
        have U0 := ((vS i (show i < (clN 3 7 z1) by omega)).1.at (S0 b (clN 3 7 z1))).cell
        have U1 := ((vS i (show i < (clN 3 7 z1) by omega)).2.1.at (S0 b (clN 3 7 z1))).cell
        have U2 := ((vS i (show i < (clN 3 7 z1) by omega)).2.2.at (S0 b (clN 3 7 z1))).cell
        refine ih (i + 1) _ (va_up f i (some (b + 20 + 3 * i))) _ _ (by omega) hP hS (by rw [vu_n _ _ (by omega), g3 b (by omega) (by omega), vu_n _ _ (by omega)]; exact fa) (vu_s _ _ _) (fun j hj => ?_) (fun q h1 h2 h4 => ?_) ls (lv_sub hl [0, 1, 2, 3, 4] rfl)
        · by_cases hji : j = i
          · rw [hji, vu_s]
          · rw [vu_n _ _ hji]; exact hf j (by omega)
        · rw [vu_n _ _ h4]
          by_cases q0 : q < b + 20 + 3 * i
          · rw [g3 q (by omega) (by omega), vu_n _ _ (by omega)]; exact J q h1 q0 h4
          · by_cases q1 : q = b + 20 + 3 * i
            · rw [q1, g1]; exact U0.symm
            · by_cases q2 : q = b + 20 + 3 * i + 1
              · rw [q2]; exact (g2 0 (by omega)).trans U1.symm
              · rw [show q = b + 20 + 3 * i + 2 by omega]; exact (g2 1 (by omega)).trans U2.symm
  have clie : ∀ (t i : Nat) (w2 : Nat → Option va_E) (f : Nat → Option Nat) (H : Heap) (locs : List Loc), i + t = 5 → gP D b (b + 4 + 3 * i) w2 H → gS b s.heap H locs → w2 b = some (.inr (5, [.int (nI (xQ (x0 D g b (clN 3 7 z1) (clN 1 (clN 3 7 z1) z2) (clN 0 3 z3)))), .int (nI (xM (x0 D g b (clN 3 7 z1) (clN 1 (clN 3 7 z1) z2) (clN 0 3 z3)))), .ref (b + 1), .ref (b + 3), .null, .null, .null, .int 0])) → w2 (b + 3) = some (.inl (g 3, 5, qa f)) → (∀ j, j < i → f j = some (b + 4 + 3 * j)) → (∀ q, b < q → q < b + 4 + 3 * i → q ≠ b + 3 → w2 q = wd (x0 D g b (clN 3 7 z1) (clN 1 (clN 3 7 z1) z2) (clN 0 3 z3)) (S0 b (clN 3 7 z1)) q) → ∀ ls : Array Slot, lv_has ls 8 [(7, .int (nI i)), (4, .int (nI (clN 3 7 z1))), (5, .int (nI (clN 1 (clN 3 7 z1) z2))), (6, .int (nI (clN 0 3 z3))), (0, .ref b)] → W p l e ({ frames := 3, cells := 182, slots := 997, locals := 63 } : Room) s m [.ref b, .int z1, .int z2, .int z3].toArray below meth c0 H locs (3 + 3 * i) (15 + 27 * i) (MQ below (gQv D b (b + 22 + 23 * (clN 3 7 z1)) (fun w1 => ∀ q, b ≤ q → q < b + 22 + 23 * (clN 3 7 z1) → w1 q = wd (x0 D g b (clN 3 7 z1) (clN 1 (clN 3 7 z1) z2) (clN 0 3 z3)) (S0 b (clN 3 7 z1)) q)) [.ref b, .int z1, .int z2, .int z3].toArray s 182 997 (fun q => b ≤ q)) (F0 m 76 ls []) := by
    intro t
    induction t with
    | zero =>
      intro i w2 f H locs hi hP hS fa ha hf J ls hl
      have hi : i = 5 := by omega
      subst hi
      have hP := hP.recell ha (arr_q (f' := fun j => some (b + 4 + 3 * j)) hf)
      have T3 : wd (x0 D g b (clN 3 7 z1) (clN 1 (clN 3 7 z1) z2) (clN 0 3 z3)) (S0 b (clN 3 7 z1)) (b + 3) = _ := (v3.at (S0 b (clN 3 7 z1))).cell
      obtain ⟨w3, hw3⟩ : ∃ w3, w3 = va_up w2 (b + 3) (some (.inl (g 3, 5, qa (fun j => some (b + 4 + 3 * j))))) := ⟨_, rfl⟩
      rw [← hw3] at hP
      have fa : w3 b = some (.inr (5, [.int (nI (xQ (x0 D g b (clN 3 7 z1) (clN 1 (clN 3 7 z1) z2) (clN 0 3 z3)))), .int (nI (xM (x0 D g b (clN 3 7 z1) (clN 1 (clN 3 7 z1) z2) (clN 0 3 z3)))), .ref (b + 1), .ref (b + 3), .null, .null, .null, .int 0])) := by rw [hw3, vu_n _ _ (by omega)]; exact fa
      have J : ∀ q, b < q → q < b + 19 → w3 q = wd (x0 D g b (clN 3 7 z1) (clN 1 (clN 3 7 z1) z2) (clN 0 3 z3)) (S0 b (clN 3 7 z1)) q := by
        intro q h1 h2
        by_cases hq : q = b + 3
        · rw [hq, T3, hw3, vu_s]; rfl
        · rw [hw3, vu_n _ _ hq]; exact J q h1 (by omega) hq
      clear hw3
      obtain ⟨w2, hw2⟩ : ∃ w2, w2 = w3 := ⟨_, rfl⟩
      rw [← hw2] at hP fa J
      clear hw2
      have hP : gP D b (b + 19) w2 H := hP
      refine lv_iload (pc := 76) hx hb dd_X_init_76 (lv_at hl 0 rfl) ?_
      refine lv_iconst (pc := 78) (v := nI 5) hx hb dd_X_init_78 (by decide) ?_
      refine lv_icmp_ge (pc := 79) (tgt := 106) hx hb dd_X_init_79 (by decide) (fun h79 => ?_) (fun h79 => ?_)
      · -- 79: t to 106
        refine lv_aload_n (pc := 106) hx hb dd_X_init_106 rfl (lv_at hl 4 rfl) ?_
        refine lv_iload (pc := 107) hx hb dd_X_init_107 (lv_at hl 1 rfl) ?_
        refine g_newq (pc := 109) 4 (N' := (clN 3 7 z1)) cx hP hS kl_X_S cx.2.2.2.1 rfl rfl (by omega) (Nat.le_of_ble_eq_true rfl) (by show 15 + 27 * 5 + (clN 3 7 z1) ≤ 997; omega) dd_X_init_109 (fun H hP hS => ?_)
        refine g_put (pc := 112) cx hnm hP hS (by rw [vu_n _ _ (by omega)]; exact fa) rfl wf_X ty_X tk_X nm_X 4 (by decide) fl_X_X_servers (fun _ h => h) rfl (ty := .array (.object "SealedFragmentRegister$Server")) (by decide +kernel) rfl rfl (Nat.le_of_ble_eq_true rfl) dd_X_init_112 (fun H locs hP hS => ?_)
        refine lv_iconst (pc := 115) (v := nI 0) hx hb dd_X_init_115 (by decide) ?_
        refine lv_istore (pc := 116) (lv' := [(7, _), (4, _), (5, _), (6, _), (0, _)]) hx hb dd_X_init_116 hl (Nat.le_of_ble_eq_true rfl) rfl (fun ls hl => ?_)
        refine W.widen (k := 19 + 3 * 0) (n := 157 + 20 * 0) (by omega) (by omega) ?_
        exact serv (clN 3 7 z1) 0 _ (fun _ => none) _ _ (by omega) hP hS (vu_s _ _ _) (by rw [vu_n _ _ (by omega)]; exact vu_s _ _ _) (fun j hj => absurd hj (Nat.not_lt_zero j)) (fun q h1 h2 h4 => by rw [vu_n _ _ (by omega), vu_n _ _ h4]; exact J q h1 (by omega)) ls (lv_sub hl [0, 1, 2, 3, 4] rfl)
      · -- 79: f to 82
        exact absurd ((nI_leI (by omega) (by omega)).mpr (Nat.le_refl _)) h79
    | succ t ih =>
      intro i w2 f H locs hi hP hS fa ha hf J ls hl
      refine lv_iload (pc := 76) hx hb dd_X_init_76 (lv_at hl 0 rfl) ?_
      refine lv_iconst (pc := 78) (v := nI 5) hx hb dd_X_init_78 (by decide) ?_
      refine lv_icmp_ge (pc := 79) (tgt := 106) hx hb dd_X_init_79 (by decide) (fun h79 => ?_) (fun h79 => ?_)
      · -- 79: t to 106
        exact absurd ((nI_leI (by omega) (by omega)).mp h79) (by omega)
      · -- 79: f to 82
        refine lv_aload_n (pc := 82) hx hb dd_X_init_82 rfl (lv_at hl 4 rfl) ?_
        refine g_get (pc := 83) cx hP fa rfl wf_X 3 (by decide) fl_X_X_clients (fun _ h => h) rfl dd_X_init_83 ?_
        refine lv_iload (pc := 86) hx hb dd_X_init_86 (lv_at hl 0 rfl) ?_
        refine g_new (pc := 88) (ci := 0) (fs := [.int 0, .null, .null, .int 0, .int 0, .int 0, .int 0, .int 0, .int 0, .int 0, .long 0, .long 0, .int 0]) cx hP hS kl_X_C is_C in_C rfl wf_C ty_C tk_C (fun j hj => match j, hj with | 0, _ => rfl | 1, _ => rfl | 2, _ => rfl | 3, _ => rfl | 4, _ => rfl | 5, _ => rfl | 6, _ => rfl | 7, _ => rfl | 8, _ => rfl | 9, _ => rfl | 10, _ => rfl | 11, _ => rfl | 12, _ => rfl | q + 13, hj => absurd hj (by show ¬ q + 13 < 13; omega)) (by show 3 + 3 * i + 1 ≤ 182; omega) (by show 15 + 27 * i + 13 ≤ 997; omega) dd_X_init_88 (fun H hP hS => ?_)
        refine lv_dup (pc := 91) hx hb dd_X_init_91 rfl ?_
        refine lv_iload (pc := 92) hx hb dd_X_init_92 (lv_at hl 0 rfl) ?_
        refine lv_iload (pc := 94) hx hb dd_X_init_94 (lv_at hl 2 rfl) ?_
        refine g_callv (g_runI (k := 2) (a := b + 4 + 3 * i) (As := [.int (nI i), .int (nI (clN 1 (clN 3 7 z1) z2))]) (rest := [.ref (b + 4 + 3 * i), .int (nI i), .ref (b + 3)]) (pc := 96) co_C_init ml_X_C_init im_C_init in_C rfl (by decide +kernel) rfl cx hl hP (ct_C_init l D g b (b + 4 + 3 * i + 1) _ (b + 4 + 3 * i) (vu_s _ _ _) i (clN 1 (clN 3 7 z1) z2) (by omega)) rfl rfl ⟨(Nat.le_of_ble_eq_true rfl), (Nat.le_of_ble_eq_true rfl)⟩ ⟨by show 3 + 3 * i + 1 + 2 ≤ 182; omega, by show 15 + 27 * i + 13 + 14 ≤ 997; omega⟩ (Nat.le_of_ble_eq_true rfl) dd_X_init_96) hS (fun w3 H locs hw hP hS => ?_)
        obtain ⟨g1, g2, g3⟩ := hw
        have ha2 : w3 (b + 3) = some (.inl (g 3, 5, qa f)) := by rw [g3 _ (by omega) (by omega), vu_n _ _ (by omega)]; exact ha
        refine g_aast (pc := 99) 3 0 (r := (rn_C, tf_C, 13)) cx hP hS ha2 rfl g1 rfl rfl (by omega) (by omega) dd_X_init_99 (fun H locs hP hS => ?_)
        refine lv_iinc (pc := 100) (k := 0) (lv' := [(7, _), (4, _), (5, _), (6, _), (0, _)]) hx hb dd_X_init_100 hl rfl (f_inc1 i) (Nat.le_of_ble_eq_true rfl) rfl (fun ls hl => ?_)
        refine lv_goto (pc := 103) (tgt := 76) hx hb dd_X_init_103 (by decide) ?_
        refine W.widen (k := 3 + 3 * (i + 1)) (n := 15 + 27 * (i + 1)) (by omega) (by omega) ?_
        have hP : gP D b (b + 4 + 3 * (i + 1)) _ H := hP
        have U0 := ((vC i (show i < 5 by omega)).1.at (S0 b (clN 3 7 z1))).cell
        have U1 := ((vC i (show i < 5 by omega)).2.1.at (S0 b (clN 3 7 z1))).cell
        have U2 := ((vC i (show i < 5 by omega)).2.2.at (S0 b (clN 3 7 z1))).cell
        refine ih (i + 1) _ (va_up f i (some (b + 4 + 3 * i))) _ _ (by omega) hP hS (by rw [vu_n _ _ (by omega), g3 b (by omega) (by omega), vu_n _ _ (by omega)]; exact fa) (vu_s _ _ _) (fun j hj => ?_) (fun q h1 h2 h4 => ?_) ls (lv_sub hl [0, 1, 2, 3, 4] rfl)
        · by_cases hji : j = i
          · rw [hji, vu_s]
          · rw [vu_n _ _ hji]; exact hf j (by omega)
        · rw [vu_n _ _ h4]
          by_cases q0 : q < b + 4 + 3 * i
          · rw [g3 q (by omega) (by omega), vu_n _ _ (by omega)]; exact J q h1 q0 h4
          · by_cases q1 : q = b + 4 + 3 * i
            · rw [q1, g1]; exact U0.symm
            · by_cases q2 : q = b + 4 + 3 * i + 1
              · rw [q2]; exact (g2 0 (by omega)).trans U1.symm
              · rw [show q = b + 4 + 3 * i + 2 by omega]; exact (g2 1 (by omega)).trans U2.symm
  refine lv_aload_n (pc := 0) hx hb dd_X_init_0 rfl (lv_at hl 0 rfl) ?_
  refine g_oi (pc := 1) ml_X_O_init cx hl (Nat.le_of_ble_eq_true rfl) (Nat.le_of_ble_eq_true rfl) dd_X_init_1 ?_
  refine lv_iconst (pc := 4) (v := nI 3) hx hb dd_X_init_4 (by decide) ?_
  refine lv_iload_n (pc := 5) hx hb dd_X_init_5 rfl (lv_at hl 1 rfl) ?_
  refine lv_bipush (pc := 6) (v := nI 7) hx hb dd_X_init_6 (by decide) ?_
  refine g_calli (g_runS (k := 3) (As := [.int (nI 3), .int z1, .int (nI 7)]) (rest := []) (pc := 8) co_X_between ml_X_X_between st_X_between in_X (by decide +kernel) rfl cx hl hP (ct_X_between l D g b (b + 1) w 3 7 z1 (by omega) (by omega)) rfl rfl ⟨(Nat.le_of_ble_eq_true rfl), (Nat.le_of_ble_eq_true rfl)⟩ ⟨(Nat.le_of_ble_eq_true rfl), (Nat.le_of_ble_eq_true rfl)⟩ (Nat.le_of_ble_eq_true rfl) dd_X_init_8) hS (fun H locs hP hS => ?_)
  refine lv_istore (pc := 11) (lv' := [(4, _), (0, _), (1, _), (2, _), (3, _)]) hx hb dd_X_init_11 hl (Nat.le_of_ble_eq_true rfl) rfl (fun ls hl => ?_)
  refine lv_iconst (pc := 13) (v := nI 1) hx hb dd_X_init_13 (by decide) ?_
  refine lv_iload_n (pc := 14) hx hb dd_X_init_14 rfl (lv_at hl 3 rfl) ?_
  refine lv_iload (pc := 15) hx hb dd_X_init_15 (lv_at hl 0 rfl) ?_
  refine g_calli (g_runS (k := 3) (As := [.int (nI 1), .int z2, .int (nI (clN 3 7 z1))]) (rest := []) (pc := 17) co_X_between ml_X_X_between st_X_between in_X (by decide +kernel) rfl cx hl hP (ct_X_between l D g b (b + 1) w 1 (clN 3 7 z1) z2 (by omega) (by omega)) rfl rfl ⟨(Nat.le_of_ble_eq_true rfl), (Nat.le_of_ble_eq_true rfl)⟩ ⟨(Nat.le_of_ble_eq_true rfl), (Nat.le_of_ble_eq_true rfl)⟩ (Nat.le_of_ble_eq_true rfl) dd_X_init_17) hS (fun H locs hP hS => ?_)
  refine lv_istore (pc := 20) (lv' := [(5, _), (4, _), (0, _), (1, _), (2, _), (3, _)]) hx hb dd_X_init_20 hl (Nat.le_of_ble_eq_true rfl) rfl (fun ls hl => ?_)
  refine lv_iconst (pc := 22) (v := nI 0) hx hb dd_X_init_22 (by decide) ?_
  refine lv_iload_n (pc := 23) hx hb dd_X_init_23 rfl (lv_at hl 5 rfl) ?_
  refine lv_iconst (pc := 24) (v := nI 3) hx hb dd_X_init_24 (by decide) ?_
  refine g_calli (g_runS (k := 3) (As := [.int (nI 0), .int z3, .int (nI 3)]) (rest := []) (pc := 25) co_X_between ml_X_X_between st_X_between in_X (by decide +kernel) rfl cx hl hP (ct_X_between l D g b (b + 1) w 0 3 z3 (by omega) (by omega)) rfl rfl ⟨(Nat.le_of_ble_eq_true rfl), (Nat.le_of_ble_eq_true rfl)⟩ ⟨(Nat.le_of_ble_eq_true rfl), (Nat.le_of_ble_eq_true rfl)⟩ (Nat.le_of_ble_eq_true rfl) dd_X_init_25) hS (fun H locs hP hS => ?_)
  refine lv_istore (pc := 28) (lv' := [(6, _), (5, _), (4, _), (0, _), (1, _), (2, _), (3, _)]) hx hb dd_X_init_28 hl (Nat.le_of_ble_eq_true rfl) rfl (fun ls hl => ?_)
  refine lv_aload_n (pc := 30) hx hb dd_X_init_30 rfl (lv_at hl 3 rfl) ?_
  refine lv_iload (pc := 31) hx hb dd_X_init_31 (lv_at hl 2 rfl) ?_
  refine lv_iload (pc := 33) hx hb dd_X_init_33 (lv_at hl 1 rfl) ?_
  refine lv_isub (pc := 35) hx hb dd_X_init_35 ?_
  refine lv_iconst (pc := 36) (v := 2) hx hb dd_X_init_36 (by decide) ?_
  refine lv_idiv (pc := 37) hx hb dd_X_init_37 (by decide) ?_
  refine f_topi (n_half (x0 D g b (clN 3 7 z1) (clN 1 (clN 3 7 z1) z2) (clN 0 3 z3)) hO) ?_
  refine g_put (pc := 38) cx hnm hP hS fa rfl wf_X ty_X tk_X nm_X 1 (by decide) fl_X_X_mostCrashes (fun _ h => h) rfl (ty := .int) (by decide +kernel) rfl rfl (Nat.le_of_ble_eq_true rfl) dd_X_init_38 (fun H locs hP hS => ?_)
  have fa : va_up w b (some (.inr (5, [.int 0, .int (nI (xM (x0 D g b (clN 3 7 z1) (clN 1 (clN 3 7 z1) z2) (clN 0 3 z3)))), .null, .null, .null, .null, .null, .int 0]))) b = _ := vu_s _ _ _
  refine lv_aload_n (pc := 41) hx hb dd_X_init_41 rfl (lv_at hl 3 rfl) ?_
  refine lv_iload (pc := 42) hx hb dd_X_init_42 (lv_at hl 2 rfl) ?_
  refine lv_aload_n (pc := 44) hx hb dd_X_init_44 rfl (lv_at hl 3 rfl) ?_
  refine g_get (pc := 45) cx hP fa rfl wf_X 1 (by decide) fl_X_X_mostCrashes (fun _ h => h) rfl dd_X_init_45 ?_
  refine lv_isub (pc := 48) hx hb dd_X_init_48 ?_
  refine f_topi (show nI (clN 3 7 z1) - nI (xM (x0 D g b (clN 3 7 z1) (clN 1 (clN 3 7 z1) z2) (clN 0 3 z3))) = nI (xQ (x0 D g b (clN 3 7 z1) (clN 1 (clN 3 7 z1) z2) (clN 0 3 z3))) from pk_sub (by show xM (x0 D g b (clN 3 7 z1) (clN 1 (clN 3 7 z1) z2) (clN 0 3 z3)) ≤ (clN 3 7 z1); unfold xM; show ((clN 3 7 z1) - (clN 1 (clN 3 7 z1) z2)) / 2 ≤ (clN 3 7 z1); omega)) ?_
  refine g_put (pc := 49) cx hnm hP hS fa rfl wf_X ty_X tk_X nm_X 0 (by decide) fl_X_X_quorumSize (fun _ h => h) rfl (ty := .int) (by decide +kernel) rfl rfl (Nat.le_of_ble_eq_true rfl) dd_X_init_49 (fun H locs hP hS => ?_)
  obtain ⟨w1, hw1⟩ : ∃ w1, w1 = va_up (va_up w b (some (.inr (5, [.int 0, .int (nI (xM (x0 D g b (clN 3 7 z1) (clN 1 (clN 3 7 z1) z2) (clN 0 3 z3)))), .null, .null, .null, .null, .null, .int 0])))) b (some (.inr (5, [.int (nI (xQ (x0 D g b (clN 3 7 z1) (clN 1 (clN 3 7 z1) z2) (clN 0 3 z3)))), .int (nI (xM (x0 D g b (clN 3 7 z1) (clN 1 (clN 3 7 z1) z2) (clN 0 3 z3)))), .null, .null, .null, .null, .null, .int 0]))) := ⟨_, rfl⟩
  have hP : gP D b (b + 1) w1 H := by rw [hw1]; exact hP
  have fa : w1 b = some (.inr (5, [.int (nI (xQ (x0 D g b (clN 3 7 z1) (clN 1 (clN 3 7 z1) z2) (clN 0 3 z3)))), .int (nI (xM (x0 D g b (clN 3 7 z1) (clN 1 (clN 3 7 z1) z2) (clN 0 3 z3)))), .null, .null, .null, .null, .null, .int 0])) := by rw [hw1, vu_s]
  clear hw1
  refine lv_aload_n (pc := 52) hx hb dd_X_init_52 rfl (lv_at hl 3 rfl) ?_
  refine g_new (pc := 53) (ci := 1) (fs := [.int 0, .int 0, .null]) cx hP hS kl_X_K is_K in_K rfl wf_K ty_K tk_K (fun j hj => match j, hj with | 0, _ => rfl | 1, _ => rfl | 2, _ => rfl | q + 3, hj => absurd hj (by show ¬ q + 3 < 3; omega)) (Nat.le_of_ble_eq_true rfl) (Nat.le_of_ble_eq_true rfl) dd_X_init_53 (fun H hP hS => ?_)
  refine lv_dup (pc := 56) hx hb dd_X_init_56 rfl ?_
  refine lv_iload (pc := 57) hx hb dd_X_init_57 (lv_at hl 1 rfl) ?_
  refine g_callv (g_runI (k := 1) (a := b + 1) (As := [.int (nI (clN 1 (clN 3 7 z1) z2))]) (rest := [.ref (b + 1), .ref b]) (pc := 59) co_K_init ml_X_K_init im_K_init in_K rfl (by decide +kernel) rfl cx hl hP (ct_K_init l D g b (b + 1 + 1) _ (b + 1) (vu_s _ _ _) (clN 1 (clN 3 7 z1) z2) (by omega) (by omega)) rfl rfl ⟨(Nat.le_of_ble_eq_true rfl), (Nat.le_of_ble_eq_true rfl)⟩ ⟨(Nat.le_of_ble_eq_true rfl), (Nat.le_of_ble_eq_true rfl)⟩ (Nat.le_of_ble_eq_true rfl) dd_X_init_59) hS (fun w2 H locs hw hP hS => ?_)
  obtain ⟨g1, g2, g3⟩ := hw
  have fa : w2 b = some (.inr (5, [.int (nI (xQ (x0 D g b (clN 3 7 z1) (clN 1 (clN 3 7 z1) z2) (clN 0 3 z3)))), .int (nI (xM (x0 D g b (clN 3 7 z1) (clN 1 (clN 3 7 z1) z2) (clN 0 3 z3)))), .null, .null, .null, .null, .null, .int 0])) := by rw [g3 b (by omega) (by omega), vu_n _ _ (by omega)]; exact fa
  have T1 : wd (x0 D g b (clN 3 7 z1) (clN 1 (clN 3 7 z1) z2) (clN 0 3 z3)) (S0 b (clN 3 7 z1)) (b + 1) = _ := (v1.at (S0 b (clN 3 7 z1))).cell
  have T2 : wd (x0 D g b (clN 3 7 z1) (clN 1 (clN 3 7 z1) z2) (clN 0 3 z3)) (S0 b (clN 3 7 z1)) (b + 2) = _ := (v2.at (S0 b (clN 3 7 z1))).cell
  have J : ∀ q, b < q → q < b + 3 → w2 q = wd (x0 D g b (clN 3 7 z1) (clN 1 (clN 3 7 z1) z2) (clN 0 3 z3)) (S0 b (clN 3 7 z1)) q := by
    intro q h1 h2
    by_cases hq : q = b + 1
    · rw [hq, T1, g1]; rfl
    · rw [show q = b + 2 by omega, T2]; exact g2 0 (by omega)
  clear g1 g2 g3
  refine g_put (pc := 62) cx hnm hP hS fa rfl wf_X ty_X tk_X nm_X 2 (by decide) fl_X_X_code (fun _ h => h) rfl (ty := .object "SealedFragmentRegister$Code") (by decide +kernel) rfl rfl (Nat.le_of_ble_eq_true rfl) dd_X_init_62 (fun H locs hP hS => ?_)
  obtain ⟨w3, hw3⟩ : ∃ w3, w3 = va_up w2 b (some (.inr (5, [.int (nI (xQ (x0 D g b (clN 3 7 z1) (clN 1 (clN 3 7 z1) z2) (clN 0 3 z3)))), .int (nI (xM (x0 D g b (clN 3 7 z1) (clN 1 (clN 3 7 z1) z2) (clN 0 3 z3)))), .ref (b + 1), .null, .null, .null, .null, .int 0]))) := ⟨_, rfl⟩
  have hP : gP D b (b + 3) w3 H := by rw [hw3]; exact hP
  have fa : w3 b = some (.inr (5, [.int (nI (xQ (x0 D g b (clN 3 7 z1) (clN 1 (clN 3 7 z1) z2) (clN 0 3 z3)))), .int (nI (xM (x0 D g b (clN 3 7 z1) (clN 1 (clN 3 7 z1) z2) (clN 0 3 z3)))), .ref (b + 1), .null, .null, .null, .null, .int 0])) := by rw [hw3, vu_s]
  have J : ∀ q, b < q → q < b + 3 → w3 q = wd (x0 D g b (clN 3 7 z1) (clN 1 (clN 3 7 z1) z2) (clN 0 3 z3)) (S0 b (clN 3 7 z1)) q := fun q h1 h2 => by rw [hw3, vu_n _ _ (by omega)]; exact J q h1 h2
  clear hw3
  obtain ⟨w2, hw2⟩ : ∃ w2, w2 = w3 := ⟨_, rfl⟩
  rw [← hw2] at hP fa J
  clear hw2
  refine lv_aload_n (pc := 65) hx hb dd_X_init_65 rfl (lv_at hl 3 rfl) ?_
  refine lv_iconst (pc := 66) (v := nI 5) hx hb dd_X_init_66 (by decide) ?_
  refine g_newq (pc := 67) 3 (N' := 5) cx hP hS kl_X_C cx.2.2.1 rfl rfl (by omega) (Nat.le_of_ble_eq_true rfl) (Nat.le_of_ble_eq_true rfl) dd_X_init_67 (fun H hP hS => ?_)
  obtain ⟨w3, hw3⟩ : ∃ w3, w3 = va_up w2 (b + 3) (some (.inl (g 3, 5, qa (fun _ => none)))) := ⟨_, rfl⟩
  have hP : gP D b (b + 4) w3 H := by rw [hw3]; exact hP
  have fa : w3 b = some (.inr (5, [.int (nI (xQ (x0 D g b (clN 3 7 z1) (clN 1 (clN 3 7 z1) z2) (clN 0 3 z3)))), .int (nI (xM (x0 D g b (clN 3 7 z1) (clN 1 (clN 3 7 z1) z2) (clN 0 3 z3)))), .ref (b + 1), .null, .null, .null, .null, .int 0])) := by rw [hw3, vu_n _ _ (by omega)]; exact fa
  have ha : w3 (b + 3) = some (.inl (g 3, 5, qa (fun _ => none))) := by rw [hw3, vu_s]
  have J : ∀ q, b < q → q < b + 3 → w3 q = wd (x0 D g b (clN 3 7 z1) (clN 1 (clN 3 7 z1) z2) (clN 0 3 z3)) (S0 b (clN 3 7 z1)) q := fun q h1 h2 => by rw [hw3, vu_n _ _ (by omega)]; exact J q h1 h2
  clear hw3
  obtain ⟨w2, hw2⟩ : ∃ w2, w2 = w3 := ⟨_, rfl⟩
  rw [← hw2] at hP fa J ha
  clear hw2
  refine g_put (pc := 70) cx hnm hP hS fa rfl wf_X ty_X tk_X nm_X 3 (by decide) fl_X_X_clients (fun _ h => h) rfl (ty := .array (.object "SealedFragmentRegister$Client")) (by decide +kernel) rfl rfl (Nat.le_of_ble_eq_true rfl) dd_X_init_70 (fun H locs hP hS => ?_)
  obtain ⟨w3, hw3⟩ : ∃ w3, w3 = va_up w2 b (some (.inr (5, [.int (nI (xQ (x0 D g b (clN 3 7 z1) (clN 1 (clN 3 7 z1) z2) (clN 0 3 z3)))), .int (nI (xM (x0 D g b (clN 3 7 z1) (clN 1 (clN 3 7 z1) z2) (clN 0 3 z3)))), .ref (b + 1), .ref (b + 3), .null, .null, .null, .int 0]))) := ⟨_, rfl⟩
  have hP : gP D b (b + 4) w3 H := by rw [hw3]; exact hP
  have fa : w3 b = some (.inr (5, [.int (nI (xQ (x0 D g b (clN 3 7 z1) (clN 1 (clN 3 7 z1) z2) (clN 0 3 z3)))), .int (nI (xM (x0 D g b (clN 3 7 z1) (clN 1 (clN 3 7 z1) z2) (clN 0 3 z3)))), .ref (b + 1), .ref (b + 3), .null, .null, .null, .int 0])) := by rw [hw3, vu_s]
  have J : ∀ q, b < q → q < b + 3 → w3 q = wd (x0 D g b (clN 3 7 z1) (clN 1 (clN 3 7 z1) z2) (clN 0 3 z3)) (S0 b (clN 3 7 z1)) q := fun q h1 h2 => by rw [hw3, vu_n _ _ (by omega)]; exact J q h1 h2
  have ha : w3 (b + 3) = some (.inl (g 3, 5, qa (fun _ => none))) := by rw [hw3, vu_n _ _ (by omega)]; exact ha
  clear hw3
  obtain ⟨w2, hw2⟩ : ∃ w2, w2 = w3 := ⟨_, rfl⟩
  rw [← hw2] at hP fa J ha
  clear hw2
  refine lv_iconst (pc := 73) (v := nI 0) hx hb dd_X_init_73 (by decide) ?_
  refine lv_istore (pc := 74) (lv' := [(7, _), (6, _), (5, _), (4, _), (0, _), (1, _), (2, _), (3, _)]) hx hb dd_X_init_74 hl (Nat.le_of_ble_eq_true rfl) rfl (fun ls hl => ?_)
  refine W.widen (k := 3 + 3 * 0) (n := 15 + 27 * 0) (by omega) (by omega) ?_
  exact clie 5 0 _ (fun _ => none) _ _ (by omega) hP hS fa ha (fun j hj => absurd hj (Nat.not_lt_zero j)) (fun q h1 h2 h4 => J q h1 (by omega)) ls (lv_sub hl [0, 3, 2, 1, 4] rfl)
