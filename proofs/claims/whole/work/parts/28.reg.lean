-- contracts of the register, by wip/whole/gen/c_reg.py
set_option maxHeartbeats 4000000 in
set_option maxRecDepth 100000 in
theorem ct_X_isClient (l : Launch) (x : fy) (S : fm) (hL : fL x) (z : Int32) : Met l mn_X_isClient (gw_ws mn_X_isClient cb_X_isClient 2 (some .boolean)) ({ frames := 0, cells := 0, slots := 0, locals := 0 } : Room) (fPc x (S) [.ref (xa x 0 0), .int z]) (fQi x (S) (b2 (q_cl z))) 0 0 (fun q => xs x ≤ q) := by
  refine f_met (by decide) (Nat.le_of_ble_eq_true rfl) ?_
  intro p e s m below meth c0 cx hr hlocks hnm hP hS ls hl
  have cx : fX rn_X cb_X_isClient 2 p c0 s m [.ref (xa x 0 0), .int z].toArray x := cx
  have hx := cx.1.1
  have hb := cx.1.2.1
  have hl : lv_has ls 2 [(0, .ref (xa x 0 0)), (1, .int z)] := hl
  obtain ⟨v0, v1, v2, v3, v4, v5, v6, vC, vS, vR⟩ := hL
  refine lv_iload_n (pc := 0) hx hb dd_X_isClient_0 rfl (lv_at hl 1 rfl) ?_
  refine lv_if_lt (pc := 1) (tgt := 13) hx hb dd_X_isClient_1 (by decide) (fun h1 => ?_) (fun h1 => ?_)
  · -- 1: t to 13
    refine lv_iconst (pc := 13) (v := 0) hx hb dd_X_isClient_13 (by decide) ?_
    exact f_zret (pc := 14) cx hr hlocks hP hS (by simp [q_cl, b2, *]) rfl dd_X_isClient_14
  · -- 1: f to 4
    refine lv_iload_n (pc := 4) hx hb dd_X_isClient_4 rfl (lv_at hl 1 rfl) ?_
    refine lv_iconst (pc := 5) (v := 5) hx hb dd_X_isClient_5 (by decide) ?_
    refine lv_icmp_ge (pc := 6) (tgt := 13) hx hb dd_X_isClient_6 (by decide) (fun h6 => ?_) (fun h6 => ?_)
    · -- 6: t to 13
      refine lv_iconst (pc := 13) (v := 0) hx hb dd_X_isClient_13 (by decide) ?_
      exact f_zret (pc := 14) cx hr hlocks hP hS (by simp [q_cl, b2, *]) rfl dd_X_isClient_14
    · -- 6: f to 9
      refine lv_iconst (pc := 9) (v := 1) hx hb dd_X_isClient_9 (by decide) ?_
      refine lv_goto (pc := 10) (tgt := 14) hx hb dd_X_isClient_10 (by decide) ?_
      exact f_zret (pc := 14) cx hr hlocks hP hS (by simp [q_cl, b2, *]) rfl dd_X_isClient_14
set_option maxHeartbeats 4000000 in
set_option maxRecDepth 100000 in
theorem ct_X_isServer (l : Launch) (x : fy) (S : fm) (hL : fL x) (z : Int32) : Met l mn_X_isServer (gw_ws mn_X_isServer cb_X_isServer 2 (some .boolean)) ({ frames := 0, cells := 0, slots := 0, locals := 0 } : Room) (fPc x (S) [.ref (xa x 0 0), .int z]) (fQi x (S) (b2 (q_sv x z))) 0 0 (fun q => xs x ≤ q) := by
  refine f_met (by decide) (Nat.le_of_ble_eq_true rfl) ?_
  intro p e s m below meth c0 cx hr hlocks hnm hP hS ls hl
  have cx : fX rn_X cb_X_isServer 2 p c0 s m [.ref (xa x 0 0), .int z].toArray x := cx
  have hx := cx.1.1
  have hb := cx.1.2.1
  have hl : lv_has ls 2 [(0, .ref (xa x 0 0)), (1, .int z)] := hl
  obtain ⟨v0, v1, v2, v3, v4, v5, v6, vC, vS, vR⟩ := hL
  refine lv_iload_n (pc := 0) hx hb dd_X_isServer_0 rfl (lv_at hl 1 rfl) ?_
  refine lv_if_lt (pc := 1) (tgt := 17) hx hb dd_X_isServer_1 (by decide) (fun h1 => ?_) (fun h1 => ?_)
  · -- 1: t to 17
    refine lv_iconst (pc := 17) (v := 0) hx hb dd_X_isServer_17 (by decide) ?_
    exact f_zret (pc := 18) cx hr hlocks hP hS (by simp [q_sv, b2, *]) rfl dd_X_isServer_18
  · -- 1: f to 4
    refine lv_iload_n (pc := 4) hx hb dd_X_isServer_4 rfl (lv_at hl 1 rfl) ?_
    refine lv_aload_n (pc := 5) hx hb dd_X_isServer_5 rfl (lv_at hl 0 rfl) ?_
    refine g_X_X_servers (pc := 6) cx hP (by assumption) dd_X_isServer_6 ?_
    refine f_alen 4 (pc := 9) cx hP (fv.at (by assumption) _) rfl rfl dd_X_isServer_9 ?_
    refine lv_icmp_ge (pc := 10) (tgt := 17) hx hb dd_X_isServer_10 (by decide) (fun h10 => ?_) (fun h10 => ?_)
    · -- 10: t to 17
      refine lv_iconst (pc := 17) (v := 0) hx hb dd_X_isServer_17 (by decide) ?_
      exact f_zret (pc := 18) cx hr hlocks hP hS (by simp [q_sv, b2, *]) rfl dd_X_isServer_18
    · -- 10: f to 13
      refine lv_iconst (pc := 13) (v := 1) hx hb dd_X_isServer_13 (by decide) ?_
      refine lv_goto (pc := 14) (tgt := 18) hx hb dd_X_isServer_14 (by decide) ?_
      exact f_zret (pc := 18) cx hr hlocks hP hS (by simp [q_sv, b2, *]) rfl dd_X_isServer_18
set_option maxHeartbeats 4000000 in
set_option maxRecDepth 100000 in
theorem ct_X_rowOf (l : Launch) (x : fy) (S : fm) (hL : fL x) (c s0 : Nat) : Met l mn_X_rowOf (gw_ws mn_X_rowOf cb_X_rowOf 3 (some .int)) ({ frames := 0, cells := 0, slots := 0, locals := 0 } : Room) (fPc x (S) [.ref (xa x 0 0), .int (nI c), .int (nI s0)]) (fQi x (S) (nI (c * xN x + s0))) 0 0 (fun q => xs x ≤ q) := by
  refine f_met (by decide) (Nat.le_of_ble_eq_true rfl) ?_
  intro p e s m below meth c0 cx hr hlocks hnm hP hS ls hl
  have cx : fX rn_X cb_X_rowOf 3 p c0 s m [.ref (xa x 0 0), .int (nI c), .int (nI s0)].toArray x := cx
  have hx := cx.1.1
  have hb := cx.1.2.1
  have hl : lv_has ls 3 [(0, .ref (xa x 0 0)), (1, .int (nI c)), (2, .int (nI s0))] := hl
  obtain ⟨v0, v1, v2, v3, v4, v5, v6, vC, vS, vR⟩ := hL
  refine lv_iload_n (pc := 0) hx hb dd_X_rowOf_0 rfl (lv_at hl 1 rfl) ?_
  refine lv_aload_n (pc := 1) hx hb dd_X_rowOf_1 rfl (lv_at hl 0 rfl) ?_
  refine g_X_X_servers (pc := 2) cx hP (by assumption) dd_X_rowOf_2 ?_
  refine f_alen 4 (pc := 5) cx hP (fv.at (by assumption) _) rfl rfl dd_X_rowOf_5 ?_
  refine lv_imul (pc := 6) hx hb dd_X_rowOf_6 ?_
  refine lv_iload_n (pc := 7) hx hb dd_X_rowOf_7 rfl (lv_at hl 2 rfl) ?_
  refine lv_iadd (pc := 8) hx hb dd_X_rowOf_8 ?_
  exact f_iret (pc := 9) cx hr hlocks hP hS f_rk rfl dd_X_rowOf_9
set_option maxHeartbeats 4000000 in
set_option maxRecDepth 100000 in
theorem ct_X_isCrowded (l : Launch) (x : fy) (S : fm) (hL : fL x) (c : Nat) (hc : c < 5) (hO : fO x) (hI : fI x S) : Met l mn_X_isCrowded (gw_ws mn_X_isCrowded cb_X_isCrowded 4 (some .boolean)) ({ frames := 1, cells := 0, slots := 0, locals := 22 } : Room) (fPc x (S) [.ref (xa x 0 0), .int (nI c)]) (fQi x (S) (b2 (q_crowd x S c))) 0 0 (fun q => xs x ≤ q) := by
  refine f_met (by decide) (Nat.le_of_ble_eq_true rfl) ?_
  intro p e s m below meth c0 cx hr hlocks hnm hP hS ls hl
  have cx : fX rn_X cb_X_isCrowded 4 p c0 s m [.ref (xa x 0 0), .int (nI c)].toArray x := cx
  have hx := cx.1.1
  have hb := cx.1.2.1
  have hl : lv_has ls 4 [(0, .ref (xa x 0 0)), (1, .int (nI c))] := hl
  obtain ⟨v0, v1, v2, v3, v4, v5, v6, vC, vS, vR⟩ := hL
  have hN : xN x ≤ 7 := hO.2.2.2.1
  have loop : ∀ (n i : Nat) (H : Heap) (locs : List Loc), i ≤ xN x → xN x - i < n → (∀ k, k < i → (!mB S 10 k 5 && decide (4 < mU S 13 (c * xN x + k) 1 + mU S 13 (100 + (c * xN x + k)) 1)) = false) → fP x S H → fS x s.heap H locs → ∀ ls : Array Slot, lv_has ls 4 [(2, .int (nI i)), (0, .ref (xa x 0 0)), (1, .int (nI c))] → W p l e ({ frames := 1, cells := 0, slots := 0, locals := 22 } : Room) s m [.ref (xa x 0 0), .int (nI c)].toArray below meth c0 H locs 0 0 (MQ below (fQi x (S) (b2 (q_crowd x S c))) [.ref (xa x 0 0), .int (nI c)].toArray s 0 0 (fun q => xs x ≤ q)) (F0 m 2 ls []) := by
    intro n
    induction n with
    | zero => intro i H locs _ h; omega
    | succ n ih =>
      intro i H locs hi hn1 hk hP hS ls hl
      refine lv_iload_n (pc := 2) hx hb dd_X_isCrowded_2 rfl (lv_at hl 0 rfl) ?_
      refine lv_aload_n (pc := 3) hx hb dd_X_isCrowded_3 rfl (lv_at hl 1 rfl) ?_
      refine g_X_X_servers (pc := 4) cx hP (by assumption) dd_X_isCrowded_4 ?_
      refine f_alen 4 (pc := 7) cx hP (fv.at (by assumption) _) rfl rfl dd_X_isCrowded_7 ?_
      refine lv_icmp_ge (pc := 8) (tgt := 66) hx hb dd_X_isCrowded_8 (by decide) (fun h8 => ?_) (fun h8 => ?_)
      · -- 8: t to 66
        have h := (nI_leI (by omega) (by omega)).mp h8
        have e0 : (0 : Int32) = b2 (q_crowd x S c) := by
          have : q_crowd x S c = false := by
            unfold q_crowd
            rw [List.any_eq_false]
            intro k hk2
            rw [hk k (by have := List.mem_range.mp hk2; omega)]
            decide
          rw [this]; rfl
        refine lv_iconst (pc := 66) (v := 0) hx hb dd_X_isCrowded_66 (by decide) ?_
        exact f_zret (pc := 67) cx hr hlocks hP hS e0 rfl dd_X_isCrowded_67
      · -- 8: f to 11
        have h : i < xN x := Nat.lt_of_not_le (fun q => h8 ((nI_leI (by omega) (by omega)).mpr q))
        obtain ⟨v10, v11, v12⟩ := vS i h
        obtain ⟨v13, v14, v13r, v14r⟩ := vR _ (row_lt hc h)
        have hq1 := hI.1 (c * xN x + i)
        have hq2 := hI.1 (100 + (c * xN x + i))
        refine lv_aload_n (pc := 11) hx hb dd_X_isCrowded_11 rfl (lv_at hl 1 rfl) ?_
        refine g_X_X_requestRows (pc := 12) cx hP (by assumption) dd_X_isCrowded_12 ?_
        refine lv_aload_n (pc := 15) hx hb dd_X_isCrowded_15 rfl (lv_at hl 1 rfl) ?_
        refine lv_iload_n (pc := 16) hx hb dd_X_isCrowded_16 rfl (lv_at hl 2 rfl) ?_
        refine lv_iload_n (pc := 17) hx hb dd_X_isCrowded_17 rfl (lv_at hl 0 rfl) ?_
        refine k_X_X_rowOf (pc := 18) cx hl hP hS (by assumption) (ct_X_rowOf l x S ⟨v0, v1, v2, v3, v4, v5, v6, vC, vS, vR⟩ c i) ⟨⟨rfl, rfl⟩, ⟨(Nat.le_of_ble_eq_true rfl), (Nat.le_of_ble_eq_true rfl)⟩, (Nat.le_of_ble_eq_true rfl), (Nat.le_of_ble_eq_true rfl)⟩ (Nat.le_of_ble_eq_true rfl) dd_X_isCrowded_18 (fun H locs hP hS => ?_)
        refine f_ald5 (pc := 21) cx hP (by assumption) rfl (row_lt hc h) dd_X_isCrowded_21 ?_
        refine g_X_R_size (pc := 22) cx hP (by assumption) dd_X_isCrowded_22 ?_
        refine lv_aload_n (pc := 25) hx hb dd_X_isCrowded_25 rfl (lv_at hl 1 rfl) ?_
        refine g_X_X_replyRows (pc := 26) cx hP (by assumption) dd_X_isCrowded_26 ?_
        refine lv_aload_n (pc := 29) hx hb dd_X_isCrowded_29 rfl (lv_at hl 1 rfl) ?_
        refine lv_iload_n (pc := 30) hx hb dd_X_isCrowded_30 rfl (lv_at hl 2 rfl) ?_
        refine lv_iload_n (pc := 31) hx hb dd_X_isCrowded_31 rfl (lv_at hl 0 rfl) ?_
        refine k_X_X_rowOf (pc := 32) cx hl hP hS (by assumption) (ct_X_rowOf l x S ⟨v0, v1, v2, v3, v4, v5, v6, vC, vS, vR⟩ c i) ⟨⟨rfl, rfl⟩, ⟨(Nat.le_of_ble_eq_true rfl), (Nat.le_of_ble_eq_true rfl)⟩, (Nat.le_of_ble_eq_true rfl), (Nat.le_of_ble_eq_true rfl)⟩ (Nat.le_of_ble_eq_true rfl) dd_X_isCrowded_32 (fun H locs hP hS => ?_)
        refine f_ald6 (pc := 35) cx hP (by assumption) rfl (row_lt hc h) dd_X_isCrowded_35 ?_
        refine g_X_R_size (pc := 36) cx hP (by assumption) dd_X_isCrowded_36 ?_
        refine lv_iadd (pc := 39) hx hb dd_X_isCrowded_39 ?_
        refine f_topi (nI_add _ _) ?_
        refine lv_istore_n (pc := 40) (lv' := [(3, _), (2, _), (0, _), (1, _)]) hx hb dd_X_isCrowded_40 rfl hl (Nat.le_of_ble_eq_true rfl) rfl (fun ls hl => ?_)
        refine lv_aload_n (pc := 41) hx hb dd_X_isCrowded_41 rfl (lv_at hl 2 rfl) ?_
        refine g_X_X_servers (pc := 42) cx hP (by assumption) dd_X_isCrowded_42 ?_
        refine lv_iload_n (pc := 45) hx hb dd_X_isCrowded_45 rfl (lv_at hl 1 rfl) ?_
        refine f_ald4 (pc := 46) cx hP (by assumption) rfl (by omega) dd_X_isCrowded_46 ?_
        refine g_X_S_crashed (pc := 47) cx hP (by assumption) dd_X_isCrowded_47 ?_
        refine f_neB (pc := 50) (tgt := 60) cx dd_X_isCrowded_50 (by decide) (fun h50 => ?_) (fun h50 => ?_)
        · -- 50: t to 60
          have e0 : (!mB S 10 i 5 && decide (4 < mU S 13 (c * xN x + i) 1 + mU S 13 (100 + (c * xN x + i)) 1)) = false := by rw [h50]; rfl
          refine lv_iinc (pc := 60) (k := 1) (lv' := [(2, _), (3, _), (0, _), (1, _)]) hx hb dd_X_isCrowded_60 hl rfl (f_inc1 i) (Nat.le_of_ble_eq_true rfl) rfl (fun ls hl => ?_)
          refine lv_goto (pc := 63) (tgt := 2) hx hb dd_X_isCrowded_63 (by decide) ?_
          exact ih (i + 1) _ _ (by omega) (by omega) (lt_s hk e0) hP hS ls (lv_sub hl [0, 2, 3] rfl)
        · -- 50: f to 53
          refine lv_iload_n (pc := 53) hx hb dd_X_isCrowded_53 rfl (lv_at hl 0 rfl) ?_
          refine lv_iconst (pc := 54) (v := nI 4) hx hb dd_X_isCrowded_54 (by decide) ?_
          refine lv_icmp_le (pc := 55) (tgt := 60) hx hb dd_X_isCrowded_55 (by decide) (fun h55 => ?_) (fun h55 => ?_)
          · -- 55: t to 60
            have h2 := (nI_leI (by omega) (by omega)).mp h55
            have e0 : (!mB S 10 i 5 && decide (4 < mU S 13 (c * xN x + i) 1 + mU S 13 (100 + (c * xN x + i)) 1)) = false := by rw [decide_eq_false (by omega), Bool.and_false]
            refine lv_iinc (pc := 60) (k := 1) (lv' := [(2, _), (3, _), (0, _), (1, _)]) hx hb dd_X_isCrowded_60 hl rfl (f_inc1 i) (Nat.le_of_ble_eq_true rfl) rfl (fun ls hl => ?_)
            refine lv_goto (pc := 63) (tgt := 2) hx hb dd_X_isCrowded_63 (by decide) ?_
            exact ih (i + 1) _ _ (by omega) (by omega) (lt_s hk e0) hP hS ls (lv_sub hl [0, 2, 3] rfl)
          · -- 55: f to 58
            have h2 : 4 < mU S 13 (c * xN x + i) 1 + mU S 13 (100 + (c * xN x + i)) 1 := Nat.lt_of_not_le (fun q => h55 ((nI_leI (by omega) (by omega)).mpr q))
            have e0 : (1 : Int32) = b2 (q_crowd x S c) := by
              have : q_crowd x S c = true := by
                unfold q_crowd
                rw [List.any_eq_true]
                exact ⟨i, List.mem_range.mpr h, by rw [h50, decide_eq_true h2]; rfl⟩
              rw [this]; rfl
            refine lv_iconst (pc := 58) (v := 1) hx hb dd_X_isCrowded_58 (by decide) ?_
            exact f_zret (pc := 59) cx hr hlocks hP hS e0 rfl dd_X_isCrowded_59
  refine lv_iconst (pc := 0) (v := nI 0) hx hb dd_X_isCrowded_0 (by decide) ?_
  refine lv_istore_n (pc := 1) (lv' := [(2, _), (0, _), (1, _)]) hx hb dd_X_isCrowded_1 rfl hl (Nat.le_of_ble_eq_true rfl) rfl (fun ls hl => ?_)
  exact loop (xN x + 1) 0 _ _ (by omega) (by omega) lt_0 hP hS ls (lv_sub hl [0, 1, 2] rfl)
set_option maxHeartbeats 4000000 in
set_option maxRecDepth 100000 in
theorem ct_X_requestTo (l : Launch) (x : fy) (S : fm) (hL : fL x) (s0 c : Nat) (hs : s0 < xN x) (hc : c < 5) (hO : fO x) : Met l mn_X_requestTo (gw_ws mn_X_requestTo cb_X_requestTo 4 (some (.object "SealedFragmentRegister$Letter"))) ({ frames := 2, cells := 1, slots := 6, locals := 52 } : Room) (fPc x (S) [.ref (xa x 0 0), .int (nI s0), .ref (xa x 7 c)]) (fQq x (e_req x S c s0) (some (mZ S))) 1 6 (fun q => xs x ≤ q) := by
  refine f_met (by decide) (Nat.le_of_ble_eq_true rfl) ?_
  intro p e s m below meth c0 cx hr hlocks hnm hP hS ls hl
  have cx : fX rn_X cb_X_requestTo 4 p c0 s m [.ref (xa x 0 0), .int (nI s0), .ref (xa x 7 c)].toArray x := cx
  have hx := cx.1.1
  have hb := cx.1.2.1
  have hl : lv_has ls 4 [(0, .ref (xa x 0 0)), (1, .int (nI s0)), (2, .ref (xa x 7 c))] := hl
  obtain ⟨v0, v1, v2, v3, v4, v5, v6, vC, vS, vR⟩ := hL
  obtain ⟨v7, v8, v9⟩ := vC c hc
  have hN : xN x ≤ 7 := hO.2.2.2.1
  refine f_newL (pc := 0) kl_X_L cx hP hS (Nat.le_of_ble_eq_true rfl) (Nat.le_of_ble_eq_true rfl) dd_X_requestTo_0 (fun H hP hS hfv => ?_)
  refine lv_dup (pc := 3) hx hb dd_X_requestTo_3 rfl ?_
  refine lv_aload_n (pc := 4) hx hb dd_X_requestTo_4 rfl (lv_at hl 2 rfl) ?_
  refine g_X_C_phase (pc := 5) cx hP (by assumption) dd_X_requestTo_5 ?_
  refine lv_aload_n (pc := 8) hx hb dd_X_requestTo_8 rfl (lv_at hl 2 rfl) ?_
  refine g_X_C_beginning (pc := 9) cx hP (by assumption) dd_X_requestTo_9 ?_
  refine lv_aload_n (pc := 12) hx hb dd_X_requestTo_12 rfl (lv_at hl 2 rfl) ?_
  refine g_X_C_tag (pc := 13) cx hP (by assumption) dd_X_requestTo_13 ?_
  refine k_X_L_init (pc := 16) cx hl hP hS (ct_L_init l x (e_newL S) (mZ S) (mI S 7 c 5) (mI S 7 c 6) (mI S 7 c 9) hfv) ⟨⟨rfl, rfl⟩, ⟨(Nat.le_of_ble_eq_true rfl), (Nat.le_of_ble_eq_true rfl)⟩, (Nat.le_of_ble_eq_true rfl), (Nat.le_of_ble_eq_true rfl)⟩ (Nat.le_of_ble_eq_true rfl) dd_X_requestTo_16 (fun H locs hP hS => ?_)
  have hfv : fvL x (e_initL (e_newL S) (mZ S) (mI S 7 c 5) (mI S 7 c 6) (mI S 7 c 9)) (mZ S) := hfv
  refine lv_astore_n (pc := 19) (lv' := [(3, _), (0, _), (1, _), (2, _)]) hx hb dd_X_requestTo_19 rfl hl (Nat.le_of_ble_eq_true rfl) rfl (fun ls hl => ?_)
  refine lv_aload_n (pc := 20) hx hb dd_X_requestTo_20 rfl (lv_at hl 3 rfl) ?_
  refine g_X_C_phase (pc := 21) cx hP (by assumption) dd_X_requestTo_21 ?_
  refine lv_iconst (pc := 24) (v := 2) hx hb dd_X_requestTo_24 (by decide) ?_
  refine lv_icmp_ne (pc := 25) (tgt := 44) hx hb dd_X_requestTo_25 (by decide) (fun h25 => ?_) (fun h25 => ?_)
  · -- 25: t to 44
    have h25 : ¬ mI S 7 c 5 = 2 := h25
    have e0 : e_initL (e_newL S) (mZ S) (mI S 7 c 5) (mI S 7 c 6) (mI S 7 c 9) = e_req x S c s0 := by unfold e_req; rw [if_neg h25]
    refine lv_aload_n (pc := 44) hx hb dd_X_requestTo_44 rfl (lv_at hl 0 rfl) ?_
    refine W.widen (k := 1) (n := 6) (Nat.le_of_ble_eq_true rfl) (Nat.le_of_ble_eq_true rfl) ?_
    exact f_qret (pc := 45) cx hr hlocks hP hS rfl e0 dd_X_requestTo_45
  · -- 25: f to 28
    have h25 : mI S 7 c 5 = 2 := h25
    have e0 : sJ (e_initL (e_newL S) (mZ S) (mI S 7 c 5) (mI S 7 c 6) (mI S 7 c 9)) 15 (mZ S) 3 (enc x (mJ S 7 c 10) s0) = e_req x S c s0 := by unfold e_req; rw [if_pos h25]
    refine lv_aload_n (pc := 28) hx hb dd_X_requestTo_28 rfl (lv_at hl 0 rfl) ?_
    refine lv_aload_n (pc := 29) hx hb dd_X_requestTo_29 rfl (lv_at hl 1 rfl) ?_
    refine g_X_X_code (pc := 30) cx hP (by assumption) dd_X_requestTo_30 ?_
    refine lv_aload_n (pc := 33) hx hb dd_X_requestTo_33 rfl (lv_at hl 3 rfl) ?_
    refine g_X_C_block (pc := 34) cx hP (by assumption) dd_X_requestTo_34 ?_
    refine lv_iload_n (pc := 37) hx hb dd_X_requestTo_37 rfl (lv_at hl 2 rfl) ?_
    refine k_X_K_encode (pc := 38) cx hl hP hS (by assumption) (ct_K_encode l x _ (mJ S 7 c 10) s0 v1 (by omega) hO) ⟨⟨rfl, rfl⟩, ⟨(Nat.le_of_ble_eq_true rfl), (Nat.le_of_ble_eq_true rfl)⟩, (Nat.le_of_ble_eq_true rfl), (Nat.le_of_ble_eq_true rfl)⟩ (Nat.le_of_ble_eq_true rfl) dd_X_requestTo_38 (fun H locs hP hS => ?_)
    refine p_X_L_fragment (pc := 41) cx hP hS (by assumption) dd_X_requestTo_41 (fun H locs hP hS => ?_)
    refine lv_aload_n (pc := 44) hx hb dd_X_requestTo_44 rfl (lv_at hl 0 rfl) ?_
    refine W.widen (k := 1) (n := 6) (Nat.le_of_ble_eq_true rfl) (Nat.le_of_ble_eq_true rfl) ?_
    exact f_qret (pc := 45) cx hr hlocks hP hS rfl e0 dd_X_requestTo_45
set_option maxHeartbeats 4000000 in
set_option maxRecDepth 100000 in
theorem ct_X_beginPhase (l : Launch) (x : fy) (S : fm) (hL : fL x) (c : Nat) (ph : Int32) (hc : c < 5) (hO : fO x) (h7 : ∀ r, mU S 13 r 1 ≤ 7) : Met l mn_X_beginPhase (gw_ws mn_X_beginPhase cb_X_beginPhase 4 none) ({ frames := 3, cells := 7, slots := 42, locals := 75 } : Room) (fPc x (S) [.ref (xa x 0 0), .ref (xa x 7 c), .int ph]) (fQv x (e_begin x S c ph)) 7 42 (fun q => xs x ≤ q) := by
  refine f_met (by decide) (Nat.le_of_ble_eq_true rfl) ?_
  intro p e s m below meth c0 cx hr hlocks hnm hP hS ls hl
  have cx : fX rn_X cb_X_beginPhase 4 p c0 s m [.ref (xa x 0 0), .ref (xa x 7 c), .int ph].toArray x := cx
  have hx := cx.1.1
  have hb := cx.1.2.1
  have hl : lv_has ls 4 [(0, .ref (xa x 0 0)), (1, .ref (xa x 7 c)), (2, .int ph)] := hl
  obtain ⟨v0, v1, v2, v3, v4, v5, v6, vC, vS, vR⟩ := hL
  obtain ⟨v7, v8, v9⟩ := vC c hc
  have hN : xN x ≤ 7 := hO.2.2.2.1
  have h7e : ∀ r, mU (e_enter S c ph) 13 r 1 ≤ 7 := fun r => by unfold e_enter; rw [mU_sU, if_neg (by omega)]; exact h7 r
  have loop : ∀ (n i : Nat) (H : Heap) (locs : List Loc), i ≤ xN x → xN x - i < n → fP x (e_bgs x (e_enter S c ph) c (i)) H → fS x s.heap H locs → ∀ ls : Array Slot, lv_has ls 4 [(3, .int (nI i)), (0, .ref (xa x 0 0)), (1, .ref (xa x 7 c)), (2, .int ph)] → W p l e ({ frames := 3, cells := 7, slots := 42, locals := 75 } : Room) s m [.ref (xa x 0 0), .ref (xa x 7 c), .int ph].toArray below meth c0 H locs i (6 * i) (MQ below (fQv x (e_begin x S c ph)) [.ref (xa x 0 0), .ref (xa x 7 c), .int ph].toArray s 7 42 (fun q => xs x ≤ q)) (F0 m 7 ls []) := by
    intro n
    induction n with
    | zero => intro i H locs _ h; omega
    | succ n ih =>
      intro i H locs hi hn1 hP hS ls hl
      refine lv_iload_n (pc := 7) hx hb dd_X_beginPhase_7 rfl (lv_at hl 0 rfl) ?_
      refine lv_aload_n (pc := 8) hx hb dd_X_beginPhase_8 rfl (lv_at hl 1 rfl) ?_
      refine g_X_X_servers (pc := 9) cx hP (by assumption) dd_X_beginPhase_9 ?_
      refine f_alen 4 (pc := 12) cx hP (fv.at (by assumption) _) rfl rfl dd_X_beginPhase_12 ?_
      refine lv_icmp_ge (pc := 13) (tgt := 57) hx hb dd_X_beginPhase_13 (by decide) (fun h13 => ?_) (fun h13 => ?_)
      · -- 13: t to 57
        have h := (nI_leI (by omega) (by omega)).mp h13
        have hie : i = xN x := by omega
        subst hie
        refine W.widen (k := 7) (n := 42) (by omega) (by omega) ?_
        exact f_vret (pc := 57) cx hr hlocks hP hS rfl dd_X_beginPhase_57
      · -- 13: f to 16
        have h : i < xN x := Nat.lt_of_not_le (fun q => h13 ((nI_leI (by omega) (by omega)).mpr q))
        obtain ⟨v10, v11, v12⟩ := vS i h
        obtain ⟨v13, v14, v13r, v14r⟩ := vR _ (row_lt hc h)
        refine lv_aload_n (pc := 16) hx hb dd_X_beginPhase_16 rfl (lv_at hl 1 rfl) ?_
        refine g_X_X_servers (pc := 17) cx hP (by assumption) dd_X_beginPhase_17 ?_
        refine lv_iload_n (pc := 20) hx hb dd_X_beginPhase_20 rfl (lv_at hl 0 rfl) ?_
        refine f_ald4 (pc := 21) cx hP (by assumption) rfl (by omega) dd_X_beginPhase_21 ?_
        refine g_X_S_crashed (pc := 22) cx hP (by assumption) dd_X_beginPhase_22 ?_
        refine f_neB (pc := 25) (tgt := 51) cx dd_X_beginPhase_25 (by decide) (fun h25 => ?_) (fun h25 => ?_)
        · -- 25: t to 51
          have e0 : e_bgs x (e_enter S c ph) c (i) = e_bgs x (e_enter S c ph) c (i + 1) := by show _ = e_bg1 x (e_bgs x (e_enter S c ph) c (i)) c i; unfold e_bg1; rw [if_pos h25]
          refine lv_iinc (pc := 51) (k := 0) (lv' := [(3, _), (0, _), (1, _), (2, _)]) hx hb dd_X_beginPhase_51 hl rfl (f_inc1 i) (Nat.le_of_ble_eq_true rfl) rfl (fun ls hl => ?_)
          refine lv_goto (pc := 54) (tgt := 7) hx hb dd_X_beginPhase_54 (by decide) ?_
          refine W.widen (k := i + 1) (n := 6 * (i + 1)) (by omega) (by omega) ?_
          exact ih (i + 1) _ _ (by omega) (by omega) (f_eqS hP e0) hS ls (lv_sub hl [0, 1, 2, 3] rfl)
        · -- 25: f to 28
          have e0 : e_app (e_req x (e_bgs x (e_enter S c ph) c (i)) c i) (c * xN x + i) (mZ (e_bgs x (e_enter S c ph) c (i))) = e_bgs x (e_enter S c ph) c (i + 1) := by show _ = e_bg1 x (e_bgs x (e_enter S c ph) c (i)) c i; unfold e_bg1; rw [if_neg (by rw [h25]; decide)]
          have hfa : fvL x (e_req x (e_bgs x (e_enter S c ph) c (i)) c i) (mZ (e_bgs x (e_enter S c ph) c (i))) := by
            have := fvL_new hP
            unfold e_req
            split <;> exact this
          have hle : mU (e_req x (e_bgs x (e_enter S c ph) c (i)) c i) 13 (c * xN x + i) 1 ≤ 7 := by rw [e_req_U]; exact e_bgs_le x _ c h7e i _
          refine lv_aload_n (pc := 28) hx hb dd_X_beginPhase_28 rfl (lv_at hl 1 rfl) ?_
          refine g_X_X_requestRows (pc := 29) cx hP (by assumption) dd_X_beginPhase_29 ?_
          refine lv_aload_n (pc := 32) hx hb dd_X_beginPhase_32 rfl (lv_at hl 1 rfl) ?_
          refine lv_aload_n (pc := 33) hx hb dd_X_beginPhase_33 rfl (lv_at hl 2 rfl) ?_
          refine g_X_C_number (pc := 34) cx hP (by assumption) dd_X_beginPhase_34 ?_
          refine lv_iload_n (pc := 37) hx hb dd_X_beginPhase_37 rfl (lv_at hl 0 rfl) ?_
          refine k_X_X_rowOf (pc := 38) cx hl hP hS (by assumption) (ct_X_rowOf l x _ ⟨v0, v1, v2, v3, v4, v5, v6, vC, vS, vR⟩ c i) ⟨⟨rfl, rfl⟩, ⟨(Nat.le_of_ble_eq_true rfl), (Nat.le_of_ble_eq_true rfl)⟩, (by show i + 0 ≤ 7; omega), (by show 6 * i + 0 ≤ 42; omega)⟩ (Nat.le_of_ble_eq_true rfl) dd_X_beginPhase_38 (fun H locs hP hS => ?_)
          refine f_ald5 (pc := 41) cx hP (by assumption) rfl (row_lt hc h) dd_X_beginPhase_41 ?_
          refine lv_aload_n (pc := 42) hx hb dd_X_beginPhase_42 rfl (lv_at hl 1 rfl) ?_
          refine lv_iload_n (pc := 43) hx hb dd_X_beginPhase_43 rfl (lv_at hl 0 rfl) ?_
          refine lv_aload_n (pc := 44) hx hb dd_X_beginPhase_44 rfl (lv_at hl 2 rfl) ?_
          refine k_X_X_requestTo (pc := 45) cx hl hP hS (by assumption) (ct_X_requestTo l x _ ⟨v0, v1, v2, v3, v4, v5, v6, vC, vS, vR⟩ i c h hc hO) ⟨⟨rfl, rfl⟩, ⟨(Nat.le_of_ble_eq_true rfl), (Nat.le_of_ble_eq_true rfl)⟩, (by show i + 0 + 1 ≤ 7; omega), (by show 6 * i + 0 + 6 ≤ 42; omega)⟩ (Nat.le_of_ble_eq_true rfl) dd_X_beginPhase_45 (fun H locs hP hS => ?_)
          refine f_st (w := [.ref (mZ (e_bgs x (e_enter S c ph) c (i))), .ref (xa x 13 (c * xN x + i))]) rfl ?_
          refine k_X_R_append (pc := 48) cx hl hP hS (by assumption) (ct_R_append l x _ (c * xN x + i) (mZ (e_bgs x (e_enter S c ph) c (i))) v13 v14 hfa hle) ⟨⟨rfl, rfl⟩, ⟨(Nat.le_of_ble_eq_true rfl), (Nat.le_of_ble_eq_true rfl)⟩, (by show i + 0 + 1 + 0 ≤ 7; omega), (by show 6 * i + 0 + 6 + 0 ≤ 42; omega)⟩ (Nat.le_of_ble_eq_true rfl) dd_X_beginPhase_48 (fun H locs hP hS => ?_)
          refine lv_iinc (pc := 51) (k := 0) (lv' := [(3, _), (0, _), (1, _), (2, _)]) hx hb dd_X_beginPhase_51 hl rfl (f_inc1 i) (Nat.le_of_ble_eq_true rfl) rfl (fun ls hl => ?_)
          refine lv_goto (pc := 54) (tgt := 7) hx hb dd_X_beginPhase_54 (by decide) ?_
          refine W.widen (k := i + 1) (n := 6 * (i + 1)) (by omega) (by omega) ?_
          exact ih (i + 1) _ _ (by omega) (by omega) (f_eqS hP e0) hS ls (lv_sub hl [0, 1, 2, 3] rfl)
  refine lv_aload_n (pc := 0) hx hb dd_X_beginPhase_0 rfl (lv_at hl 1 rfl) ?_
  refine lv_iload_n (pc := 1) hx hb dd_X_beginPhase_1 rfl (lv_at hl 2 rfl) ?_
  refine k_X_C_enter (pc := 2) cx hl hP hS (by assumption) (ct_C_enter l x S c ph v7) ⟨⟨rfl, rfl⟩, ⟨(Nat.le_of_ble_eq_true rfl), (Nat.le_of_ble_eq_true rfl)⟩, (Nat.le_of_ble_eq_true rfl), (Nat.le_of_ble_eq_true rfl)⟩ (Nat.le_of_ble_eq_true rfl) dd_X_beginPhase_2 (fun H locs hP hS => ?_)
  refine lv_iconst (pc := 5) (v := nI 0) hx hb dd_X_beginPhase_5 (by decide) ?_
  refine lv_istore_n (pc := 6) (lv' := [(3, _), (0, _), (1, _), (2, _)]) hx hb dd_X_beginPhase_6 rfl hl (Nat.le_of_ble_eq_true rfl) rfl (fun ls hl => ?_)
  exact loop (xN x + 1) 0 _ _ (by omega) (by omega) hP hS ls (lv_sub hl [0, 1, 2, 3] rfl)
