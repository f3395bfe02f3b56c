-- contracts of deliver and hear, by wip/whole/gen/c_reg2.py
set_option maxHeartbeats 4000000 in
set_option maxRecDepth 100000 in
theorem ct_X_deliver_no (l : Launch) (x : fy) (S : fm) (hL : fL x) (z y j : Int32) (hz : q_cl z = false ∨ q_sv x y = false) : Met l mn_X_deliver (gw_ws mn_X_deliver cb_X_deliver 5 (some .int)) ({ frames := 3, cells := 0, slots := 0, locals := 66 } : Room) (fPc x (S) [.ref (xa x 0 0), .int z, .int y, .int j]) (fQi x (S) (-1)) 0 0 (fun q => xs x ≤ q) := by
  refine f_met (by decide) (Nat.le_of_ble_eq_true rfl) ?_
  intro p e s m below meth c0 cx hr hlocks hnm hP hS ls hl
  have cx : fX rn_X cb_X_deliver 5 p c0 s m [.ref (xa x 0 0), .int z, .int y, .int j].toArray x := cx
  have hx := cx.1.1
  have hb := cx.1.2.1
  have hl : lv_has ls 5 [(0, .ref (xa x 0 0)), (1, .int z), (2, .int y), (3, .int j)] := hl
  obtain ⟨v0, v1, v2, v3, v4, v5, v6, vC, vS, vR⟩ := hL
  refine lv_aload_n (pc := 0) hx hb dd_X_deliver_0 rfl (lv_at hl 0 rfl) ?_
  refine lv_iload_n (pc := 1) hx hb dd_X_deliver_1 rfl (lv_at hl 1 rfl) ?_
  refine k_X_X_isClient (pc := 2) cx hl hP hS (by assumption) (ct_X_isClient l x S ⟨v0, v1, v2, v3, v4, v5, v6, vC, vS, vR⟩ z) ⟨⟨rfl, rfl⟩, ⟨(Nat.le_of_ble_eq_true rfl), (Nat.le_of_ble_eq_true rfl)⟩, (Nat.le_of_ble_eq_true rfl), (Nat.le_of_ble_eq_true rfl)⟩ (Nat.le_of_ble_eq_true rfl) dd_X_deliver_2 (fun H locs hP hS => ?_)
  refine f_eqB (pc := 5) (tgt := 16) cx dd_X_deliver_5 (by decide) (fun h5 => ?_) (fun h5 => ?_)
  · -- 5: t to 16
    refine lv_iconst (pc := 16) (v := (-1)) hx hb dd_X_deliver_16 (by decide) ?_
    exact f_iret (pc := 17) cx hr hlocks hP hS rfl rfl dd_X_deliver_17
  · -- 5: f to 8
    refine lv_aload_n (pc := 8) hx hb dd_X_deliver_8 rfl (lv_at hl 0 rfl) ?_
    refine lv_iload_n (pc := 9) hx hb dd_X_deliver_9 rfl (lv_at hl 2 rfl) ?_
    refine k_X_X_isServer (pc := 10) cx hl hP hS (by assumption) (ct_X_isServer l x S ⟨v0, v1, v2, v3, v4, v5, v6, vC, vS, vR⟩ y) ⟨⟨rfl, rfl⟩, ⟨(Nat.le_of_ble_eq_true rfl), (Nat.le_of_ble_eq_true rfl)⟩, (Nat.le_of_ble_eq_true rfl), (Nat.le_of_ble_eq_true rfl)⟩ (Nat.le_of_ble_eq_true rfl) dd_X_deliver_10 (fun H locs hP hS => ?_)
    refine f_neB (pc := 13) (tgt := 18) cx dd_X_deliver_13 (by decide) (fun h13 => ?_) (fun h13 => ?_)
    · -- 13: t to 18
      exact hz.elim (fun q => absurd (q.symm.trans h5) (by decide)) (fun q => absurd (q.symm.trans h13) (by decide))
    · -- 13: f to 16
      refine lv_iconst (pc := 16) (v := (-1)) hx hb dd_X_deliver_16 (by decide) ?_
      exact f_iret (pc := 17) cx hr hlocks hP hS rfl rfl dd_X_deliver_17
set_option maxHeartbeats 4000000 in
set_option maxRecDepth 100000 in
theorem ct_X_deliver_none (l : Launch) (x : fy) (S : fm) (hL : fL x) (c s0 : Nat) (j : Int32) (hc : c < 5) (hs : s0 < xN x) (hO : fO x) (hj : j < 0 ∨ nI (mU S 13 (c * xN x + s0) 1) ≤ j) : Met l mn_X_deliver (gw_ws mn_X_deliver cb_X_deliver 5 (some .int)) ({ frames := 3, cells := 0, slots := 0, locals := 66 } : Room) (fPc x (S) [.ref (xa x 0 0), .int (nI c), .int (nI s0), .int j]) (fQi x (S) (-2)) 0 0 (fun q => xs x ≤ q) := by
  refine f_met (by decide) (Nat.le_of_ble_eq_true rfl) ?_
  intro p e s m below meth c0 cx hr hlocks hnm hP hS ls hl
  have cx : fX rn_X cb_X_deliver 5 p c0 s m [.ref (xa x 0 0), .int (nI c), .int (nI s0), .int j].toArray x := cx
  have hx := cx.1.1
  have hb := cx.1.2.1
  have hl : lv_has ls 5 [(0, .ref (xa x 0 0)), (1, .int (nI c)), (2, .int (nI s0)), (3, .int j)] := hl
  obtain ⟨v0, v1, v2, v3, v4, v5, v6, vC, vS, vR⟩ := hL
  obtain ⟨v13, v14, v13r, v14r⟩ := vR _ (row_lt hc hs)
  have hN : xN x ≤ 7 := hO.2.2.2.1
  refine lv_aload_n (pc := 0) hx hb dd_X_deliver_0 rfl (lv_at hl 0 rfl) ?_
  refine lv_iload_n (pc := 1) hx hb dd_X_deliver_1 rfl (lv_at hl 1 rfl) ?_
  refine k_X_X_isClient (pc := 2) cx hl hP hS (by assumption) (ct_X_isClient l x S ⟨v0, v1, v2, v3, v4, v5, v6, vC, vS, vR⟩ (nI c)) ⟨⟨rfl, rfl⟩, ⟨(Nat.le_of_ble_eq_true rfl), (Nat.le_of_ble_eq_true rfl)⟩, (Nat.le_of_ble_eq_true rfl), (Nat.le_of_ble_eq_true rfl)⟩ (Nat.le_of_ble_eq_true rfl) dd_X_deliver_2 (fun H locs hP hS => ?_)
  refine f_eqB (pc := 5) (tgt := 16) cx dd_X_deliver_5 (by decide) (fun h5 => ?_) (fun h5 => ?_)
  · -- 5: t to 16
    exact absurd (h5.symm.trans (q_cl_in hc)) (by decide)
  · -- 5: f to 8
    refine lv_aload_n (pc := 8) hx hb dd_X_deliver_8 rfl (lv_at hl 0 rfl) ?_
    refine lv_iload_n (pc := 9) hx hb dd_X_deliver_9 rfl (lv_at hl 2 rfl) ?_
    refine k_X_X_isServer (pc := 10) cx hl hP hS (by assumption) (ct_X_isServer l x S ⟨v0, v1, v2, v3, v4, v5, v6, vC, vS, vR⟩ (nI s0)) ⟨⟨rfl, rfl⟩, ⟨(Nat.le_of_ble_eq_true rfl), (Nat.le_of_ble_eq_true rfl)⟩, (Nat.le_of_ble_eq_true rfl), (Nat.le_of_ble_eq_true rfl)⟩ (Nat.le_of_ble_eq_true rfl) dd_X_deliver_10 (fun H locs hP hS => ?_)
    refine f_neB (pc := 13) (tgt := 18) cx dd_X_deliver_13 (by decide) (fun h13 => ?_) (fun h13 => ?_)
    · -- 13: t to 18
      refine lv_aload_n (pc := 18) hx hb dd_X_deliver_18 rfl (lv_at hl 0 rfl) ?_
      refine g_X_X_requestRows (pc := 19) cx hP (by assumption) dd_X_deliver_19 ?_
      refine lv_aload_n (pc := 22) hx hb dd_X_deliver_22 rfl (lv_at hl 0 rfl) ?_
      refine lv_iload_n (pc := 23) hx hb dd_X_deliver_23 rfl (lv_at hl 1 rfl) ?_
      refine lv_iload_n (pc := 24) hx hb dd_X_deliver_24 rfl (lv_at hl 2 rfl) ?_
      refine k_X_X_rowOf (pc := 25) cx hl hP hS (by assumption) (ct_X_rowOf l x _ ⟨v0, v1, v2, v3, v4, v5, v6, vC, vS, vR⟩ c s0) ⟨⟨rfl, rfl⟩, ⟨(Nat.le_of_ble_eq_true rfl), (Nat.le_of_ble_eq_true rfl)⟩, (Nat.le_of_ble_eq_true rfl), (Nat.le_of_ble_eq_true rfl)⟩ (Nat.le_of_ble_eq_true rfl) dd_X_deliver_25 (fun H locs hP hS => ?_)
      refine f_ald5 (pc := 28) cx hP (by assumption) rfl (row_lt hc hs) dd_X_deliver_28 ?_
      refine lv_iload_n (pc := 29) hx hb dd_X_deliver_29 rfl (lv_at hl 3 rfl) ?_
      refine k_X_R_take (pc := 30) cx hl hP hS (by assumption) (ct_R_take_no l x S (c * xN x + s0) j v13 v14 hj) ⟨⟨rfl, rfl⟩, ⟨(Nat.le_of_ble_eq_true rfl), (Nat.le_of_ble_eq_true rfl)⟩, (Nat.le_of_ble_eq_true rfl), (Nat.le_of_ble_eq_true rfl)⟩ (Nat.le_of_ble_eq_true rfl) dd_X_deliver_30 (fun H locs hP hS => ?_)
      refine f_st (w := [.null]) rfl ?_
      refine lv_astoreN (pc := 33) (lv' := [(4, _), (0, _), (1, _), (2, _), (3, _)]) hx hb dd_X_deliver_33 hl (Nat.le_of_ble_eq_true rfl) rfl (fun ls hl => ?_)
      refine lv_aloadN (pc := 35) hx hb dd_X_deliver_35 (lv_at hl 0 rfl) ?_
      refine lv_ifnonnullN (pc := 37) hx hb dd_X_deliver_37 ?_
      refine lv_bipush (pc := 40) (v := (-2)) hx hb dd_X_deliver_40 (by decide) ?_
      exact f_iret (pc := 42) cx hr hlocks hP hS rfl rfl dd_X_deliver_42
    · -- 13: f to 16
      exact absurd (h13.symm.trans (q_sv_in hO hs)) (by decide)
set_option maxHeartbeats 4000000 in
set_option maxRecDepth 100000 in
theorem ct_X_hear_no (l : Launch) (x : fy) (S : fm) (hL : fL x) (z y j : Int32) (hz : q_cl z = false ∨ q_sv x y = false) : Met l mn_X_hear (gw_ws mn_X_hear cb_X_hear 6 (some .int)) ({ frames := 5, cells := 7, slots := 42, locals := 120 } : Room) (fPc x (S) [.ref (xa x 0 0), .int z, .int y, .int j]) (fQi x (S) (-1)) 7 42 (fun q => xs x ≤ q) := by
  refine f_met (by decide) (Nat.le_of_ble_eq_true rfl) ?_
  intro p e s m below meth c0 cx hr hlocks hnm hP hS ls hl
  have cx : fX rn_X cb_X_hear 6 p c0 s m [.ref (xa x 0 0), .int z, .int y, .int j].toArray x := cx
  have hx := cx.1.1
  have hb := cx.1.2.1
  have hl : lv_has ls 6 [(0, .ref (xa x 0 0)), (1, .int z), (2, .int y), (3, .int j)] := hl
  obtain ⟨v0, v1, v2, v3, v4, v5, v6, vC, vS, vR⟩ := hL
  refine lv_aload_n (pc := 0) hx hb dd_X_hear_0 rfl (lv_at hl 0 rfl) ?_
  refine lv_iload_n (pc := 1) hx hb dd_X_hear_1 rfl (lv_at hl 1 rfl) ?_
  refine k_X_X_isClient (pc := 2) cx hl hP hS (by assumption) (ct_X_isClient l x S ⟨v0, v1, v2, v3, v4, v5, v6, vC, vS, vR⟩ z) ⟨⟨rfl, rfl⟩, ⟨(Nat.le_of_ble_eq_true rfl), (Nat.le_of_ble_eq_true rfl)⟩, (Nat.le_of_ble_eq_true rfl), (Nat.le_of_ble_eq_true rfl)⟩ (Nat.le_of_ble_eq_true rfl) dd_X_hear_2 (fun H locs hP hS => ?_)
  refine f_eqB (pc := 5) (tgt := 16) cx dd_X_hear_5 (by decide) (fun h5 => ?_) (fun h5 => ?_)
  · -- 5: t to 16
    refine lv_iconst (pc := 16) (v := (-1)) hx hb dd_X_hear_16 (by decide) ?_
    refine W.widen (k := 7) (n := 42) (Nat.le_of_ble_eq_true rfl) (Nat.le_of_ble_eq_true rfl) ?_
    exact f_iret (pc := 17) cx hr hlocks hP hS rfl rfl dd_X_hear_17
  · -- 5: f to 8
    refine lv_aload_n (pc := 8) hx hb dd_X_hear_8 rfl (lv_at hl 0 rfl) ?_
    refine lv_iload_n (pc := 9) hx hb dd_X_hear_9 rfl (lv_at hl 2 rfl) ?_
    refine k_X_X_isServer (pc := 10) cx hl hP hS (by assumption) (ct_X_isServer l x S ⟨v0, v1, v2, v3, v4, v5, v6, vC, vS, vR⟩ y) ⟨⟨rfl, rfl⟩, ⟨(Nat.le_of_ble_eq_true rfl), (Nat.le_of_ble_eq_true rfl)⟩, (Nat.le_of_ble_eq_true rfl), (Nat.le_of_ble_eq_true rfl)⟩ (Nat.le_of_ble_eq_true rfl) dd_X_hear_10 (fun H locs hP hS => ?_)
    refine f_neB (pc := 13) (tgt := 18) cx dd_X_hear_13 (by decide) (fun h13 => ?_) (fun h13 => ?_)
    · -- 13: t to 18
      exact hz.elim (fun q => absurd (q.symm.trans h5) (by decide)) (fun q => absurd (q.symm.trans h13) (by decide))
    · -- 13: f to 16
      refine lv_iconst (pc := 16) (v := (-1)) hx hb dd_X_hear_16 (by decide) ?_
      refine W.widen (k := 7) (n := 42) (Nat.le_of_ble_eq_true rfl) (Nat.le_of_ble_eq_true rfl) ?_
      exact f_iret (pc := 17) cx hr hlocks hP hS rfl rfl dd_X_hear_17
set_option maxHeartbeats 4000000 in
set_option maxRecDepth 100000 in
theorem ct_X_hear_none (l : Launch) (x : fy) (S : fm) (hL : fL x) (c s0 : Nat) (j : Int32) (hc : c < 5) (hs : s0 < xN x) (hO : fO x) (hj : j < 0 ∨ nI (mU S 13 (100 + (c * xN x + s0)) 1) ≤ j) : Met l mn_X_hear (gw_ws mn_X_hear cb_X_hear 6 (some .int)) ({ frames := 5, cells := 7, slots := 42, locals := 120 } : Room) (fPc x (S) [.ref (xa x 0 0), .int (nI c), .int (nI s0), .int j]) (fQi x (S) (-2)) 7 42 (fun q => xs x ≤ q) := by
  refine f_met (by decide) (Nat.le_of_ble_eq_true rfl) ?_
  intro p e s m below meth c0 cx hr hlocks hnm hP hS ls hl
  have cx : fX rn_X cb_X_hear 6 p c0 s m [.ref (xa x 0 0), .int (nI c), .int (nI s0), .int j].toArray x := cx
  have hx := cx.1.1
  have hb := cx.1.2.1
  have hl : lv_has ls 6 [(0, .ref (xa x 0 0)), (1, .int (nI c)), (2, .int (nI s0)), (3, .int j)] := hl
  obtain ⟨v0, v1, v2, v3, v4, v5, v6, vC, vS, vR⟩ := hL
  obtain ⟨v13, v14, v13r, v14r⟩ := vR _ (row_lt hc hs)
  have hN : xN x ≤ 7 := hO.2.2.2.1
  refine lv_aload_n (pc := 0) hx hb dd_X_hear_0 rfl (lv_at hl 0 rfl) ?_
  refine lv_iload_n (pc := 1) hx hb dd_X_hear_1 rfl (lv_at hl 1 rfl) ?_
  refine k_X_X_isClient (pc := 2) cx hl hP hS (by assumption) (ct_X_isClient l x S ⟨v0, v1, v2, v3, v4, v5, v6, vC, vS, vR⟩ (nI c)) ⟨⟨rfl, rfl⟩, ⟨(Nat.le_of_ble_eq_true rfl), (Nat.le_of_ble_eq_true rfl)⟩, (Nat.le_of_ble_eq_true rfl), (Nat.le_of_ble_eq_true rfl)⟩ (Nat.le_of_ble_eq_true rfl) dd_X_hear_2 (fun H locs hP hS => ?_)
  refine f_eqB (pc := 5) (tgt := 16) cx dd_X_hear_5 (by decide) (fun h5 => ?_) (fun h5 => ?_)
  · -- 5: t to 16
    exact absurd (h5.symm.trans (q_cl_in hc)) (by decide)
  · -- 5: f to 8
    refine lv_aload_n (pc := 8) hx hb dd_X_hear_8 rfl (lv_at hl 0 rfl) ?_
    refine lv_iload_n (pc := 9) hx hb dd_X_hear_9 rfl (lv_at hl 2 rfl) ?_
    refine k_X_X_isServer (pc := 10) cx hl hP hS (by assumption) (ct_X_isServer l x S ⟨v0, v1, v2, v3, v4, v5, v6, vC, vS, vR⟩ (nI s0)) ⟨⟨rfl, rfl⟩, ⟨(Nat.le_of_ble_eq_true rfl), (Nat.le_of_ble_eq_true rfl)⟩, (Nat.le_of_ble_eq_true rfl), (Nat.le_of_ble_eq_true rfl)⟩ (Nat.le_of_ble_eq_true rfl) dd_X_hear_10 (fun H locs hP hS => ?_)
    refine f_neB (pc := 13) (tgt := 18) cx dd_X_hear_13 (by decide) (fun h13 => ?_) (fun h13 => ?_)
    · -- 13: t to 18
      refine lv_aload_n (pc := 18) hx hb dd_X_hear_18 rfl (lv_at hl 0 rfl) ?_
      refine g_X_X_replyRows (pc := 19) cx hP (by assumption) dd_X_hear_19 ?_
      refine lv_aload_n (pc := 22) hx hb dd_X_hear_22 rfl (lv_at hl 0 rfl) ?_
      refine lv_iload_n (pc := 23) hx hb dd_X_hear_23 rfl (lv_at hl 1 rfl) ?_
      refine lv_iload_n (pc := 24) hx hb dd_X_hear_24 rfl (lv_at hl 2 rfl) ?_
      refine k_X_X_rowOf (pc := 25) cx hl hP hS (by assumption) (ct_X_rowOf l x _ ⟨v0, v1, v2, v3, v4, v5, v6, vC, vS, vR⟩ c s0) ⟨⟨rfl, rfl⟩, ⟨(Nat.le_of_ble_eq_true rfl), (Nat.le_of_ble_eq_true rfl)⟩, (Nat.le_of_ble_eq_true rfl), (Nat.le_of_ble_eq_true rfl)⟩ (Nat.le_of_ble_eq_true rfl) dd_X_hear_25 (fun H locs hP hS => ?_)
      refine f_ald6 (pc := 28) cx hP (by assumption) rfl (row_lt hc hs) dd_X_hear_28 ?_
      refine lv_iload_n (pc := 29) hx hb dd_X_hear_29 rfl (lv_at hl 3 rfl) ?_
      refine k_X_R_take (pc := 30) cx hl hP hS (by assumption) (ct_R_take_no l x S (100 + (c * xN x + s0)) j v13r v14r hj) ⟨⟨rfl, rfl⟩, ⟨(Nat.le_of_ble_eq_true rfl), (Nat.le_of_ble_eq_true rfl)⟩, (Nat.le_of_ble_eq_true rfl), (Nat.le_of_ble_eq_true rfl)⟩ (Nat.le_of_ble_eq_true rfl) dd_X_hear_30 (fun H locs hP hS => ?_)
      refine f_st (w := [.null]) rfl ?_
      refine lv_astoreN (pc := 33) (lv' := [(4, _), (0, _), (1, _), (2, _), (3, _)]) hx hb dd_X_hear_33 hl (Nat.le_of_ble_eq_true rfl) rfl (fun ls hl => ?_)
      refine lv_aloadN (pc := 35) hx hb dd_X_hear_35 (lv_at hl 0 rfl) ?_
      refine lv_ifnonnullN (pc := 37) hx hb dd_X_hear_37 ?_
      refine lv_bipush (pc := 40) (v := (-2)) hx hb dd_X_hear_40 (by decide) ?_
      refine W.widen (k := 7) (n := 42) (Nat.le_of_ble_eq_true rfl) (Nat.le_of_ble_eq_true rfl) ?_
      exact f_iret (pc := 42) cx hr hlocks hP hS rfl rfl dd_X_hear_42
    · -- 13: f to 16
      exact absurd (h13.symm.trans (q_sv_in hO hs)) (by decide)
set_option maxHeartbeats 4000000 in
set_option maxRecDepth 100000 in
theorem ct_X_deliver (l : Launch) (x : fy) (S : fm) (hL : fL x) (c s0 j a : Nat) (hc : c < 5) (hs : s0 < xN x) (hO : fO x) (hI : fI x S) (hj : j < mU S 13 (c * xN x + s0) 1) (ha : mA S 14 (c * xN x + s0) j = some a) : Met l mn_X_deliver (gw_ws mn_X_deliver cb_X_deliver 5 (some .int)) ({ frames := 3, cells := 0, slots := 0, locals := 66 } : Room) (fPc x (S) [.ref (xa x 0 0), .int (nI c), .int (nI s0), .int (nI j)]) (fQi x (e_deliver x S c s0 j a) (mI (e_deliver x S c s0 j a) 15 a 0)) 0 0 (fun q => xs x ≤ q) := by
  refine f_met (by decide) (Nat.le_of_ble_eq_true rfl) ?_
  intro p e s m below meth c0 cx hr hlocks hnm hP hS ls hl
  have cx : fX rn_X cb_X_deliver 5 p c0 s m [.ref (xa x 0 0), .int (nI c), .int (nI s0), .int (nI j)].toArray x := cx
  have hx := cx.1.1
  have hb := cx.1.2.1
  have hl : lv_has ls 5 [(0, .ref (xa x 0 0)), (1, .int (nI c)), (2, .int (nI s0)), (3, .int (nI j))] := hl
  obtain ⟨v0, v1, v2, v3, v4, v5, v6, vC, vS, vR⟩ := hL
  obtain ⟨v13, v14, v13r, v14r⟩ := vR _ (row_lt hc hs)
  have hN : xN x ≤ 7 := hO.2.2.2.1
  obtain ⟨v10, v11, v12⟩ := vS s0 hs
  have hfa : fvL x S a := by obtain ⟨b, h1, h2⟩ := hI.2.1 _ j hj; rw [ha] at h1; cases h1; exact h2
  have hD : xD x ≤ 3 := by have := hO; unfold fO at this; omega
  refine lv_aload_n (pc := 0) hx hb dd_X_deliver_0 rfl (lv_at hl 0 rfl) ?_
  refine lv_iload_n (pc := 1) hx hb dd_X_deliver_1 rfl (lv_at hl 1 rfl) ?_
  refine k_X_X_isClient (pc := 2) cx hl hP hS (by assumption) (ct_X_isClient l x S ⟨v0, v1, v2, v3, v4, v5, v6, vC, vS, vR⟩ (nI c)) ⟨⟨rfl, rfl⟩, ⟨(Nat.le_of_ble_eq_true rfl), (Nat.le_of_ble_eq_true rfl)⟩, (Nat.le_of_ble_eq_true rfl), (Nat.le_of_ble_eq_true rfl)⟩ (Nat.le_of_ble_eq_true rfl) dd_X_deliver_2 (fun H locs hP hS => ?_)
  refine f_eqB (pc := 5) (tgt := 16) cx dd_X_deliver_5 (by decide) (fun h5 => ?_) (fun h5 => ?_)
  · -- 5: t to 16
    exact absurd (h5.symm.trans (q_cl_in hc)) (by decide)
  · -- 5: f to 8
    refine lv_aload_n (pc := 8) hx hb dd_X_deliver_8 rfl (lv_at hl 0 rfl) ?_
    refine lv_iload_n (pc := 9) hx hb dd_X_deliver_9 rfl (lv_at hl 2 rfl) ?_
    refine k_X_X_isServer (pc := 10) cx hl hP hS (by assumption) (ct_X_isServer l x S ⟨v0, v1, v2, v3, v4, v5, v6, vC, vS, vR⟩ (nI s0)) ⟨⟨rfl, rfl⟩, ⟨(Nat.le_of_ble_eq_true rfl), (Nat.le_of_ble_eq_true rfl)⟩, (Nat.le_of_ble_eq_true rfl), (Nat.le_of_ble_eq_true rfl)⟩ (Nat.le_of_ble_eq_true rfl) dd_X_deliver_10 (fun H locs hP hS => ?_)
    refine f_neB (pc := 13) (tgt := 18) cx dd_X_deliver_13 (by decide) (fun h13 => ?_) (fun h13 => ?_)
    · -- 13: t to 18
      refine lv_aload_n (pc := 18) hx hb dd_X_deliver_18 rfl (lv_at hl 0 rfl) ?_
      refine g_X_X_requestRows (pc := 19) cx hP (by assumption) dd_X_deliver_19 ?_
      refine lv_aload_n (pc := 22) hx hb dd_X_deliver_22 rfl (lv_at hl 0 rfl) ?_
      refine lv_iload_n (pc := 23) hx hb dd_X_deliver_23 rfl (lv_at hl 1 rfl) ?_
      refine lv_iload_n (pc := 24) hx hb dd_X_deliver_24 rfl (lv_at hl 2 rfl) ?_
      refine k_X_X_rowOf (pc := 25) cx hl hP hS (by assumption) (ct_X_rowOf l x _ ⟨v0, v1, v2, v3, v4, v5, v6, vC, vS, vR⟩ c s0) ⟨⟨rfl, rfl⟩, ⟨(Nat.le_of_ble_eq_true rfl), (Nat.le_of_ble_eq_true rfl)⟩, (Nat.le_of_ble_eq_true rfl), (Nat.le_of_ble_eq_true rfl)⟩ (Nat.le_of_ble_eq_true rfl) dd_X_deliver_25 (fun H locs hP hS => ?_)
      refine f_ald5 (pc := 28) cx hP (by assumption) rfl (row_lt hc hs) dd_X_deliver_28 ?_
      refine lv_iload_n (pc := 29) hx hb dd_X_deliver_29 rfl (lv_at hl 3 rfl) ?_
      refine k_X_R_take (pc := 30) cx hl hP hS (by assumption) (ct_R_take l x S (c * xN x + s0) j a v13 v14 hj (hI.1 _) (hI.2.1 _) ha) ⟨⟨rfl, rfl⟩, ⟨(Nat.le_of_ble_eq_true rfl), (Nat.le_of_ble_eq_true rfl)⟩, (Nat.le_of_ble_eq_true rfl), (Nat.le_of_ble_eq_true rfl)⟩ (Nat.le_of_ble_eq_true rfl) dd_X_deliver_30 (fun H locs hP hS => ?_)
      refine f_st (w := [.ref a]) rfl ?_
      refine lv_astore (pc := 33) (lv' := [(4, _), (0, _), (1, _), (2, _), (3, _)]) hx hb dd_X_deliver_33 hl (Nat.le_of_ble_eq_true rfl) rfl (fun ls hl => ?_)
      refine lv_aload (pc := 35) hx hb dd_X_deliver_35 (lv_at hl 0 rfl) ?_
      refine lv_ifnonnull (pc := 37) (tgt := 43) hx hb dd_X_deliver_37 (by decide) ?_
      refine lv_aload_n (pc := 43) hx hb dd_X_deliver_43 rfl (lv_at hl 1 rfl) ?_
      refine g_X_X_servers (pc := 44) cx hP (by assumption) dd_X_deliver_44 ?_
      refine lv_iload_n (pc := 47) hx hb dd_X_deliver_47 rfl (lv_at hl 3 rfl) ?_
      refine f_ald4 (pc := 48) cx hP (by assumption) rfl (by omega) dd_X_deliver_48 ?_
      refine lv_aload (pc := 49) hx hb dd_X_deliver_49 (lv_at hl 0 rfl) ?_
      refine k_X_S_answer (pc := 51) cx hl hP hS (by assumption) (ct_S_answer l x (e_take S (c * xN x + s0) j) s0 a v10 v11 v12 hfa (hI.2.2.1 s0) hD) ⟨⟨rfl, rfl⟩, ⟨(Nat.le_of_ble_eq_true rfl), (Nat.le_of_ble_eq_true rfl)⟩, (Nat.le_of_ble_eq_true rfl), (Nat.le_of_ble_eq_true rfl)⟩ (Nat.le_of_ble_eq_true rfl) dd_X_deliver_51 (fun H locs hP hS => ?_)
      have hfa : fvL x (e_answer x (e_take S (c * xN x + s0) j) s0 a) a := ⟨hfa.1, hfa.2.1, by rw [e_answer_Z]; exact hfa.2.2⟩
      refine lv_aload_n (pc := 54) hx hb dd_X_deliver_54 rfl (lv_at hl 1 rfl) ?_
      refine g_X_X_replyRows (pc := 55) cx hP (by assumption) dd_X_deliver_55 ?_
      refine lv_aload_n (pc := 58) hx hb dd_X_deliver_58 rfl (lv_at hl 1 rfl) ?_
      refine lv_iload_n (pc := 59) hx hb dd_X_deliver_59 rfl (lv_at hl 2 rfl) ?_
      refine lv_iload_n (pc := 60) hx hb dd_X_deliver_60 rfl (lv_at hl 3 rfl) ?_
      refine k_X_X_rowOf (pc := 61) cx hl hP hS (by assumption) (ct_X_rowOf l x _ ⟨v0, v1, v2, v3, v4, v5, v6, vC, vS, vR⟩ c s0) ⟨⟨rfl, rfl⟩, ⟨(Nat.le_of_ble_eq_true rfl), (Nat.le_of_ble_eq_true rfl)⟩, (Nat.le_of_ble_eq_true rfl), (Nat.le_of_ble_eq_true rfl)⟩ (Nat.le_of_ble_eq_true rfl) dd_X_deliver_61 (fun H locs hP hS => ?_)
      refine f_ald6 (pc := 64) cx hP (by assumption) rfl (row_lt hc hs) dd_X_deliver_64 ?_
      refine lv_aload (pc := 65) hx hb dd_X_deliver_65 (lv_at hl 0 rfl) ?_
      refine k_X_R_append (pc := 67) cx hl hP hS (by assumption) (ct_R_append l x _ (100 + (c * xN x + s0)) a v13r v14r hfa (by rw [e_answer_U13]; exact e_take_le S _ _ hI.1 _)) ⟨⟨rfl, rfl⟩, ⟨(Nat.le_of_ble_eq_true rfl), (Nat.le_of_ble_eq_true rfl)⟩, (Nat.le_of_ble_eq_true rfl), (Nat.le_of_ble_eq_true rfl)⟩ (Nat.le_of_ble_eq_true rfl) dd_X_deliver_67 (fun H locs hP hS => ?_)
      have hfa : fvL x (e_deliver x S c s0 j a) a := ⟨hfa.1, hfa.2.1, by unfold e_deliver e_app; split <;> exact hfa.2.2⟩
      refine lv_aload (pc := 70) hx hb dd_X_deliver_70 (lv_at hl 0 rfl) ?_
      refine g_X_L_phase (pc := 72) cx hP (by assumption) dd_X_deliver_72 ?_
      exact f_iret (pc := 75) cx hr hlocks hP hS rfl rfl dd_X_deliver_75
    · -- 13: f to 16
      exact absurd (h13.symm.trans (q_sv_in hO hs)) (by decide)
set_option maxHeartbeats 4000000 in
set_option maxRecDepth 100000 in
theorem ct_X_hear (l : Launch) (x : fy) (S : fm) (hL : fL x) (c s0 j a : Nat) (hc : c < 5) (hs : s0 < xN x) (hO : fO x) (hI : fI x S) (hj : j < mU S 13 (100 + (c * xN x + s0)) 1) (ha : mA S 14 (100 + (c * xN x + s0)) j = some a) : Met l mn_X_hear (gw_ws mn_X_hear cb_X_hear 6 (some .int)) ({ frames := 5, cells := 7, slots := 42, locals := 120 } : Room) (fPc x (S) [.ref (xa x 0 0), .int (nI c), .int (nI s0), .int (nI j)]) (fQi x (e_hr x S c s0 j a) (q_hr x S c s0 j a)) 7 42 (fun q => xs x ≤ q) := by
  refine f_met (by decide) (Nat.le_of_ble_eq_true rfl) ?_
  intro p e s m below meth c0 cx hr hlocks hnm hP hS ls hl
  have cx : fX rn_X cb_X_hear 6 p c0 s m [.ref (xa x 0 0), .int (nI c), .int (nI s0), .int (nI j)].toArray x := cx
  have hx := cx.1.1
  have hb := cx.1.2.1
  have hl : lv_has ls 6 [(0, .ref (xa x 0 0)), (1, .int (nI c)), (2, .int (nI s0)), (3, .int (nI j))] := hl
  obtain ⟨v0, v1, v2, v3, v4, v5, v6, vC, vS, vR⟩ := hL
  obtain ⟨v13, v14, v13r, v14r⟩ := vR _ (row_lt hc hs)
  have hN : xN x ≤ 7 := hO.2.2.2.1
  obtain ⟨v7, v8, v9⟩ := vC c hc
  have hfa : fvL x S a := by obtain ⟨b, h1, h2⟩ := hI.2.1 _ j hj; rw [ha] at h1; cases h1; exact h2
  have hK : xK x ≤ 7 := by have := hO; unfold fO at this; omega
  refine lv_aload_n (pc := 0) hx hb dd_X_hear_0 rfl (lv_at hl 0 rfl) ?_
  refine lv_iload_n (pc := 1) hx hb dd_X_hear_1 rfl (lv_at hl 1 rfl) ?_
  refine k_X_X_isClient (pc := 2) cx hl hP hS (by assumption) (ct_X_isClient l x S ⟨v0, v1, v2, v3, v4, v5, v6, vC, vS, vR⟩ (nI c)) ⟨⟨rfl, rfl⟩, ⟨(Nat.le_of_ble_eq_true rfl), (Nat.le_of_ble_eq_true rfl)⟩, (Nat.le_of_ble_eq_true rfl), (Nat.le_of_ble_eq_true rfl)⟩ (Nat.le_of_ble_eq_true rfl) dd_X_hear_2 (fun H locs hP hS => ?_)
  refine f_eqB (pc := 5) (tgt := 16) cx dd_X_hear_5 (by decide) (fun h5 => ?_) (fun h5 => ?_)
  · -- 5: t to 16
    exact absurd (h5.symm.trans (q_cl_in hc)) (by decide)
  · -- 5: f to 8
    refine lv_aload_n (pc := 8) hx hb dd_X_hear_8 rfl (lv_at hl 0 rfl) ?_
    refine lv_iload_n (pc := 9) hx hb dd_X_hear_9 rfl (lv_at hl 2 rfl) ?_
    refine k_X_X_isServer (pc := 10) cx hl hP hS (by assumption) (ct_X_isServer l x S ⟨v0, v1, v2, v3, v4, v5, v6, vC, vS, vR⟩ (nI s0)) ⟨⟨rfl, rfl⟩, ⟨(Nat.le_of_ble_eq_true rfl), (Nat.le_of_ble_eq_true rfl)⟩, (Nat.le_of_ble_eq_true rfl), (Nat.le_of_ble_eq_true rfl)⟩ (Nat.le_of_ble_eq_true rfl) dd_X_hear_10 (fun H locs hP hS => ?_)
    refine f_neB (pc := 13) (tgt := 18) cx dd_X_hear_13 (by decide) (fun h13 => ?_) (fun h13 => ?_)
    · -- 13: t to 18
      refine lv_aload_n (pc := 18) hx hb dd_X_hear_18 rfl (lv_at hl 0 rfl) ?_
      refine g_X_X_replyRows (pc := 19) cx hP (by assumption) dd_X_hear_19 ?_
      refine lv_aload_n (pc := 22) hx hb dd_X_hear_22 rfl (lv_at hl 0 rfl) ?_
      refine lv_iload_n (pc := 23) hx hb dd_X_hear_23 rfl (lv_at hl 1 rfl) ?_
      refine lv_iload_n (pc := 24) hx hb dd_X_hear_24 rfl (lv_at hl 2 rfl) ?_
      refine k_X_X_rowOf (pc := 25) cx hl hP hS (by assumption) (ct_X_rowOf l x _ ⟨v0, v1, v2, v3, v4, v5, v6, vC, vS, vR⟩ c s0) ⟨⟨rfl, rfl⟩, ⟨(Nat.le_of_ble_eq_true rfl), (Nat.le_of_ble_eq_true rfl)⟩, (Nat.le_of_ble_eq_true rfl), (Nat.le_of_ble_eq_true rfl)⟩ (Nat.le_of_ble_eq_true rfl) dd_X_hear_25 (fun H locs hP hS => ?_)
      refine f_ald6 (pc := 28) cx hP (by assumption) rfl (row_lt hc hs) dd_X_hear_28 ?_
      refine lv_iload_n (pc := 29) hx hb dd_X_hear_29 rfl (lv_at hl 3 rfl) ?_
      refine k_X_R_take (pc := 30) cx hl hP hS (by assumption) (ct_R_take l x S (100 + (c * xN x + s0)) j a v13r v14r hj (hI.1 _) (hI.2.1 _) ha) ⟨⟨rfl, rfl⟩, ⟨(Nat.le_of_ble_eq_true rfl), (Nat.le_of_ble_eq_true rfl)⟩, (Nat.le_of_ble_eq_true rfl), (Nat.le_of_ble_eq_true rfl)⟩ (Nat.le_of_ble_eq_true rfl) dd_X_hear_30 (fun H locs hP hS => ?_)
      refine f_st (w := [.ref a]) rfl ?_
      refine lv_astore (pc := 33) (lv' := [(4, _), (0, _), (1, _), (2, _), (3, _)]) hx hb dd_X_hear_33 hl (Nat.le_of_ble_eq_true rfl) rfl (fun ls hl => ?_)
      refine lv_aload (pc := 35) hx hb dd_X_hear_35 (lv_at hl 0 rfl) ?_
      refine lv_ifnonnull (pc := 37) (tgt := 43) hx hb dd_X_hear_37 (by decide) ?_
      refine lv_aload_n (pc := 43) hx hb dd_X_hear_43 rfl (lv_at hl 1 rfl) ?_
      refine g_X_X_clients (pc := 44) cx hP (by assumption) dd_X_hear_44 ?_
      refine lv_iload_n (pc := 47) hx hb dd_X_hear_47 rfl (lv_at hl 2 rfl) ?_
      refine f_ald3 (pc := 48) cx hP (by assumption) rfl (by omega) dd_X_hear_48 ?_
      refine lv_astore (pc := 49) (lv' := [(5, _), (4, _), (0, _), (1, _), (2, _), (3, _)]) hx hb dd_X_hear_49 hl (Nat.le_of_ble_eq_true rfl) rfl (fun ls hl => ?_)
      refine lv_aload (pc := 51) hx hb dd_X_hear_51 (lv_at hl 0 rfl) ?_
      refine lv_aload (pc := 53) hx hb dd_X_hear_53 (lv_at hl 1 rfl) ?_
      refine k_X_C_counts (pc := 55) cx hl hP hS (by assumption) (ct_C_counts l x (e_take S (100 + (c * xN x + s0)) j) c a v7 hfa) ⟨⟨rfl, rfl⟩, ⟨(Nat.le_of_ble_eq_true rfl), (Nat.le_of_ble_eq_true rfl)⟩, (Nat.le_of_ble_eq_true rfl), (Nat.le_of_ble_eq_true rfl)⟩ (Nat.le_of_ble_eq_true rfl) dd_X_hear_55 (fun H locs hP hS => ?_)
      refine f_neB (pc := 58) (tgt := 63) cx dd_X_hear_58 (by decide) (fun h58 => ?_) (fun h58 => ?_)
      · -- 58: t to 63
        refine lv_aload (pc := 63) hx hb dd_X_hear_63 (lv_at hl 0 rfl) ?_
        refine lv_aload (pc := 65) hx hb dd_X_hear_65 (lv_at hl 1 rfl) ?_
        refine lv_iload_n (pc := 67) hx hb dd_X_hear_67 rfl (lv_at hl 4 rfl) ?_
        refine k_X_C_take (pc := 68) cx hl hP hS (by assumption) (ct_C_take l x (e_take S (100 + (c * xN x + s0)) j) c a s0 v7 v8 v9 hfa hK (hI.2.2.2.1 c)) ⟨⟨rfl, rfl⟩, ⟨(Nat.le_of_ble_eq_true rfl), (Nat.le_of_ble_eq_true rfl)⟩, (Nat.le_of_ble_eq_true rfl), (Nat.le_of_ble_eq_true rfl)⟩ (Nat.le_of_ble_eq_true rfl) dd_X_hear_68 (fun H locs hP hS => ?_)
        refine lv_aload_n (pc := 71) hx hb dd_X_hear_71 rfl (lv_at hl 2 rfl) ?_
        refine lv_aload (pc := 72) hx hb dd_X_hear_72 (lv_at hl 0 rfl) ?_
        refine k_X_X_hasHeardEnough (pc := 74) cx hl hP hS (by assumption) (ct_X_enough l x (e_hear x (e_take S (100 + (c * xN x + s0)) j) c a s0) ⟨v0, v1, v2, v3, v4, v5, v6, vC, vS, vR⟩ c hc hO (e_hear_fc x _ c a s0 hK (hI.2.2.2.1 c))) ⟨⟨rfl, rfl⟩, ⟨(Nat.le_of_ble_eq_true rfl), (Nat.le_of_ble_eq_true rfl)⟩, (Nat.le_of_ble_eq_true rfl), (Nat.le_of_ble_eq_true rfl)⟩ (Nat.le_of_ble_eq_true rfl) dd_X_hear_74 (fun H locs hP hS => ?_)
        refine f_eqB (pc := 77) (tgt := 89) cx dd_X_hear_77 (by decide) (fun h77 => ?_) (fun h77 => ?_)
        · -- 77: t to 89
          refine lv_iconst (pc := 89) (v := 1) hx hb dd_X_hear_89 (by decide) ?_
          refine W.widen (k := 7) (n := 42) (Nat.le_of_ble_eq_true rfl) (Nat.le_of_ble_eq_true rfl) ?_
          exact f_iret (pc := 90) cx hr hlocks hP hS (by simp [q_hr, *]) (by simp [e_hr, *]) dd_X_hear_90
        · -- 77: f to 80
          refine lv_aload_n (pc := 80) hx hb dd_X_hear_80 rfl (lv_at hl 2 rfl) ?_
          refine lv_aload (pc := 81) hx hb dd_X_hear_81 (lv_at hl 0 rfl) ?_
          refine k_X_X_endPhase (pc := 83) cx hl hP hS (by assumption) (ct_X_endPhase l x (e_hear x (e_take S (100 + (c * xN x + s0)) j) c a s0) ⟨v0, v1, v2, v3, v4, v5, v6, vC, vS, vR⟩ c hc hO (fun r => by rw [e_hear_U13]; exact e_take_le S _ _ hI.1 r) (fun q => e_hear_src x _ c a s0 q (by omega) (hI.2.2.2.2 c q))) ⟨⟨rfl, rfl⟩, ⟨(Nat.le_of_ble_eq_true rfl), (Nat.le_of_ble_eq_true rfl)⟩, (Nat.le_of_ble_eq_true rfl), (Nat.le_of_ble_eq_true rfl)⟩ (Nat.le_of_ble_eq_true rfl) dd_X_hear_83 (fun H locs hP hS => ?_)
          refine lv_goto (pc := 86) (tgt := 90) hx hb dd_X_hear_86 (by decide) ?_
          refine W.widen (k := 7) (n := 42) (Nat.le_of_ble_eq_true rfl) (Nat.le_of_ble_eq_true rfl) ?_
          exact f_iret (pc := 90) cx hr hlocks hP hS (by simp [q_hr, *]) (by simp [e_hr, *]) dd_X_hear_90
      · -- 58: f to 61
        refine lv_iconst (pc := 61) (v := 0) hx hb dd_X_hear_61 (by decide) ?_
        refine W.widen (k := 7) (n := 42) (Nat.le_of_ble_eq_true rfl) (Nat.le_of_ble_eq_true rfl) ?_
        exact f_iret (pc := 62) cx hr hlocks hP hS (by simp [q_hr, *]) (by simp [e_hr, *]) dd_X_hear_62
    · -- 13: f to 16
      exact absurd (h13.symm.trans (q_sv_in hO hs)) (by decide)
