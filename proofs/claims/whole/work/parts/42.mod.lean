-- contracts of deliver and hear of the reference, by wip/whole/gen/c_mod4.py
set_option maxHeartbeats 4000000 in
set_option maxRecDepth 100000 in
theorem ct_M_deliver_no (l : Launch) (x : fy) (S : fm) (hM : fM x) (z y j : Int32) (hz : q_cl z = false ∨ q_sv x y = false) : Met l mn_M_deliver (gw_ws mn_M_deliver cb_M_deliver 11 (some .int)) ({ frames := 2, cells := 0, slots := 0, locals := 50 } : Room) (fPc x (S) [.ref (xa x 16 0), .int z, .int y, .int j]) (fQi x (S) (-1)) 0 0 (fun q => xs x ≤ q) := by
  refine f_met (by decide) (Nat.le_of_ble_eq_true rfl) ?_
  intro p e s m below meth c0 cx hr hlocks hnm hP hS ls hl
  have cx : fX rn_M cb_M_deliver 11 p c0 s m [.ref (xa x 16 0), .int z, .int y, .int j].toArray x := cx
  have hx := cx.1.1
  have hb := cx.1.2.1
  have hl : lv_has ls 11 [(0, .ref (xa x 16 0)), (1, .int z), (2, .int y), (3, .int j)] := hl
  obtain ⟨w16, w23, w24, w25, w26, w27, w28, w29, w30, w31, w32, w33, w34, w35, w36, w37, w39, w40, w41, w42, w43, w44, w45, w46⟩ := hM
  refine lv_aload_n (pc := 0) hx hb dd_M_deliver_0 rfl (lv_at hl 0 rfl) ?_
  refine lv_iload_n (pc := 1) hx hb dd_M_deliver_1 rfl (lv_at hl 1 rfl) ?_
  refine k_M_M_noClient (pc := 2) cx hl hP hS (by assumption) (ct_M_noClient l x _ ⟨w16, w23, w24, w25, w26, w27, w28, w29, w30, w31, w32, w33, w34, w35, w36, w37, w39, w40, w41, w42, w43, w44, w45, w46⟩ z) ⟨⟨rfl, rfl⟩, ⟨(Nat.le_of_ble_eq_true rfl), (Nat.le_of_ble_eq_true rfl)⟩, (Nat.le_of_ble_eq_true rfl), (Nat.le_of_ble_eq_true rfl)⟩ (Nat.le_of_ble_eq_true rfl) dd_M_deliver_2 (fun H locs hP hS => ?_)
  refine f_neB (pc := 5) (tgt := 16) cx dd_M_deliver_5 (by decide) (fun h5 => ?_) (fun h5 => ?_)
  · -- 5: t to 16
    refine lv_iconst (pc := 16) (v := (-1)) hx hb dd_M_deliver_16 (by decide) ?_
    exact f_iret (pc := 17) cx hr hlocks hP hS rfl rfl dd_M_deliver_17
  · -- 5: f to 8
    refine lv_aload_n (pc := 8) hx hb dd_M_deliver_8 rfl (lv_at hl 0 rfl) ?_
    refine lv_iload_n (pc := 9) hx hb dd_M_deliver_9 rfl (lv_at hl 2 rfl) ?_
    refine k_M_M_noServer (pc := 10) cx hl hP hS (by assumption) (ct_M_noServer l x _ ⟨w16, w23, w24, w25, w26, w27, w28, w29, w30, w31, w32, w33, w34, w35, w36, w37, w39, w40, w41, w42, w43, w44, w45, w46⟩ y) ⟨⟨rfl, rfl⟩, ⟨(Nat.le_of_ble_eq_true rfl), (Nat.le_of_ble_eq_true rfl)⟩, (Nat.le_of_ble_eq_true rfl), (Nat.le_of_ble_eq_true rfl)⟩ (Nat.le_of_ble_eq_true rfl) dd_M_deliver_10 (fun H locs hP hS => ?_)
    refine f_eqB (pc := 13) (tgt := 18) cx dd_M_deliver_13 (by decide) (fun h13 => ?_) (fun h13 => ?_)
    · -- 13: t to 18
      exact hz.elim (fun q => absurd ((congrArg not q).symm.trans h5) (by decide)) (fun q => absurd ((congrArg not q).symm.trans h13) (by decide))
    · -- 13: f to 16
      refine lv_iconst (pc := 16) (v := (-1)) hx hb dd_M_deliver_16 (by decide) ?_
      exact f_iret (pc := 17) cx hr hlocks hP hS rfl rfl dd_M_deliver_17
set_option maxHeartbeats 4000000 in
set_option maxRecDepth 100000 in
theorem ct_M_deliver_none (l : Launch) (x : fy) (S : fm) (hM : fM x) (c s0 : Nat) (j : Int32) (hc : c < 5) (hs : s0 < xN x) (hO : fO x) (hl0 : mU S 16 0 18 ≤ 256) (hq : n_seek S false c s0 j = none) : Met l mn_M_deliver (gw_ws mn_M_deliver cb_M_deliver 11 (some .int)) ({ frames := 2, cells := 0, slots := 0, locals := 50 } : Room) (fPc x (S) [.ref (xa x 16 0), .int (nI c), .int (nI s0), .int j]) (fQi x (S) (-2)) 0 0 (fun q => xs x ≤ q) := by
  refine f_met (by decide) (Nat.le_of_ble_eq_true rfl) ?_
  intro p e s m below meth c0 cx hr hlocks hnm hP hS ls hl
  have cx : fX rn_M cb_M_deliver 11 p c0 s m [.ref (xa x 16 0), .int (nI c), .int (nI s0), .int j].toArray x := cx
  have hx := cx.1.1
  have hb := cx.1.2.1
  have hl : lv_has ls 11 [(0, .ref (xa x 16 0)), (1, .int (nI c)), (2, .int (nI s0)), (3, .int j)] := hl
  obtain ⟨w16, w23, w24, w25, w26, w27, w28, w29, w30, w31, w32, w33, w34, w35, w36, w37, w39, w40, w41, w42, w43, w44, w45, w46⟩ := hM
  refine lv_aload_n (pc := 0) hx hb dd_M_deliver_0 rfl (lv_at hl 0 rfl) ?_
  refine lv_iload_n (pc := 1) hx hb dd_M_deliver_1 rfl (lv_at hl 1 rfl) ?_
  refine k_M_M_noClient (pc := 2) cx hl hP hS (by assumption) (ct_M_noClient l x _ ⟨w16, w23, w24, w25, w26, w27, w28, w29, w30, w31, w32, w33, w34, w35, w36, w37, w39, w40, w41, w42, w43, w44, w45, w46⟩ (nI c)) ⟨⟨rfl, rfl⟩, ⟨(Nat.le_of_ble_eq_true rfl), (Nat.le_of_ble_eq_true rfl)⟩, (Nat.le_of_ble_eq_true rfl), (Nat.le_of_ble_eq_true rfl)⟩ (Nat.le_of_ble_eq_true rfl) dd_M_deliver_2 (fun H locs hP hS => ?_)
  refine f_neB (pc := 5) (tgt := 16) cx dd_M_deliver_5 (by decide) (fun h5 => ?_) (fun h5 => ?_)
  · -- 5: t to 16
    exact absurd ((congrArg not (q_cl_in hc)).symm.trans h5) (by decide)
  · -- 5: f to 8
    refine lv_aload_n (pc := 8) hx hb dd_M_deliver_8 rfl (lv_at hl 0 rfl) ?_
    refine lv_iload_n (pc := 9) hx hb dd_M_deliver_9 rfl (lv_at hl 2 rfl) ?_
    refine k_M_M_noServer (pc := 10) cx hl hP hS (by assumption) (ct_M_noServer l x _ ⟨w16, w23, w24, w25, w26, w27, w28, w29, w30, w31, w32, w33, w34, w35, w36, w37, w39, w40, w41, w42, w43, w44, w45, w46⟩ (nI s0)) ⟨⟨rfl, rfl⟩, ⟨(Nat.le_of_ble_eq_true rfl), (Nat.le_of_ble_eq_true rfl)⟩, (Nat.le_of_ble_eq_true rfl), (Nat.le_of_ble_eq_true rfl)⟩ (Nat.le_of_ble_eq_true rfl) dd_M_deliver_10 (fun H locs hP hS => ?_)
    refine f_eqB (pc := 13) (tgt := 18) cx dd_M_deliver_13 (by decide) (fun h13 => ?_) (fun h13 => ?_)
    · -- 13: t to 18
      refine lv_aload_n (pc := 18) hx hb dd_M_deliver_18 rfl (lv_at hl 0 rfl) ?_
      refine lv_iconst (pc := 19) (v := b2 false) hx hb dd_M_deliver_19 (by decide) ?_
      refine lv_iload_n (pc := 20) hx hb dd_M_deliver_20 rfl (lv_at hl 1 rfl) ?_
      refine lv_iload_n (pc := 21) hx hb dd_M_deliver_21 rfl (lv_at hl 2 rfl) ?_
      refine lv_iload_n (pc := 22) hx hb dd_M_deliver_22 rfl (lv_at hl 3 rfl) ?_
      refine k_M_M_seek (pc := 23) cx hl hP hS (by assumption) (ct_M_seek l x S ⟨w16, w23, w24, w25, w26, w27, w28, w29, w30, w31, w32, w33, w34, w35, w36, w37, w39, w40, w41, w42, w43, w44, w45, w46⟩ false c s0 j hl0) ⟨⟨rfl, rfl⟩, ⟨(Nat.le_of_ble_eq_true rfl), (Nat.le_of_ble_eq_true rfl)⟩, (Nat.le_of_ble_eq_true rfl), (Nat.le_of_ble_eq_true rfl)⟩ (Nat.le_of_ble_eq_true rfl) dd_M_deliver_23 (fun H locs hP hS => ?_)
      refine f_topi (show oI (n_seek S false c s0 j) = -1 by rw [hq]; rfl) ?_
      refine lv_istore (pc := 26) (lv' := [(4, _), (0, _), (1, _), (2, _), (3, _)]) hx hb dd_M_deliver_26 hl (Nat.le_of_ble_eq_true rfl) rfl (fun ls hl => ?_)
      refine lv_iload (pc := 28) hx hb dd_M_deliver_28 (lv_at hl 0 rfl) ?_
      refine lv_if_ge (pc := 30) (tgt := 36) hx hb dd_M_deliver_30 (by decide) (fun h30 => ?_) (fun h30 => ?_)
      · -- 30: t to 36
        exact absurd h30 (by decide)
      · -- 30: f to 33
        refine lv_bipush (pc := 33) (v := (-2)) hx hb dd_M_deliver_33 (by decide) ?_
        exact f_iret (pc := 35) cx hr hlocks hP hS rfl rfl dd_M_deliver_35
    · -- 13: f to 16
      exact absurd ((congrArg not (q_sv_in hO hs)).symm.trans h13) (by decide)
set_option maxHeartbeats 4000000 in
set_option maxRecDepth 100000 in
theorem ct_M_hear_no (l : Launch) (x : fy) (S : fm) (hM : fM x) (z y j : Int32) (hz : q_cl z = false ∨ q_sv x y = false) : Met l mn_M_hear (gw_ws mn_M_hear cb_M_hear 10 (some .int)) ({ frames := 3, cells := 0, slots := 0, locals := 70 } : Room) (fPc x (S) [.ref (xa x 16 0), .int z, .int y, .int j]) (fQi x (S) (-1)) 0 0 (fun q => xs x ≤ q) := by
  refine f_met (by decide) (Nat.le_of_ble_eq_true rfl) ?_
  intro p e s m below meth c0 cx hr hlocks hnm hP hS ls hl
  have cx : fX rn_M cb_M_hear 10 p c0 s m [.ref (xa x 16 0), .int z, .int y, .int j].toArray x := cx
  have hx := cx.1.1
  have hb := cx.1.2.1
  have hl : lv_has ls 10 [(0, .ref (xa x 16 0)), (1, .int z), (2, .int y), (3, .int j)] := hl
  obtain ⟨w16, w23, w24, w25, w26, w27, w28, w29, w30, w31, w32, w33, w34, w35, w36, w37, w39, w40, w41, w42, w43, w44, w45, w46⟩ := hM
  refine lv_aload_n (pc := 0) hx hb dd_M_hear_0 rfl (lv_at hl 0 rfl) ?_
  refine lv_iload_n (pc := 1) hx hb dd_M_hear_1 rfl (lv_at hl 1 rfl) ?_
  refine k_M_M_noClient (pc := 2) cx hl hP hS (by assumption) (ct_M_noClient l x _ ⟨w16, w23, w24, w25, w26, w27, w28, w29, w30, w31, w32, w33, w34, w35, w36, w37, w39, w40, w41, w42, w43, w44, w45, w46⟩ z) ⟨⟨rfl, rfl⟩, ⟨(Nat.le_of_ble_eq_true rfl), (Nat.le_of_ble_eq_true rfl)⟩, (Nat.le_of_ble_eq_true rfl), (Nat.le_of_ble_eq_true rfl)⟩ (Nat.le_of_ble_eq_true rfl) dd_M_hear_2 (fun H locs hP hS => ?_)
  refine f_neB (pc := 5) (tgt := 16) cx dd_M_hear_5 (by decide) (fun h5 => ?_) (fun h5 => ?_)
  · -- 5: t to 16
    refine lv_iconst (pc := 16) (v := (-1)) hx hb dd_M_hear_16 (by decide) ?_
    exact f_iret (pc := 17) cx hr hlocks hP hS rfl rfl dd_M_hear_17
  · -- 5: f to 8
    refine lv_aload_n (pc := 8) hx hb dd_M_hear_8 rfl (lv_at hl 0 rfl) ?_
    refine lv_iload_n (pc := 9) hx hb dd_M_hear_9 rfl (lv_at hl 2 rfl) ?_
    refine k_M_M_noServer (pc := 10) cx hl hP hS (by assumption) (ct_M_noServer l x _ ⟨w16, w23, w24, w25, w26, w27, w28, w29, w30, w31, w32, w33, w34, w35, w36, w37, w39, w40, w41, w42, w43, w44, w45, w46⟩ y) ⟨⟨rfl, rfl⟩, ⟨(Nat.le_of_ble_eq_true rfl), (Nat.le_of_ble_eq_true rfl)⟩, (Nat.le_of_ble_eq_true rfl), (Nat.le_of_ble_eq_true rfl)⟩ (Nat.le_of_ble_eq_true rfl) dd_M_hear_10 (fun H locs hP hS => ?_)
    refine f_eqB (pc := 13) (tgt := 18) cx dd_M_hear_13 (by decide) (fun h13 => ?_) (fun h13 => ?_)
    · -- 13: t to 18
      exact hz.elim (fun q => absurd ((congrArg not q).symm.trans h5) (by decide)) (fun q => absurd ((congrArg not q).symm.trans h13) (by decide))
    · -- 13: f to 16
      refine lv_iconst (pc := 16) (v := (-1)) hx hb dd_M_hear_16 (by decide) ?_
      exact f_iret (pc := 17) cx hr hlocks hP hS rfl rfl dd_M_hear_17
set_option maxHeartbeats 4000000 in
set_option maxRecDepth 100000 in
theorem ct_M_hear_none (l : Launch) (x : fy) (S : fm) (hM : fM x) (c s0 : Nat) (j : Int32) (hc : c < 5) (hs : s0 < xN x) (hO : fO x) (hl0 : mU S 16 0 18 ≤ 256) (hq : n_seek S true c s0 j = none) : Met l mn_M_hear (gw_ws mn_M_hear cb_M_hear 10 (some .int)) ({ frames := 3, cells := 0, slots := 0, locals := 70 } : Room) (fPc x (S) [.ref (xa x 16 0), .int (nI c), .int (nI s0), .int j]) (fQi x (S) (-2)) 0 0 (fun q => xs x ≤ q) := by
  refine f_met (by decide) (Nat.le_of_ble_eq_true rfl) ?_
  intro p e s m below meth c0 cx hr hlocks hnm hP hS ls hl
  have cx : fX rn_M cb_M_hear 10 p c0 s m [.ref (xa x 16 0), .int (nI c), .int (nI s0), .int j].toArray x := cx
  have hx := cx.1.1
  have hb := cx.1.2.1
  have hl : lv_has ls 10 [(0, .ref (xa x 16 0)), (1, .int (nI c)), (2, .int (nI s0)), (3, .int j)] := hl
  obtain ⟨w16, w23, w24, w25, w26, w27, w28, w29, w30, w31, w32, w33, w34, w35, w36, w37, w39, w40, w41, w42, w43, w44, w45, w46⟩ := hM
  refine lv_aload_n (pc := 0) hx hb dd_M_hear_0 rfl (lv_at hl 0 rfl) ?_
  refine lv_iload_n (pc := 1) hx hb dd_M_hear_1 rfl (lv_at hl 1 rfl) ?_
  refine k_M_M_noClient (pc := 2) cx hl hP hS (by assumption) (ct_M_noClient l x _ ⟨w16, w23, w24, w25, w26, w27, w28, w29, w30, w31, w32, w33, w34, w35, w36, w37, w39, w40, w41, w42, w43, w44, w45, w46⟩ (nI c)) ⟨⟨rfl, rfl⟩, ⟨(Nat.le_of_ble_eq_true rfl), (Nat.le_of_ble_eq_true rfl)⟩, (Nat.le_of_ble_eq_true rfl), (Nat.le_of_ble_eq_true rfl)⟩ (Nat.le_of_ble_eq_true rfl) dd_M_hear_2 (fun H locs hP hS => ?_)
  refine f_neB (pc := 5) (tgt := 16) cx dd_M_hear_5 (by decide) (fun h5 => ?_) (fun h5 => ?_)
  · -- 5: t to 16
    exact absurd ((congrArg not (q_cl_in hc)).symm.trans h5) (by decide)
  · -- 5: f to 8
    refine lv_aload_n (pc := 8) hx hb dd_M_hear_8 rfl (lv_at hl 0 rfl) ?_
    refine lv_iload_n (pc := 9) hx hb dd_M_hear_9 rfl (lv_at hl 2 rfl) ?_
    refine k_M_M_noServer (pc := 10) cx hl hP hS (by assumption) (ct_M_noServer l x _ ⟨w16, w23, w24, w25, w26, w27, w28, w29, w30, w31, w32, w33, w34, w35, w36, w37, w39, w40, w41, w42, w43, w44, w45, w46⟩ (nI s0)) ⟨⟨rfl, rfl⟩, ⟨(Nat.le_of_ble_eq_true rfl), (Nat.le_of_ble_eq_true rfl)⟩, (Nat.le_of_ble_eq_true rfl), (Nat.le_of_ble_eq_true rfl)⟩ (Nat.le_of_ble_eq_true rfl) dd_M_hear_10 (fun H locs hP hS => ?_)
    refine f_eqB (pc := 13) (tgt := 18) cx dd_M_hear_13 (by decide) (fun h13 => ?_) (fun h13 => ?_)
    · -- 13: t to 18
      refine lv_aload_n (pc := 18) hx hb dd_M_hear_18 rfl (lv_at hl 0 rfl) ?_
      refine lv_iconst (pc := 19) (v := b2 true) hx hb dd_M_hear_19 (by decide) ?_
      refine lv_iload_n (pc := 20) hx hb dd_M_hear_20 rfl (lv_at hl 1 rfl) ?_
      refine lv_iload_n (pc := 21) hx hb dd_M_hear_21 rfl (lv_at hl 2 rfl) ?_
      refine lv_iload_n (pc := 22) hx hb dd_M_hear_22 rfl (lv_at hl 3 rfl) ?_
      refine k_M_M_seek (pc := 23) cx hl hP hS (by assumption) (ct_M_seek l x S ⟨w16, w23, w24, w25, w26, w27, w28, w29, w30, w31, w32, w33, w34, w35, w36, w37, w39, w40, w41, w42, w43, w44, w45, w46⟩ true c s0 j hl0) ⟨⟨rfl, rfl⟩, ⟨(Nat.le_of_ble_eq_true rfl), (Nat.le_of_ble_eq_true rfl)⟩, (Nat.le_of_ble_eq_true rfl), (Nat.le_of_ble_eq_true rfl)⟩ (Nat.le_of_ble_eq_true rfl) dd_M_hear_23 (fun H locs hP hS => ?_)
      refine f_topi (show oI (n_seek S true c s0 j) = -1 by rw [hq]; rfl) ?_
      refine lv_istore (pc := 26) (lv' := [(4, _), (0, _), (1, _), (2, _), (3, _)]) hx hb dd_M_hear_26 hl (Nat.le_of_ble_eq_true rfl) rfl (fun ls hl => ?_)
      refine lv_iload (pc := 28) hx hb dd_M_hear_28 (lv_at hl 0 rfl) ?_
      refine lv_if_ge (pc := 30) (tgt := 36) hx hb dd_M_hear_30 (by decide) (fun h30 => ?_) (fun h30 => ?_)
      · -- 30: t to 36
        exact absurd h30 (by decide)
      · -- 30: f to 33
        refine lv_bipush (pc := 33) (v := (-2)) hx hb dd_M_hear_33 (by decide) ?_
        exact f_iret (pc := 35) cx hr hlocks hP hS rfl rfl dd_M_hear_35
    · -- 13: f to 16
      exact absurd ((congrArg not (q_sv_in hO hs)).symm.trans h13) (by decide)
set_option maxHeartbeats 4000000 in
set_option maxRecDepth 100000 in
theorem ct_M_deliver (l : Launch) (x : fy) (S : fm) (hM : fM x) (c s0 at_ : Nat) (j : Int32) (hc : c < 5) (hs : s0 < xN x) (hO : fO x) (hl0 : mU S 16 0 18 ≤ 256) (hq : n_seek S false c s0 j = some at_) (hm : mU S 35 0 s0 ≤ xD x + 1) : Met l mn_M_deliver (gw_ws mn_M_deliver cb_M_deliver 11 (some .int)) ({ frames := 2, cells := 0, slots := 0, locals := 50 } : Room) (fPc x (S) [.ref (xa x 16 0), .int (nI c), .int (nI s0), .int j]) (fQi x (n_dl x S c s0 at_) (mI S 44 0 at_)) 0 0 (fun q => xs x ≤ q) := by
  refine f_met (by decide) (Nat.le_of_ble_eq_true rfl) ?_
  intro p e s m below meth c0 cx hr hlocks hnm hP hS ls hl
  have cx : fX rn_M cb_M_deliver 11 p c0 s m [.ref (xa x 16 0), .int (nI c), .int (nI s0), .int j].toArray x := cx
  have hx := cx.1.1
  have hb := cx.1.2.1
  have hl : lv_has ls 11 [(0, .ref (xa x 16 0)), (1, .int (nI c)), (2, .int (nI s0)), (3, .int j)] := hl
  obtain ⟨w16, w23, w24, w25, w26, w27, w28, w29, w30, w31, w32, w33, w34, w35, w36, w37, w39, w40, w41, w42, w43, w44, w45, w46⟩ := hM
  have hN : xN x ≤ 7 := hO.2.2.2.1
  have hD : xD x ≤ 3 := by have := hO; unfold fO at this; omega
  have hat := n_seek_lt hq
  have hL0 : mL S = mU S 16 0 18 := rfl
  have hat2 : at_ < 256 := by omega
  have j3 : ∀ (T : fm) (o : Option Nat) (H : Heap) (locs : List Loc), mU T 16 0 18 < 256 → (∀ i, o = some i → i < 35) → n_dlC T c s0 (mI S 44 0 at_) (mI S 43 0 at_) o = n_dl x S c s0 at_ → fP x T H → fS x s.heap H locs → ∀ ls : Array Slot, lv_has ls 11 [(10, .int (oI o)), (9, .int (mI S 43 0 at_)), (7, .long (mJ S 46 0 at_)), (6, .int (mI S 45 0 at_)), (5, .int (mI S 44 0 at_)), (0, .ref (xa x 16 0)), (1, .int (nI c)), (2, .int (nI s0))] → W p l e ({ frames := 2, cells := 0, slots := 0, locals := 50 } : Room) s m [.ref (xa x 16 0), .int (nI c), .int (nI s0), .int j].toArray below meth c0 H locs 0 0 (MQ below (fQi x (n_dl x S c s0 at_) (mI S 44 0 at_)) [.ref (xa x 16 0), .int (nI c), .int (nI s0), .int j].toArray s 0 0 (fun q => xs x ≤ q)) (F0 m 143 ls []) := by
    intro T o H locs hT ho hU hP hS ls hl
    have e1 : nI (mU (n_send T true c s0 (mI S 44 0 at_) (mI S 43 0 at_)) 16 0 18) - 1 = nI (mL T) := nI_pred (mL T)
    have hT2 : mL T < 256 := hT
    cases o with
    | none =>
      refine lv_aload_n (pc := 143) hx hb dd_M_deliver_143 rfl (lv_at hl 5 rfl) ?_
      refine lv_iconst (pc := 144) (v := b2 true) hx hb dd_M_deliver_144 (by decide) ?_
      refine lv_iload_n (pc := 145) hx hb dd_M_deliver_145 rfl (lv_at hl 6 rfl) ?_
      refine lv_iload_n (pc := 146) hx hb dd_M_deliver_146 rfl (lv_at hl 7 rfl) ?_
      refine lv_iload (pc := 147) hx hb dd_M_deliver_147 (lv_at hl 4 rfl) ?_
      refine lv_iload (pc := 149) hx hb dd_M_deliver_149 (lv_at hl 1 rfl) ?_
      refine k_M_M_send (pc := 151) cx hl hP hS (by assumption) (ct_M_send l x T ⟨w16, w23, w24, w25, w26, w27, w28, w29, w30, w31, w32, w33, w34, w35, w36, w37, w39, w40, w41, w42, w43, w44, w45, w46⟩ true c s0 _ _ hc hT) ⟨⟨rfl, rfl⟩, ⟨(Nat.le_of_ble_eq_true rfl), (Nat.le_of_ble_eq_true rfl)⟩, (Nat.le_of_ble_eq_true rfl), (Nat.le_of_ble_eq_true rfl)⟩ (Nat.le_of_ble_eq_true rfl) dd_M_deliver_151 (fun H locs hP hS => ?_)
      refine lv_aload_n (pc := 154) hx hb dd_M_deliver_154 rfl (lv_at hl 5 rfl) ?_
      refine g_M_M_what (pc := 155) cx hP (by assumption) dd_M_deliver_155 ?_
      refine lv_aload_n (pc := 158) hx hb dd_M_deliver_158 rfl (lv_at hl 5 rfl) ?_
      refine g_M_M_letters (pc := 159) cx hP (by assumption) dd_M_deliver_159 ?_
      refine lv_iconst (pc := 162) (v := 1) hx hb dd_M_deliver_162 (by decide) ?_
      refine lv_isub (pc := 163) hx hb dd_M_deliver_163 ?_
      refine f_topi e1 ?_
      refine lv_aload_n (pc := 164) hx hb dd_M_deliver_164 rfl (lv_at hl 5 rfl) ?_
      refine g_M_M_seals (pc := 165) cx hP (by assumption) dd_M_deliver_165 ?_
      refine lv_iload_n (pc := 168) hx hb dd_M_deliver_168 rfl (lv_at hl 7 rfl) ?_
      refine f_iald (pc := 169) cx hP (fv.at (by assumption) _) rfl rfl (by omega) dd_M_deliver_169 ?_
      refine f_iast (pc := 170) cx hP hS (fv.at (by assumption) _) (fun _ => rfl) rfl hT2 dd_M_deliver_170 (fun H locs hP hS => ?_)
      refine lv_aload_n (pc := 171) hx hb dd_M_deliver_171 rfl (lv_at hl 5 rfl) ?_
      refine g_M_M_full (pc := 172) cx hP (by assumption) dd_M_deliver_172 ?_
      refine lv_aload_n (pc := 175) hx hb dd_M_deliver_175 rfl (lv_at hl 5 rfl) ?_
      refine g_M_M_letters (pc := 176) cx hP (by assumption) dd_M_deliver_176 ?_
      refine lv_iconst (pc := 179) (v := 1) hx hb dd_M_deliver_179 (by decide) ?_
      refine lv_isub (pc := 180) hx hb dd_M_deliver_180 ?_
      refine f_topi e1 ?_
      refine lv_iload (pc := 181) hx hb dd_M_deliver_181 (lv_at hl 0 rfl) ?_
      refine lv_if_lt (pc := 183) (tgt := 190) hx hb dd_M_deliver_183 (by decide) (fun h183 => ?_) (fun h183 => ?_)
      · -- 183: t to 190
        refine lv_iconst (pc := 190) (v := b2 false) hx hb dd_M_deliver_190 (by decide) ?_
        refine f_zast (pc := 191) cx hP hS (fv.at (by assumption) _) (fun _ => rfl) rfl rfl hT2 dd_M_deliver_191 (fun H locs hP hS => ?_)
        refine lv_aload_n (pc := 192) hx hb dd_M_deliver_192 rfl (lv_at hl 5 rfl) ?_
        refine g_M_M_load (pc := 193) cx hP (by assumption) dd_M_deliver_193 ?_
        refine lv_aload_n (pc := 196) hx hb dd_M_deliver_196 rfl (lv_at hl 5 rfl) ?_
        refine g_M_M_letters (pc := 197) cx hP (by assumption) dd_M_deliver_197 ?_
        refine lv_iconst (pc := 200) (v := 1) hx hb dd_M_deliver_200 (by decide) ?_
        refine lv_isub (pc := 201) hx hb dd_M_deliver_201 ?_
        refine f_topi e1 ?_
        refine lv_iload (pc := 202) hx hb dd_M_deliver_202 (lv_at hl 0 rfl) ?_
        refine lv_if_lt (pc := 204) (tgt := 217) hx hb dd_M_deliver_204 (by decide) (fun h204 => ?_) (fun h204 => ?_)
        · -- 204: t to 217
          refine lv_lconst (pc := 217) (v := 0) hx hb dd_M_deliver_217 (by decide) ?_
          refine f_last (pc := 218) cx hP hS (fv.at (by assumption) _) (fun _ => rfl) rfl hT2 dd_M_deliver_218 (fun H locs hP hS => ?_)
          refine lv_iload (pc := 219) hx hb dd_M_deliver_219 (lv_at hl 4 rfl) ?_
          exact f_iret (pc := 221) cx hr hlocks hP hS rfl (by rw [← hU]; rfl) dd_M_deliver_221
        · -- 204: f to 207
          exact absurd (by decide) h204
      · -- 183: f to 186
        exact absurd (by decide) h183
    | some i =>
      have hi35 := ho i rfl
      refine lv_aload_n (pc := 143) hx hb dd_M_deliver_143 rfl (lv_at hl 5 rfl) ?_
      refine lv_iconst (pc := 144) (v := b2 true) hx hb dd_M_deliver_144 (by decide) ?_
      refine lv_iload_n (pc := 145) hx hb dd_M_deliver_145 rfl (lv_at hl 6 rfl) ?_
      refine lv_iload_n (pc := 146) hx hb dd_M_deliver_146 rfl (lv_at hl 7 rfl) ?_
      refine lv_iload (pc := 147) hx hb dd_M_deliver_147 (lv_at hl 4 rfl) ?_
      refine lv_iload (pc := 149) hx hb dd_M_deliver_149 (lv_at hl 1 rfl) ?_
      refine k_M_M_send (pc := 151) cx hl hP hS (by assumption) (ct_M_send l x T ⟨w16, w23, w24, w25, w26, w27, w28, w29, w30, w31, w32, w33, w34, w35, w36, w37, w39, w40, w41, w42, w43, w44, w45, w46⟩ true c s0 _ _ hc hT) ⟨⟨rfl, rfl⟩, ⟨(Nat.le_of_ble_eq_true rfl), (Nat.le_of_ble_eq_true rfl)⟩, (Nat.le_of_ble_eq_true rfl), (Nat.le_of_ble_eq_true rfl)⟩ (Nat.le_of_ble_eq_true rfl) dd_M_deliver_151 (fun H locs hP hS => ?_)
      refine lv_aload_n (pc := 154) hx hb dd_M_deliver_154 rfl (lv_at hl 5 rfl) ?_
      refine g_M_M_what (pc := 155) cx hP (by assumption) dd_M_deliver_155 ?_
      refine lv_aload_n (pc := 158) hx hb dd_M_deliver_158 rfl (lv_at hl 5 rfl) ?_
      refine g_M_M_letters (pc := 159) cx hP (by assumption) dd_M_deliver_159 ?_
      refine lv_iconst (pc := 162) (v := 1) hx hb dd_M_deliver_162 (by decide) ?_
      refine lv_isub (pc := 163) hx hb dd_M_deliver_163 ?_
      refine f_topi e1 ?_
      refine lv_aload_n (pc := 164) hx hb dd_M_deliver_164 rfl (lv_at hl 5 rfl) ?_
      refine g_M_M_seals (pc := 165) cx hP (by assumption) dd_M_deliver_165 ?_
      refine lv_iload_n (pc := 168) hx hb dd_M_deliver_168 rfl (lv_at hl 7 rfl) ?_
      refine f_iald (pc := 169) cx hP (fv.at (by assumption) _) rfl rfl (by omega) dd_M_deliver_169 ?_
      refine f_iast (pc := 170) cx hP hS (fv.at (by assumption) _) (fun _ => rfl) rfl hT2 dd_M_deliver_170 (fun H locs hP hS => ?_)
      refine lv_aload_n (pc := 171) hx hb dd_M_deliver_171 rfl (lv_at hl 5 rfl) ?_
      refine g_M_M_full (pc := 172) cx hP (by assumption) dd_M_deliver_172 ?_
      refine lv_aload_n (pc := 175) hx hb dd_M_deliver_175 rfl (lv_at hl 5 rfl) ?_
      refine g_M_M_letters (pc := 176) cx hP (by assumption) dd_M_deliver_176 ?_
      refine lv_iconst (pc := 179) (v := 1) hx hb dd_M_deliver_179 (by decide) ?_
      refine lv_isub (pc := 180) hx hb dd_M_deliver_180 ?_
      refine f_topi e1 ?_
      refine lv_iload (pc := 181) hx hb dd_M_deliver_181 (lv_at hl 0 rfl) ?_
      refine lv_if_lt (pc := 183) (tgt := 190) hx hb dd_M_deliver_183 (by decide) (fun h183 => ?_) (fun h183 => ?_)
      · -- 183: t to 190
        exact absurd h183 (nI_pos (by omega))
      · -- 183: f to 186
        refine lv_iconst (pc := 186) (v := b2 true) hx hb dd_M_deliver_186 (by decide) ?_
        refine lv_goto (pc := 187) (tgt := 191) hx hb dd_M_deliver_187 (by decide) ?_
        refine f_zast (pc := 191) cx hP hS (fv.at (by assumption) _) (fun _ => rfl) rfl rfl hT2 dd_M_deliver_191 (fun H locs hP hS => ?_)
        refine lv_aload_n (pc := 192) hx hb dd_M_deliver_192 rfl (lv_at hl 5 rfl) ?_
        refine g_M_M_load (pc := 193) cx hP (by assumption) dd_M_deliver_193 ?_
        refine lv_aload_n (pc := 196) hx hb dd_M_deliver_196 rfl (lv_at hl 5 rfl) ?_
        refine g_M_M_letters (pc := 197) cx hP (by assumption) dd_M_deliver_197 ?_
        refine lv_iconst (pc := 200) (v := 1) hx hb dd_M_deliver_200 (by decide) ?_
        refine lv_isub (pc := 201) hx hb dd_M_deliver_201 ?_
        refine f_topi e1 ?_
        refine lv_iload (pc := 202) hx hb dd_M_deliver_202 (lv_at hl 0 rfl) ?_
        refine lv_if_lt (pc := 204) (tgt := 217) hx hb dd_M_deliver_204 (by decide) (fun h204 => ?_) (fun h204 => ?_)
        · -- 204: t to 217
          exact absurd h204 (nI_pos (by omega))
        · -- 204: f to 207
          refine lv_aload_n (pc := 207) hx hb dd_M_deliver_207 rfl (lv_at hl 5 rfl) ?_
          refine g_M_M_hasBlock (pc := 208) cx hP (by assumption) dd_M_deliver_208 ?_
          refine lv_iload (pc := 211) hx hb dd_M_deliver_211 (lv_at hl 0 rfl) ?_
          refine f_lald (pc := 213) cx hP (fv.at (by assumption) _) rfl rfl hi35 dd_M_deliver_213 ?_
          refine lv_goto (pc := 214) (tgt := 218) hx hb dd_M_deliver_214 (by decide) ?_
          refine f_last (pc := 218) cx hP hS (fv.at (by assumption) _) (fun _ => rfl) rfl hT2 dd_M_deliver_218 (fun H locs hP hS => ?_)
          refine lv_iload (pc := 219) hx hb dd_M_deliver_219 (lv_at hl 4 rfl) ?_
          exact f_iret (pc := 221) cx hr hlocks hP hS rfl (by rw [← hU]; rfl) dd_M_deliver_221
  have j2 : ∀ (T : fm) (H : Heap) (locs : List Loc), mU T 16 0 18 < 256 → mU T 35 0 s0 ≤ 5 → n_dlC T c s0 (mI S 44 0 at_) (mI S 43 0 at_) (n_dlP T s0 (mI S 44 0 at_) (mI S 45 0 at_)) = n_dl x S c s0 at_ → fP x T H → fS x s.heap H locs → ∀ ls : Array Slot, lv_has ls 11 [(9, .int (mI S 43 0 at_)), (7, .long (mJ S 46 0 at_)), (6, .int (mI S 45 0 at_)), (5, .int (mI S 44 0 at_)), (0, .ref (xa x 16 0)), (1, .int (nI c)), (2, .int (nI s0))] → W p l e ({ frames := 2, cells := 0, slots := 0, locals := 50 } : Room) s m [.ref (xa x 16 0), .int (nI c), .int (nI s0), .int j].toArray below meth c0 H locs 0 0 (MQ below (fQi x (n_dl x S c s0 at_) (mI S 44 0 at_)) [.ref (xa x 16 0), .int (nI c), .int (nI s0), .int j].toArray s 0 0 (fun q => xs x ≤ q)) (F0 m 124 ls []) := by
    intro T H locs hT hT5 hU hP hS ls hl
    refine lv_iload (pc := 124) hx hb dd_M_deliver_124 (lv_at hl 3 rfl) ?_
    refine lv_iconst (pc := 126) (v := 5) hx hb dd_M_deliver_126 (by decide) ?_
    refine lv_icmp_ne (pc := 127) (tgt := 140) hx hb dd_M_deliver_127 (by decide) (fun h127 => ?_) (fun h127 => ?_)
    · -- 127: t to 140
      have hp : n_dlP T s0 (mI S 44 0 at_) (mI S 45 0 at_) = none := by unfold n_dlP; rw [if_neg h127]
      have ho : ∀ i, (none : Option Nat) = some i → i < 35 := fun i q => by cases q
      refine lv_iconst (pc := 140) (v := (-1)) hx hb dd_M_deliver_140 (by decide) ?_
      refine f_topi (show (-1 : Int32) = oI none from rfl) ?_
      refine lv_istore (pc := 141) (lv' := [(10, _), (9, _), (7, _), (6, _), (5, _), (0, _), (1, _), (2, _)]) hx hb dd_M_deliver_141 hl (Nat.le_of_ble_eq_true rfl) rfl (fun ls hl => ?_)
      exact j3 T _ _ _ hT ho (by rw [← hU, hp]) hP hS ls (lv_sub hl [0, 1, 2, 3, 4, 5, 6, 7] rfl)
    · -- 127: f to 130
      have hp : n_dlP T s0 (mI S 44 0 at_) (mI S 45 0 at_) = n_place T s0 (mI S 45 0 at_) := by unfold n_dlP; rw [if_pos h127]
      have ho : ∀ i, n_place T s0 (mI S 45 0 at_) = some i → i < 35 := fun i q => by obtain ⟨q1, g1, g2⟩ := n_place_lt q; omega
      refine lv_aload_n (pc := 130) hx hb dd_M_deliver_130 rfl (lv_at hl 4 rfl) ?_
      refine lv_iload_n (pc := 131) hx hb dd_M_deliver_131 rfl (lv_at hl 6 rfl) ?_
      refine lv_iload (pc := 132) hx hb dd_M_deliver_132 (lv_at hl 2 rfl) ?_
      refine k_M_M_place (pc := 134) cx hl hP hS (by assumption) (ct_M_place l x T ⟨w16, w23, w24, w25, w26, w27, w28, w29, w30, w31, w32, w33, w34, w35, w36, w37, w39, w40, w41, w42, w43, w44, w45, w46⟩ s0 _ hs hO hT5) ⟨⟨rfl, rfl⟩, ⟨(Nat.le_of_ble_eq_true rfl), (Nat.le_of_ble_eq_true rfl)⟩, (Nat.le_of_ble_eq_true rfl), (Nat.le_of_ble_eq_true rfl)⟩ (Nat.le_of_ble_eq_true rfl) dd_M_deliver_134 (fun H locs hP hS => ?_)
      refine lv_goto (pc := 137) (tgt := 141) hx hb dd_M_deliver_137 (by decide) ?_
      refine lv_istore (pc := 141) (lv' := [(10, _), (9, _), (7, _), (6, _), (5, _), (0, _), (1, _), (2, _)]) hx hb dd_M_deliver_141 hl (Nat.le_of_ble_eq_true rfl) rfl (fun ls hl => ?_)
      exact j3 T _ _ _ hT ho (by rw [← hU, hp]) hP hS ls (lv_sub hl [0, 1, 2, 3, 4, 5, 6, 7] rfl)
  have j1 : ∀ (T : fm) (H : Heap) (locs : List Loc), mU T 16 0 18 < 256 → mU T 35 0 s0 ≤ 5 → n_dlC (n_dlB T s0 (mI S 44 0 at_) (mI S 45 0 at_)) c s0 (mI S 44 0 at_) (mI S 43 0 at_) (n_dlP (n_dlB T s0 (mI S 44 0 at_) (mI S 45 0 at_)) s0 (mI S 44 0 at_) (mI S 45 0 at_)) = n_dl x S c s0 at_ → fP x T H → fS x s.heap H locs → ∀ ls : Array Slot, lv_has ls 11 [(9, .int (mI S 43 0 at_)), (7, .long (mJ S 46 0 at_)), (6, .int (mI S 45 0 at_)), (5, .int (mI S 44 0 at_)), (0, .ref (xa x 16 0)), (1, .int (nI c)), (2, .int (nI s0))] → W p l e ({ frames := 2, cells := 0, slots := 0, locals := 50 } : Room) s m [.ref (xa x 16 0), .int (nI c), .int (nI s0), .int j].toArray below meth c0 H locs 0 0 (MQ below (fQi x (n_dl x S c s0 at_) (mI S 44 0 at_)) [.ref (xa x 16 0), .int (nI c), .int (nI s0), .int j].toArray s 0 0 (fun q => xs x ≤ q)) (F0 m 93 ls []) := by
    intro T H locs hT hT5 hU hP hS ls hl
    by_cases e3 : mI S 44 0 at_ = 3
    · -- sealed
      refine lv_iload (pc := 93) hx hb dd_M_deliver_93 (lv_at hl 3 rfl) ?_
      refine lv_iconst (pc := 95) (v := 3) hx hb dd_M_deliver_95 (by decide) ?_
      refine lv_icmp_eq (pc := 96) (tgt := 105) hx hb dd_M_deliver_96 (by decide) (fun h96 => ?_) (fun h96 => ?_)
      · -- 96: t to 105
        refine lv_iload (pc := 105) hx hb dd_M_deliver_105 (lv_at hl 2 rfl) ?_
        refine lv_aload_n (pc := 107) hx hb dd_M_deliver_107 rfl (lv_at hl 4 rfl) ?_
        refine g_M_M_seals (pc := 108) cx hP (by assumption) dd_M_deliver_108 ?_
        refine lv_iload_n (pc := 111) hx hb dd_M_deliver_111 rfl (lv_at hl 6 rfl) ?_
        refine f_iald (pc := 112) cx hP (fv.at (by assumption) _) rfl rfl (by omega) dd_M_deliver_112 ?_
        refine lv_icmp_le (pc := 113) (tgt := 124) hx hb dd_M_deliver_113 (by decide) (fun h113 => ?_) (fun h113 => ?_)
        · -- 113: t to 124
          have hb2 : n_dlB T s0 (mI S 44 0 at_) (mI S 45 0 at_) = T := by unfold n_dlB; rw [if_neg (fun q => absurd q.2 (Int32.not_lt.mpr h113))]
          exact j2 (n_dlB T s0 (mI S 44 0 at_) (mI S 45 0 at_)) _ _ (by rw [hb2]; exact hT) (by rw [hb2]; exact hT5) hU (f_eqS hP hb2.symm) hS ls (lv_sub hl [0, 1, 2, 3, 4, 5, 6] rfl)
        · -- 113: f to 116
          have hb2 : n_dlB T s0 (mI S 44 0 at_) (mI S 45 0 at_) = sI T 34 0 s0 (mI S 45 0 at_) := by unfold n_dlB; rw [if_pos ⟨Or.inl e3, Int32.not_le.mp h113⟩]
          refine lv_aload_n (pc := 116) hx hb dd_M_deliver_116 rfl (lv_at hl 4 rfl) ?_
          refine g_M_M_seals (pc := 117) cx hP (by assumption) dd_M_deliver_117 ?_
          refine lv_iload_n (pc := 120) hx hb dd_M_deliver_120 rfl (lv_at hl 6 rfl) ?_
          refine lv_iload (pc := 121) hx hb dd_M_deliver_121 (lv_at hl 2 rfl) ?_
          refine f_iast (pc := 123) cx hP hS (fv.at (by assumption) _) (fun _ => rfl) rfl (by omega) dd_M_deliver_123 (fun H locs hP hS => ?_)
          exact j2 (n_dlB T s0 (mI S 44 0 at_) (mI S 45 0 at_)) _ _ (by rw [hb2]; exact hT) (by rw [hb2]; exact hT5) hU (f_eqS hP hb2.symm) hS ls (lv_sub hl [0, 1, 2, 3, 4, 5, 6] rfl)
      · -- 96: f to 99
        exact absurd e3 h96
    by_cases e5 : mI S 44 0 at_ = 5
    · -- fetched
      refine lv_iload (pc := 93) hx hb dd_M_deliver_93 (lv_at hl 3 rfl) ?_
      refine lv_iconst (pc := 95) (v := 3) hx hb dd_M_deliver_95 (by decide) ?_
      refine lv_icmp_eq (pc := 96) (tgt := 105) hx hb dd_M_deliver_96 (by decide) (fun h96 => ?_) (fun h96 => ?_)
      · -- 96: t to 105
        exact absurd h96 e3
      · -- 96: f to 99
        refine lv_iload (pc := 99) hx hb dd_M_deliver_99 (lv_at hl 3 rfl) ?_
        refine lv_iconst (pc := 101) (v := 5) hx hb dd_M_deliver_101 (by decide) ?_
        refine lv_icmp_ne (pc := 102) (tgt := 124) hx hb dd_M_deliver_102 (by decide) (fun h102 => ?_) (fun h102 => ?_)
        · -- 102: t to 124
          exact absurd e5 h102
        · -- 102: f to 105
          refine lv_iload (pc := 105) hx hb dd_M_deliver_105 (lv_at hl 2 rfl) ?_
          refine lv_aload_n (pc := 107) hx hb dd_M_deliver_107 rfl (lv_at hl 4 rfl) ?_
          refine g_M_M_seals (pc := 108) cx hP (by assumption) dd_M_deliver_108 ?_
          refine lv_iload_n (pc := 111) hx hb dd_M_deliver_111 rfl (lv_at hl 6 rfl) ?_
          refine f_iald (pc := 112) cx hP (fv.at (by assumption) _) rfl rfl (by omega) dd_M_deliver_112 ?_
          refine lv_icmp_le (pc := 113) (tgt := 124) hx hb dd_M_deliver_113 (by decide) (fun h113 => ?_) (fun h113 => ?_)
          · -- 113: t to 124
            have hb2 : n_dlB T s0 (mI S 44 0 at_) (mI S 45 0 at_) = T := by unfold n_dlB; rw [if_neg (fun q => absurd q.2 (Int32.not_lt.mpr h113))]
            exact j2 (n_dlB T s0 (mI S 44 0 at_) (mI S 45 0 at_)) _ _ (by rw [hb2]; exact hT) (by rw [hb2]; exact hT5) hU (f_eqS hP hb2.symm) hS ls (lv_sub hl [0, 1, 2, 3, 4, 5, 6] rfl)
          · -- 113: f to 116
            have hb2 : n_dlB T s0 (mI S 44 0 at_) (mI S 45 0 at_) = sI T 34 0 s0 (mI S 45 0 at_) := by unfold n_dlB; rw [if_pos ⟨Or.inr e5, Int32.not_le.mp h113⟩]
            refine lv_aload_n (pc := 116) hx hb dd_M_deliver_116 rfl (lv_at hl 4 rfl) ?_
            refine g_M_M_seals (pc := 117) cx hP (by assumption) dd_M_deliver_117 ?_
            refine lv_iload_n (pc := 120) hx hb dd_M_deliver_120 rfl (lv_at hl 6 rfl) ?_
            refine lv_iload (pc := 121) hx hb dd_M_deliver_121 (lv_at hl 2 rfl) ?_
            refine f_iast (pc := 123) cx hP hS (fv.at (by assumption) _) (fun _ => rfl) rfl (by omega) dd_M_deliver_123 (fun H locs hP hS => ?_)
            exact j2 (n_dlB T s0 (mI S 44 0 at_) (mI S 45 0 at_)) _ _ (by rw [hb2]; exact hT) (by rw [hb2]; exact hT5) hU (f_eqS hP hb2.symm) hS ls (lv_sub hl [0, 1, 2, 3, 4, 5, 6] rfl)
    refine lv_iload (pc := 93) hx hb dd_M_deliver_93 (lv_at hl 3 rfl) ?_
    refine lv_iconst (pc := 95) (v := 3) hx hb dd_M_deliver_95 (by decide) ?_
    refine lv_icmp_eq (pc := 96) (tgt := 105) hx hb dd_M_deliver_96 (by decide) (fun h96 => ?_) (fun h96 => ?_)
    · -- 96: t to 105
      exact absurd h96 e3
    · -- 96: f to 99
      refine lv_iload (pc := 99) hx hb dd_M_deliver_99 (lv_at hl 3 rfl) ?_
      refine lv_iconst (pc := 101) (v := 5) hx hb dd_M_deliver_101 (by decide) ?_
      refine lv_icmp_ne (pc := 102) (tgt := 124) hx hb dd_M_deliver_102 (by decide) (fun h102 => ?_) (fun h102 => ?_)
      · -- 102: t to 124
        have hb2 : n_dlB T s0 (mI S 44 0 at_) (mI S 45 0 at_) = T := by unfold n_dlB; rw [if_neg (fun q => q.1.elim e3 e5)]
        exact j2 (n_dlB T s0 (mI S 44 0 at_) (mI S 45 0 at_)) _ _ (by rw [hb2]; exact hT) (by rw [hb2]; exact hT5) hU (f_eqS hP hb2.symm) hS ls (lv_sub hl [0, 1, 2, 3, 4, 5, 6] rfl)
      · -- 102: f to 105
        exact absurd h102 e5
  refine lv_aload_n (pc := 0) hx hb dd_M_deliver_0 rfl (lv_at hl 0 rfl) ?_
  refine lv_iload_n (pc := 1) hx hb dd_M_deliver_1 rfl (lv_at hl 1 rfl) ?_
  refine k_M_M_noClient (pc := 2) cx hl hP hS (by assumption) (ct_M_noClient l x _ ⟨w16, w23, w24, w25, w26, w27, w28, w29, w30, w31, w32, w33, w34, w35, w36, w37, w39, w40, w41, w42, w43, w44, w45, w46⟩ (nI c)) ⟨⟨rfl, rfl⟩, ⟨(Nat.le_of_ble_eq_true rfl), (Nat.le_of_ble_eq_true rfl)⟩, (Nat.le_of_ble_eq_true rfl), (Nat.le_of_ble_eq_true rfl)⟩ (Nat.le_of_ble_eq_true rfl) dd_M_deliver_2 (fun H locs hP hS => ?_)
  refine f_neB (pc := 5) (tgt := 16) cx dd_M_deliver_5 (by decide) (fun h5 => ?_) (fun h5 => ?_)
  · -- 5: t to 16
    exact absurd ((congrArg not (q_cl_in hc)).symm.trans h5) (by decide)
  · -- 5: f to 8
    refine lv_aload_n (pc := 8) hx hb dd_M_deliver_8 rfl (lv_at hl 0 rfl) ?_
    refine lv_iload_n (pc := 9) hx hb dd_M_deliver_9 rfl (lv_at hl 2 rfl) ?_
    refine k_M_M_noServer (pc := 10) cx hl hP hS (by assumption) (ct_M_noServer l x _ ⟨w16, w23, w24, w25, w26, w27, w28, w29, w30, w31, w32, w33, w34, w35, w36, w37, w39, w40, w41, w42, w43, w44, w45, w46⟩ (nI s0)) ⟨⟨rfl, rfl⟩, ⟨(Nat.le_of_ble_eq_true rfl), (Nat.le_of_ble_eq_true rfl)⟩, (Nat.le_of_ble_eq_true rfl), (Nat.le_of_ble_eq_true rfl)⟩ (Nat.le_of_ble_eq_true rfl) dd_M_deliver_10 (fun H locs hP hS => ?_)
    refine f_eqB (pc := 13) (tgt := 18) cx dd_M_deliver_13 (by decide) (fun h13 => ?_) (fun h13 => ?_)
    · -- 13: t to 18
      refine lv_aload_n (pc := 18) hx hb dd_M_deliver_18 rfl (lv_at hl 0 rfl) ?_
      refine lv_iconst (pc := 19) (v := b2 false) hx hb dd_M_deliver_19 (by decide) ?_
      refine lv_iload_n (pc := 20) hx hb dd_M_deliver_20 rfl (lv_at hl 1 rfl) ?_
      refine lv_iload_n (pc := 21) hx hb dd_M_deliver_21 rfl (lv_at hl 2 rfl) ?_
      refine lv_iload_n (pc := 22) hx hb dd_M_deliver_22 rfl (lv_at hl 3 rfl) ?_
      refine k_M_M_seek (pc := 23) cx hl hP hS (by assumption) (ct_M_seek l x S ⟨w16, w23, w24, w25, w26, w27, w28, w29, w30, w31, w32, w33, w34, w35, w36, w37, w39, w40, w41, w42, w43, w44, w45, w46⟩ false c s0 j hl0) ⟨⟨rfl, rfl⟩, ⟨(Nat.le_of_ble_eq_true rfl), (Nat.le_of_ble_eq_true rfl)⟩, (Nat.le_of_ble_eq_true rfl), (Nat.le_of_ble_eq_true rfl)⟩ (Nat.le_of_ble_eq_true rfl) dd_M_deliver_23 (fun H locs hP hS => ?_)
      refine f_topi (show oI (n_seek S false c s0 j) = nI at_ by rw [hq]; rfl) ?_
      refine lv_istore (pc := 26) (lv' := [(4, _), (0, _), (1, _), (2, _), (3, _)]) hx hb dd_M_deliver_26 hl (Nat.le_of_ble_eq_true rfl) rfl (fun ls hl => ?_)
      refine lv_iload (pc := 28) hx hb dd_M_deliver_28 (lv_at hl 0 rfl) ?_
      refine lv_if_ge (pc := 30) (tgt := 36) hx hb dd_M_deliver_30 (by decide) (fun h30 => ?_) (fun h30 => ?_)
      · -- 30: t to 36
        refine lv_aload_n (pc := 36) hx hb dd_M_deliver_36 rfl (lv_at hl 1 rfl) ?_
        refine g_M_M_kind (pc := 37) cx hP (by assumption) dd_M_deliver_37 ?_
        refine lv_iload (pc := 40) hx hb dd_M_deliver_40 (lv_at hl 0 rfl) ?_
        refine f_iald (pc := 42) cx hP (fv.at (by assumption) _) rfl rfl hat2 dd_M_deliver_42 ?_
        refine lv_istore (pc := 43) (lv' := [(5, _), (4, _), (0, _), (1, _), (2, _), (3, _)]) hx hb dd_M_deliver_43 hl (Nat.le_of_ble_eq_true rfl) rfl (fun ls hl => ?_)
        refine lv_aload_n (pc := 45) hx hb dd_M_deliver_45 rfl (lv_at hl 2 rfl) ?_
        refine g_M_M_what (pc := 46) cx hP (by assumption) dd_M_deliver_46 ?_
        refine lv_iload (pc := 49) hx hb dd_M_deliver_49 (lv_at hl 1 rfl) ?_
        refine f_iald (pc := 51) cx hP (fv.at (by assumption) _) rfl rfl hat2 dd_M_deliver_51 ?_
        refine lv_istore (pc := 52) (lv' := [(6, _), (5, _), (4, _), (0, _), (1, _), (2, _), (3, _)]) hx hb dd_M_deliver_52 hl (Nat.le_of_ble_eq_true rfl) rfl (fun ls hl => ?_)
        refine lv_aload_n (pc := 54) hx hb dd_M_deliver_54 rfl (lv_at hl 3 rfl) ?_
        refine g_M_M_load (pc := 55) cx hP (by assumption) dd_M_deliver_55 ?_
        refine lv_iload (pc := 58) hx hb dd_M_deliver_58 (lv_at hl 2 rfl) ?_
        refine f_lald (pc := 60) cx hP (fv.at (by assumption) _) rfl rfl hat2 dd_M_deliver_60 ?_
        refine lv_lstore (pc := 61) (lv' := [(7, _), (6, _), (5, _), (4, _), (0, _), (1, _), (2, _), (3, _)]) hx hb dd_M_deliver_61 hl (Nat.le_of_ble_eq_true rfl) rfl (fun ls hl => ?_)
        refine lv_aload_n (pc := 63) hx hb dd_M_deliver_63 rfl (lv_at hl 4 rfl) ?_
        refine g_M_M_sent (pc := 64) cx hP (by assumption) dd_M_deliver_64 ?_
        refine lv_iload (pc := 67) hx hb dd_M_deliver_67 (lv_at hl 3 rfl) ?_
        refine f_iald (pc := 69) cx hP (fv.at (by assumption) _) rfl rfl hat2 dd_M_deliver_69 ?_
        refine lv_istore (pc := 70) (lv' := [(9, _), (7, _), (6, _), (5, _), (4, _), (0, _), (1, _), (2, _), (3, _)]) hx hb dd_M_deliver_70 hl (Nat.le_of_ble_eq_true rfl) rfl (fun ls hl => ?_)
        refine lv_aload_n (pc := 72) hx hb dd_M_deliver_72 rfl (lv_at hl 5 rfl) ?_
        refine lv_iload (pc := 73) hx hb dd_M_deliver_73 (lv_at hl 4 rfl) ?_
        refine k_M_M_lose (pc := 75) cx hl hP hS (by assumption) (ct_M_lose l x S ⟨w16, w23, w24, w25, w26, w27, w28, w29, w30, w31, w32, w33, w34, w35, w36, w37, w39, w40, w41, w42, w43, w44, w45, w46⟩ at_ hat hl0) ⟨⟨rfl, rfl⟩, ⟨(Nat.le_of_ble_eq_true rfl), (Nat.le_of_ble_eq_true rfl)⟩, (Nat.le_of_ble_eq_true rfl), (Nat.le_of_ble_eq_true rfl)⟩ (Nat.le_of_ble_eq_true rfl) dd_M_deliver_75 (fun H locs hP hS => ?_)
        refine lv_iload (pc := 78) hx hb dd_M_deliver_78 (lv_at hl 3 rfl) ?_
        refine lv_iconst (pc := 80) (v := 2) hx hb dd_M_deliver_80 (by decide) ?_
        refine lv_icmp_ne (pc := 81) (tgt := 93) hx hb dd_M_deliver_81 (by decide) (fun h81 => ?_) (fun h81 => ?_)
        · -- 81: t to 93
          have ha2 : n_lose S at_ = n_dlA x (n_lose S at_) s0 (mI S 44 0 at_) (mI S 45 0 at_) (mJ S 46 0 at_) := by unfold n_dlA; rw [if_neg h81]
          have g1 : mU (n_lose S at_) 16 0 18 < 256 := by show mL S - 1 < 256; omega
          have g2 : mU (n_lose S at_) 35 0 s0 ≤ 5 := by show mU S 35 0 s0 ≤ 5; omega
          exact j1 _ _ _ g1 g2 (by rw [ha2]; rfl) hP hS ls (lv_sub hl [0, 1, 2, 3, 5, 6, 7] rfl)
        · -- 81: f to 84
          have ha2 : n_store x (n_lose S at_) s0 (mI S 45 0 at_) (mJ S 46 0 at_) = n_dlA x (n_lose S at_) s0 (mI S 44 0 at_) (mI S 45 0 at_) (mJ S 46 0 at_) := by unfold n_dlA; rw [if_pos h81]
          have g1 : mU (n_store x (n_lose S at_) s0 (mI S 45 0 at_) (mJ S 46 0 at_)) 16 0 18 < 256 := by rw [n_store_U16]; show mL S - 1 < 256; omega
          have g2 : mU (n_store x (n_lose S at_) s0 (mI S 45 0 at_) (mJ S 46 0 at_)) 35 0 s0 ≤ 5 := by have := n_store_many x (n_lose S at_) s0 (mI S 45 0 at_) (mJ S 46 0 at_) (show mU S 35 0 s0 ≤ xD x + 1 from hm); omega
          refine lv_aload_n (pc := 84) hx hb dd_M_deliver_84 rfl (lv_at hl 5 rfl) ?_
          refine lv_iload_n (pc := 85) hx hb dd_M_deliver_85 rfl (lv_at hl 7 rfl) ?_
          refine lv_iload (pc := 86) hx hb dd_M_deliver_86 (lv_at hl 2 rfl) ?_
          refine lv_lload (pc := 88) hx hb dd_M_deliver_88 (lv_at hl 1 rfl) ?_
          refine k_M_M_store (pc := 90) cx hl hP hS (by assumption) (ct_M_store l x (n_lose S at_) ⟨w16, w23, w24, w25, w26, w27, w28, w29, w30, w31, w32, w33, w34, w35, w36, w37, w39, w40, w41, w42, w43, w44, w45, w46⟩ s0 _ _ hs hO (show mU S 35 0 s0 ≤ xD x + 1 from hm)) ⟨⟨rfl, rfl⟩, ⟨(Nat.le_of_ble_eq_true rfl), (Nat.le_of_ble_eq_true rfl)⟩, (Nat.le_of_ble_eq_true rfl), (Nat.le_of_ble_eq_true rfl)⟩ (Nat.le_of_ble_eq_true rfl) dd_M_deliver_90 (fun H locs hP hS => ?_)
          exact j1 _ _ _ g1 g2 (by rw [ha2]; rfl) hP hS ls (lv_sub hl [0, 1, 2, 3, 5, 6, 7] rfl)
      · -- 30: f to 33
        exact absurd (nI_pos' (by omega)) h30
    · -- 13: f to 16
      exact absurd ((congrArg not (q_sv_in hO hs)).symm.trans h13) (by decide)
set_option maxHeartbeats 4000000 in
set_option maxRecDepth 100000 in
theorem ct_M_hear (l : Launch) (x : fy) (S : fm) (hM : fM x) (c s0 at_ : Nat) (j : Int32) (hc : c < 5) (hs : s0 < xN x) (hO : fO x) (hl0 : mU S 16 0 18 ≤ 256) (hq : n_seek S true c s0 j = some at_) (hl7 : mL S + 6 ≤ 256) : Met l mn_M_hear (gw_ws mn_M_hear cb_M_hear 10 (some .int)) ({ frames := 3, cells := 0, slots := 0, locals := 70 } : Room) (fPc x (S) [.ref (xa x 16 0), .int (nI c), .int (nI s0), .int j]) (fQi x (e_hrM x S c at_) (q_hrM x S c at_)) 0 0 (fun q => xs x ≤ q) := by
  refine f_met (by decide) (Nat.le_of_ble_eq_true rfl) ?_
  intro p e s m below meth c0 cx hr hlocks hnm hP hS ls hl
  have cx : fX rn_M cb_M_hear 10 p c0 s m [.ref (xa x 16 0), .int (nI c), .int (nI s0), .int j].toArray x := cx
  have hx := cx.1.1
  have hb := cx.1.2.1
  have hl : lv_has ls 10 [(0, .ref (xa x 16 0)), (1, .int (nI c)), (2, .int (nI s0)), (3, .int j)] := hl
  obtain ⟨w16, w23, w24, w25, w26, w27, w28, w29, w30, w31, w32, w33, w34, w35, w36, w37, w39, w40, w41, w42, w43, w44, w45, w46⟩ := hM
  have hN : xN x ≤ 7 := hO.2.2.2.1
  have hat := n_seek_lt hq
  have hL0 : mL S = mU S 16 0 18 := rfl
  have hat2 : at_ < 256 := by omega
  skip
  have k2 : n_counts S c at_ = true → ∀ (H : Heap) (locs : List Loc), fP x (n_hr1 (n_lose S at_) c (mI S 45 0 at_)) H → fS x s.heap H locs → ∀ ls : Array Slot, lv_has ls 10 [(8, .long (mJ S 46 0 at_)), (7, .int (b2 (mB S 40 0 at_))), (6, .int (mI S 45 0 at_)), (0, .ref (xa x 16 0)), (1, .int (nI c))] → W p l e ({ frames := 3, cells := 0, slots := 0, locals := 70 } : Room) s m [.ref (xa x 16 0), .int (nI c), .int (nI s0), .int j].toArray below meth c0 H locs 0 0 (MQ below (fQi x (e_hrM x S c at_) (q_hrM x S c at_)) [.ref (xa x 16 0), .int (nI c), .int (nI s0), .int j].toArray s 0 0 (fun q => xs x ≤ q)) (F0 m 157 ls []) := by
    intro hct H locs hP hS ls hl
    have hU : n_hrU S c at_ = n_hr2 (n_hr1 (n_lose S at_) c (mI S 45 0 at_)) c (mB S 40 0 at_) (mJ S 46 0 at_) := rfl
    refine lv_iload (pc := 157) hx hb dd_M_hear_157 (lv_at hl 1 rfl) ?_
    refine f_eqB (pc := 159) (tgt := 180) cx dd_M_hear_159 (by decide) (fun h159 => ?_) (fun h159 => ?_)
    · -- 159: t to 180
      have e0 : n_hr1 (n_lose S at_) c (mI S 45 0 at_) = n_hrU S c at_ := by rw [hU]; unfold n_hr2; rw [if_neg (by rw [h159]; decide)]
      have hP := f_eqS (T' := n_hrU S c at_) hP e0
      refine lv_aload_n (pc := 180) hx hb dd_M_hear_180 rfl (lv_at hl 3 rfl) ?_
      refine lv_iload_n (pc := 181) hx hb dd_M_hear_181 rfl (lv_at hl 4 rfl) ?_
      refine k_M_M_onwards (pc := 182) cx hl hP hS (by assumption) (ct_M_onwards l x (n_hrU S c at_) ⟨w16, w23, w24, w25, w26, w27, w28, w29, w30, w31, w32, w33, w34, w35, w36, w37, w39, w40, w41, w42, w43, w44, w45, w46⟩ c hc hO (by rw [n_hrU_L]; omega)) ⟨⟨rfl, rfl⟩, ⟨(Nat.le_of_ble_eq_true rfl), (Nat.le_of_ble_eq_true rfl)⟩, (Nat.le_of_ble_eq_true rfl), (Nat.le_of_ble_eq_true rfl)⟩ (Nat.le_of_ble_eq_true rfl) dd_M_hear_182 (fun H locs hP hS => ?_)
      exact f_iret (pc := 185) cx hr hlocks hP hS (by rw [q_hrM, if_pos hct]) (by rw [e_hrM, if_pos hct]) dd_M_hear_185
    · -- 159: f to 162
      have e0 : sJ (sI (n_hr1 (n_lose S at_) c (mI S 45 0 at_)) 26 0 c (mI (n_hr1 (n_lose S at_) c (mI S 45 0 at_)) 26 0 c + 1)) 31 0 c (mJ S 46 0 at_) = n_hrU S c at_ := by rw [hU]; unfold n_hr2; rw [if_pos h159]
      refine lv_aload_n (pc := 162) hx hb dd_M_hear_162 rfl (lv_at hl 3 rfl) ?_
      refine g_M_M_bearing (pc := 163) cx hP (by assumption) dd_M_hear_163 ?_
      refine lv_iload_n (pc := 166) hx hb dd_M_hear_166 rfl (lv_at hl 4 rfl) ?_
      refine lv_dup2_11 (pc := 167) hx hb dd_M_hear_167 rfl rfl ?_
      refine f_iald (pc := 168) cx hP (fv.at (by assumption) _) rfl rfl (by omega) dd_M_hear_168 ?_
      refine lv_iconst (pc := 169) (v := 1) hx hb dd_M_hear_169 (by decide) ?_
      refine lv_iadd (pc := 170) hx hb dd_M_hear_170 ?_
      refine f_iast (pc := 171) cx hP hS (fv.at (by assumption) _) (fun _ => rfl) rfl (by omega) dd_M_hear_171 (fun H locs hP hS => ?_)
      refine lv_aload_n (pc := 172) hx hb dd_M_hear_172 rfl (lv_at hl 3 rfl) ?_
      refine g_M_M_seen (pc := 173) cx hP (by assumption) dd_M_hear_173 ?_
      refine lv_iload_n (pc := 176) hx hb dd_M_hear_176 rfl (lv_at hl 4 rfl) ?_
      refine lv_lload (pc := 177) hx hb dd_M_hear_177 (lv_at hl 0 rfl) ?_
      refine f_last (pc := 179) cx hP hS (fv.at (by assumption) _) (fun _ => rfl) rfl (by omega) dd_M_hear_179 (fun H locs hP hS => ?_)
      have hP := f_eqS (T' := n_hrU S c at_) hP e0
      refine lv_aload_n (pc := 180) hx hb dd_M_hear_180 rfl (lv_at hl 3 rfl) ?_
      refine lv_iload_n (pc := 181) hx hb dd_M_hear_181 rfl (lv_at hl 4 rfl) ?_
      refine k_M_M_onwards (pc := 182) cx hl hP hS (by assumption) (ct_M_onwards l x (n_hrU S c at_) ⟨w16, w23, w24, w25, w26, w27, w28, w29, w30, w31, w32, w33, w34, w35, w36, w37, w39, w40, w41, w42, w43, w44, w45, w46⟩ c hc hO (by rw [n_hrU_L]; omega)) ⟨⟨rfl, rfl⟩, ⟨(Nat.le_of_ble_eq_true rfl), (Nat.le_of_ble_eq_true rfl)⟩, (Nat.le_of_ble_eq_true rfl), (Nat.le_of_ble_eq_true rfl)⟩ (Nat.le_of_ble_eq_true rfl) dd_M_hear_182 (fun H locs hP hS => ?_)
      exact f_iret (pc := 185) cx hr hlocks hP hS (by rw [q_hrM, if_pos hct]) (by rw [e_hrM, if_pos hct]) dd_M_hear_185
  have k1 : ∀ (H : Heap) (locs : List Loc), fP x S H → fS x s.heap H locs → ∀ ls : Array Slot, lv_has ls 10 [(5, .int (b2 (n_counts S c at_))), (4, .int (nI at_)), (0, .ref (xa x 16 0)), (1, .int (nI c))] → W p l e ({ frames := 3, cells := 0, slots := 0, locals := 70 } : Room) s m [.ref (xa x 16 0), .int (nI c), .int (nI s0), .int j].toArray below meth c0 H locs 0 0 (MQ below (fQi x (e_hrM x S c at_) (q_hrM x S c at_)) [.ref (xa x 16 0), .int (nI c), .int (nI s0), .int j].toArray s 0 0 (fun q => xs x ≤ q)) (F0 m 79 ls []) := by
    intro H locs hP hS ls hl
    refine lv_aload_n (pc := 79) hx hb dd_M_hear_79 rfl (lv_at hl 2 rfl) ?_
    refine g_M_M_what (pc := 80) cx hP (by assumption) dd_M_hear_80 ?_
    refine lv_iload (pc := 83) hx hb dd_M_hear_83 (lv_at hl 1 rfl) ?_
    refine f_iald (pc := 85) cx hP (fv.at (by assumption) _) rfl rfl hat2 dd_M_hear_85 ?_
    refine lv_istore (pc := 86) (lv' := [(6, _), (5, _), (4, _), (0, _), (1, _)]) hx hb dd_M_hear_86 hl (Nat.le_of_ble_eq_true rfl) rfl (fun ls hl => ?_)
    refine lv_aload_n (pc := 88) hx hb dd_M_hear_88 rfl (lv_at hl 3 rfl) ?_
    refine g_M_M_full (pc := 89) cx hP (by assumption) dd_M_hear_89 ?_
    refine lv_iload (pc := 92) hx hb dd_M_hear_92 (lv_at hl 2 rfl) ?_
    refine f_zald (pc := 94) cx hP (fv.at (by assumption) _) rfl rfl hat2 dd_M_hear_94 ?_
    refine lv_istore (pc := 95) (lv' := [(7, _), (6, _), (5, _), (4, _), (0, _), (1, _)]) hx hb dd_M_hear_95 hl (Nat.le_of_ble_eq_true rfl) rfl (fun ls hl => ?_)
    refine lv_aload_n (pc := 97) hx hb dd_M_hear_97 rfl (lv_at hl 4 rfl) ?_
    refine g_M_M_load (pc := 98) cx hP (by assumption) dd_M_hear_98 ?_
    refine lv_iload (pc := 101) hx hb dd_M_hear_101 (lv_at hl 3 rfl) ?_
    refine f_lald (pc := 103) cx hP (fv.at (by assumption) _) rfl rfl hat2 dd_M_hear_103 ?_
    refine lv_lstore (pc := 104) (lv' := [(8, _), (7, _), (6, _), (5, _), (4, _), (0, _), (1, _)]) hx hb dd_M_hear_104 hl (Nat.le_of_ble_eq_true rfl) rfl (fun ls hl => ?_)
    refine lv_aload_n (pc := 106) hx hb dd_M_hear_106 rfl (lv_at hl 5 rfl) ?_
    refine lv_iload (pc := 107) hx hb dd_M_hear_107 (lv_at hl 4 rfl) ?_
    refine k_M_M_lose (pc := 109) cx hl hP hS (by assumption) (ct_M_lose l x S ⟨w16, w23, w24, w25, w26, w27, w28, w29, w30, w31, w32, w33, w34, w35, w36, w37, w39, w40, w41, w42, w43, w44, w45, w46⟩ at_ hat hl0) ⟨⟨rfl, rfl⟩, ⟨(Nat.le_of_ble_eq_true rfl), (Nat.le_of_ble_eq_true rfl)⟩, (Nat.le_of_ble_eq_true rfl), (Nat.le_of_ble_eq_true rfl)⟩ (Nat.le_of_ble_eq_true rfl) dd_M_hear_109 (fun H locs hP hS => ?_)
    refine lv_iload (pc := 112) hx hb dd_M_hear_112 (lv_at hl 3 rfl) ?_
    refine f_neB (pc := 114) (tgt := 119) cx dd_M_hear_114 (by decide) (fun h114 => ?_) (fun h114 => ?_)
    · -- 114: t to 119
      refine lv_aload_n (pc := 119) hx hb dd_M_hear_119 rfl (lv_at hl 5 rfl) ?_
      refine g_M_M_counted (pc := 120) cx hP (by assumption) dd_M_hear_120 ?_
      refine lv_iload_n (pc := 123) hx hb dd_M_hear_123 rfl (lv_at hl 6 rfl) ?_
      refine lv_dup2_11 (pc := 124) hx hb dd_M_hear_124 rfl rfl ?_
      refine f_iald (pc := 125) cx hP (fv.at (by assumption) _) rfl rfl (by omega) dd_M_hear_125 ?_
      refine lv_iconst (pc := 126) (v := 1) hx hb dd_M_hear_126 (by decide) ?_
      refine lv_iadd (pc := 127) hx hb dd_M_hear_127 ?_
      refine f_iast (pc := 128) cx hP hS (fv.at (by assumption) _) (fun _ => rfl) rfl (by omega) dd_M_hear_128 (fun H locs hP hS => ?_)
      refine lv_aload_n (pc := 129) hx hb dd_M_hear_129 rfl (lv_at hl 5 rfl) ?_
      refine g_M_M_best (pc := 130) cx hP (by assumption) dd_M_hear_130 ?_
      refine lv_iload_n (pc := 133) hx hb dd_M_hear_133 rfl (lv_at hl 6 rfl) ?_
      refine lv_iload (pc := 134) hx hb dd_M_hear_134 (lv_at hl 2 rfl) ?_
      refine lv_aload_n (pc := 136) hx hb dd_M_hear_136 rfl (lv_at hl 5 rfl) ?_
      refine g_M_M_best (pc := 137) cx hP (by assumption) dd_M_hear_137 ?_
      refine lv_iload_n (pc := 140) hx hb dd_M_hear_140 rfl (lv_at hl 6 rfl) ?_
      refine f_iald (pc := 141) cx hP (fv.at (by assumption) _) rfl rfl (by omega) dd_M_hear_141 ?_
      refine lv_icmp_le (pc := 142) (tgt := 150) hx hb dd_M_hear_142 (by decide) (fun h142 => ?_) (fun h142 => ?_)
      · -- 142: t to 150
        have h142 : mI S 45 0 at_ ≤ mI (n_lose S at_) 27 0 c := h142
        have e0 : sI (sI (n_lose S at_) 25 0 c (mI (n_lose S at_) 25 0 c + 1)) 27 0 c (mI (n_lose S at_) 27 0 c) = n_hr1 (n_lose S at_) c (mI S 45 0 at_) := by unfold n_hr1; unfold jmax; rw [if_neg (Int32.not_lt.mpr h142)]
        refine lv_aload_n (pc := 150) hx hb dd_M_hear_150 rfl (lv_at hl 5 rfl) ?_
        refine g_M_M_best (pc := 151) cx hP (by assumption) dd_M_hear_151 ?_
        refine lv_iload_n (pc := 154) hx hb dd_M_hear_154 rfl (lv_at hl 6 rfl) ?_
        refine f_iald (pc := 155) cx hP (fv.at (by assumption) _) rfl rfl (by omega) dd_M_hear_155 ?_
        refine f_iast (pc := 156) cx hP hS (fv.at (by assumption) _) (fun _ => rfl) rfl (by omega) dd_M_hear_156 (fun H locs hP hS => ?_)
        exact k2 h114 _ _ (f_eqS hP e0) hS ls (lv_sub hl [0, 1, 2, 5, 6] rfl)
      · -- 142: f to 145
        have h142 : ¬ mI S 45 0 at_ ≤ mI (n_lose S at_) 27 0 c := h142
        have e0 : sI (sI (n_lose S at_) 25 0 c (mI (n_lose S at_) 25 0 c + 1)) 27 0 c (mI S 45 0 at_) = n_hr1 (n_lose S at_) c (mI S 45 0 at_) := by unfold n_hr1; unfold jmax; rw [if_pos (Int32.not_le.mp h142)]
        refine lv_iload (pc := 145) hx hb dd_M_hear_145 (lv_at hl 2 rfl) ?_
        refine lv_goto (pc := 147) (tgt := 156) hx hb dd_M_hear_147 (by decide) ?_
        refine f_iast (pc := 156) cx hP hS (fv.at (by assumption) _) (fun _ => rfl) rfl (by omega) dd_M_hear_156 (fun H locs hP hS => ?_)
        exact k2 h114 _ _ (f_eqS hP e0) hS ls (lv_sub hl [0, 1, 2, 5, 6] rfl)
    · -- 114: f to 117
      refine lv_iconst (pc := 117) (v := 0) hx hb dd_M_hear_117 (by decide) ?_
      exact f_iret (pc := 118) cx hr hlocks hP hS (by rw [q_hrM, if_neg (by rw [h114]; decide)]) (by rw [e_hrM, if_neg (by rw [h114]; decide)]) dd_M_hear_118
  refine lv_aload_n (pc := 0) hx hb dd_M_hear_0 rfl (lv_at hl 0 rfl) ?_
  refine lv_iload_n (pc := 1) hx hb dd_M_hear_1 rfl (lv_at hl 1 rfl) ?_
  refine k_M_M_noClient (pc := 2) cx hl hP hS (by assumption) (ct_M_noClient l x _ ⟨w16, w23, w24, w25, w26, w27, w28, w29, w30, w31, w32, w33, w34, w35, w36, w37, w39, w40, w41, w42, w43, w44, w45, w46⟩ (nI c)) ⟨⟨rfl, rfl⟩, ⟨(Nat.le_of_ble_eq_true rfl), (Nat.le_of_ble_eq_true rfl)⟩, (Nat.le_of_ble_eq_true rfl), (Nat.le_of_ble_eq_true rfl)⟩ (Nat.le_of_ble_eq_true rfl) dd_M_hear_2 (fun H locs hP hS => ?_)
  refine f_neB (pc := 5) (tgt := 16) cx dd_M_hear_5 (by decide) (fun h5 => ?_) (fun h5 => ?_)
  · -- 5: t to 16
    exact absurd ((congrArg not (q_cl_in hc)).symm.trans h5) (by decide)
  · -- 5: f to 8
    refine lv_aload_n (pc := 8) hx hb dd_M_hear_8 rfl (lv_at hl 0 rfl) ?_
    refine lv_iload_n (pc := 9) hx hb dd_M_hear_9 rfl (lv_at hl 2 rfl) ?_
    refine k_M_M_noServer (pc := 10) cx hl hP hS (by assumption) (ct_M_noServer l x _ ⟨w16, w23, w24, w25, w26, w27, w28, w29, w30, w31, w32, w33, w34, w35, w36, w37, w39, w40, w41, w42, w43, w44, w45, w46⟩ (nI s0)) ⟨⟨rfl, rfl⟩, ⟨(Nat.le_of_ble_eq_true rfl), (Nat.le_of_ble_eq_true rfl)⟩, (Nat.le_of_ble_eq_true rfl), (Nat.le_of_ble_eq_true rfl)⟩ (Nat.le_of_ble_eq_true rfl) dd_M_hear_10 (fun H locs hP hS => ?_)
    refine f_eqB (pc := 13) (tgt := 18) cx dd_M_hear_13 (by decide) (fun h13 => ?_) (fun h13 => ?_)
    · -- 13: t to 18
      refine lv_aload_n (pc := 18) hx hb dd_M_hear_18 rfl (lv_at hl 0 rfl) ?_
      refine lv_iconst (pc := 19) (v := b2 true) hx hb dd_M_hear_19 (by decide) ?_
      refine lv_iload_n (pc := 20) hx hb dd_M_hear_20 rfl (lv_at hl 1 rfl) ?_
      refine lv_iload_n (pc := 21) hx hb dd_M_hear_21 rfl (lv_at hl 2 rfl) ?_
      refine lv_iload_n (pc := 22) hx hb dd_M_hear_22 rfl (lv_at hl 3 rfl) ?_
      refine k_M_M_seek (pc := 23) cx hl hP hS (by assumption) (ct_M_seek l x S ⟨w16, w23, w24, w25, w26, w27, w28, w29, w30, w31, w32, w33, w34, w35, w36, w37, w39, w40, w41, w42, w43, w44, w45, w46⟩ true c s0 j hl0) ⟨⟨rfl, rfl⟩, ⟨(Nat.le_of_ble_eq_true rfl), (Nat.le_of_ble_eq_true rfl)⟩, (Nat.le_of_ble_eq_true rfl), (Nat.le_of_ble_eq_true rfl)⟩ (Nat.le_of_ble_eq_true rfl) dd_M_hear_23 (fun H locs hP hS => ?_)
      refine f_topi (show oI (n_seek S true c s0 j) = nI at_ by rw [hq]; rfl) ?_
      refine lv_istore (pc := 26) (lv' := [(4, _), (0, _), (1, _), (2, _), (3, _)]) hx hb dd_M_hear_26 hl (Nat.le_of_ble_eq_true rfl) rfl (fun ls hl => ?_)
      refine lv_iload (pc := 28) hx hb dd_M_hear_28 (lv_at hl 0 rfl) ?_
      refine lv_if_ge (pc := 30) (tgt := 36) hx hb dd_M_hear_30 (by decide) (fun h30 => ?_) (fun h30 => ?_)
      · -- 30: t to 36
        refine lv_aload_n (pc := 36) hx hb dd_M_hear_36 rfl (lv_at hl 1 rfl) ?_
        refine g_M_M_phase (pc := 37) cx hP (by assumption) dd_M_hear_37 ?_
        refine lv_iload_n (pc := 40) hx hb dd_M_hear_40 rfl (lv_at hl 2 rfl) ?_
        refine f_iald (pc := 41) cx hP (fv.at (by assumption) _) rfl rfl (by omega) dd_M_hear_41 ?_
        refine lv_if_eq (pc := 42) (tgt := 76) hx hb dd_M_hear_42 (by decide) (fun h42 => ?_) (fun h42 => ?_)
        · -- 42: t to 76
          have e5 : b2 false = b2 (n_counts S c at_) := by unfold n_counts; simp [*]
          refine lv_iconst (pc := 76) (v := b2 false) hx hb dd_M_hear_76 (by decide) ?_
          refine lv_istore (pc := 77) (lv' := [(5, _), (4, _), (0, _), (1, _), (2, _), (3, _)]) hx hb dd_M_hear_77 hl (Nat.le_of_ble_eq_true rfl) rfl (fun ls hl => ?_)
          rw [e5] at hl
          exact k1 _ _ hP hS ls (lv_sub hl [0, 1, 2, 3] rfl)
        · -- 42: f to 45
          refine lv_aload_n (pc := 45) hx hb dd_M_hear_45 rfl (lv_at hl 1 rfl) ?_
          refine g_M_M_phase (pc := 46) cx hP (by assumption) dd_M_hear_46 ?_
          refine lv_iload_n (pc := 49) hx hb dd_M_hear_49 rfl (lv_at hl 2 rfl) ?_
          refine f_iald (pc := 50) cx hP (fv.at (by assumption) _) rfl rfl (by omega) dd_M_hear_50 ?_
          refine lv_bipush (pc := 51) (v := 6) hx hb dd_M_hear_51 (by decide) ?_
          refine lv_icmp_eq (pc := 53) (tgt := 76) hx hb dd_M_hear_53 (by decide) (fun h53 => ?_) (fun h53 => ?_)
          · -- 53: t to 76
            have e5 : b2 false = b2 (n_counts S c at_) := by unfold n_counts; simp [*]
            refine lv_iconst (pc := 76) (v := b2 false) hx hb dd_M_hear_76 (by decide) ?_
            refine lv_istore (pc := 77) (lv' := [(5, _), (4, _), (0, _), (1, _), (2, _), (3, _)]) hx hb dd_M_hear_77 hl (Nat.le_of_ble_eq_true rfl) rfl (fun ls hl => ?_)
            rw [e5] at hl
            exact k1 _ _ hP hS ls (lv_sub hl [0, 1, 2, 3] rfl)
          · -- 53: f to 56
            refine lv_aload_n (pc := 56) hx hb dd_M_hear_56 rfl (lv_at hl 1 rfl) ?_
            refine g_M_M_sent (pc := 57) cx hP (by assumption) dd_M_hear_57 ?_
            refine lv_iload (pc := 60) hx hb dd_M_hear_60 (lv_at hl 0 rfl) ?_
            refine f_iald (pc := 62) cx hP (fv.at (by assumption) _) rfl rfl hat2 dd_M_hear_62 ?_
            refine lv_aload_n (pc := 63) hx hb dd_M_hear_63 rfl (lv_at hl 1 rfl) ?_
            refine g_M_M_age (pc := 64) cx hP (by assumption) dd_M_hear_64 ?_
            refine lv_iload_n (pc := 67) hx hb dd_M_hear_67 rfl (lv_at hl 2 rfl) ?_
            refine f_iald (pc := 68) cx hP (fv.at (by assumption) _) rfl rfl (by omega) dd_M_hear_68 ?_
            refine lv_icmp_ne (pc := 69) (tgt := 76) hx hb dd_M_hear_69 (by decide) (fun h69 => ?_) (fun h69 => ?_)
            · -- 69: t to 76
              have e5 : b2 false = b2 (n_counts S c at_) := by unfold n_counts; simp [*]
              refine lv_iconst (pc := 76) (v := b2 false) hx hb dd_M_hear_76 (by decide) ?_
              refine lv_istore (pc := 77) (lv' := [(5, _), (4, _), (0, _), (1, _), (2, _), (3, _)]) hx hb dd_M_hear_77 hl (Nat.le_of_ble_eq_true rfl) rfl (fun ls hl => ?_)
              rw [e5] at hl
              exact k1 _ _ hP hS ls (lv_sub hl [0, 1, 2, 3] rfl)
            · -- 69: f to 72
              have e5 : b2 true = b2 (n_counts S c at_) := by unfold n_counts; simp [*]
              refine lv_iconst (pc := 72) (v := b2 true) hx hb dd_M_hear_72 (by decide) ?_
              refine lv_goto (pc := 73) (tgt := 77) hx hb dd_M_hear_73 (by decide) ?_
              refine lv_istore (pc := 77) (lv' := [(5, _), (4, _), (0, _), (1, _), (2, _), (3, _)]) hx hb dd_M_hear_77 hl (Nat.le_of_ble_eq_true rfl) rfl (fun ls hl => ?_)
              rw [e5] at hl
              exact k1 _ _ hP hS ls (lv_sub hl [0, 1, 2, 3] rfl)
      · -- 30: f to 33
        exact absurd (nI_pos' (by omega)) h30
    · -- 13: f to 16
      exact absurd ((congrArg not (q_sv_in hO hs)).symm.trans h13) (by decide)
