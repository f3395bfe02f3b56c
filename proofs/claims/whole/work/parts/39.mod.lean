-- contracts of the reference, by wip/whole/gen/c_mod3.py
set_option maxHeartbeats 4000000 in
set_option maxRecDepth 100000 in
theorem ct_M_phase_no (l : Launch) (x : fy) (S : fm) (hM : fM x) (z : Int32) (hz : q_cl z = false) : Met l mn_M_phase (gw_ws mn_M_phase cb_M_phase 2 (some .int)) ({ frames := 1, cells := 0, slots := 0, locals := 21 } : Room) (fPc x (S) [.ref (xa x 16 0), .int z]) (fQi x (S) (-1)) 0 0 (fun q => xs x ≤ q) := by
  refine f_met (by decide) (Nat.le_of_ble_eq_true rfl) ?_
  intro p e s m below meth c0 cx hr hlocks hnm hP hS ls hl
  have cx : fX rn_M cb_M_phase 2 p c0 s m [.ref (xa x 16 0), .int z].toArray x := cx
  have hx := cx.1.1
  have hb := cx.1.2.1
  have hl : lv_has ls 2 [(0, .ref (xa x 16 0)), (1, .int z)] := hl
  obtain ⟨w16, w23, w24, w25, w26, w27, w28, w29, w30, w31, w32, w33, w34, w35, w36, w37, w39, w40, w41, w42, w43, w44, w45, w46⟩ := hM
  refine lv_aload_n (pc := 0) hx hb dd_M_phase_0 rfl (lv_at hl 0 rfl) ?_
  refine lv_iload_n (pc := 1) hx hb dd_M_phase_1 rfl (lv_at hl 1 rfl) ?_
  refine k_M_M_noClient (pc := 2) cx hl hP hS (by assumption) (ct_M_noClient l x _ ⟨w16, w23, w24, w25, w26, w27, w28, w29, w30, w31, w32, w33, w34, w35, w36, w37, w39, w40, w41, w42, w43, w44, w45, w46⟩ z) ⟨⟨rfl, rfl⟩, ⟨(Nat.le_of_ble_eq_true rfl), (Nat.le_of_ble_eq_true rfl)⟩, (Nat.le_of_ble_eq_true rfl), (Nat.le_of_ble_eq_true rfl)⟩ (Nat.le_of_ble_eq_true rfl) dd_M_phase_2 (fun H locs hP hS => ?_)
  refine f_eqB (pc := 5) (tgt := 12) cx dd_M_phase_5 (by decide) (fun h5 => ?_) (fun h5 => ?_)
  · -- 5: t to 12
    exact absurd ((congrArg not hz).symm.trans h5) (by decide)
  · -- 5: f to 8
    refine lv_iconst (pc := 8) (v := (-1)) hx hb dd_M_phase_8 (by decide) ?_
    refine lv_goto (pc := 9) (tgt := 18) hx hb dd_M_phase_9 (by decide) ?_
    exact f_iret (pc := 18) cx hr hlocks hP hS rfl rfl dd_M_phase_18
set_option maxHeartbeats 4000000 in
set_option maxRecDepth 100000 in
theorem ct_M_phase (l : Launch) (x : fy) (S : fm) (hM : fM x) (c : Nat) (hc : c < 5) : Met l mn_M_phase (gw_ws mn_M_phase cb_M_phase 2 (some .int)) ({ frames := 1, cells := 0, slots := 0, locals := 21 } : Room) (fPc x (S) [.ref (xa x 16 0), .int (nI c)]) (fQi x (S) (mI S 23 0 c)) 0 0 (fun q => xs x ≤ q) := by
  refine f_met (by decide) (Nat.le_of_ble_eq_true rfl) ?_
  intro p e s m below meth c0 cx hr hlocks hnm hP hS ls hl
  have cx : fX rn_M cb_M_phase 2 p c0 s m [.ref (xa x 16 0), .int (nI c)].toArray x := cx
  have hx := cx.1.1
  have hb := cx.1.2.1
  have hl : lv_has ls 2 [(0, .ref (xa x 16 0)), (1, .int (nI c))] := hl
  obtain ⟨w16, w23, w24, w25, w26, w27, w28, w29, w30, w31, w32, w33, w34, w35, w36, w37, w39, w40, w41, w42, w43, w44, w45, w46⟩ := hM
  refine lv_aload_n (pc := 0) hx hb dd_M_phase_0 rfl (lv_at hl 0 rfl) ?_
  refine lv_iload_n (pc := 1) hx hb dd_M_phase_1 rfl (lv_at hl 1 rfl) ?_
  refine k_M_M_noClient (pc := 2) cx hl hP hS (by assumption) (ct_M_noClient l x _ ⟨w16, w23, w24, w25, w26, w27, w28, w29, w30, w31, w32, w33, w34, w35, w36, w37, w39, w40, w41, w42, w43, w44, w45, w46⟩ (nI c)) ⟨⟨rfl, rfl⟩, ⟨(Nat.le_of_ble_eq_true rfl), (Nat.le_of_ble_eq_true rfl)⟩, (Nat.le_of_ble_eq_true rfl), (Nat.le_of_ble_eq_true rfl)⟩ (Nat.le_of_ble_eq_true rfl) dd_M_phase_2 (fun H locs hP hS => ?_)
  refine f_eqB (pc := 5) (tgt := 12) cx dd_M_phase_5 (by decide) (fun h5 => ?_) (fun h5 => ?_)
  · -- 5: t to 12
    refine lv_aload_n (pc := 12) hx hb dd_M_phase_12 rfl (lv_at hl 0 rfl) ?_
    refine g_M_M_phase (pc := 13) cx hP (by assumption) dd_M_phase_13 ?_
    refine lv_iload_n (pc := 16) hx hb dd_M_phase_16 rfl (lv_at hl 1 rfl) ?_
    refine f_iald (pc := 17) cx hP (fv.at (by assumption) _) rfl rfl (by omega) dd_M_phase_17 ?_
    exact f_iret (pc := 18) cx hr hlocks hP hS rfl rfl dd_M_phase_18
  · -- 5: f to 8
    exact absurd ((congrArg not (q_cl_in hc)).symm.trans h5) (by decide)
set_option maxHeartbeats 4000000 in
set_option maxRecDepth 100000 in
theorem ct_M_heard_no (l : Launch) (x : fy) (S : fm) (hM : fM x) (z : Int32) (hz : q_cl z = false) : Met l mn_M_heard (gw_ws mn_M_heard cb_M_heard 2 (some .int)) ({ frames := 1, cells := 0, slots := 0, locals := 21 } : Room) (fPc x (S) [.ref (xa x 16 0), .int z]) (fQi x (S) (-1)) 0 0 (fun q => xs x ≤ q) := by
  refine f_met (by decide) (Nat.le_of_ble_eq_true rfl) ?_
  intro p e s m below meth c0 cx hr hlocks hnm hP hS ls hl
  have cx : fX rn_M cb_M_heard 2 p c0 s m [.ref (xa x 16 0), .int z].toArray x := cx
  have hx := cx.1.1
  have hb := cx.1.2.1
  have hl : lv_has ls 2 [(0, .ref (xa x 16 0)), (1, .int z)] := hl
  obtain ⟨w16, w23, w24, w25, w26, w27, w28, w29, w30, w31, w32, w33, w34, w35, w36, w37, w39, w40, w41, w42, w43, w44, w45, w46⟩ := hM
  refine lv_aload_n (pc := 0) hx hb dd_M_heard_0 rfl (lv_at hl 0 rfl) ?_
  refine lv_iload_n (pc := 1) hx hb dd_M_heard_1 rfl (lv_at hl 1 rfl) ?_
  refine k_M_M_noClient (pc := 2) cx hl hP hS (by assumption) (ct_M_noClient l x _ ⟨w16, w23, w24, w25, w26, w27, w28, w29, w30, w31, w32, w33, w34, w35, w36, w37, w39, w40, w41, w42, w43, w44, w45, w46⟩ z) ⟨⟨rfl, rfl⟩, ⟨(Nat.le_of_ble_eq_true rfl), (Nat.le_of_ble_eq_true rfl)⟩, (Nat.le_of_ble_eq_true rfl), (Nat.le_of_ble_eq_true rfl)⟩ (Nat.le_of_ble_eq_true rfl) dd_M_heard_2 (fun H locs hP hS => ?_)
  refine f_eqB (pc := 5) (tgt := 12) cx dd_M_heard_5 (by decide) (fun h5 => ?_) (fun h5 => ?_)
  · -- 5: t to 12
    exact absurd ((congrArg not hz).symm.trans h5) (by decide)
  · -- 5: f to 8
    refine lv_iconst (pc := 8) (v := (-1)) hx hb dd_M_heard_8 (by decide) ?_
    refine lv_goto (pc := 9) (tgt := 42) hx hb dd_M_heard_9 (by decide) ?_
    exact f_iret (pc := 42) cx hr hlocks hP hS rfl rfl dd_M_heard_42
set_option maxHeartbeats 4000000 in
set_option maxRecDepth 100000 in
theorem ct_M_heard (l : Launch) (x : fy) (S : fm) (hM : fM x) (c : Nat) (hc : c < 5) : Met l mn_M_heard (gw_ws mn_M_heard cb_M_heard 2 (some .int)) ({ frames := 1, cells := 0, slots := 0, locals := 21 } : Room) (fPc x (S) [.ref (xa x 16 0), .int (nI c)]) (fQi x (S) (if mI S 23 0 c = 0 ∨ mI S 23 0 c = 6 then 0 else mI S 25 0 c)) 0 0 (fun q => xs x ≤ q) := by
  refine f_met (by decide) (Nat.le_of_ble_eq_true rfl) ?_
  intro p e s m below meth c0 cx hr hlocks hnm hP hS ls hl
  have cx : fX rn_M cb_M_heard 2 p c0 s m [.ref (xa x 16 0), .int (nI c)].toArray x := cx
  have hx := cx.1.1
  have hb := cx.1.2.1
  have hl : lv_has ls 2 [(0, .ref (xa x 16 0)), (1, .int (nI c))] := hl
  obtain ⟨w16, w23, w24, w25, w26, w27, w28, w29, w30, w31, w32, w33, w34, w35, w36, w37, w39, w40, w41, w42, w43, w44, w45, w46⟩ := hM
  refine lv_aload_n (pc := 0) hx hb dd_M_heard_0 rfl (lv_at hl 0 rfl) ?_
  refine lv_iload_n (pc := 1) hx hb dd_M_heard_1 rfl (lv_at hl 1 rfl) ?_
  refine k_M_M_noClient (pc := 2) cx hl hP hS (by assumption) (ct_M_noClient l x _ ⟨w16, w23, w24, w25, w26, w27, w28, w29, w30, w31, w32, w33, w34, w35, w36, w37, w39, w40, w41, w42, w43, w44, w45, w46⟩ (nI c)) ⟨⟨rfl, rfl⟩, ⟨(Nat.le_of_ble_eq_true rfl), (Nat.le_of_ble_eq_true rfl)⟩, (Nat.le_of_ble_eq_true rfl), (Nat.le_of_ble_eq_true rfl)⟩ (Nat.le_of_ble_eq_true rfl) dd_M_heard_2 (fun H locs hP hS => ?_)
  refine f_eqB (pc := 5) (tgt := 12) cx dd_M_heard_5 (by decide) (fun h5 => ?_) (fun h5 => ?_)
  · -- 5: t to 12
    refine lv_aload_n (pc := 12) hx hb dd_M_heard_12 rfl (lv_at hl 0 rfl) ?_
    refine g_M_M_phase (pc := 13) cx hP (by assumption) dd_M_heard_13 ?_
    refine lv_iload_n (pc := 16) hx hb dd_M_heard_16 rfl (lv_at hl 1 rfl) ?_
    refine f_iald (pc := 17) cx hP (fv.at (by assumption) _) rfl rfl (by omega) dd_M_heard_17 ?_
    refine lv_if_eq (pc := 18) (tgt := 32) hx hb dd_M_heard_18 (by decide) (fun h18 => ?_) (fun h18 => ?_)
    · -- 18: t to 32
      refine lv_iconst (pc := 32) (v := 0) hx hb dd_M_heard_32 (by decide) ?_
      refine lv_goto (pc := 33) (tgt := 42) hx hb dd_M_heard_33 (by decide) ?_
      exact f_iret (pc := 42) cx hr hlocks hP hS (by simp [*]) rfl dd_M_heard_42
    · -- 18: f to 21
      refine lv_aload_n (pc := 21) hx hb dd_M_heard_21 rfl (lv_at hl 0 rfl) ?_
      refine g_M_M_phase (pc := 22) cx hP (by assumption) dd_M_heard_22 ?_
      refine lv_iload_n (pc := 25) hx hb dd_M_heard_25 rfl (lv_at hl 1 rfl) ?_
      refine f_iald (pc := 26) cx hP (fv.at (by assumption) _) rfl rfl (by omega) dd_M_heard_26 ?_
      refine lv_bipush (pc := 27) (v := 6) hx hb dd_M_heard_27 (by decide) ?_
      refine lv_icmp_ne (pc := 29) (tgt := 36) hx hb dd_M_heard_29 (by decide) (fun h29 => ?_) (fun h29 => ?_)
      · -- 29: t to 36
        refine lv_aload_n (pc := 36) hx hb dd_M_heard_36 rfl (lv_at hl 0 rfl) ?_
        refine g_M_M_counted (pc := 37) cx hP (by assumption) dd_M_heard_37 ?_
        refine lv_iload_n (pc := 40) hx hb dd_M_heard_40 rfl (lv_at hl 1 rfl) ?_
        refine f_iald (pc := 41) cx hP (fv.at (by assumption) _) rfl rfl (by omega) dd_M_heard_41 ?_
        exact f_iret (pc := 42) cx hr hlocks hP hS (by simp [*]) rfl dd_M_heard_42
      · -- 29: f to 32
        refine lv_iconst (pc := 32) (v := 0) hx hb dd_M_heard_32 (by decide) ?_
        refine lv_goto (pc := 33) (tgt := 42) hx hb dd_M_heard_33 (by decide) ?_
        exact f_iret (pc := 42) cx hr hlocks hP hS (by simp [*]) rfl dd_M_heard_42
  · -- 5: f to 8
    exact absurd ((congrArg not (q_cl_in hc)).symm.trans h5) (by decide)
set_option maxHeartbeats 4000000 in
set_option maxRecDepth 100000 in
theorem ct_M_tag_no (l : Launch) (x : fy) (S : fm) (hM : fM x) (z : Int32) (hz : q_cl z = false) : Met l mn_M_tag (gw_ws mn_M_tag cb_M_tag 2 (some .int)) ({ frames := 1, cells := 0, slots := 0, locals := 21 } : Room) (fPc x (S) [.ref (xa x 16 0), .int z]) (fQi x (S) (-1)) 0 0 (fun q => xs x ≤ q) := by
  refine f_met (by decide) (Nat.le_of_ble_eq_true rfl) ?_
  intro p e s m below meth c0 cx hr hlocks hnm hP hS ls hl
  have cx : fX rn_M cb_M_tag 2 p c0 s m [.ref (xa x 16 0), .int z].toArray x := cx
  have hx := cx.1.1
  have hb := cx.1.2.1
  have hl : lv_has ls 2 [(0, .ref (xa x 16 0)), (1, .int z)] := hl
  obtain ⟨w16, w23, w24, w25, w26, w27, w28, w29, w30, w31, w32, w33, w34, w35, w36, w37, w39, w40, w41, w42, w43, w44, w45, w46⟩ := hM
  refine lv_aload_n (pc := 0) hx hb dd_M_tag_0 rfl (lv_at hl 0 rfl) ?_
  refine lv_iload_n (pc := 1) hx hb dd_M_tag_1 rfl (lv_at hl 1 rfl) ?_
  refine k_M_M_noClient (pc := 2) cx hl hP hS (by assumption) (ct_M_noClient l x _ ⟨w16, w23, w24, w25, w26, w27, w28, w29, w30, w31, w32, w33, w34, w35, w36, w37, w39, w40, w41, w42, w43, w44, w45, w46⟩ z) ⟨⟨rfl, rfl⟩, ⟨(Nat.le_of_ble_eq_true rfl), (Nat.le_of_ble_eq_true rfl)⟩, (Nat.le_of_ble_eq_true rfl), (Nat.le_of_ble_eq_true rfl)⟩ (Nat.le_of_ble_eq_true rfl) dd_M_tag_2 (fun H locs hP hS => ?_)
  refine f_eqB (pc := 5) (tgt := 12) cx dd_M_tag_5 (by decide) (fun h5 => ?_) (fun h5 => ?_)
  · -- 5: t to 12
    exact absurd ((congrArg not hz).symm.trans h5) (by decide)
  · -- 5: f to 8
    refine lv_iconst (pc := 8) (v := (-1)) hx hb dd_M_tag_8 (by decide) ?_
    refine lv_goto (pc := 9) (tgt := 18) hx hb dd_M_tag_9 (by decide) ?_
    exact f_iret (pc := 18) cx hr hlocks hP hS rfl rfl dd_M_tag_18
set_option maxHeartbeats 4000000 in
set_option maxRecDepth 100000 in
theorem ct_M_tag (l : Launch) (x : fy) (S : fm) (hM : fM x) (c : Nat) (hc : c < 5) : Met l mn_M_tag (gw_ws mn_M_tag cb_M_tag 2 (some .int)) ({ frames := 1, cells := 0, slots := 0, locals := 21 } : Room) (fPc x (S) [.ref (xa x 16 0), .int (nI c)]) (fQi x (S) (mI S 28 0 c)) 0 0 (fun q => xs x ≤ q) := by
  refine f_met (by decide) (Nat.le_of_ble_eq_true rfl) ?_
  intro p e s m below meth c0 cx hr hlocks hnm hP hS ls hl
  have cx : fX rn_M cb_M_tag 2 p c0 s m [.ref (xa x 16 0), .int (nI c)].toArray x := cx
  have hx := cx.1.1
  have hb := cx.1.2.1
  have hl : lv_has ls 2 [(0, .ref (xa x 16 0)), (1, .int (nI c))] := hl
  obtain ⟨w16, w23, w24, w25, w26, w27, w28, w29, w30, w31, w32, w33, w34, w35, w36, w37, w39, w40, w41, w42, w43, w44, w45, w46⟩ := hM
  refine lv_aload_n (pc := 0) hx hb dd_M_tag_0 rfl (lv_at hl 0 rfl) ?_
  refine lv_iload_n (pc := 1) hx hb dd_M_tag_1 rfl (lv_at hl 1 rfl) ?_
  refine k_M_M_noClient (pc := 2) cx hl hP hS (by assumption) (ct_M_noClient l x _ ⟨w16, w23, w24, w25, w26, w27, w28, w29, w30, w31, w32, w33, w34, w35, w36, w37, w39, w40, w41, w42, w43, w44, w45, w46⟩ (nI c)) ⟨⟨rfl, rfl⟩, ⟨(Nat.le_of_ble_eq_true rfl), (Nat.le_of_ble_eq_true rfl)⟩, (Nat.le_of_ble_eq_true rfl), (Nat.le_of_ble_eq_true rfl)⟩ (Nat.le_of_ble_eq_true rfl) dd_M_tag_2 (fun H locs hP hS => ?_)
  refine f_eqB (pc := 5) (tgt := 12) cx dd_M_tag_5 (by decide) (fun h5 => ?_) (fun h5 => ?_)
  · -- 5: t to 12
    refine lv_aload_n (pc := 12) hx hb dd_M_tag_12 rfl (lv_at hl 0 rfl) ?_
    refine g_M_M_tags (pc := 13) cx hP (by assumption) dd_M_tag_13 ?_
    refine lv_iload_n (pc := 16) hx hb dd_M_tag_16 rfl (lv_at hl 1 rfl) ?_
    refine f_iald (pc := 17) cx hP (fv.at (by assumption) _) rfl rfl (by omega) dd_M_tag_17 ?_
    exact f_iret (pc := 18) cx hr hlocks hP hS rfl rfl dd_M_tag_18
  · -- 5: f to 8
    exact absurd ((congrArg not (q_cl_in hc)).symm.trans h5) (by decide)
set_option maxHeartbeats 4000000 in
set_option maxRecDepth 100000 in
theorem ct_M_result_no (l : Launch) (x : fy) (S : fm) (hM : fM x) (z : Int32) (hz : q_cl z = false) : Met l mn_M_result (gw_ws mn_M_result cb_M_result 2 (some .long)) ({ frames := 1, cells := 0, slots := 0, locals := 21 } : Room) (fPc x (S) [.ref (xa x 16 0), .int z]) (fQl x (S) (0)) 0 0 (fun q => xs x ≤ q) := by
  refine f_met (by decide) (Nat.le_of_ble_eq_true rfl) ?_
  intro p e s m below meth c0 cx hr hlocks hnm hP hS ls hl
  have cx : fX rn_M cb_M_result 2 p c0 s m [.ref (xa x 16 0), .int z].toArray x := cx
  have hx := cx.1.1
  have hb := cx.1.2.1
  have hl : lv_has ls 2 [(0, .ref (xa x 16 0)), (1, .int z)] := hl
  obtain ⟨w16, w23, w24, w25, w26, w27, w28, w29, w30, w31, w32, w33, w34, w35, w36, w37, w39, w40, w41, w42, w43, w44, w45, w46⟩ := hM
  refine lv_aload_n (pc := 0) hx hb dd_M_result_0 rfl (lv_at hl 0 rfl) ?_
  refine lv_iload_n (pc := 1) hx hb dd_M_result_1 rfl (lv_at hl 1 rfl) ?_
  refine k_M_M_noClient (pc := 2) cx hl hP hS (by assumption) (ct_M_noClient l x _ ⟨w16, w23, w24, w25, w26, w27, w28, w29, w30, w31, w32, w33, w34, w35, w36, w37, w39, w40, w41, w42, w43, w44, w45, w46⟩ z) ⟨⟨rfl, rfl⟩, ⟨(Nat.le_of_ble_eq_true rfl), (Nat.le_of_ble_eq_true rfl)⟩, (Nat.le_of_ble_eq_true rfl), (Nat.le_of_ble_eq_true rfl)⟩ (Nat.le_of_ble_eq_true rfl) dd_M_result_2 (fun H locs hP hS => ?_)
  refine f_eqB (pc := 5) (tgt := 12) cx dd_M_result_5 (by decide) (fun h5 => ?_) (fun h5 => ?_)
  · -- 5: t to 12
    exact absurd ((congrArg not hz).symm.trans h5) (by decide)
  · -- 5: f to 8
    refine lv_lconst (pc := 8) (v := 0) hx hb dd_M_result_8 (by decide) ?_
    refine lv_goto (pc := 9) (tgt := 18) hx hb dd_M_result_9 (by decide) ?_
    exact f_lret (pc := 18) cx hr hlocks hP hS rfl rfl dd_M_result_18
set_option maxHeartbeats 4000000 in
set_option maxRecDepth 100000 in
theorem ct_M_result (l : Launch) (x : fy) (S : fm) (hM : fM x) (c : Nat) (hc : c < 5) : Met l mn_M_result (gw_ws mn_M_result cb_M_result 2 (some .long)) ({ frames := 1, cells := 0, slots := 0, locals := 21 } : Room) (fPc x (S) [.ref (xa x 16 0), .int (nI c)]) (fQl x (S) (mJ S 32 0 c)) 0 0 (fun q => xs x ≤ q) := by
  refine f_met (by decide) (Nat.le_of_ble_eq_true rfl) ?_
  intro p e s m below meth c0 cx hr hlocks hnm hP hS ls hl
  have cx : fX rn_M cb_M_result 2 p c0 s m [.ref (xa x 16 0), .int (nI c)].toArray x := cx
  have hx := cx.1.1
  have hb := cx.1.2.1
  have hl : lv_has ls 2 [(0, .ref (xa x 16 0)), (1, .int (nI c))] := hl
  obtain ⟨w16, w23, w24, w25, w26, w27, w28, w29, w30, w31, w32, w33, w34, w35, w36, w37, w39, w40, w41, w42, w43, w44, w45, w46⟩ := hM
  refine lv_aload_n (pc := 0) hx hb dd_M_result_0 rfl (lv_at hl 0 rfl) ?_
  refine lv_iload_n (pc := 1) hx hb dd_M_result_1 rfl (lv_at hl 1 rfl) ?_
  refine k_M_M_noClient (pc := 2) cx hl hP hS (by assumption) (ct_M_noClient l x _ ⟨w16, w23, w24, w25, w26, w27, w28, w29, w30, w31, w32, w33, w34, w35, w36, w37, w39, w40, w41, w42, w43, w44, w45, w46⟩ (nI c)) ⟨⟨rfl, rfl⟩, ⟨(Nat.le_of_ble_eq_true rfl), (Nat.le_of_ble_eq_true rfl)⟩, (Nat.le_of_ble_eq_true rfl), (Nat.le_of_ble_eq_true rfl)⟩ (Nat.le_of_ble_eq_true rfl) dd_M_result_2 (fun H locs hP hS => ?_)
  refine f_eqB (pc := 5) (tgt := 12) cx dd_M_result_5 (by decide) (fun h5 => ?_) (fun h5 => ?_)
  · -- 5: t to 12
    refine lv_aload_n (pc := 12) hx hb dd_M_result_12 rfl (lv_at hl 0 rfl) ?_
    refine g_M_M_results (pc := 13) cx hP (by assumption) dd_M_result_13 ?_
    refine lv_iload_n (pc := 16) hx hb dd_M_result_16 rfl (lv_at hl 1 rfl) ?_
    refine f_lald (pc := 17) cx hP (fv.at (by assumption) _) rfl rfl (by omega) dd_M_result_17 ?_
    exact f_lret (pc := 18) cx hr hlocks hP hS rfl rfl dd_M_result_18
  · -- 5: f to 8
    exact absurd ((congrArg not (q_cl_in hc)).symm.trans h5) (by decide)
set_option maxHeartbeats 4000000 in
set_option maxRecDepth 100000 in
theorem ct_M_finished_no (l : Launch) (x : fy) (S : fm) (hM : fM x) (z : Int32) (hz : q_cl z = false) : Met l mn_M_finished (gw_ws mn_M_finished cb_M_finished 2 (some .int)) ({ frames := 1, cells := 0, slots := 0, locals := 21 } : Room) (fPc x (S) [.ref (xa x 16 0), .int z]) (fQi x (S) (-1)) 0 0 (fun q => xs x ≤ q) := by
  refine f_met (by decide) (Nat.le_of_ble_eq_true rfl) ?_
  intro p e s m below meth c0 cx hr hlocks hnm hP hS ls hl
  have cx : fX rn_M cb_M_finished 2 p c0 s m [.ref (xa x 16 0), .int z].toArray x := cx
  have hx := cx.1.1
  have hb := cx.1.2.1
  have hl : lv_has ls 2 [(0, .ref (xa x 16 0)), (1, .int z)] := hl
  obtain ⟨w16, w23, w24, w25, w26, w27, w28, w29, w30, w31, w32, w33, w34, w35, w36, w37, w39, w40, w41, w42, w43, w44, w45, w46⟩ := hM
  refine lv_aload_n (pc := 0) hx hb dd_M_finished_0 rfl (lv_at hl 0 rfl) ?_
  refine lv_iload_n (pc := 1) hx hb dd_M_finished_1 rfl (lv_at hl 1 rfl) ?_
  refine k_M_M_noClient (pc := 2) cx hl hP hS (by assumption) (ct_M_noClient l x _ ⟨w16, w23, w24, w25, w26, w27, w28, w29, w30, w31, w32, w33, w34, w35, w36, w37, w39, w40, w41, w42, w43, w44, w45, w46⟩ z) ⟨⟨rfl, rfl⟩, ⟨(Nat.le_of_ble_eq_true rfl), (Nat.le_of_ble_eq_true rfl)⟩, (Nat.le_of_ble_eq_true rfl), (Nat.le_of_ble_eq_true rfl)⟩ (Nat.le_of_ble_eq_true rfl) dd_M_finished_2 (fun H locs hP hS => ?_)
  refine f_eqB (pc := 5) (tgt := 12) cx dd_M_finished_5 (by decide) (fun h5 => ?_) (fun h5 => ?_)
  · -- 5: t to 12
    exact absurd ((congrArg not hz).symm.trans h5) (by decide)
  · -- 5: f to 8
    refine lv_iconst (pc := 8) (v := (-1)) hx hb dd_M_finished_8 (by decide) ?_
    refine lv_goto (pc := 9) (tgt := 18) hx hb dd_M_finished_9 (by decide) ?_
    exact f_iret (pc := 18) cx hr hlocks hP hS rfl rfl dd_M_finished_18
set_option maxHeartbeats 4000000 in
set_option maxRecDepth 100000 in
theorem ct_M_finished (l : Launch) (x : fy) (S : fm) (hM : fM x) (c : Nat) (hc : c < 5) : Met l mn_M_finished (gw_ws mn_M_finished cb_M_finished 2 (some .int)) ({ frames := 1, cells := 0, slots := 0, locals := 21 } : Room) (fPc x (S) [.ref (xa x 16 0), .int (nI c)]) (fQi x (S) (mI S 29 0 c)) 0 0 (fun q => xs x ≤ q) := by
  refine f_met (by decide) (Nat.le_of_ble_eq_true rfl) ?_
  intro p e s m below meth c0 cx hr hlocks hnm hP hS ls hl
  have cx : fX rn_M cb_M_finished 2 p c0 s m [.ref (xa x 16 0), .int (nI c)].toArray x := cx
  have hx := cx.1.1
  have hb := cx.1.2.1
  have hl : lv_has ls 2 [(0, .ref (xa x 16 0)), (1, .int (nI c))] := hl
  obtain ⟨w16, w23, w24, w25, w26, w27, w28, w29, w30, w31, w32, w33, w34, w35, w36, w37, w39, w40, w41, w42, w43, w44, w45, w46⟩ := hM
  refine lv_aload_n (pc := 0) hx hb dd_M_finished_0 rfl (lv_at hl 0 rfl) ?_
  refine lv_iload_n (pc := 1) hx hb dd_M_finished_1 rfl (lv_at hl 1 rfl) ?_
  refine k_M_M_noClient (pc := 2) cx hl hP hS (by assumption) (ct_M_noClient l x _ ⟨w16, w23, w24, w25, w26, w27, w28, w29, w30, w31, w32, w33, w34, w35, w36, w37, w39, w40, w41, w42, w43, w44, w45, w46⟩ (nI c)) ⟨⟨rfl, rfl⟩, ⟨(Nat.le_of_ble_eq_true rfl), (Nat.le_of_ble_eq_true rfl)⟩, (Nat.le_of_ble_eq_true rfl), (Nat.le_of_ble_eq_true rfl)⟩ (Nat.le_of_ble_eq_true rfl) dd_M_finished_2 (fun H locs hP hS => ?_)
  refine f_eqB (pc := 5) (tgt := 12) cx dd_M_finished_5 (by decide) (fun h5 => ?_) (fun h5 => ?_)
  · -- 5: t to 12
    refine lv_aload_n (pc := 12) hx hb dd_M_finished_12 rfl (lv_at hl 0 rfl) ?_
    refine g_M_M_ends (pc := 13) cx hP (by assumption) dd_M_finished_13 ?_
    refine lv_iload_n (pc := 16) hx hb dd_M_finished_16 rfl (lv_at hl 1 rfl) ?_
    refine f_iald (pc := 17) cx hP (fv.at (by assumption) _) rfl rfl (by omega) dd_M_finished_17 ?_
    exact f_iret (pc := 18) cx hr hlocks hP hS rfl rfl dd_M_finished_18
  · -- 5: f to 8
    exact absurd ((congrArg not (q_cl_in hc)).symm.trans h5) (by decide)
set_option maxHeartbeats 4000000 in
set_option maxRecDepth 100000 in
theorem ct_M_held_no (l : Launch) (x : fy) (S : fm) (hM : fM x) (z : Int32) (hz : q_sv x z = false) : Met l mn_M_held (gw_ws mn_M_held cb_M_held 2 (some .int)) ({ frames := 1, cells := 0, slots := 0, locals := 21 } : Room) (fPc x (S) [.ref (xa x 16 0), .int z]) (fQi x (S) (-1)) 0 0 (fun q => xs x ≤ q) := by
  refine f_met (by decide) (Nat.le_of_ble_eq_true rfl) ?_
  intro p e s m below meth c0 cx hr hlocks hnm hP hS ls hl
  have cx : fX rn_M cb_M_held 2 p c0 s m [.ref (xa x 16 0), .int z].toArray x := cx
  have hx := cx.1.1
  have hb := cx.1.2.1
  have hl : lv_has ls 2 [(0, .ref (xa x 16 0)), (1, .int z)] := hl
  obtain ⟨w16, w23, w24, w25, w26, w27, w28, w29, w30, w31, w32, w33, w34, w35, w36, w37, w39, w40, w41, w42, w43, w44, w45, w46⟩ := hM
  refine lv_aload_n (pc := 0) hx hb dd_M_held_0 rfl (lv_at hl 0 rfl) ?_
  refine lv_iload_n (pc := 1) hx hb dd_M_held_1 rfl (lv_at hl 1 rfl) ?_
  refine k_M_M_noServer (pc := 2) cx hl hP hS (by assumption) (ct_M_noServer l x _ ⟨w16, w23, w24, w25, w26, w27, w28, w29, w30, w31, w32, w33, w34, w35, w36, w37, w39, w40, w41, w42, w43, w44, w45, w46⟩ z) ⟨⟨rfl, rfl⟩, ⟨(Nat.le_of_ble_eq_true rfl), (Nat.le_of_ble_eq_true rfl)⟩, (Nat.le_of_ble_eq_true rfl), (Nat.le_of_ble_eq_true rfl)⟩ (Nat.le_of_ble_eq_true rfl) dd_M_held_2 (fun H locs hP hS => ?_)
  refine f_eqB (pc := 5) (tgt := 12) cx dd_M_held_5 (by decide) (fun h5 => ?_) (fun h5 => ?_)
  · -- 5: t to 12
    exact absurd ((congrArg not hz).symm.trans h5) (by decide)
  · -- 5: f to 8
    refine lv_iconst (pc := 8) (v := (-1)) hx hb dd_M_held_8 (by decide) ?_
    refine lv_goto (pc := 9) (tgt := 18) hx hb dd_M_held_9 (by decide) ?_
    exact f_iret (pc := 18) cx hr hlocks hP hS rfl rfl dd_M_held_18
set_option maxHeartbeats 4000000 in
set_option maxRecDepth 100000 in
theorem ct_M_held (l : Launch) (x : fy) (S : fm) (hM : fM x) (s0 : Nat) (hs : s0 < xN x) (hO : fO x)  : Met l mn_M_held (gw_ws mn_M_held cb_M_held 2 (some .int)) ({ frames := 1, cells := 0, slots := 0, locals := 21 } : Room) (fPc x (S) [.ref (xa x 16 0), .int (nI s0)]) (fQi x (S) (nI (mU S 35 0 s0))) 0 0 (fun q => xs x ≤ q) := by
  refine f_met (by decide) (Nat.le_of_ble_eq_true rfl) ?_
  intro p e s m below meth c0 cx hr hlocks hnm hP hS ls hl
  have cx : fX rn_M cb_M_held 2 p c0 s m [.ref (xa x 16 0), .int (nI s0)].toArray x := cx
  have hx := cx.1.1
  have hb := cx.1.2.1
  have hl : lv_has ls 2 [(0, .ref (xa x 16 0)), (1, .int (nI s0))] := hl
  obtain ⟨w16, w23, w24, w25, w26, w27, w28, w29, w30, w31, w32, w33, w34, w35, w36, w37, w39, w40, w41, w42, w43, w44, w45, w46⟩ := hM
  have hN : xN x ≤ 7 := hO.2.2.2.1
  refine lv_aload_n (pc := 0) hx hb dd_M_held_0 rfl (lv_at hl 0 rfl) ?_
  refine lv_iload_n (pc := 1) hx hb dd_M_held_1 rfl (lv_at hl 1 rfl) ?_
  refine k_M_M_noServer (pc := 2) cx hl hP hS (by assumption) (ct_M_noServer l x _ ⟨w16, w23, w24, w25, w26, w27, w28, w29, w30, w31, w32, w33, w34, w35, w36, w37, w39, w40, w41, w42, w43, w44, w45, w46⟩ (nI s0)) ⟨⟨rfl, rfl⟩, ⟨(Nat.le_of_ble_eq_true rfl), (Nat.le_of_ble_eq_true rfl)⟩, (Nat.le_of_ble_eq_true rfl), (Nat.le_of_ble_eq_true rfl)⟩ (Nat.le_of_ble_eq_true rfl) dd_M_held_2 (fun H locs hP hS => ?_)
  refine f_eqB (pc := 5) (tgt := 12) cx dd_M_held_5 (by decide) (fun h5 => ?_) (fun h5 => ?_)
  · -- 5: t to 12
    refine lv_aload_n (pc := 12) hx hb dd_M_held_12 rfl (lv_at hl 0 rfl) ?_
    refine g_M_M_many (pc := 13) cx hP (by assumption) dd_M_held_13 ?_
    refine lv_iload_n (pc := 16) hx hb dd_M_held_16 rfl (lv_at hl 1 rfl) ?_
    refine f_iald (pc := 17) cx hP (fv.at (by assumption) _) rfl rfl (by omega) dd_M_held_17 ?_
    exact f_iret (pc := 18) cx hr hlocks hP hS rfl rfl dd_M_held_18
  · -- 5: f to 8
    exact absurd ((congrArg not (q_sv_in hO hs)).symm.trans h5) (by decide)
set_option maxHeartbeats 4000000 in
set_option maxRecDepth 100000 in
theorem ct_M_seal_no (l : Launch) (x : fy) (S : fm) (hM : fM x) (z : Int32) (hz : q_sv x z = false) : Met l mn_M_seal (gw_ws mn_M_seal cb_M_seal 2 (some .int)) ({ frames := 1, cells := 0, slots := 0, locals := 21 } : Room) (fPc x (S) [.ref (xa x 16 0), .int z]) (fQi x (S) (-1)) 0 0 (fun q => xs x ≤ q) := by
  refine f_met (by decide) (Nat.le_of_ble_eq_true rfl) ?_
  intro p e s m below meth c0 cx hr hlocks hnm hP hS ls hl
  have cx : fX rn_M cb_M_seal 2 p c0 s m [.ref (xa x 16 0), .int z].toArray x := cx
  have hx := cx.1.1
  have hb := cx.1.2.1
  have hl : lv_has ls 2 [(0, .ref (xa x 16 0)), (1, .int z)] := hl
  obtain ⟨w16, w23, w24, w25, w26, w27, w28, w29, w30, w31, w32, w33, w34, w35, w36, w37, w39, w40, w41, w42, w43, w44, w45, w46⟩ := hM
  refine lv_aload_n (pc := 0) hx hb dd_M_seal_0 rfl (lv_at hl 0 rfl) ?_
  refine lv_iload_n (pc := 1) hx hb dd_M_seal_1 rfl (lv_at hl 1 rfl) ?_
  refine k_M_M_noServer (pc := 2) cx hl hP hS (by assumption) (ct_M_noServer l x _ ⟨w16, w23, w24, w25, w26, w27, w28, w29, w30, w31, w32, w33, w34, w35, w36, w37, w39, w40, w41, w42, w43, w44, w45, w46⟩ z) ⟨⟨rfl, rfl⟩, ⟨(Nat.le_of_ble_eq_true rfl), (Nat.le_of_ble_eq_true rfl)⟩, (Nat.le_of_ble_eq_true rfl), (Nat.le_of_ble_eq_true rfl)⟩ (Nat.le_of_ble_eq_true rfl) dd_M_seal_2 (fun H locs hP hS => ?_)
  refine f_eqB (pc := 5) (tgt := 12) cx dd_M_seal_5 (by decide) (fun h5 => ?_) (fun h5 => ?_)
  · -- 5: t to 12
    exact absurd ((congrArg not hz).symm.trans h5) (by decide)
  · -- 5: f to 8
    refine lv_iconst (pc := 8) (v := (-1)) hx hb dd_M_seal_8 (by decide) ?_
    refine lv_goto (pc := 9) (tgt := 18) hx hb dd_M_seal_9 (by decide) ?_
    exact f_iret (pc := 18) cx hr hlocks hP hS rfl rfl dd_M_seal_18
set_option maxHeartbeats 4000000 in
set_option maxRecDepth 100000 in
theorem ct_M_seal (l : Launch) (x : fy) (S : fm) (hM : fM x) (s0 : Nat) (hs : s0 < xN x) (hO : fO x)  : Met l mn_M_seal (gw_ws mn_M_seal cb_M_seal 2 (some .int)) ({ frames := 1, cells := 0, slots := 0, locals := 21 } : Room) (fPc x (S) [.ref (xa x 16 0), .int (nI s0)]) (fQi x (S) (mI S 34 0 s0)) 0 0 (fun q => xs x ≤ q) := by
  refine f_met (by decide) (Nat.le_of_ble_eq_true rfl) ?_
  intro p e s m below meth c0 cx hr hlocks hnm hP hS ls hl
  have cx : fX rn_M cb_M_seal 2 p c0 s m [.ref (xa x 16 0), .int (nI s0)].toArray x := cx
  have hx := cx.1.1
  have hb := cx.1.2.1
  have hl : lv_has ls 2 [(0, .ref (xa x 16 0)), (1, .int (nI s0))] := hl
  obtain ⟨w16, w23, w24, w25, w26, w27, w28, w29, w30, w31, w32, w33, w34, w35, w36, w37, w39, w40, w41, w42, w43, w44, w45, w46⟩ := hM
  have hN : xN x ≤ 7 := hO.2.2.2.1
  refine lv_aload_n (pc := 0) hx hb dd_M_seal_0 rfl (lv_at hl 0 rfl) ?_
  refine lv_iload_n (pc := 1) hx hb dd_M_seal_1 rfl (lv_at hl 1 rfl) ?_
  refine k_M_M_noServer (pc := 2) cx hl hP hS (by assumption) (ct_M_noServer l x _ ⟨w16, w23, w24, w25, w26, w27, w28, w29, w30, w31, w32, w33, w34, w35, w36, w37, w39, w40, w41, w42, w43, w44, w45, w46⟩ (nI s0)) ⟨⟨rfl, rfl⟩, ⟨(Nat.le_of_ble_eq_true rfl), (Nat.le_of_ble_eq_true rfl)⟩, (Nat.le_of_ble_eq_true rfl), (Nat.le_of_ble_eq_true rfl)⟩ (Nat.le_of_ble_eq_true rfl) dd_M_seal_2 (fun H locs hP hS => ?_)
  refine f_eqB (pc := 5) (tgt := 12) cx dd_M_seal_5 (by decide) (fun h5 => ?_) (fun h5 => ?_)
  · -- 5: t to 12
    refine lv_aload_n (pc := 12) hx hb dd_M_seal_12 rfl (lv_at hl 0 rfl) ?_
    refine g_M_M_seals (pc := 13) cx hP (by assumption) dd_M_seal_13 ?_
    refine lv_iload_n (pc := 16) hx hb dd_M_seal_16 rfl (lv_at hl 1 rfl) ?_
    refine f_iald (pc := 17) cx hP (fv.at (by assumption) _) rfl rfl (by omega) dd_M_seal_17 ?_
    exact f_iret (pc := 18) cx hr hlocks hP hS rfl rfl dd_M_seal_18
  · -- 5: f to 8
    exact absurd ((congrArg not (q_sv_in hO hs)).symm.trans h5) (by decide)
set_option maxHeartbeats 4000000 in
set_option maxRecDepth 100000 in
theorem ct_M_stop_no (l : Launch) (x : fy) (S : fm) (hM : fM x) (z : Int32) (hz : q_cl z = false) : Met l mn_M_stop (gw_ws mn_M_stop cb_M_stop 2 (some .boolean)) ({ frames := 1, cells := 0, slots := 0, locals := 21 } : Room) (fPc x (S) [.ref (xa x 16 0), .int z]) (fQi x (S) (b2 (false))) 0 0 (fun q => xs x ≤ q) := by
  refine f_met (by decide) (Nat.le_of_ble_eq_true rfl) ?_
  intro p e s m below meth c0 cx hr hlocks hnm hP hS ls hl
  have cx : fX rn_M cb_M_stop 2 p c0 s m [.ref (xa x 16 0), .int z].toArray x := cx
  have hx := cx.1.1
  have hb := cx.1.2.1
  have hl : lv_has ls 2 [(0, .ref (xa x 16 0)), (1, .int z)] := hl
  obtain ⟨w16, w23, w24, w25, w26, w27, w28, w29, w30, w31, w32, w33, w34, w35, w36, w37, w39, w40, w41, w42, w43, w44, w45, w46⟩ := hM
  refine lv_aload_n (pc := 0) hx hb dd_M_stop_0 rfl (lv_at hl 0 rfl) ?_
  refine lv_iload_n (pc := 1) hx hb dd_M_stop_1 rfl (lv_at hl 1 rfl) ?_
  refine k_M_M_noClient (pc := 2) cx hl hP hS (by assumption) (ct_M_noClient l x _ ⟨w16, w23, w24, w25, w26, w27, w28, w29, w30, w31, w32, w33, w34, w35, w36, w37, w39, w40, w41, w42, w43, w44, w45, w46⟩ z) ⟨⟨rfl, rfl⟩, ⟨(Nat.le_of_ble_eq_true rfl), (Nat.le_of_ble_eq_true rfl)⟩, (Nat.le_of_ble_eq_true rfl), (Nat.le_of_ble_eq_true rfl)⟩ (Nat.le_of_ble_eq_true rfl) dd_M_stop_2 (fun H locs hP hS => ?_)
  refine f_neB (pc := 5) (tgt := 19) cx dd_M_stop_5 (by decide) (fun h5 => ?_) (fun h5 => ?_)
  · -- 5: t to 19
    refine lv_iconst (pc := 19) (v := 0) hx hb dd_M_stop_19 (by decide) ?_
    exact f_zret (pc := 20) cx hr hlocks hP hS rfl rfl dd_M_stop_20
  · -- 5: f to 8
    exact absurd ((congrArg not hz).symm.trans h5) (by decide)
set_option maxHeartbeats 4000000 in
set_option maxRecDepth 100000 in
theorem ct_M_stop (l : Launch) (x : fy) (S : fm) (hM : fM x) (c : Nat) (hc : c < 5) : Met l mn_M_stop (gw_ws mn_M_stop cb_M_stop 2 (some .boolean)) ({ frames := 1, cells := 0, slots := 0, locals := 21 } : Room) (fPc x (S) [.ref (xa x 16 0), .int (nI c)]) (fQi x (if mI S 23 0 c = 6 then S else sI S 23 0 c 6) (b2 (!decide (mI S 23 0 c = 6)))) 0 0 (fun q => xs x ≤ q) := by
  refine f_met (by decide) (Nat.le_of_ble_eq_true rfl) ?_
  intro p e s m below meth c0 cx hr hlocks hnm hP hS ls hl
  have cx : fX rn_M cb_M_stop 2 p c0 s m [.ref (xa x 16 0), .int (nI c)].toArray x := cx
  have hx := cx.1.1
  have hb := cx.1.2.1
  have hl : lv_has ls 2 [(0, .ref (xa x 16 0)), (1, .int (nI c))] := hl
  obtain ⟨w16, w23, w24, w25, w26, w27, w28, w29, w30, w31, w32, w33, w34, w35, w36, w37, w39, w40, w41, w42, w43, w44, w45, w46⟩ := hM
  refine lv_aload_n (pc := 0) hx hb dd_M_stop_0 rfl (lv_at hl 0 rfl) ?_
  refine lv_iload_n (pc := 1) hx hb dd_M_stop_1 rfl (lv_at hl 1 rfl) ?_
  refine k_M_M_noClient (pc := 2) cx hl hP hS (by assumption) (ct_M_noClient l x _ ⟨w16, w23, w24, w25, w26, w27, w28, w29, w30, w31, w32, w33, w34, w35, w36, w37, w39, w40, w41, w42, w43, w44, w45, w46⟩ (nI c)) ⟨⟨rfl, rfl⟩, ⟨(Nat.le_of_ble_eq_true rfl), (Nat.le_of_ble_eq_true rfl)⟩, (Nat.le_of_ble_eq_true rfl), (Nat.le_of_ble_eq_true rfl)⟩ (Nat.le_of_ble_eq_true rfl) dd_M_stop_2 (fun H locs hP hS => ?_)
  refine f_neB (pc := 5) (tgt := 19) cx dd_M_stop_5 (by decide) (fun h5 => ?_) (fun h5 => ?_)
  · -- 5: t to 19
    exact absurd ((congrArg not (q_cl_in hc)).symm.trans h5) (by decide)
  · -- 5: f to 8
    refine lv_aload_n (pc := 8) hx hb dd_M_stop_8 rfl (lv_at hl 0 rfl) ?_
    refine g_M_M_phase (pc := 9) cx hP (by assumption) dd_M_stop_9 ?_
    refine lv_iload_n (pc := 12) hx hb dd_M_stop_12 rfl (lv_at hl 1 rfl) ?_
    refine f_iald (pc := 13) cx hP (fv.at (by assumption) _) rfl rfl (by omega) dd_M_stop_13 ?_
    refine lv_bipush (pc := 14) (v := 6) hx hb dd_M_stop_14 (by decide) ?_
    refine lv_icmp_ne (pc := 16) (tgt := 21) hx hb dd_M_stop_16 (by decide) (fun h16 => ?_) (fun h16 => ?_)
    · -- 16: t to 21
      refine lv_aload_n (pc := 21) hx hb dd_M_stop_21 rfl (lv_at hl 0 rfl) ?_
      refine g_M_M_phase (pc := 22) cx hP (by assumption) dd_M_stop_22 ?_
      refine lv_iload_n (pc := 25) hx hb dd_M_stop_25 rfl (lv_at hl 1 rfl) ?_
      refine lv_bipush (pc := 26) (v := 6) hx hb dd_M_stop_26 (by decide) ?_
      refine f_iast (pc := 28) cx hP hS (fv.at (by assumption) _) (fun _ => rfl) rfl (by omega) dd_M_stop_28 (fun H locs hP hS => ?_)
      refine lv_iconst (pc := 29) (v := 1) hx hb dd_M_stop_29 (by decide) ?_
      exact f_zret (pc := 30) cx hr hlocks hP hS (by simp [b2, *]) (by simp [*]) dd_M_stop_30
    · -- 16: f to 19
      refine lv_iconst (pc := 19) (v := 0) hx hb dd_M_stop_19 (by decide) ?_
      exact f_zret (pc := 20) cx hr hlocks hP hS (by simp [b2, *]) (by simp [*]) dd_M_stop_20
set_option maxHeartbeats 4000000 in
set_option maxRecDepth 100000 in
theorem ct_M_crash_no (l : Launch) (x : fy) (S : fm) (hM : fM x) (z : Int32) (hz : q_sv x z = false) (hO : fO x) : Met l mn_M_crash (gw_ws mn_M_crash cb_M_crash 4 (some .boolean)) ({ frames := 1, cells := 0, slots := 0, locals := 22 } : Room) (fPc x (S) [.ref (xa x 16 0), .int z]) (fQi x (S) (b2 (false))) 0 0 (fun q => xs x ≤ q) := by
  refine f_met (by decide) (Nat.le_of_ble_eq_true rfl) ?_
  intro p e s m below meth c0 cx hr hlocks hnm hP hS ls hl
  have cx : fX rn_M cb_M_crash 4 p c0 s m [.ref (xa x 16 0), .int z].toArray x := cx
  have hx := cx.1.1
  have hb := cx.1.2.1
  have hl : lv_has ls 4 [(0, .ref (xa x 16 0)), (1, .int z)] := hl
  obtain ⟨w16, w23, w24, w25, w26, w27, w28, w29, w30, w31, w32, w33, w34, w35, w36, w37, w39, w40, w41, w42, w43, w44, w45, w46⟩ := hM
  have hN : xN x ≤ 7 := hO.2.2.2.1
  have loop : ∀ (n i : Nat), i + n = xN x → ∀ ls : Array Slot, lv_has ls 4 [(3, .int (nI i)), (2, .int (nI (n_gone S i))), (0, .ref (xa x 16 0)), (1, .int z)] → W p l e ({ frames := 1, cells := 0, slots := 0, locals := 22 } : Room) s m [.ref (xa x 16 0), .int z].toArray below meth c0 s.heap [] 0 0 (MQ below (fQi x (S) (b2 (false))) [.ref (xa x 16 0), .int z].toArray s 0 0 (fun q => xs x ≤ q)) (F0 m 4 ls []) := by
    intro n
    induction n with
    | zero =>
      intro i hi ls hl
      have hi : i = xN x := by omega
      subst hi
      have hgl := n_gone_le S (xN x)
      refine lv_iload_n (pc := 4) hx hb dd_M_crash_4 rfl (lv_at hl 0 rfl) ?_
      refine lv_aload_n (pc := 5) hx hb dd_M_crash_5 rfl (lv_at hl 2 rfl) ?_
      refine g_M_M_n (pc := 6) cx hP (by assumption) dd_M_crash_6 ?_
      refine lv_icmp_ge (pc := 9) (tgt := 35) hx hb dd_M_crash_9 (by decide) (fun h9 => ?_) (fun h9 => ?_)
      · -- 9: t to 35
        refine lv_aload_n (pc := 35) hx hb dd_M_crash_35 rfl (lv_at hl 2 rfl) ?_
        refine lv_iload_n (pc := 36) hx hb dd_M_crash_36 rfl (lv_at hl 3 rfl) ?_
        refine k_M_M_noServer (pc := 37) cx hl hP hS (by assumption) (ct_M_noServer l x _ ⟨w16, w23, w24, w25, w26, w27, w28, w29, w30, w31, w32, w33, w34, w35, w36, w37, w39, w40, w41, w42, w43, w44, w45, w46⟩ z) ⟨⟨rfl, rfl⟩, ⟨(Nat.le_of_ble_eq_true rfl), (Nat.le_of_ble_eq_true rfl)⟩, (Nat.le_of_ble_eq_true rfl), (Nat.le_of_ble_eq_true rfl)⟩ (Nat.le_of_ble_eq_true rfl) dd_M_crash_37 (fun H locs hP hS => ?_)
        refine f_neB (pc := 40) (tgt := 67) cx dd_M_crash_40 (by decide) (fun h40 => ?_) (fun h40 => ?_)
        · -- 40: t to 67
          refine lv_iconst (pc := 67) (v := 0) hx hb dd_M_crash_67 (by decide) ?_
          exact f_zret (pc := 68) cx hr hlocks hP hS rfl rfl dd_M_crash_68
        · -- 40: f to 43
          exact absurd ((congrArg not hz).symm.trans h40) (by decide)
      · -- 9: f to 12
        exact absurd ((nI_leI (by omega) (by omega)).mpr (Nat.le_refl _)) h9
    | succ n ih =>
      intro i hi ls hl
      refine lv_iload_n (pc := 4) hx hb dd_M_crash_4 rfl (lv_at hl 0 rfl) ?_
      refine lv_aload_n (pc := 5) hx hb dd_M_crash_5 rfl (lv_at hl 2 rfl) ?_
      refine g_M_M_n (pc := 6) cx hP (by assumption) dd_M_crash_6 ?_
      refine lv_icmp_ge (pc := 9) (tgt := 35) hx hb dd_M_crash_9 (by decide) (fun h9 => ?_) (fun h9 => ?_)
      · -- 9: t to 35
        exact absurd ((nI_leI (by omega) (by omega)).mp h9) (by omega)
      · -- 9: f to 12
        refine lv_iload_n (pc := 12) hx hb dd_M_crash_12 rfl (lv_at hl 1 rfl) ?_
        refine lv_aload_n (pc := 13) hx hb dd_M_crash_13 rfl (lv_at hl 2 rfl) ?_
        refine g_M_M_down (pc := 14) cx hP (by assumption) dd_M_crash_14 ?_
        refine lv_iload_n (pc := 17) hx hb dd_M_crash_17 rfl (lv_at hl 0 rfl) ?_
        refine f_zald (pc := 18) cx hP (fv.at (by assumption) _) rfl rfl (by omega) dd_M_crash_18 ?_
        refine f_eqB (pc := 19) (tgt := 26) cx dd_M_crash_19 (by decide) (fun h19 => ?_) (fun h19 => ?_)
        · -- 19: t to 26
          refine lv_iconst (pc := 26) (v := nI 0) hx hb dd_M_crash_26 (by decide) ?_
          refine lv_iadd (pc := 27) hx hb dd_M_crash_27 ?_
          refine f_topi (nI_add _ _) ?_
          refine lv_istore_n (pc := 28) (lv' := [(2, _), (3, _), (0, _), (1, _)]) hx hb dd_M_crash_28 rfl hl (Nat.le_of_ble_eq_true rfl) rfl (fun ls hl => ?_)
          refine lv_iinc (pc := 29) (k := 1) (lv' := [(3, _), (2, _), (0, _), (1, _)]) hx hb dd_M_crash_29 hl rfl (f_inc1 i) (Nat.le_of_ble_eq_true rfl) rfl (fun ls hl => ?_)
          refine lv_goto (pc := 32) (tgt := 4) hx hb dd_M_crash_32 (by decide) ?_
          exact ih (i + 1) (by omega) ls (by first | (rw [show n_gone S (i + 1) = n_gone S i + 1 by show (if _ then _ else _) = _; rw [if_pos h19]]; exact (lv_sub hl [0, 1, 2, 3] rfl)) | (rw [show n_gone S (i + 1) = n_gone S i + 0 by show (if _ then _ else _) = _; rw [if_neg (by rw [h19]; decide)]; rfl]; exact (lv_sub hl [0, 1, 2, 3] rfl)))
        · -- 19: f to 22
          refine lv_iconst (pc := 22) (v := nI 1) hx hb dd_M_crash_22 (by decide) ?_
          refine lv_goto (pc := 23) (tgt := 27) hx hb dd_M_crash_23 (by decide) ?_
          refine lv_iadd (pc := 27) hx hb dd_M_crash_27 ?_
          refine f_topi (nI_add _ _) ?_
          refine lv_istore_n (pc := 28) (lv' := [(2, _), (3, _), (0, _), (1, _)]) hx hb dd_M_crash_28 rfl hl (Nat.le_of_ble_eq_true rfl) rfl (fun ls hl => ?_)
          refine lv_iinc (pc := 29) (k := 1) (lv' := [(3, _), (2, _), (0, _), (1, _)]) hx hb dd_M_crash_29 hl rfl (f_inc1 i) (Nat.le_of_ble_eq_true rfl) rfl (fun ls hl => ?_)
          refine lv_goto (pc := 32) (tgt := 4) hx hb dd_M_crash_32 (by decide) ?_
          exact ih (i + 1) (by omega) ls (by first | (rw [show n_gone S (i + 1) = n_gone S i + 1 by show (if _ then _ else _) = _; rw [if_pos h19]]; exact (lv_sub hl [0, 1, 2, 3] rfl)) | (rw [show n_gone S (i + 1) = n_gone S i + 0 by show (if _ then _ else _) = _; rw [if_neg (by rw [h19]; decide)]; rfl]; exact (lv_sub hl [0, 1, 2, 3] rfl)))
  refine lv_iconst (pc := 0) (v := nI 0) hx hb dd_M_crash_0 (by decide) ?_
  refine lv_istore_n (pc := 1) (lv' := [(2, _), (0, _), (1, _)]) hx hb dd_M_crash_1 rfl hl (Nat.le_of_ble_eq_true rfl) rfl (fun ls hl => ?_)
  refine lv_iconst (pc := 2) (v := nI 0) hx hb dd_M_crash_2 (by decide) ?_
  refine lv_istore_n (pc := 3) (lv' := [(3, _), (2, _), (0, _), (1, _)]) hx hb dd_M_crash_3 rfl hl (Nat.le_of_ble_eq_true rfl) rfl (fun ls hl => ?_)
  exact loop (xN x) 0 (by omega) ls (lv_sub hl [0, 1, 2, 3] rfl)
set_option maxHeartbeats 4000000 in
set_option maxRecDepth 100000 in
theorem ct_M_crash (l : Launch) (x : fy) (S : fm) (hM : fM x) (s0 : Nat) (hs : s0 < xN x) (hO : fO x) (hl0 : mL S ≤ 256) : Met l mn_M_crash (gw_ws mn_M_crash cb_M_crash 4 (some .boolean)) ({ frames := 1, cells := 0, slots := 0, locals := 22 } : Room) (fPc x (S) [.ref (xa x 16 0), .int (nI s0)]) (fQi x (if qn_crash x S s0 = true then n_crash S s0 else S) (b2 (qn_crash x S s0))) 0 0 (fun q => xs x ≤ q) := by
  refine f_met (by decide) (Nat.le_of_ble_eq_true rfl) ?_
  intro p e s m below meth c0 cx hr hlocks hnm hP hS ls hl
  have cx : fX rn_M cb_M_crash 4 p c0 s m [.ref (xa x 16 0), .int (nI s0)].toArray x := cx
  have hx := cx.1.1
  have hb := cx.1.2.1
  have hl : lv_has ls 4 [(0, .ref (xa x 16 0)), (1, .int (nI s0))] := hl
  obtain ⟨w16, w23, w24, w25, w26, w27, w28, w29, w30, w31, w32, w33, w34, w35, w36, w37, w39, w40, w41, w42, w43, w44, w45, w46⟩ := hM
  have hN : xN x ≤ 7 := hO.2.2.2.1
  have lp2 : qn_crash x S s0 = true → ∀ (i : Nat) (T : fm) (H : Heap) (locs : List Loc), i ≤ mL T → mL T ≤ 256 → n_crl s0 i T = n_crash S s0 → fP x T H → fS x s.heap H locs → ∀ ls : Array Slot, lv_has ls 4 [(3, .int (nI i - 1)), (0, .ref (xa x 16 0)), (1, .int (nI s0))] → W p l e ({ frames := 1, cells := 0, slots := 0, locals := 22 } : Room) s m [.ref (xa x 16 0), .int (nI s0)].toArray below meth c0 H locs 0 0 (MQ below (fQi x (if qn_crash x S s0 = true then n_crash S s0 else S) (b2 (qn_crash x S s0))) [.ref (xa x 16 0), .int (nI s0)].toArray s 0 0 (fun q => xs x ≤ q)) (F0 m 83 ls []) := by
    intro hq i
    induction i with
    | zero =>
      intro T H locs hi hT hU hP hS ls hl
      refine lv_iload_n (pc := 83) hx hb dd_M_crash_83 rfl (lv_at hl 0 rfl) ?_
      refine lv_if_lt (pc := 84) (tgt := 117) hx hb dd_M_crash_84 (by decide) (fun h84 => ?_) (fun h84 => ?_)
      · -- 84: t to 117
        refine lv_iconst (pc := 117) (v := 1) hx hb dd_M_crash_117 (by decide) ?_
        exact f_zret (pc := 118) cx hr hlocks hP hS (by rw [hq]; rfl) (by rw [if_pos hq]; exact hU) dd_M_crash_118
      · -- 84: f to 87
        exact absurd (by decide) h84
    | succ i ih =>
      intro T H locs hi hT hU hP hS ls hl
      rw [nI_pred] at hl
      refine lv_iload_n (pc := 83) hx hb dd_M_crash_83 rfl (lv_at hl 0 rfl) ?_
      refine lv_if_lt (pc := 84) (tgt := 117) hx hb dd_M_crash_84 (by decide) (fun h84 => ?_) (fun h84 => ?_)
      · -- 84: t to 117
        exact absurd h84 (nI_pos (by omega))
      · -- 84: f to 87
        refine lv_aload_n (pc := 87) hx hb dd_M_crash_87 rfl (lv_at hl 1 rfl) ?_
        refine g_M_M_reply (pc := 88) cx hP (by assumption) dd_M_crash_88 ?_
        refine lv_iload_n (pc := 91) hx hb dd_M_crash_91 rfl (lv_at hl 0 rfl) ?_
        refine f_zald (pc := 92) cx hP (fv.at (by assumption) _) rfl rfl (by omega) dd_M_crash_92 ?_
        refine f_neB (pc := 93) (tgt := 111) cx dd_M_crash_93 (by decide) (fun h93 => ?_) (fun h93 => ?_)
        · -- 93: t to 111
          have e0 : n_crl s0 i T = n_crash S s0 := by rw [← hU]; show _ = n_crl s0 i (if _ then _ else _); rw [if_neg (fun q => by rw [h93] at q; cases q.1)]
          have g1 : i ≤ mL T := by omega
          have g2 := hT
          refine lv_iinc (pc := 111) (k := 0) (lv' := [(3, _), (0, _), (1, _)]) hx hb dd_M_crash_111 hl rfl (f_m1 (nI i)) (Nat.le_of_ble_eq_true rfl) rfl (fun ls hl => ?_)
          refine lv_goto (pc := 114) (tgt := 83) hx hb dd_M_crash_114 (by decide) ?_
          exact ih _ _ _ g1 g2 e0 hP hS ls (lv_sub hl [0, 1, 2] rfl)
        · -- 93: f to 96
          refine lv_aload_n (pc := 96) hx hb dd_M_crash_96 rfl (lv_at hl 1 rfl) ?_
          refine g_M_M_server (pc := 97) cx hP (by assumption) dd_M_crash_97 ?_
          refine lv_iload_n (pc := 100) hx hb dd_M_crash_100 rfl (lv_at hl 0 rfl) ?_
          refine f_iald (pc := 101) cx hP (fv.at (by assumption) _) rfl rfl (by omega) dd_M_crash_101 ?_
          refine lv_iload_n (pc := 102) hx hb dd_M_crash_102 rfl (lv_at hl 2 rfl) ?_
          refine lv_icmp_ne (pc := 103) (tgt := 111) hx hb dd_M_crash_103 (by decide) (fun h103 => ?_) (fun h103 => ?_)
          · -- 103: t to 111
            have e0 : n_crl s0 i T = n_crash S s0 := by rw [← hU]; show _ = n_crl s0 i (if _ then _ else _); rw [if_neg (fun q => h103 q.2)]
            have g1 : i ≤ mL T := by omega
            have g2 := hT
            refine lv_iinc (pc := 111) (k := 0) (lv' := [(3, _), (0, _), (1, _)]) hx hb dd_M_crash_111 hl rfl (f_m1 (nI i)) (Nat.le_of_ble_eq_true rfl) rfl (fun ls hl => ?_)
            refine lv_goto (pc := 114) (tgt := 83) hx hb dd_M_crash_114 (by decide) ?_
            exact ih _ _ _ g1 g2 e0 hP hS ls (lv_sub hl [0, 1, 2] rfl)
          · -- 103: f to 106
            have e0 : n_crl s0 i (n_lose T i) = n_crash S s0 := by rw [← hU]; show _ = n_crl s0 i (if _ then _ else _); rw [if_pos ⟨h93, h103⟩]
            have g0 : mL (n_lose T i) = mL T - 1 := rfl
            have g1 : i ≤ mL (n_lose T i) := by omega
            have g2 : mL (n_lose T i) ≤ 256 := by omega
            refine lv_aload_n (pc := 106) hx hb dd_M_crash_106 rfl (lv_at hl 1 rfl) ?_
            refine lv_iload_n (pc := 107) hx hb dd_M_crash_107 rfl (lv_at hl 0 rfl) ?_
            refine k_M_M_lose (pc := 108) cx hl hP hS (by assumption) (ct_M_lose l x T ⟨w16, w23, w24, w25, w26, w27, w28, w29, w30, w31, w32, w33, w34, w35, w36, w37, w39, w40, w41, w42, w43, w44, w45, w46⟩ i (by omega) hT) ⟨⟨rfl, rfl⟩, ⟨(Nat.le_of_ble_eq_true rfl), (Nat.le_of_ble_eq_true rfl)⟩, (Nat.le_of_ble_eq_true rfl), (Nat.le_of_ble_eq_true rfl)⟩ (Nat.le_of_ble_eq_true rfl) dd_M_crash_108 (fun H locs hP hS => ?_)
            refine lv_iinc (pc := 111) (k := 0) (lv' := [(3, _), (0, _), (1, _)]) hx hb dd_M_crash_111 hl rfl (f_m1 (nI i)) (Nat.le_of_ble_eq_true rfl) rfl (fun ls hl => ?_)
            refine lv_goto (pc := 114) (tgt := 83) hx hb dd_M_crash_114 (by decide) ?_
            exact ih _ _ _ g1 g2 e0 hP hS ls (lv_sub hl [0, 1, 2] rfl)
  have loop : ∀ (n i : Nat), i + n = xN x → ∀ ls : Array Slot, lv_has ls 4 [(3, .int (nI i)), (2, .int (nI (n_gone S i))), (0, .ref (xa x 16 0)), (1, .int (nI s0))] → W p l e ({ frames := 1, cells := 0, slots := 0, locals := 22 } : Room) s m [.ref (xa x 16 0), .int (nI s0)].toArray below meth c0 s.heap [] 0 0 (MQ below (fQi x (if qn_crash x S s0 = true then n_crash S s0 else S) (b2 (qn_crash x S s0))) [.ref (xa x 16 0), .int (nI s0)].toArray s 0 0 (fun q => xs x ≤ q)) (F0 m 4 ls []) := by
    intro n
    induction n with
    | zero =>
      intro i hi ls hl
      have hi : i = xN x := by omega
      subst hi
      have hgl := n_gone_le S (xN x)
      refine lv_iload_n (pc := 4) hx hb dd_M_crash_4 rfl (lv_at hl 0 rfl) ?_
      refine lv_aload_n (pc := 5) hx hb dd_M_crash_5 rfl (lv_at hl 2 rfl) ?_
      refine g_M_M_n (pc := 6) cx hP (by assumption) dd_M_crash_6 ?_
      refine lv_icmp_ge (pc := 9) (tgt := 35) hx hb dd_M_crash_9 (by decide) (fun h9 => ?_) (fun h9 => ?_)
      · -- 9: t to 35
        refine lv_aload_n (pc := 35) hx hb dd_M_crash_35 rfl (lv_at hl 2 rfl) ?_
        refine lv_iload_n (pc := 36) hx hb dd_M_crash_36 rfl (lv_at hl 3 rfl) ?_
        refine k_M_M_noServer (pc := 37) cx hl hP hS (by assumption) (ct_M_noServer l x _ ⟨w16, w23, w24, w25, w26, w27, w28, w29, w30, w31, w32, w33, w34, w35, w36, w37, w39, w40, w41, w42, w43, w44, w45, w46⟩ (nI s0)) ⟨⟨rfl, rfl⟩, ⟨(Nat.le_of_ble_eq_true rfl), (Nat.le_of_ble_eq_true rfl)⟩, (Nat.le_of_ble_eq_true rfl), (Nat.le_of_ble_eq_true rfl)⟩ (Nat.le_of_ble_eq_true rfl) dd_M_crash_37 (fun H locs hP hS => ?_)
        refine f_neB (pc := 40) (tgt := 67) cx dd_M_crash_40 (by decide) (fun h40 => ?_) (fun h40 => ?_)
        · -- 40: t to 67
          exact absurd ((congrArg not (q_sv_in hO hs)).symm.trans h40) (by decide)
        · -- 40: f to 43
          have hMM : (nI (xN x) - nI (xK x)) / 2 = nI (xM x) := n_half x hO
          have hM7 : xM x ≤ 7 := by unfold xM; omega
          refine lv_aload_n (pc := 43) hx hb dd_M_crash_43 rfl (lv_at hl 2 rfl) ?_
          refine g_M_M_down (pc := 44) cx hP (by assumption) dd_M_crash_44 ?_
          refine lv_iload_n (pc := 47) hx hb dd_M_crash_47 rfl (lv_at hl 3 rfl) ?_
          refine f_zald (pc := 48) cx hP (fv.at (by assumption) _) rfl rfl (by omega) dd_M_crash_48 ?_
          refine f_neB (pc := 49) (tgt := 67) cx dd_M_crash_49 (by decide) (fun h49 => ?_) (fun h49 => ?_)
          · -- 49: t to 67
            refine lv_iconst (pc := 67) (v := 0) hx hb dd_M_crash_67 (by decide) ?_
            exact f_zret (pc := 68) cx hr hlocks hP hS (by simp [qn_crash, b2, *]) (by simp [qn_crash, *]) dd_M_crash_68
          · -- 49: f to 52
            refine lv_iload_n (pc := 52) hx hb dd_M_crash_52 rfl (lv_at hl 1 rfl) ?_
            refine lv_aload_n (pc := 53) hx hb dd_M_crash_53 rfl (lv_at hl 2 rfl) ?_
            refine g_M_M_n (pc := 54) cx hP (by assumption) dd_M_crash_54 ?_
            refine lv_aload_n (pc := 57) hx hb dd_M_crash_57 rfl (lv_at hl 2 rfl) ?_
            refine g_M_M_k (pc := 58) cx hP (by assumption) dd_M_crash_58 ?_
            refine lv_isub (pc := 61) hx hb dd_M_crash_61 ?_
            refine lv_iconst (pc := 62) (v := 2) hx hb dd_M_crash_62 (by decide) ?_
            refine lv_idiv (pc := 63) hx hb dd_M_crash_63 (by decide) ?_
            refine f_topi hMM ?_
            refine lv_icmp_lt (pc := 64) (tgt := 69) hx hb dd_M_crash_64 (by decide) (fun h64 => ?_) (fun h64 => ?_)
            · -- 64: t to 69
              have h64b := (nI_ltI (by omega) (by omega)).mp h64
              refine lv_aload_n (pc := 69) hx hb dd_M_crash_69 rfl (lv_at hl 2 rfl) ?_
              refine g_M_M_down (pc := 70) cx hP (by assumption) dd_M_crash_70 ?_
              refine lv_iload_n (pc := 73) hx hb dd_M_crash_73 rfl (lv_at hl 3 rfl) ?_
              refine lv_iconst (pc := 74) (v := b2 true) hx hb dd_M_crash_74 (by decide) ?_
              refine f_zast (pc := 75) cx hP hS (fv.at (by assumption) _) (fun _ => rfl) rfl rfl (by omega) dd_M_crash_75 (fun H locs hP hS => ?_)
              refine lv_aload_n (pc := 76) hx hb dd_M_crash_76 rfl (lv_at hl 2 rfl) ?_
              refine g_M_M_letters (pc := 77) cx hP (by assumption) dd_M_crash_77 ?_
              refine lv_iconst (pc := 80) (v := 1) hx hb dd_M_crash_80 (by decide) ?_
              refine lv_isub (pc := 81) hx hb dd_M_crash_81 ?_
              refine lv_istore_n (pc := 82) (lv' := [(3, _), (2, _), (0, _), (1, _)]) hx hb dd_M_crash_82 rfl hl (Nat.le_of_ble_eq_true rfl) rfl (fun ls hl => ?_)
              exact lp2 (by simp [qn_crash, *]) (mL S) (sB S 33 0 s0 true) _ _ (Nat.le_refl (mL S)) hl0 rfl hP hS ls (lv_sub hl [0, 2, 3] rfl)
            · -- 64: f to 67
              have h64b : ¬ n_gone S (xN x) < xM x := fun q => h64 ((nI_ltI (by omega) (by omega)).mpr q)
              refine lv_iconst (pc := 67) (v := 0) hx hb dd_M_crash_67 (by decide) ?_
              exact f_zret (pc := 68) cx hr hlocks hP hS (by simp [qn_crash, b2, *]) (by simp [qn_crash, *]) dd_M_crash_68
      · -- 9: f to 12
        exact absurd ((nI_leI (by omega) (by omega)).mpr (Nat.le_refl _)) h9
    | succ n ih =>
      intro i hi ls hl
      refine lv_iload_n (pc := 4) hx hb dd_M_crash_4 rfl (lv_at hl 0 rfl) ?_
      refine lv_aload_n (pc := 5) hx hb dd_M_crash_5 rfl (lv_at hl 2 rfl) ?_
      refine g_M_M_n (pc := 6) cx hP (by assumption) dd_M_crash_6 ?_
      refine lv_icmp_ge (pc := 9) (tgt := 35) hx hb dd_M_crash_9 (by decide) (fun h9 => ?_) (fun h9 => ?_)
      · -- 9: t to 35
        exact absurd ((nI_leI (by omega) (by omega)).mp h9) (by omega)
      · -- 9: f to 12
        refine lv_iload_n (pc := 12) hx hb dd_M_crash_12 rfl (lv_at hl 1 rfl) ?_
        refine lv_aload_n (pc := 13) hx hb dd_M_crash_13 rfl (lv_at hl 2 rfl) ?_
        refine g_M_M_down (pc := 14) cx hP (by assumption) dd_M_crash_14 ?_
        refine lv_iload_n (pc := 17) hx hb dd_M_crash_17 rfl (lv_at hl 0 rfl) ?_
        refine f_zald (pc := 18) cx hP (fv.at (by assumption) _) rfl rfl (by omega) dd_M_crash_18 ?_
        refine f_eqB (pc := 19) (tgt := 26) cx dd_M_crash_19 (by decide) (fun h19 => ?_) (fun h19 => ?_)
        · -- 19: t to 26
          refine lv_iconst (pc := 26) (v := nI 0) hx hb dd_M_crash_26 (by decide) ?_
          refine lv_iadd (pc := 27) hx hb dd_M_crash_27 ?_
          refine f_topi (nI_add _ _) ?_
          refine lv_istore_n (pc := 28) (lv' := [(2, _), (3, _), (0, _), (1, _)]) hx hb dd_M_crash_28 rfl hl (Nat.le_of_ble_eq_true rfl) rfl (fun ls hl => ?_)
          refine lv_iinc (pc := 29) (k := 1) (lv' := [(3, _), (2, _), (0, _), (1, _)]) hx hb dd_M_crash_29 hl rfl (f_inc1 i) (Nat.le_of_ble_eq_true rfl) rfl (fun ls hl => ?_)
          refine lv_goto (pc := 32) (tgt := 4) hx hb dd_M_crash_32 (by decide) ?_
          exact ih (i + 1) (by omega) ls (by first | (rw [show n_gone S (i + 1) = n_gone S i + 1 by show (if _ then _ else _) = _; rw [if_pos h19]]; exact (lv_sub hl [0, 1, 2, 3] rfl)) | (rw [show n_gone S (i + 1) = n_gone S i + 0 by show (if _ then _ else _) = _; rw [if_neg (by rw [h19]; decide)]; rfl]; exact (lv_sub hl [0, 1, 2, 3] rfl)))
        · -- 19: f to 22
          refine lv_iconst (pc := 22) (v := nI 1) hx hb dd_M_crash_22 (by decide) ?_
          refine lv_goto (pc := 23) (tgt := 27) hx hb dd_M_crash_23 (by decide) ?_
          refine lv_iadd (pc := 27) hx hb dd_M_crash_27 ?_
          refine f_topi (nI_add _ _) ?_
          refine lv_istore_n (pc := 28) (lv' := [(2, _), (3, _), (0, _), (1, _)]) hx hb dd_M_crash_28 rfl hl (Nat.le_of_ble_eq_true rfl) rfl (fun ls hl => ?_)
          refine lv_iinc (pc := 29) (k := 1) (lv' := [(3, _), (2, _), (0, _), (1, _)]) hx hb dd_M_crash_29 hl rfl (f_inc1 i) (Nat.le_of_ble_eq_true rfl) rfl (fun ls hl => ?_)
          refine lv_goto (pc := 32) (tgt := 4) hx hb dd_M_crash_32 (by decide) ?_
          exact ih (i + 1) (by omega) ls (by first | (rw [show n_gone S (i + 1) = n_gone S i + 1 by show (if _ then _ else _) = _; rw [if_pos h19]]; exact (lv_sub hl [0, 1, 2, 3] rfl)) | (rw [show n_gone S (i + 1) = n_gone S i + 0 by show (if _ then _ else _) = _; rw [if_neg (by rw [h19]; decide)]; rfl]; exact (lv_sub hl [0, 1, 2, 3] rfl)))
  refine lv_iconst (pc := 0) (v := nI 0) hx hb dd_M_crash_0 (by decide) ?_
  refine lv_istore_n (pc := 1) (lv' := [(2, _), (0, _), (1, _)]) hx hb dd_M_crash_1 rfl hl (Nat.le_of_ble_eq_true rfl) rfl (fun ls hl => ?_)
  refine lv_iconst (pc := 2) (v := nI 0) hx hb dd_M_crash_2 (by decide) ?_
  refine lv_istore_n (pc := 3) (lv' := [(3, _), (2, _), (0, _), (1, _)]) hx hb dd_M_crash_3 rfl hl (Nat.le_of_ble_eq_true rfl) rfl (fun ls hl => ?_)
  exact loop (xN x) 0 (by omega) ls (lv_sub hl [0, 1, 2, 3] rfl)
set_option maxHeartbeats 4000000 in
set_option maxRecDepth 100000 in
theorem ct_M_onwards (l : Launch) (x : fy) (S : fm) (hM : fM x) (c : Nat) (hc : c < 5) (hO : fO x) (hl0 : mL S + 7 ≤ 256) : Met l mn_M_onwards (gw_ws mn_M_onwards cb_M_onwards 3 (some .int)) ({ frames := 2, cells := 0, slots := 0, locals := 48 } : Room) (fPc x (S) [.ref (xa x 16 0), .int (nI c)]) (fQi x (e_onw x S c) (q_onw x S c)) 0 0 (fun q => xs x ≤ q) := by
  refine f_met (by decide) (Nat.le_of_ble_eq_true rfl) ?_
  intro p e s m below meth c0 cx hr hlocks hnm hP hS ls hl
  have cx : fX rn_M cb_M_onwards 3 p c0 s m [.ref (xa x 16 0), .int (nI c)].toArray x := cx
  have hx := cx.1.1
  have hb := cx.1.2.1
  have hl : lv_has ls 3 [(0, .ref (xa x 16 0)), (1, .int (nI c))] := hl
  obtain ⟨w16, w23, w24, w25, w26, w27, w28, w29, w30, w31, w32, w33, w34, w35, w36, w37, w39, w40, w41, w42, w43, w44, w45, w46⟩ := hM
  refine lv_aload_n (pc := 0) hx hb dd_M_onwards_0 rfl (lv_at hl 0 rfl) ?_
  refine g_M_M_phase (pc := 1) cx hP (by assumption) dd_M_onwards_1 ?_
  refine lv_iload_n (pc := 4) hx hb dd_M_onwards_4 rfl (lv_at hl 1 rfl) ?_
  refine f_iald (pc := 5) cx hP (fv.at (by assumption) _) rfl rfl (by omega) dd_M_onwards_5 ?_
  refine lv_istore_n (pc := 6) (lv' := [(2, _), (0, _), (1, _)]) hx hb dd_M_onwards_6 rfl hl (Nat.le_of_ble_eq_true rfl) rfl (fun ls hl => ?_)
  refine lv_aload_n (pc := 7) hx hb dd_M_onwards_7 rfl (lv_at hl 1 rfl) ?_
  refine g_M_M_counted (pc := 8) cx hP (by assumption) dd_M_onwards_8 ?_
  refine lv_iload_n (pc := 11) hx hb dd_M_onwards_11 rfl (lv_at hl 2 rfl) ?_
  refine f_iald (pc := 12) cx hP (fv.at (by assumption) _) rfl rfl (by omega) dd_M_onwards_12 ?_
  refine lv_aload_n (pc := 13) hx hb dd_M_onwards_13 rfl (lv_at hl 1 rfl) ?_
  refine k_M_M_quorum (pc := 14) cx hl hP hS (by assumption) (ct_M_quorum l x S ⟨w16, w23, w24, w25, w26, w27, w28, w29, w30, w31, w32, w33, w34, w35, w36, w37, w39, w40, w41, w42, w43, w44, w45, w46⟩ hO) ⟨⟨rfl, rfl⟩, ⟨(Nat.le_of_ble_eq_true rfl), (Nat.le_of_ble_eq_true rfl)⟩, (Nat.le_of_ble_eq_true rfl), (Nat.le_of_ble_eq_true rfl)⟩ (Nat.le_of_ble_eq_true rfl) dd_M_onwards_14 (fun H locs hP hS => ?_)
  refine lv_icmp_lt (pc := 17) (tgt := 38) hx hb dd_M_onwards_17 (by decide) (fun h17 => ?_) (fun h17 => ?_)
  · -- 17: t to 38
    have hmo : n_more x S c := Or.inl h17
    refine lv_iconst (pc := 38) (v := 1) hx hb dd_M_onwards_38 (by decide) ?_
    exact f_iret (pc := 39) cx hr hlocks hP hS (by rw [q_onw, if_pos hmo]) (by rw [e_onw, if_pos hmo]) dd_M_onwards_39
  · -- 17: f to 20
    refine lv_iload_n (pc := 20) hx hb dd_M_onwards_20 rfl (lv_at hl 0 rfl) ?_
    refine lv_iconst (pc := 21) (v := 5) hx hb dd_M_onwards_21 (by decide) ?_
    refine lv_icmp_ne (pc := 22) (tgt := 40) hx hb dd_M_onwards_22 (by decide) (fun h22 => ?_) (fun h22 => ?_)
    · -- 22: t to 40
      have hno : ¬ n_more x S c := fun q => q.elim h17 (fun q => h22 q.1)
      by_cases e3 : mI S 23 0 c = 3
      · -- phase 3
        refine lv_iload_n (pc := 40) hx hb dd_M_onwards_40 rfl (lv_at hl 0 rfl) ?_
        refine lv_iconst (pc := 41) (v := 3) hx hb dd_M_onwards_41 (by decide) ?_
        refine lv_icmp_eq (pc := 42) (tgt := 50) hx hb dd_M_onwards_42 (by decide) (fun h42 => ?_) (fun h42 => ?_)
        · -- 42: t to 50
          refine lv_aload_n (pc := 50) hx hb dd_M_onwards_50 rfl (lv_at hl 1 rfl) ?_
          refine g_M_M_results (pc := 51) cx hP (by assumption) dd_M_onwards_51 ?_
          refine lv_iload_n (pc := 54) hx hb dd_M_onwards_54 rfl (lv_at hl 2 rfl) ?_
          refine lv_iload_n (pc := 55) hx hb dd_M_onwards_55 rfl (lv_at hl 0 rfl) ?_
          refine lv_iconst (pc := 56) (v := 5) hx hb dd_M_onwards_56 (by decide) ?_
          refine lv_icmp_ne (pc := 57) (tgt := 69) hx hb dd_M_onwards_57 (by decide) (fun h57 => ?_) (fun h57 => ?_)
          · -- 57: t to 69
            refine lv_aload_n (pc := 69) hx hb dd_M_onwards_69 rfl (lv_at hl 1 rfl) ?_
            refine g_M_M_results (pc := 70) cx hP (by assumption) dd_M_onwards_70 ?_
            refine lv_iload_n (pc := 73) hx hb dd_M_onwards_73 rfl (lv_at hl 2 rfl) ?_
            refine f_lald (pc := 74) cx hP (fv.at (by assumption) _) rfl rfl (by omega) dd_M_onwards_74 ?_
            refine f_last (pc := 75) cx hP hS (fv.at (by assumption) _) (fun _ => rfl) rfl (by omega) dd_M_onwards_75 (fun H locs hP hS => ?_)
            refine lv_aload_n (pc := 76) hx hb dd_M_onwards_76 rfl (lv_at hl 1 rfl) ?_
            refine g_M_M_phase (pc := 77) cx hP (by assumption) dd_M_onwards_77 ?_
            refine lv_iload_n (pc := 80) hx hb dd_M_onwards_80 rfl (lv_at hl 2 rfl) ?_
            refine lv_iconst (pc := 81) (v := 0) hx hb dd_M_onwards_81 (by decide) ?_
            refine f_iast (pc := 82) cx hP hS (fv.at (by assumption) _) (fun _ => rfl) rfl (by omega) dd_M_onwards_82 (fun H locs hP hS => ?_)
            refine lv_aload_n (pc := 83) hx hb dd_M_onwards_83 rfl (lv_at hl 1 rfl) ?_
            refine g_M_M_ends (pc := 84) cx hP (by assumption) dd_M_onwards_84 ?_
            refine lv_iload_n (pc := 87) hx hb dd_M_onwards_87 rfl (lv_at hl 2 rfl) ?_
            refine lv_dup2_11 (pc := 88) hx hb dd_M_onwards_88 rfl rfl ?_
            refine f_iald (pc := 89) cx hP (fv.at (by assumption) _) rfl rfl (by omega) dd_M_onwards_89 ?_
            refine lv_iconst (pc := 90) (v := 1) hx hb dd_M_onwards_90 (by decide) ?_
            refine lv_iadd (pc := 91) hx hb dd_M_onwards_91 ?_
            refine f_iast (pc := 92) cx hP hS (fv.at (by assumption) _) (fun _ => rfl) rfl (by omega) dd_M_onwards_92 (fun H locs hP hS => ?_)
            refine lv_iconst (pc := 93) (v := 3) hx hb dd_M_onwards_93 (by decide) ?_
            exact f_iret (pc := 94) cx hr hlocks hP hS (by rw [q_onw, if_neg hno]; simp [*]) (by rw [e_onw, if_neg hno]; simp [n_endS, n_tagS, *]; try rfl) dd_M_onwards_94
          · -- 57: f to 60
            exact absurd (e3.symm.trans h57) (by decide)
        · -- 42: f to 45
          exact absurd e3 h42
      by_cases e5 : mI S 23 0 c = 5
      · -- phase 5
        exact absurd e5 h22
      by_cases e1 : mI S 23 0 c = 1
      · -- phase 1
        refine lv_iload_n (pc := 40) hx hb dd_M_onwards_40 rfl (lv_at hl 0 rfl) ?_
        refine lv_iconst (pc := 41) (v := 3) hx hb dd_M_onwards_41 (by decide) ?_
        refine lv_icmp_eq (pc := 42) (tgt := 50) hx hb dd_M_onwards_42 (by decide) (fun h42 => ?_) (fun h42 => ?_)
        · -- 42: t to 50
          exact absurd (e1.symm.trans h42) (by decide)
        · -- 42: f to 45
          refine lv_iload_n (pc := 45) hx hb dd_M_onwards_45 rfl (lv_at hl 0 rfl) ?_
          refine lv_iconst (pc := 46) (v := 5) hx hb dd_M_onwards_46 (by decide) ?_
          refine lv_icmp_ne (pc := 47) (tgt := 95) hx hb dd_M_onwards_47 (by decide) (fun h47 => ?_) (fun h47 => ?_)
          · -- 47: t to 95
            refine lv_iload_n (pc := 95) hx hb dd_M_onwards_95 rfl (lv_at hl 0 rfl) ?_
            refine lv_iconst (pc := 96) (v := 1) hx hb dd_M_onwards_96 (by decide) ?_
            refine lv_icmp_ne (pc := 97) (tgt := 122) hx hb dd_M_onwards_97 (by decide) (fun h97 => ?_) (fun h97 => ?_)
            · -- 97: t to 122
              exact absurd e1 h97
            · -- 97: f to 100
              refine lv_aload_n (pc := 100) hx hb dd_M_onwards_100 rfl (lv_at hl 1 rfl) ?_
              refine g_M_M_tags (pc := 101) cx hP (by assumption) dd_M_onwards_101 ?_
              refine lv_iload_n (pc := 104) hx hb dd_M_onwards_104 rfl (lv_at hl 2 rfl) ?_
              refine lv_bipush (pc := 105) (v := 8) hx hb dd_M_onwards_105 (by decide) ?_
              refine lv_aload_n (pc := 107) hx hb dd_M_onwards_107 rfl (lv_at hl 1 rfl) ?_
              refine g_M_M_best (pc := 108) cx hP (by assumption) dd_M_onwards_108 ?_
              refine lv_iload_n (pc := 111) hx hb dd_M_onwards_111 rfl (lv_at hl 2 rfl) ?_
              refine f_iald (pc := 112) cx hP (fv.at (by assumption) _) rfl rfl (by omega) dd_M_onwards_112 ?_
              refine lv_bipush (pc := 113) (v := 8) hx hb dd_M_onwards_113 (by decide) ?_
              refine lv_idiv (pc := 115) hx hb dd_M_onwards_115 (by decide) ?_
              refine lv_iconst (pc := 116) (v := 1) hx hb dd_M_onwards_116 (by decide) ?_
              refine lv_iadd (pc := 117) hx hb dd_M_onwards_117 ?_
              refine lv_imul (pc := 118) hx hb dd_M_onwards_118 ?_
              refine lv_iload_n (pc := 119) hx hb dd_M_onwards_119 rfl (lv_at hl 2 rfl) ?_
              refine lv_iadd (pc := 120) hx hb dd_M_onwards_120 ?_
              refine f_iast (pc := 121) cx hP hS (fv.at (by assumption) _) (fun _ => rfl) rfl (by omega) dd_M_onwards_121 (fun H locs hP hS => ?_)
              refine lv_iload_n (pc := 122) hx hb dd_M_onwards_122 rfl (lv_at hl 0 rfl) ?_
              refine lv_iconst (pc := 123) (v := 4) hx hb dd_M_onwards_123 (by decide) ?_
              refine lv_icmp_ne (pc := 124) (tgt := 139) hx hb dd_M_onwards_124 (by decide) (fun h124 => ?_) (fun h124 => ?_)
              · -- 124: t to 139
                refine lv_aload_n (pc := 139) hx hb dd_M_onwards_139 rfl (lv_at hl 1 rfl) ?_
                refine lv_iload_n (pc := 140) hx hb dd_M_onwards_140 rfl (lv_at hl 2 rfl) ?_
                refine lv_iload_n (pc := 141) hx hb dd_M_onwards_141 rfl (lv_at hl 0 rfl) ?_
                refine lv_iconst (pc := 142) (v := 1) hx hb dd_M_onwards_142 (by decide) ?_
                refine lv_iadd (pc := 143) hx hb dd_M_onwards_143 ?_
                refine k_M_M_begin (pc := 144) cx hl hP hS (by assumption) (ct_M_begin l x _ ⟨w16, w23, w24, w25, w26, w27, w28, w29, w30, w31, w32, w33, w34, w35, w36, w37, w39, w40, w41, w42, w43, w44, w45, w46⟩ c _ hc hO hl0) ⟨⟨rfl, rfl⟩, ⟨(Nat.le_of_ble_eq_true rfl), (Nat.le_of_ble_eq_true rfl)⟩, (Nat.le_of_ble_eq_true rfl), (Nat.le_of_ble_eq_true rfl)⟩ (Nat.le_of_ble_eq_true rfl) dd_M_onwards_144 (fun H locs hP hS => ?_)
                refine lv_iconst (pc := 147) (v := 2) hx hb dd_M_onwards_147 (by decide) ?_
                exact f_iret (pc := 148) cx hr hlocks hP hS (by rw [q_onw, if_neg hno]; simp [*]) (by rw [e_onw, if_neg hno]; simp [n_endS, n_tagS, *]; try rfl) dd_M_onwards_148
              · -- 124: f to 127
                exact absurd (e1.symm.trans h124) (by decide)
          · -- 47: f to 50
            exact absurd (e1.symm.trans h47) (by decide)
      by_cases e4 : mI S 23 0 c = 4
      · -- phase 4
        refine lv_iload_n (pc := 40) hx hb dd_M_onwards_40 rfl (lv_at hl 0 rfl) ?_
        refine lv_iconst (pc := 41) (v := 3) hx hb dd_M_onwards_41 (by decide) ?_
        refine lv_icmp_eq (pc := 42) (tgt := 50) hx hb dd_M_onwards_42 (by decide) (fun h42 => ?_) (fun h42 => ?_)
        · -- 42: t to 50
          exact absurd (e4.symm.trans h42) (by decide)
        · -- 42: f to 45
          refine lv_iload_n (pc := 45) hx hb dd_M_onwards_45 rfl (lv_at hl 0 rfl) ?_
          refine lv_iconst (pc := 46) (v := 5) hx hb dd_M_onwards_46 (by decide) ?_
          refine lv_icmp_ne (pc := 47) (tgt := 95) hx hb dd_M_onwards_47 (by decide) (fun h47 => ?_) (fun h47 => ?_)
          · -- 47: t to 95
            refine lv_iload_n (pc := 95) hx hb dd_M_onwards_95 rfl (lv_at hl 0 rfl) ?_
            refine lv_iconst (pc := 96) (v := 1) hx hb dd_M_onwards_96 (by decide) ?_
            refine lv_icmp_ne (pc := 97) (tgt := 122) hx hb dd_M_onwards_97 (by decide) (fun h97 => ?_) (fun h97 => ?_)
            · -- 97: t to 122
              refine lv_iload_n (pc := 122) hx hb dd_M_onwards_122 rfl (lv_at hl 0 rfl) ?_
              refine lv_iconst (pc := 123) (v := 4) hx hb dd_M_onwards_123 (by decide) ?_
              refine lv_icmp_ne (pc := 124) (tgt := 139) hx hb dd_M_onwards_124 (by decide) (fun h124 => ?_) (fun h124 => ?_)
              · -- 124: t to 139
                exact absurd e4 h124
              · -- 124: f to 127
                refine lv_aload_n (pc := 127) hx hb dd_M_onwards_127 rfl (lv_at hl 1 rfl) ?_
                refine g_M_M_tags (pc := 128) cx hP (by assumption) dd_M_onwards_128 ?_
                refine lv_iload_n (pc := 131) hx hb dd_M_onwards_131 rfl (lv_at hl 2 rfl) ?_
                refine lv_aload_n (pc := 132) hx hb dd_M_onwards_132 rfl (lv_at hl 1 rfl) ?_
                refine g_M_M_best (pc := 133) cx hP (by assumption) dd_M_onwards_133 ?_
                refine lv_iload_n (pc := 136) hx hb dd_M_onwards_136 rfl (lv_at hl 2 rfl) ?_
                refine f_iald (pc := 137) cx hP (fv.at (by assumption) _) rfl rfl (by omega) dd_M_onwards_137 ?_
                refine f_iast (pc := 138) cx hP hS (fv.at (by assumption) _) (fun _ => rfl) rfl (by omega) dd_M_onwards_138 (fun H locs hP hS => ?_)
                refine lv_aload_n (pc := 139) hx hb dd_M_onwards_139 rfl (lv_at hl 1 rfl) ?_
                refine lv_iload_n (pc := 140) hx hb dd_M_onwards_140 rfl (lv_at hl 2 rfl) ?_
                refine lv_iload_n (pc := 141) hx hb dd_M_onwards_141 rfl (lv_at hl 0 rfl) ?_
                refine lv_iconst (pc := 142) (v := 1) hx hb dd_M_onwards_142 (by decide) ?_
                refine lv_iadd (pc := 143) hx hb dd_M_onwards_143 ?_
                refine k_M_M_begin (pc := 144) cx hl hP hS (by assumption) (ct_M_begin l x _ ⟨w16, w23, w24, w25, w26, w27, w28, w29, w30, w31, w32, w33, w34, w35, w36, w37, w39, w40, w41, w42, w43, w44, w45, w46⟩ c _ hc hO hl0) ⟨⟨rfl, rfl⟩, ⟨(Nat.le_of_ble_eq_true rfl), (Nat.le_of_ble_eq_true rfl)⟩, (Nat.le_of_ble_eq_true rfl), (Nat.le_of_ble_eq_true rfl)⟩ (Nat.le_of_ble_eq_true rfl) dd_M_onwards_144 (fun H locs hP hS => ?_)
                refine lv_iconst (pc := 147) (v := 2) hx hb dd_M_onwards_147 (by decide) ?_
                exact f_iret (pc := 148) cx hr hlocks hP hS (by rw [q_onw, if_neg hno]; simp [*]) (by rw [e_onw, if_neg hno]; simp [n_endS, n_tagS, *]; try rfl) dd_M_onwards_148
            · -- 97: f to 100
              exact absurd (e4.symm.trans h97) (by decide)
          · -- 47: f to 50
            exact absurd (e4.symm.trans h47) (by decide)
      refine lv_iload_n (pc := 40) hx hb dd_M_onwards_40 rfl (lv_at hl 0 rfl) ?_
      refine lv_iconst (pc := 41) (v := 3) hx hb dd_M_onwards_41 (by decide) ?_
      refine lv_icmp_eq (pc := 42) (tgt := 50) hx hb dd_M_onwards_42 (by decide) (fun h42 => ?_) (fun h42 => ?_)
      · -- 42: t to 50
        exact absurd h42 e3
      · -- 42: f to 45
        refine lv_iload_n (pc := 45) hx hb dd_M_onwards_45 rfl (lv_at hl 0 rfl) ?_
        refine lv_iconst (pc := 46) (v := 5) hx hb dd_M_onwards_46 (by decide) ?_
        refine lv_icmp_ne (pc := 47) (tgt := 95) hx hb dd_M_onwards_47 (by decide) (fun h47 => ?_) (fun h47 => ?_)
        · -- 47: t to 95
          refine lv_iload_n (pc := 95) hx hb dd_M_onwards_95 rfl (lv_at hl 0 rfl) ?_
          refine lv_iconst (pc := 96) (v := 1) hx hb dd_M_onwards_96 (by decide) ?_
          refine lv_icmp_ne (pc := 97) (tgt := 122) hx hb dd_M_onwards_97 (by decide) (fun h97 => ?_) (fun h97 => ?_)
          · -- 97: t to 122
            refine lv_iload_n (pc := 122) hx hb dd_M_onwards_122 rfl (lv_at hl 0 rfl) ?_
            refine lv_iconst (pc := 123) (v := 4) hx hb dd_M_onwards_123 (by decide) ?_
            refine lv_icmp_ne (pc := 124) (tgt := 139) hx hb dd_M_onwards_124 (by decide) (fun h124 => ?_) (fun h124 => ?_)
            · -- 124: t to 139
              refine lv_aload_n (pc := 139) hx hb dd_M_onwards_139 rfl (lv_at hl 1 rfl) ?_
              refine lv_iload_n (pc := 140) hx hb dd_M_onwards_140 rfl (lv_at hl 2 rfl) ?_
              refine lv_iload_n (pc := 141) hx hb dd_M_onwards_141 rfl (lv_at hl 0 rfl) ?_
              refine lv_iconst (pc := 142) (v := 1) hx hb dd_M_onwards_142 (by decide) ?_
              refine lv_iadd (pc := 143) hx hb dd_M_onwards_143 ?_
              refine k_M_M_begin (pc := 144) cx hl hP hS (by assumption) (ct_M_begin l x _ ⟨w16, w23, w24, w25, w26, w27, w28, w29, w30, w31, w32, w33, w34, w35, w36, w37, w39, w40, w41, w42, w43, w44, w45, w46⟩ c _ hc hO hl0) ⟨⟨rfl, rfl⟩, ⟨(Nat.le_of_ble_eq_true rfl), (Nat.le_of_ble_eq_true rfl)⟩, (Nat.le_of_ble_eq_true rfl), (Nat.le_of_ble_eq_true rfl)⟩ (Nat.le_of_ble_eq_true rfl) dd_M_onwards_144 (fun H locs hP hS => ?_)
              refine lv_iconst (pc := 147) (v := 2) hx hb dd_M_onwards_147 (by decide) ?_
              exact f_iret (pc := 148) cx hr hlocks hP hS (by rw [q_onw, if_neg hno]; simp [*]) (by rw [e_onw, if_neg hno]; simp [n_endS, n_tagS, *]) dd_M_onwards_148
            · -- 124: f to 127
              exact absurd h124 e4
          · -- 97: f to 100
            exact absurd h97 e1
        · -- 47: f to 50
          exact absurd h47 e5
    · -- 22: f to 25
      refine lv_aload_n (pc := 25) hx hb dd_M_onwards_25 rfl (lv_at hl 1 rfl) ?_
      refine g_M_M_bearing (pc := 26) cx hP (by assumption) dd_M_onwards_26 ?_
      refine lv_iload_n (pc := 29) hx hb dd_M_onwards_29 rfl (lv_at hl 2 rfl) ?_
      refine f_iald (pc := 30) cx hP (fv.at (by assumption) _) rfl rfl (by omega) dd_M_onwards_30 ?_
      refine lv_aload_n (pc := 31) hx hb dd_M_onwards_31 rfl (lv_at hl 1 rfl) ?_
      refine g_M_M_k (pc := 32) cx hP (by assumption) dd_M_onwards_32 ?_
      refine lv_icmp_ge (pc := 35) (tgt := 40) hx hb dd_M_onwards_35 (by decide) (fun h35 => ?_) (fun h35 => ?_)
      · -- 35: t to 40
        have hno : ¬ n_more x S c := fun q => q.elim h17 (fun q => absurd q.2 (Int32.not_lt.mpr h35))
        by_cases e3 : mI S 23 0 c = 3
        · -- phase 3
          exact absurd (e3.symm.trans h22) (by decide)
        by_cases e5 : mI S 23 0 c = 5
        · -- phase 5
          refine lv_iload_n (pc := 40) hx hb dd_M_onwards_40 rfl (lv_at hl 0 rfl) ?_
          refine lv_iconst (pc := 41) (v := 3) hx hb dd_M_onwards_41 (by decide) ?_
          refine lv_icmp_eq (pc := 42) (tgt := 50) hx hb dd_M_onwards_42 (by decide) (fun h42 => ?_) (fun h42 => ?_)
          · -- 42: t to 50
            exact absurd (e5.symm.trans h42) (by decide)
          · -- 42: f to 45
            refine lv_iload_n (pc := 45) hx hb dd_M_onwards_45 rfl (lv_at hl 0 rfl) ?_
            refine lv_iconst (pc := 46) (v := 5) hx hb dd_M_onwards_46 (by decide) ?_
            refine lv_icmp_ne (pc := 47) (tgt := 95) hx hb dd_M_onwards_47 (by decide) (fun h47 => ?_) (fun h47 => ?_)
            · -- 47: t to 95
              exact absurd e5 h47
            · -- 47: f to 50
              refine lv_aload_n (pc := 50) hx hb dd_M_onwards_50 rfl (lv_at hl 1 rfl) ?_
              refine g_M_M_results (pc := 51) cx hP (by assumption) dd_M_onwards_51 ?_
              refine lv_iload_n (pc := 54) hx hb dd_M_onwards_54 rfl (lv_at hl 2 rfl) ?_
              refine lv_iload_n (pc := 55) hx hb dd_M_onwards_55 rfl (lv_at hl 0 rfl) ?_
              refine lv_iconst (pc := 56) (v := 5) hx hb dd_M_onwards_56 (by decide) ?_
              refine lv_icmp_ne (pc := 57) (tgt := 69) hx hb dd_M_onwards_57 (by decide) (fun h57 => ?_) (fun h57 => ?_)
              · -- 57: t to 69
                exact absurd e5 h57
              · -- 57: f to 60
                refine lv_aload_n (pc := 60) hx hb dd_M_onwards_60 rfl (lv_at hl 1 rfl) ?_
                refine g_M_M_seen (pc := 61) cx hP (by assumption) dd_M_onwards_61 ?_
                refine lv_iload_n (pc := 64) hx hb dd_M_onwards_64 rfl (lv_at hl 2 rfl) ?_
                refine f_lald (pc := 65) cx hP (fv.at (by assumption) _) rfl rfl (by omega) dd_M_onwards_65 ?_
                refine lv_goto (pc := 66) (tgt := 75) hx hb dd_M_onwards_66 (by decide) ?_
                refine f_last (pc := 75) cx hP hS (fv.at (by assumption) _) (fun _ => rfl) rfl (by omega) dd_M_onwards_75 (fun H locs hP hS => ?_)
                refine lv_aload_n (pc := 76) hx hb dd_M_onwards_76 rfl (lv_at hl 1 rfl) ?_
                refine g_M_M_phase (pc := 77) cx hP (by assumption) dd_M_onwards_77 ?_
                refine lv_iload_n (pc := 80) hx hb dd_M_onwards_80 rfl (lv_at hl 2 rfl) ?_
                refine lv_iconst (pc := 81) (v := 0) hx hb dd_M_onwards_81 (by decide) ?_
                refine f_iast (pc := 82) cx hP hS (fv.at (by assumption) _) (fun _ => rfl) rfl (by omega) dd_M_onwards_82 (fun H locs hP hS => ?_)
                refine lv_aload_n (pc := 83) hx hb dd_M_onwards_83 rfl (lv_at hl 1 rfl) ?_
                refine g_M_M_ends (pc := 84) cx hP (by assumption) dd_M_onwards_84 ?_
                refine lv_iload_n (pc := 87) hx hb dd_M_onwards_87 rfl (lv_at hl 2 rfl) ?_
                refine lv_dup2_11 (pc := 88) hx hb dd_M_onwards_88 rfl rfl ?_
                refine f_iald (pc := 89) cx hP (fv.at (by assumption) _) rfl rfl (by omega) dd_M_onwards_89 ?_
                refine lv_iconst (pc := 90) (v := 1) hx hb dd_M_onwards_90 (by decide) ?_
                refine lv_iadd (pc := 91) hx hb dd_M_onwards_91 ?_
                refine f_iast (pc := 92) cx hP hS (fv.at (by assumption) _) (fun _ => rfl) rfl (by omega) dd_M_onwards_92 (fun H locs hP hS => ?_)
                refine lv_iconst (pc := 93) (v := 3) hx hb dd_M_onwards_93 (by decide) ?_
                exact f_iret (pc := 94) cx hr hlocks hP hS (by rw [q_onw, if_neg hno]; simp [*]) (by rw [e_onw, if_neg hno]; simp [n_endS, n_tagS, *]; try rfl) dd_M_onwards_94
        by_cases e1 : mI S 23 0 c = 1
        · -- phase 1
          exact absurd (e1.symm.trans h22) (by decide)
        by_cases e4 : mI S 23 0 c = 4
        · -- phase 4
          exact absurd (e4.symm.trans h22) (by decide)
        exact absurd h22 e5
      · -- 35: f to 38
        have hmo : n_more x S c := Or.inr ⟨h22, Int32.not_le.mp h35⟩
        refine lv_iconst (pc := 38) (v := 1) hx hb dd_M_onwards_38 (by decide) ?_
        exact f_iret (pc := 39) cx hr hlocks hP hS (by rw [q_onw, if_pos hmo]) (by rw [e_onw, if_pos hmo]) dd_M_onwards_39
