-- contracts of the reference, by wip/whole/gen/c_mod2.py
set_option maxHeartbeats 4000000 in
set_option maxRecDepth 100000 in
theorem ct_M_begin (l : Launch) (x : fy) (S : fm) (hM : fM x) (c : Nat) (ph : Int32) (hc : c < 5) (hO : fO x) (hl0 : mL S + 7 ≤ 256) : Met l mn_M_begin (gw_ws mn_M_begin cb_M_begin 4 none) ({ frames := 1, cells := 0, slots := 0, locals := 25 } : Room) (fPc x (S) [.ref (xa x 16 0), .int (nI c), .int ph]) (fQv x (n_begin x S c ph)) 0 0 (fun q => xs x ≤ q) := by
  refine f_met (by decide) (Nat.le_of_ble_eq_true rfl) ?_
  intro p e s m below meth c0 cx hr hlocks hnm hP hS ls hl
  have cx : fX rn_M cb_M_begin 4 p c0 s m [.ref (xa x 16 0), .int (nI c), .int ph].toArray x := cx
  have hx := cx.1.1
  have hb := cx.1.2.1
  have hl : lv_has ls 4 [(0, .ref (xa x 16 0)), (1, .int (nI c)), (2, .int ph)] := hl
  obtain ⟨w16, w23, w24, w25, w26, w27, w28, w29, w30, w31, w32, w33, w34, w35, w36, w37, w39, w40, w41, w42, w43, w44, w45, w46⟩ := hM
  have hN : xN x ≤ 7 := hO.2.2.2.1
  have loop : ∀ (n i : Nat) (H : Heap) (locs : List Loc), i + n = xN x → fP x (n_begs (n_beg0 S c ph) c ph (i)) H → fS x s.heap H locs → ∀ ls : Array Slot, lv_has ls 4 [(3, .int (nI i)), (0, .ref (xa x 16 0)), (1, .int (nI c)), (2, .int ph)] → W p l e ({ frames := 1, cells := 0, slots := 0, locals := 25 } : Room) s m [.ref (xa x 16 0), .int (nI c), .int ph].toArray below meth c0 H locs 0 0 (MQ below (fQv x (n_begin x S c ph)) [.ref (xa x 16 0), .int (nI c), .int ph].toArray s 0 0 (fun q => xs x ≤ q)) (F0 m 40 ls []) := by
    intro n
    induction n with
    | zero =>
      intro i H locs hi hP hS ls hl
      have hi : i = xN x := by omega
      subst hi
      refine lv_iload_n (pc := 40) hx hb dd_M_begin_40 rfl (lv_at hl 0 rfl) ?_
      refine lv_aload_n (pc := 41) hx hb dd_M_begin_41 rfl (lv_at hl 1 rfl) ?_
      refine g_M_M_n (pc := 42) cx hP (by assumption) dd_M_begin_42 ?_
      refine lv_icmp_ge (pc := 45) (tgt := 77) hx hb dd_M_begin_45 (by decide) (fun h45 => ?_) (fun h45 => ?_)
      · -- 45: t to 77
        exact f_vret (pc := 77) cx hr hlocks hP hS rfl dd_M_begin_77
      · -- 45: f to 48
        exact absurd ((nI_leI (by omega) (by omega)).mpr (Nat.le_refl _)) h45
    | succ n ih =>
      intro i H locs hi hP hS ls hl
      have hlt : mU (n_begs (n_beg0 S c ph) c ph (i)) 16 0 18 < 256 := by have h1 := n_begs_L (n_beg0 S c ph) c ph i; have h2 : mL (n_beg0 S c ph) = mL S := rfl; show mL _ < 256; omega
      refine lv_iload_n (pc := 40) hx hb dd_M_begin_40 rfl (lv_at hl 0 rfl) ?_
      refine lv_aload_n (pc := 41) hx hb dd_M_begin_41 rfl (lv_at hl 1 rfl) ?_
      refine g_M_M_n (pc := 42) cx hP (by assumption) dd_M_begin_42 ?_
      refine lv_icmp_ge (pc := 45) (tgt := 77) hx hb dd_M_begin_45 (by decide) (fun h45 => ?_) (fun h45 => ?_)
      · -- 45: t to 77
        exact absurd ((nI_leI (by omega) (by omega)).mp h45) (by omega)
      · -- 45: f to 48
        refine lv_aload_n (pc := 48) hx hb dd_M_begin_48 rfl (lv_at hl 1 rfl) ?_
        refine g_M_M_down (pc := 49) cx hP (by assumption) dd_M_begin_49 ?_
        refine lv_iload_n (pc := 52) hx hb dd_M_begin_52 rfl (lv_at hl 0 rfl) ?_
        refine f_zald (pc := 53) cx hP (fv.at (by assumption) _) rfl rfl (by omega) dd_M_begin_53 ?_
        refine f_neB (pc := 54) (tgt := 71) cx dd_M_begin_54 (by decide) (fun h54 => ?_) (fun h54 => ?_)
        · -- 54: t to 71
          have e0 : n_begs (n_beg0 S c ph) c ph (i) = n_begs (n_beg0 S c ph) c ph (i + 1) := by show _ = n_beg1 (n_begs (n_beg0 S c ph) c ph (i)) c i ph; unfold n_beg1; rw [if_pos h54]
          refine lv_iinc (pc := 71) (k := 0) (lv' := [(3, _), (0, _), (1, _), (2, _)]) hx hb dd_M_begin_71 hl rfl (f_inc1 i) (Nat.le_of_ble_eq_true rfl) rfl (fun ls hl => ?_)
          refine lv_goto (pc := 74) (tgt := 40) hx hb dd_M_begin_74 (by decide) ?_
          exact ih (i + 1) _ _ (by omega) (f_eqS hP e0) hS ls (lv_sub hl [0, 1, 2, 3] rfl)
        · -- 54: f to 57
          have e0 : n_send (n_begs (n_beg0 S c ph) c ph (i)) false c i ph (mI (n_begs (n_beg0 S c ph) c ph (i)) 24 0 c) = n_begs (n_beg0 S c ph) c ph (i + 1) := by show _ = n_beg1 (n_begs (n_beg0 S c ph) c ph (i)) c i ph; unfold n_beg1; rw [if_neg (by rw [h54]; decide)]
          refine lv_aload_n (pc := 57) hx hb dd_M_begin_57 rfl (lv_at hl 1 rfl) ?_
          refine lv_iconst (pc := 58) (v := b2 false) hx hb dd_M_begin_58 (by decide) ?_
          refine lv_iload_n (pc := 59) hx hb dd_M_begin_59 rfl (lv_at hl 2 rfl) ?_
          refine lv_iload_n (pc := 60) hx hb dd_M_begin_60 rfl (lv_at hl 0 rfl) ?_
          refine lv_iload_n (pc := 61) hx hb dd_M_begin_61 rfl (lv_at hl 3 rfl) ?_
          refine lv_aload_n (pc := 62) hx hb dd_M_begin_62 rfl (lv_at hl 1 rfl) ?_
          refine g_M_M_age (pc := 63) cx hP (by assumption) dd_M_begin_63 ?_
          refine lv_iload_n (pc := 66) hx hb dd_M_begin_66 rfl (lv_at hl 2 rfl) ?_
          refine f_iald (pc := 67) cx hP (fv.at (by assumption) _) rfl rfl (by omega) dd_M_begin_67 ?_
          refine k_M_M_send (pc := 68) cx hl hP hS (by assumption) (ct_M_send l x _ ⟨w16, w23, w24, w25, w26, w27, w28, w29, w30, w31, w32, w33, w34, w35, w36, w37, w39, w40, w41, w42, w43, w44, w45, w46⟩ false c i ph _ hc hlt) ⟨⟨rfl, rfl⟩, ⟨(Nat.le_of_ble_eq_true rfl), (Nat.le_of_ble_eq_true rfl)⟩, (Nat.le_of_ble_eq_true rfl), (Nat.le_of_ble_eq_true rfl)⟩ (Nat.le_of_ble_eq_true rfl) dd_M_begin_68 (fun H locs hP hS => ?_)
          refine lv_iinc (pc := 71) (k := 0) (lv' := [(3, _), (0, _), (1, _), (2, _)]) hx hb dd_M_begin_71 hl rfl (f_inc1 i) (Nat.le_of_ble_eq_true rfl) rfl (fun ls hl => ?_)
          refine lv_goto (pc := 74) (tgt := 40) hx hb dd_M_begin_74 (by decide) ?_
          exact ih (i + 1) _ _ (by omega) (f_eqS hP e0) hS ls (lv_sub hl [0, 1, 2, 3] rfl)
  refine lv_aload_n (pc := 0) hx hb dd_M_begin_0 rfl (lv_at hl 0 rfl) ?_
  refine g_M_M_phase (pc := 1) cx hP (by assumption) dd_M_begin_1 ?_
  refine lv_iload_n (pc := 4) hx hb dd_M_begin_4 rfl (lv_at hl 1 rfl) ?_
  refine lv_iload_n (pc := 5) hx hb dd_M_begin_5 rfl (lv_at hl 2 rfl) ?_
  refine f_iast (pc := 6) cx hP hS (fv.at (by assumption) _) (fun _ => rfl) rfl (by omega) dd_M_begin_6 (fun H locs hP hS => ?_)
  refine lv_aload_n (pc := 7) hx hb dd_M_begin_7 rfl (lv_at hl 0 rfl) ?_
  refine g_M_M_age (pc := 8) cx hP (by assumption) dd_M_begin_8 ?_
  refine lv_iload_n (pc := 11) hx hb dd_M_begin_11 rfl (lv_at hl 1 rfl) ?_
  refine lv_dup2_11 (pc := 12) hx hb dd_M_begin_12 rfl rfl ?_
  refine f_iald (pc := 13) cx hP (fv.at (by assumption) _) rfl rfl (by omega) dd_M_begin_13 ?_
  refine lv_iconst (pc := 14) (v := 1) hx hb dd_M_begin_14 (by decide) ?_
  refine lv_iadd (pc := 15) hx hb dd_M_begin_15 ?_
  refine f_iast (pc := 16) cx hP hS (fv.at (by assumption) _) (fun _ => rfl) rfl (by omega) dd_M_begin_16 (fun H locs hP hS => ?_)
  refine lv_aload_n (pc := 17) hx hb dd_M_begin_17 rfl (lv_at hl 0 rfl) ?_
  refine g_M_M_counted (pc := 18) cx hP (by assumption) dd_M_begin_18 ?_
  refine lv_iload_n (pc := 21) hx hb dd_M_begin_21 rfl (lv_at hl 1 rfl) ?_
  refine lv_iconst (pc := 22) (v := 0) hx hb dd_M_begin_22 (by decide) ?_
  refine f_iast (pc := 23) cx hP hS (fv.at (by assumption) _) (fun _ => rfl) rfl (by omega) dd_M_begin_23 (fun H locs hP hS => ?_)
  refine lv_aload_n (pc := 24) hx hb dd_M_begin_24 rfl (lv_at hl 0 rfl) ?_
  refine g_M_M_bearing (pc := 25) cx hP (by assumption) dd_M_begin_25 ?_
  refine lv_iload_n (pc := 28) hx hb dd_M_begin_28 rfl (lv_at hl 1 rfl) ?_
  refine lv_iconst (pc := 29) (v := 0) hx hb dd_M_begin_29 (by decide) ?_
  refine f_iast (pc := 30) cx hP hS (fv.at (by assumption) _) (fun _ => rfl) rfl (by omega) dd_M_begin_30 (fun H locs hP hS => ?_)
  refine lv_aload_n (pc := 31) hx hb dd_M_begin_31 rfl (lv_at hl 0 rfl) ?_
  refine g_M_M_best (pc := 32) cx hP (by assumption) dd_M_begin_32 ?_
  refine lv_iload_n (pc := 35) hx hb dd_M_begin_35 rfl (lv_at hl 1 rfl) ?_
  refine lv_iconst (pc := 36) (v := 0) hx hb dd_M_begin_36 (by decide) ?_
  refine f_iast (pc := 37) cx hP hS (fv.at (by assumption) _) (fun _ => rfl) rfl (by omega) dd_M_begin_37 (fun H locs hP hS => ?_)
  refine lv_iconst (pc := 38) (v := nI 0) hx hb dd_M_begin_38 (by decide) ?_
  refine lv_istore_n (pc := 39) (lv' := [(3, _), (0, _), (1, _), (2, _)]) hx hb dd_M_begin_39 rfl hl (Nat.le_of_ble_eq_true rfl) rfl (fun ls hl => ?_)
  exact loop (xN x) 0 _ _ (by omega) (f_eqS hP rfl) hS ls (lv_sub hl [0, 1, 2, 3] rfl)
set_option maxHeartbeats 4000000 in
set_option maxRecDepth 100000 in
theorem ct_M_refusal_no (l : Launch) (x : fy) (S : fm) (hM : fM x) (z : Int32) (hz : q_cl z = false) : Met l mn_M_refusal (gw_ws mn_M_refusal cb_M_refusal 2 (some .int)) ({ frames := 2, cells := 0, slots := 0, locals := 49 } : Room) (fPc x (S) [.ref (xa x 16 0), .int z]) (fQi x (S) (-1)) 0 0 (fun q => xs x ≤ q) := by
  refine f_met (by decide) (Nat.le_of_ble_eq_true rfl) ?_
  intro p e s m below meth c0 cx hr hlocks hnm hP hS ls hl
  have cx : fX rn_M cb_M_refusal 2 p c0 s m [.ref (xa x 16 0), .int z].toArray x := cx
  have hx := cx.1.1
  have hb := cx.1.2.1
  have hl : lv_has ls 2 [(0, .ref (xa x 16 0)), (1, .int z)] := hl
  obtain ⟨w16, w23, w24, w25, w26, w27, w28, w29, w30, w31, w32, w33, w34, w35, w36, w37, w39, w40, w41, w42, w43, w44, w45, w46⟩ := hM
  refine lv_aload_n (pc := 0) hx hb dd_M_refusal_0 rfl (lv_at hl 0 rfl) ?_
  refine lv_iload_n (pc := 1) hx hb dd_M_refusal_1 rfl (lv_at hl 1 rfl) ?_
  refine k_M_M_noClient (pc := 2) cx hl hP hS (by assumption) (ct_M_noClient l x _ ⟨w16, w23, w24, w25, w26, w27, w28, w29, w30, w31, w32, w33, w34, w35, w36, w37, w39, w40, w41, w42, w43, w44, w45, w46⟩ z) ⟨⟨rfl, rfl⟩, ⟨(Nat.le_of_ble_eq_true rfl), (Nat.le_of_ble_eq_true rfl)⟩, (Nat.le_of_ble_eq_true rfl), (Nat.le_of_ble_eq_true rfl)⟩ (Nat.le_of_ble_eq_true rfl) dd_M_refusal_2 (fun H locs hP hS => ?_)
  refine f_eqB (pc := 5) (tgt := 10) cx dd_M_refusal_5 (by decide) (fun h5 => ?_) (fun h5 => ?_)
  · -- 5: t to 10
    exact absurd ((congrArg not hz).symm.trans h5) (by decide)
  · -- 5: f to 8
    refine lv_iconst (pc := 8) (v := (-1)) hx hb dd_M_refusal_8 (by decide) ?_
    exact f_iret (pc := 9) cx hr hlocks hP hS rfl rfl dd_M_refusal_9
set_option maxHeartbeats 4000000 in
set_option maxRecDepth 100000 in
theorem ct_M_refusal (l : Launch) (x : fy) (S : fm) (hM : fM x) (c : Nat) (hc : c < 5) (hO : fO x) (hl0 : mU S 16 0 18 ≤ 256) : Met l mn_M_refusal (gw_ws mn_M_refusal cb_M_refusal 2 (some .int)) ({ frames := 2, cells := 0, slots := 0, locals := 49 } : Room) (fPc x (S) [.ref (xa x 16 0), .int (nI c)]) (fQi x (S) (n_refuse x S c)) 0 0 (fun q => xs x ≤ q) := by
  refine f_met (by decide) (Nat.le_of_ble_eq_true rfl) ?_
  intro p e s m below meth c0 cx hr hlocks hnm hP hS ls hl
  have cx : fX rn_M cb_M_refusal 2 p c0 s m [.ref (xa x 16 0), .int (nI c)].toArray x := cx
  have hx := cx.1.1
  have hb := cx.1.2.1
  have hl : lv_has ls 2 [(0, .ref (xa x 16 0)), (1, .int (nI c))] := hl
  obtain ⟨w16, w23, w24, w25, w26, w27, w28, w29, w30, w31, w32, w33, w34, w35, w36, w37, w39, w40, w41, w42, w43, w44, w45, w46⟩ := hM
  refine lv_aload_n (pc := 0) hx hb dd_M_refusal_0 rfl (lv_at hl 0 rfl) ?_
  refine lv_iload_n (pc := 1) hx hb dd_M_refusal_1 rfl (lv_at hl 1 rfl) ?_
  refine k_M_M_noClient (pc := 2) cx hl hP hS (by assumption) (ct_M_noClient l x _ ⟨w16, w23, w24, w25, w26, w27, w28, w29, w30, w31, w32, w33, w34, w35, w36, w37, w39, w40, w41, w42, w43, w44, w45, w46⟩ (nI c)) ⟨⟨rfl, rfl⟩, ⟨(Nat.le_of_ble_eq_true rfl), (Nat.le_of_ble_eq_true rfl)⟩, (Nat.le_of_ble_eq_true rfl), (Nat.le_of_ble_eq_true rfl)⟩ (Nat.le_of_ble_eq_true rfl) dd_M_refusal_2 (fun H locs hP hS => ?_)
  refine f_eqB (pc := 5) (tgt := 10) cx dd_M_refusal_5 (by decide) (fun h5 => ?_) (fun h5 => ?_)
  · -- 5: t to 10
    refine lv_aload_n (pc := 10) hx hb dd_M_refusal_10 rfl (lv_at hl 0 rfl) ?_
    refine g_M_M_phase (pc := 11) cx hP (by assumption) dd_M_refusal_11 ?_
    refine lv_iload_n (pc := 14) hx hb dd_M_refusal_14 rfl (lv_at hl 1 rfl) ?_
    refine f_iald (pc := 15) cx hP (fv.at (by assumption) _) rfl rfl (by omega) dd_M_refusal_15 ?_
    refine lv_bipush (pc := 16) (v := 6) hx hb dd_M_refusal_16 (by decide) ?_
    refine lv_icmp_ne (pc := 18) (tgt := 24) hx hb dd_M_refusal_18 (by decide) (fun h18 => ?_) (fun h18 => ?_)
    · -- 18: t to 24
      refine lv_aload_n (pc := 24) hx hb dd_M_refusal_24 rfl (lv_at hl 0 rfl) ?_
      refine g_M_M_phase (pc := 25) cx hP (by assumption) dd_M_refusal_25 ?_
      refine lv_iload_n (pc := 28) hx hb dd_M_refusal_28 rfl (lv_at hl 1 rfl) ?_
      refine f_iald (pc := 29) cx hP (fv.at (by assumption) _) rfl rfl (by omega) dd_M_refusal_29 ?_
      refine lv_if_eq (pc := 30) (tgt := 36) hx hb dd_M_refusal_30 (by decide) (fun h30 => ?_) (fun h30 => ?_)
      · -- 30: t to 36
        refine lv_aload_n (pc := 36) hx hb dd_M_refusal_36 rfl (lv_at hl 0 rfl) ?_
        refine lv_iload_n (pc := 37) hx hb dd_M_refusal_37 rfl (lv_at hl 1 rfl) ?_
        refine k_M_M_crowded (pc := 38) cx hl hP hS (by assumption) (ct_M_crowded l x S ⟨w16, w23, w24, w25, w26, w27, w28, w29, w30, w31, w32, w33, w34, w35, w36, w37, w39, w40, w41, w42, w43, w44, w45, w46⟩ c hO hl0) ⟨⟨rfl, rfl⟩, ⟨(Nat.le_of_ble_eq_true rfl), (Nat.le_of_ble_eq_true rfl)⟩, (Nat.le_of_ble_eq_true rfl), (Nat.le_of_ble_eq_true rfl)⟩ (Nat.le_of_ble_eq_true rfl) dd_M_refusal_38 (fun H locs hP hS => ?_)
        refine f_eqB (pc := 41) (tgt := 49) cx dd_M_refusal_41 (by decide) (fun h41 => ?_) (fun h41 => ?_)
        · -- 41: t to 49
          refine lv_iconst (pc := 49) (v := 0) hx hb dd_M_refusal_49 (by decide) ?_
          exact f_iret (pc := 50) cx hr hlocks hP hS (by simp [n_refuse, *]) rfl dd_M_refusal_50
        · -- 41: f to 44
          refine lv_bipush (pc := 44) (v := (-4)) hx hb dd_M_refusal_44 (by decide) ?_
          refine lv_goto (pc := 46) (tgt := 50) hx hb dd_M_refusal_46 (by decide) ?_
          exact f_iret (pc := 50) cx hr hlocks hP hS (by simp [n_refuse, *]) rfl dd_M_refusal_50
      · -- 30: f to 33
        refine lv_bipush (pc := 33) (v := (-3)) hx hb dd_M_refusal_33 (by decide) ?_
        exact f_iret (pc := 35) cx hr hlocks hP hS (by simp [n_refuse, *]) rfl dd_M_refusal_35
    · -- 18: f to 21
      refine lv_bipush (pc := 21) (v := (-2)) hx hb dd_M_refusal_21 (by decide) ?_
      exact f_iret (pc := 23) cx hr hlocks hP hS (by simp [n_refuse, *]) rfl dd_M_refusal_23
  · -- 5: f to 8
    exact absurd ((congrArg not (q_cl_in hc)).symm.trans h5) (by decide)
set_option maxHeartbeats 4000000 in
set_option maxRecDepth 100000 in
theorem ct_M_write_no (l : Launch) (x : fy) (S : fm) (hM : fM x) (z : Int32) (w : Int64) (hz : q_cl z = false) : Met l mn_M_write (gw_ws mn_M_write cb_M_write 5 (some .int)) ({ frames := 3, cells := 0, slots := 0, locals := 70 } : Room) (fPc x (S) [.ref (xa x 16 0), .int z, .long w]) (fQi x (S) (-1)) 0 0 (fun q => xs x ≤ q) := by
  refine f_met (by decide) (Nat.le_of_ble_eq_true rfl) ?_
  intro p e s m below meth c0 cx hr hlocks hnm hP hS ls hl
  have cx : fX rn_M cb_M_write 5 p c0 s m [.ref (xa x 16 0), .int z, .long w].toArray x := cx
  have hx := cx.1.1
  have hb := cx.1.2.1
  have hl : lv_has ls 5 [(0, .ref (xa x 16 0)), (1, .int z), (2, .long w)] := hl
  obtain ⟨w16, w23, w24, w25, w26, w27, w28, w29, w30, w31, w32, w33, w34, w35, w36, w37, w39, w40, w41, w42, w43, w44, w45, w46⟩ := hM
  refine lv_aload_n (pc := 0) hx hb dd_M_write_0 rfl (lv_at hl 0 rfl) ?_
  refine lv_iload_n (pc := 1) hx hb dd_M_write_1 rfl (lv_at hl 1 rfl) ?_
  refine k_M_M_refusal (pc := 2) cx hl hP hS (by assumption) (ct_M_refusal_no l x S ⟨w16, w23, w24, w25, w26, w27, w28, w29, w30, w31, w32, w33, w34, w35, w36, w37, w39, w40, w41, w42, w43, w44, w45, w46⟩ z hz) ⟨⟨rfl, rfl⟩, ⟨(Nat.le_of_ble_eq_true rfl), (Nat.le_of_ble_eq_true rfl)⟩, (Nat.le_of_ble_eq_true rfl), (Nat.le_of_ble_eq_true rfl)⟩ (Nat.le_of_ble_eq_true rfl) dd_M_write_2 (fun H locs hP hS => ?_)
  refine lv_istore (pc := 5) (lv' := [(4, _), (0, _), (1, _), (2, _)]) hx hb dd_M_write_5 hl (Nat.le_of_ble_eq_true rfl) rfl (fun ls hl => ?_)
  refine lv_iload (pc := 7) hx hb dd_M_write_7 (lv_at hl 0 rfl) ?_
  refine lv_if_ne (pc := 9) (tgt := 25) hx hb dd_M_write_9 (by decide) (fun h9 => ?_) (fun h9 => ?_)
  · -- 9: t to 25
    refine lv_iload (pc := 25) hx hb dd_M_write_25 (lv_at hl 0 rfl) ?_
    exact f_iret (pc := 27) cx hr hlocks hP hS rfl rfl dd_M_write_27
  · -- 9: f to 12
    exact absurd h9 (by decide)
set_option maxHeartbeats 4000000 in
set_option maxRecDepth 100000 in
theorem ct_M_write (l : Launch) (x : fy) (S : fm) (hM : fM x) (c : Nat) (w : Int64) (hc : c < 5) (hO : fO x) (hl0 : mL S + 7 ≤ 256) : Met l mn_M_write (gw_ws mn_M_write cb_M_write 5 (some .int)) ({ frames := 3, cells := 0, slots := 0, locals := 70 } : Room) (fPc x (S) [.ref (xa x 16 0), .int (nI c), .long w]) (fQi x (n_write x S c w) (n_refuse x S c)) 0 0 (fun q => xs x ≤ q) := by
  refine f_met (by decide) (Nat.le_of_ble_eq_true rfl) ?_
  intro p e s m below meth c0 cx hr hlocks hnm hP hS ls hl
  have cx : fX rn_M cb_M_write 5 p c0 s m [.ref (xa x 16 0), .int (nI c), .long w].toArray x := cx
  have hx := cx.1.1
  have hb := cx.1.2.1
  have hl : lv_has ls 5 [(0, .ref (xa x 16 0)), (1, .int (nI c)), (2, .long w)] := hl
  obtain ⟨w16, w23, w24, w25, w26, w27, w28, w29, w30, w31, w32, w33, w34, w35, w36, w37, w39, w40, w41, w42, w43, w44, w45, w46⟩ := hM
  have hl1 : mU S 16 0 18 ≤ 256 := by have : mL S = mU S 16 0 18 := rfl; omega
  refine lv_aload_n (pc := 0) hx hb dd_M_write_0 rfl (lv_at hl 0 rfl) ?_
  refine lv_iload_n (pc := 1) hx hb dd_M_write_1 rfl (lv_at hl 1 rfl) ?_
  refine k_M_M_refusal (pc := 2) cx hl hP hS (by assumption) (ct_M_refusal l x S ⟨w16, w23, w24, w25, w26, w27, w28, w29, w30, w31, w32, w33, w34, w35, w36, w37, w39, w40, w41, w42, w43, w44, w45, w46⟩ c hc hO hl1) ⟨⟨rfl, rfl⟩, ⟨(Nat.le_of_ble_eq_true rfl), (Nat.le_of_ble_eq_true rfl)⟩, (Nat.le_of_ble_eq_true rfl), (Nat.le_of_ble_eq_true rfl)⟩ (Nat.le_of_ble_eq_true rfl) dd_M_write_2 (fun H locs hP hS => ?_)
  refine lv_istore (pc := 5) (lv' := [(4, _), (0, _), (1, _), (2, _)]) hx hb dd_M_write_5 hl (Nat.le_of_ble_eq_true rfl) rfl (fun ls hl => ?_)
  refine lv_iload (pc := 7) hx hb dd_M_write_7 (lv_at hl 0 rfl) ?_
  refine lv_if_ne (pc := 9) (tgt := 25) hx hb dd_M_write_9 (by decide) (fun h9 => ?_) (fun h9 => ?_)
  · -- 9: t to 25
    refine lv_iload (pc := 25) hx hb dd_M_write_25 (lv_at hl 0 rfl) ?_
    exact f_iret (pc := 27) cx hr hlocks hP hS rfl (by simp [n_write, h9]) dd_M_write_27
  · -- 9: f to 12
    refine lv_aload_n (pc := 12) hx hb dd_M_write_12 rfl (lv_at hl 1 rfl) ?_
    refine g_M_M_block (pc := 13) cx hP (by assumption) dd_M_write_13 ?_
    refine lv_iload_n (pc := 16) hx hb dd_M_write_16 rfl (lv_at hl 2 rfl) ?_
    refine lv_lload_n (pc := 17) hx hb dd_M_write_17 rfl (lv_at hl 3 rfl) ?_
    refine f_last (pc := 18) cx hP hS (fv.at (by assumption) _) (fun _ => rfl) rfl (by omega) dd_M_write_18 (fun H locs hP hS => ?_)
    refine lv_aload_n (pc := 19) hx hb dd_M_write_19 rfl (lv_at hl 1 rfl) ?_
    refine lv_iload_n (pc := 20) hx hb dd_M_write_20 rfl (lv_at hl 2 rfl) ?_
    refine lv_iconst (pc := 21) (v := 1) hx hb dd_M_write_21 (by decide) ?_
    refine k_M_M_begin (pc := 22) cx hl hP hS (by assumption) (ct_M_begin l x _ ⟨w16, w23, w24, w25, w26, w27, w28, w29, w30, w31, w32, w33, w34, w35, w36, w37, w39, w40, w41, w42, w43, w44, w45, w46⟩ c _ hc hO hl0) ⟨⟨rfl, rfl⟩, ⟨(Nat.le_of_ble_eq_true rfl), (Nat.le_of_ble_eq_true rfl)⟩, (Nat.le_of_ble_eq_true rfl), (Nat.le_of_ble_eq_true rfl)⟩ (Nat.le_of_ble_eq_true rfl) dd_M_write_22 (fun H locs hP hS => ?_)
    refine lv_iload (pc := 25) hx hb dd_M_write_25 (lv_at hl 0 rfl) ?_
    exact f_iret (pc := 27) cx hr hlocks hP hS rfl (by simp [n_write, h9]) dd_M_write_27
set_option maxHeartbeats 4000000 in
set_option maxRecDepth 100000 in
theorem ct_M_read_no (l : Launch) (x : fy) (S : fm) (hM : fM x) (z : Int32) (hz : q_cl z = false) : Met l mn_M_read (gw_ws mn_M_read cb_M_read 3 (some .int)) ({ frames := 3, cells := 0, slots := 0, locals := 70 } : Room) (fPc x (S) [.ref (xa x 16 0), .int z]) (fQi x (S) (-1)) 0 0 (fun q => xs x ≤ q) := by
  refine f_met (by decide) (Nat.le_of_ble_eq_true rfl) ?_
  intro p e s m below meth c0 cx hr hlocks hnm hP hS ls hl
  have cx : fX rn_M cb_M_read 3 p c0 s m [.ref (xa x 16 0), .int z].toArray x := cx
  have hx := cx.1.1
  have hb := cx.1.2.1
  have hl : lv_has ls 3 [(0, .ref (xa x 16 0)), (1, .int z)] := hl
  obtain ⟨w16, w23, w24, w25, w26, w27, w28, w29, w30, w31, w32, w33, w34, w35, w36, w37, w39, w40, w41, w42, w43, w44, w45, w46⟩ := hM
  refine lv_aload_n (pc := 0) hx hb dd_M_read_0 rfl (lv_at hl 0 rfl) ?_
  refine lv_iload_n (pc := 1) hx hb dd_M_read_1 rfl (lv_at hl 1 rfl) ?_
  refine k_M_M_refusal (pc := 2) cx hl hP hS (by assumption) (ct_M_refusal_no l x S ⟨w16, w23, w24, w25, w26, w27, w28, w29, w30, w31, w32, w33, w34, w35, w36, w37, w39, w40, w41, w42, w43, w44, w45, w46⟩ z hz) ⟨⟨rfl, rfl⟩, ⟨(Nat.le_of_ble_eq_true rfl), (Nat.le_of_ble_eq_true rfl)⟩, (Nat.le_of_ble_eq_true rfl), (Nat.le_of_ble_eq_true rfl)⟩ (Nat.le_of_ble_eq_true rfl) dd_M_read_2 (fun H locs hP hS => ?_)
  refine lv_istore_n (pc := 5) (lv' := [(2, _), (0, _), (1, _)]) hx hb dd_M_read_5 rfl hl (Nat.le_of_ble_eq_true rfl) rfl (fun ls hl => ?_)
  refine lv_iload_n (pc := 6) hx hb dd_M_read_6 rfl (lv_at hl 0 rfl) ?_
  refine lv_if_ne (pc := 7) (tgt := 16) hx hb dd_M_read_7 (by decide) (fun h7 => ?_) (fun h7 => ?_)
  · -- 7: t to 16
    refine lv_iload_n (pc := 16) hx hb dd_M_read_16 rfl (lv_at hl 0 rfl) ?_
    exact f_iret (pc := 17) cx hr hlocks hP hS rfl rfl dd_M_read_17
  · -- 7: f to 10
    exact absurd h7 (by decide)
set_option maxHeartbeats 4000000 in
set_option maxRecDepth 100000 in
theorem ct_M_read (l : Launch) (x : fy) (S : fm) (hM : fM x) (c : Nat) (hc : c < 5) (hO : fO x) (hl0 : mL S + 7 ≤ 256) : Met l mn_M_read (gw_ws mn_M_read cb_M_read 3 (some .int)) ({ frames := 3, cells := 0, slots := 0, locals := 70 } : Room) (fPc x (S) [.ref (xa x 16 0), .int (nI c)]) (fQi x (n_read x S c) (n_refuse x S c)) 0 0 (fun q => xs x ≤ q) := by
  refine f_met (by decide) (Nat.le_of_ble_eq_true rfl) ?_
  intro p e s m below meth c0 cx hr hlocks hnm hP hS ls hl
  have cx : fX rn_M cb_M_read 3 p c0 s m [.ref (xa x 16 0), .int (nI c)].toArray x := cx
  have hx := cx.1.1
  have hb := cx.1.2.1
  have hl : lv_has ls 3 [(0, .ref (xa x 16 0)), (1, .int (nI c))] := hl
  obtain ⟨w16, w23, w24, w25, w26, w27, w28, w29, w30, w31, w32, w33, w34, w35, w36, w37, w39, w40, w41, w42, w43, w44, w45, w46⟩ := hM
  have hl1 : mU S 16 0 18 ≤ 256 := by have : mL S = mU S 16 0 18 := rfl; omega
  refine lv_aload_n (pc := 0) hx hb dd_M_read_0 rfl (lv_at hl 0 rfl) ?_
  refine lv_iload_n (pc := 1) hx hb dd_M_read_1 rfl (lv_at hl 1 rfl) ?_
  refine k_M_M_refusal (pc := 2) cx hl hP hS (by assumption) (ct_M_refusal l x S ⟨w16, w23, w24, w25, w26, w27, w28, w29, w30, w31, w32, w33, w34, w35, w36, w37, w39, w40, w41, w42, w43, w44, w45, w46⟩ c hc hO hl1) ⟨⟨rfl, rfl⟩, ⟨(Nat.le_of_ble_eq_true rfl), (Nat.le_of_ble_eq_true rfl)⟩, (Nat.le_of_ble_eq_true rfl), (Nat.le_of_ble_eq_true rfl)⟩ (Nat.le_of_ble_eq_true rfl) dd_M_read_2 (fun H locs hP hS => ?_)
  refine lv_istore_n (pc := 5) (lv' := [(2, _), (0, _), (1, _)]) hx hb dd_M_read_5 rfl hl (Nat.le_of_ble_eq_true rfl) rfl (fun ls hl => ?_)
  refine lv_iload_n (pc := 6) hx hb dd_M_read_6 rfl (lv_at hl 0 rfl) ?_
  refine lv_if_ne (pc := 7) (tgt := 16) hx hb dd_M_read_7 (by decide) (fun h7 => ?_) (fun h7 => ?_)
  · -- 7: t to 16
    refine lv_iload_n (pc := 16) hx hb dd_M_read_16 rfl (lv_at hl 0 rfl) ?_
    exact f_iret (pc := 17) cx hr hlocks hP hS rfl (by simp [n_read, h7]) dd_M_read_17
  · -- 7: f to 10
    refine lv_aload_n (pc := 10) hx hb dd_M_read_10 rfl (lv_at hl 1 rfl) ?_
    refine lv_iload_n (pc := 11) hx hb dd_M_read_11 rfl (lv_at hl 2 rfl) ?_
    refine lv_iconst (pc := 12) (v := 4) hx hb dd_M_read_12 (by decide) ?_
    refine k_M_M_begin (pc := 13) cx hl hP hS (by assumption) (ct_M_begin l x _ ⟨w16, w23, w24, w25, w26, w27, w28, w29, w30, w31, w32, w33, w34, w35, w36, w37, w39, w40, w41, w42, w43, w44, w45, w46⟩ c _ hc hO hl0) ⟨⟨rfl, rfl⟩, ⟨(Nat.le_of_ble_eq_true rfl), (Nat.le_of_ble_eq_true rfl)⟩, (Nat.le_of_ble_eq_true rfl), (Nat.le_of_ble_eq_true rfl)⟩ (Nat.le_of_ble_eq_true rfl) dd_M_read_13 (fun H locs hP hS => ?_)
    refine lv_iload_n (pc := 16) hx hb dd_M_read_16 rfl (lv_at hl 0 rfl) ?_
    exact f_iret (pc := 17) cx hr hlocks hP hS rfl (by simp [n_read, h7]) dd_M_read_17
set_option maxHeartbeats 4000000 in
set_option maxRecDepth 100000 in
theorem ct_M_again_no (l : Launch) (x : fy) (S : fm) (hM : fM x) (z : Int32) (hz : q_cl z = false) : Met l mn_M_again (gw_ws mn_M_again cb_M_again 2 (some .int)) ({ frames := 2, cells := 0, slots := 0, locals := 49 } : Room) (fPc x (S) [.ref (xa x 16 0), .int z]) (fQi x (S) (-1)) 0 0 (fun q => xs x ≤ q) := by
  refine f_met (by decide) (Nat.le_of_ble_eq_true rfl) ?_
  intro p e s m below meth c0 cx hr hlocks hnm hP hS ls hl
  have cx : fX rn_M cb_M_again 2 p c0 s m [.ref (xa x 16 0), .int z].toArray x := cx
  have hx := cx.1.1
  have hb := cx.1.2.1
  have hl : lv_has ls 2 [(0, .ref (xa x 16 0)), (1, .int z)] := hl
  obtain ⟨w16, w23, w24, w25, w26, w27, w28, w29, w30, w31, w32, w33, w34, w35, w36, w37, w39, w40, w41, w42, w43, w44, w45, w46⟩ := hM
  refine lv_aload_n (pc := 0) hx hb dd_M_again_0 rfl (lv_at hl 0 rfl) ?_
  refine lv_iload_n (pc := 1) hx hb dd_M_again_1 rfl (lv_at hl 1 rfl) ?_
  refine k_M_M_noClient (pc := 2) cx hl hP hS (by assumption) (ct_M_noClient l x _ ⟨w16, w23, w24, w25, w26, w27, w28, w29, w30, w31, w32, w33, w34, w35, w36, w37, w39, w40, w41, w42, w43, w44, w45, w46⟩ z) ⟨⟨rfl, rfl⟩, ⟨(Nat.le_of_ble_eq_true rfl), (Nat.le_of_ble_eq_true rfl)⟩, (Nat.le_of_ble_eq_true rfl), (Nat.le_of_ble_eq_true rfl)⟩ (Nat.le_of_ble_eq_true rfl) dd_M_again_2 (fun H locs hP hS => ?_)
  refine f_eqB (pc := 5) (tgt := 10) cx dd_M_again_5 (by decide) (fun h5 => ?_) (fun h5 => ?_)
  · -- 5: t to 10
    exact absurd ((congrArg not hz).symm.trans h5) (by decide)
  · -- 5: f to 8
    refine lv_iconst (pc := 8) (v := (-1)) hx hb dd_M_again_8 (by decide) ?_
    exact f_iret (pc := 9) cx hr hlocks hP hS rfl rfl dd_M_again_9
set_option maxHeartbeats 4000000 in
set_option maxRecDepth 100000 in
theorem ct_M_again (l : Launch) (x : fy) (S : fm) (hM : fM x) (c : Nat) (hc : c < 5) (hO : fO x) (hl0 : mL S + 7 ≤ 256) : Met l mn_M_again (gw_ws mn_M_again cb_M_again 2 (some .int)) ({ frames := 2, cells := 0, slots := 0, locals := 49 } : Room) (fPc x (S) [.ref (xa x 16 0), .int (nI c)]) (fQi x (n_again x S c) (n_agr x S c)) 0 0 (fun q => xs x ≤ q) := by
  refine f_met (by decide) (Nat.le_of_ble_eq_true rfl) ?_
  intro p e s m below meth c0 cx hr hlocks hnm hP hS ls hl
  have cx : fX rn_M cb_M_again 2 p c0 s m [.ref (xa x 16 0), .int (nI c)].toArray x := cx
  have hx := cx.1.1
  have hb := cx.1.2.1
  have hl : lv_has ls 2 [(0, .ref (xa x 16 0)), (1, .int (nI c))] := hl
  obtain ⟨w16, w23, w24, w25, w26, w27, w28, w29, w30, w31, w32, w33, w34, w35, w36, w37, w39, w40, w41, w42, w43, w44, w45, w46⟩ := hM
  have hl1 : mU S 16 0 18 ≤ 256 := by have : mL S = mU S 16 0 18 := rfl; omega
  refine lv_aload_n (pc := 0) hx hb dd_M_again_0 rfl (lv_at hl 0 rfl) ?_
  refine lv_iload_n (pc := 1) hx hb dd_M_again_1 rfl (lv_at hl 1 rfl) ?_
  refine k_M_M_noClient (pc := 2) cx hl hP hS (by assumption) (ct_M_noClient l x _ ⟨w16, w23, w24, w25, w26, w27, w28, w29, w30, w31, w32, w33, w34, w35, w36, w37, w39, w40, w41, w42, w43, w44, w45, w46⟩ (nI c)) ⟨⟨rfl, rfl⟩, ⟨(Nat.le_of_ble_eq_true rfl), (Nat.le_of_ble_eq_true rfl)⟩, (Nat.le_of_ble_eq_true rfl), (Nat.le_of_ble_eq_true rfl)⟩ (Nat.le_of_ble_eq_true rfl) dd_M_again_2 (fun H locs hP hS => ?_)
  refine f_eqB (pc := 5) (tgt := 10) cx dd_M_again_5 (by decide) (fun h5 => ?_) (fun h5 => ?_)
  · -- 5: t to 10
    refine lv_aload_n (pc := 10) hx hb dd_M_again_10 rfl (lv_at hl 0 rfl) ?_
    refine g_M_M_phase (pc := 11) cx hP (by assumption) dd_M_again_11 ?_
    refine lv_iload_n (pc := 14) hx hb dd_M_again_14 rfl (lv_at hl 1 rfl) ?_
    refine f_iald (pc := 15) cx hP (fv.at (by assumption) _) rfl rfl (by omega) dd_M_again_15 ?_
    refine lv_bipush (pc := 16) (v := 6) hx hb dd_M_again_16 (by decide) ?_
    refine lv_icmp_ne (pc := 18) (tgt := 24) hx hb dd_M_again_18 (by decide) (fun h18 => ?_) (fun h18 => ?_)
    · -- 18: t to 24
      refine lv_aload_n (pc := 24) hx hb dd_M_again_24 rfl (lv_at hl 0 rfl) ?_
      refine g_M_M_phase (pc := 25) cx hP (by assumption) dd_M_again_25 ?_
      refine lv_iload_n (pc := 28) hx hb dd_M_again_28 rfl (lv_at hl 1 rfl) ?_
      refine f_iald (pc := 29) cx hP (fv.at (by assumption) _) rfl rfl (by omega) dd_M_again_29 ?_
      refine lv_iconst (pc := 30) (v := 5) hx hb dd_M_again_30 (by decide) ?_
      refine lv_icmp_ne (pc := 31) (tgt := 47) hx hb dd_M_again_31 (by decide) (fun h31 => ?_) (fun h31 => ?_)
      · -- 31: t to 47
        refine lv_bipush (pc := 47) (v := (-3)) hx hb dd_M_again_47 (by decide) ?_
        exact f_iret (pc := 49) cx hr hlocks hP hS (by simp [n_agr, *]) (by simp [n_again, n_agr, *]) dd_M_again_49
      · -- 31: f to 34
        refine lv_aload_n (pc := 34) hx hb dd_M_again_34 rfl (lv_at hl 0 rfl) ?_
        refine g_M_M_counted (pc := 35) cx hP (by assumption) dd_M_again_35 ?_
        refine lv_iload_n (pc := 38) hx hb dd_M_again_38 rfl (lv_at hl 1 rfl) ?_
        refine f_iald (pc := 39) cx hP (fv.at (by assumption) _) rfl rfl (by omega) dd_M_again_39 ?_
        refine lv_aload_n (pc := 40) hx hb dd_M_again_40 rfl (lv_at hl 0 rfl) ?_
        refine k_M_M_quorum (pc := 41) cx hl hP hS (by assumption) (ct_M_quorum l x S ⟨w16, w23, w24, w25, w26, w27, w28, w29, w30, w31, w32, w33, w34, w35, w36, w37, w39, w40, w41, w42, w43, w44, w45, w46⟩ hO) ⟨⟨rfl, rfl⟩, ⟨(Nat.le_of_ble_eq_true rfl), (Nat.le_of_ble_eq_true rfl)⟩, (Nat.le_of_ble_eq_true rfl), (Nat.le_of_ble_eq_true rfl)⟩ (Nat.le_of_ble_eq_true rfl) dd_M_again_41 (fun H locs hP hS => ?_)
        refine lv_icmp_ge (pc := 44) (tgt := 50) hx hb dd_M_again_44 (by decide) (fun h44 => ?_) (fun h44 => ?_)
        · -- 44: t to 50
          have h44b : ¬ mI S 25 0 c < nI (xQ x) := Int32.not_lt.mpr h44
          refine lv_aload_n (pc := 50) hx hb dd_M_again_50 rfl (lv_at hl 0 rfl) ?_
          refine lv_iload_n (pc := 51) hx hb dd_M_again_51 rfl (lv_at hl 1 rfl) ?_
          refine k_M_M_crowded (pc := 52) cx hl hP hS (by assumption) (ct_M_crowded l x S ⟨w16, w23, w24, w25, w26, w27, w28, w29, w30, w31, w32, w33, w34, w35, w36, w37, w39, w40, w41, w42, w43, w44, w45, w46⟩ c hO hl1) ⟨⟨rfl, rfl⟩, ⟨(Nat.le_of_ble_eq_true rfl), (Nat.le_of_ble_eq_true rfl)⟩, (Nat.le_of_ble_eq_true rfl), (Nat.le_of_ble_eq_true rfl)⟩ (Nat.le_of_ble_eq_true rfl) dd_M_again_52 (fun H locs hP hS => ?_)
          refine f_eqB (pc := 55) (tgt := 61) cx dd_M_again_55 (by decide) (fun h55 => ?_) (fun h55 => ?_)
          · -- 55: t to 61
            refine lv_aload_n (pc := 61) hx hb dd_M_again_61 rfl (lv_at hl 0 rfl) ?_
            refine lv_iload_n (pc := 62) hx hb dd_M_again_62 rfl (lv_at hl 1 rfl) ?_
            refine lv_iconst (pc := 63) (v := 4) hx hb dd_M_again_63 (by decide) ?_
            refine k_M_M_begin (pc := 64) cx hl hP hS (by assumption) (ct_M_begin l x _ ⟨w16, w23, w24, w25, w26, w27, w28, w29, w30, w31, w32, w33, w34, w35, w36, w37, w39, w40, w41, w42, w43, w44, w45, w46⟩ c _ hc hO hl0) ⟨⟨rfl, rfl⟩, ⟨(Nat.le_of_ble_eq_true rfl), (Nat.le_of_ble_eq_true rfl)⟩, (Nat.le_of_ble_eq_true rfl), (Nat.le_of_ble_eq_true rfl)⟩ (Nat.le_of_ble_eq_true rfl) dd_M_again_64 (fun H locs hP hS => ?_)
            refine lv_iconst (pc := 67) (v := 0) hx hb dd_M_again_67 (by decide) ?_
            exact f_iret (pc := 68) cx hr hlocks hP hS (by simp [n_agr, *]) (by simp [n_again, n_agr, *]) dd_M_again_68
          · -- 55: f to 58
            refine lv_bipush (pc := 58) (v := (-4)) hx hb dd_M_again_58 (by decide) ?_
            exact f_iret (pc := 60) cx hr hlocks hP hS (by simp [n_agr, *]) (by simp [n_again, n_agr, *]) dd_M_again_60
        · -- 44: f to 47
          have h44b : mI S 25 0 c < nI (xQ x) := Int32.not_le.mp h44
          refine lv_bipush (pc := 47) (v := (-3)) hx hb dd_M_again_47 (by decide) ?_
          exact f_iret (pc := 49) cx hr hlocks hP hS (by simp [n_agr, *]) (by simp [n_again, n_agr, *]) dd_M_again_49
    · -- 18: f to 21
      refine lv_bipush (pc := 21) (v := (-2)) hx hb dd_M_again_21 (by decide) ?_
      exact f_iret (pc := 23) cx hr hlocks hP hS (by simp [n_agr, *]) (by simp [n_again, n_agr, *]) dd_M_again_23
  · -- 5: f to 8
    exact absurd ((congrArg not (q_cl_in hc)).symm.trans h5) (by decide)
set_option maxHeartbeats 4000000 in
set_option maxRecDepth 100000 in
theorem ct_M_place (l : Launch) (x : fy) (S : fm) (hM : fM x) (s0 : Nat) (t : Int32) (hs : s0 < xN x) (hO : fO x) (hm : mU S 35 0 s0 ≤ 5) : Met l mn_M_place (gw_ws mn_M_place cb_M_place 4 (some .int)) ({ frames := 0, cells := 0, slots := 0, locals := 0 } : Room) (fPc x (S) [.ref (xa x 16 0), .int (nI s0), .int t]) (fQi x (S) (oI (n_place S s0 t))) 0 0 (fun q => xs x ≤ q) := by
  refine f_met (by decide) (Nat.le_of_ble_eq_true rfl) ?_
  intro p e s m below meth c0 cx hr hlocks hnm hP hS ls hl
  have cx : fX rn_M cb_M_place 4 p c0 s m [.ref (xa x 16 0), .int (nI s0), .int t].toArray x := cx
  have hx := cx.1.1
  have hb := cx.1.2.1
  have hl : lv_has ls 4 [(0, .ref (xa x 16 0)), (1, .int (nI s0)), (2, .int t)] := hl
  obtain ⟨w16, w23, w24, w25, w26, w27, w28, w29, w30, w31, w32, w33, w34, w35, w36, w37, w39, w40, w41, w42, w43, w44, w45, w46⟩ := hM
  have hN : xN x ≤ 7 := hO.2.2.2.1
  have loop : ∀ (n q : Nat), q + n = mU S 35 0 s0 → (∀ k, k < q → ¬ mI S 36 0 (5 * s0 + k) = t) → ∀ ls : Array Slot, lv_has ls 4 [(3, .int (nI (5 * s0 + q))), (0, .ref (xa x 16 0)), (1, .int (nI s0)), (2, .int t)] → W p l e ({ frames := 0, cells := 0, slots := 0, locals := 0 } : Room) s m [.ref (xa x 16 0), .int (nI s0), .int t].toArray below meth c0 s.heap [] 0 0 (MQ below (fQi x (S) (oI (n_place S s0 t))) [.ref (xa x 16 0), .int (nI s0), .int t].toArray s 0 0 (fun q => xs x ≤ q)) (F0 m 4 ls []) := by
    intro n
    induction n with
    | zero =>
      intro q hq hk ls hl
      have hq : q = mU S 35 0 s0 := by omega
      subst hq
      refine lv_iload_n (pc := 4) hx hb dd_M_place_4 rfl (lv_at hl 0 rfl) ?_
      refine lv_iconst (pc := 5) (v := nI 5) hx hb dd_M_place_5 (by decide) ?_
      refine lv_iload_n (pc := 6) hx hb dd_M_place_6 rfl (lv_at hl 2 rfl) ?_
      refine lv_imul (pc := 7) hx hb dd_M_place_7 ?_
      refine f_topi (pk_mul 5 s0) ?_
      refine lv_aload_n (pc := 8) hx hb dd_M_place_8 rfl (lv_at hl 1 rfl) ?_
      refine g_M_M_many (pc := 9) cx hP (by assumption) dd_M_place_9 ?_
      refine lv_iload_n (pc := 12) hx hb dd_M_place_12 rfl (lv_at hl 2 rfl) ?_
      refine f_iald (pc := 13) cx hP (fv.at (by assumption) _) rfl rfl (by omega) dd_M_place_13 ?_
      refine lv_iadd (pc := 14) hx hb dd_M_place_14 ?_
      refine f_topi (nI_add _ _) ?_
      refine lv_icmp_ge (pc := 15) (tgt := 36) hx hb dd_M_place_15 (by decide) (fun h15 => ?_) (fun h15 => ?_)
      · -- 15: t to 36
        refine lv_iconst (pc := 36) (v := (-1)) hx hb dd_M_place_36 (by decide) ?_
        exact f_iret (pc := 37) cx hr hlocks hP hS (by unfold n_place; rw [fr_none (fun k hk2 => decide_eq_false (hk k hk2))]; rfl) rfl dd_M_place_37
      · -- 15: f to 18
        exact absurd ((nI_leI (by omega) (by omega)).mpr (Nat.le_refl _)) h15
    | succ n ih =>
      intro q hq hk ls hl
      refine lv_iload_n (pc := 4) hx hb dd_M_place_4 rfl (lv_at hl 0 rfl) ?_
      refine lv_iconst (pc := 5) (v := nI 5) hx hb dd_M_place_5 (by decide) ?_
      refine lv_iload_n (pc := 6) hx hb dd_M_place_6 rfl (lv_at hl 2 rfl) ?_
      refine lv_imul (pc := 7) hx hb dd_M_place_7 ?_
      refine f_topi (pk_mul 5 s0) ?_
      refine lv_aload_n (pc := 8) hx hb dd_M_place_8 rfl (lv_at hl 1 rfl) ?_
      refine g_M_M_many (pc := 9) cx hP (by assumption) dd_M_place_9 ?_
      refine lv_iload_n (pc := 12) hx hb dd_M_place_12 rfl (lv_at hl 2 rfl) ?_
      refine f_iald (pc := 13) cx hP (fv.at (by assumption) _) rfl rfl (by omega) dd_M_place_13 ?_
      refine lv_iadd (pc := 14) hx hb dd_M_place_14 ?_
      refine f_topi (nI_add _ _) ?_
      refine lv_icmp_ge (pc := 15) (tgt := 36) hx hb dd_M_place_15 (by decide) (fun h15 => ?_) (fun h15 => ?_)
      · -- 15: t to 36
        exact absurd ((nI_leI (by omega) (by omega)).mp h15) (by omega)
      · -- 15: f to 18
        refine lv_aload_n (pc := 18) hx hb dd_M_place_18 rfl (lv_at hl 1 rfl) ?_
        refine g_M_M_hasTag (pc := 19) cx hP (by assumption) dd_M_place_19 ?_
        refine lv_iload_n (pc := 22) hx hb dd_M_place_22 rfl (lv_at hl 0 rfl) ?_
        refine f_iald (pc := 23) cx hP (fv.at (by assumption) _) rfl rfl (by omega) dd_M_place_23 ?_
        refine lv_iload_n (pc := 24) hx hb dd_M_place_24 rfl (lv_at hl 3 rfl) ?_
        refine lv_icmp_ne (pc := 25) (tgt := 30) hx hb dd_M_place_25 (by decide) (fun h25 => ?_) (fun h25 => ?_)
        · -- 25: t to 30
          refine lv_iinc (pc := 30) (k := 0) (lv' := [(3, _), (0, _), (1, _), (2, _)]) hx hb dd_M_place_30 hl rfl (f_inc1 _) (Nat.le_of_ble_eq_true rfl) rfl (fun ls hl => ?_)
          refine lv_goto (pc := 33) (tgt := 4) hx hb dd_M_place_33 (by decide) ?_
          exact ih (q + 1) (by omega) (lt_s hk h25) ls (lv_sub hl [0, 1, 2, 3] rfl)
        · -- 25: f to 28
          refine lv_iload_n (pc := 28) hx hb dd_M_place_28 rfl (lv_at hl 0 rfl) ?_
          exact f_iret (pc := 29) cx hr hlocks hP hS (by unfold n_place; rw [fr_some (show q < mU S 35 0 s0 by omega) (decide_eq_true h25) (fun k hk2 => decide_eq_false (hk k hk2))]; rfl) rfl dd_M_place_29
  refine lv_iconst (pc := 0) (v := nI 5) hx hb dd_M_place_0 (by decide) ?_
  refine lv_iload_n (pc := 1) hx hb dd_M_place_1 rfl (lv_at hl 1 rfl) ?_
  refine lv_imul (pc := 2) hx hb dd_M_place_2 ?_
  refine f_topi (pk_mul 5 s0) ?_
  refine lv_istore_n (pc := 3) (lv' := [(3, _), (0, _), (1, _), (2, _)]) hx hb dd_M_place_3 rfl hl (Nat.le_of_ble_eq_true rfl) rfl (fun ls hl => ?_)
  exact loop (mU S 35 0 s0) 0 (by omega) lt_0 ls (lv_sub hl [0, 1, 2, 3] rfl)
set_option maxHeartbeats 4000000 in
set_option maxRecDepth 100000 in
theorem ct_M_store (l : Launch) (x : fy) (S : fm) (hM : fM x) (s0 : Nat) (t : Int32) (w : Int64) (hs : s0 < xN x) (hO : fO x) (hm : mU S 35 0 s0 ≤ xD x + 1) : Met l mn_M_store (gw_ws mn_M_store cb_M_store 8 none) ({ frames := 1, cells := 0, slots := 0, locals := 23 } : Room) (fPc x (S) [.ref (xa x 16 0), .int (nI s0), .int t, .long w]) (fQv x (n_store x S s0 t w)) 0 0 (fun q => xs x ≤ q) := by
  refine f_met (by decide) (Nat.le_of_ble_eq_true rfl) ?_
  intro p e s m below meth c0 cx hr hlocks hnm hP hS ls hl
  have cx : fX rn_M cb_M_store 8 p c0 s m [.ref (xa x 16 0), .int (nI s0), .int t, .long w].toArray x := cx
  have hx := cx.1.1
  have hb := cx.1.2.1
  have hl : lv_has ls 8 [(0, .ref (xa x 16 0)), (1, .int (nI s0)), (2, .int t), (3, .long w)] := hl
  obtain ⟨w16, w23, w24, w25, w26, w27, w28, w29, w30, w31, w32, w33, w34, w35, w36, w37, w39, w40, w41, w42, w43, w44, w45, w46⟩ := hM
  have hN : xN x ≤ 7 := hO.2.2.2.1
  have hD : xD x ≤ 3 := by have := hO; unfold fO at this; omega
  have tail : ∀ (H : Heap) (locs : List Loc), mU (n_put S s0 t w) 35 0 s0 ≤ xD x + 2 → fP x (n_put S s0 t w) H → fS x s.heap H locs → ∀ ls : Array Slot, lv_has ls 8 [(0, .ref (xa x 16 0)), (1, .int (nI s0)), (2, .int t), (3, .long w)] → W p l e ({ frames := 1, cells := 0, slots := 0, locals := 23 } : Room) s m [.ref (xa x 16 0), .int (nI s0), .int t, .long w].toArray below meth c0 H locs 0 0 (MQ below (fQv x (n_store x S s0 t w)) [.ref (xa x 16 0), .int (nI s0), .int t, .long w].toArray s 0 0 (fun q => xs x ≤ q)) (F0 m 51 ls []) := by
    intro H locs hmu hP hS ls hl
    have hlow := n_low_le (mI (n_put S s0 t w) 36 0) (5 * s0) (mU (n_put S s0 t w) 35 0 s0)
    have drop : xD x + 1 < mU (n_put S s0 t w) 35 0 s0 → ∀ (H : Heap) (locs : List Loc), fP x (n_put S s0 t w) H → fS x s.heap H locs → ∀ ls : Array Slot, lv_has ls 8 [(6, .int (nI (n_low (mI (n_put S s0 t w) 36 0) (5 * s0) (mU (n_put S s0 t w) 35 0 s0)))), (0, .ref (xa x 16 0)), (1, .int (nI s0)), (2, .int t), (3, .long w)] → W p l e ({ frames := 1, cells := 0, slots := 0, locals := 23 } : Room) s m [.ref (xa x 16 0), .int (nI s0), .int t, .long w].toArray below meth c0 H locs 0 0 (MQ below (fQv x (n_store x S s0 t w)) [.ref (xa x 16 0), .int (nI s0), .int t, .long w].toArray s 0 0 (fun q => xs x ≤ q)) (F0 m 123 ls []) := by
      intro hgt H locs hP hS ls hl
      have e1 : nI (mU (sU (n_put S s0 t w) 35 0 s0 (mU (n_put S s0 t w) 35 0 s0 - 1)) 35 0 s0) = nI (mU (n_put S s0 t w) 35 0 s0 - 1) := by rw [mU_same]
      refine lv_aload_n (pc := 123) hx hb dd_M_store_123 rfl (lv_at hl 1 rfl) ?_
      refine g_M_M_many (pc := 124) cx hP (by assumption) dd_M_store_124 ?_
      refine lv_iload_n (pc := 127) hx hb dd_M_store_127 rfl (lv_at hl 2 rfl) ?_
      refine lv_dup2_11 (pc := 128) hx hb dd_M_store_128 rfl rfl ?_
      refine f_iald (pc := 129) cx hP (fv.at (by assumption) _) rfl rfl (by omega) dd_M_store_129 ?_
      refine lv_iconst (pc := 130) (v := 1) hx hb dd_M_store_130 (by decide) ?_
      refine lv_isub (pc := 131) hx hb dd_M_store_131 ?_
      refine f_iastU (pc := 132) cx hP hS (fv.at (by assumption) _) (fun _ => rfl) (f_pred (by omega)) rfl (by omega) dd_M_store_132 (fun H locs hP hS => ?_)
      refine lv_aload_n (pc := 133) hx hb dd_M_store_133 rfl (lv_at hl 1 rfl) ?_
      refine g_M_M_hasTag (pc := 134) cx hP (by assumption) dd_M_store_134 ?_
      refine lv_iload (pc := 137) hx hb dd_M_store_137 (lv_at hl 0 rfl) ?_
      refine lv_aload_n (pc := 139) hx hb dd_M_store_139 rfl (lv_at hl 1 rfl) ?_
      refine g_M_M_hasTag (pc := 140) cx hP (by assumption) dd_M_store_140 ?_
      refine lv_iconst (pc := 143) (v := nI 5) hx hb dd_M_store_143 (by decide) ?_
      refine lv_iload_n (pc := 144) hx hb dd_M_store_144 rfl (lv_at hl 2 rfl) ?_
      refine lv_imul (pc := 145) hx hb dd_M_store_145 ?_
      refine f_topi (pk_mul 5 s0) ?_
      refine lv_aload_n (pc := 146) hx hb dd_M_store_146 rfl (lv_at hl 1 rfl) ?_
      refine g_M_M_many (pc := 147) cx hP (by assumption) dd_M_store_147 ?_
      refine lv_iload_n (pc := 150) hx hb dd_M_store_150 rfl (lv_at hl 2 rfl) ?_
      refine f_iald (pc := 151) cx hP (fv.at (by assumption) _) rfl rfl (by omega) dd_M_store_151 ?_
      refine f_topi e1 ?_
      refine lv_iadd (pc := 152) hx hb dd_M_store_152 ?_
      refine f_topi (nI_add _ _) ?_
      refine f_iald (pc := 153) cx hP (fv.at (by assumption) _) rfl rfl (by omega) dd_M_store_153 ?_
      refine f_iast (pc := 154) cx hP hS (fv.at (by assumption) _) (fun _ => rfl) rfl (by omega) dd_M_store_154 (fun H locs hP hS => ?_)
      refine lv_aload_n (pc := 155) hx hb dd_M_store_155 rfl (lv_at hl 1 rfl) ?_
      refine g_M_M_hasBlock (pc := 156) cx hP (by assumption) dd_M_store_156 ?_
      refine lv_iload (pc := 159) hx hb dd_M_store_159 (lv_at hl 0 rfl) ?_
      refine lv_aload_n (pc := 161) hx hb dd_M_store_161 rfl (lv_at hl 1 rfl) ?_
      refine g_M_M_hasBlock (pc := 162) cx hP (by assumption) dd_M_store_162 ?_
      refine lv_iconst (pc := 165) (v := nI 5) hx hb dd_M_store_165 (by decide) ?_
      refine lv_iload_n (pc := 166) hx hb dd_M_store_166 rfl (lv_at hl 2 rfl) ?_
      refine lv_imul (pc := 167) hx hb dd_M_store_167 ?_
      refine f_topi (pk_mul 5 s0) ?_
      refine lv_aload_n (pc := 168) hx hb dd_M_store_168 rfl (lv_at hl 1 rfl) ?_
      refine g_M_M_many (pc := 169) cx hP (by assumption) dd_M_store_169 ?_
      refine lv_iload_n (pc := 172) hx hb dd_M_store_172 rfl (lv_at hl 2 rfl) ?_
      refine f_iald (pc := 173) cx hP (fv.at (by assumption) _) rfl rfl (by omega) dd_M_store_173 ?_
      refine f_topi e1 ?_
      refine lv_iadd (pc := 174) hx hb dd_M_store_174 ?_
      refine f_topi (nI_add _ _) ?_
      refine f_lald (pc := 175) cx hP (fv.at (by assumption) _) rfl rfl (by omega) dd_M_store_175 ?_
      refine f_last (pc := 176) cx hP hS (fv.at (by assumption) _) (fun _ => rfl) rfl (by omega) dd_M_store_176 (fun H locs hP hS => ?_)
      exact f_vret (pc := 177) cx hr hlocks hP hS (by unfold n_store; rw [if_pos hgt]; rfl) dd_M_store_177
    have srch : xD x + 1 < mU (n_put S s0 t w) 35 0 s0 → ∀ (n q : Nat), q + n = mU (n_put S s0 t w) 35 0 s0 → ∀ ls : Array Slot, lv_has ls 8 [(7, .int (nI (5 * s0 + q))), (6, .int (nI (n_low (mI (n_put S s0 t w) 36 0) (5 * s0) q))), (0, .ref (xa x 16 0)), (1, .int (nI s0)), (2, .int t), (3, .long w)] → W p l e ({ frames := 1, cells := 0, slots := 0, locals := 23 } : Room) s m [.ref (xa x 16 0), .int (nI s0), .int t, .long w].toArray below meth c0 H locs 0 0 (MQ below (fQv x (n_store x S s0 t w)) [.ref (xa x 16 0), .int (nI s0), .int t, .long w].toArray s 0 0 (fun q => xs x ≤ q)) (F0 m 76 ls []) := by
      intro hgt n
      induction n with
      | zero =>
        intro q hq ls hl
        have hq : q = mU (n_put S s0 t w) 35 0 s0 := by omega
        subst hq
        refine lv_iload (pc := 76) hx hb dd_M_store_76 (lv_at hl 0 rfl) ?_
        refine lv_iconst (pc := 78) (v := nI 5) hx hb dd_M_store_78 (by decide) ?_
        refine lv_iload_n (pc := 79) hx hb dd_M_store_79 rfl (lv_at hl 3 rfl) ?_
        refine lv_imul (pc := 80) hx hb dd_M_store_80 ?_
        refine f_topi (pk_mul 5 s0) ?_
        refine lv_aload_n (pc := 81) hx hb dd_M_store_81 rfl (lv_at hl 2 rfl) ?_
        refine g_M_M_many (pc := 82) cx hP (by assumption) dd_M_store_82 ?_
        refine lv_iload_n (pc := 85) hx hb dd_M_store_85 rfl (lv_at hl 3 rfl) ?_
        refine f_iald (pc := 86) cx hP (fv.at (by assumption) _) rfl rfl (by omega) dd_M_store_86 ?_
        refine lv_iadd (pc := 87) hx hb dd_M_store_87 ?_
        refine f_topi (nI_add _ _) ?_
        refine lv_icmp_ge (pc := 88) (tgt := 123) hx hb dd_M_store_88 (by decide) (fun h88 => ?_) (fun h88 => ?_)
        · -- 88: t to 123
          exact drop hgt _ _ hP hS ls (lv_sub hl [1, 2, 3, 4, 5] rfl)
        · -- 88: f to 91
          exact absurd ((nI_leI (by omega) (by omega)).mpr (Nat.le_refl _)) h88
      | succ n ih =>
        intro q hq ls hl
        have hlq := n_low_le (mI (n_put S s0 t w) 36 0) (5 * s0) q
        refine lv_iload (pc := 76) hx hb dd_M_store_76 (lv_at hl 0 rfl) ?_
        refine lv_iconst (pc := 78) (v := nI 5) hx hb dd_M_store_78 (by decide) ?_
        refine lv_iload_n (pc := 79) hx hb dd_M_store_79 rfl (lv_at hl 3 rfl) ?_
        refine lv_imul (pc := 80) hx hb dd_M_store_80 ?_
        refine f_topi (pk_mul 5 s0) ?_
        refine lv_aload_n (pc := 81) hx hb dd_M_store_81 rfl (lv_at hl 2 rfl) ?_
        refine g_M_M_many (pc := 82) cx hP (by assumption) dd_M_store_82 ?_
        refine lv_iload_n (pc := 85) hx hb dd_M_store_85 rfl (lv_at hl 3 rfl) ?_
        refine f_iald (pc := 86) cx hP (fv.at (by assumption) _) rfl rfl (by omega) dd_M_store_86 ?_
        refine lv_iadd (pc := 87) hx hb dd_M_store_87 ?_
        refine f_topi (nI_add _ _) ?_
        refine lv_icmp_ge (pc := 88) (tgt := 123) hx hb dd_M_store_88 (by decide) (fun h88 => ?_) (fun h88 => ?_)
        · -- 88: t to 123
          exact absurd ((nI_leI (by omega) (by omega)).mp h88) (by omega)
        · -- 88: f to 91
          refine lv_aload_n (pc := 91) hx hb dd_M_store_91 rfl (lv_at hl 2 rfl) ?_
          refine g_M_M_hasTag (pc := 92) cx hP (by assumption) dd_M_store_92 ?_
          refine lv_iload (pc := 95) hx hb dd_M_store_95 (lv_at hl 0 rfl) ?_
          refine f_iald (pc := 97) cx hP (fv.at (by assumption) _) rfl rfl (by omega) dd_M_store_97 ?_
          refine lv_aload_n (pc := 98) hx hb dd_M_store_98 rfl (lv_at hl 2 rfl) ?_
          refine g_M_M_hasTag (pc := 99) cx hP (by assumption) dd_M_store_99 ?_
          refine lv_iload (pc := 102) hx hb dd_M_store_102 (lv_at hl 1 rfl) ?_
          refine f_iald (pc := 104) cx hP (fv.at (by assumption) _) rfl rfl (by omega) dd_M_store_104 ?_
          refine lv_icmp_ge (pc := 105) (tgt := 113) hx hb dd_M_store_105 (by decide) (fun h105 => ?_) (fun h105 => ?_)
          · -- 105: t to 113
            have e0 : nI (n_low (mI (n_put S s0 t w) 36 0) (5 * s0) q) = nI (n_low (mI (n_put S s0 t w) 36 0) (5 * s0) (q + 1)) := by rw [show n_low (mI (n_put S s0 t w) 36 0) (5 * s0) (q + 1) = if (mI (n_put S s0 t w) 36 0) (5 * s0 + q) < (mI (n_put S s0 t w) 36 0) (n_low (mI (n_put S s0 t w) 36 0) (5 * s0) q) then 5 * s0 + q else n_low (mI (n_put S s0 t w) 36 0) (5 * s0) q from rfl, if_neg (Int32.not_lt.mpr h105)]
            refine lv_iload (pc := 113) hx hb dd_M_store_113 (lv_at hl 1 rfl) ?_
            refine lv_istore (pc := 115) (lv' := [(6, _), (7, _), (0, _), (1, _), (2, _), (3, _)]) hx hb dd_M_store_115 hl (Nat.le_of_ble_eq_true rfl) rfl (fun ls hl => ?_)
            refine lv_iinc (pc := 117) (k := 1) (lv' := [(7, _), (6, _), (0, _), (1, _), (2, _), (3, _)]) hx hb dd_M_store_117 hl rfl (f_inc1 _) (Nat.le_of_ble_eq_true rfl) rfl (fun ls hl => ?_)
            refine lv_goto (pc := 120) (tgt := 76) hx hb dd_M_store_120 (by decide) ?_
            rw [e0] at hl
            exact ih (q + 1) (by omega) ls (lv_sub hl [0, 1, 2, 3, 4, 5] rfl)
          · -- 105: f to 108
            have e0 : nI (5 * s0 + q) = nI (n_low (mI (n_put S s0 t w) 36 0) (5 * s0) (q + 1)) := by rw [show n_low (mI (n_put S s0 t w) 36 0) (5 * s0) (q + 1) = if (mI (n_put S s0 t w) 36 0) (5 * s0 + q) < (mI (n_put S s0 t w) 36 0) (n_low (mI (n_put S s0 t w) 36 0) (5 * s0) q) then 5 * s0 + q else n_low (mI (n_put S s0 t w) 36 0) (5 * s0) q from rfl, if_pos (Int32.not_le.mp h105)]
            refine lv_iload (pc := 108) hx hb dd_M_store_108 (lv_at hl 0 rfl) ?_
            refine lv_goto (pc := 110) (tgt := 115) hx hb dd_M_store_110 (by decide) ?_
            refine lv_istore (pc := 115) (lv' := [(6, _), (7, _), (0, _), (1, _), (2, _), (3, _)]) hx hb dd_M_store_115 hl (Nat.le_of_ble_eq_true rfl) rfl (fun ls hl => ?_)
            refine lv_iinc (pc := 117) (k := 1) (lv' := [(7, _), (6, _), (0, _), (1, _), (2, _), (3, _)]) hx hb dd_M_store_117 hl rfl (f_inc1 _) (Nat.le_of_ble_eq_true rfl) rfl (fun ls hl => ?_)
            refine lv_goto (pc := 120) (tgt := 76) hx hb dd_M_store_120 (by decide) ?_
            rw [e0] at hl
            exact ih (q + 1) (by omega) ls (lv_sub hl [0, 1, 2, 3, 4, 5] rfl)
    refine lv_aload_n (pc := 51) hx hb dd_M_store_51 rfl (lv_at hl 0 rfl) ?_
    refine g_M_M_many (pc := 52) cx hP (by assumption) dd_M_store_52 ?_
    refine lv_iload_n (pc := 55) hx hb dd_M_store_55 rfl (lv_at hl 1 rfl) ?_
    refine f_iald (pc := 56) cx hP (fv.at (by assumption) _) rfl rfl (by omega) dd_M_store_56 ?_
    refine lv_aload_n (pc := 57) hx hb dd_M_store_57 rfl (lv_at hl 0 rfl) ?_
    refine g_M_M_d (pc := 58) cx hP (by assumption) dd_M_store_58 ?_
    refine lv_iconst (pc := 61) (v := 1) hx hb dd_M_store_61 (by decide) ?_
    refine lv_iadd (pc := 62) hx hb dd_M_store_62 ?_
    refine f_topi (nI_1 _) ?_
    refine lv_icmp_le (pc := 63) (tgt := 177) hx hb dd_M_store_63 (by decide) (fun h63 => ?_) (fun h63 => ?_)
    · -- 63: t to 177
      have h := (nI_leI (by omega) (by omega)).mp h63
      have e9 : n_put S s0 t w = n_store x S s0 t w := by unfold n_store; rw [if_neg (by omega)]
      exact f_vret (pc := 177) cx hr hlocks hP hS e9 dd_M_store_177
    · -- 63: f to 66
      have h : xD x + 1 < mU (n_put S s0 t w) 35 0 s0 := Nat.lt_of_not_le (fun q => h63 ((nI_leI (by omega) (by omega)).mpr q))
      refine lv_iconst (pc := 66) (v := nI 5) hx hb dd_M_store_66 (by decide) ?_
      refine lv_iload_n (pc := 67) hx hb dd_M_store_67 rfl (lv_at hl 1 rfl) ?_
      refine lv_imul (pc := 68) hx hb dd_M_store_68 ?_
      refine f_topi (pk_mul 5 s0) ?_
      refine lv_istore (pc := 69) (lv' := [(6, _), (0, _), (1, _), (2, _), (3, _)]) hx hb dd_M_store_69 hl (Nat.le_of_ble_eq_true rfl) rfl (fun ls hl => ?_)
      refine lv_iconst (pc := 71) (v := nI 5) hx hb dd_M_store_71 (by decide) ?_
      refine lv_iload_n (pc := 72) hx hb dd_M_store_72 rfl (lv_at hl 2 rfl) ?_
      refine lv_imul (pc := 73) hx hb dd_M_store_73 ?_
      refine f_topi (pk_mul 5 s0) ?_
      refine lv_istore (pc := 74) (lv' := [(7, _), (6, _), (0, _), (1, _), (2, _), (3, _)]) hx hb dd_M_store_74 hl (Nat.le_of_ble_eq_true rfl) rfl (fun ls hl => ?_)
      exact srch h (mU (n_put S s0 t w) 35 0 s0) 0 (by omega) ls (lv_sub hl [0, 1, 2, 3, 4, 5] rfl)
  refine lv_aload_n (pc := 0) hx hb dd_M_store_0 rfl (lv_at hl 0 rfl) ?_
  refine lv_iload_n (pc := 1) hx hb dd_M_store_1 rfl (lv_at hl 1 rfl) ?_
  refine lv_iload_n (pc := 2) hx hb dd_M_store_2 rfl (lv_at hl 2 rfl) ?_
  refine k_M_M_place (pc := 3) cx hl hP hS (by assumption) (ct_M_place l x S ⟨w16, w23, w24, w25, w26, w27, w28, w29, w30, w31, w32, w33, w34, w35, w36, w37, w39, w40, w41, w42, w43, w44, w45, w46⟩ s0 t hs hO (by omega)) ⟨⟨rfl, rfl⟩, ⟨(Nat.le_of_ble_eq_true rfl), (Nat.le_of_ble_eq_true rfl)⟩, (Nat.le_of_ble_eq_true rfl), (Nat.le_of_ble_eq_true rfl)⟩ (Nat.le_of_ble_eq_true rfl) dd_M_store_3 (fun H locs hP hS => ?_)
  refine lv_istore (pc := 6) (lv' := [(5, _), (0, _), (1, _), (2, _), (3, _)]) hx hb dd_M_store_6 hl (Nat.le_of_ble_eq_true rfl) rfl (fun ls hl => ?_)
  cases hq : n_place S s0 t with
  | none =>
    rw [hq] at hl
    have e9 : sJ (sI (sU S 35 0 s0 (mU S 35 0 s0 + 1)) 36 0 (5 * s0 + mU S 35 0 s0) t) 37 0 (5 * s0 + mU S 35 0 s0) w = n_put S s0 t w := by unfold n_put; rw [hq]
    have e8 : mU (n_put S s0 t w) 35 0 s0 ≤ xD x + 2 := by rw [← e9, mU_sJ, mU_sI, mU_same]; omega
    refine lv_iload (pc := 8) hx hb dd_M_store_8 (lv_at hl 0 rfl) ?_
    refine lv_if_ge (pc := 10) (tgt := 35) hx hb dd_M_store_10 (by decide) (fun h10 => ?_) (fun h10 => ?_)
    · -- 10: t to 35
      exact absurd h10 (by decide)
    · -- 10: f to 13
      refine lv_iconst (pc := 13) (v := nI 5) hx hb dd_M_store_13 (by decide) ?_
      refine lv_iload_n (pc := 14) hx hb dd_M_store_14 rfl (lv_at hl 2 rfl) ?_
      refine lv_imul (pc := 15) hx hb dd_M_store_15 ?_
      refine f_topi (pk_mul 5 s0) ?_
      refine lv_aload_n (pc := 16) hx hb dd_M_store_16 rfl (lv_at hl 1 rfl) ?_
      refine g_M_M_many (pc := 17) cx hP (by assumption) dd_M_store_17 ?_
      refine lv_iload_n (pc := 20) hx hb dd_M_store_20 rfl (lv_at hl 2 rfl) ?_
      refine f_iald (pc := 21) cx hP (fv.at (by assumption) _) rfl rfl (by omega) dd_M_store_21 ?_
      refine lv_iadd (pc := 22) hx hb dd_M_store_22 ?_
      refine f_topi (nI_add _ _) ?_
      refine lv_istore (pc := 23) (lv' := [(5, _), (0, _), (1, _), (2, _), (3, _)]) hx hb dd_M_store_23 hl (Nat.le_of_ble_eq_true rfl) rfl (fun ls hl => ?_)
      refine lv_aload_n (pc := 25) hx hb dd_M_store_25 rfl (lv_at hl 1 rfl) ?_
      refine g_M_M_many (pc := 26) cx hP (by assumption) dd_M_store_26 ?_
      refine lv_iload_n (pc := 29) hx hb dd_M_store_29 rfl (lv_at hl 2 rfl) ?_
      refine lv_dup2_11 (pc := 30) hx hb dd_M_store_30 rfl rfl ?_
      refine f_iald (pc := 31) cx hP (fv.at (by assumption) _) rfl rfl (by omega) dd_M_store_31 ?_
      refine lv_iconst (pc := 32) (v := 1) hx hb dd_M_store_32 (by decide) ?_
      refine lv_iadd (pc := 33) hx hb dd_M_store_33 ?_
      refine f_iastU (pc := 34) cx hP hS (fv.at (by assumption) _) (fun _ => rfl) (nI_1 _) rfl (by omega) dd_M_store_34 (fun H locs hP hS => ?_)
      refine lv_aload_n (pc := 35) hx hb dd_M_store_35 rfl (lv_at hl 1 rfl) ?_
      refine g_M_M_hasTag (pc := 36) cx hP (by assumption) dd_M_store_36 ?_
      refine lv_iload (pc := 39) hx hb dd_M_store_39 (lv_at hl 0 rfl) ?_
      refine lv_iload_n (pc := 41) hx hb dd_M_store_41 rfl (lv_at hl 3 rfl) ?_
      refine f_iast (pc := 42) cx hP hS (fv.at (by assumption) _) (fun _ => rfl) rfl (by omega) dd_M_store_42 (fun H locs hP hS => ?_)
      refine lv_aload_n (pc := 43) hx hb dd_M_store_43 rfl (lv_at hl 1 rfl) ?_
      refine g_M_M_hasBlock (pc := 44) cx hP (by assumption) dd_M_store_44 ?_
      refine lv_iload (pc := 47) hx hb dd_M_store_47 (lv_at hl 0 rfl) ?_
      refine lv_lload_n (pc := 49) hx hb dd_M_store_49 rfl (lv_at hl 4 rfl) ?_
      refine f_last (pc := 50) cx hP hS (fv.at (by assumption) _) (fun _ => rfl) rfl (by omega) dd_M_store_50 (fun H locs hP hS => ?_)
      exact tail _ _ e8 (f_eqS hP e9) hS ls (lv_sub hl [1, 2, 3, 4] rfl)
  | some i =>
    obtain ⟨q, hq1, hq2⟩ := n_place_lt hq
    rw [hq] at hl
    have e9 : sJ (sI S 36 0 i t) 37 0 i w = n_put S s0 t w := by unfold n_put; rw [hq]
    have e8 : mU (n_put S s0 t w) 35 0 s0 ≤ xD x + 2 := by rw [← e9, mU_sJ, mU_sI]; omega
    refine lv_iload (pc := 8) hx hb dd_M_store_8 (lv_at hl 0 rfl) ?_
    refine lv_if_ge (pc := 10) (tgt := 35) hx hb dd_M_store_10 (by decide) (fun h10 => ?_) (fun h10 => ?_)
    · -- 10: t to 35
      refine lv_aload_n (pc := 35) hx hb dd_M_store_35 rfl (lv_at hl 1 rfl) ?_
      refine g_M_M_hasTag (pc := 36) cx hP (by assumption) dd_M_store_36 ?_
      refine lv_iload (pc := 39) hx hb dd_M_store_39 (lv_at hl 0 rfl) ?_
      refine lv_iload_n (pc := 41) hx hb dd_M_store_41 rfl (lv_at hl 3 rfl) ?_
      refine f_iast (pc := 42) cx hP hS (fv.at (by assumption) _) (fun _ => rfl) rfl (by omega) dd_M_store_42 (fun H locs hP hS => ?_)
      refine lv_aload_n (pc := 43) hx hb dd_M_store_43 rfl (lv_at hl 1 rfl) ?_
      refine g_M_M_hasBlock (pc := 44) cx hP (by assumption) dd_M_store_44 ?_
      refine lv_iload (pc := 47) hx hb dd_M_store_47 (lv_at hl 0 rfl) ?_
      refine lv_lload_n (pc := 49) hx hb dd_M_store_49 rfl (lv_at hl 4 rfl) ?_
      refine f_last (pc := 50) cx hP hS (fv.at (by assumption) _) (fun _ => rfl) rfl (by omega) dd_M_store_50 (fun H locs hP hS => ?_)
      exact tail _ _ e8 (f_eqS hP e9) hS ls (lv_sub hl [1, 2, 3, 4] rfl)
    · -- 10: f to 13
      exact absurd (nI_pos' (by omega)) h10
