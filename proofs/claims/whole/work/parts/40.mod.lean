-- contracts of the reference, by wip/whole/gen/c_mod3.py
set_option maxHeartbeats 4000000 in
set_option maxRecDepth 100000 in
theorem ct_M_heldTag_no (l : Launch) (x : fy) (S : fm) (hM : fM x) (z i : Int32) (hz : q_sv x z = false) : Met l mn_M_heldTag (gw_ws mn_M_heldTag cb_M_heldTag 6 (some .int)) ({ frames := 1, cells := 0, slots := 0, locals := 21 } : Room) (fPc x (S) [.ref (xa x 16 0), .int z, .int i]) (fQi x (S) (-1)) 0 0 (fun q => xs x ≤ q) := by
  refine f_met (by decide) (Nat.le_of_ble_eq_true rfl) ?_
  intro p e s m below meth c0 cx hr hlocks hnm hP hS ls hl
  have cx : fX rn_M cb_M_heldTag 6 p c0 s m [.ref (xa x 16 0), .int z, .int i].toArray x := cx
  have hx := cx.1.1
  have hb := cx.1.2.1
  have hl : lv_has ls 6 [(0, .ref (xa x 16 0)), (1, .int z), (2, .int i)] := hl
  obtain ⟨w16, w23, w24, w25, w26, w27, w28, w29, w30, w31, w32, w33, w34, w35, w36, w37, w39, w40, w41, w42, w43, w44, w45, w46⟩ := hM
  refine lv_aload_n (pc := 0) hx hb dd_M_heldTag_0 rfl (lv_at hl 0 rfl) ?_
  refine lv_iload_n (pc := 1) hx hb dd_M_heldTag_1 rfl (lv_at hl 1 rfl) ?_
  refine k_M_M_noServer (pc := 2) cx hl hP hS (by assumption) (ct_M_noServer l x _ ⟨w16, w23, w24, w25, w26, w27, w28, w29, w30, w31, w32, w33, w34, w35, w36, w37, w39, w40, w41, w42, w43, w44, w45, w46⟩ z) ⟨⟨rfl, rfl⟩, ⟨(Nat.le_of_ble_eq_true rfl), (Nat.le_of_ble_eq_true rfl)⟩, (Nat.le_of_ble_eq_true rfl), (Nat.le_of_ble_eq_true rfl)⟩ (Nat.le_of_ble_eq_true rfl) dd_M_heldTag_2 (fun H locs hP hS => ?_)
  refine f_eqB (pc := 5) (tgt := 10) cx dd_M_heldTag_5 (by decide) (fun h5 => ?_) (fun h5 => ?_)
  · -- 5: t to 10
    exact absurd ((congrArg not hz).symm.trans h5) (by decide)
  · -- 5: f to 8
    refine lv_iconst (pc := 8) (v := (-1)) hx hb dd_M_heldTag_8 (by decide) ?_
    exact f_iret (pc := 9) cx hr hlocks hP hS rfl rfl dd_M_heldTag_9
set_option maxHeartbeats 4000000 in
set_option maxRecDepth 100000 in
theorem ct_M_heldTag (l : Launch) (x : fy) (S : fm) (hM : fM x) (s0 : Nat) (i : Int32) (hs : s0 < xN x) (hO : fO x) (hm : mU S 35 0 s0 ≤ 5) : Met l mn_M_heldTag (gw_ws mn_M_heldTag cb_M_heldTag 6 (some .int)) ({ frames := 1, cells := 0, slots := 0, locals := 21 } : Room) (fPc x (S) [.ref (xa x 16 0), .int (nI s0), .int i]) (fQi x (S) (n_ht S s0 i)) 0 0 (fun q => xs x ≤ q) := by
  refine f_met (by decide) (Nat.le_of_ble_eq_true rfl) ?_
  intro p e s m below meth c0 cx hr hlocks hnm hP hS ls hl
  have cx : fX rn_M cb_M_heldTag 6 p c0 s m [.ref (xa x 16 0), .int (nI s0), .int i].toArray x := cx
  have hx := cx.1.1
  have hb := cx.1.2.1
  have hl : lv_has ls 6 [(0, .ref (xa x 16 0)), (1, .int (nI s0)), (2, .int i)] := hl
  obtain ⟨w16, w23, w24, w25, w26, w27, w28, w29, w30, w31, w32, w33, w34, w35, w36, w37, w39, w40, w41, w42, w43, w44, w45, w46⟩ := hM
  have hN : xN x ≤ 7 := hO.2.2.2.1
  have inner : ∀ (q : Nat) (H : Heap) (locs : List Loc), q < mU S 35 0 s0 → (∀ ls : Array Slot, lv_has ls 6 [(4, .int (nI (n_abv (mI S 36 0) (5 * s0) (mI S 36 0 (5 * s0 + q)) (mU S 35 0 s0)))), (3, .int (nI (5 * s0 + q))), (0, .ref (xa x 16 0)), (1, .int (nI s0)), (2, .int i)] → W p l e ({ frames := 1, cells := 0, slots := 0, locals := 21 } : Room) s m [.ref (xa x 16 0), .int (nI s0), .int i].toArray below meth c0 H locs 0 0 (MQ below (fQi x (S) (n_ht S s0 i)) [.ref (xa x 16 0), .int (nI s0), .int i].toArray s 0 0 (fun q => xs x ≤ q)) (F0 m 83 ls [])) → fP x S H → ∀ (n z : Nat), z + n = mU S 35 0 s0 → ∀ ls : Array Slot, lv_has ls 6 [(5, .int (nI (5 * s0 + z))), (4, .int (nI (n_abv (mI S 36 0) (5 * s0) (mI S 36 0 (5 * s0 + q)) (z)))), (3, .int (nI (5 * s0 + q))), (0, .ref (xa x 16 0)), (1, .int (nI s0)), (2, .int i)] → W p l e ({ frames := 1, cells := 0, slots := 0, locals := 21 } : Room) s m [.ref (xa x 16 0), .int (nI s0), .int i].toArray below meth c0 H locs 0 0 (MQ below (fQi x (S) (n_ht S s0 i)) [.ref (xa x 16 0), .int (nI s0), .int i].toArray s 0 0 (fun q => xs x ≤ q)) (F0 m 36 ls []) := by
    intro q H locs hq kk hP n
    induction n with
    | zero =>
      intro z hz ls hl
      have hz : z = mU S 35 0 s0 := by omega
      subst hz
      refine lv_iload (pc := 36) hx hb dd_M_heldTag_36 (lv_at hl 0 rfl) ?_
      refine lv_iconst (pc := 38) (v := nI 5) hx hb dd_M_heldTag_38 (by decide) ?_
      refine lv_iload_n (pc := 39) hx hb dd_M_heldTag_39 rfl (lv_at hl 4 rfl) ?_
      refine lv_imul (pc := 40) hx hb dd_M_heldTag_40 ?_
      refine f_topi (pk_mul 5 s0) ?_
      refine lv_aload_n (pc := 41) hx hb dd_M_heldTag_41 rfl (lv_at hl 3 rfl) ?_
      refine g_M_M_many (pc := 42) cx hP (by assumption) dd_M_heldTag_42 ?_
      refine lv_iload_n (pc := 45) hx hb dd_M_heldTag_45 rfl (lv_at hl 4 rfl) ?_
      refine f_iald (pc := 46) cx hP (fv.at (by assumption) _) rfl rfl (by omega) dd_M_heldTag_46 ?_
      refine lv_iadd (pc := 47) hx hb dd_M_heldTag_47 ?_
      refine f_topi (nI_add _ _) ?_
      refine lv_icmp_ge (pc := 48) (tgt := 83) hx hb dd_M_heldTag_48 (by decide) (fun h48 => ?_) (fun h48 => ?_)
      · -- 48: t to 83
        exact kk ls (lv_sub hl [1, 2, 3, 4, 5] rfl)
      · -- 48: f to 51
        exact absurd ((nI_leI (by omega) (by omega)).mpr (Nat.le_refl _)) h48
    | succ n ih =>
      intro z hz ls hl
      refine lv_iload (pc := 36) hx hb dd_M_heldTag_36 (lv_at hl 0 rfl) ?_
      refine lv_iconst (pc := 38) (v := nI 5) hx hb dd_M_heldTag_38 (by decide) ?_
      refine lv_iload_n (pc := 39) hx hb dd_M_heldTag_39 rfl (lv_at hl 4 rfl) ?_
      refine lv_imul (pc := 40) hx hb dd_M_heldTag_40 ?_
      refine f_topi (pk_mul 5 s0) ?_
      refine lv_aload_n (pc := 41) hx hb dd_M_heldTag_41 rfl (lv_at hl 3 rfl) ?_
      refine g_M_M_many (pc := 42) cx hP (by assumption) dd_M_heldTag_42 ?_
      refine lv_iload_n (pc := 45) hx hb dd_M_heldTag_45 rfl (lv_at hl 4 rfl) ?_
      refine f_iald (pc := 46) cx hP (fv.at (by assumption) _) rfl rfl (by omega) dd_M_heldTag_46 ?_
      refine lv_iadd (pc := 47) hx hb dd_M_heldTag_47 ?_
      refine f_topi (nI_add _ _) ?_
      refine lv_icmp_ge (pc := 48) (tgt := 83) hx hb dd_M_heldTag_48 (by decide) (fun h48 => ?_) (fun h48 => ?_)
      · -- 48: t to 83
        exact absurd ((nI_leI (by omega) (by omega)).mp h48) (by omega)
      · -- 48: f to 51
        refine lv_iload (pc := 51) hx hb dd_M_heldTag_51 (lv_at hl 1 rfl) ?_
        refine lv_aload_n (pc := 53) hx hb dd_M_heldTag_53 rfl (lv_at hl 3 rfl) ?_
        refine g_M_M_hasTag (pc := 54) cx hP (by assumption) dd_M_heldTag_54 ?_
        refine lv_iload (pc := 57) hx hb dd_M_heldTag_57 (lv_at hl 0 rfl) ?_
        refine f_iald (pc := 59) cx hP (fv.at (by assumption) _) rfl rfl (by omega) dd_M_heldTag_59 ?_
        refine lv_aload_n (pc := 60) hx hb dd_M_heldTag_60 rfl (lv_at hl 3 rfl) ?_
        refine g_M_M_hasTag (pc := 61) cx hP (by assumption) dd_M_heldTag_61 ?_
        refine lv_iload_n (pc := 64) hx hb dd_M_heldTag_64 rfl (lv_at hl 2 rfl) ?_
        refine f_iald (pc := 65) cx hP (fv.at (by assumption) _) rfl rfl (by omega) dd_M_heldTag_65 ?_
        refine lv_icmp_le (pc := 66) (tgt := 73) hx hb dd_M_heldTag_66 (by decide) (fun h66 => ?_) (fun h66 => ?_)
        · -- 66: t to 73
          have e0 : nI (n_abv (mI S 36 0) (5 * s0) (mI S 36 0 (5 * s0 + q)) (z) + 0) = nI (n_abv (mI S 36 0) (5 * s0) (mI S 36 0 (5 * s0 + q)) (z + 1)) := by show _ = nI (if _ then _ else _); rw [if_neg (Int32.not_lt.mpr h66)]; rfl
          refine lv_iconst (pc := 73) (v := nI 0) hx hb dd_M_heldTag_73 (by decide) ?_
          refine lv_iadd (pc := 74) hx hb dd_M_heldTag_74 ?_
          refine f_topi (nI_add _ _) ?_
          refine lv_istore (pc := 75) (lv' := [(4, _), (5, _), (3, _), (0, _), (1, _), (2, _)]) hx hb dd_M_heldTag_75 hl (Nat.le_of_ble_eq_true rfl) rfl (fun ls hl => ?_)
          refine lv_iinc (pc := 77) (k := 1) (lv' := [(5, _), (4, _), (3, _), (0, _), (1, _), (2, _)]) hx hb dd_M_heldTag_77 hl rfl (f_inc1 _) (Nat.le_of_ble_eq_true rfl) rfl (fun ls hl => ?_)
          refine lv_goto (pc := 80) (tgt := 36) hx hb dd_M_heldTag_80 (by decide) ?_
          rw [e0] at hl
          exact ih (z + 1) (by omega) ls (lv_sub hl [0, 1, 2, 3, 4, 5] rfl)
        · -- 66: f to 69
          have e0 : nI (n_abv (mI S 36 0) (5 * s0) (mI S 36 0 (5 * s0 + q)) (z) + 1) = nI (n_abv (mI S 36 0) (5 * s0) (mI S 36 0 (5 * s0 + q)) (z + 1)) := by show _ = nI (if _ then _ else _); rw [if_pos (Int32.not_le.mp h66)]
          refine lv_iconst (pc := 69) (v := nI 1) hx hb dd_M_heldTag_69 (by decide) ?_
          refine lv_goto (pc := 70) (tgt := 74) hx hb dd_M_heldTag_70 (by decide) ?_
          refine lv_iadd (pc := 74) hx hb dd_M_heldTag_74 ?_
          refine f_topi (nI_add _ _) ?_
          refine lv_istore (pc := 75) (lv' := [(4, _), (5, _), (3, _), (0, _), (1, _), (2, _)]) hx hb dd_M_heldTag_75 hl (Nat.le_of_ble_eq_true rfl) rfl (fun ls hl => ?_)
          refine lv_iinc (pc := 77) (k := 1) (lv' := [(5, _), (4, _), (3, _), (0, _), (1, _), (2, _)]) hx hb dd_M_heldTag_77 hl rfl (f_inc1 _) (Nat.le_of_ble_eq_true rfl) rfl (fun ls hl => ?_)
          refine lv_goto (pc := 80) (tgt := 36) hx hb dd_M_heldTag_80 (by decide) ?_
          rw [e0] at hl
          exact ih (z + 1) (by omega) ls (lv_sub hl [0, 1, 2, 3, 4, 5] rfl)
  have outer : ∀ (n q : Nat) (H : Heap) (locs : List Loc), q + n = mU S 35 0 s0 → (∀ k, k < q → ¬ nI (n_abv (mI S 36 0) (5 * s0) (mI S 36 0 (5 * s0 + k)) (mU S 35 0 s0)) = i) → fP x S H → fS x s.heap H locs → ∀ ls : Array Slot, lv_has ls 6 [(3, .int (nI (5 * s0 + q))), (0, .ref (xa x 16 0)), (1, .int (nI s0)), (2, .int i)] → W p l e ({ frames := 1, cells := 0, slots := 0, locals := 21 } : Room) s m [.ref (xa x 16 0), .int (nI s0), .int i].toArray below meth c0 H locs 0 0 (MQ below (fQi x (S) (n_ht S s0 i)) [.ref (xa x 16 0), .int (nI s0), .int i].toArray s 0 0 (fun q => xs x ≤ q)) (F0 m 14 ls []) := by
    intro n
    induction n with
    | zero =>
      intro q H locs hq hk hP hS ls hl
      have hq : q = mU S 35 0 s0 := by omega
      subst hq
      refine lv_iload_n (pc := 14) hx hb dd_M_heldTag_14 rfl (lv_at hl 0 rfl) ?_
      refine lv_iconst (pc := 15) (v := nI 5) hx hb dd_M_heldTag_15 (by decide) ?_
      refine lv_iload_n (pc := 16) hx hb dd_M_heldTag_16 rfl (lv_at hl 2 rfl) ?_
      refine lv_imul (pc := 17) hx hb dd_M_heldTag_17 ?_
      refine f_topi (pk_mul 5 s0) ?_
      refine lv_aload_n (pc := 18) hx hb dd_M_heldTag_18 rfl (lv_at hl 1 rfl) ?_
      refine g_M_M_many (pc := 19) cx hP (by assumption) dd_M_heldTag_19 ?_
      refine lv_iload_n (pc := 22) hx hb dd_M_heldTag_22 rfl (lv_at hl 2 rfl) ?_
      refine f_iald (pc := 23) cx hP (fv.at (by assumption) _) rfl rfl (by omega) dd_M_heldTag_23 ?_
      refine lv_iadd (pc := 24) hx hb dd_M_heldTag_24 ?_
      refine f_topi (nI_add _ _) ?_
      refine lv_icmp_ge (pc := 25) (tgt := 102) hx hb dd_M_heldTag_25 (by decide) (fun h25 => ?_) (fun h25 => ?_)
      · -- 25: t to 102
        refine lv_iconst (pc := 102) (v := (-1)) hx hb dd_M_heldTag_102 (by decide) ?_
        exact f_iret (pc := 103) cx hr hlocks hP hS (by unfold n_ht n_htp; rw [fr_none (fun k hk2 => decide_eq_false (hk k hk2))]) rfl dd_M_heldTag_103
      · -- 25: f to 28
        exact absurd ((nI_leI (by omega) (by omega)).mpr (Nat.le_refl _)) h25
    | succ n ih =>
      intro q H locs hq hk hP hS ls hl
      refine lv_iload_n (pc := 14) hx hb dd_M_heldTag_14 rfl (lv_at hl 0 rfl) ?_
      refine lv_iconst (pc := 15) (v := nI 5) hx hb dd_M_heldTag_15 (by decide) ?_
      refine lv_iload_n (pc := 16) hx hb dd_M_heldTag_16 rfl (lv_at hl 2 rfl) ?_
      refine lv_imul (pc := 17) hx hb dd_M_heldTag_17 ?_
      refine f_topi (pk_mul 5 s0) ?_
      refine lv_aload_n (pc := 18) hx hb dd_M_heldTag_18 rfl (lv_at hl 1 rfl) ?_
      refine g_M_M_many (pc := 19) cx hP (by assumption) dd_M_heldTag_19 ?_
      refine lv_iload_n (pc := 22) hx hb dd_M_heldTag_22 rfl (lv_at hl 2 rfl) ?_
      refine f_iald (pc := 23) cx hP (fv.at (by assumption) _) rfl rfl (by omega) dd_M_heldTag_23 ?_
      refine lv_iadd (pc := 24) hx hb dd_M_heldTag_24 ?_
      refine f_topi (nI_add _ _) ?_
      refine lv_icmp_ge (pc := 25) (tgt := 102) hx hb dd_M_heldTag_25 (by decide) (fun h25 => ?_) (fun h25 => ?_)
      · -- 25: t to 102
        exact absurd ((nI_leI (by omega) (by omega)).mp h25) (by omega)
      · -- 25: f to 28
        refine lv_iconst (pc := 28) (v := nI 0) hx hb dd_M_heldTag_28 (by decide) ?_
        refine lv_istore (pc := 29) (lv' := [(4, _), (3, _), (0, _), (1, _), (2, _)]) hx hb dd_M_heldTag_29 hl (Nat.le_of_ble_eq_true rfl) rfl (fun ls hl => ?_)
        refine lv_iconst (pc := 31) (v := nI 5) hx hb dd_M_heldTag_31 (by decide) ?_
        refine lv_iload_n (pc := 32) hx hb dd_M_heldTag_32 rfl (lv_at hl 3 rfl) ?_
        refine lv_imul (pc := 33) hx hb dd_M_heldTag_33 ?_
        refine f_topi (pk_mul 5 s0) ?_
        refine lv_istore (pc := 34) (lv' := [(5, _), (4, _), (3, _), (0, _), (1, _), (2, _)]) hx hb dd_M_heldTag_34 hl (Nat.le_of_ble_eq_true rfl) rfl (fun ls hl => ?_)
        refine inner q _ _ (by omega) (fun ls hl => ?_) hP (mU S 35 0 s0) 0 (by omega) ls (lv_sub hl [0, 1, 2, 3, 4, 5] rfl)
        refine lv_iload (pc := 83) hx hb dd_M_heldTag_83 (lv_at hl 0 rfl) ?_
        refine lv_iload_n (pc := 85) hx hb dd_M_heldTag_85 rfl (lv_at hl 4 rfl) ?_
        refine lv_icmp_ne (pc := 86) (tgt := 96) hx hb dd_M_heldTag_86 (by decide) (fun h86 => ?_) (fun h86 => ?_)
        · -- 86: t to 96
          refine lv_iinc (pc := 96) (k := 1) (lv' := [(3, _), (4, _), (0, _), (1, _), (2, _)]) hx hb dd_M_heldTag_96 hl rfl (f_inc1 _) (Nat.le_of_ble_eq_true rfl) rfl (fun ls hl => ?_)
          refine lv_goto (pc := 99) (tgt := 14) hx hb dd_M_heldTag_99 (by decide) ?_
          exact ih (q + 1) _ _ (by omega) (lt_s hk h86) hP hS ls (lv_sub hl [0, 2, 3, 4] rfl)
        · -- 86: f to 89
          refine lv_aload_n (pc := 89) hx hb dd_M_heldTag_89 rfl (lv_at hl 2 rfl) ?_
          refine g_M_M_hasTag (pc := 90) cx hP (by assumption) dd_M_heldTag_90 ?_
          refine lv_iload_n (pc := 93) hx hb dd_M_heldTag_93 rfl (lv_at hl 1 rfl) ?_
          refine f_iald (pc := 94) cx hP (fv.at (by assumption) _) rfl rfl (by omega) dd_M_heldTag_94 ?_
          exact f_iret (pc := 95) cx hr hlocks hP hS (by unfold n_ht n_htp; rw [fr_some (show q < mU S 35 0 s0 by omega) (decide_eq_true h86) (fun k hk2 => decide_eq_false (hk k hk2))]) rfl dd_M_heldTag_95
  refine lv_aload_n (pc := 0) hx hb dd_M_heldTag_0 rfl (lv_at hl 0 rfl) ?_
  refine lv_iload_n (pc := 1) hx hb dd_M_heldTag_1 rfl (lv_at hl 1 rfl) ?_
  refine k_M_M_noServer (pc := 2) cx hl hP hS (by assumption) (ct_M_noServer l x _ ⟨w16, w23, w24, w25, w26, w27, w28, w29, w30, w31, w32, w33, w34, w35, w36, w37, w39, w40, w41, w42, w43, w44, w45, w46⟩ (nI s0)) ⟨⟨rfl, rfl⟩, ⟨(Nat.le_of_ble_eq_true rfl), (Nat.le_of_ble_eq_true rfl)⟩, (Nat.le_of_ble_eq_true rfl), (Nat.le_of_ble_eq_true rfl)⟩ (Nat.le_of_ble_eq_true rfl) dd_M_heldTag_2 (fun H locs hP hS => ?_)
  refine f_eqB (pc := 5) (tgt := 10) cx dd_M_heldTag_5 (by decide) (fun h5 => ?_) (fun h5 => ?_)
  · -- 5: t to 10
    refine lv_iconst (pc := 10) (v := nI 5) hx hb dd_M_heldTag_10 (by decide) ?_
    refine lv_iload_n (pc := 11) hx hb dd_M_heldTag_11 rfl (lv_at hl 1 rfl) ?_
    refine lv_imul (pc := 12) hx hb dd_M_heldTag_12 ?_
    refine f_topi (pk_mul 5 s0) ?_
    refine lv_istore_n (pc := 13) (lv' := [(3, _), (0, _), (1, _), (2, _)]) hx hb dd_M_heldTag_13 rfl hl (Nat.le_of_ble_eq_true rfl) rfl (fun ls hl => ?_)
    exact outer (mU S 35 0 s0) 0 _ _ (by omega) lt_0 hP hS ls (lv_sub hl [0, 1, 2, 3] rfl)
  · -- 5: f to 8
    exact absurd ((congrArg not (q_sv_in hO hs)).symm.trans h5) (by decide)
set_option maxHeartbeats 4000000 in
set_option maxRecDepth 100000 in
theorem ct_M_product (l : Launch) (x : fy) (S : fm) (hM : fM x) (a b : BitVec 8) : Met l mn_M_product (gw_ws mn_M_product cb_M_product 5 (some .int)) ({ frames := 0, cells := 0, slots := 0, locals := 0 } : Room) (fPc x (S) [.ref (xa x 16 0), .int (bI a), .int (bI b)]) (fQi x (S) (bI (gf_m a b))) 0 0 (fun q => xs x ≤ q) := by
  refine f_met (by decide) (Nat.le_of_ble_eq_true rfl) ?_
  intro p e s m below meth c0 cx hr hlocks hnm hP hS ls hl
  have cx : fX rn_M cb_M_product 5 p c0 s m [.ref (xa x 16 0), .int (bI a), .int (bI b)].toArray x := cx
  have hx := cx.1.1
  have hb := cx.1.2.1
  have hl : lv_has ls 5 [(0, .ref (xa x 16 0)), (1, .int (bI a)), (2, .int (bI b))] := hl
  obtain ⟨w16, w23, w24, w25, w26, w27, w28, w29, w30, w31, w32, w33, w34, w35, w36, w37, w39, w40, w41, w42, w43, w44, w45, w46⟩ := hM
  have lp2 : ∀ (n : Nat) (p0 : BitVec 16) (v i : Int32), n ≤ 7 → v = hI p0 → i = nI (7 + n) → rd n p0 = rd 7 (cp a b 8) → ∀ ls : Array Slot, lv_has ls 5 [(4, .int i), (3, .int v), (0, .ref (xa x 16 0)), (1, .int (bI a)), (2, .int (bI b))] → W p l e ({ frames := 0, cells := 0, slots := 0, locals := 0 } : Room) s m [.ref (xa x 16 0), .int (bI a), .int (bI b)].toArray below meth c0 s.heap [] 0 0 (MQ below (fQi x (S) (bI (gf_m a b))) [.ref (xa x 16 0), .int (bI a), .int (bI b)].toArray s 0 0 (fun q => xs x ≤ q)) (F0 m 39 ls []) := by
    intro n
    induction n with
    | zero =>
      intro p0 v i hn hv hi hU ls hl
      subst hv; subst hi
      refine lv_iload (pc := 39) hx hb dd_M_product_39 (lv_at hl 0 rfl) ?_
      refine lv_bipush (pc := 41) (v := 8) hx hb dd_M_product_41 (by decide) ?_
      refine lv_icmp_lt (pc := 43) (tgt := 74) hx hb dd_M_product_43 (by decide) (fun h43 => ?_) (fun h43 => ?_)
      · -- 43: t to 74
        refine lv_iload_n (pc := 74) hx hb dd_M_product_74 rfl (lv_at hl 1 rfl) ?_
        exact f_iret (pc := 75) cx hr hlocks hP hS (by rw [show p0 = _ from hU, prod_ok, hI_b]) rfl dd_M_product_75
      · -- 43: f to 46
        exact absurd (by decide) h43
    | succ n ih =>
      intro p0 v i hn hv hi hU ls hl
      subst hv; subst hi
      refine lv_iload (pc := 39) hx hb dd_M_product_39 (lv_at hl 0 rfl) ?_
      refine lv_bipush (pc := 41) (v := nI 8) hx hb dd_M_product_41 (by decide) ?_
      refine lv_icmp_lt (pc := 43) (tgt := 74) hx hb dd_M_product_43 (by decide) (fun h43 => ?_) (fun h43 => ?_)
      · -- 43: t to 74
        exact absurd ((nI_ltI (by omega) (by omega)).mp h43) (by omega)
      · -- 43: f to 46
        refine lv_iload_n (pc := 46) hx hb dd_M_product_46 rfl (lv_at hl 1 rfl) ?_
        refine lv_iload (pc := 47) hx hb dd_M_product_47 (lv_at hl 0 rfl) ?_
        refine lv_ishr (pc := 49) hx hb dd_M_product_49 ?_
        refine lv_iconst (pc := 50) (v := 1) hx hb dd_M_product_50 (by decide) ?_
        refine lv_iand (pc := 51) hx hb dd_M_product_51 ?_
        refine lv_iconst (pc := 52) (v := 1) hx hb dd_M_product_52 (by decide) ?_
        refine lv_icmp_ne (pc := 53) (tgt := 68) hx hb dd_M_product_53 (by decide) (fun h53 => ?_) (fun h53 => ?_)
        · -- 53: t to 68
          have hbit : p0.getLsbD (8 + n) = false := by
            cases hz : p0.getLsbD (8 + n) with
            | false => rfl
            | true => exact absurd ((hI_bit p0 (by omega)).mpr (by rw [show 7 + (n + 1) = 8 + n by omega]; exact hz)) h53
          have e0 : hI p0 = hI (rs n p0) := by rw [rs_f hbit]
          refine lv_iinc (pc := 68) (k := 0) (lv' := [(4, _), (3, _), (0, _), (1, _), (2, _)]) hx hb dd_M_product_68 hl rfl (f_dec (by omega)) (Nat.le_of_ble_eq_true rfl) rfl (fun ls hl => ?_)
          refine lv_goto (pc := 71) (tgt := 39) hx hb dd_M_product_71 (by decide) ?_
          exact ih (rs n p0) _ _ (by omega) e0 rfl hU ls (lv_sub hl [0, 1, 2, 3, 4] rfl)
        · -- 53: f to 56
          have hbit : p0.getLsbD (8 + n) = true := by have := (hI_bit p0 (by omega)).mp h53; rw [show 7 + (n + 1) = 8 + n by omega] at this; exact this
          have e0 : hI p0 ^^^ hI (285#16 <<< n) = hI (rs n p0) := by rw [rs_t hbit, hI_xor]
          refine lv_iload_n (pc := 56) hx hb dd_M_product_56 rfl (lv_at hl 1 rfl) ?_
          refine lv_sipush (pc := 57) (v := 285) hx hb dd_M_product_57 (by decide) ?_
          refine lv_iload (pc := 60) hx hb dd_M_product_60 (lv_at hl 0 rfl) ?_
          refine lv_bipush (pc := 62) (v := nI 8) hx hb dd_M_product_62 (by decide) ?_
          refine lv_isub (pc := 64) hx hb dd_M_product_64 ?_
          refine f_topi (show nI (7 + (n + 1)) - nI 8 = nI n by rw [pk_sub (by omega)]; congr 1; omega) ?_
          refine lv_ishl (pc := 65) hx hb dd_M_product_65 ?_
          refine f_topi (hI_285 n (by omega)) ?_
          refine lv_ixor (pc := 66) hx hb dd_M_product_66 ?_
          refine lv_istore_n (pc := 67) (lv' := [(3, _), (4, _), (0, _), (1, _), (2, _)]) hx hb dd_M_product_67 rfl hl (Nat.le_of_ble_eq_true rfl) rfl (fun ls hl => ?_)
          refine lv_iinc (pc := 68) (k := 1) (lv' := [(4, _), (3, _), (0, _), (1, _), (2, _)]) hx hb dd_M_product_68 hl rfl (f_dec (by omega)) (Nat.le_of_ble_eq_true rfl) rfl (fun ls hl => ?_)
          refine lv_goto (pc := 71) (tgt := 39) hx hb dd_M_product_71 (by decide) ?_
          exact ih (rs n p0) _ _ (by omega) e0 rfl hU ls (lv_sub hl [0, 1, 2, 3, 4] rfl)
  have lp1 : ∀ (n i : Nat) (v : Int32), i + n = 8 → v = hI (cp a b i) → ∀ ls : Array Slot, lv_has ls 5 [(4, .int (nI i)), (3, .int v), (0, .ref (xa x 16 0)), (1, .int (bI a)), (2, .int (bI b))] → W p l e ({ frames := 0, cells := 0, slots := 0, locals := 0 } : Room) s m [.ref (xa x 16 0), .int (bI a), .int (bI b)].toArray below meth c0 s.heap [] 0 0 (MQ below (fQi x (S) (bI (gf_m a b))) [.ref (xa x 16 0), .int (bI a), .int (bI b)].toArray s 0 0 (fun q => xs x ≤ q)) (F0 m 5 ls []) := by
    intro n
    induction n with
    | zero =>
      intro i v hi hv ls hl
      have hi : i = 8 := by omega
      subst hi; subst hv
      refine lv_iload (pc := 5) hx hb dd_M_product_5 (lv_at hl 0 rfl) ?_
      refine lv_bipush (pc := 7) (v := nI 8) hx hb dd_M_product_7 (by decide) ?_
      refine lv_icmp_ge (pc := 9) (tgt := 35) hx hb dd_M_product_9 (by decide) (fun h9 => ?_) (fun h9 => ?_)
      · -- 9: t to 35
        refine lv_bipush (pc := 35) (v := nI 14) hx hb dd_M_product_35 (by decide) ?_
        refine lv_istore (pc := 37) (lv' := [(4, _), (3, _), (0, _), (1, _), (2, _)]) hx hb dd_M_product_37 hl (Nat.le_of_ble_eq_true rfl) rfl (fun ls hl => ?_)
        exact lp2 7 (cp a b 8) _ _ (by omega) rfl rfl rfl ls (lv_sub hl [0, 1, 2, 3, 4] rfl)
      · -- 9: f to 12
        exact absurd ((nI_leI (by omega) (by omega)).mpr (Nat.le_refl _)) h9
    | succ n ih =>
      intro i v hi hv ls hl
      subst hv
      refine lv_iload (pc := 5) hx hb dd_M_product_5 (lv_at hl 0 rfl) ?_
      refine lv_bipush (pc := 7) (v := nI 8) hx hb dd_M_product_7 (by decide) ?_
      refine lv_icmp_ge (pc := 9) (tgt := 35) hx hb dd_M_product_9 (by decide) (fun h9 => ?_) (fun h9 => ?_)
      · -- 9: t to 35
        exact absurd ((nI_leI (by omega) (by omega)).mp h9) (by omega)
      · -- 9: f to 12
        refine lv_iload_n (pc := 12) hx hb dd_M_product_12 rfl (lv_at hl 4 rfl) ?_
        refine lv_iload (pc := 13) hx hb dd_M_product_13 (lv_at hl 0 rfl) ?_
        refine lv_ishr (pc := 15) hx hb dd_M_product_15 ?_
        refine lv_iconst (pc := 16) (v := 1) hx hb dd_M_product_16 (by decide) ?_
        refine lv_iand (pc := 17) hx hb dd_M_product_17 ?_
        refine lv_iconst (pc := 18) (v := 1) hx hb dd_M_product_18 (by decide) ?_
        refine lv_icmp_ne (pc := 19) (tgt := 29) hx hb dd_M_product_19 (by decide) (fun h19 => ?_) (fun h19 => ?_)
        · -- 19: t to 29
          have hbit : b.getLsbD i = false := by
            cases hz : b.getLsbD i with
            | false => rfl
            | true => exact absurd ((bI_hbit b (by omega)).mpr hz) h19
          have e0 : hI (cp a b i) = hI (cp a b (i + 1)) := by rw [cp_f hbit]
          refine lv_iinc (pc := 29) (k := 0) (lv' := [(4, _), (3, _), (0, _), (1, _), (2, _)]) hx hb dd_M_product_29 hl rfl (f_inc1 i) (Nat.le_of_ble_eq_true rfl) rfl (fun ls hl => ?_)
          refine lv_goto (pc := 32) (tgt := 5) hx hb dd_M_product_32 (by decide) ?_
          exact ih (i + 1) _ (by omega) e0 ls (lv_sub hl [0, 1, 2, 3, 4] rfl)
        · -- 19: f to 22
          have hbit := (bI_hbit b (show i < 8 by omega)).mp h19
          have e0 : hI (cp a b i) ^^^ hI ((a.setWidth 16) <<< i) = hI (cp a b (i + 1)) := by rw [cp_t hbit, hI_xor]
          refine lv_iload_n (pc := 22) hx hb dd_M_product_22 rfl (lv_at hl 1 rfl) ?_
          refine lv_iload_n (pc := 23) hx hb dd_M_product_23 rfl (lv_at hl 3 rfl) ?_
          refine lv_iload (pc := 24) hx hb dd_M_product_24 (lv_at hl 0 rfl) ?_
          refine lv_ishl (pc := 26) hx hb dd_M_product_26 ?_
          refine f_topi (hI_shl a (by omega)) ?_
          refine lv_ixor (pc := 27) hx hb dd_M_product_27 ?_
          refine lv_istore_n (pc := 28) (lv' := [(3, _), (4, _), (0, _), (1, _), (2, _)]) hx hb dd_M_product_28 rfl hl (Nat.le_of_ble_eq_true rfl) rfl (fun ls hl => ?_)
          refine lv_iinc (pc := 29) (k := 1) (lv' := [(4, _), (3, _), (0, _), (1, _), (2, _)]) hx hb dd_M_product_29 hl rfl (f_inc1 i) (Nat.le_of_ble_eq_true rfl) rfl (fun ls hl => ?_)
          refine lv_goto (pc := 32) (tgt := 5) hx hb dd_M_product_32 (by decide) ?_
          exact ih (i + 1) _ (by omega) e0 ls (lv_sub hl [0, 1, 2, 3, 4] rfl)
  refine lv_iconst (pc := 0) (v := 0) hx hb dd_M_product_0 (by decide) ?_
  refine lv_istore_n (pc := 1) (lv' := [(3, _), (0, _), (1, _), (2, _)]) hx hb dd_M_product_1 rfl hl (Nat.le_of_ble_eq_true rfl) rfl (fun ls hl => ?_)
  refine lv_iconst (pc := 2) (v := nI 0) hx hb dd_M_product_2 (by decide) ?_
  refine lv_istore (pc := 3) (lv' := [(4, _), (3, _), (0, _), (1, _), (2, _)]) hx hb dd_M_product_3 hl (Nat.le_of_ble_eq_true rfl) rfl (fun ls hl => ?_)
  exact lp1 8 0 _ (by omega) hI_0.symm ls (lv_sub hl [0, 1, 2, 3, 4] rfl)
set_option maxHeartbeats 4000000 in
set_option maxRecDepth 100000 in
theorem ct_M_fragment_no (l : Launch) (x : fy) (S : fm) (hM : fM x) (z t i : Int32) (hz : q_sv x z = false) : Met l mn_M_fragment (gw_ws mn_M_fragment cb_M_fragment 10 (some .int)) ({ frames := 1, cells := 0, slots := 0, locals := 24 } : Room) (fPc x (S) [.ref (xa x 16 0), .int z, .int t, .int i]) (fQi x (S) (-1)) 0 0 (fun q => xs x ≤ q) := by
  refine f_met (by decide) (Nat.le_of_ble_eq_true rfl) ?_
  intro p e s m below meth c0 cx hr hlocks hnm hP hS ls hl
  have cx : fX rn_M cb_M_fragment 10 p c0 s m [.ref (xa x 16 0), .int z, .int t, .int i].toArray x := cx
  have hx := cx.1.1
  have hb := cx.1.2.1
  have hl : lv_has ls 10 [(0, .ref (xa x 16 0)), (1, .int z), (2, .int t), (3, .int i)] := hl
  obtain ⟨w16, w23, w24, w25, w26, w27, w28, w29, w30, w31, w32, w33, w34, w35, w36, w37, w39, w40, w41, w42, w43, w44, w45, w46⟩ := hM
  refine lv_aload_n (pc := 0) hx hb dd_M_fragment_0 rfl (lv_at hl 0 rfl) ?_
  refine lv_iload_n (pc := 1) hx hb dd_M_fragment_1 rfl (lv_at hl 1 rfl) ?_
  refine k_M_M_noServer (pc := 2) cx hl hP hS (by assumption) (ct_M_noServer l x _ ⟨w16, w23, w24, w25, w26, w27, w28, w29, w30, w31, w32, w33, w34, w35, w36, w37, w39, w40, w41, w42, w43, w44, w45, w46⟩ z) ⟨⟨rfl, rfl⟩, ⟨(Nat.le_of_ble_eq_true rfl), (Nat.le_of_ble_eq_true rfl)⟩, (Nat.le_of_ble_eq_true rfl), (Nat.le_of_ble_eq_true rfl)⟩ (Nat.le_of_ble_eq_true rfl) dd_M_fragment_2 (fun H locs hP hS => ?_)
  refine f_neB (pc := 5) (tgt := 30) cx dd_M_fragment_5 (by decide) (fun h5 => ?_) (fun h5 => ?_)
  · -- 5: t to 30
    refine lv_iconst (pc := 30) (v := (-1)) hx hb dd_M_fragment_30 (by decide) ?_
    exact f_iret (pc := 31) cx hr hlocks hP hS rfl rfl dd_M_fragment_31
  · -- 5: f to 8
    exact absurd ((congrArg not hz).symm.trans h5) (by decide)
set_option maxHeartbeats 4000000 in
set_option maxRecDepth 100000 in
theorem ct_M_fragment_bad (l : Launch) (x : fy) (S : fm) (hM : fM x) (s0 : Nat) (t i : Int32) (hs : s0 < xN x) (hO : fO x) (hi : i < 0 ∨ nI (xR x) ≤ i) : Met l mn_M_fragment (gw_ws mn_M_fragment cb_M_fragment 10 (some .int)) ({ frames := 1, cells := 0, slots := 0, locals := 24 } : Room) (fPc x (S) [.ref (xa x 16 0), .int (nI s0), .int t, .int i]) (fQi x (S) (-1)) 0 0 (fun q => xs x ≤ q) := by
  refine f_met (by decide) (Nat.le_of_ble_eq_true rfl) ?_
  intro p e s m below meth c0 cx hr hlocks hnm hP hS ls hl
  have cx : fX rn_M cb_M_fragment 10 p c0 s m [.ref (xa x 16 0), .int (nI s0), .int t, .int i].toArray x := cx
  have hx := cx.1.1
  have hb := cx.1.2.1
  have hl : lv_has ls 10 [(0, .ref (xa x 16 0)), (1, .int (nI s0)), (2, .int t), (3, .int i)] := hl
  obtain ⟨w16, w23, w24, w25, w26, w27, w28, w29, w30, w31, w32, w33, w34, w35, w36, w37, w39, w40, w41, w42, w43, w44, w45, w46⟩ := hM
  have hN : xN x ≤ 7 := hO.2.2.2.1
  have hK : xK x ≤ 7 := by have := hO; unfold fO at this; omega
  have hK1 : 1 ≤ xK x := hO.2.2.2.2.1
  have hR := xR_facts x hO
  refine lv_aload_n (pc := 0) hx hb dd_M_fragment_0 rfl (lv_at hl 0 rfl) ?_
  refine lv_iload_n (pc := 1) hx hb dd_M_fragment_1 rfl (lv_at hl 1 rfl) ?_
  refine k_M_M_noServer (pc := 2) cx hl hP hS (by assumption) (ct_M_noServer l x _ ⟨w16, w23, w24, w25, w26, w27, w28, w29, w30, w31, w32, w33, w34, w35, w36, w37, w39, w40, w41, w42, w43, w44, w45, w46⟩ (nI s0)) ⟨⟨rfl, rfl⟩, ⟨(Nat.le_of_ble_eq_true rfl), (Nat.le_of_ble_eq_true rfl)⟩, (Nat.le_of_ble_eq_true rfl), (Nat.le_of_ble_eq_true rfl)⟩ (Nat.le_of_ble_eq_true rfl) dd_M_fragment_2 (fun H locs hP hS => ?_)
  refine f_neB (pc := 5) (tgt := 30) cx dd_M_fragment_5 (by decide) (fun h5 => ?_) (fun h5 => ?_)
  · -- 5: t to 30
    exact absurd ((congrArg not (q_sv_in hO hs)).symm.trans h5) (by decide)
  · -- 5: f to 8
    refine lv_iload_n (pc := 8) hx hb dd_M_fragment_8 rfl (lv_at hl 3 rfl) ?_
    refine lv_if_lt (pc := 9) (tgt := 30) hx hb dd_M_fragment_9 (by decide) (fun h9 => ?_) (fun h9 => ?_)
    · -- 9: t to 30
      refine lv_iconst (pc := 30) (v := (-1)) hx hb dd_M_fragment_30 (by decide) ?_
      exact f_iret (pc := 31) cx hr hlocks hP hS rfl rfl dd_M_fragment_31
    · -- 9: f to 12
      refine lv_iload_n (pc := 12) hx hb dd_M_fragment_12 rfl (lv_at hl 3 rfl) ?_
      refine lv_bipush (pc := 13) (v := nI 8) hx hb dd_M_fragment_13 (by decide) ?_
      refine lv_aload_n (pc := 15) hx hb dd_M_fragment_15 rfl (lv_at hl 0 rfl) ?_
      refine g_M_M_k (pc := 16) cx hP (by assumption) dd_M_fragment_16 ?_
      refine lv_iadd (pc := 19) hx hb dd_M_fragment_19 ?_
      refine lv_iconst (pc := 20) (v := 1) hx hb dd_M_fragment_20 (by decide) ?_
      refine lv_isub (pc := 21) hx hb dd_M_fragment_21 ?_
      refine lv_aload_n (pc := 22) hx hb dd_M_fragment_22 rfl (lv_at hl 0 rfl) ?_
      refine g_M_M_k (pc := 23) cx hP (by assumption) dd_M_fragment_23 ?_
      refine lv_idiv (pc := 26) hx hb dd_M_fragment_26 (fun q => by have := (nI_eq (show xK x < 2 ^ 31 by omega) (by decide)).mp (show nI (xK x) = nI 0 from q); omega) ?_
      refine f_topi (n_len x hO) ?_
      refine lv_icmp_lt (pc := 27) (tgt := 32) hx hb dd_M_fragment_27 (by decide) (fun h27 => ?_) (fun h27 => ?_)
      · -- 27: t to 32
        exact absurd h27 (fun q => hi.elim h9 (fun q2 => absurd q (Int32.not_lt.mpr q2)))
      · -- 27: f to 30
        refine lv_iconst (pc := 30) (v := (-1)) hx hb dd_M_fragment_30 (by decide) ?_
        exact f_iret (pc := 31) cx hr hlocks hP hS rfl rfl dd_M_fragment_31
set_option maxHeartbeats 4000000 in
set_option maxRecDepth 100000 in
theorem ct_M_fragment (l : Launch) (x : fy) (S : fm) (hM : fM x) (s0 r : Nat) (t : Int32) (hs : s0 < xN x) (hO : fO x) (hr0 : r < xR x) (hm : mU S 35 0 s0 ≤ 5) : Met l mn_M_fragment (gw_ws mn_M_fragment cb_M_fragment 10 (some .int)) ({ frames := 1, cells := 0, slots := 0, locals := 24 } : Room) (fPc x (S) [.ref (xa x 16 0), .int (nI s0), .int t, .int (nI r)]) (fQi x (S) (n_frag x S s0 t r)) 0 0 (fun q => xs x ≤ q) := by
  refine f_met (by decide) (Nat.le_of_ble_eq_true rfl) ?_
  intro p e s m below meth c0 cx hr hlocks hnm hP hS ls hl
  have cx : fX rn_M cb_M_fragment 10 p c0 s m [.ref (xa x 16 0), .int (nI s0), .int t, .int (nI r)].toArray x := cx
  have hx := cx.1.1
  have hb := cx.1.2.1
  have hl : lv_has ls 10 [(0, .ref (xa x 16 0)), (1, .int (nI s0)), (2, .int t), (3, .int (nI r))] := hl
  obtain ⟨w16, w23, w24, w25, w26, w27, w28, w29, w30, w31, w32, w33, w34, w35, w36, w37, w39, w40, w41, w42, w43, w44, w45, w46⟩ := hM
  have hN : xN x ≤ 7 := hO.2.2.2.1
  have hK : xK x ≤ 7 := by have := hO; unfold fO at this; omega
  have hK1 : 1 ≤ xK x := hO.2.2.2.2.1
  have hR := xR_facts x hO
  have loop : ∀ (a : Nat), a < 35 → n_place S s0 t = some a → ∀ (n i : Nat) (su pw : Int32) (H : Heap) (locs : List Loc), i + n = xK x → su = bI (gf_sum (fun m => gf_m ((fun m => by8 (mJ S 37 0 a) (r * xK x + m)) m) (gf_w (BitVec.ofNat 8 (s0 + 1)) m)) (i)) → pw = bI (gf_w (BitVec.ofNat 8 (s0 + 1)) i) → fP x S H → fS x s.heap H locs → ∀ ls : Array Slot, lv_has ls 10 [(7, .int (nI i)), (6, .int pw), (5, .int su), (4, .int (nI a)), (0, .ref (xa x 16 0)), (1, .int (nI s0)), (2, .int t), (3, .int (nI r))] → W p l e ({ frames := 1, cells := 0, slots := 0, locals := 24 } : Room) s m [.ref (xa x 16 0), .int (nI s0), .int t, .int (nI r)].toArray below meth c0 H locs 0 0 (MQ below (fQi x (S) (n_frag x S s0 t r)) [.ref (xa x 16 0), .int (nI s0), .int t, .int (nI r)].toArray s 0 0 (fun q => xs x ≤ q)) (F0 m 56 ls []) := by
    intro a ha hpl n
    induction n with
    | zero =>
      intro i su pw H locs hi e1 e2 hP hS ls hl
      have hi : i = xK x := by omega
      subst hi; subst e1; subst e2
      refine lv_iload (pc := 56) hx hb dd_M_fragment_56 (lv_at hl 0 rfl) ?_
      refine lv_aload_n (pc := 58) hx hb dd_M_fragment_58 rfl (lv_at hl 4 rfl) ?_
      refine g_M_M_k (pc := 59) cx hP (by assumption) dd_M_fragment_59 ?_
      refine lv_icmp_ge (pc := 62) (tgt := 137) hx hb dd_M_fragment_62 (by decide) (fun h62 => ?_) (fun h62 => ?_)
      · -- 62: t to 137
        refine lv_iload (pc := 137) hx hb dd_M_fragment_137 (lv_at hl 2 rfl) ?_
        exact f_iret (pc := 139) cx hr hlocks hP hS (by unfold n_frag; rw [hpl]; rfl) rfl dd_M_fragment_139
      · -- 62: f to 65
        exact absurd ((nI_leI (by omega) (by omega)).mpr (Nat.le_refl _)) h62
    | succ n ih =>
      intro i su pw H locs hi e1 e2 hP hS ls hl
      subst e1; subst e2
      have hrk := f_rkb (show r < 8 by omega) hK (show i < xK x by omega)
      refine lv_iload (pc := 56) hx hb dd_M_fragment_56 (lv_at hl 0 rfl) ?_
      refine lv_aload_n (pc := 58) hx hb dd_M_fragment_58 rfl (lv_at hl 4 rfl) ?_
      refine g_M_M_k (pc := 59) cx hP (by assumption) dd_M_fragment_59 ?_
      refine lv_icmp_ge (pc := 62) (tgt := 137) hx hb dd_M_fragment_62 (by decide) (fun h62 => ?_) (fun h62 => ?_)
      · -- 62: t to 137
        exact absurd ((nI_leI (by omega) (by omega)).mp h62) (by omega)
      · -- 62: f to 65
        refine lv_iload_n (pc := 65) hx hb dd_M_fragment_65 rfl (lv_at hl 7 rfl) ?_
        refine lv_aload_n (pc := 66) hx hb dd_M_fragment_66 rfl (lv_at hl 4 rfl) ?_
        refine g_M_M_k (pc := 67) cx hP (by assumption) dd_M_fragment_67 ?_
        refine lv_imul (pc := 70) hx hb dd_M_fragment_70 ?_
        refine lv_iload (pc := 71) hx hb dd_M_fragment_71 (lv_at hl 0 rfl) ?_
        refine lv_iadd (pc := 73) hx hb dd_M_fragment_73 ?_
        refine f_topi f_rk ?_
        refine lv_istore (pc := 74) (lv' := [(8, _), (7, _), (6, _), (5, _), (4, _), (0, _), (1, _), (2, _), (3, _)]) hx hb dd_M_fragment_74 hl (Nat.le_of_ble_eq_true rfl) rfl (fun ls hl => ?_)
        refine lv_iload (pc := 76) hx hb dd_M_fragment_76 (lv_at hl 0 rfl) ?_
        refine lv_bipush (pc := 78) (v := nI 8) hx hb dd_M_fragment_78 (by decide) ?_
        refine lv_icmp_ge (pc := 80) (tgt := 104) hx hb dd_M_fragment_80 (by decide) (fun h80 => ?_) (fun h80 => ?_)
        · -- 80: t to 104
          have h := (nI_leI (by omega) (by omega)).mp h80
          have e0 : (0 : Int32) = bI (by8 (mJ S 37 0 a) (r * xK x + i)) := by rw [by8_big _ h]; exact bI_0.symm
          refine lv_iconst (pc := 104) (v := 0) hx hb dd_M_fragment_104 (by decide) ?_
          refine lv_istore (pc := 105) (lv' := [(9, _), (8, _), (7, _), (6, _), (5, _), (4, _), (0, _), (1, _), (2, _), (3, _)]) hx hb dd_M_fragment_105 hl (Nat.le_of_ble_eq_true rfl) rfl (fun ls hl => ?_)
          rw [e0] at hl
          refine lv_iload (pc := 107) hx hb dd_M_fragment_107 (lv_at hl 4 rfl) ?_
          refine lv_aload_n (pc := 109) hx hb dd_M_fragment_109 rfl (lv_at hl 6 rfl) ?_
          refine lv_iload (pc := 110) hx hb dd_M_fragment_110 (lv_at hl 0 rfl) ?_
          refine lv_iload (pc := 112) hx hb dd_M_fragment_112 (lv_at hl 3 rfl) ?_
          refine k_M_M_product (pc := 114) cx hl hP hS (by assumption) (ct_M_product l x S ⟨w16, w23, w24, w25, w26, w27, w28, w29, w30, w31, w32, w33, w34, w35, w36, w37, w39, w40, w41, w42, w43, w44, w45, w46⟩ (by8 (mJ S 37 0 a) (r * xK x + i)) (gf_w (BitVec.ofNat 8 (s0 + 1)) i)) ⟨⟨rfl, rfl⟩, ⟨(Nat.le_of_ble_eq_true rfl), (Nat.le_of_ble_eq_true rfl)⟩, (Nat.le_of_ble_eq_true rfl), (Nat.le_of_ble_eq_true rfl)⟩ (Nat.le_of_ble_eq_true rfl) dd_M_fragment_114 (fun H locs hP hS => ?_)
          refine lv_ixor (pc := 117) hx hb dd_M_fragment_117 ?_
          refine f_topi (bI_xor _ _) ?_
          refine lv_istore (pc := 118) (lv' := [(5, _), (9, _), (8, _), (7, _), (6, _), (4, _), (0, _), (1, _), (2, _), (3, _)]) hx hb dd_M_fragment_118 hl (Nat.le_of_ble_eq_true rfl) rfl (fun ls hl => ?_)
          refine lv_aload_n (pc := 120) hx hb dd_M_fragment_120 rfl (lv_at hl 6 rfl) ?_
          refine lv_iload (pc := 121) hx hb dd_M_fragment_121 (lv_at hl 4 rfl) ?_
          refine lv_iload_n (pc := 123) hx hb dd_M_fragment_123 rfl (lv_at hl 7 rfl) ?_
          refine lv_iconst (pc := 124) (v := 1) hx hb dd_M_fragment_124 (by decide) ?_
          refine lv_iadd (pc := 125) hx hb dd_M_fragment_125 ?_
          refine f_topi (f_pt (show s0 < 7 by omega)) ?_
          refine k_M_M_product (pc := 126) cx hl hP hS (by assumption) (ct_M_product l x S ⟨w16, w23, w24, w25, w26, w27, w28, w29, w30, w31, w32, w33, w34, w35, w36, w37, w39, w40, w41, w42, w43, w44, w45, w46⟩ (gf_w (BitVec.ofNat 8 (s0 + 1)) i) (BitVec.ofNat 8 (s0 + 1))) ⟨⟨rfl, rfl⟩, ⟨(Nat.le_of_ble_eq_true rfl), (Nat.le_of_ble_eq_true rfl)⟩, (Nat.le_of_ble_eq_true rfl), (Nat.le_of_ble_eq_true rfl)⟩ (Nat.le_of_ble_eq_true rfl) dd_M_fragment_126 (fun H locs hP hS => ?_)
          refine lv_istore (pc := 129) (lv' := [(6, _), (5, _), (9, _), (8, _), (7, _), (4, _), (0, _), (1, _), (2, _), (3, _)]) hx hb dd_M_fragment_129 hl (Nat.le_of_ble_eq_true rfl) rfl (fun ls hl => ?_)
          refine lv_iinc (pc := 131) (k := 4) (lv' := [(7, _), (6, _), (5, _), (9, _), (8, _), (4, _), (0, _), (1, _), (2, _), (3, _)]) hx hb dd_M_fragment_131 hl rfl (f_inc1 i) (Nat.le_of_ble_eq_true rfl) rfl (fun ls hl => ?_)
          refine lv_goto (pc := 134) (tgt := 56) hx hb dd_M_fragment_134 (by decide) ?_
          exact ih (i + 1) _ _ _ _ (by omega) rfl rfl hP hS ls (lv_sub hl [0, 1, 2, 5, 6, 7, 8, 9] rfl)
        · -- 80: f to 83
          have h : r * xK x + i < 8 := Nat.lt_of_not_le (fun q => h80 ((nI_leI (by omega) (by omega)).mpr q))
          have e0 := by8_mod (mJ S 37 0 a) h
          refine lv_aload_n (pc := 83) hx hb dd_M_fragment_83 rfl (lv_at hl 5 rfl) ?_
          refine g_M_M_hasBlock (pc := 84) cx hP (by assumption) dd_M_fragment_84 ?_
          refine lv_iload (pc := 87) hx hb dd_M_fragment_87 (lv_at hl 4 rfl) ?_
          refine f_lald (pc := 89) cx hP (fv.at (by assumption) _) rfl rfl (by omega) dd_M_fragment_89 ?_
          refine lv_bipush (pc := 90) (v := 8) hx hb dd_M_fragment_90 (by decide) ?_
          refine lv_iload (pc := 92) hx hb dd_M_fragment_92 (lv_at hl 0 rfl) ?_
          refine lv_imul (pc := 94) hx hb dd_M_fragment_94 ?_
          refine lv_lshr (pc := 95) hx hb dd_M_fragment_95 rfl ?_
          refine lv_ldc2 (pc := 96) hx hb cx.1.2.2.2.1 (cx.1.2.2.2.2 _ cl_M_143) dd_M_fragment_96 ?_
          refine lv_land (pc := 99) hx hb dd_M_fragment_99 ?_
          refine lv_l2i (pc := 100) hx hb dd_M_fragment_100 rfl ?_
          refine lv_goto (pc := 101) (tgt := 105) hx hb dd_M_fragment_101 (by decide) ?_
          refine lv_istore (pc := 105) (lv' := [(9, _), (8, _), (7, _), (6, _), (5, _), (4, _), (0, _), (1, _), (2, _), (3, _)]) hx hb dd_M_fragment_105 hl (Nat.le_of_ble_eq_true rfl) rfl (fun ls hl => ?_)
          rw [e0] at hl
          refine lv_iload (pc := 107) hx hb dd_M_fragment_107 (lv_at hl 4 rfl) ?_
          refine lv_aload_n (pc := 109) hx hb dd_M_fragment_109 rfl (lv_at hl 6 rfl) ?_
          refine lv_iload (pc := 110) hx hb dd_M_fragment_110 (lv_at hl 0 rfl) ?_
          refine lv_iload (pc := 112) hx hb dd_M_fragment_112 (lv_at hl 3 rfl) ?_
          refine k_M_M_product (pc := 114) cx hl hP hS (by assumption) (ct_M_product l x S ⟨w16, w23, w24, w25, w26, w27, w28, w29, w30, w31, w32, w33, w34, w35, w36, w37, w39, w40, w41, w42, w43, w44, w45, w46⟩ (by8 (mJ S 37 0 a) (r * xK x + i)) (gf_w (BitVec.ofNat 8 (s0 + 1)) i)) ⟨⟨rfl, rfl⟩, ⟨(Nat.le_of_ble_eq_true rfl), (Nat.le_of_ble_eq_true rfl)⟩, (Nat.le_of_ble_eq_true rfl), (Nat.le_of_ble_eq_true rfl)⟩ (Nat.le_of_ble_eq_true rfl) dd_M_fragment_114 (fun H locs hP hS => ?_)
          refine lv_ixor (pc := 117) hx hb dd_M_fragment_117 ?_
          refine f_topi (bI_xor _ _) ?_
          refine lv_istore (pc := 118) (lv' := [(5, _), (9, _), (8, _), (7, _), (6, _), (4, _), (0, _), (1, _), (2, _), (3, _)]) hx hb dd_M_fragment_118 hl (Nat.le_of_ble_eq_true rfl) rfl (fun ls hl => ?_)
          refine lv_aload_n (pc := 120) hx hb dd_M_fragment_120 rfl (lv_at hl 6 rfl) ?_
          refine lv_iload (pc := 121) hx hb dd_M_fragment_121 (lv_at hl 4 rfl) ?_
          refine lv_iload_n (pc := 123) hx hb dd_M_fragment_123 rfl (lv_at hl 7 rfl) ?_
          refine lv_iconst (pc := 124) (v := 1) hx hb dd_M_fragment_124 (by decide) ?_
          refine lv_iadd (pc := 125) hx hb dd_M_fragment_125 ?_
          refine f_topi (f_pt (show s0 < 7 by omega)) ?_
          refine k_M_M_product (pc := 126) cx hl hP hS (by assumption) (ct_M_product l x S ⟨w16, w23, w24, w25, w26, w27, w28, w29, w30, w31, w32, w33, w34, w35, w36, w37, w39, w40, w41, w42, w43, w44, w45, w46⟩ (gf_w (BitVec.ofNat 8 (s0 + 1)) i) (BitVec.ofNat 8 (s0 + 1))) ⟨⟨rfl, rfl⟩, ⟨(Nat.le_of_ble_eq_true rfl), (Nat.le_of_ble_eq_true rfl)⟩, (Nat.le_of_ble_eq_true rfl), (Nat.le_of_ble_eq_true rfl)⟩ (Nat.le_of_ble_eq_true rfl) dd_M_fragment_126 (fun H locs hP hS => ?_)
          refine lv_istore (pc := 129) (lv' := [(6, _), (5, _), (9, _), (8, _), (7, _), (4, _), (0, _), (1, _), (2, _), (3, _)]) hx hb dd_M_fragment_129 hl (Nat.le_of_ble_eq_true rfl) rfl (fun ls hl => ?_)
          refine lv_iinc (pc := 131) (k := 4) (lv' := [(7, _), (6, _), (5, _), (9, _), (8, _), (4, _), (0, _), (1, _), (2, _), (3, _)]) hx hb dd_M_fragment_131 hl rfl (f_inc1 i) (Nat.le_of_ble_eq_true rfl) rfl (fun ls hl => ?_)
          refine lv_goto (pc := 134) (tgt := 56) hx hb dd_M_fragment_134 (by decide) ?_
          exact ih (i + 1) _ _ _ _ (by omega) rfl rfl hP hS ls (lv_sub hl [0, 1, 2, 5, 6, 7, 8, 9] rfl)
  refine lv_aload_n (pc := 0) hx hb dd_M_fragment_0 rfl (lv_at hl 0 rfl) ?_
  refine lv_iload_n (pc := 1) hx hb dd_M_fragment_1 rfl (lv_at hl 1 rfl) ?_
  refine k_M_M_noServer (pc := 2) cx hl hP hS (by assumption) (ct_M_noServer l x _ ⟨w16, w23, w24, w25, w26, w27, w28, w29, w30, w31, w32, w33, w34, w35, w36, w37, w39, w40, w41, w42, w43, w44, w45, w46⟩ (nI s0)) ⟨⟨rfl, rfl⟩, ⟨(Nat.le_of_ble_eq_true rfl), (Nat.le_of_ble_eq_true rfl)⟩, (Nat.le_of_ble_eq_true rfl), (Nat.le_of_ble_eq_true rfl)⟩ (Nat.le_of_ble_eq_true rfl) dd_M_fragment_2 (fun H locs hP hS => ?_)
  refine f_neB (pc := 5) (tgt := 30) cx dd_M_fragment_5 (by decide) (fun h5 => ?_) (fun h5 => ?_)
  · -- 5: t to 30
    exact absurd ((congrArg not (q_sv_in hO hs)).symm.trans h5) (by decide)
  · -- 5: f to 8
    refine lv_iload_n (pc := 8) hx hb dd_M_fragment_8 rfl (lv_at hl 3 rfl) ?_
    refine lv_if_lt (pc := 9) (tgt := 30) hx hb dd_M_fragment_9 (by decide) (fun h9 => ?_) (fun h9 => ?_)
    · -- 9: t to 30
      exact absurd h9 (nI_pos (by omega))
    · -- 9: f to 12
      refine lv_iload_n (pc := 12) hx hb dd_M_fragment_12 rfl (lv_at hl 3 rfl) ?_
      refine lv_bipush (pc := 13) (v := nI 8) hx hb dd_M_fragment_13 (by decide) ?_
      refine lv_aload_n (pc := 15) hx hb dd_M_fragment_15 rfl (lv_at hl 0 rfl) ?_
      refine g_M_M_k (pc := 16) cx hP (by assumption) dd_M_fragment_16 ?_
      refine lv_iadd (pc := 19) hx hb dd_M_fragment_19 ?_
      refine lv_iconst (pc := 20) (v := 1) hx hb dd_M_fragment_20 (by decide) ?_
      refine lv_isub (pc := 21) hx hb dd_M_fragment_21 ?_
      refine lv_aload_n (pc := 22) hx hb dd_M_fragment_22 rfl (lv_at hl 0 rfl) ?_
      refine g_M_M_k (pc := 23) cx hP (by assumption) dd_M_fragment_23 ?_
      refine lv_idiv (pc := 26) hx hb dd_M_fragment_26 (fun q => by have := (nI_eq (show xK x < 2 ^ 31 by omega) (by decide)).mp (show nI (xK x) = nI 0 from q); omega) ?_
      refine f_topi (n_len x hO) ?_
      refine lv_icmp_lt (pc := 27) (tgt := 32) hx hb dd_M_fragment_27 (by decide) (fun h27 => ?_) (fun h27 => ?_)
      · -- 27: t to 32
        refine lv_aload_n (pc := 32) hx hb dd_M_fragment_32 rfl (lv_at hl 0 rfl) ?_
        refine lv_iload_n (pc := 33) hx hb dd_M_fragment_33 rfl (lv_at hl 1 rfl) ?_
        refine lv_iload_n (pc := 34) hx hb dd_M_fragment_34 rfl (lv_at hl 2 rfl) ?_
        refine k_M_M_place (pc := 35) cx hl hP hS (by assumption) (ct_M_place l x S ⟨w16, w23, w24, w25, w26, w27, w28, w29, w30, w31, w32, w33, w34, w35, w36, w37, w39, w40, w41, w42, w43, w44, w45, w46⟩ s0 t hs hO hm) ⟨⟨rfl, rfl⟩, ⟨(Nat.le_of_ble_eq_true rfl), (Nat.le_of_ble_eq_true rfl)⟩, (Nat.le_of_ble_eq_true rfl), (Nat.le_of_ble_eq_true rfl)⟩ (Nat.le_of_ble_eq_true rfl) dd_M_fragment_35 (fun H locs hP hS => ?_)
        refine lv_istore (pc := 38) (lv' := [(4, _), (0, _), (1, _), (2, _), (3, _)]) hx hb dd_M_fragment_38 hl (Nat.le_of_ble_eq_true rfl) rfl (fun ls hl => ?_)
        cases hq : n_place S s0 t with
        | none =>
          rw [hq] at hl
          refine lv_iload (pc := 40) hx hb dd_M_fragment_40 (lv_at hl 0 rfl) ?_
          refine lv_if_ge (pc := 42) (tgt := 47) hx hb dd_M_fragment_42 (by decide) (fun h42 => ?_) (fun h42 => ?_)
          · -- 42: t to 47
            exact absurd h42 (by decide)
          · -- 42: f to 45
            refine lv_iconst (pc := 45) (v := (-1)) hx hb dd_M_fragment_45 (by decide) ?_
            exact f_iret (pc := 46) cx hr hlocks hP hS (by unfold n_frag; rw [hq]) rfl dd_M_fragment_46
        | some a =>
          obtain ⟨q, hq1, hq2⟩ := n_place_lt hq
          rw [hq] at hl
          refine lv_iload (pc := 40) hx hb dd_M_fragment_40 (lv_at hl 0 rfl) ?_
          refine lv_if_ge (pc := 42) (tgt := 47) hx hb dd_M_fragment_42 (by decide) (fun h42 => ?_) (fun h42 => ?_)
          · -- 42: t to 47
            refine lv_iconst (pc := 47) (v := 0) hx hb dd_M_fragment_47 (by decide) ?_
            refine lv_istore (pc := 48) (lv' := [(5, _), (4, _), (0, _), (1, _), (2, _), (3, _)]) hx hb dd_M_fragment_48 hl (Nat.le_of_ble_eq_true rfl) rfl (fun ls hl => ?_)
            refine lv_iconst (pc := 50) (v := 1) hx hb dd_M_fragment_50 (by decide) ?_
            refine lv_istore (pc := 51) (lv' := [(6, _), (5, _), (4, _), (0, _), (1, _), (2, _), (3, _)]) hx hb dd_M_fragment_51 hl (Nat.le_of_ble_eq_true rfl) rfl (fun ls hl => ?_)
            refine lv_iconst (pc := 53) (v := nI 0) hx hb dd_M_fragment_53 (by decide) ?_
            refine lv_istore (pc := 54) (lv' := [(7, _), (6, _), (5, _), (4, _), (0, _), (1, _), (2, _), (3, _)]) hx hb dd_M_fragment_54 hl (Nat.le_of_ble_eq_true rfl) rfl (fun ls hl => ?_)
            exact loop a (by omega) hq (xK x) 0 _ _ _ _ (by omega) bI_0.symm bI_1.symm hP hS ls (lv_sub hl [0, 1, 2, 3, 4, 5, 6, 7] rfl)
          · -- 42: f to 45
            exact absurd (nI_pos' (by omega)) h42
      · -- 27: f to 30
        exact absurd ((nI_ltI (by omega) (by omega)).mpr hr0) h27
