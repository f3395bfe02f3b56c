-- contracts of the reference, by wip/whole/gen/c_mod.py
set_option maxHeartbeats 4000000 in
set_option maxRecDepth 100000 in
theorem ct_M_noClient (l : Launch) (x : fy) (S : fm) (hM : fM x) (z : Int32) : Met l mn_M_noClient (gw_ws mn_M_noClient cb_M_noClient 2 (some .boolean)) ({ frames := 0, cells := 0, slots := 0, locals := 0 } : Room) (fPc x (S) [.ref (xa x 16 0), .int z]) (fQi x (S) (b2 (!q_cl z))) 0 0 (fun q => xs x ≤ q) := by
  refine f_met (by decide) (Nat.le_of_ble_eq_true rfl) ?_
  intro p e s m below meth c0 cx hr hlocks hnm hP hS ls hl
  have cx : fX rn_M cb_M_noClient 2 p c0 s m [.ref (xa x 16 0), .int z].toArray x := cx
  have hx := cx.1.1
  have hb := cx.1.2.1
  have hl : lv_has ls 2 [(0, .ref (xa x 16 0)), (1, .int z)] := hl
  obtain ⟨w16, w23, w24, w25, w26, w27, w28, w29, w30, w31, w32, w33, w34, w35, w36, w37, w39, w40, w41, w42, w43, w44, w45, w46⟩ := hM
  refine lv_iload_n (pc := 0) hx hb dd_M_noClient_0 rfl (lv_at hl 1 rfl) ?_
  refine lv_if_lt (pc := 1) (tgt := 9) hx hb dd_M_noClient_1 (by decide) (fun h1 => ?_) (fun h1 => ?_)
  · -- 1: t to 9
    refine lv_iconst (pc := 9) (v := 1) hx hb dd_M_noClient_9 (by decide) ?_
    refine lv_goto (pc := 10) (tgt := 14) hx hb dd_M_noClient_10 (by decide) ?_
    exact f_zret (pc := 14) cx hr hlocks hP hS (by simp [q_cl, b2, *]) rfl dd_M_noClient_14
  · -- 1: f to 4
    refine lv_iload_n (pc := 4) hx hb dd_M_noClient_4 rfl (lv_at hl 1 rfl) ?_
    refine lv_iconst (pc := 5) (v := 4) hx hb dd_M_noClient_5 (by decide) ?_
    refine lv_icmp_le (pc := 6) (tgt := 13) hx hb dd_M_noClient_6 (by decide) (fun h6 => ?_) (fun h6 => ?_)
    · -- 6: t to 13
      have h6b := (q_le4 z).mp h6
      refine lv_iconst (pc := 13) (v := 0) hx hb dd_M_noClient_13 (by decide) ?_
      exact f_zret (pc := 14) cx hr hlocks hP hS (by simp [q_cl, b2, *]) rfl dd_M_noClient_14
    · -- 6: f to 9
      have h6b : (5 : Int32) ≤ z := Decidable.of_not_not (fun q => h6 ((q_le4 z).mpr q))
      refine lv_iconst (pc := 9) (v := 1) hx hb dd_M_noClient_9 (by decide) ?_
      refine lv_goto (pc := 10) (tgt := 14) hx hb dd_M_noClient_10 (by decide) ?_
      exact f_zret (pc := 14) cx hr hlocks hP hS (by simp [q_cl, b2, *]) rfl dd_M_noClient_14
set_option maxHeartbeats 4000000 in
set_option maxRecDepth 100000 in
theorem ct_M_noServer (l : Launch) (x : fy) (S : fm) (hM : fM x) (z : Int32) : Met l mn_M_noServer (gw_ws mn_M_noServer cb_M_noServer 2 (some .boolean)) ({ frames := 0, cells := 0, slots := 0, locals := 0 } : Room) (fPc x (S) [.ref (xa x 16 0), .int z]) (fQi x (S) (b2 (!q_sv x z))) 0 0 (fun q => xs x ≤ q) := by
  refine f_met (by decide) (Nat.le_of_ble_eq_true rfl) ?_
  intro p e s m below meth c0 cx hr hlocks hnm hP hS ls hl
  have cx : fX rn_M cb_M_noServer 2 p c0 s m [.ref (xa x 16 0), .int z].toArray x := cx
  have hx := cx.1.1
  have hb := cx.1.2.1
  have hl : lv_has ls 2 [(0, .ref (xa x 16 0)), (1, .int z)] := hl
  obtain ⟨w16, w23, w24, w25, w26, w27, w28, w29, w30, w31, w32, w33, w34, w35, w36, w37, w39, w40, w41, w42, w43, w44, w45, w46⟩ := hM
  refine lv_iload_n (pc := 0) hx hb dd_M_noServer_0 rfl (lv_at hl 1 rfl) ?_
  refine lv_if_lt (pc := 1) (tgt := 12) hx hb dd_M_noServer_1 (by decide) (fun h1 => ?_) (fun h1 => ?_)
  · -- 1: t to 12
    refine lv_iconst (pc := 12) (v := 1) hx hb dd_M_noServer_12 (by decide) ?_
    refine lv_goto (pc := 13) (tgt := 17) hx hb dd_M_noServer_13 (by decide) ?_
    exact f_zret (pc := 17) cx hr hlocks hP hS (by simp [q_sv, b2, *]) rfl dd_M_noServer_17
  · -- 1: f to 4
    refine lv_iload_n (pc := 4) hx hb dd_M_noServer_4 rfl (lv_at hl 1 rfl) ?_
    refine lv_aload_n (pc := 5) hx hb dd_M_noServer_5 rfl (lv_at hl 0 rfl) ?_
    refine g_M_M_n (pc := 6) cx hP (by assumption) dd_M_noServer_6 ?_
    refine lv_icmp_lt (pc := 9) (tgt := 16) hx hb dd_M_noServer_9 (by decide) (fun h9 => ?_) (fun h9 => ?_)
    · -- 9: t to 16
      have h9b : ¬ nI (xN x) ≤ z := Int32.not_le.mpr h9
      refine lv_iconst (pc := 16) (v := 0) hx hb dd_M_noServer_16 (by decide) ?_
      exact f_zret (pc := 17) cx hr hlocks hP hS (by simp [q_sv, b2, *]) rfl dd_M_noServer_17
    · -- 9: f to 12
      have h9b : nI (xN x) ≤ z := Int32.not_lt.mp h9
      refine lv_iconst (pc := 12) (v := 1) hx hb dd_M_noServer_12 (by decide) ?_
      refine lv_goto (pc := 13) (tgt := 17) hx hb dd_M_noServer_13 (by decide) ?_
      exact f_zret (pc := 17) cx hr hlocks hP hS (by simp [q_sv, b2, *]) rfl dd_M_noServer_17
set_option maxHeartbeats 4000000 in
set_option maxRecDepth 100000 in
theorem ct_M_quorum (l : Launch) (x : fy) (S : fm) (hM : fM x) (hO : fO x) : Met l mn_M_quorum (gw_ws mn_M_quorum cb_M_quorum 1 (some .int)) ({ frames := 0, cells := 0, slots := 0, locals := 0 } : Room) (fPc x (S) [.ref (xa x 16 0)]) (fQi x (S) (nI (xQ x))) 0 0 (fun q => xs x ≤ q) := by
  refine f_met (by decide) (Nat.le_of_ble_eq_true rfl) ?_
  intro p e s m below meth c0 cx hr hlocks hnm hP hS ls hl
  have cx : fX rn_M cb_M_quorum 1 p c0 s m [.ref (xa x 16 0)].toArray x := cx
  have hx := cx.1.1
  have hb := cx.1.2.1
  have hl : lv_has ls 1 [(0, .ref (xa x 16 0))] := hl
  obtain ⟨w16, w23, w24, w25, w26, w27, w28, w29, w30, w31, w32, w33, w34, w35, w36, w37, w39, w40, w41, w42, w43, w44, w45, w46⟩ := hM
  refine lv_aload_n (pc := 0) hx hb dd_M_quorum_0 rfl (lv_at hl 0 rfl) ?_
  refine g_M_M_n (pc := 1) cx hP (by assumption) dd_M_quorum_1 ?_
  refine lv_aload_n (pc := 4) hx hb dd_M_quorum_4 rfl (lv_at hl 0 rfl) ?_
  refine g_M_M_n (pc := 5) cx hP (by assumption) dd_M_quorum_5 ?_
  refine lv_aload_n (pc := 8) hx hb dd_M_quorum_8 rfl (lv_at hl 0 rfl) ?_
  refine g_M_M_k (pc := 9) cx hP (by assumption) dd_M_quorum_9 ?_
  refine lv_isub (pc := 12) hx hb dd_M_quorum_12 ?_
  refine lv_iconst (pc := 13) (v := 2) hx hb dd_M_quorum_13 (by decide) ?_
  refine lv_idiv (pc := 14) hx hb dd_M_quorum_14 (by decide) ?_
  refine lv_isub (pc := 15) hx hb dd_M_quorum_15 ?_
  exact f_iret (pc := 16) cx hr hlocks hP hS (n_quo x hO) rfl dd_M_quorum_16
set_option maxHeartbeats 4000000 in
set_option maxRecDepth 100000 in
theorem ct_M_send (l : Launch) (x : fy) (S : fm) (hM : fM x) (b : Bool) (c s0 : Nat) (ph w : Int32) (hc : c < 5) (hl0 : mU S 16 0 18 < 256) : Met l mn_M_send (gw_ws mn_M_send cb_M_send 6 none) ({ frames := 0, cells := 0, slots := 0, locals := 0 } : Room) (fPc x (S) [.ref (xa x 16 0), .int (b2 b), .int (nI c), .int (nI s0), .int ph, .int w]) (fQv x (n_send S b c s0 ph w)) 0 0 (fun q => xs x ≤ q) := by
  refine f_met (by decide) (Nat.le_of_ble_eq_true rfl) ?_
  intro p e s m below meth c0 cx hr hlocks hnm hP hS ls hl
  have cx : fX rn_M cb_M_send 6 p c0 s m [.ref (xa x 16 0), .int (b2 b), .int (nI c), .int (nI s0), .int ph, .int w].toArray x := cx
  have hx := cx.1.1
  have hb := cx.1.2.1
  have hl : lv_has ls 6 [(0, .ref (xa x 16 0)), (1, .int (b2 b)), (2, .int (nI c)), (3, .int (nI s0)), (4, .int ph), (5, .int w)] := hl
  obtain ⟨w16, w23, w24, w25, w26, w27, w28, w29, w30, w31, w32, w33, w34, w35, w36, w37, w39, w40, w41, w42, w43, w44, w45, w46⟩ := hM
  refine lv_aload_n (pc := 0) hx hb dd_M_send_0 rfl (lv_at hl 0 rfl) ?_
  refine g_M_M_reply (pc := 1) cx hP (by assumption) dd_M_send_1 ?_
  refine lv_aload_n (pc := 4) hx hb dd_M_send_4 rfl (lv_at hl 0 rfl) ?_
  refine g_M_M_letters (pc := 5) cx hP (by assumption) dd_M_send_5 ?_
  refine lv_iload_n (pc := 8) hx hb dd_M_send_8 rfl (lv_at hl 1 rfl) ?_
  refine f_zast (pc := 9) cx hP hS (fv.at (by assumption) _) (fun _ => rfl) rfl rfl hl0 dd_M_send_9 (fun H locs hP hS => ?_)
  refine lv_aload_n (pc := 10) hx hb dd_M_send_10 rfl (lv_at hl 0 rfl) ?_
  refine g_M_M_client (pc := 11) cx hP (by assumption) dd_M_send_11 ?_
  refine lv_aload_n (pc := 14) hx hb dd_M_send_14 rfl (lv_at hl 0 rfl) ?_
  refine g_M_M_letters (pc := 15) cx hP (by assumption) dd_M_send_15 ?_
  refine lv_iload_n (pc := 18) hx hb dd_M_send_18 rfl (lv_at hl 2 rfl) ?_
  refine f_iast (pc := 19) cx hP hS (fv.at (by assumption) _) (fun _ => rfl) rfl hl0 dd_M_send_19 (fun H locs hP hS => ?_)
  refine lv_aload_n (pc := 20) hx hb dd_M_send_20 rfl (lv_at hl 0 rfl) ?_
  refine g_M_M_server (pc := 21) cx hP (by assumption) dd_M_send_21 ?_
  refine lv_aload_n (pc := 24) hx hb dd_M_send_24 rfl (lv_at hl 0 rfl) ?_
  refine g_M_M_letters (pc := 25) cx hP (by assumption) dd_M_send_25 ?_
  refine lv_iload_n (pc := 28) hx hb dd_M_send_28 rfl (lv_at hl 3 rfl) ?_
  refine f_iast (pc := 29) cx hP hS (fv.at (by assumption) _) (fun _ => rfl) rfl hl0 dd_M_send_29 (fun H locs hP hS => ?_)
  refine lv_aload_n (pc := 30) hx hb dd_M_send_30 rfl (lv_at hl 0 rfl) ?_
  refine g_M_M_kind (pc := 31) cx hP (by assumption) dd_M_send_31 ?_
  refine lv_aload_n (pc := 34) hx hb dd_M_send_34 rfl (lv_at hl 0 rfl) ?_
  refine g_M_M_letters (pc := 35) cx hP (by assumption) dd_M_send_35 ?_
  refine lv_iload (pc := 38) hx hb dd_M_send_38 (lv_at hl 4 rfl) ?_
  refine f_iast (pc := 40) cx hP hS (fv.at (by assumption) _) (fun _ => rfl) rfl hl0 dd_M_send_40 (fun H locs hP hS => ?_)
  refine lv_aload_n (pc := 41) hx hb dd_M_send_41 rfl (lv_at hl 0 rfl) ?_
  refine g_M_M_sent (pc := 42) cx hP (by assumption) dd_M_send_42 ?_
  refine lv_aload_n (pc := 45) hx hb dd_M_send_45 rfl (lv_at hl 0 rfl) ?_
  refine g_M_M_letters (pc := 46) cx hP (by assumption) dd_M_send_46 ?_
  refine lv_iload (pc := 49) hx hb dd_M_send_49 (lv_at hl 5 rfl) ?_
  refine f_iast (pc := 51) cx hP hS (fv.at (by assumption) _) (fun _ => rfl) rfl hl0 dd_M_send_51 (fun H locs hP hS => ?_)
  refine lv_aload_n (pc := 52) hx hb dd_M_send_52 rfl (lv_at hl 0 rfl) ?_
  refine g_M_M_full (pc := 53) cx hP (by assumption) dd_M_send_53 ?_
  refine lv_aload_n (pc := 56) hx hb dd_M_send_56 rfl (lv_at hl 0 rfl) ?_
  refine g_M_M_letters (pc := 57) cx hP (by assumption) dd_M_send_57 ?_
  refine lv_iconst (pc := 60) (v := 0) hx hb dd_M_send_60 (by decide) ?_
  refine f_zast (pc := 61) cx hP hS (fv.at (by assumption) _) (fun _ => rfl) (show (0 : Int32) = b2 false from rfl) rfl hl0 dd_M_send_61 (fun H locs hP hS => ?_)
  refine lv_aload_n (pc := 62) hx hb dd_M_send_62 rfl (lv_at hl 0 rfl) ?_
  refine g_M_M_what (pc := 63) cx hP (by assumption) dd_M_send_63 ?_
  refine lv_aload_n (pc := 66) hx hb dd_M_send_66 rfl (lv_at hl 0 rfl) ?_
  refine g_M_M_letters (pc := 67) cx hP (by assumption) dd_M_send_67 ?_
  refine lv_aload_n (pc := 70) hx hb dd_M_send_70 rfl (lv_at hl 0 rfl) ?_
  refine g_M_M_tags (pc := 71) cx hP (by assumption) dd_M_send_71 ?_
  refine lv_iload_n (pc := 74) hx hb dd_M_send_74 rfl (lv_at hl 2 rfl) ?_
  refine f_iald (pc := 75) cx hP (fv.at (by assumption) _) rfl rfl (by omega) dd_M_send_75 ?_
  refine f_iast (pc := 76) cx hP hS (fv.at (by assumption) _) (fun _ => rfl) rfl hl0 dd_M_send_76 (fun H locs hP hS => ?_)
  refine lv_aload_n (pc := 77) hx hb dd_M_send_77 rfl (lv_at hl 0 rfl) ?_
  refine g_M_M_load (pc := 78) cx hP (by assumption) dd_M_send_78 ?_
  refine lv_aload_n (pc := 81) hx hb dd_M_send_81 rfl (lv_at hl 0 rfl) ?_
  refine g_M_M_letters (pc := 82) cx hP (by assumption) dd_M_send_82 ?_
  refine lv_aload_n (pc := 85) hx hb dd_M_send_85 rfl (lv_at hl 0 rfl) ?_
  refine g_M_M_block (pc := 86) cx hP (by assumption) dd_M_send_86 ?_
  refine lv_iload_n (pc := 89) hx hb dd_M_send_89 rfl (lv_at hl 2 rfl) ?_
  refine f_lald (pc := 90) cx hP (fv.at (by assumption) _) rfl rfl (by omega) dd_M_send_90 ?_
  refine f_last (pc := 91) cx hP hS (fv.at (by assumption) _) (fun _ => rfl) rfl hl0 dd_M_send_91 (fun H locs hP hS => ?_)
  refine lv_aload_n (pc := 92) hx hb dd_M_send_92 rfl (lv_at hl 0 rfl) ?_
  refine lv_dup (pc := 93) hx hb dd_M_send_93 rfl ?_
  refine g_M_M_letters (pc := 94) cx hP (by assumption) dd_M_send_94 ?_
  refine lv_iconst (pc := 97) (v := 1) hx hb dd_M_send_97 (by decide) ?_
  refine lv_iadd (pc := 98) hx hb dd_M_send_98 ?_
  refine p_M_M_letters (pc := 99) cx hP hS (by assumption) (nI_1 _) dd_M_send_99 (fun H locs hP hS => ?_)
  exact f_vret (pc := 102) cx hr hlocks hP hS rfl dd_M_send_102
set_option maxHeartbeats 4000000 in
set_option maxRecDepth 100000 in
theorem ct_M_lose (l : Launch) (x : fy) (S : fm) (hM : fM x) (at_ : Nat) (ha : at_ < mL S) (hl0 : mL S ≤ 256) : Met l mn_M_lose (gw_ws mn_M_lose cb_M_lose 3 none) ({ frames := 0, cells := 0, slots := 0, locals := 0 } : Room) (fPc x (S) [.ref (xa x 16 0), .int (nI at_)]) (fQv x (n_lose S at_)) 0 0 (fun q => xs x ≤ q) := by
  refine f_met (by decide) (Nat.le_of_ble_eq_true rfl) ?_
  intro p e s m below meth c0 cx hr hlocks hnm hP hS ls hl
  have cx : fX rn_M cb_M_lose 3 p c0 s m [.ref (xa x 16 0), .int (nI at_)].toArray x := cx
  have hx := cx.1.1
  have hb := cx.1.2.1
  have hl : lv_has ls 3 [(0, .ref (xa x 16 0)), (1, .int (nI at_))] := hl
  obtain ⟨w16, w23, w24, w25, w26, w27, w28, w29, w30, w31, w32, w33, w34, w35, w36, w37, w39, w40, w41, w42, w43, w44, w45, w46⟩ := hM
  have loop : ∀ (n i : Nat) (H : Heap) (locs : List Loc), at_ ≤ i → i + n = mL S - 1 → fP x (n_shift (sU S 16 0 18 (mL S - 1)) at_ (i)) H → fS x s.heap H locs → ∀ ls : Array Slot, lv_has ls 3 [(2, .int (nI i)), (0, .ref (xa x 16 0)), (1, .int (nI at_))] → W p l e ({ frames := 0, cells := 0, slots := 0, locals := 0 } : Room) s m [.ref (xa x 16 0), .int (nI at_)].toArray below meth c0 H locs 0 0 (MQ below (fQv x (n_lose S at_)) [.ref (xa x 16 0), .int (nI at_)].toArray s 0 0 (fun q => xs x ≤ q)) (F0 m 12 ls []) := by
    intro n
    induction n with
    | zero =>
      intro i H locs hai hi hP hS ls hl
      have hi : i = mL S - 1 := by omega
      subst hi
      have hsz : nI (mU (n_shift (sU S 16 0 18 (mL S - 1)) at_ (mL S - 1)) 16 0 18) = nI (mL S - 1) := rfl
      refine lv_iload_n (pc := 12) hx hb dd_M_lose_12 rfl (lv_at hl 0 rfl) ?_
      refine lv_aload_n (pc := 13) hx hb dd_M_lose_13 rfl (lv_at hl 1 rfl) ?_
      refine g_M_M_letters (pc := 14) cx hP (by assumption) dd_M_lose_14 ?_
      refine f_topi hsz ?_
      refine lv_icmp_ge (pc := 17) (tgt := 138) hx hb dd_M_lose_17 (by decide) (fun h17 => ?_) (fun h17 => ?_)
      · -- 17: t to 138
        exact f_vret (pc := 138) cx hr hlocks hP hS rfl dd_M_lose_138
      · -- 17: f to 20
        exact absurd ((nI_leI (by omega) (by omega)).mpr (Nat.le_refl _)) h17
    | succ n ih =>
      intro i H locs hai hi hP hS ls hl
      have hsz : nI (mU (n_shift (sU S 16 0 18 (mL S - 1)) at_ (i)) 16 0 18) = nI (mL S - 1) := rfl
      have hi1 : i < 256 := by omega
      have hi2 : i + 1 < 256 := by omega
      refine lv_iload_n (pc := 12) hx hb dd_M_lose_12 rfl (lv_at hl 0 rfl) ?_
      refine lv_aload_n (pc := 13) hx hb dd_M_lose_13 rfl (lv_at hl 1 rfl) ?_
      refine g_M_M_letters (pc := 14) cx hP (by assumption) dd_M_lose_14 ?_
      refine f_topi hsz ?_
      refine lv_icmp_ge (pc := 17) (tgt := 138) hx hb dd_M_lose_17 (by decide) (fun h17 => ?_) (fun h17 => ?_)
      · -- 17: t to 138
        exact absurd ((nI_leI (by omega) (by omega)).mp h17) (by omega)
      · -- 17: f to 20
        refine lv_aload_n (pc := 20) hx hb dd_M_lose_20 rfl (lv_at hl 1 rfl) ?_
        refine g_M_M_reply (pc := 21) cx hP (by assumption) dd_M_lose_21 ?_
        refine lv_iload_n (pc := 24) hx hb dd_M_lose_24 rfl (lv_at hl 0 rfl) ?_
        refine lv_aload_n (pc := 25) hx hb dd_M_lose_25 rfl (lv_at hl 1 rfl) ?_
        refine g_M_M_reply (pc := 26) cx hP (by assumption) dd_M_lose_26 ?_
        refine lv_iload_n (pc := 29) hx hb dd_M_lose_29 rfl (lv_at hl 0 rfl) ?_
        refine lv_iconst (pc := 30) (v := 1) hx hb dd_M_lose_30 (by decide) ?_
        refine lv_iadd (pc := 31) hx hb dd_M_lose_31 ?_
        refine f_zald (pc := 32) cx hP (fv.at (by assumption) _) rfl (nI_1 i) hi2 dd_M_lose_32 ?_
        refine f_zast (pc := 33) cx hP hS (fv.at (by assumption) _) (fun _ => rfl) rfl rfl hi1 dd_M_lose_33 (fun H locs hP hS => ?_)
        refine lv_aload_n (pc := 34) hx hb dd_M_lose_34 rfl (lv_at hl 1 rfl) ?_
        refine g_M_M_full (pc := 35) cx hP (by assumption) dd_M_lose_35 ?_
        refine lv_iload_n (pc := 38) hx hb dd_M_lose_38 rfl (lv_at hl 0 rfl) ?_
        refine lv_aload_n (pc := 39) hx hb dd_M_lose_39 rfl (lv_at hl 1 rfl) ?_
        refine g_M_M_full (pc := 40) cx hP (by assumption) dd_M_lose_40 ?_
        refine lv_iload_n (pc := 43) hx hb dd_M_lose_43 rfl (lv_at hl 0 rfl) ?_
        refine lv_iconst (pc := 44) (v := 1) hx hb dd_M_lose_44 (by decide) ?_
        refine lv_iadd (pc := 45) hx hb dd_M_lose_45 ?_
        refine f_zald (pc := 46) cx hP (fv.at (by assumption) _) rfl (nI_1 i) hi2 dd_M_lose_46 ?_
        refine f_zast (pc := 47) cx hP hS (fv.at (by assumption) _) (fun _ => rfl) rfl rfl hi1 dd_M_lose_47 (fun H locs hP hS => ?_)
        refine lv_aload_n (pc := 48) hx hb dd_M_lose_48 rfl (lv_at hl 1 rfl) ?_
        refine g_M_M_client (pc := 49) cx hP (by assumption) dd_M_lose_49 ?_
        refine lv_iload_n (pc := 52) hx hb dd_M_lose_52 rfl (lv_at hl 0 rfl) ?_
        refine lv_aload_n (pc := 53) hx hb dd_M_lose_53 rfl (lv_at hl 1 rfl) ?_
        refine g_M_M_client (pc := 54) cx hP (by assumption) dd_M_lose_54 ?_
        refine lv_iload_n (pc := 57) hx hb dd_M_lose_57 rfl (lv_at hl 0 rfl) ?_
        refine lv_iconst (pc := 58) (v := 1) hx hb dd_M_lose_58 (by decide) ?_
        refine lv_iadd (pc := 59) hx hb dd_M_lose_59 ?_
        refine f_iald (pc := 60) cx hP (fv.at (by assumption) _) rfl (nI_1 i) hi2 dd_M_lose_60 ?_
        refine f_iast (pc := 61) cx hP hS (fv.at (by assumption) _) (fun _ => rfl) rfl hi1 dd_M_lose_61 (fun H locs hP hS => ?_)
        refine lv_aload_n (pc := 62) hx hb dd_M_lose_62 rfl (lv_at hl 1 rfl) ?_
        refine g_M_M_server (pc := 63) cx hP (by assumption) dd_M_lose_63 ?_
        refine lv_iload_n (pc := 66) hx hb dd_M_lose_66 rfl (lv_at hl 0 rfl) ?_
        refine lv_aload_n (pc := 67) hx hb dd_M_lose_67 rfl (lv_at hl 1 rfl) ?_
        refine g_M_M_server (pc := 68) cx hP (by assumption) dd_M_lose_68 ?_
        refine lv_iload_n (pc := 71) hx hb dd_M_lose_71 rfl (lv_at hl 0 rfl) ?_
        refine lv_iconst (pc := 72) (v := 1) hx hb dd_M_lose_72 (by decide) ?_
        refine lv_iadd (pc := 73) hx hb dd_M_lose_73 ?_
        refine f_iald (pc := 74) cx hP (fv.at (by assumption) _) rfl (nI_1 i) hi2 dd_M_lose_74 ?_
        refine f_iast (pc := 75) cx hP hS (fv.at (by assumption) _) (fun _ => rfl) rfl hi1 dd_M_lose_75 (fun H locs hP hS => ?_)
        refine lv_aload_n (pc := 76) hx hb dd_M_lose_76 rfl (lv_at hl 1 rfl) ?_
        refine g_M_M_sent (pc := 77) cx hP (by assumption) dd_M_lose_77 ?_
        refine lv_iload_n (pc := 80) hx hb dd_M_lose_80 rfl (lv_at hl 0 rfl) ?_
        refine lv_aload_n (pc := 81) hx hb dd_M_lose_81 rfl (lv_at hl 1 rfl) ?_
        refine g_M_M_sent (pc := 82) cx hP (by assumption) dd_M_lose_82 ?_
        refine lv_iload_n (pc := 85) hx hb dd_M_lose_85 rfl (lv_at hl 0 rfl) ?_
        refine lv_iconst (pc := 86) (v := 1) hx hb dd_M_lose_86 (by decide) ?_
        refine lv_iadd (pc := 87) hx hb dd_M_lose_87 ?_
        refine f_iald (pc := 88) cx hP (fv.at (by assumption) _) rfl (nI_1 i) hi2 dd_M_lose_88 ?_
        refine f_iast (pc := 89) cx hP hS (fv.at (by assumption) _) (fun _ => rfl) rfl hi1 dd_M_lose_89 (fun H locs hP hS => ?_)
        refine lv_aload_n (pc := 90) hx hb dd_M_lose_90 rfl (lv_at hl 1 rfl) ?_
        refine g_M_M_kind (pc := 91) cx hP (by assumption) dd_M_lose_91 ?_
        refine lv_iload_n (pc := 94) hx hb dd_M_lose_94 rfl (lv_at hl 0 rfl) ?_
        refine lv_aload_n (pc := 95) hx hb dd_M_lose_95 rfl (lv_at hl 1 rfl) ?_
        refine g_M_M_kind (pc := 96) cx hP (by assumption) dd_M_lose_96 ?_
        refine lv_iload_n (pc := 99) hx hb dd_M_lose_99 rfl (lv_at hl 0 rfl) ?_
        refine lv_iconst (pc := 100) (v := 1) hx hb dd_M_lose_100 (by decide) ?_
        refine lv_iadd (pc := 101) hx hb dd_M_lose_101 ?_
        refine f_iald (pc := 102) cx hP (fv.at (by assumption) _) rfl (nI_1 i) hi2 dd_M_lose_102 ?_
        refine f_iast (pc := 103) cx hP hS (fv.at (by assumption) _) (fun _ => rfl) rfl hi1 dd_M_lose_103 (fun H locs hP hS => ?_)
        refine lv_aload_n (pc := 104) hx hb dd_M_lose_104 rfl (lv_at hl 1 rfl) ?_
        refine g_M_M_what (pc := 105) cx hP (by assumption) dd_M_lose_105 ?_
        refine lv_iload_n (pc := 108) hx hb dd_M_lose_108 rfl (lv_at hl 0 rfl) ?_
        refine lv_aload_n (pc := 109) hx hb dd_M_lose_109 rfl (lv_at hl 1 rfl) ?_
        refine g_M_M_what (pc := 110) cx hP (by assumption) dd_M_lose_110 ?_
        refine lv_iload_n (pc := 113) hx hb dd_M_lose_113 rfl (lv_at hl 0 rfl) ?_
        refine lv_iconst (pc := 114) (v := 1) hx hb dd_M_lose_114 (by decide) ?_
        refine lv_iadd (pc := 115) hx hb dd_M_lose_115 ?_
        refine f_iald (pc := 116) cx hP (fv.at (by assumption) _) rfl (nI_1 i) hi2 dd_M_lose_116 ?_
        refine f_iast (pc := 117) cx hP hS (fv.at (by assumption) _) (fun _ => rfl) rfl hi1 dd_M_lose_117 (fun H locs hP hS => ?_)
        refine lv_aload_n (pc := 118) hx hb dd_M_lose_118 rfl (lv_at hl 1 rfl) ?_
        refine g_M_M_load (pc := 119) cx hP (by assumption) dd_M_lose_119 ?_
        refine lv_iload_n (pc := 122) hx hb dd_M_lose_122 rfl (lv_at hl 0 rfl) ?_
        refine lv_aload_n (pc := 123) hx hb dd_M_lose_123 rfl (lv_at hl 1 rfl) ?_
        refine g_M_M_load (pc := 124) cx hP (by assumption) dd_M_lose_124 ?_
        refine lv_iload_n (pc := 127) hx hb dd_M_lose_127 rfl (lv_at hl 0 rfl) ?_
        refine lv_iconst (pc := 128) (v := 1) hx hb dd_M_lose_128 (by decide) ?_
        refine lv_iadd (pc := 129) hx hb dd_M_lose_129 ?_
        refine f_lald (pc := 130) cx hP (fv.at (by assumption) _) rfl (nI_1 i) hi2 dd_M_lose_130 ?_
        refine f_last (pc := 131) cx hP hS (fv.at (by assumption) _) (fun _ => rfl) rfl hi1 dd_M_lose_131 (fun H locs hP hS => ?_)
        have hP := f_eqS (T' := n_shift (sU S 16 0 18 (mL S - 1)) at_ (i + 1)) hP (n_shift_step (sU S 16 0 18 (mL S - 1)) at_ i hai _ rfl)
        refine lv_iinc (pc := 132) (k := 0) (lv' := [(2, _), (0, _), (1, _)]) hx hb dd_M_lose_132 hl rfl (f_inc1 i) (Nat.le_of_ble_eq_true rfl) rfl (fun ls hl => ?_)
        refine lv_goto (pc := 135) (tgt := 12) hx hb dd_M_lose_135 (by decide) ?_
        exact ih (i + 1) _ _ (by omega) (by omega) hP hS ls (lv_sub hl [0, 1, 2] rfl)
  refine lv_aload_n (pc := 0) hx hb dd_M_lose_0 rfl (lv_at hl 0 rfl) ?_
  refine lv_dup (pc := 1) hx hb dd_M_lose_1 rfl ?_
  refine g_M_M_letters (pc := 2) cx hP (by assumption) dd_M_lose_2 ?_
  refine lv_iconst (pc := 5) (v := 1) hx hb dd_M_lose_5 (by decide) ?_
  refine lv_isub (pc := 6) hx hb dd_M_lose_6 ?_
  refine p_M_M_letters (pc := 7) cx hP hS (by assumption) (f_pred (show 0 < mL S by omega)) dd_M_lose_7 (fun H locs hP hS => ?_)
  refine lv_iload_n (pc := 10) hx hb dd_M_lose_10 rfl (lv_at hl 1 rfl) ?_
  refine lv_istore_n (pc := 11) (lv' := [(2, _), (0, _), (1, _)]) hx hb dd_M_lose_11 rfl hl (Nat.le_of_ble_eq_true rfl) rfl (fun ls hl => ?_)
  have hP := f_eqS (T' := n_shift (sU S 16 0 18 (mL S - 1)) at_ (at_)) hP (by rw [n_shift_0]; rfl)
  exact loop (mL S - 1 - at_) at_ _ _ (Nat.le_refl _) (by omega) hP hS ls (lv_sub hl [0, 1, 2] rfl)
set_option maxHeartbeats 4000000 in
set_option maxRecDepth 100000 in
theorem ct_M_count (l : Launch) (x : fy) (S : fm) (hM : fM x) (b : Bool) (c s0 : Nat) (hl0 : mU S 16 0 18 ≤ 256) : Met l mn_M_count (gw_ws mn_M_count cb_M_count 6 (some .int)) ({ frames := 0, cells := 0, slots := 0, locals := 0 } : Room) (fPc x (S) [.ref (xa x 16 0), .int (b2 b), .int (nI c), .int (nI s0)]) (fQi x (S) (nI (n_cnt S b c s0 (mL S)))) 0 0 (fun q => xs x ≤ q) := by
  refine f_met (by decide) (Nat.le_of_ble_eq_true rfl) ?_
  intro p e s m below meth c0 cx hr hlocks hnm hP hS ls hl
  have cx : fX rn_M cb_M_count 6 p c0 s m [.ref (xa x 16 0), .int (b2 b), .int (nI c), .int (nI s0)].toArray x := cx
  have hx := cx.1.1
  have hb := cx.1.2.1
  have hl : lv_has ls 6 [(0, .ref (xa x 16 0)), (1, .int (b2 b)), (2, .int (nI c)), (3, .int (nI s0))] := hl
  obtain ⟨w16, w23, w24, w25, w26, w27, w28, w29, w30, w31, w32, w33, w34, w35, w36, w37, w39, w40, w41, w42, w43, w44, w45, w46⟩ := hM
  have loop : ∀ (n i : Nat), i + n = mU S 16 0 18 → ∀ ls : Array Slot, lv_has ls 6 [(5, .int (nI i)), (4, .int (nI (n_cnt S b c s0 i))), (0, .ref (xa x 16 0)), (1, .int (b2 b)), (2, .int (nI c)), (3, .int (nI s0))] → W p l e ({ frames := 0, cells := 0, slots := 0, locals := 0 } : Room) s m [.ref (xa x 16 0), .int (b2 b), .int (nI c), .int (nI s0)].toArray below meth c0 s.heap [] 0 0 (MQ below (fQi x (S) (nI (n_cnt S b c s0 (mL S)))) [.ref (xa x 16 0), .int (b2 b), .int (nI c), .int (nI s0)].toArray s 0 0 (fun q => xs x ≤ q)) (F0 m 6 ls []) := by
    intro n
    induction n with
    | zero =>
      intro i hi ls hl
      have hi : i = mU S 16 0 18 := by omega
      subst hi
      refine lv_iload (pc := 6) hx hb dd_M_count_6 (lv_at hl 0 rfl) ?_
      refine lv_aload_n (pc := 8) hx hb dd_M_count_8 rfl (lv_at hl 2 rfl) ?_
      refine g_M_M_letters (pc := 9) cx hP (by assumption) dd_M_count_9 ?_
      refine lv_icmp_ge (pc := 12) (tgt := 57) hx hb dd_M_count_12 (by decide) (fun h12 => ?_) (fun h12 => ?_)
      · -- 12: t to 57
        refine lv_iload (pc := 57) hx hb dd_M_count_57 (lv_at hl 1 rfl) ?_
        exact f_iret (pc := 59) cx hr hlocks hP hS rfl rfl dd_M_count_59
      · -- 12: f to 15
        exact absurd ((nI_leI (by omega) (by omega)).mpr (Nat.le_refl _)) h12
    | succ n ih =>
      intro i hi ls hl
      refine lv_iload (pc := 6) hx hb dd_M_count_6 (lv_at hl 0 rfl) ?_
      refine lv_aload_n (pc := 8) hx hb dd_M_count_8 rfl (lv_at hl 2 rfl) ?_
      refine g_M_M_letters (pc := 9) cx hP (by assumption) dd_M_count_9 ?_
      refine lv_icmp_ge (pc := 12) (tgt := 57) hx hb dd_M_count_12 (by decide) (fun h12 => ?_) (fun h12 => ?_)
      · -- 12: t to 57
        exact absurd ((nI_leI (by omega) (by omega)).mp h12) (by omega)
      · -- 12: f to 15
        refine lv_aload_n (pc := 15) hx hb dd_M_count_15 rfl (lv_at hl 2 rfl) ?_
        refine g_M_M_reply (pc := 16) cx hP (by assumption) dd_M_count_16 ?_
        refine lv_iload (pc := 19) hx hb dd_M_count_19 (lv_at hl 0 rfl) ?_
        refine f_zald (pc := 21) cx hP (fv.at (by assumption) _) rfl rfl (by omega) dd_M_count_21 ?_
        refine lv_iload_n (pc := 22) hx hb dd_M_count_22 rfl (lv_at hl 3 rfl) ?_
        refine lv_icmp_ne (pc := 23) (tgt := 51) hx hb dd_M_count_23 (by decide) (fun h23 => ?_) (fun h23 => ?_)
        · -- 23: t to 51
          have hm : n_match S b c s0 i = false := n_match_f (Or.inl (fun q => h23 (by rw [q])))
          refine lv_iinc (pc := 51) (k := 0) (lv' := [(5, _), (4, _), (0, _), (1, _), (2, _), (3, _)]) hx hb dd_M_count_51 hl rfl (f_inc1 i) (Nat.le_of_ble_eq_true rfl) rfl (fun ls hl => ?_)
          refine lv_goto (pc := 54) (tgt := 6) hx hb dd_M_count_54 (by decide) ?_
          exact ih (i + 1) (by omega) ls (by first | (rw [n_cnt_f hm]; exact (lv_sub hl [0, 1, 2, 3, 4, 5] rfl)) | (rw [n_cnt_t hm]; exact (lv_sub hl [0, 1, 2, 3, 4, 5] rfl)))
        · -- 23: f to 26
          refine lv_aload_n (pc := 26) hx hb dd_M_count_26 rfl (lv_at hl 2 rfl) ?_
          refine g_M_M_client (pc := 27) cx hP (by assumption) dd_M_count_27 ?_
          refine lv_iload (pc := 30) hx hb dd_M_count_30 (lv_at hl 0 rfl) ?_
          refine f_iald (pc := 32) cx hP (fv.at (by assumption) _) rfl rfl (by omega) dd_M_count_32 ?_
          refine lv_iload_n (pc := 33) hx hb dd_M_count_33 rfl (lv_at hl 4 rfl) ?_
          refine lv_icmp_ne (pc := 34) (tgt := 51) hx hb dd_M_count_34 (by decide) (fun h34 => ?_) (fun h34 => ?_)
          · -- 34: t to 51
            have hm : n_match S b c s0 i = false := n_match_f (Or.inr (Or.inl h34))
            refine lv_iinc (pc := 51) (k := 0) (lv' := [(5, _), (4, _), (0, _), (1, _), (2, _), (3, _)]) hx hb dd_M_count_51 hl rfl (f_inc1 i) (Nat.le_of_ble_eq_true rfl) rfl (fun ls hl => ?_)
            refine lv_goto (pc := 54) (tgt := 6) hx hb dd_M_count_54 (by decide) ?_
            exact ih (i + 1) (by omega) ls (by first | (rw [n_cnt_f hm]; exact (lv_sub hl [0, 1, 2, 3, 4, 5] rfl)) | (rw [n_cnt_t hm]; exact (lv_sub hl [0, 1, 2, 3, 4, 5] rfl)))
          · -- 34: f to 37
            refine lv_aload_n (pc := 37) hx hb dd_M_count_37 rfl (lv_at hl 2 rfl) ?_
            refine g_M_M_server (pc := 38) cx hP (by assumption) dd_M_count_38 ?_
            refine lv_iload (pc := 41) hx hb dd_M_count_41 (lv_at hl 0 rfl) ?_
            refine f_iald (pc := 43) cx hP (fv.at (by assumption) _) rfl rfl (by omega) dd_M_count_43 ?_
            refine lv_iload_n (pc := 44) hx hb dd_M_count_44 rfl (lv_at hl 5 rfl) ?_
            refine lv_icmp_ne (pc := 45) (tgt := 51) hx hb dd_M_count_45 (by decide) (fun h45 => ?_) (fun h45 => ?_)
            · -- 45: t to 51
              have hm : n_match S b c s0 i = false := n_match_f (Or.inr (Or.inr h45))
              refine lv_iinc (pc := 51) (k := 0) (lv' := [(5, _), (4, _), (0, _), (1, _), (2, _), (3, _)]) hx hb dd_M_count_51 hl rfl (f_inc1 i) (Nat.le_of_ble_eq_true rfl) rfl (fun ls hl => ?_)
              refine lv_goto (pc := 54) (tgt := 6) hx hb dd_M_count_54 (by decide) ?_
              exact ih (i + 1) (by omega) ls (by first | (rw [n_cnt_f hm]; exact (lv_sub hl [0, 1, 2, 3, 4, 5] rfl)) | (rw [n_cnt_t hm]; exact (lv_sub hl [0, 1, 2, 3, 4, 5] rfl)))
            · -- 45: f to 48
              have hm : n_match S b c s0 i = true := n_match_t (b2_inj.mp h23) h34 h45
              refine lv_iinc (pc := 48) (k := 1) (lv' := [(4, _), (5, _), (0, _), (1, _), (2, _), (3, _)]) hx hb dd_M_count_48 hl rfl (f_inc1 _) (Nat.le_of_ble_eq_true rfl) rfl (fun ls hl => ?_)
              refine lv_iinc (pc := 51) (k := 1) (lv' := [(5, _), (4, _), (0, _), (1, _), (2, _), (3, _)]) hx hb dd_M_count_51 hl rfl (f_inc1 i) (Nat.le_of_ble_eq_true rfl) rfl (fun ls hl => ?_)
              refine lv_goto (pc := 54) (tgt := 6) hx hb dd_M_count_54 (by decide) ?_
              exact ih (i + 1) (by omega) ls (by first | (rw [n_cnt_f hm]; exact (lv_sub hl [0, 1, 2, 3, 4, 5] rfl)) | (rw [n_cnt_t hm]; exact (lv_sub hl [0, 1, 2, 3, 4, 5] rfl)))
  refine lv_iconst (pc := 0) (v := nI 0) hx hb dd_M_count_0 (by decide) ?_
  refine lv_istore (pc := 1) (lv' := [(4, _), (0, _), (1, _), (2, _), (3, _)]) hx hb dd_M_count_1 hl (Nat.le_of_ble_eq_true rfl) rfl (fun ls hl => ?_)
  refine lv_iconst (pc := 3) (v := nI 0) hx hb dd_M_count_3 (by decide) ?_
  refine lv_istore (pc := 4) (lv' := [(5, _), (4, _), (0, _), (1, _), (2, _), (3, _)]) hx hb dd_M_count_4 hl (Nat.le_of_ble_eq_true rfl) rfl (fun ls hl => ?_)
  exact loop (mU S 16 0 18) 0 (by omega) ls (lv_sub hl [0, 1, 2, 3, 4, 5] rfl)
set_option maxHeartbeats 4000000 in
set_option maxRecDepth 100000 in
theorem ct_M_seek (l : Launch) (x : fy) (S : fm) (hM : fM x) (b : Bool) (c s0 : Nat) (j : Int32) (hl0 : mU S 16 0 18 ≤ 256) : Met l mn_M_seek (gw_ws mn_M_seek cb_M_seek 7 (some .int)) ({ frames := 0, cells := 0, slots := 0, locals := 0 } : Room) (fPc x (S) [.ref (xa x 16 0), .int (b2 b), .int (nI c), .int (nI s0), .int j]) (fQi x (S) (oI (n_seek S b c s0 j))) 0 0 (fun q => xs x ≤ q) := by
  refine f_met (by decide) (Nat.le_of_ble_eq_true rfl) ?_
  intro p e s m below meth c0 cx hr hlocks hnm hP hS ls hl
  have cx : fX rn_M cb_M_seek 7 p c0 s m [.ref (xa x 16 0), .int (b2 b), .int (nI c), .int (nI s0), .int j].toArray x := cx
  have hx := cx.1.1
  have hb := cx.1.2.1
  have hl : lv_has ls 7 [(0, .ref (xa x 16 0)), (1, .int (b2 b)), (2, .int (nI c)), (3, .int (nI s0)), (4, .int j)] := hl
  obtain ⟨w16, w23, w24, w25, w26, w27, w28, w29, w30, w31, w32, w33, w34, w35, w36, w37, w39, w40, w41, w42, w43, w44, w45, w46⟩ := hM
  have loop : ∀ (n i : Nat), i + n = mU S 16 0 18 → (∀ k, k < i → (n_match S b c s0 k && decide (nI (n_cnt S b c s0 k) = j)) = false) → ∀ ls : Array Slot, lv_has ls 7 [(6, .int (nI i)), (5, .int (nI (n_cnt S b c s0 i))), (0, .ref (xa x 16 0)), (1, .int (b2 b)), (2, .int (nI c)), (3, .int (nI s0)), (4, .int j)] → W p l e ({ frames := 0, cells := 0, slots := 0, locals := 0 } : Room) s m [.ref (xa x 16 0), .int (b2 b), .int (nI c), .int (nI s0), .int j].toArray below meth c0 s.heap [] 0 0 (MQ below (fQi x (S) (oI (n_seek S b c s0 j))) [.ref (xa x 16 0), .int (b2 b), .int (nI c), .int (nI s0), .int j].toArray s 0 0 (fun q => xs x ≤ q)) (F0 m 6 ls []) := by
    intro n
    induction n with
    | zero =>
      intro i hi hk ls hl
      have hi : i = mU S 16 0 18 := by omega
      subst hi
      refine lv_iload (pc := 6) hx hb dd_M_seek_6 (lv_at hl 0 rfl) ?_
      refine lv_aload_n (pc := 8) hx hb dd_M_seek_8 rfl (lv_at hl 2 rfl) ?_
      refine g_M_M_letters (pc := 9) cx hP (by assumption) dd_M_seek_9 ?_
      refine lv_icmp_ge (pc := 12) (tgt := 67) hx hb dd_M_seek_12 (by decide) (fun h12 => ?_) (fun h12 => ?_)
      · -- 12: t to 67
        refine lv_iconst (pc := 67) (v := (-1)) hx hb dd_M_seek_67 (by decide) ?_
        exact f_iret (pc := 68) cx hr hlocks hP hS (by unfold n_seek; rw [fr_none (n := mL S) hk]; rfl) rfl dd_M_seek_68
      · -- 12: f to 15
        exact absurd ((nI_leI (by omega) (by omega)).mpr (Nat.le_refl _)) h12
    | succ n ih =>
      intro i hi hk ls hl
      refine lv_iload (pc := 6) hx hb dd_M_seek_6 (lv_at hl 0 rfl) ?_
      refine lv_aload_n (pc := 8) hx hb dd_M_seek_8 rfl (lv_at hl 2 rfl) ?_
      refine g_M_M_letters (pc := 9) cx hP (by assumption) dd_M_seek_9 ?_
      refine lv_icmp_ge (pc := 12) (tgt := 67) hx hb dd_M_seek_12 (by decide) (fun h12 => ?_) (fun h12 => ?_)
      · -- 12: t to 67
        exact absurd ((nI_leI (by omega) (by omega)).mp h12) (by omega)
      · -- 12: f to 15
        refine lv_aload_n (pc := 15) hx hb dd_M_seek_15 rfl (lv_at hl 2 rfl) ?_
        refine g_M_M_reply (pc := 16) cx hP (by assumption) dd_M_seek_16 ?_
        refine lv_iload (pc := 19) hx hb dd_M_seek_19 (lv_at hl 0 rfl) ?_
        refine f_zald (pc := 21) cx hP (fv.at (by assumption) _) rfl rfl (by omega) dd_M_seek_21 ?_
        refine lv_iload_n (pc := 22) hx hb dd_M_seek_22 rfl (lv_at hl 3 rfl) ?_
        refine lv_icmp_ne (pc := 23) (tgt := 61) hx hb dd_M_seek_23 (by decide) (fun h23 => ?_) (fun h23 => ?_)
        · -- 23: t to 61
          have hm : n_match S b c s0 i = false := n_match_f (Or.inl (fun q => h23 (by rw [q])))
          have hp : (n_match S b c s0 i && decide (nI (n_cnt S b c s0 i) = j)) = false := by rw [hm]; rfl
          refine lv_iinc (pc := 61) (k := 0) (lv' := [(6, _), (5, _), (0, _), (1, _), (2, _), (3, _), (4, _)]) hx hb dd_M_seek_61 hl rfl (f_inc1 i) (Nat.le_of_ble_eq_true rfl) rfl (fun ls hl => ?_)
          refine lv_goto (pc := 64) (tgt := 6) hx hb dd_M_seek_64 (by decide) ?_
          exact ih (i + 1) (by omega) (lt_s hk hp) ls (by first | (rw [n_cnt_f hm]; exact (lv_sub hl [0, 1, 2, 3, 4, 5, 6] rfl)) | (rw [n_cnt_t hm]; exact (lv_sub hl [0, 1, 2, 3, 4, 5, 6] rfl)))
        · -- 23: f to 26
          refine lv_aload_n (pc := 26) hx hb dd_M_seek_26 rfl (lv_at hl 2 rfl) ?_
          refine g_M_M_client (pc := 27) cx hP (by assumption) dd_M_seek_27 ?_
          refine lv_iload (pc := 30) hx hb dd_M_seek_30 (lv_at hl 0 rfl) ?_
          refine f_iald (pc := 32) cx hP (fv.at (by assumption) _) rfl rfl (by omega) dd_M_seek_32 ?_
          refine lv_iload_n (pc := 33) hx hb dd_M_seek_33 rfl (lv_at hl 4 rfl) ?_
          refine lv_icmp_ne (pc := 34) (tgt := 61) hx hb dd_M_seek_34 (by decide) (fun h34 => ?_) (fun h34 => ?_)
          · -- 34: t to 61
            have hm : n_match S b c s0 i = false := n_match_f (Or.inr (Or.inl h34))
            have hp : (n_match S b c s0 i && decide (nI (n_cnt S b c s0 i) = j)) = false := by rw [hm]; rfl
            refine lv_iinc (pc := 61) (k := 0) (lv' := [(6, _), (5, _), (0, _), (1, _), (2, _), (3, _), (4, _)]) hx hb dd_M_seek_61 hl rfl (f_inc1 i) (Nat.le_of_ble_eq_true rfl) rfl (fun ls hl => ?_)
            refine lv_goto (pc := 64) (tgt := 6) hx hb dd_M_seek_64 (by decide) ?_
            exact ih (i + 1) (by omega) (lt_s hk hp) ls (by first | (rw [n_cnt_f hm]; exact (lv_sub hl [0, 1, 2, 3, 4, 5, 6] rfl)) | (rw [n_cnt_t hm]; exact (lv_sub hl [0, 1, 2, 3, 4, 5, 6] rfl)))
          · -- 34: f to 37
            refine lv_aload_n (pc := 37) hx hb dd_M_seek_37 rfl (lv_at hl 2 rfl) ?_
            refine g_M_M_server (pc := 38) cx hP (by assumption) dd_M_seek_38 ?_
            refine lv_iload (pc := 41) hx hb dd_M_seek_41 (lv_at hl 0 rfl) ?_
            refine f_iald (pc := 43) cx hP (fv.at (by assumption) _) rfl rfl (by omega) dd_M_seek_43 ?_
            refine lv_iload_n (pc := 44) hx hb dd_M_seek_44 rfl (lv_at hl 5 rfl) ?_
            refine lv_icmp_ne (pc := 45) (tgt := 61) hx hb dd_M_seek_45 (by decide) (fun h45 => ?_) (fun h45 => ?_)
            · -- 45: t to 61
              have hm : n_match S b c s0 i = false := n_match_f (Or.inr (Or.inr h45))
              have hp : (n_match S b c s0 i && decide (nI (n_cnt S b c s0 i) = j)) = false := by rw [hm]; rfl
              refine lv_iinc (pc := 61) (k := 0) (lv' := [(6, _), (5, _), (0, _), (1, _), (2, _), (3, _), (4, _)]) hx hb dd_M_seek_61 hl rfl (f_inc1 i) (Nat.le_of_ble_eq_true rfl) rfl (fun ls hl => ?_)
              refine lv_goto (pc := 64) (tgt := 6) hx hb dd_M_seek_64 (by decide) ?_
              exact ih (i + 1) (by omega) (lt_s hk hp) ls (by first | (rw [n_cnt_f hm]; exact (lv_sub hl [0, 1, 2, 3, 4, 5, 6] rfl)) | (rw [n_cnt_t hm]; exact (lv_sub hl [0, 1, 2, 3, 4, 5, 6] rfl)))
            · -- 45: f to 48
              have hm : n_match S b c s0 i = true := n_match_t (b2_inj.mp h23) h34 h45
              refine lv_iload (pc := 48) hx hb dd_M_seek_48 (lv_at hl 1 rfl) ?_
              refine lv_iload (pc := 50) hx hb dd_M_seek_50 (lv_at hl 6 rfl) ?_
              refine lv_icmp_ne (pc := 52) (tgt := 58) hx hb dd_M_seek_52 (by decide) (fun h52 => ?_) (fun h52 => ?_)
              · -- 52: t to 58
                have hp : (n_match S b c s0 i && decide (nI (n_cnt S b c s0 i) = j)) = false := by rw [decide_eq_false h52, Bool.and_false]
                refine lv_iinc (pc := 58) (k := 1) (lv' := [(5, _), (6, _), (0, _), (1, _), (2, _), (3, _), (4, _)]) hx hb dd_M_seek_58 hl rfl (f_inc1 _) (Nat.le_of_ble_eq_true rfl) rfl (fun ls hl => ?_)
                refine lv_iinc (pc := 61) (k := 1) (lv' := [(6, _), (5, _), (0, _), (1, _), (2, _), (3, _), (4, _)]) hx hb dd_M_seek_61 hl rfl (f_inc1 i) (Nat.le_of_ble_eq_true rfl) rfl (fun ls hl => ?_)
                refine lv_goto (pc := 64) (tgt := 6) hx hb dd_M_seek_64 (by decide) ?_
                exact ih (i + 1) (by omega) (lt_s hk hp) ls (by first | (rw [n_cnt_f hm]; exact (lv_sub hl [0, 1, 2, 3, 4, 5, 6] rfl)) | (rw [n_cnt_t hm]; exact (lv_sub hl [0, 1, 2, 3, 4, 5, 6] rfl)))
              · -- 52: f to 55
                have hp : (n_match S b c s0 i && decide (nI (n_cnt S b c s0 i) = j)) = true := by rw [hm, decide_eq_true h52]; rfl
                refine lv_iload (pc := 55) hx hb dd_M_seek_55 (lv_at hl 0 rfl) ?_
                exact f_iret (pc := 57) cx hr hlocks hP hS (by unfold n_seek; rw [fr_some (n := mL S) (show i < mU S 16 0 18 by omega) hp hk]; rfl) rfl dd_M_seek_57
  refine lv_iconst (pc := 0) (v := nI 0) hx hb dd_M_seek_0 (by decide) ?_
  refine lv_istore (pc := 1) (lv' := [(5, _), (0, _), (1, _), (2, _), (3, _), (4, _)]) hx hb dd_M_seek_1 hl (Nat.le_of_ble_eq_true rfl) rfl (fun ls hl => ?_)
  refine lv_iconst (pc := 3) (v := nI 0) hx hb dd_M_seek_3 (by decide) ?_
  refine lv_istore (pc := 4) (lv' := [(6, _), (5, _), (0, _), (1, _), (2, _), (3, _), (4, _)]) hx hb dd_M_seek_4 hl (Nat.le_of_ble_eq_true rfl) rfl (fun ls hl => ?_)
  exact loop (mU S 16 0 18) 0 (by omega) lt_0 ls (lv_sub hl [0, 1, 2, 3, 4, 5, 6] rfl)
set_option maxHeartbeats 4000000 in
set_option maxRecDepth 100000 in
theorem ct_M_requests_no (l : Launch) (x : fy) (S : fm) (hM : fM x) (z y : Int32) (hz : q_cl z = false ∨ q_sv x y = false) : Met l mn_M_requests (gw_ws mn_M_requests cb_M_requests 3 (some .int)) ({ frames := 1, cells := 0, slots := 0, locals := 25 } : Room) (fPc x (S) [.ref (xa x 16 0), .int z, .int y]) (fQi x (S) (-1)) 0 0 (fun q => xs x ≤ q) := by
  refine f_met (by decide) (Nat.le_of_ble_eq_true rfl) ?_
  intro p e s m below meth c0 cx hr hlocks hnm hP hS ls hl
  have cx : fX rn_M cb_M_requests 3 p c0 s m [.ref (xa x 16 0), .int z, .int y].toArray x := cx
  have hx := cx.1.1
  have hb := cx.1.2.1
  have hl : lv_has ls 3 [(0, .ref (xa x 16 0)), (1, .int z), (2, .int y)] := hl
  obtain ⟨w16, w23, w24, w25, w26, w27, w28, w29, w30, w31, w32, w33, w34, w35, w36, w37, w39, w40, w41, w42, w43, w44, w45, w46⟩ := hM
  refine lv_aload_n (pc := 0) hx hb dd_M_requests_0 rfl (lv_at hl 0 rfl) ?_
  refine lv_iload_n (pc := 1) hx hb dd_M_requests_1 rfl (lv_at hl 1 rfl) ?_
  refine k_M_M_noClient (pc := 2) cx hl hP hS (by assumption) (ct_M_noClient l x _ ⟨w16, w23, w24, w25, w26, w27, w28, w29, w30, w31, w32, w33, w34, w35, w36, w37, w39, w40, w41, w42, w43, w44, w45, w46⟩ z) ⟨⟨rfl, rfl⟩, ⟨(Nat.le_of_ble_eq_true rfl), (Nat.le_of_ble_eq_true rfl)⟩, (Nat.le_of_ble_eq_true rfl), (Nat.le_of_ble_eq_true rfl)⟩ (Nat.le_of_ble_eq_true rfl) dd_M_requests_2 (fun H locs hP hS => ?_)
  refine f_neB (pc := 5) (tgt := 16) cx dd_M_requests_5 (by decide) (fun h5 => ?_) (fun h5 => ?_)
  · -- 5: t to 16
    refine lv_iconst (pc := 16) (v := (-1)) hx hb dd_M_requests_16 (by decide) ?_
    refine lv_goto (pc := 17) (tgt := 27) hx hb dd_M_requests_17 (by decide) ?_
    exact f_iret (pc := 27) cx hr hlocks hP hS rfl rfl dd_M_requests_27
  · -- 5: f to 8
    refine lv_aload_n (pc := 8) hx hb dd_M_requests_8 rfl (lv_at hl 0 rfl) ?_
    refine lv_iload_n (pc := 9) hx hb dd_M_requests_9 rfl (lv_at hl 2 rfl) ?_
    refine k_M_M_noServer (pc := 10) cx hl hP hS (by assumption) (ct_M_noServer l x _ ⟨w16, w23, w24, w25, w26, w27, w28, w29, w30, w31, w32, w33, w34, w35, w36, w37, w39, w40, w41, w42, w43, w44, w45, w46⟩ y) ⟨⟨rfl, rfl⟩, ⟨(Nat.le_of_ble_eq_true rfl), (Nat.le_of_ble_eq_true rfl)⟩, (Nat.le_of_ble_eq_true rfl), (Nat.le_of_ble_eq_true rfl)⟩ (Nat.le_of_ble_eq_true rfl) dd_M_requests_10 (fun H locs hP hS => ?_)
    refine f_eqB (pc := 13) (tgt := 20) cx dd_M_requests_13 (by decide) (fun h13 => ?_) (fun h13 => ?_)
    · -- 13: t to 20
      exact hz.elim (fun q => absurd ((congrArg not q).symm.trans h5) (by decide)) (fun q => absurd ((congrArg not q).symm.trans h13) (by decide))
    · -- 13: f to 16
      refine lv_iconst (pc := 16) (v := (-1)) hx hb dd_M_requests_16 (by decide) ?_
      refine lv_goto (pc := 17) (tgt := 27) hx hb dd_M_requests_17 (by decide) ?_
      exact f_iret (pc := 27) cx hr hlocks hP hS rfl rfl dd_M_requests_27
set_option maxHeartbeats 4000000 in
set_option maxRecDepth 100000 in
theorem ct_M_requests (l : Launch) (x : fy) (S : fm) (hM : fM x) (c s0 : Nat) (hc : c < 5) (hs : s0 < xN x) (hO : fO x) (hl0 : mU S 16 0 18 ≤ 256) : Met l mn_M_requests (gw_ws mn_M_requests cb_M_requests 3 (some .int)) ({ frames := 1, cells := 0, slots := 0, locals := 25 } : Room) (fPc x (S) [.ref (xa x 16 0), .int (nI c), .int (nI s0)]) (fQi x (S) (nI (n_cnt S false c s0 (mL S)))) 0 0 (fun q => xs x ≤ q) := by
  refine f_met (by decide) (Nat.le_of_ble_eq_true rfl) ?_
  intro p e s m below meth c0 cx hr hlocks hnm hP hS ls hl
  have cx : fX rn_M cb_M_requests 3 p c0 s m [.ref (xa x 16 0), .int (nI c), .int (nI s0)].toArray x := cx
  have hx := cx.1.1
  have hb := cx.1.2.1
  have hl : lv_has ls 3 [(0, .ref (xa x 16 0)), (1, .int (nI c)), (2, .int (nI s0))] := hl
  obtain ⟨w16, w23, w24, w25, w26, w27, w28, w29, w30, w31, w32, w33, w34, w35, w36, w37, w39, w40, w41, w42, w43, w44, w45, w46⟩ := hM
  refine lv_aload_n (pc := 0) hx hb dd_M_requests_0 rfl (lv_at hl 0 rfl) ?_
  refine lv_iload_n (pc := 1) hx hb dd_M_requests_1 rfl (lv_at hl 1 rfl) ?_
  refine k_M_M_noClient (pc := 2) cx hl hP hS (by assumption) (ct_M_noClient l x _ ⟨w16, w23, w24, w25, w26, w27, w28, w29, w30, w31, w32, w33, w34, w35, w36, w37, w39, w40, w41, w42, w43, w44, w45, w46⟩ (nI c)) ⟨⟨rfl, rfl⟩, ⟨(Nat.le_of_ble_eq_true rfl), (Nat.le_of_ble_eq_true rfl)⟩, (Nat.le_of_ble_eq_true rfl), (Nat.le_of_ble_eq_true rfl)⟩ (Nat.le_of_ble_eq_true rfl) dd_M_requests_2 (fun H locs hP hS => ?_)
  refine f_neB (pc := 5) (tgt := 16) cx dd_M_requests_5 (by decide) (fun h5 => ?_) (fun h5 => ?_)
  · -- 5: t to 16
    exact absurd ((congrArg not (q_cl_in hc)).symm.trans h5) (by decide)
  · -- 5: f to 8
    refine lv_aload_n (pc := 8) hx hb dd_M_requests_8 rfl (lv_at hl 0 rfl) ?_
    refine lv_iload_n (pc := 9) hx hb dd_M_requests_9 rfl (lv_at hl 2 rfl) ?_
    refine k_M_M_noServer (pc := 10) cx hl hP hS (by assumption) (ct_M_noServer l x _ ⟨w16, w23, w24, w25, w26, w27, w28, w29, w30, w31, w32, w33, w34, w35, w36, w37, w39, w40, w41, w42, w43, w44, w45, w46⟩ (nI s0)) ⟨⟨rfl, rfl⟩, ⟨(Nat.le_of_ble_eq_true rfl), (Nat.le_of_ble_eq_true rfl)⟩, (Nat.le_of_ble_eq_true rfl), (Nat.le_of_ble_eq_true rfl)⟩ (Nat.le_of_ble_eq_true rfl) dd_M_requests_10 (fun H locs hP hS => ?_)
    refine f_eqB (pc := 13) (tgt := 20) cx dd_M_requests_13 (by decide) (fun h13 => ?_) (fun h13 => ?_)
    · -- 13: t to 20
      refine lv_aload_n (pc := 20) hx hb dd_M_requests_20 rfl (lv_at hl 0 rfl) ?_
      refine lv_iconst (pc := 21) (v := b2 false) hx hb dd_M_requests_21 (by decide) ?_
      refine lv_iload_n (pc := 22) hx hb dd_M_requests_22 rfl (lv_at hl 1 rfl) ?_
      refine lv_iload_n (pc := 23) hx hb dd_M_requests_23 rfl (lv_at hl 2 rfl) ?_
      refine k_M_M_count (pc := 24) cx hl hP hS (by assumption) (ct_M_count l x S ⟨w16, w23, w24, w25, w26, w27, w28, w29, w30, w31, w32, w33, w34, w35, w36, w37, w39, w40, w41, w42, w43, w44, w45, w46⟩ false c s0 hl0) ⟨⟨rfl, rfl⟩, ⟨(Nat.le_of_ble_eq_true rfl), (Nat.le_of_ble_eq_true rfl)⟩, (Nat.le_of_ble_eq_true rfl), (Nat.le_of_ble_eq_true rfl)⟩ (Nat.le_of_ble_eq_true rfl) dd_M_requests_24 (fun H locs hP hS => ?_)
      exact f_iret (pc := 27) cx hr hlocks hP hS rfl rfl dd_M_requests_27
    · -- 13: f to 16
      exact absurd ((congrArg not (q_sv_in hO hs)).symm.trans h13) (by decide)
set_option maxHeartbeats 4000000 in
set_option maxRecDepth 100000 in
theorem ct_M_replies_no (l : Launch) (x : fy) (S : fm) (hM : fM x) (z y : Int32) (hz : q_cl z = false ∨ q_sv x y = false) : Met l mn_M_replies (gw_ws mn_M_replies cb_M_replies 3 (some .int)) ({ frames := 1, cells := 0, slots := 0, locals := 25 } : Room) (fPc x (S) [.ref (xa x 16 0), .int z, .int y]) (fQi x (S) (-1)) 0 0 (fun q => xs x ≤ q) := by
  refine f_met (by decide) (Nat.le_of_ble_eq_true rfl) ?_
  intro p e s m below meth c0 cx hr hlocks hnm hP hS ls hl
  have cx : fX rn_M cb_M_replies 3 p c0 s m [.ref (xa x 16 0), .int z, .int y].toArray x := cx
  have hx := cx.1.1
  have hb := cx.1.2.1
  have hl : lv_has ls 3 [(0, .ref (xa x 16 0)), (1, .int z), (2, .int y)] := hl
  obtain ⟨w16, w23, w24, w25, w26, w27, w28, w29, w30, w31, w32, w33, w34, w35, w36, w37, w39, w40, w41, w42, w43, w44, w45, w46⟩ := hM
  refine lv_aload_n (pc := 0) hx hb dd_M_replies_0 rfl (lv_at hl 0 rfl) ?_
  refine lv_iload_n (pc := 1) hx hb dd_M_replies_1 rfl (lv_at hl 1 rfl) ?_
  refine k_M_M_noClient (pc := 2) cx hl hP hS (by assumption) (ct_M_noClient l x _ ⟨w16, w23, w24, w25, w26, w27, w28, w29, w30, w31, w32, w33, w34, w35, w36, w37, w39, w40, w41, w42, w43, w44, w45, w46⟩ z) ⟨⟨rfl, rfl⟩, ⟨(Nat.le_of_ble_eq_true rfl), (Nat.le_of_ble_eq_true rfl)⟩, (Nat.le_of_ble_eq_true rfl), (Nat.le_of_ble_eq_true rfl)⟩ (Nat.le_of_ble_eq_true rfl) dd_M_replies_2 (fun H locs hP hS => ?_)
  refine f_neB (pc := 5) (tgt := 16) cx dd_M_replies_5 (by decide) (fun h5 => ?_) (fun h5 => ?_)
  · -- 5: t to 16
    refine lv_iconst (pc := 16) (v := (-1)) hx hb dd_M_replies_16 (by decide) ?_
    refine lv_goto (pc := 17) (tgt := 27) hx hb dd_M_replies_17 (by decide) ?_
    exact f_iret (pc := 27) cx hr hlocks hP hS rfl rfl dd_M_replies_27
  · -- 5: f to 8
    refine lv_aload_n (pc := 8) hx hb dd_M_replies_8 rfl (lv_at hl 0 rfl) ?_
    refine lv_iload_n (pc := 9) hx hb dd_M_replies_9 rfl (lv_at hl 2 rfl) ?_
    refine k_M_M_noServer (pc := 10) cx hl hP hS (by assumption) (ct_M_noServer l x _ ⟨w16, w23, w24, w25, w26, w27, w28, w29, w30, w31, w32, w33, w34, w35, w36, w37, w39, w40, w41, w42, w43, w44, w45, w46⟩ y) ⟨⟨rfl, rfl⟩, ⟨(Nat.le_of_ble_eq_true rfl), (Nat.le_of_ble_eq_true rfl)⟩, (Nat.le_of_ble_eq_true rfl), (Nat.le_of_ble_eq_true rfl)⟩ (Nat.le_of_ble_eq_true rfl) dd_M_replies_10 (fun H locs hP hS => ?_)
    refine f_eqB (pc := 13) (tgt := 20) cx dd_M_replies_13 (by decide) (fun h13 => ?_) (fun h13 => ?_)
    · -- 13: t to 20
      exact hz.elim (fun q => absurd ((congrArg not q).symm.trans h5) (by decide)) (fun q => absurd ((congrArg not q).symm.trans h13) (by decide))
    · -- 13: f to 16
      refine lv_iconst (pc := 16) (v := (-1)) hx hb dd_M_replies_16 (by decide) ?_
      refine lv_goto (pc := 17) (tgt := 27) hx hb dd_M_replies_17 (by decide) ?_
      exact f_iret (pc := 27) cx hr hlocks hP hS rfl rfl dd_M_replies_27
set_option maxHeartbeats 4000000 in
set_option maxRecDepth 100000 in
theorem ct_M_replies (l : Launch) (x : fy) (S : fm) (hM : fM x) (c s0 : Nat) (hc : c < 5) (hs : s0 < xN x) (hO : fO x) (hl0 : mU S 16 0 18 ≤ 256) : Met l mn_M_replies (gw_ws mn_M_replies cb_M_replies 3 (some .int)) ({ frames := 1, cells := 0, slots := 0, locals := 25 } : Room) (fPc x (S) [.ref (xa x 16 0), .int (nI c), .int (nI s0)]) (fQi x (S) (nI (n_cnt S true c s0 (mL S)))) 0 0 (fun q => xs x ≤ q) := by
  refine f_met (by decide) (Nat.le_of_ble_eq_true rfl) ?_
  intro p e s m below meth c0 cx hr hlocks hnm hP hS ls hl
  have cx : fX rn_M cb_M_replies 3 p c0 s m [.ref (xa x 16 0), .int (nI c), .int (nI s0)].toArray x := cx
  have hx := cx.1.1
  have hb := cx.1.2.1
  have hl : lv_has ls 3 [(0, .ref (xa x 16 0)), (1, .int (nI c)), (2, .int (nI s0))] := hl
  obtain ⟨w16, w23, w24, w25, w26, w27, w28, w29, w30, w31, w32, w33, w34, w35, w36, w37, w39, w40, w41, w42, w43, w44, w45, w46⟩ := hM
  refine lv_aload_n (pc := 0) hx hb dd_M_replies_0 rfl (lv_at hl 0 rfl) ?_
  refine lv_iload_n (pc := 1) hx hb dd_M_replies_1 rfl (lv_at hl 1 rfl) ?_
  refine k_M_M_noClient (pc := 2) cx hl hP hS (by assumption) (ct_M_noClient l x _ ⟨w16, w23, w24, w25, w26, w27, w28, w29, w30, w31, w32, w33, w34, w35, w36, w37, w39, w40, w41, w42, w43, w44, w45, w46⟩ (nI c)) ⟨⟨rfl, rfl⟩, ⟨(Nat.le_of_ble_eq_true rfl), (Nat.le_of_ble_eq_true rfl)⟩, (Nat.le_of_ble_eq_true rfl), (Nat.le_of_ble_eq_true rfl)⟩ (Nat.le_of_ble_eq_true rfl) dd_M_replies_2 (fun H locs hP hS => ?_)
  refine f_neB (pc := 5) (tgt := 16) cx dd_M_replies_5 (by decide) (fun h5 => ?_) (fun h5 => ?_)
  · -- 5: t to 16
    exact absurd ((congrArg not (q_cl_in hc)).symm.trans h5) (by decide)
  · -- 5: f to 8
    refine lv_aload_n (pc := 8) hx hb dd_M_replies_8 rfl (lv_at hl 0 rfl) ?_
    refine lv_iload_n (pc := 9) hx hb dd_M_replies_9 rfl (lv_at hl 2 rfl) ?_
    refine k_M_M_noServer (pc := 10) cx hl hP hS (by assumption) (ct_M_noServer l x _ ⟨w16, w23, w24, w25, w26, w27, w28, w29, w30, w31, w32, w33, w34, w35, w36, w37, w39, w40, w41, w42, w43, w44, w45, w46⟩ (nI s0)) ⟨⟨rfl, rfl⟩, ⟨(Nat.le_of_ble_eq_true rfl), (Nat.le_of_ble_eq_true rfl)⟩, (Nat.le_of_ble_eq_true rfl), (Nat.le_of_ble_eq_true rfl)⟩ (Nat.le_of_ble_eq_true rfl) dd_M_replies_10 (fun H locs hP hS => ?_)
    refine f_eqB (pc := 13) (tgt := 20) cx dd_M_replies_13 (by decide) (fun h13 => ?_) (fun h13 => ?_)
    · -- 13: t to 20
      refine lv_aload_n (pc := 20) hx hb dd_M_replies_20 rfl (lv_at hl 0 rfl) ?_
      refine lv_iconst (pc := 21) (v := b2 true) hx hb dd_M_replies_21 (by decide) ?_
      refine lv_iload_n (pc := 22) hx hb dd_M_replies_22 rfl (lv_at hl 1 rfl) ?_
      refine lv_iload_n (pc := 23) hx hb dd_M_replies_23 rfl (lv_at hl 2 rfl) ?_
      refine k_M_M_count (pc := 24) cx hl hP hS (by assumption) (ct_M_count l x S ⟨w16, w23, w24, w25, w26, w27, w28, w29, w30, w31, w32, w33, w34, w35, w36, w37, w39, w40, w41, w42, w43, w44, w45, w46⟩ true c s0 hl0) ⟨⟨rfl, rfl⟩, ⟨(Nat.le_of_ble_eq_true rfl), (Nat.le_of_ble_eq_true rfl)⟩, (Nat.le_of_ble_eq_true rfl), (Nat.le_of_ble_eq_true rfl)⟩ (Nat.le_of_ble_eq_true rfl) dd_M_replies_24 (fun H locs hP hS => ?_)
      exact f_iret (pc := 27) cx hr hlocks hP hS rfl rfl dd_M_replies_27
    · -- 13: f to 16
      exact absurd ((congrArg not (q_sv_in hO hs)).symm.trans h13) (by decide)
set_option maxHeartbeats 4000000 in
set_option maxRecDepth 100000 in
theorem ct_M_crowded (l : Launch) (x : fy) (S : fm) (hM : fM x) (c : Nat) (hO : fO x) (hl0 : mU S 16 0 18 ≤ 256) : Met l mn_M_crowded (gw_ws mn_M_crowded cb_M_crowded 5 (some .boolean)) ({ frames := 1, cells := 0, slots := 0, locals := 25 } : Room) (fPc x (S) [.ref (xa x 16 0), .int (nI c)]) (fQi x (S) (b2 (n_crowd x S c))) 0 0 (fun q => xs x ≤ q) := by
  refine f_met (by decide) (Nat.le_of_ble_eq_true rfl) ?_
  intro p e s m below meth c0 cx hr hlocks hnm hP hS ls hl
  have cx : fX rn_M cb_M_crowded 5 p c0 s m [.ref (xa x 16 0), .int (nI c)].toArray x := cx
  have hx := cx.1.1
  have hb := cx.1.2.1
  have hl : lv_has ls 5 [(0, .ref (xa x 16 0)), (1, .int (nI c))] := hl
  obtain ⟨w16, w23, w24, w25, w26, w27, w28, w29, w30, w31, w32, w33, w34, w35, w36, w37, w39, w40, w41, w42, w43, w44, w45, w46⟩ := hM
  have hN : xN x ≤ 7 := hO.2.2.2.1
  have loop : ∀ (n i : Nat) (H : Heap) (locs : List Loc), i + n = xN x → fP x S H → fS x s.heap H locs → ∀ ls : Array Slot, lv_has ls 5 [(3, .int (nI i)), (2, .int (b2 ((List.range (i)).any (fun s => (!mB S 33 0 s && decide (4 < n_cnt S false c s (mL S) + n_cnt S true c s (mL S))))))), (0, .ref (xa x 16 0)), (1, .int (nI c))] → W p l e ({ frames := 1, cells := 0, slots := 0, locals := 25 } : Room) s m [.ref (xa x 16 0), .int (nI c)].toArray below meth c0 H locs 0 0 (MQ below (fQi x (S) (b2 (n_crowd x S c))) [.ref (xa x 16 0), .int (nI c)].toArray s 0 0 (fun q => xs x ≤ q)) (F0 m 4 ls []) := by
    intro n
    induction n with
    | zero =>
      intro i H locs hi hP hS ls hl
      have hi : i = xN x := by omega
      subst hi
      refine lv_iload_n (pc := 4) hx hb dd_M_crowded_4 rfl (lv_at hl 0 rfl) ?_
      refine lv_aload_n (pc := 5) hx hb dd_M_crowded_5 rfl (lv_at hl 2 rfl) ?_
      refine g_M_M_n (pc := 6) cx hP (by assumption) dd_M_crowded_6 ?_
      refine lv_icmp_ge (pc := 9) (tgt := 60) hx hb dd_M_crowded_9 (by decide) (fun h9 => ?_) (fun h9 => ?_)
      · -- 9: t to 60
        refine lv_iload_n (pc := 60) hx hb dd_M_crowded_60 rfl (lv_at hl 1 rfl) ?_
        exact f_zret (pc := 61) cx hr hlocks hP hS rfl rfl dd_M_crowded_61
      · -- 9: f to 12
        exact absurd ((nI_leI (by omega) (by omega)).mpr (Nat.le_refl _)) h9
    | succ n ih =>
      intro i H locs hi hP hS ls hl
      have hc1 := n_cnt_le S false c i (mL S)
      have hc2 := n_cnt_le S true c i (mL S)
      have hc3 : mL S ≤ 256 := hl0
      refine lv_iload_n (pc := 4) hx hb dd_M_crowded_4 rfl (lv_at hl 0 rfl) ?_
      refine lv_aload_n (pc := 5) hx hb dd_M_crowded_5 rfl (lv_at hl 2 rfl) ?_
      refine g_M_M_n (pc := 6) cx hP (by assumption) dd_M_crowded_6 ?_
      refine lv_icmp_ge (pc := 9) (tgt := 60) hx hb dd_M_crowded_9 (by decide) (fun h9 => ?_) (fun h9 => ?_)
      · -- 9: t to 60
        exact absurd ((nI_leI (by omega) (by omega)).mp h9) (by omega)
      · -- 9: f to 12
        refine lv_aload_n (pc := 12) hx hb dd_M_crowded_12 rfl (lv_at hl 2 rfl) ?_
        refine lv_iconst (pc := 13) (v := b2 false) hx hb dd_M_crowded_13 (by decide) ?_
        refine lv_iload_n (pc := 14) hx hb dd_M_crowded_14 rfl (lv_at hl 3 rfl) ?_
        refine lv_iload_n (pc := 15) hx hb dd_M_crowded_15 rfl (lv_at hl 0 rfl) ?_
        refine k_M_M_count (pc := 16) cx hl hP hS (by assumption) (ct_M_count l x S ⟨w16, w23, w24, w25, w26, w27, w28, w29, w30, w31, w32, w33, w34, w35, w36, w37, w39, w40, w41, w42, w43, w44, w45, w46⟩ false c i hl0) ⟨⟨rfl, rfl⟩, ⟨(Nat.le_of_ble_eq_true rfl), (Nat.le_of_ble_eq_true rfl)⟩, (Nat.le_of_ble_eq_true rfl), (Nat.le_of_ble_eq_true rfl)⟩ (Nat.le_of_ble_eq_true rfl) dd_M_crowded_16 (fun H locs hP hS => ?_)
        refine lv_aload_n (pc := 19) hx hb dd_M_crowded_19 rfl (lv_at hl 2 rfl) ?_
        refine lv_iconst (pc := 20) (v := b2 true) hx hb dd_M_crowded_20 (by decide) ?_
        refine lv_iload_n (pc := 21) hx hb dd_M_crowded_21 rfl (lv_at hl 3 rfl) ?_
        refine lv_iload_n (pc := 22) hx hb dd_M_crowded_22 rfl (lv_at hl 0 rfl) ?_
        refine k_M_M_count (pc := 23) cx hl hP hS (by assumption) (ct_M_count l x S ⟨w16, w23, w24, w25, w26, w27, w28, w29, w30, w31, w32, w33, w34, w35, w36, w37, w39, w40, w41, w42, w43, w44, w45, w46⟩ true c i hl0) ⟨⟨rfl, rfl⟩, ⟨(Nat.le_of_ble_eq_true rfl), (Nat.le_of_ble_eq_true rfl)⟩, (Nat.le_of_ble_eq_true rfl), (Nat.le_of_ble_eq_true rfl)⟩ (Nat.le_of_ble_eq_true rfl) dd_M_crowded_23 (fun H locs hP hS => ?_)
        refine lv_iadd (pc := 26) hx hb dd_M_crowded_26 ?_
        refine f_topi (nI_add _ _) ?_
        refine lv_istore (pc := 27) (lv' := [(4, _), (3, _), (2, _), (0, _), (1, _)]) hx hb dd_M_crowded_27 hl (Nat.le_of_ble_eq_true rfl) rfl (fun ls hl => ?_)
        refine lv_iload_n (pc := 29) hx hb dd_M_crowded_29 rfl (lv_at hl 2 rfl) ?_
        refine f_neB (pc := 30) (tgt := 48) cx dd_M_crowded_30 (by decide) (fun h30 => ?_) (fun h30 => ?_)
        · -- 30: t to 48
          have e0 : b2 true = b2 ((List.range (i + 1)).any (fun s => (!mB S 33 0 s && decide (4 < n_cnt S false c s (mL S) + n_cnt S true c s (mL S))))) := by rw [any_succ]; rw [h30]; rfl
          refine lv_iconst (pc := 48) (v := b2 true) hx hb dd_M_crowded_48 (by decide) ?_
          refine lv_goto (pc := 49) (tgt := 53) hx hb dd_M_crowded_49 (by decide) ?_
          refine lv_istore_n (pc := 53) (lv' := [(2, _), (4, _), (3, _), (0, _), (1, _)]) hx hb dd_M_crowded_53 rfl hl (Nat.le_of_ble_eq_true rfl) rfl (fun ls hl => ?_)
          refine lv_iinc (pc := 54) (k := 2) (lv' := [(3, _), (2, _), (4, _), (0, _), (1, _)]) hx hb dd_M_crowded_54 hl rfl (f_inc1 i) (Nat.le_of_ble_eq_true rfl) rfl (fun ls hl => ?_)
          refine lv_goto (pc := 57) (tgt := 4) hx hb dd_M_crowded_57 (by decide) ?_
          rw [e0] at hl
          exact ih (i + 1) _ _ (by omega) hP hS ls (lv_sub hl [0, 1, 3, 4] rfl)
        · -- 30: f to 33
          refine lv_aload_n (pc := 33) hx hb dd_M_crowded_33 rfl (lv_at hl 3 rfl) ?_
          refine g_M_M_down (pc := 34) cx hP (by assumption) dd_M_crowded_34 ?_
          refine lv_iload_n (pc := 37) hx hb dd_M_crowded_37 rfl (lv_at hl 1 rfl) ?_
          refine f_zald (pc := 38) cx hP (fv.at (by assumption) _) rfl rfl (by omega) dd_M_crowded_38 ?_
          refine f_neB (pc := 39) (tgt := 52) cx dd_M_crowded_39 (by decide) (fun h39 => ?_) (fun h39 => ?_)
          · -- 39: t to 52
            have e0 : b2 false = b2 ((List.range (i + 1)).any (fun s => (!mB S 33 0 s && decide (4 < n_cnt S false c s (mL S) + n_cnt S true c s (mL S))))) := by rw [any_succ]; rw [h30, h39]; rfl
            refine lv_iconst (pc := 52) (v := b2 false) hx hb dd_M_crowded_52 (by decide) ?_
            refine lv_istore_n (pc := 53) (lv' := [(2, _), (4, _), (3, _), (0, _), (1, _)]) hx hb dd_M_crowded_53 rfl hl (Nat.le_of_ble_eq_true rfl) rfl (fun ls hl => ?_)
            refine lv_iinc (pc := 54) (k := 2) (lv' := [(3, _), (2, _), (4, _), (0, _), (1, _)]) hx hb dd_M_crowded_54 hl rfl (f_inc1 i) (Nat.le_of_ble_eq_true rfl) rfl (fun ls hl => ?_)
            refine lv_goto (pc := 57) (tgt := 4) hx hb dd_M_crowded_57 (by decide) ?_
            rw [e0] at hl
            exact ih (i + 1) _ _ (by omega) hP hS ls (lv_sub hl [0, 1, 3, 4] rfl)
          · -- 39: f to 42
            refine lv_iload (pc := 42) hx hb dd_M_crowded_42 (lv_at hl 0 rfl) ?_
            refine lv_iconst (pc := 44) (v := nI 4) hx hb dd_M_crowded_44 (by decide) ?_
            refine lv_icmp_le (pc := 45) (tgt := 52) hx hb dd_M_crowded_45 (by decide) (fun h45 => ?_) (fun h45 => ?_)
            · -- 45: t to 52
              have h2 := (nI_leI (by omega) (by omega)).mp h45
              have e0 : b2 false = b2 ((List.range (i + 1)).any (fun s => (!mB S 33 0 s && decide (4 < n_cnt S false c s (mL S) + n_cnt S true c s (mL S))))) := by rw [any_succ]; rw [h30, h39, decide_eq_false (by omega)]; rfl
              refine lv_iconst (pc := 52) (v := b2 false) hx hb dd_M_crowded_52 (by decide) ?_
              refine lv_istore_n (pc := 53) (lv' := [(2, _), (4, _), (3, _), (0, _), (1, _)]) hx hb dd_M_crowded_53 rfl hl (Nat.le_of_ble_eq_true rfl) rfl (fun ls hl => ?_)
              refine lv_iinc (pc := 54) (k := 2) (lv' := [(3, _), (2, _), (4, _), (0, _), (1, _)]) hx hb dd_M_crowded_54 hl rfl (f_inc1 i) (Nat.le_of_ble_eq_true rfl) rfl (fun ls hl => ?_)
              refine lv_goto (pc := 57) (tgt := 4) hx hb dd_M_crowded_57 (by decide) ?_
              rw [e0] at hl
              exact ih (i + 1) _ _ (by omega) hP hS ls (lv_sub hl [0, 1, 3, 4] rfl)
            · -- 45: f to 48
              have h2 : 4 < n_cnt S false c i (mL S) + n_cnt S true c i (mL S) := Nat.lt_of_not_le (fun q => h45 ((nI_leI (by omega) (by omega)).mpr q))
              have e0 : b2 true = b2 ((List.range (i + 1)).any (fun s => (!mB S 33 0 s && decide (4 < n_cnt S false c s (mL S) + n_cnt S true c s (mL S))))) := by rw [any_succ]; rw [h30, h39, decide_eq_true h2]; rfl
              refine lv_iconst (pc := 48) (v := b2 true) hx hb dd_M_crowded_48 (by decide) ?_
              refine lv_goto (pc := 49) (tgt := 53) hx hb dd_M_crowded_49 (by decide) ?_
              refine lv_istore_n (pc := 53) (lv' := [(2, _), (4, _), (3, _), (0, _), (1, _)]) hx hb dd_M_crowded_53 rfl hl (Nat.le_of_ble_eq_true rfl) rfl (fun ls hl => ?_)
              refine lv_iinc (pc := 54) (k := 2) (lv' := [(3, _), (2, _), (4, _), (0, _), (1, _)]) hx hb dd_M_crowded_54 hl rfl (f_inc1 i) (Nat.le_of_ble_eq_true rfl) rfl (fun ls hl => ?_)
              refine lv_goto (pc := 57) (tgt := 4) hx hb dd_M_crowded_57 (by decide) ?_
              rw [e0] at hl
              exact ih (i + 1) _ _ (by omega) hP hS ls (lv_sub hl [0, 1, 3, 4] rfl)
  refine lv_iconst (pc := 0) (v := b2 false) hx hb dd_M_crowded_0 (by decide) ?_
  refine lv_istore_n (pc := 1) (lv' := [(2, _), (0, _), (1, _)]) hx hb dd_M_crowded_1 rfl hl (Nat.le_of_ble_eq_true rfl) rfl (fun ls hl => ?_)
  refine lv_iconst (pc := 2) (v := nI 0) hx hb dd_M_crowded_2 (by decide) ?_
  refine lv_istore_n (pc := 3) (lv' := [(3, _), (2, _), (0, _), (1, _)]) hx hb dd_M_crowded_3 rfl hl (Nat.le_of_ble_eq_true rfl) rfl (fun ls hl => ?_)
  exact loop (xN x) 0 _ _ (by omega) hP hS ls (lv_sub hl [0, 1, 2, 3] rfl)
