-- contracts of the register, by wip/whole/gen/c_reg2.py
set_option maxHeartbeats 4000000 in
set_option maxRecDepth 100000 in
theorem ct_X_enough (l : Launch) (x : fy) (S : fm) (hL : fL x) (c : Nat) (hc : c < 5) (hO : fO x) (hn : mU S 7 c 3 ≤ 7) : Met l mn_X_hasHeardEnough (gw_ws mn_X_hasHeardEnough cb_X_hasHeardEnough 2 (some .boolean)) ({ frames := 1, cells := 0, slots := 0, locals := 20 } : Room) (fPc x (S) [.ref (xa x 0 0), .ref (xa x 7 c)]) (fQi x (S) (b2 (q_enough x S c))) 0 0 (fun q => xs x ≤ q) := by
  refine f_met (by decide) (Nat.le_of_ble_eq_true rfl) ?_
  intro p e s m below meth c0 cx hr hlocks hnm hP hS ls hl
  have cx : fX rn_X cb_X_hasHeardEnough 2 p c0 s m [.ref (xa x 0 0), .ref (xa x 7 c)].toArray x := cx
  have hx := cx.1.1
  have hb := cx.1.2.1
  have hl : lv_has ls 2 [(0, .ref (xa x 0 0)), (1, .ref (xa x 7 c))] := hl
  obtain ⟨v0, v1, v2, v3, v4, v5, v6, vC, vS, vR⟩ := hL
  obtain ⟨v7, v8, v9⟩ := vC c hc
  have hK : xK x ≤ 7 := by have := hO; unfold fO at this; omega
  refine lv_aload_n (pc := 0) hx hb dd_X_hasHeardEnough_0 rfl (lv_at hl 1 rfl) ?_
  refine g_X_C_heard (pc := 1) cx hP (by assumption) dd_X_hasHeardEnough_1 ?_
  refine lv_aload_n (pc := 4) hx hb dd_X_hasHeardEnough_4 rfl (lv_at hl 0 rfl) ?_
  refine g_X_X_quorumSize (pc := 5) cx hP (by assumption) dd_X_hasHeardEnough_5 ?_
  refine lv_icmp_lt (pc := 8) (tgt := 30) hx hb dd_X_hasHeardEnough_8 (by decide) (fun h8 => ?_) (fun h8 => ?_)
  · -- 8: t to 30
    refine lv_iconst (pc := 30) (v := 0) hx hb dd_X_hasHeardEnough_30 (by decide) ?_
    exact f_zret (pc := 31) cx hr hlocks hP hS (by simp [q_enough, b2, *] <;> simp_all) rfl dd_X_hasHeardEnough_31
  · -- 8: f to 11
    refine lv_aload_n (pc := 11) hx hb dd_X_hasHeardEnough_11 rfl (lv_at hl 1 rfl) ?_
    refine g_X_C_phase (pc := 12) cx hP (by assumption) dd_X_hasHeardEnough_12 ?_
    refine lv_iconst (pc := 15) (v := 5) hx hb dd_X_hasHeardEnough_15 (by decide) ?_
    refine lv_icmp_ne (pc := 16) (tgt := 26) hx hb dd_X_hasHeardEnough_16 (by decide) (fun h16 => ?_) (fun h16 => ?_)
    · -- 16: t to 26
      refine lv_iconst (pc := 26) (v := 1) hx hb dd_X_hasHeardEnough_26 (by decide) ?_
      refine lv_goto (pc := 27) (tgt := 31) hx hb dd_X_hasHeardEnough_27 (by decide) ?_
      exact f_zret (pc := 31) cx hr hlocks hP hS (by simp [q_enough, b2, *] <;> simp_all) rfl dd_X_hasHeardEnough_31
    · -- 16: f to 19
      refine lv_aload_n (pc := 19) hx hb dd_X_hasHeardEnough_19 rfl (lv_at hl 1 rfl) ?_
      refine k_X_C_hasAllFragments (pc := 20) cx hl hP hS (by assumption) (ct_C_hasAll l x S c v7 v9 hK hn) ⟨⟨rfl, rfl⟩, ⟨(Nat.le_of_ble_eq_true rfl), (Nat.le_of_ble_eq_true rfl)⟩, (Nat.le_of_ble_eq_true rfl), (Nat.le_of_ble_eq_true rfl)⟩ (Nat.le_of_ble_eq_true rfl) dd_X_hasHeardEnough_20 (fun H locs hP hS => ?_)
      refine f_eqB (pc := 23) (tgt := 30) cx dd_X_hasHeardEnough_23 (by decide) (fun h23 => ?_) (fun h23 => ?_)
      · -- 23: t to 30
        refine lv_iconst (pc := 30) (v := 0) hx hb dd_X_hasHeardEnough_30 (by decide) ?_
        exact f_zret (pc := 31) cx hr hlocks hP hS (by simp [q_enough, b2, *] <;> simp_all) rfl dd_X_hasHeardEnough_31
      · -- 23: f to 26
        refine lv_iconst (pc := 26) (v := 1) hx hb dd_X_hasHeardEnough_26 (by decide) ?_
        refine lv_goto (pc := 27) (tgt := 31) hx hb dd_X_hasHeardEnough_27 (by decide) ?_
        exact f_zret (pc := 31) cx hr hlocks hP hS (by simp [q_enough, b2, *] <;> simp_all) rfl dd_X_hasHeardEnough_31
set_option maxHeartbeats 4000000 in
set_option maxRecDepth 100000 in
theorem ct_X_endPhase (l : Launch) (x : fy) (S : fm) (hL : fL x) (c : Nat) (hc : c < 5) (hO : fO x) (h7r : ∀ r, mU S 13 r 1 ≤ 7) (h7s : ∀ j, mU S 8 c j < 7) : Met l mn_X_endPhase (gw_ws mn_X_endPhase cb_X_endPhase 3 (some .int)) ({ frames := 4, cells := 7, slots := 42, locals := 98 } : Room) (fPc x (S) [.ref (xa x 0 0), .ref (xa x 7 c)]) (fQi x (e_end x S c) (q_end S c)) 7 42 (fun q => xs x ≤ q) := by
  refine f_met (by decide) (Nat.le_of_ble_eq_true rfl) ?_
  intro p e s m below meth c0 cx hr hlocks hnm hP hS ls hl
  have cx : fX rn_X cb_X_endPhase 3 p c0 s m [.ref (xa x 0 0), .ref (xa x 7 c)].toArray x := cx
  have hx := cx.1.1
  have hb := cx.1.2.1
  have hl : lv_has ls 3 [(0, .ref (xa x 0 0)), (1, .ref (xa x 7 c))] := hl
  obtain ⟨v0, v1, v2, v3, v4, v5, v6, vC, vS, vR⟩ := hL
  obtain ⟨v7, v8, v9⟩ := vC c hc
  refine lv_aload_n (pc := 0) hx hb dd_X_endPhase_0 rfl (lv_at hl 1 rfl) ?_
  refine g_X_C_phase (pc := 1) cx hP (by assumption) dd_X_endPhase_1 ?_
  by_cases hs1 : mI S 7 c 5 = 1
  · refine f_topi hs1 ?_
    refine lv_tableIn (pc := 4) (off := 36) (tgt := 40) hx hb dd_X_endPhase_4 (by decide) (by decide) (by decide) (by decide) ?_
    refine lv_aload_n (pc := 40) hx hb dd_X_endPhase_40 rfl (lv_at hl 1 rfl) ?_
    refine g_X_C_highestSeal (pc := 41) cx hP (by assumption) dd_X_endPhase_41 ?_
    refine lv_bipush (pc := 44) (v := 8) hx hb dd_X_endPhase_44 (by decide) ?_
    refine lv_idiv (pc := 46) hx hb dd_X_endPhase_46 (by decide) ?_
    refine lv_iconst (pc := 47) (v := 1) hx hb dd_X_endPhase_47 (by decide) ?_
    refine lv_iadd (pc := 48) hx hb dd_X_endPhase_48 ?_
    refine lv_istore_n (pc := 49) (lv' := [(2, _), (0, _), (1, _)]) hx hb dd_X_endPhase_49 rfl hl (Nat.le_of_ble_eq_true rfl) rfl (fun ls hl => ?_)
    refine lv_aload_n (pc := 50) hx hb dd_X_endPhase_50 rfl (lv_at hl 2 rfl) ?_
    refine lv_bipush (pc := 51) (v := 8) hx hb dd_X_endPhase_51 (by decide) ?_
    refine lv_iload_n (pc := 53) hx hb dd_X_endPhase_53 rfl (lv_at hl 0 rfl) ?_
    refine lv_imul (pc := 54) hx hb dd_X_endPhase_54 ?_
    refine lv_aload_n (pc := 55) hx hb dd_X_endPhase_55 rfl (lv_at hl 2 rfl) ?_
    refine g_X_C_number (pc := 56) cx hP (by assumption) dd_X_endPhase_56 ?_
    refine lv_iadd (pc := 59) hx hb dd_X_endPhase_59 ?_
    refine p_X_C_tag (pc := 60) cx hP hS (by assumption) dd_X_endPhase_60 (fun H locs hP hS => ?_)
    refine lv_aload_n (pc := 63) hx hb dd_X_endPhase_63 rfl (lv_at hl 1 rfl) ?_
    refine lv_aload_n (pc := 64) hx hb dd_X_endPhase_64 rfl (lv_at hl 2 rfl) ?_
    refine lv_iconst (pc := 65) (v := 2) hx hb dd_X_endPhase_65 (by decide) ?_
    refine k_X_X_beginPhase (pc := 66) cx hl hP hS (by assumption) (ct_X_beginPhase l x _ ⟨v0, v1, v2, v3, v4, v5, v6, vC, vS, vR⟩ c _ hc hO h7r) ⟨⟨rfl, rfl⟩, ⟨(Nat.le_of_ble_eq_true rfl), (Nat.le_of_ble_eq_true rfl)⟩, (Nat.le_of_ble_eq_true rfl), (Nat.le_of_ble_eq_true rfl)⟩ (Nat.le_of_ble_eq_true rfl) dd_X_endPhase_66 (fun H locs hP hS => ?_)
    refine lv_iconst (pc := 69) (v := 2) hx hb dd_X_endPhase_69 (by decide) ?_
    refine W.widen (k := 7) (n := 42) (Nat.le_of_ble_eq_true rfl) (Nat.le_of_ble_eq_true rfl) ?_
    exact f_iret (pc := 70) cx hr hlocks hP hS (by simp [q_end, *]) (by simp [e_end, *]) dd_X_endPhase_70
  by_cases hs2 : mI S 7 c 5 = 2
  · refine f_topi hs2 ?_
    refine lv_tableIn (pc := 4) (off := 67) (tgt := 71) hx hb dd_X_endPhase_4 (by decide) (by decide) (by decide) (by decide) ?_
    refine lv_aload_n (pc := 71) hx hb dd_X_endPhase_71 rfl (lv_at hl 0 rfl) ?_
    refine lv_aload_n (pc := 72) hx hb dd_X_endPhase_72 rfl (lv_at hl 1 rfl) ?_
    refine lv_iconst (pc := 73) (v := 3) hx hb dd_X_endPhase_73 (by decide) ?_
    refine k_X_X_beginPhase (pc := 74) cx hl hP hS (by assumption) (ct_X_beginPhase l x _ ⟨v0, v1, v2, v3, v4, v5, v6, vC, vS, vR⟩ c _ hc hO h7r) ⟨⟨rfl, rfl⟩, ⟨(Nat.le_of_ble_eq_true rfl), (Nat.le_of_ble_eq_true rfl)⟩, (Nat.le_of_ble_eq_true rfl), (Nat.le_of_ble_eq_true rfl)⟩ (Nat.le_of_ble_eq_true rfl) dd_X_endPhase_74 (fun H locs hP hS => ?_)
    refine lv_iconst (pc := 77) (v := 2) hx hb dd_X_endPhase_77 (by decide) ?_
    refine W.widen (k := 7) (n := 42) (Nat.le_of_ble_eq_true rfl) (Nat.le_of_ble_eq_true rfl) ?_
    exact f_iret (pc := 78) cx hr hlocks hP hS (by simp [q_end, *]) (by simp [e_end, *]) dd_X_endPhase_78
  by_cases hs3 : mI S 7 c 5 = 3
  · refine f_topi hs3 ?_
    refine lv_tableIn (pc := 4) (off := 116) (tgt := 120) hx hb dd_X_endPhase_4 (by decide) (by decide) (by decide) (by decide) ?_
    refine lv_aload_n (pc := 120) hx hb dd_X_endPhase_120 rfl (lv_at hl 1 rfl) ?_
    refine k_X_C_finish (pc := 121) cx hl hP hS (by assumption) (ct_C_finish l x _ c v7) ⟨⟨rfl, rfl⟩, ⟨(Nat.le_of_ble_eq_true rfl), (Nat.le_of_ble_eq_true rfl)⟩, (Nat.le_of_ble_eq_true rfl), (Nat.le_of_ble_eq_true rfl)⟩ (Nat.le_of_ble_eq_true rfl) dd_X_endPhase_121 (fun H locs hP hS => ?_)
    refine lv_iconst (pc := 124) (v := 3) hx hb dd_X_endPhase_124 (by decide) ?_
    refine W.widen (k := 7) (n := 42) (Nat.le_of_ble_eq_true rfl) (Nat.le_of_ble_eq_true rfl) ?_
    exact f_iret (pc := 125) cx hr hlocks hP hS (by simp [q_end, *]) (by simp [e_end, *]) dd_X_endPhase_125
  by_cases hs4 : mI S 7 c 5 = 4
  · refine f_topi hs4 ?_
    refine lv_tableIn (pc := 4) (off := 75) (tgt := 79) hx hb dd_X_endPhase_4 (by decide) (by decide) (by decide) (by decide) ?_
    refine lv_aload_n (pc := 79) hx hb dd_X_endPhase_79 rfl (lv_at hl 1 rfl) ?_
    refine lv_aload_n (pc := 80) hx hb dd_X_endPhase_80 rfl (lv_at hl 1 rfl) ?_
    refine g_X_C_highestSeal (pc := 81) cx hP (by assumption) dd_X_endPhase_81 ?_
    refine p_X_C_tag (pc := 84) cx hP hS (by assumption) dd_X_endPhase_84 (fun H locs hP hS => ?_)
    refine lv_aload_n (pc := 87) hx hb dd_X_endPhase_87 rfl (lv_at hl 0 rfl) ?_
    refine lv_aload_n (pc := 88) hx hb dd_X_endPhase_88 rfl (lv_at hl 1 rfl) ?_
    refine lv_iconst (pc := 89) (v := 5) hx hb dd_X_endPhase_89 (by decide) ?_
    refine k_X_X_beginPhase (pc := 90) cx hl hP hS (by assumption) (ct_X_beginPhase l x _ ⟨v0, v1, v2, v3, v4, v5, v6, vC, vS, vR⟩ c _ hc hO h7r) ⟨⟨rfl, rfl⟩, ⟨(Nat.le_of_ble_eq_true rfl), (Nat.le_of_ble_eq_true rfl)⟩, (Nat.le_of_ble_eq_true rfl), (Nat.le_of_ble_eq_true rfl)⟩ (Nat.le_of_ble_eq_true rfl) dd_X_endPhase_90 (fun H locs hP hS => ?_)
    refine lv_iconst (pc := 93) (v := 2) hx hb dd_X_endPhase_93 (by decide) ?_
    refine W.widen (k := 7) (n := 42) (Nat.le_of_ble_eq_true rfl) (Nat.le_of_ble_eq_true rfl) ?_
    exact f_iret (pc := 94) cx hr hlocks hP hS (by simp [q_end, *]) (by simp [e_end, *]) dd_X_endPhase_94
  by_cases hs5 : mI S 7 c 5 = 5
  · refine f_topi hs5 ?_
    refine lv_tableIn (pc := 4) (off := 91) (tgt := 95) hx hb dd_X_endPhase_4 (by decide) (by decide) (by decide) (by decide) ?_
    refine lv_aload_n (pc := 95) hx hb dd_X_endPhase_95 rfl (lv_at hl 1 rfl) ?_
    refine lv_aload_n (pc := 96) hx hb dd_X_endPhase_96 rfl (lv_at hl 0 rfl) ?_
    refine g_X_X_code (pc := 97) cx hP (by assumption) dd_X_endPhase_97 ?_
    refine lv_aload_n (pc := 100) hx hb dd_X_endPhase_100 rfl (lv_at hl 1 rfl) ?_
    refine g_X_C_sources (pc := 101) cx hP (by assumption) dd_X_endPhase_101 ?_
    refine lv_aload_n (pc := 104) hx hb dd_X_endPhase_104 rfl (lv_at hl 1 rfl) ?_
    refine g_X_C_fragments (pc := 105) cx hP (by assumption) dd_X_endPhase_105 ?_
    refine k_X_K_decode (pc := 108) cx hl hP hS (by assumption) (ct_K_decode l x S c v1 v2 v8 hO h7s v9) ⟨⟨rfl, rfl⟩, ⟨(Nat.le_of_ble_eq_true rfl), (Nat.le_of_ble_eq_true rfl)⟩, (Nat.le_of_ble_eq_true rfl), (Nat.le_of_ble_eq_true rfl)⟩ (Nat.le_of_ble_eq_true rfl) dd_X_endPhase_108 (fun H locs hP hS => ?_)
    refine p_X_C_result (pc := 111) cx hP hS (by assumption) dd_X_endPhase_111 (fun H locs hP hS => ?_)
    refine lv_aload_n (pc := 114) hx hb dd_X_endPhase_114 rfl (lv_at hl 1 rfl) ?_
    refine k_X_C_finish (pc := 115) cx hl hP hS (by assumption) (ct_C_finish l x _ c v7) ⟨⟨rfl, rfl⟩, ⟨(Nat.le_of_ble_eq_true rfl), (Nat.le_of_ble_eq_true rfl)⟩, (Nat.le_of_ble_eq_true rfl), (Nat.le_of_ble_eq_true rfl)⟩ (Nat.le_of_ble_eq_true rfl) dd_X_endPhase_115 (fun H locs hP hS => ?_)
    refine lv_iconst (pc := 118) (v := 3) hx hb dd_X_endPhase_118 (by decide) ?_
    refine W.widen (k := 7) (n := 42) (Nat.le_of_ble_eq_true rfl) (Nat.le_of_ble_eq_true rfl) ?_
    exact f_iret (pc := 119) cx hr hlocks hP hS (by simp [q_end, *]) (by simp [e_end, *]) dd_X_endPhase_119
  have hn1 := lv_neT (a := 1) hs1 (by decide)
  have hn2 := lv_neT (a := 2) hs2 (by decide)
  have hn3 := lv_neT (a := 3) hs3 (by decide)
  have hn4 := lv_neT (a := 4) hs4 (by decide)
  have hn5 := lv_neT (a := 5) hs5 (by decide)
  refine lv_tableOut (pc := 4) (tgt := 120) hx hb dd_X_endPhase_4 (by omega) (by decide) ?_
  refine lv_aload_n (pc := 120) hx hb dd_X_endPhase_120 rfl (lv_at hl 1 rfl) ?_
  refine k_X_C_finish (pc := 121) cx hl hP hS (by assumption) (ct_C_finish l x _ c v7) ⟨⟨rfl, rfl⟩, ⟨(Nat.le_of_ble_eq_true rfl), (Nat.le_of_ble_eq_true rfl)⟩, (Nat.le_of_ble_eq_true rfl), (Nat.le_of_ble_eq_true rfl)⟩ (Nat.le_of_ble_eq_true rfl) dd_X_endPhase_121 (fun H locs hP hS => ?_)
  refine lv_iconst (pc := 124) (v := 3) hx hb dd_X_endPhase_124 (by decide) ?_
  refine W.widen (k := 7) (n := 42) (Nat.le_of_ble_eq_true rfl) (Nat.le_of_ble_eq_true rfl) ?_
  exact f_iret (pc := 125) cx hr hlocks hP hS (by simp [q_end, *]) (by simp [e_end, *]) dd_X_endPhase_125
set_option maxHeartbeats 4000000 in
set_option maxRecDepth 100000 in
theorem ct_X_refusal_no (l : Launch) (x : fy) (S : fm) (hL : fL x) (z : Int32) (hz : q_cl z = false) : Met l mn_X_refusalToBegin (gw_ws mn_X_refusalToBegin cb_X_refusalToBegin 2 (some .int)) ({ frames := 2, cells := 0, slots := 0, locals := 45 } : Room) (fPc x (S) [.ref (xa x 0 0), .int z]) (fQi x (S) (-1)) 0 0 (fun q => xs x ≤ q) := by
  refine f_met (by decide) (Nat.le_of_ble_eq_true rfl) ?_
  intro p e s m below meth c0 cx hr hlocks hnm hP hS ls hl
  have cx : fX rn_X cb_X_refusalToBegin 2 p c0 s m [.ref (xa x 0 0), .int z].toArray x := cx
  have hx := cx.1.1
  have hb := cx.1.2.1
  have hl : lv_has ls 2 [(0, .ref (xa x 0 0)), (1, .int z)] := hl
  obtain ⟨v0, v1, v2, v3, v4, v5, v6, vC, vS, vR⟩ := hL
  refine lv_aload_n (pc := 0) hx hb dd_X_refusalToBegin_0 rfl (lv_at hl 0 rfl) ?_
  refine lv_iload_n (pc := 1) hx hb dd_X_refusalToBegin_1 rfl (lv_at hl 1 rfl) ?_
  refine k_X_X_isClient (pc := 2) cx hl hP hS (by assumption) (ct_X_isClient l x S ⟨v0, v1, v2, v3, v4, v5, v6, vC, vS, vR⟩ z) ⟨⟨rfl, rfl⟩, ⟨(Nat.le_of_ble_eq_true rfl), (Nat.le_of_ble_eq_true rfl)⟩, (Nat.le_of_ble_eq_true rfl), (Nat.le_of_ble_eq_true rfl)⟩ (Nat.le_of_ble_eq_true rfl) dd_X_refusalToBegin_2 (fun H locs hP hS => ?_)
  refine f_neB (pc := 5) (tgt := 10) cx dd_X_refusalToBegin_5 (by decide) (fun h5 => ?_) (fun h5 => ?_)
  · -- 5: t to 10
    exact absurd (hz.symm.trans h5) (by decide)
  · -- 5: f to 8
    refine lv_iconst (pc := 8) (v := (-1)) hx hb dd_X_refusalToBegin_8 (by decide) ?_
    exact f_iret (pc := 9) cx hr hlocks hP hS rfl rfl dd_X_refusalToBegin_9
set_option maxHeartbeats 4000000 in
set_option maxRecDepth 100000 in
theorem ct_X_refusal (l : Launch) (x : fy) (S : fm) (hL : fL x) (c : Nat) (hc : c < 5) (hO : fO x) (hI : fI x S) : Met l mn_X_refusalToBegin (gw_ws mn_X_refusalToBegin cb_X_refusalToBegin 2 (some .int)) ({ frames := 2, cells := 0, slots := 0, locals := 45 } : Room) (fPc x (S) [.ref (xa x 0 0), .int (nI c)]) (fQi x (S) (q_refuse x S c)) 0 0 (fun q => xs x ≤ q) := by
  refine f_met (by decide) (Nat.le_of_ble_eq_true rfl) ?_
  intro p e s m below meth c0 cx hr hlocks hnm hP hS ls hl
  have cx : fX rn_X cb_X_refusalToBegin 2 p c0 s m [.ref (xa x 0 0), .int (nI c)].toArray x := cx
  have hx := cx.1.1
  have hb := cx.1.2.1
  have hl : lv_has ls 2 [(0, .ref (xa x 0 0)), (1, .int (nI c))] := hl
  obtain ⟨v0, v1, v2, v3, v4, v5, v6, vC, vS, vR⟩ := hL
  obtain ⟨v7, v8, v9⟩ := vC c hc
  refine lv_aload_n (pc := 0) hx hb dd_X_refusalToBegin_0 rfl (lv_at hl 0 rfl) ?_
  refine lv_iload_n (pc := 1) hx hb dd_X_refusalToBegin_1 rfl (lv_at hl 1 rfl) ?_
  refine k_X_X_isClient (pc := 2) cx hl hP hS (by assumption) (ct_X_isClient l x S ⟨v0, v1, v2, v3, v4, v5, v6, vC, vS, vR⟩ (nI c)) ⟨⟨rfl, rfl⟩, ⟨(Nat.le_of_ble_eq_true rfl), (Nat.le_of_ble_eq_true rfl)⟩, (Nat.le_of_ble_eq_true rfl), (Nat.le_of_ble_eq_true rfl)⟩ (Nat.le_of_ble_eq_true rfl) dd_X_refusalToBegin_2 (fun H locs hP hS => ?_)
  refine f_neB (pc := 5) (tgt := 10) cx dd_X_refusalToBegin_5 (by decide) (fun h5 => ?_) (fun h5 => ?_)
  · -- 5: t to 10
    refine lv_aload_n (pc := 10) hx hb dd_X_refusalToBegin_10 rfl (lv_at hl 0 rfl) ?_
    refine g_X_X_clients (pc := 11) cx hP (by assumption) dd_X_refusalToBegin_11 ?_
    refine lv_iload_n (pc := 14) hx hb dd_X_refusalToBegin_14 rfl (lv_at hl 1 rfl) ?_
    refine f_ald3 (pc := 15) cx hP (by assumption) rfl (by omega) dd_X_refusalToBegin_15 ?_
    refine g_X_C_crashed (pc := 16) cx hP (by assumption) dd_X_refusalToBegin_16 ?_
    refine f_eqB (pc := 19) (tgt := 25) cx dd_X_refusalToBegin_19 (by decide) (fun h19 => ?_) (fun h19 => ?_)
    · -- 19: t to 25
      refine lv_aload_n (pc := 25) hx hb dd_X_refusalToBegin_25 rfl (lv_at hl 0 rfl) ?_
      refine g_X_X_clients (pc := 26) cx hP (by assumption) dd_X_refusalToBegin_26 ?_
      refine lv_iload_n (pc := 29) hx hb dd_X_refusalToBegin_29 rfl (lv_at hl 1 rfl) ?_
      refine f_ald3 (pc := 30) cx hP (by assumption) rfl (by omega) dd_X_refusalToBegin_30 ?_
      refine k_X_C_isAtWork (pc := 31) cx hl hP hS (by assumption) (ct_C_isAtWork l x S c v7) ⟨⟨rfl, rfl⟩, ⟨(Nat.le_of_ble_eq_true rfl), (Nat.le_of_ble_eq_true rfl)⟩, (Nat.le_of_ble_eq_true rfl), (Nat.le_of_ble_eq_true rfl)⟩ (Nat.le_of_ble_eq_true rfl) dd_X_refusalToBegin_31 (fun H locs hP hS => ?_)
      refine f_eqB (pc := 34) (tgt := 40) cx dd_X_refusalToBegin_34 (by decide) (fun h34 => ?_) (fun h34 => ?_)
      · -- 34: t to 40
        refine lv_aload_n (pc := 40) hx hb dd_X_refusalToBegin_40 rfl (lv_at hl 0 rfl) ?_
        refine lv_iload_n (pc := 41) hx hb dd_X_refusalToBegin_41 rfl (lv_at hl 1 rfl) ?_
        refine k_X_X_isCrowded (pc := 42) cx hl hP hS (by assumption) (ct_X_isCrowded l x S ⟨v0, v1, v2, v3, v4, v5, v6, vC, vS, vR⟩ c hc hO hI) ⟨⟨rfl, rfl⟩, ⟨(Nat.le_of_ble_eq_true rfl), (Nat.le_of_ble_eq_true rfl)⟩, (Nat.le_of_ble_eq_true rfl), (Nat.le_of_ble_eq_true rfl)⟩ (Nat.le_of_ble_eq_true rfl) dd_X_refusalToBegin_42 (fun H locs hP hS => ?_)
        refine f_eqB (pc := 45) (tgt := 53) cx dd_X_refusalToBegin_45 (by decide) (fun h45 => ?_) (fun h45 => ?_)
        · -- 45: t to 53
          refine lv_iconst (pc := 53) (v := 0) hx hb dd_X_refusalToBegin_53 (by decide) ?_
          exact f_iret (pc := 54) cx hr hlocks hP hS (by simp [q_refuse, *]) rfl dd_X_refusalToBegin_54
        · -- 45: f to 48
          refine lv_bipush (pc := 48) (v := (-4)) hx hb dd_X_refusalToBegin_48 (by decide) ?_
          refine lv_goto (pc := 50) (tgt := 54) hx hb dd_X_refusalToBegin_50 (by decide) ?_
          exact f_iret (pc := 54) cx hr hlocks hP hS (by simp [q_refuse, *]) rfl dd_X_refusalToBegin_54
      · -- 34: f to 37
        refine lv_bipush (pc := 37) (v := (-3)) hx hb dd_X_refusalToBegin_37 (by decide) ?_
        exact f_iret (pc := 39) cx hr hlocks hP hS (by simp [q_refuse, *]) rfl dd_X_refusalToBegin_39
    · -- 19: f to 22
      refine lv_bipush (pc := 22) (v := (-2)) hx hb dd_X_refusalToBegin_22 (by decide) ?_
      exact f_iret (pc := 24) cx hr hlocks hP hS (by simp [q_refuse, *]) rfl dd_X_refusalToBegin_24
  · -- 5: f to 8
    exact absurd (h5.symm.trans (q_cl_in hc)) (by decide)
set_option maxHeartbeats 4000000 in
set_option maxRecDepth 100000 in
theorem ct_X_write_no (l : Launch) (x : fy) (S : fm) (hL : fL x) (z : Int32) (w : Int64) (hz : q_cl z = false) : Met l mn_X_write (gw_ws mn_X_write cb_X_write 5 (some .int)) ({ frames := 4, cells := 7, slots := 42, locals := 98 } : Room) (fPc x (S) [.ref (xa x 0 0), .int z, .long w]) (fQi x (S) (-1)) 7 42 (fun q => xs x ≤ q) := by
  refine f_met (by decide) (Nat.le_of_ble_eq_true rfl) ?_
  intro p e s m below meth c0 cx hr hlocks hnm hP hS ls hl
  have cx : fX rn_X cb_X_write 5 p c0 s m [.ref (xa x 0 0), .int z, .long w].toArray x := cx
  have hx := cx.1.1
  have hb := cx.1.2.1
  have hl : lv_has ls 5 [(0, .ref (xa x 0 0)), (1, .int z), (2, .long w)] := hl
  obtain ⟨v0, v1, v2, v3, v4, v5, v6, vC, vS, vR⟩ := hL
  refine lv_aload_n (pc := 0) hx hb dd_X_write_0 rfl (lv_at hl 0 rfl) ?_
  refine lv_iload_n (pc := 1) hx hb dd_X_write_1 rfl (lv_at hl 1 rfl) ?_
  refine k_X_X_refusalToBegin (pc := 2) cx hl hP hS (by assumption) (ct_X_refusal_no l x S ⟨v0, v1, v2, v3, v4, v5, v6, vC, vS, vR⟩ z hz) ⟨⟨rfl, rfl⟩, ⟨(Nat.le_of_ble_eq_true rfl), (Nat.le_of_ble_eq_true rfl)⟩, (Nat.le_of_ble_eq_true rfl), (Nat.le_of_ble_eq_true rfl)⟩ (Nat.le_of_ble_eq_true rfl) dd_X_write_2 (fun H locs hP hS => ?_)
  refine lv_istore (pc := 5) (lv' := [(4, _), (0, _), (1, _), (2, _)]) hx hb dd_X_write_5 hl (Nat.le_of_ble_eq_true rfl) rfl (fun ls hl => ?_)
  refine lv_iload (pc := 7) hx hb dd_X_write_7 (lv_at hl 0 rfl) ?_
  refine lv_if_eq (pc := 9) (tgt := 15) hx hb dd_X_write_9 (by decide) (fun h9 => ?_) (fun h9 => ?_)
  · -- 9: t to 15
    exact absurd h9 (by decide)
  · -- 9: f to 12
    refine lv_iload (pc := 12) hx hb dd_X_write_12 (lv_at hl 0 rfl) ?_
    refine W.widen (k := 7) (n := 42) (Nat.le_of_ble_eq_true rfl) (Nat.le_of_ble_eq_true rfl) ?_
    exact f_iret (pc := 14) cx hr hlocks hP hS rfl rfl dd_X_write_14
set_option maxHeartbeats 4000000 in
set_option maxRecDepth 100000 in
theorem ct_X_write (l : Launch) (x : fy) (S : fm) (hL : fL x) (c : Nat) (w : Int64) (hc : c < 5) (hO : fO x) (hI : fI x S) : Met l mn_X_write (gw_ws mn_X_write cb_X_write 5 (some .int)) ({ frames := 4, cells := 7, slots := 42, locals := 98 } : Room) (fPc x (S) [.ref (xa x 0 0), .int (nI c), .long w]) (fQi x (e_write x S c w) (q_refuse x S c)) 7 42 (fun q => xs x ≤ q) := by
  refine f_met (by decide) (Nat.le_of_ble_eq_true rfl) ?_
  intro p e s m below meth c0 cx hr hlocks hnm hP hS ls hl
  have cx : fX rn_X cb_X_write 5 p c0 s m [.ref (xa x 0 0), .int (nI c), .long w].toArray x := cx
  have hx := cx.1.1
  have hb := cx.1.2.1
  have hl : lv_has ls 5 [(0, .ref (xa x 0 0)), (1, .int (nI c)), (2, .long w)] := hl
  obtain ⟨v0, v1, v2, v3, v4, v5, v6, vC, vS, vR⟩ := hL
  obtain ⟨v7, v8, v9⟩ := vC c hc
  refine lv_aload_n (pc := 0) hx hb dd_X_write_0 rfl (lv_at hl 0 rfl) ?_
  refine lv_iload_n (pc := 1) hx hb dd_X_write_1 rfl (lv_at hl 1 rfl) ?_
  refine k_X_X_refusalToBegin (pc := 2) cx hl hP hS (by assumption) (ct_X_refusal l x S ⟨v0, v1, v2, v3, v4, v5, v6, vC, vS, vR⟩ c hc hO hI) ⟨⟨rfl, rfl⟩, ⟨(Nat.le_of_ble_eq_true rfl), (Nat.le_of_ble_eq_true rfl)⟩, (Nat.le_of_ble_eq_true rfl), (Nat.le_of_ble_eq_true rfl)⟩ (Nat.le_of_ble_eq_true rfl) dd_X_write_2 (fun H locs hP hS => ?_)
  refine lv_istore (pc := 5) (lv' := [(4, _), (0, _), (1, _), (2, _)]) hx hb dd_X_write_5 hl (Nat.le_of_ble_eq_true rfl) rfl (fun ls hl => ?_)
  refine lv_iload (pc := 7) hx hb dd_X_write_7 (lv_at hl 0 rfl) ?_
  refine lv_if_eq (pc := 9) (tgt := 15) hx hb dd_X_write_9 (by decide) (fun h9 => ?_) (fun h9 => ?_)
  · -- 9: t to 15
    refine lv_aload_n (pc := 15) hx hb dd_X_write_15 rfl (lv_at hl 1 rfl) ?_
    refine g_X_X_clients (pc := 16) cx hP (by assumption) dd_X_write_16 ?_
    refine lv_iload_n (pc := 19) hx hb dd_X_write_19 rfl (lv_at hl 2 rfl) ?_
    refine f_ald3 (pc := 20) cx hP (by assumption) rfl (by omega) dd_X_write_20 ?_
    refine lv_lload_n (pc := 21) hx hb dd_X_write_21 rfl (lv_at hl 3 rfl) ?_
    refine p_X_C_block (pc := 22) cx hP hS (by assumption) dd_X_write_22 (fun H locs hP hS => ?_)
    refine lv_aload_n (pc := 25) hx hb dd_X_write_25 rfl (lv_at hl 1 rfl) ?_
    refine lv_aload_n (pc := 26) hx hb dd_X_write_26 rfl (lv_at hl 1 rfl) ?_
    refine g_X_X_clients (pc := 27) cx hP (by assumption) dd_X_write_27 ?_
    refine lv_iload_n (pc := 30) hx hb dd_X_write_30 rfl (lv_at hl 2 rfl) ?_
    refine f_ald3 (pc := 31) cx hP (by assumption) rfl (by omega) dd_X_write_31 ?_
    refine lv_iconst (pc := 32) (v := 1) hx hb dd_X_write_32 (by decide) ?_
    refine k_X_X_beginPhase (pc := 33) cx hl hP hS (by assumption) (ct_X_beginPhase l x _ ⟨v0, v1, v2, v3, v4, v5, v6, vC, vS, vR⟩ c _ hc hO hI.1) ⟨⟨rfl, rfl⟩, ⟨(Nat.le_of_ble_eq_true rfl), (Nat.le_of_ble_eq_true rfl)⟩, (Nat.le_of_ble_eq_true rfl), (Nat.le_of_ble_eq_true rfl)⟩ (Nat.le_of_ble_eq_true rfl) dd_X_write_33 (fun H locs hP hS => ?_)
    refine lv_iconst (pc := 36) (v := 0) hx hb dd_X_write_36 (by decide) ?_
    refine W.widen (k := 7) (n := 42) (Nat.le_of_ble_eq_true rfl) (Nat.le_of_ble_eq_true rfl) ?_
    exact f_iret (pc := 37) cx hr hlocks hP hS (by first | rfl | exact h9.symm) (by simp [e_write, h9]) dd_X_write_37
  · -- 9: f to 12
    refine lv_iload (pc := 12) hx hb dd_X_write_12 (lv_at hl 0 rfl) ?_
    refine W.widen (k := 7) (n := 42) (Nat.le_of_ble_eq_true rfl) (Nat.le_of_ble_eq_true rfl) ?_
    exact f_iret (pc := 14) cx hr hlocks hP hS (by first | rfl | exact h9.symm) (by simp [e_write, h9]) dd_X_write_14
set_option maxHeartbeats 4000000 in
set_option maxRecDepth 100000 in
theorem ct_X_read_no (l : Launch) (x : fy) (S : fm) (hL : fL x) (z : Int32) (hz : q_cl z = false) : Met l mn_X_read (gw_ws mn_X_read cb_X_read 3 (some .int)) ({ frames := 4, cells := 7, slots := 42, locals := 98 } : Room) (fPc x (S) [.ref (xa x 0 0), .int z]) (fQi x (S) (-1)) 7 42 (fun q => xs x ≤ q) := by
  refine f_met (by decide) (Nat.le_of_ble_eq_true rfl) ?_
  intro p e s m below meth c0 cx hr hlocks hnm hP hS ls hl
  have cx : fX rn_X cb_X_read 3 p c0 s m [.ref (xa x 0 0), .int z].toArray x := cx
  have hx := cx.1.1
  have hb := cx.1.2.1
  have hl : lv_has ls 3 [(0, .ref (xa x 0 0)), (1, .int z)] := hl
  obtain ⟨v0, v1, v2, v3, v4, v5, v6, vC, vS, vR⟩ := hL
  refine lv_aload_n (pc := 0) hx hb dd_X_read_0 rfl (lv_at hl 0 rfl) ?_
  refine lv_iload_n (pc := 1) hx hb dd_X_read_1 rfl (lv_at hl 1 rfl) ?_
  refine k_X_X_refusalToBegin (pc := 2) cx hl hP hS (by assumption) (ct_X_refusal_no l x S ⟨v0, v1, v2, v3, v4, v5, v6, vC, vS, vR⟩ z hz) ⟨⟨rfl, rfl⟩, ⟨(Nat.le_of_ble_eq_true rfl), (Nat.le_of_ble_eq_true rfl)⟩, (Nat.le_of_ble_eq_true rfl), (Nat.le_of_ble_eq_true rfl)⟩ (Nat.le_of_ble_eq_true rfl) dd_X_read_2 (fun H locs hP hS => ?_)
  refine lv_istore_n (pc := 5) (lv' := [(2, _), (0, _), (1, _)]) hx hb dd_X_read_5 rfl hl (Nat.le_of_ble_eq_true rfl) rfl (fun ls hl => ?_)
  refine lv_iload_n (pc := 6) hx hb dd_X_read_6 rfl (lv_at hl 0 rfl) ?_
  refine lv_if_eq (pc := 7) (tgt := 12) hx hb dd_X_read_7 (by decide) (fun h7 => ?_) (fun h7 => ?_)
  · -- 7: t to 12
    exact absurd h7 (by decide)
  · -- 7: f to 10
    refine lv_iload_n (pc := 10) hx hb dd_X_read_10 rfl (lv_at hl 0 rfl) ?_
    refine W.widen (k := 7) (n := 42) (Nat.le_of_ble_eq_true rfl) (Nat.le_of_ble_eq_true rfl) ?_
    exact f_iret (pc := 11) cx hr hlocks hP hS rfl rfl dd_X_read_11
set_option maxHeartbeats 4000000 in
set_option maxRecDepth 100000 in
theorem ct_X_read (l : Launch) (x : fy) (S : fm) (hL : fL x) (c : Nat) (hc : c < 5) (hO : fO x) (hI : fI x S) : Met l mn_X_read (gw_ws mn_X_read cb_X_read 3 (some .int)) ({ frames := 4, cells := 7, slots := 42, locals := 98 } : Room) (fPc x (S) [.ref (xa x 0 0), .int (nI c)]) (fQi x (e_read x S c) (q_refuse x S c)) 7 42 (fun q => xs x ≤ q) := by
  refine f_met (by decide) (Nat.le_of_ble_eq_true rfl) ?_
  intro p e s m below meth c0 cx hr hlocks hnm hP hS ls hl
  have cx : fX rn_X cb_X_read 3 p c0 s m [.ref (xa x 0 0), .int (nI c)].toArray x := cx
  have hx := cx.1.1
  have hb := cx.1.2.1
  have hl : lv_has ls 3 [(0, .ref (xa x 0 0)), (1, .int (nI c))] := hl
  obtain ⟨v0, v1, v2, v3, v4, v5, v6, vC, vS, vR⟩ := hL
  obtain ⟨v7, v8, v9⟩ := vC c hc
  refine lv_aload_n (pc := 0) hx hb dd_X_read_0 rfl (lv_at hl 0 rfl) ?_
  refine lv_iload_n (pc := 1) hx hb dd_X_read_1 rfl (lv_at hl 1 rfl) ?_
  refine k_X_X_refusalToBegin (pc := 2) cx hl hP hS (by assumption) (ct_X_refusal l x S ⟨v0, v1, v2, v3, v4, v5, v6, vC, vS, vR⟩ c hc hO hI) ⟨⟨rfl, rfl⟩, ⟨(Nat.le_of_ble_eq_true rfl), (Nat.le_of_ble_eq_true rfl)⟩, (Nat.le_of_ble_eq_true rfl), (Nat.le_of_ble_eq_true rfl)⟩ (Nat.le_of_ble_eq_true rfl) dd_X_read_2 (fun H locs hP hS => ?_)
  refine lv_istore_n (pc := 5) (lv' := [(2, _), (0, _), (1, _)]) hx hb dd_X_read_5 rfl hl (Nat.le_of_ble_eq_true rfl) rfl (fun ls hl => ?_)
  refine lv_iload_n (pc := 6) hx hb dd_X_read_6 rfl (lv_at hl 0 rfl) ?_
  refine lv_if_eq (pc := 7) (tgt := 12) hx hb dd_X_read_7 (by decide) (fun h7 => ?_) (fun h7 => ?_)
  · -- 7: t to 12
    refine lv_aload_n (pc := 12) hx hb dd_X_read_12 rfl (lv_at hl 1 rfl) ?_
    refine lv_aload_n (pc := 13) hx hb dd_X_read_13 rfl (lv_at hl 1 rfl) ?_
    refine g_X_X_clients (pc := 14) cx hP (by assumption) dd_X_read_14 ?_
    refine lv_iload_n (pc := 17) hx hb dd_X_read_17 rfl (lv_at hl 2 rfl) ?_
    refine f_ald3 (pc := 18) cx hP (by assumption) rfl (by omega) dd_X_read_18 ?_
    refine lv_iconst (pc := 19) (v := 4) hx hb dd_X_read_19 (by decide) ?_
    refine k_X_X_beginPhase (pc := 20) cx hl hP hS (by assumption) (ct_X_beginPhase l x _ ⟨v0, v1, v2, v3, v4, v5, v6, vC, vS, vR⟩ c _ hc hO hI.1) ⟨⟨rfl, rfl⟩, ⟨(Nat.le_of_ble_eq_true rfl), (Nat.le_of_ble_eq_true rfl)⟩, (Nat.le_of_ble_eq_true rfl), (Nat.le_of_ble_eq_true rfl)⟩ (Nat.le_of_ble_eq_true rfl) dd_X_read_20 (fun H locs hP hS => ?_)
    refine lv_iconst (pc := 23) (v := 0) hx hb dd_X_read_23 (by decide) ?_
    refine W.widen (k := 7) (n := 42) (Nat.le_of_ble_eq_true rfl) (Nat.le_of_ble_eq_true rfl) ?_
    exact f_iret (pc := 24) cx hr hlocks hP hS (by first | rfl | exact h7.symm) (by simp [e_read, h7]) dd_X_read_24
  · -- 7: f to 10
    refine lv_iload_n (pc := 10) hx hb dd_X_read_10 rfl (lv_at hl 0 rfl) ?_
    refine W.widen (k := 7) (n := 42) (Nat.le_of_ble_eq_true rfl) (Nat.le_of_ble_eq_true rfl) ?_
    exact f_iret (pc := 11) cx hr hlocks hP hS (by first | rfl | exact h7.symm) (by simp [e_read, h7]) dd_X_read_11
set_option maxHeartbeats 4000000 in
set_option maxRecDepth 100000 in
theorem ct_X_again_no (l : Launch) (x : fy) (S : fm) (hL : fL x) (z : Int32) (hz : q_cl z = false) : Met l mn_X_again (gw_ws mn_X_again cb_X_again 3 (some .int)) ({ frames := 4, cells := 7, slots := 42, locals := 98 } : Room) (fPc x (S) [.ref (xa x 0 0), .int z]) (fQi x (S) (-1)) 7 42 (fun q => xs x ≤ q) := by
  refine f_met (by decide) (Nat.le_of_ble_eq_true rfl) ?_
  intro p e s m below meth c0 cx hr hlocks hnm hP hS ls hl
  have cx : fX rn_X cb_X_again 3 p c0 s m [.ref (xa x 0 0), .int z].toArray x := cx
  have hx := cx.1.1
  have hb := cx.1.2.1
  have hl : lv_has ls 3 [(0, .ref (xa x 0 0)), (1, .int z)] := hl
  obtain ⟨v0, v1, v2, v3, v4, v5, v6, vC, vS, vR⟩ := hL
  refine lv_aload_n (pc := 0) hx hb dd_X_again_0 rfl (lv_at hl 0 rfl) ?_
  refine lv_iload_n (pc := 1) hx hb dd_X_again_1 rfl (lv_at hl 1 rfl) ?_
  refine k_X_X_isClient (pc := 2) cx hl hP hS (by assumption) (ct_X_isClient l x S ⟨v0, v1, v2, v3, v4, v5, v6, vC, vS, vR⟩ z) ⟨⟨rfl, rfl⟩, ⟨(Nat.le_of_ble_eq_true rfl), (Nat.le_of_ble_eq_true rfl)⟩, (Nat.le_of_ble_eq_true rfl), (Nat.le_of_ble_eq_true rfl)⟩ (Nat.le_of_ble_eq_true rfl) dd_X_again_2 (fun H locs hP hS => ?_)
  refine f_neB (pc := 5) (tgt := 10) cx dd_X_again_5 (by decide) (fun h5 => ?_) (fun h5 => ?_)
  · -- 5: t to 10
    exact absurd (hz.symm.trans h5) (by decide)
  · -- 5: f to 8
    refine lv_iconst (pc := 8) (v := (-1)) hx hb dd_X_again_8 (by decide) ?_
    refine W.widen (k := 7) (n := 42) (Nat.le_of_ble_eq_true rfl) (Nat.le_of_ble_eq_true rfl) ?_
    exact f_iret (pc := 9) cx hr hlocks hP hS rfl rfl dd_X_again_9
set_option maxHeartbeats 4000000 in
set_option maxRecDepth 100000 in
theorem ct_X_again (l : Launch) (x : fy) (S : fm) (hL : fL x) (c : Nat) (hc : c < 5) (hO : fO x) (hI : fI x S) : Met l mn_X_again (gw_ws mn_X_again cb_X_again 3 (some .int)) ({ frames := 4, cells := 7, slots := 42, locals := 98 } : Room) (fPc x (S) [.ref (xa x 0 0), .int (nI c)]) (fQi x (e_again x S c) (q_again x S c)) 7 42 (fun q => xs x ≤ q) := by
  refine f_met (by decide) (Nat.le_of_ble_eq_true rfl) ?_
  intro p e s m below meth c0 cx hr hlocks hnm hP hS ls hl
  have cx : fX rn_X cb_X_again 3 p c0 s m [.ref (xa x 0 0), .int (nI c)].toArray x := cx
  have hx := cx.1.1
  have hb := cx.1.2.1
  have hl : lv_has ls 3 [(0, .ref (xa x 0 0)), (1, .int (nI c))] := hl
  obtain ⟨v0, v1, v2, v3, v4, v5, v6, vC, vS, vR⟩ := hL
  obtain ⟨v7, v8, v9⟩ := vC c hc
  refine lv_aload_n (pc := 0) hx hb dd_X_again_0 rfl (lv_at hl 0 rfl) ?_
  refine lv_iload_n (pc := 1) hx hb dd_X_again_1 rfl (lv_at hl 1 rfl) ?_
  refine k_X_X_isClient (pc := 2) cx hl hP hS (by assumption) (ct_X_isClient l x S ⟨v0, v1, v2, v3, v4, v5, v6, vC, vS, vR⟩ (nI c)) ⟨⟨rfl, rfl⟩, ⟨(Nat.le_of_ble_eq_true rfl), (Nat.le_of_ble_eq_true rfl)⟩, (Nat.le_of_ble_eq_true rfl), (Nat.le_of_ble_eq_true rfl)⟩ (Nat.le_of_ble_eq_true rfl) dd_X_again_2 (fun H locs hP hS => ?_)
  refine f_neB (pc := 5) (tgt := 10) cx dd_X_again_5 (by decide) (fun h5 => ?_) (fun h5 => ?_)
  · -- 5: t to 10
    refine lv_aload_n (pc := 10) hx hb dd_X_again_10 rfl (lv_at hl 0 rfl) ?_
    refine g_X_X_clients (pc := 11) cx hP (by assumption) dd_X_again_11 ?_
    refine lv_iload_n (pc := 14) hx hb dd_X_again_14 rfl (lv_at hl 1 rfl) ?_
    refine f_ald3 (pc := 15) cx hP (by assumption) rfl (by omega) dd_X_again_15 ?_
    refine lv_astore_n (pc := 16) (lv' := [(2, _), (0, _), (1, _)]) hx hb dd_X_again_16 rfl hl (Nat.le_of_ble_eq_true rfl) rfl (fun ls hl => ?_)
    refine lv_aload_n (pc := 17) hx hb dd_X_again_17 rfl (lv_at hl 0 rfl) ?_
    refine g_X_C_crashed (pc := 18) cx hP (by assumption) dd_X_again_18 ?_
    refine f_eqB (pc := 21) (tgt := 27) cx dd_X_again_21 (by decide) (fun h21 => ?_) (fun h21 => ?_)
    · -- 21: t to 27
      refine lv_aload_n (pc := 27) hx hb dd_X_again_27 rfl (lv_at hl 0 rfl) ?_
      refine g_X_C_phase (pc := 28) cx hP (by assumption) dd_X_again_28 ?_
      refine lv_iconst (pc := 31) (v := 5) hx hb dd_X_again_31 (by decide) ?_
      refine lv_icmp_ne (pc := 32) (tgt := 46) hx hb dd_X_again_32 (by decide) (fun h32 => ?_) (fun h32 => ?_)
      · -- 32: t to 46
        refine lv_bipush (pc := 46) (v := (-3)) hx hb dd_X_again_46 (by decide) ?_
        refine W.widen (k := 7) (n := 42) (Nat.le_of_ble_eq_true rfl) (Nat.le_of_ble_eq_true rfl) ?_
        exact f_iret (pc := 48) cx hr hlocks hP hS (by simp [q_again, *] <;> simp_all) (by simp [e_again, q_again, *] <;> simp_all) dd_X_again_48
      · -- 32: f to 35
        refine lv_aload_n (pc := 35) hx hb dd_X_again_35 rfl (lv_at hl 0 rfl) ?_
        refine g_X_C_heard (pc := 36) cx hP (by assumption) dd_X_again_36 ?_
        refine lv_aload_n (pc := 39) hx hb dd_X_again_39 rfl (lv_at hl 1 rfl) ?_
        refine g_X_X_quorumSize (pc := 40) cx hP (by assumption) dd_X_again_40 ?_
        refine lv_icmp_ge (pc := 43) (tgt := 49) hx hb dd_X_again_43 (by decide) (fun h43 => ?_) (fun h43 => ?_)
        · -- 43: t to 49
          have h43b : ¬ mI S 7 c 7 < nI (xQ x) := Int32.not_lt.mpr h43
          refine lv_aload_n (pc := 49) hx hb dd_X_again_49 rfl (lv_at hl 1 rfl) ?_
          refine lv_iload_n (pc := 50) hx hb dd_X_again_50 rfl (lv_at hl 2 rfl) ?_
          refine k_X_X_isCrowded (pc := 51) cx hl hP hS (by assumption) (ct_X_isCrowded l x S ⟨v0, v1, v2, v3, v4, v5, v6, vC, vS, vR⟩ c hc hO hI) ⟨⟨rfl, rfl⟩, ⟨(Nat.le_of_ble_eq_true rfl), (Nat.le_of_ble_eq_true rfl)⟩, (Nat.le_of_ble_eq_true rfl), (Nat.le_of_ble_eq_true rfl)⟩ (Nat.le_of_ble_eq_true rfl) dd_X_again_51 (fun H locs hP hS => ?_)
          refine f_eqB (pc := 54) (tgt := 60) cx dd_X_again_54 (by decide) (fun h54 => ?_) (fun h54 => ?_)
          · -- 54: t to 60
            refine lv_aload_n (pc := 60) hx hb dd_X_again_60 rfl (lv_at hl 1 rfl) ?_
            refine lv_aload_n (pc := 61) hx hb dd_X_again_61 rfl (lv_at hl 0 rfl) ?_
            refine lv_iconst (pc := 62) (v := 4) hx hb dd_X_again_62 (by decide) ?_
            refine k_X_X_beginPhase (pc := 63) cx hl hP hS (by assumption) (ct_X_beginPhase l x _ ⟨v0, v1, v2, v3, v4, v5, v6, vC, vS, vR⟩ c _ hc hO hI.1) ⟨⟨rfl, rfl⟩, ⟨(Nat.le_of_ble_eq_true rfl), (Nat.le_of_ble_eq_true rfl)⟩, (Nat.le_of_ble_eq_true rfl), (Nat.le_of_ble_eq_true rfl)⟩ (Nat.le_of_ble_eq_true rfl) dd_X_again_63 (fun H locs hP hS => ?_)
            refine lv_iconst (pc := 66) (v := 0) hx hb dd_X_again_66 (by decide) ?_
            refine W.widen (k := 7) (n := 42) (Nat.le_of_ble_eq_true rfl) (Nat.le_of_ble_eq_true rfl) ?_
            exact f_iret (pc := 67) cx hr hlocks hP hS (by simp [q_again, *] <;> simp_all) (by simp [e_again, q_again, *] <;> simp_all) dd_X_again_67
          · -- 54: f to 57
            refine lv_bipush (pc := 57) (v := (-4)) hx hb dd_X_again_57 (by decide) ?_
            refine W.widen (k := 7) (n := 42) (Nat.le_of_ble_eq_true rfl) (Nat.le_of_ble_eq_true rfl) ?_
            exact f_iret (pc := 59) cx hr hlocks hP hS (by simp [q_again, *] <;> simp_all) (by simp [e_again, q_again, *] <;> simp_all) dd_X_again_59
        · -- 43: f to 46
          have h43b : mI S 7 c 7 < nI (xQ x) := Int32.not_le.mp h43
          refine lv_bipush (pc := 46) (v := (-3)) hx hb dd_X_again_46 (by decide) ?_
          refine W.widen (k := 7) (n := 42) (Nat.le_of_ble_eq_true rfl) (Nat.le_of_ble_eq_true rfl) ?_
          exact f_iret (pc := 48) cx hr hlocks hP hS (by simp [q_again, *] <;> simp_all) (by simp [e_again, q_again, *] <;> simp_all) dd_X_again_48
    · -- 21: f to 24
      refine lv_bipush (pc := 24) (v := (-2)) hx hb dd_X_again_24 (by decide) ?_
      refine W.widen (k := 7) (n := 42) (Nat.le_of_ble_eq_true rfl) (Nat.le_of_ble_eq_true rfl) ?_
      exact f_iret (pc := 26) cx hr hlocks hP hS (by simp [q_again, *] <;> simp_all) (by simp [e_again, q_again, *] <;> simp_all) dd_X_again_26
  · -- 5: f to 8
    exact absurd (h5.symm.trans (q_cl_in hc)) (by decide)
set_option maxHeartbeats 4000000 in
set_option maxRecDepth 100000 in
theorem ct_X_phase_no (l : Launch) (x : fy) (S : fm) (hL : fL x) (z : Int32) (hz : q_cl z = false) : Met l mn_X_phase (gw_ws mn_X_phase cb_X_phase 2 (some .int)) ({ frames := 1, cells := 0, slots := 0, locals := 21 } : Room) (fPc x (S) [.ref (xa x 0 0), .int z]) (fQi x (S) (-1)) 0 0 (fun q => xs x ≤ q) := by
  refine f_met (by decide) (Nat.le_of_ble_eq_true rfl) ?_
  intro p e s m below meth c0 cx hr hlocks hnm hP hS ls hl
  have cx : fX rn_X cb_X_phase 2 p c0 s m [.ref (xa x 0 0), .int z].toArray x := cx
  have hx := cx.1.1
  have hb := cx.1.2.1
  have hl : lv_has ls 2 [(0, .ref (xa x 0 0)), (1, .int z)] := hl
  obtain ⟨v0, v1, v2, v3, v4, v5, v6, vC, vS, vR⟩ := hL
  refine lv_aload_n (pc := 0) hx hb dd_X_phase_0 rfl (lv_at hl 0 rfl) ?_
  refine lv_iload_n (pc := 1) hx hb dd_X_phase_1 rfl (lv_at hl 1 rfl) ?_
  refine k_X_X_isClient (pc := 2) cx hl hP hS (by assumption) (ct_X_isClient l x S ⟨v0, v1, v2, v3, v4, v5, v6, vC, vS, vR⟩ z) ⟨⟨rfl, rfl⟩, ⟨(Nat.le_of_ble_eq_true rfl), (Nat.le_of_ble_eq_true rfl)⟩, (Nat.le_of_ble_eq_true rfl), (Nat.le_of_ble_eq_true rfl)⟩ (Nat.le_of_ble_eq_true rfl) dd_X_phase_2 (fun H locs hP hS => ?_)
  refine f_neB (pc := 5) (tgt := 10) cx dd_X_phase_5 (by decide) (fun h5 => ?_) (fun h5 => ?_)
  · -- 5: t to 10
    exact absurd (hz.symm.trans h5) (by decide)
  · -- 5: f to 8
    refine lv_iconst (pc := 8) (v := (-1)) hx hb dd_X_phase_8 (by decide) ?_
    exact f_iret (pc := 9) cx hr hlocks hP hS rfl rfl dd_X_phase_9
set_option maxHeartbeats 4000000 in
set_option maxRecDepth 100000 in
theorem ct_X_phase (l : Launch) (x : fy) (S : fm) (hL : fL x) (c : Nat) (hc : c < 5) : Met l mn_X_phase (gw_ws mn_X_phase cb_X_phase 2 (some .int)) ({ frames := 1, cells := 0, slots := 0, locals := 21 } : Room) (fPc x (S) [.ref (xa x 0 0), .int (nI c)]) (fQi x (S) (if mB S 7 c 4 = true then 6 else mI S 7 c 5)) 0 0 (fun q => xs x ≤ q) := by
  refine f_met (by decide) (Nat.le_of_ble_eq_true rfl) ?_
  intro p e s m below meth c0 cx hr hlocks hnm hP hS ls hl
  have cx : fX rn_X cb_X_phase 2 p c0 s m [.ref (xa x 0 0), .int (nI c)].toArray x := cx
  have hx := cx.1.1
  have hb := cx.1.2.1
  have hl : lv_has ls 2 [(0, .ref (xa x 0 0)), (1, .int (nI c))] := hl
  obtain ⟨v0, v1, v2, v3, v4, v5, v6, vC, vS, vR⟩ := hL
  obtain ⟨v7, v8, v9⟩ := vC c hc
  refine lv_aload_n (pc := 0) hx hb dd_X_phase_0 rfl (lv_at hl 0 rfl) ?_
  refine lv_iload_n (pc := 1) hx hb dd_X_phase_1 rfl (lv_at hl 1 rfl) ?_
  refine k_X_X_isClient (pc := 2) cx hl hP hS (by assumption) (ct_X_isClient l x S ⟨v0, v1, v2, v3, v4, v5, v6, vC, vS, vR⟩ (nI c)) ⟨⟨rfl, rfl⟩, ⟨(Nat.le_of_ble_eq_true rfl), (Nat.le_of_ble_eq_true rfl)⟩, (Nat.le_of_ble_eq_true rfl), (Nat.le_of_ble_eq_true rfl)⟩ (Nat.le_of_ble_eq_true rfl) dd_X_phase_2 (fun H locs hP hS => ?_)
  refine f_neB (pc := 5) (tgt := 10) cx dd_X_phase_5 (by decide) (fun h5 => ?_) (fun h5 => ?_)
  · -- 5: t to 10
    refine lv_aload_n (pc := 10) hx hb dd_X_phase_10 rfl (lv_at hl 0 rfl) ?_
    refine g_X_X_clients (pc := 11) cx hP (by assumption) dd_X_phase_11 ?_
    refine lv_iload_n (pc := 14) hx hb dd_X_phase_14 rfl (lv_at hl 1 rfl) ?_
    refine f_ald3 (pc := 15) cx hP (by assumption) rfl (by omega) dd_X_phase_15 ?_
    refine g_X_C_crashed (pc := 16) cx hP (by assumption) dd_X_phase_16 ?_
    refine f_eqB (pc := 19) (tgt := 27) cx dd_X_phase_19 (by decide) (fun h19 => ?_) (fun h19 => ?_)
    · -- 19: t to 27
      refine lv_aload_n (pc := 27) hx hb dd_X_phase_27 rfl (lv_at hl 0 rfl) ?_
      refine g_X_X_clients (pc := 28) cx hP (by assumption) dd_X_phase_28 ?_
      refine lv_iload_n (pc := 31) hx hb dd_X_phase_31 rfl (lv_at hl 1 rfl) ?_
      refine f_ald3 (pc := 32) cx hP (by assumption) rfl (by omega) dd_X_phase_32 ?_
      refine g_X_C_phase (pc := 33) cx hP (by assumption) dd_X_phase_33 ?_
      exact f_iret (pc := 36) cx hr hlocks hP hS (by simp [*]) rfl dd_X_phase_36
    · -- 19: f to 22
      refine lv_bipush (pc := 22) (v := 6) hx hb dd_X_phase_22 (by decide) ?_
      refine lv_goto (pc := 24) (tgt := 36) hx hb dd_X_phase_24 (by decide) ?_
      exact f_iret (pc := 36) cx hr hlocks hP hS (by simp [*]) rfl dd_X_phase_36
  · -- 5: f to 8
    exact absurd (h5.symm.trans (q_cl_in hc)) (by decide)
set_option maxHeartbeats 4000000 in
set_option maxRecDepth 100000 in
theorem ct_X_heard_no (l : Launch) (x : fy) (S : fm) (hL : fL x) (z : Int32) (hz : q_cl z = false) : Met l mn_X_heard (gw_ws mn_X_heard cb_X_heard 2 (some .int)) ({ frames := 1, cells := 0, slots := 0, locals := 21 } : Room) (fPc x (S) [.ref (xa x 0 0), .int z]) (fQi x (S) (-1)) 0 0 (fun q => xs x ≤ q) := by
  refine f_met (by decide) (Nat.le_of_ble_eq_true rfl) ?_
  intro p e s m below meth c0 cx hr hlocks hnm hP hS ls hl
  have cx : fX rn_X cb_X_heard 2 p c0 s m [.ref (xa x 0 0), .int z].toArray x := cx
  have hx := cx.1.1
  have hb := cx.1.2.1
  have hl : lv_has ls 2 [(0, .ref (xa x 0 0)), (1, .int z)] := hl
  obtain ⟨v0, v1, v2, v3, v4, v5, v6, vC, vS, vR⟩ := hL
  refine lv_aload_n (pc := 0) hx hb dd_X_heard_0 rfl (lv_at hl 0 rfl) ?_
  refine lv_iload_n (pc := 1) hx hb dd_X_heard_1 rfl (lv_at hl 1 rfl) ?_
  refine k_X_X_isClient (pc := 2) cx hl hP hS (by assumption) (ct_X_isClient l x S ⟨v0, v1, v2, v3, v4, v5, v6, vC, vS, vR⟩ z) ⟨⟨rfl, rfl⟩, ⟨(Nat.le_of_ble_eq_true rfl), (Nat.le_of_ble_eq_true rfl)⟩, (Nat.le_of_ble_eq_true rfl), (Nat.le_of_ble_eq_true rfl)⟩ (Nat.le_of_ble_eq_true rfl) dd_X_heard_2 (fun H locs hP hS => ?_)
  refine f_neB (pc := 5) (tgt := 10) cx dd_X_heard_5 (by decide) (fun h5 => ?_) (fun h5 => ?_)
  · -- 5: t to 10
    exact absurd (hz.symm.trans h5) (by decide)
  · -- 5: f to 8
    refine lv_iconst (pc := 8) (v := (-1)) hx hb dd_X_heard_8 (by decide) ?_
    exact f_iret (pc := 9) cx hr hlocks hP hS rfl rfl dd_X_heard_9
set_option maxHeartbeats 4000000 in
set_option maxRecDepth 100000 in
theorem ct_X_heard (l : Launch) (x : fy) (S : fm) (hL : fL x) (c : Nat) (hc : c < 5) : Met l mn_X_heard (gw_ws mn_X_heard cb_X_heard 2 (some .int)) ({ frames := 1, cells := 0, slots := 0, locals := 21 } : Room) (fPc x (S) [.ref (xa x 0 0), .int (nI c)]) (fQi x (S) (if q_work S c = true then mI S 7 c 7 else 0)) 0 0 (fun q => xs x ≤ q) := by
  refine f_met (by decide) (Nat.le_of_ble_eq_true rfl) ?_
  intro p e s m below meth c0 cx hr hlocks hnm hP hS ls hl
  have cx : fX rn_X cb_X_heard 2 p c0 s m [.ref (xa x 0 0), .int (nI c)].toArray x := cx
  have hx := cx.1.1
  have hb := cx.1.2.1
  have hl : lv_has ls 2 [(0, .ref (xa x 0 0)), (1, .int (nI c))] := hl
  obtain ⟨v0, v1, v2, v3, v4, v5, v6, vC, vS, vR⟩ := hL
  obtain ⟨v7, v8, v9⟩ := vC c hc
  refine lv_aload_n (pc := 0) hx hb dd_X_heard_0 rfl (lv_at hl 0 rfl) ?_
  refine lv_iload_n (pc := 1) hx hb dd_X_heard_1 rfl (lv_at hl 1 rfl) ?_
  refine k_X_X_isClient (pc := 2) cx hl hP hS (by assumption) (ct_X_isClient l x S ⟨v0, v1, v2, v3, v4, v5, v6, vC, vS, vR⟩ (nI c)) ⟨⟨rfl, rfl⟩, ⟨(Nat.le_of_ble_eq_true rfl), (Nat.le_of_ble_eq_true rfl)⟩, (Nat.le_of_ble_eq_true rfl), (Nat.le_of_ble_eq_true rfl)⟩ (Nat.le_of_ble_eq_true rfl) dd_X_heard_2 (fun H locs hP hS => ?_)
  refine f_neB (pc := 5) (tgt := 10) cx dd_X_heard_5 (by decide) (fun h5 => ?_) (fun h5 => ?_)
  · -- 5: t to 10
    refine lv_aload_n (pc := 10) hx hb dd_X_heard_10 rfl (lv_at hl 0 rfl) ?_
    refine g_X_X_clients (pc := 11) cx hP (by assumption) dd_X_heard_11 ?_
    refine lv_iload_n (pc := 14) hx hb dd_X_heard_14 rfl (lv_at hl 1 rfl) ?_
    refine f_ald3 (pc := 15) cx hP (by assumption) rfl (by omega) dd_X_heard_15 ?_
    refine k_X_C_isAtWork (pc := 16) cx hl hP hS (by assumption) (ct_C_isAtWork l x S c v7) ⟨⟨rfl, rfl⟩, ⟨(Nat.le_of_ble_eq_true rfl), (Nat.le_of_ble_eq_true rfl)⟩, (Nat.le_of_ble_eq_true rfl), (Nat.le_of_ble_eq_true rfl)⟩ (Nat.le_of_ble_eq_true rfl) dd_X_heard_16 (fun H locs hP hS => ?_)
    refine f_eqB (pc := 19) (tgt := 34) cx dd_X_heard_19 (by decide) (fun h19 => ?_) (fun h19 => ?_)
    · -- 19: t to 34
      refine lv_iconst (pc := 34) (v := 0) hx hb dd_X_heard_34 (by decide) ?_
      exact f_iret (pc := 35) cx hr hlocks hP hS (by simp [*]) rfl dd_X_heard_35
    · -- 19: f to 22
      refine lv_aload_n (pc := 22) hx hb dd_X_heard_22 rfl (lv_at hl 0 rfl) ?_
      refine g_X_X_clients (pc := 23) cx hP (by assumption) dd_X_heard_23 ?_
      refine lv_iload_n (pc := 26) hx hb dd_X_heard_26 rfl (lv_at hl 1 rfl) ?_
      refine f_ald3 (pc := 27) cx hP (by assumption) rfl (by omega) dd_X_heard_27 ?_
      refine g_X_C_heard (pc := 28) cx hP (by assumption) dd_X_heard_28 ?_
      refine lv_goto (pc := 31) (tgt := 35) hx hb dd_X_heard_31 (by decide) ?_
      exact f_iret (pc := 35) cx hr hlocks hP hS (by simp [*]) rfl dd_X_heard_35
  · -- 5: f to 8
    exact absurd (h5.symm.trans (q_cl_in hc)) (by decide)
set_option maxHeartbeats 4000000 in
set_option maxRecDepth 100000 in
theorem ct_X_tag_no (l : Launch) (x : fy) (S : fm) (hL : fL x) (z : Int32) (hz : q_cl z = false) : Met l mn_X_tag (gw_ws mn_X_tag cb_X_tag 2 (some .int)) ({ frames := 1, cells := 0, slots := 0, locals := 21 } : Room) (fPc x (S) [.ref (xa x 0 0), .int z]) (fQi x (S) (-1)) 0 0 (fun q => xs x ≤ q) := by
  refine f_met (by decide) (Nat.le_of_ble_eq_true rfl) ?_
  intro p e s m below meth c0 cx hr hlocks hnm hP hS ls hl
  have cx : fX rn_X cb_X_tag 2 p c0 s m [.ref (xa x 0 0), .int z].toArray x := cx
  have hx := cx.1.1
  have hb := cx.1.2.1
  have hl : lv_has ls 2 [(0, .ref (xa x 0 0)), (1, .int z)] := hl
  obtain ⟨v0, v1, v2, v3, v4, v5, v6, vC, vS, vR⟩ := hL
  refine lv_aload_n (pc := 0) hx hb dd_X_tag_0 rfl (lv_at hl 0 rfl) ?_
  refine lv_iload_n (pc := 1) hx hb dd_X_tag_1 rfl (lv_at hl 1 rfl) ?_
  refine k_X_X_isClient (pc := 2) cx hl hP hS (by assumption) (ct_X_isClient l x S ⟨v0, v1, v2, v3, v4, v5, v6, vC, vS, vR⟩ z) ⟨⟨rfl, rfl⟩, ⟨(Nat.le_of_ble_eq_true rfl), (Nat.le_of_ble_eq_true rfl)⟩, (Nat.le_of_ble_eq_true rfl), (Nat.le_of_ble_eq_true rfl)⟩ (Nat.le_of_ble_eq_true rfl) dd_X_tag_2 (fun H locs hP hS => ?_)
  refine f_eqB (pc := 5) (tgt := 20) cx dd_X_tag_5 (by decide) (fun h5 => ?_) (fun h5 => ?_)
  · -- 5: t to 20
    refine lv_iconst (pc := 20) (v := (-1)) hx hb dd_X_tag_20 (by decide) ?_
    exact f_iret (pc := 21) cx hr hlocks hP hS rfl rfl dd_X_tag_21
  · -- 5: f to 8
    exact absurd (hz.symm.trans h5) (by decide)
set_option maxHeartbeats 4000000 in
set_option maxRecDepth 100000 in
theorem ct_X_tag (l : Launch) (x : fy) (S : fm) (hL : fL x) (c : Nat) (hc : c < 5) : Met l mn_X_tag (gw_ws mn_X_tag cb_X_tag 2 (some .int)) ({ frames := 1, cells := 0, slots := 0, locals := 21 } : Room) (fPc x (S) [.ref (xa x 0 0), .int (nI c)]) (fQi x (S) (mI S 7 c 9)) 0 0 (fun q => xs x ≤ q) := by
  refine f_met (by decide) (Nat.le_of_ble_eq_true rfl) ?_
  intro p e s m below meth c0 cx hr hlocks hnm hP hS ls hl
  have cx : fX rn_X cb_X_tag 2 p c0 s m [.ref (xa x 0 0), .int (nI c)].toArray x := cx
  have hx := cx.1.1
  have hb := cx.1.2.1
  have hl : lv_has ls 2 [(0, .ref (xa x 0 0)), (1, .int (nI c))] := hl
  obtain ⟨v0, v1, v2, v3, v4, v5, v6, vC, vS, vR⟩ := hL
  obtain ⟨v7, v8, v9⟩ := vC c hc
  refine lv_aload_n (pc := 0) hx hb dd_X_tag_0 rfl (lv_at hl 0 rfl) ?_
  refine lv_iload_n (pc := 1) hx hb dd_X_tag_1 rfl (lv_at hl 1 rfl) ?_
  refine k_X_X_isClient (pc := 2) cx hl hP hS (by assumption) (ct_X_isClient l x S ⟨v0, v1, v2, v3, v4, v5, v6, vC, vS, vR⟩ (nI c)) ⟨⟨rfl, rfl⟩, ⟨(Nat.le_of_ble_eq_true rfl), (Nat.le_of_ble_eq_true rfl)⟩, (Nat.le_of_ble_eq_true rfl), (Nat.le_of_ble_eq_true rfl)⟩ (Nat.le_of_ble_eq_true rfl) dd_X_tag_2 (fun H locs hP hS => ?_)
  refine f_eqB (pc := 5) (tgt := 20) cx dd_X_tag_5 (by decide) (fun h5 => ?_) (fun h5 => ?_)
  · -- 5: t to 20
    exact absurd (h5.symm.trans (q_cl_in hc)) (by decide)
  · -- 5: f to 8
    refine lv_aload_n (pc := 8) hx hb dd_X_tag_8 rfl (lv_at hl 0 rfl) ?_
    refine g_X_X_clients (pc := 9) cx hP (by assumption) dd_X_tag_9 ?_
    refine lv_iload_n (pc := 12) hx hb dd_X_tag_12 rfl (lv_at hl 1 rfl) ?_
    refine f_ald3 (pc := 13) cx hP (by assumption) rfl (by omega) dd_X_tag_13 ?_
    refine g_X_C_tag (pc := 14) cx hP (by assumption) dd_X_tag_14 ?_
    refine lv_goto (pc := 17) (tgt := 21) hx hb dd_X_tag_17 (by decide) ?_
    exact f_iret (pc := 21) cx hr hlocks hP hS rfl rfl dd_X_tag_21
set_option maxHeartbeats 4000000 in
set_option maxRecDepth 100000 in
theorem ct_X_result_no (l : Launch) (x : fy) (S : fm) (hL : fL x) (z : Int32) (hz : q_cl z = false) : Met l mn_X_result (gw_ws mn_X_result cb_X_result 2 (some .long)) ({ frames := 1, cells := 0, slots := 0, locals := 21 } : Room) (fPc x (S) [.ref (xa x 0 0), .int z]) (fQl x (S) (0)) 0 0 (fun q => xs x ≤ q) := by
  refine f_met (by decide) (Nat.le_of_ble_eq_true rfl) ?_
  intro p e s m below meth c0 cx hr hlocks hnm hP hS ls hl
  have cx : fX rn_X cb_X_result 2 p c0 s m [.ref (xa x 0 0), .int z].toArray x := cx
  have hx := cx.1.1
  have hb := cx.1.2.1
  have hl : lv_has ls 2 [(0, .ref (xa x 0 0)), (1, .int z)] := hl
  obtain ⟨v0, v1, v2, v3, v4, v5, v6, vC, vS, vR⟩ := hL
  refine lv_aload_n (pc := 0) hx hb dd_X_result_0 rfl (lv_at hl 0 rfl) ?_
  refine lv_iload_n (pc := 1) hx hb dd_X_result_1 rfl (lv_at hl 1 rfl) ?_
  refine k_X_X_isClient (pc := 2) cx hl hP hS (by assumption) (ct_X_isClient l x S ⟨v0, v1, v2, v3, v4, v5, v6, vC, vS, vR⟩ z) ⟨⟨rfl, rfl⟩, ⟨(Nat.le_of_ble_eq_true rfl), (Nat.le_of_ble_eq_true rfl)⟩, (Nat.le_of_ble_eq_true rfl), (Nat.le_of_ble_eq_true rfl)⟩ (Nat.le_of_ble_eq_true rfl) dd_X_result_2 (fun H locs hP hS => ?_)
  refine f_eqB (pc := 5) (tgt := 20) cx dd_X_result_5 (by decide) (fun h5 => ?_) (fun h5 => ?_)
  · -- 5: t to 20
    refine lv_lconst (pc := 20) (v := 0) hx hb dd_X_result_20 (by decide) ?_
    exact f_lret (pc := 21) cx hr hlocks hP hS rfl rfl dd_X_result_21
  · -- 5: f to 8
    exact absurd (hz.symm.trans h5) (by decide)
set_option maxHeartbeats 4000000 in
set_option maxRecDepth 100000 in
theorem ct_X_result (l : Launch) (x : fy) (S : fm) (hL : fL x) (c : Nat) (hc : c < 5) : Met l mn_X_result (gw_ws mn_X_result cb_X_result 2 (some .long)) ({ frames := 1, cells := 0, slots := 0, locals := 21 } : Room) (fPc x (S) [.ref (xa x 0 0), .int (nI c)]) (fQl x (S) (mJ S 7 c 11)) 0 0 (fun q => xs x ≤ q) := by
  refine f_met (by decide) (Nat.le_of_ble_eq_true rfl) ?_
  intro p e s m below meth c0 cx hr hlocks hnm hP hS ls hl
  have cx : fX rn_X cb_X_result 2 p c0 s m [.ref (xa x 0 0), .int (nI c)].toArray x := cx
  have hx := cx.1.1
  have hb := cx.1.2.1
  have hl : lv_has ls 2 [(0, .ref (xa x 0 0)), (1, .int (nI c))] := hl
  obtain ⟨v0, v1, v2, v3, v4, v5, v6, vC, vS, vR⟩ := hL
  obtain ⟨v7, v8, v9⟩ := vC c hc
  refine lv_aload_n (pc := 0) hx hb dd_X_result_0 rfl (lv_at hl 0 rfl) ?_
  refine lv_iload_n (pc := 1) hx hb dd_X_result_1 rfl (lv_at hl 1 rfl) ?_
  refine k_X_X_isClient (pc := 2) cx hl hP hS (by assumption) (ct_X_isClient l x S ⟨v0, v1, v2, v3, v4, v5, v6, vC, vS, vR⟩ (nI c)) ⟨⟨rfl, rfl⟩, ⟨(Nat.le_of_ble_eq_true rfl), (Nat.le_of_ble_eq_true rfl)⟩, (Nat.le_of_ble_eq_true rfl), (Nat.le_of_ble_eq_true rfl)⟩ (Nat.le_of_ble_eq_true rfl) dd_X_result_2 (fun H locs hP hS => ?_)
  refine f_eqB (pc := 5) (tgt := 20) cx dd_X_result_5 (by decide) (fun h5 => ?_) (fun h5 => ?_)
  · -- 5: t to 20
    exact absurd (h5.symm.trans (q_cl_in hc)) (by decide)
  · -- 5: f to 8
    refine lv_aload_n (pc := 8) hx hb dd_X_result_8 rfl (lv_at hl 0 rfl) ?_
    refine g_X_X_clients (pc := 9) cx hP (by assumption) dd_X_result_9 ?_
    refine lv_iload_n (pc := 12) hx hb dd_X_result_12 rfl (lv_at hl 1 rfl) ?_
    refine f_ald3 (pc := 13) cx hP (by assumption) rfl (by omega) dd_X_result_13 ?_
    refine g_X_C_result (pc := 14) cx hP (by assumption) dd_X_result_14 ?_
    refine lv_goto (pc := 17) (tgt := 21) hx hb dd_X_result_17 (by decide) ?_
    exact f_lret (pc := 21) cx hr hlocks hP hS rfl rfl dd_X_result_21
set_option maxHeartbeats 4000000 in
set_option maxRecDepth 100000 in
theorem ct_X_finished_no (l : Launch) (x : fy) (S : fm) (hL : fL x) (z : Int32) (hz : q_cl z = false) : Met l mn_X_finished (gw_ws mn_X_finished cb_X_finished 2 (some .int)) ({ frames := 1, cells := 0, slots := 0, locals := 21 } : Room) (fPc x (S) [.ref (xa x 0 0), .int z]) (fQi x (S) (-1)) 0 0 (fun q => xs x ≤ q) := by
  refine f_met (by decide) (Nat.le_of_ble_eq_true rfl) ?_
  intro p e s m below meth c0 cx hr hlocks hnm hP hS ls hl
  have cx : fX rn_X cb_X_finished 2 p c0 s m [.ref (xa x 0 0), .int z].toArray x := cx
  have hx := cx.1.1
  have hb := cx.1.2.1
  have hl : lv_has ls 2 [(0, .ref (xa x 0 0)), (1, .int z)] := hl
  obtain ⟨v0, v1, v2, v3, v4, v5, v6, vC, vS, vR⟩ := hL
  refine lv_aload_n (pc := 0) hx hb dd_X_finished_0 rfl (lv_at hl 0 rfl) ?_
  refine lv_iload_n (pc := 1) hx hb dd_X_finished_1 rfl (lv_at hl 1 rfl) ?_
  refine k_X_X_isClient (pc := 2) cx hl hP hS (by assumption) (ct_X_isClient l x S ⟨v0, v1, v2, v3, v4, v5, v6, vC, vS, vR⟩ z) ⟨⟨rfl, rfl⟩, ⟨(Nat.le_of_ble_eq_true rfl), (Nat.le_of_ble_eq_true rfl)⟩, (Nat.le_of_ble_eq_true rfl), (Nat.le_of_ble_eq_true rfl)⟩ (Nat.le_of_ble_eq_true rfl) dd_X_finished_2 (fun H locs hP hS => ?_)
  refine f_eqB (pc := 5) (tgt := 20) cx dd_X_finished_5 (by decide) (fun h5 => ?_) (fun h5 => ?_)
  · -- 5: t to 20
    refine lv_iconst (pc := 20) (v := (-1)) hx hb dd_X_finished_20 (by decide) ?_
    exact f_iret (pc := 21) cx hr hlocks hP hS rfl rfl dd_X_finished_21
  · -- 5: f to 8
    exact absurd (hz.symm.trans h5) (by decide)
set_option maxHeartbeats 4000000 in
set_option maxRecDepth 100000 in
theorem ct_X_finished (l : Launch) (x : fy) (S : fm) (hL : fL x) (c : Nat) (hc : c < 5) : Met l mn_X_finished (gw_ws mn_X_finished cb_X_finished 2 (some .int)) ({ frames := 1, cells := 0, slots := 0, locals := 21 } : Room) (fPc x (S) [.ref (xa x 0 0), .int (nI c)]) (fQi x (S) (mI S 7 c 12)) 0 0 (fun q => xs x ≤ q) := by
  refine f_met (by decide) (Nat.le_of_ble_eq_true rfl) ?_
  intro p e s m below meth c0 cx hr hlocks hnm hP hS ls hl
  have cx : fX rn_X cb_X_finished 2 p c0 s m [.ref (xa x 0 0), .int (nI c)].toArray x := cx
  have hx := cx.1.1
  have hb := cx.1.2.1
  have hl : lv_has ls 2 [(0, .ref (xa x 0 0)), (1, .int (nI c))] := hl
  obtain ⟨v0, v1, v2, v3, v4, v5, v6, vC, vS, vR⟩ := hL
  obtain ⟨v7, v8, v9⟩ := vC c hc
  refine lv_aload_n (pc := 0) hx hb dd_X_finished_0 rfl (lv_at hl 0 rfl) ?_
  refine lv_iload_n (pc := 1) hx hb dd_X_finished_1 rfl (lv_at hl 1 rfl) ?_
  refine k_X_X_isClient (pc := 2) cx hl hP hS (by assumption) (ct_X_isClient l x S ⟨v0, v1, v2, v3, v4, v5, v6, vC, vS, vR⟩ (nI c)) ⟨⟨rfl, rfl⟩, ⟨(Nat.le_of_ble_eq_true rfl), (Nat.le_of_ble_eq_true rfl)⟩, (Nat.le_of_ble_eq_true rfl), (Nat.le_of_ble_eq_true rfl)⟩ (Nat.le_of_ble_eq_true rfl) dd_X_finished_2 (fun H locs hP hS => ?_)
  refine f_eqB (pc := 5) (tgt := 20) cx dd_X_finished_5 (by decide) (fun h5 => ?_) (fun h5 => ?_)
  · -- 5: t to 20
    exact absurd (h5.symm.trans (q_cl_in hc)) (by decide)
  · -- 5: f to 8
    refine lv_aload_n (pc := 8) hx hb dd_X_finished_8 rfl (lv_at hl 0 rfl) ?_
    refine g_X_X_clients (pc := 9) cx hP (by assumption) dd_X_finished_9 ?_
    refine lv_iload_n (pc := 12) hx hb dd_X_finished_12 rfl (lv_at hl 1 rfl) ?_
    refine f_ald3 (pc := 13) cx hP (by assumption) rfl (by omega) dd_X_finished_13 ?_
    refine g_X_C_finished (pc := 14) cx hP (by assumption) dd_X_finished_14 ?_
    refine lv_goto (pc := 17) (tgt := 21) hx hb dd_X_finished_17 (by decide) ?_
    exact f_iret (pc := 21) cx hr hlocks hP hS rfl rfl dd_X_finished_21
set_option maxHeartbeats 4000000 in
set_option maxRecDepth 100000 in
theorem ct_X_held_no (l : Launch) (x : fy) (S : fm) (hL : fL x) (z : Int32) (hz : q_sv x z = false) : Met l mn_X_held (gw_ws mn_X_held cb_X_held 2 (some .int)) ({ frames := 1, cells := 0, slots := 0, locals := 21 } : Room) (fPc x (S) [.ref (xa x 0 0), .int z]) (fQi x (S) (-1)) 0 0 (fun q => xs x ≤ q) := by
  refine f_met (by decide) (Nat.le_of_ble_eq_true rfl) ?_
  intro p e s m below meth c0 cx hr hlocks hnm hP hS ls hl
  have cx : fX rn_X cb_X_held 2 p c0 s m [.ref (xa x 0 0), .int z].toArray x := cx
  have hx := cx.1.1
  have hb := cx.1.2.1
  have hl : lv_has ls 2 [(0, .ref (xa x 0 0)), (1, .int z)] := hl
  obtain ⟨v0, v1, v2, v3, v4, v5, v6, vC, vS, vR⟩ := hL
  refine lv_aload_n (pc := 0) hx hb dd_X_held_0 rfl (lv_at hl 0 rfl) ?_
  refine lv_iload_n (pc := 1) hx hb dd_X_held_1 rfl (lv_at hl 1 rfl) ?_
  refine k_X_X_isServer (pc := 2) cx hl hP hS (by assumption) (ct_X_isServer l x S ⟨v0, v1, v2, v3, v4, v5, v6, vC, vS, vR⟩ z) ⟨⟨rfl, rfl⟩, ⟨(Nat.le_of_ble_eq_true rfl), (Nat.le_of_ble_eq_true rfl)⟩, (Nat.le_of_ble_eq_true rfl), (Nat.le_of_ble_eq_true rfl)⟩ (Nat.le_of_ble_eq_true rfl) dd_X_held_2 (fun H locs hP hS => ?_)
  refine f_eqB (pc := 5) (tgt := 20) cx dd_X_held_5 (by decide) (fun h5 => ?_) (fun h5 => ?_)
  · -- 5: t to 20
    refine lv_iconst (pc := 20) (v := (-1)) hx hb dd_X_held_20 (by decide) ?_
    exact f_iret (pc := 21) cx hr hlocks hP hS rfl rfl dd_X_held_21
  · -- 5: f to 8
    exact absurd (hz.symm.trans h5) (by decide)
set_option maxHeartbeats 4000000 in
set_option maxRecDepth 100000 in
theorem ct_X_held (l : Launch) (x : fy) (S : fm) (hL : fL x) (s0 : Nat) (hs : s0 < xN x) (hO : fO x) : Met l mn_X_held (gw_ws mn_X_held cb_X_held 2 (some .int)) ({ frames := 1, cells := 0, slots := 0, locals := 21 } : Room) (fPc x (S) [.ref (xa x 0 0), .int (nI s0)]) (fQi x (S) (nI (mU S 10 s0 3))) 0 0 (fun q => xs x ≤ q) := by
  refine f_met (by decide) (Nat.le_of_ble_eq_true rfl) ?_
  intro p e s m below meth c0 cx hr hlocks hnm hP hS ls hl
  have cx : fX rn_X cb_X_held 2 p c0 s m [.ref (xa x 0 0), .int (nI s0)].toArray x := cx
  have hx := cx.1.1
  have hb := cx.1.2.1
  have hl : lv_has ls 2 [(0, .ref (xa x 0 0)), (1, .int (nI s0))] := hl
  obtain ⟨v0, v1, v2, v3, v4, v5, v6, vC, vS, vR⟩ := hL
  obtain ⟨v10, v11, v12⟩ := vS s0 hs
  refine lv_aload_n (pc := 0) hx hb dd_X_held_0 rfl (lv_at hl 0 rfl) ?_
  refine lv_iload_n (pc := 1) hx hb dd_X_held_1 rfl (lv_at hl 1 rfl) ?_
  refine k_X_X_isServer (pc := 2) cx hl hP hS (by assumption) (ct_X_isServer l x S ⟨v0, v1, v2, v3, v4, v5, v6, vC, vS, vR⟩ (nI s0)) ⟨⟨rfl, rfl⟩, ⟨(Nat.le_of_ble_eq_true rfl), (Nat.le_of_ble_eq_true rfl)⟩, (Nat.le_of_ble_eq_true rfl), (Nat.le_of_ble_eq_true rfl)⟩ (Nat.le_of_ble_eq_true rfl) dd_X_held_2 (fun H locs hP hS => ?_)
  refine f_eqB (pc := 5) (tgt := 20) cx dd_X_held_5 (by decide) (fun h5 => ?_) (fun h5 => ?_)
  · -- 5: t to 20
    exact absurd (h5.symm.trans (q_sv_in hO hs)) (by decide)
  · -- 5: f to 8
    refine lv_aload_n (pc := 8) hx hb dd_X_held_8 rfl (lv_at hl 0 rfl) ?_
    refine g_X_X_servers (pc := 9) cx hP (by assumption) dd_X_held_9 ?_
    refine lv_iload_n (pc := 12) hx hb dd_X_held_12 rfl (lv_at hl 1 rfl) ?_
    refine f_ald4 (pc := 13) cx hP (by assumption) rfl (by omega) dd_X_held_13 ?_
    refine g_X_S_count (pc := 14) cx hP (by assumption) dd_X_held_14 ?_
    refine lv_goto (pc := 17) (tgt := 21) hx hb dd_X_held_17 (by decide) ?_
    exact f_iret (pc := 21) cx hr hlocks hP hS rfl rfl dd_X_held_21
set_option maxHeartbeats 4000000 in
set_option maxRecDepth 100000 in
theorem ct_X_seal_no (l : Launch) (x : fy) (S : fm) (hL : fL x) (z : Int32) (hz : q_sv x z = false) : Met l mn_X_seal (gw_ws mn_X_seal cb_X_seal 2 (some .int)) ({ frames := 1, cells := 0, slots := 0, locals := 21 } : Room) (fPc x (S) [.ref (xa x 0 0), .int z]) (fQi x (S) (-1)) 0 0 (fun q => xs x ≤ q) := by
  refine f_met (by decide) (Nat.le_of_ble_eq_true rfl) ?_
  intro p e s m below meth c0 cx hr hlocks hnm hP hS ls hl
  have cx : fX rn_X cb_X_seal 2 p c0 s m [.ref (xa x 0 0), .int z].toArray x := cx
  have hx := cx.1.1
  have hb := cx.1.2.1
  have hl : lv_has ls 2 [(0, .ref (xa x 0 0)), (1, .int z)] := hl
  obtain ⟨v0, v1, v2, v3, v4, v5, v6, vC, vS, vR⟩ := hL
  refine lv_aload_n (pc := 0) hx hb dd_X_seal_0 rfl (lv_at hl 0 rfl) ?_
  refine lv_iload_n (pc := 1) hx hb dd_X_seal_1 rfl (lv_at hl 1 rfl) ?_
  refine k_X_X_isServer (pc := 2) cx hl hP hS (by assumption) (ct_X_isServer l x S ⟨v0, v1, v2, v3, v4, v5, v6, vC, vS, vR⟩ z) ⟨⟨rfl, rfl⟩, ⟨(Nat.le_of_ble_eq_true rfl), (Nat.le_of_ble_eq_true rfl)⟩, (Nat.le_of_ble_eq_true rfl), (Nat.le_of_ble_eq_true rfl)⟩ (Nat.le_of_ble_eq_true rfl) dd_X_seal_2 (fun H locs hP hS => ?_)
  refine f_eqB (pc := 5) (tgt := 20) cx dd_X_seal_5 (by decide) (fun h5 => ?_) (fun h5 => ?_)
  · -- 5: t to 20
    refine lv_iconst (pc := 20) (v := (-1)) hx hb dd_X_seal_20 (by decide) ?_
    exact f_iret (pc := 21) cx hr hlocks hP hS rfl rfl dd_X_seal_21
  · -- 5: f to 8
    exact absurd (hz.symm.trans h5) (by decide)
set_option maxHeartbeats 4000000 in
set_option maxRecDepth 100000 in
theorem ct_X_seal (l : Launch) (x : fy) (S : fm) (hL : fL x) (s0 : Nat) (hs : s0 < xN x) (hO : fO x) : Met l mn_X_seal (gw_ws mn_X_seal cb_X_seal 2 (some .int)) ({ frames := 1, cells := 0, slots := 0, locals := 21 } : Room) (fPc x (S) [.ref (xa x 0 0), .int (nI s0)]) (fQi x (S) (mI S 10 s0 4)) 0 0 (fun q => xs x ≤ q) := by
  refine f_met (by decide) (Nat.le_of_ble_eq_true rfl) ?_
  intro p e s m below meth c0 cx hr hlocks hnm hP hS ls hl
  have cx : fX rn_X cb_X_seal 2 p c0 s m [.ref (xa x 0 0), .int (nI s0)].toArray x := cx
  have hx := cx.1.1
  have hb := cx.1.2.1
  have hl : lv_has ls 2 [(0, .ref (xa x 0 0)), (1, .int (nI s0))] := hl
  obtain ⟨v0, v1, v2, v3, v4, v5, v6, vC, vS, vR⟩ := hL
  obtain ⟨v10, v11, v12⟩ := vS s0 hs
  refine lv_aload_n (pc := 0) hx hb dd_X_seal_0 rfl (lv_at hl 0 rfl) ?_
  refine lv_iload_n (pc := 1) hx hb dd_X_seal_1 rfl (lv_at hl 1 rfl) ?_
  refine k_X_X_isServer (pc := 2) cx hl hP hS (by assumption) (ct_X_isServer l x S ⟨v0, v1, v2, v3, v4, v5, v6, vC, vS, vR⟩ (nI s0)) ⟨⟨rfl, rfl⟩, ⟨(Nat.le_of_ble_eq_true rfl), (Nat.le_of_ble_eq_true rfl)⟩, (Nat.le_of_ble_eq_true rfl), (Nat.le_of_ble_eq_true rfl)⟩ (Nat.le_of_ble_eq_true rfl) dd_X_seal_2 (fun H locs hP hS => ?_)
  refine f_eqB (pc := 5) (tgt := 20) cx dd_X_seal_5 (by decide) (fun h5 => ?_) (fun h5 => ?_)
  · -- 5: t to 20
    exact absurd (h5.symm.trans (q_sv_in hO hs)) (by decide)
  · -- 5: f to 8
    refine lv_aload_n (pc := 8) hx hb dd_X_seal_8 rfl (lv_at hl 0 rfl) ?_
    refine g_X_X_servers (pc := 9) cx hP (by assumption) dd_X_seal_9 ?_
    refine lv_iload_n (pc := 12) hx hb dd_X_seal_12 rfl (lv_at hl 1 rfl) ?_
    refine f_ald4 (pc := 13) cx hP (by assumption) rfl (by omega) dd_X_seal_13 ?_
    refine g_X_S_seal (pc := 14) cx hP (by assumption) dd_X_seal_14 ?_
    refine lv_goto (pc := 17) (tgt := 21) hx hb dd_X_seal_17 (by decide) ?_
    exact f_iret (pc := 21) cx hr hlocks hP hS rfl rfl dd_X_seal_21
set_option maxHeartbeats 4000000 in
set_option maxRecDepth 100000 in
theorem ct_X_heldTag_no (l : Launch) (x : fy) (S : fm) (hL : fL x) (z i : Int32) (hz : q_sv x z = false) : Met l mn_X_heldTag (gw_ws mn_X_heldTag cb_X_heldTag 3 (some .int)) ({ frames := 1, cells := 0, slots := 0, locals := 21 } : Room) (fPc x (S) [.ref (xa x 0 0), .int z, .int i]) (fQi x (S) (-1)) 0 0 (fun q => xs x ≤ q) := by
  refine f_met (by decide) (Nat.le_of_ble_eq_true rfl) ?_
  intro p e s m below meth c0 cx hr hlocks hnm hP hS ls hl
  have cx : fX rn_X cb_X_heldTag 3 p c0 s m [.ref (xa x 0 0), .int z, .int i].toArray x := cx
  have hx := cx.1.1
  have hb := cx.1.2.1
  have hl : lv_has ls 3 [(0, .ref (xa x 0 0)), (1, .int z), (2, .int i)] := hl
  obtain ⟨v0, v1, v2, v3, v4, v5, v6, vC, vS, vR⟩ := hL
  refine lv_aload_n (pc := 0) hx hb dd_X_heldTag_0 rfl (lv_at hl 0 rfl) ?_
  refine lv_iload_n (pc := 1) hx hb dd_X_heldTag_1 rfl (lv_at hl 1 rfl) ?_
  refine k_X_X_isServer (pc := 2) cx hl hP hS (by assumption) (ct_X_isServer l x S ⟨v0, v1, v2, v3, v4, v5, v6, vC, vS, vR⟩ z) ⟨⟨rfl, rfl⟩, ⟨(Nat.le_of_ble_eq_true rfl), (Nat.le_of_ble_eq_true rfl)⟩, (Nat.le_of_ble_eq_true rfl), (Nat.le_of_ble_eq_true rfl)⟩ (Nat.le_of_ble_eq_true rfl) dd_X_heldTag_2 (fun H locs hP hS => ?_)
  refine f_eqB (pc := 5) (tgt := 25) cx dd_X_heldTag_5 (by decide) (fun h5 => ?_) (fun h5 => ?_)
  · -- 5: t to 25
    refine lv_iconst (pc := 25) (v := (-1)) hx hb dd_X_heldTag_25 (by decide) ?_
    exact f_iret (pc := 26) cx hr hlocks hP hS rfl rfl dd_X_heldTag_26
  · -- 5: f to 8
    exact absurd (hz.symm.trans h5) (by decide)
set_option maxHeartbeats 4000000 in
set_option maxRecDepth 100000 in
theorem ct_X_heldTag_bad (l : Launch) (x : fy) (S : fm) (hL : fL x) (s0 : Nat) (i : Int32) (hs : s0 < xN x) (hO : fO x) (hi : i < 0 ∨ nI (mU S 10 s0 3) ≤ i) : Met l mn_X_heldTag (gw_ws mn_X_heldTag cb_X_heldTag 3 (some .int)) ({ frames := 1, cells := 0, slots := 0, locals := 21 } : Room) (fPc x (S) [.ref (xa x 0 0), .int (nI s0), .int i]) (fQi x (S) (-1)) 0 0 (fun q => xs x ≤ q) := by
  refine f_met (by decide) (Nat.le_of_ble_eq_true rfl) ?_
  intro p e s m below meth c0 cx hr hlocks hnm hP hS ls hl
  have cx : fX rn_X cb_X_heldTag 3 p c0 s m [.ref (xa x 0 0), .int (nI s0), .int i].toArray x := cx
  have hx := cx.1.1
  have hb := cx.1.2.1
  have hl : lv_has ls 3 [(0, .ref (xa x 0 0)), (1, .int (nI s0)), (2, .int i)] := hl
  obtain ⟨v0, v1, v2, v3, v4, v5, v6, vC, vS, vR⟩ := hL
  obtain ⟨v10, v11, v12⟩ := vS s0 hs
  refine lv_aload_n (pc := 0) hx hb dd_X_heldTag_0 rfl (lv_at hl 0 rfl) ?_
  refine lv_iload_n (pc := 1) hx hb dd_X_heldTag_1 rfl (lv_at hl 1 rfl) ?_
  refine k_X_X_isServer (pc := 2) cx hl hP hS (by assumption) (ct_X_isServer l x S ⟨v0, v1, v2, v3, v4, v5, v6, vC, vS, vR⟩ (nI s0)) ⟨⟨rfl, rfl⟩, ⟨(Nat.le_of_ble_eq_true rfl), (Nat.le_of_ble_eq_true rfl)⟩, (Nat.le_of_ble_eq_true rfl), (Nat.le_of_ble_eq_true rfl)⟩ (Nat.le_of_ble_eq_true rfl) dd_X_heldTag_2 (fun H locs hP hS => ?_)
  refine f_eqB (pc := 5) (tgt := 25) cx dd_X_heldTag_5 (by decide) (fun h5 => ?_) (fun h5 => ?_)
  · -- 5: t to 25
    exact absurd (h5.symm.trans (q_sv_in hO hs)) (by decide)
  · -- 5: f to 8
    refine lv_iload_n (pc := 8) hx hb dd_X_heldTag_8 rfl (lv_at hl 2 rfl) ?_
    refine lv_if_lt (pc := 9) (tgt := 25) hx hb dd_X_heldTag_9 (by decide) (fun h9 => ?_) (fun h9 => ?_)
    · -- 9: t to 25
      refine lv_iconst (pc := 25) (v := (-1)) hx hb dd_X_heldTag_25 (by decide) ?_
      exact f_iret (pc := 26) cx hr hlocks hP hS rfl rfl dd_X_heldTag_26
    · -- 9: f to 12
      refine lv_iload_n (pc := 12) hx hb dd_X_heldTag_12 rfl (lv_at hl 2 rfl) ?_
      refine lv_aload_n (pc := 13) hx hb dd_X_heldTag_13 rfl (lv_at hl 0 rfl) ?_
      refine g_X_X_servers (pc := 14) cx hP (by assumption) dd_X_heldTag_14 ?_
      refine lv_iload_n (pc := 17) hx hb dd_X_heldTag_17 rfl (lv_at hl 1 rfl) ?_
      refine f_ald4 (pc := 18) cx hP (by assumption) rfl (by omega) dd_X_heldTag_18 ?_
      refine g_X_S_count (pc := 19) cx hP (by assumption) dd_X_heldTag_19 ?_
      refine lv_icmp_lt (pc := 22) (tgt := 27) hx hb dd_X_heldTag_22 (by decide) (fun h22 => ?_) (fun h22 => ?_)
      · -- 22: t to 27
        exact absurd h22 (fun q => hi.elim h9 (fun q2 => absurd q (Int32.not_lt.mpr q2)))
      · -- 22: f to 25
        refine lv_iconst (pc := 25) (v := (-1)) hx hb dd_X_heldTag_25 (by decide) ?_
        exact f_iret (pc := 26) cx hr hlocks hP hS rfl rfl dd_X_heldTag_26
set_option maxHeartbeats 4000000 in
set_option maxRecDepth 100000 in
theorem ct_X_heldTag (l : Launch) (x : fy) (S : fm) (hL : fL x) (s0 j : Nat) (hs : s0 < xN x) (hO : fO x) (hj : j < mU S 10 s0 3) (hI : fI x S) : Met l mn_X_heldTag (gw_ws mn_X_heldTag cb_X_heldTag 3 (some .int)) ({ frames := 1, cells := 0, slots := 0, locals := 21 } : Room) (fPc x (S) [.ref (xa x 0 0), .int (nI s0), .int (nI j)]) (fQi x (S) (mI S 11 s0 j)) 0 0 (fun q => xs x ≤ q) := by
  refine f_met (by decide) (Nat.le_of_ble_eq_true rfl) ?_
  intro p e s m below meth c0 cx hr hlocks hnm hP hS ls hl
  have cx : fX rn_X cb_X_heldTag 3 p c0 s m [.ref (xa x 0 0), .int (nI s0), .int (nI j)].toArray x := cx
  have hx := cx.1.1
  have hb := cx.1.2.1
  have hl : lv_has ls 3 [(0, .ref (xa x 0 0)), (1, .int (nI s0)), (2, .int (nI j))] := hl
  obtain ⟨v0, v1, v2, v3, v4, v5, v6, vC, vS, vR⟩ := hL
  obtain ⟨v10, v11, v12⟩ := vS s0 hs
  have hcn := hI.2.2.1 s0
  have hD : xD x ≤ 3 := by have := hO; unfold fO at this; omega
  refine lv_aload_n (pc := 0) hx hb dd_X_heldTag_0 rfl (lv_at hl 0 rfl) ?_
  refine lv_iload_n (pc := 1) hx hb dd_X_heldTag_1 rfl (lv_at hl 1 rfl) ?_
  refine k_X_X_isServer (pc := 2) cx hl hP hS (by assumption) (ct_X_isServer l x S ⟨v0, v1, v2, v3, v4, v5, v6, vC, vS, vR⟩ (nI s0)) ⟨⟨rfl, rfl⟩, ⟨(Nat.le_of_ble_eq_true rfl), (Nat.le_of_ble_eq_true rfl)⟩, (Nat.le_of_ble_eq_true rfl), (Nat.le_of_ble_eq_true rfl)⟩ (Nat.le_of_ble_eq_true rfl) dd_X_heldTag_2 (fun H locs hP hS => ?_)
  refine f_eqB (pc := 5) (tgt := 25) cx dd_X_heldTag_5 (by decide) (fun h5 => ?_) (fun h5 => ?_)
  · -- 5: t to 25
    exact absurd (h5.symm.trans (q_sv_in hO hs)) (by decide)
  · -- 5: f to 8
    refine lv_iload_n (pc := 8) hx hb dd_X_heldTag_8 rfl (lv_at hl 2 rfl) ?_
    refine lv_if_lt (pc := 9) (tgt := 25) hx hb dd_X_heldTag_9 (by decide) (fun h9 => ?_) (fun h9 => ?_)
    · -- 9: t to 25
      exact absurd h9 (nI_pos (by omega))
    · -- 9: f to 12
      refine lv_iload_n (pc := 12) hx hb dd_X_heldTag_12 rfl (lv_at hl 2 rfl) ?_
      refine lv_aload_n (pc := 13) hx hb dd_X_heldTag_13 rfl (lv_at hl 0 rfl) ?_
      refine g_X_X_servers (pc := 14) cx hP (by assumption) dd_X_heldTag_14 ?_
      refine lv_iload_n (pc := 17) hx hb dd_X_heldTag_17 rfl (lv_at hl 1 rfl) ?_
      refine f_ald4 (pc := 18) cx hP (by assumption) rfl (by omega) dd_X_heldTag_18 ?_
      refine g_X_S_count (pc := 19) cx hP (by assumption) dd_X_heldTag_19 ?_
      refine lv_icmp_lt (pc := 22) (tgt := 27) hx hb dd_X_heldTag_22 (by decide) (fun h22 => ?_) (fun h22 => ?_)
      · -- 22: t to 27
        refine lv_aload_n (pc := 27) hx hb dd_X_heldTag_27 rfl (lv_at hl 0 rfl) ?_
        refine g_X_X_servers (pc := 28) cx hP (by assumption) dd_X_heldTag_28 ?_
        refine lv_iload_n (pc := 31) hx hb dd_X_heldTag_31 rfl (lv_at hl 1 rfl) ?_
        refine f_ald4 (pc := 32) cx hP (by assumption) rfl (by omega) dd_X_heldTag_32 ?_
        refine g_X_S_tags (pc := 33) cx hP (by assumption) dd_X_heldTag_33 ?_
        refine lv_iload_n (pc := 36) hx hb dd_X_heldTag_36 rfl (lv_at hl 2 rfl) ?_
        refine f_iald (pc := 37) cx hP (fv.at (by assumption) _) rfl rfl (by omega) dd_X_heldTag_37 ?_
        exact f_iret (pc := 38) cx hr hlocks hP hS rfl rfl dd_X_heldTag_38
      · -- 22: f to 25
        exact absurd ((nI_ltI (by omega) (by omega)).mpr hj) h22
set_option maxHeartbeats 4000000 in
set_option maxRecDepth 100000 in
theorem ct_X_fragment_no (l : Launch) (x : fy) (S : fm) (hL : fL x) (z t i : Int32) (hz : q_sv x z = false) : Met l mn_X_fragment (gw_ws mn_X_fragment cb_X_fragment 5 (some .int)) ({ frames := 1, cells := 0, slots := 0, locals := 22 } : Room) (fPc x (S) [.ref (xa x 0 0), .int z, .int t, .int i]) (fQi x (S) (-1)) 0 0 (fun q => xs x ≤ q) := by
  refine f_met (by decide) (Nat.le_of_ble_eq_true rfl) ?_
  intro p e s m below meth c0 cx hr hlocks hnm hP hS ls hl
  have cx : fX rn_X cb_X_fragment 5 p c0 s m [.ref (xa x 0 0), .int z, .int t, .int i].toArray x := cx
  have hx := cx.1.1
  have hb := cx.1.2.1
  have hl : lv_has ls 5 [(0, .ref (xa x 0 0)), (1, .int z), (2, .int t), (3, .int i)] := hl
  obtain ⟨v0, v1, v2, v3, v4, v5, v6, vC, vS, vR⟩ := hL
  refine lv_aload_n (pc := 0) hx hb dd_X_fragment_0 rfl (lv_at hl 0 rfl) ?_
  refine lv_iload_n (pc := 1) hx hb dd_X_fragment_1 rfl (lv_at hl 1 rfl) ?_
  refine k_X_X_isServer (pc := 2) cx hl hP hS (by assumption) (ct_X_isServer l x S ⟨v0, v1, v2, v3, v4, v5, v6, vC, vS, vR⟩ z) ⟨⟨rfl, rfl⟩, ⟨(Nat.le_of_ble_eq_true rfl), (Nat.le_of_ble_eq_true rfl)⟩, (Nat.le_of_ble_eq_true rfl), (Nat.le_of_ble_eq_true rfl)⟩ (Nat.le_of_ble_eq_true rfl) dd_X_fragment_2 (fun H locs hP hS => ?_)
  refine f_eqB (pc := 5) (tgt := 23) cx dd_X_fragment_5 (by decide) (fun h5 => ?_) (fun h5 => ?_)
  · -- 5: t to 23
    refine lv_iconst (pc := 23) (v := (-1)) hx hb dd_X_fragment_23 (by decide) ?_
    exact f_iret (pc := 24) cx hr hlocks hP hS rfl rfl dd_X_fragment_24
  · -- 5: f to 8
    exact absurd (hz.symm.trans h5) (by decide)
set_option maxHeartbeats 4000000 in
set_option maxRecDepth 100000 in
theorem ct_X_fragment_bad (l : Launch) (x : fy) (S : fm) (hL : fL x) (s0 : Nat) (t i : Int32) (hs : s0 < xN x) (hO : fO x) (hi : i < 0 ∨ nI (xR x) ≤ i) : Met l mn_X_fragment (gw_ws mn_X_fragment cb_X_fragment 5 (some .int)) ({ frames := 1, cells := 0, slots := 0, locals := 22 } : Room) (fPc x (S) [.ref (xa x 0 0), .int (nI s0), .int t, .int i]) (fQi x (S) (-1)) 0 0 (fun q => xs x ≤ q) := by
  refine f_met (by decide) (Nat.le_of_ble_eq_true rfl) ?_
  intro p e s m below meth c0 cx hr hlocks hnm hP hS ls hl
  have cx : fX rn_X cb_X_fragment 5 p c0 s m [.ref (xa x 0 0), .int (nI s0), .int t, .int i].toArray x := cx
  have hx := cx.1.1
  have hb := cx.1.2.1
  have hl : lv_has ls 5 [(0, .ref (xa x 0 0)), (1, .int (nI s0)), (2, .int t), (3, .int i)] := hl
  obtain ⟨v0, v1, v2, v3, v4, v5, v6, vC, vS, vR⟩ := hL
  obtain ⟨v10, v11, v12⟩ := vS s0 hs
  refine lv_aload_n (pc := 0) hx hb dd_X_fragment_0 rfl (lv_at hl 0 rfl) ?_
  refine lv_iload_n (pc := 1) hx hb dd_X_fragment_1 rfl (lv_at hl 1 rfl) ?_
  refine k_X_X_isServer (pc := 2) cx hl hP hS (by assumption) (ct_X_isServer l x S ⟨v0, v1, v2, v3, v4, v5, v6, vC, vS, vR⟩ (nI s0)) ⟨⟨rfl, rfl⟩, ⟨(Nat.le_of_ble_eq_true rfl), (Nat.le_of_ble_eq_true rfl)⟩, (Nat.le_of_ble_eq_true rfl), (Nat.le_of_ble_eq_true rfl)⟩ (Nat.le_of_ble_eq_true rfl) dd_X_fragment_2 (fun H locs hP hS => ?_)
  refine f_eqB (pc := 5) (tgt := 23) cx dd_X_fragment_5 (by decide) (fun h5 => ?_) (fun h5 => ?_)
  · -- 5: t to 23
    exact absurd (h5.symm.trans (q_sv_in hO hs)) (by decide)
  · -- 5: f to 8
    refine lv_iload_n (pc := 8) hx hb dd_X_fragment_8 rfl (lv_at hl 3 rfl) ?_
    refine lv_if_lt (pc := 9) (tgt := 23) hx hb dd_X_fragment_9 (by decide) (fun h9 => ?_) (fun h9 => ?_)
    · -- 9: t to 23
      refine lv_iconst (pc := 23) (v := (-1)) hx hb dd_X_fragment_23 (by decide) ?_
      exact f_iret (pc := 24) cx hr hlocks hP hS rfl rfl dd_X_fragment_24
    · -- 9: f to 12
      refine lv_iload_n (pc := 12) hx hb dd_X_fragment_12 rfl (lv_at hl 3 rfl) ?_
      refine lv_aload_n (pc := 13) hx hb dd_X_fragment_13 rfl (lv_at hl 0 rfl) ?_
      refine g_X_X_code (pc := 14) cx hP (by assumption) dd_X_fragment_14 ?_
      refine g_X_K_length (pc := 17) cx hP (by assumption) dd_X_fragment_17 ?_
      refine lv_icmp_lt (pc := 20) (tgt := 25) hx hb dd_X_fragment_20 (by decide) (fun h20 => ?_) (fun h20 => ?_)
      · -- 20: t to 25
        exact absurd h20 (fun q => hi.elim h9 (fun q2 => absurd q (Int32.not_lt.mpr q2)))
      · -- 20: f to 23
        refine lv_iconst (pc := 23) (v := (-1)) hx hb dd_X_fragment_23 (by decide) ?_
        exact f_iret (pc := 24) cx hr hlocks hP hS rfl rfl dd_X_fragment_24
set_option maxHeartbeats 4000000 in
set_option maxRecDepth 100000 in
theorem ct_X_fragment (l : Launch) (x : fy) (S : fm) (hL : fL x) (s0 r : Nat) (t : Int32) (hs : s0 < xN x) (hO : fO x) (hr0 : r < xR x) (hI : fI x S) : Met l mn_X_fragment (gw_ws mn_X_fragment cb_X_fragment 5 (some .int)) ({ frames := 1, cells := 0, slots := 0, locals := 22 } : Room) (fPc x (S) [.ref (xa x 0 0), .int (nI s0), .int t, .int (nI r)]) (fQi x (S) (q_frag S s0 t r)) 0 0 (fun q => xs x ≤ q) := by
  refine f_met (by decide) (Nat.le_of_ble_eq_true rfl) ?_
  intro p e s m below meth c0 cx hr hlocks hnm hP hS ls hl
  have cx : fX rn_X cb_X_fragment 5 p c0 s m [.ref (xa x 0 0), .int (nI s0), .int t, .int (nI r)].toArray x := cx
  have hx := cx.1.1
  have hb := cx.1.2.1
  have hl : lv_has ls 5 [(0, .ref (xa x 0 0)), (1, .int (nI s0)), (2, .int t), (3, .int (nI r))] := hl
  obtain ⟨v0, v1, v2, v3, v4, v5, v6, vC, vS, vR⟩ := hL
  obtain ⟨v10, v11, v12⟩ := vS s0 hs
  have hcn := hI.2.2.1 s0
  have hD : xD x ≤ 3 := by have := hO; unfold fO at this; omega
  have hR := xR_facts x hO
  refine lv_aload_n (pc := 0) hx hb dd_X_fragment_0 rfl (lv_at hl 0 rfl) ?_
  refine lv_iload_n (pc := 1) hx hb dd_X_fragment_1 rfl (lv_at hl 1 rfl) ?_
  refine k_X_X_isServer (pc := 2) cx hl hP hS (by assumption) (ct_X_isServer l x S ⟨v0, v1, v2, v3, v4, v5, v6, vC, vS, vR⟩ (nI s0)) ⟨⟨rfl, rfl⟩, ⟨(Nat.le_of_ble_eq_true rfl), (Nat.le_of_ble_eq_true rfl)⟩, (Nat.le_of_ble_eq_true rfl), (Nat.le_of_ble_eq_true rfl)⟩ (Nat.le_of_ble_eq_true rfl) dd_X_fragment_2 (fun H locs hP hS => ?_)
  refine f_eqB (pc := 5) (tgt := 23) cx dd_X_fragment_5 (by decide) (fun h5 => ?_) (fun h5 => ?_)
  · -- 5: t to 23
    exact absurd (h5.symm.trans (q_sv_in hO hs)) (by decide)
  · -- 5: f to 8
    refine lv_iload_n (pc := 8) hx hb dd_X_fragment_8 rfl (lv_at hl 3 rfl) ?_
    refine lv_if_lt (pc := 9) (tgt := 23) hx hb dd_X_fragment_9 (by decide) (fun h9 => ?_) (fun h9 => ?_)
    · -- 9: t to 23
      exact absurd h9 (nI_pos (by omega))
    · -- 9: f to 12
      refine lv_iload_n (pc := 12) hx hb dd_X_fragment_12 rfl (lv_at hl 3 rfl) ?_
      refine lv_aload_n (pc := 13) hx hb dd_X_fragment_13 rfl (lv_at hl 0 rfl) ?_
      refine g_X_X_code (pc := 14) cx hP (by assumption) dd_X_fragment_14 ?_
      refine g_X_K_length (pc := 17) cx hP (by assumption) dd_X_fragment_17 ?_
      refine lv_icmp_lt (pc := 20) (tgt := 25) hx hb dd_X_fragment_20 (by decide) (fun h20 => ?_) (fun h20 => ?_)
      · -- 20: t to 25
        refine lv_aload_n (pc := 25) hx hb dd_X_fragment_25 rfl (lv_at hl 0 rfl) ?_
        refine g_X_X_servers (pc := 26) cx hP (by assumption) dd_X_fragment_26 ?_
        refine lv_iload_n (pc := 29) hx hb dd_X_fragment_29 rfl (lv_at hl 1 rfl) ?_
        refine f_ald4 (pc := 30) cx hP (by assumption) rfl (by omega) dd_X_fragment_30 ?_
        refine lv_iload_n (pc := 31) hx hb dd_X_fragment_31 rfl (lv_at hl 2 rfl) ?_
        refine k_X_S_placeOf (pc := 32) cx hl hP hS (by assumption) (ct_S_placeOf l x S s0 t v10 v11 hcn hD) ⟨⟨rfl, rfl⟩, ⟨(Nat.le_of_ble_eq_true rfl), (Nat.le_of_ble_eq_true rfl)⟩, (Nat.le_of_ble_eq_true rfl), (Nat.le_of_ble_eq_true rfl)⟩ (Nat.le_of_ble_eq_true rfl) dd_X_fragment_32 (fun H locs hP hS => ?_)
        refine lv_istore (pc := 35) (lv' := [(4, _), (0, _), (1, _), (2, _), (3, _)]) hx hb dd_X_fragment_35 hl (Nat.le_of_ble_eq_true rfl) rfl (fun ls hl => ?_)
        cases hq : q_place S s0 t with
        | none =>
          rw [hq] at hl
          refine lv_iload (pc := 37) hx hb dd_X_fragment_37 (lv_at hl 0 rfl) ?_
          refine lv_if_ge (pc := 39) (tgt := 46) hx hb dd_X_fragment_39 (by decide) (fun h39 => ?_) (fun h39 => ?_)
          · -- 39: t to 46
            exact absurd h39 (by decide)
          · -- 39: f to 42
            refine lv_iconst (pc := 42) (v := (-1)) hx hb dd_X_fragment_42 (by decide) ?_
            refine lv_goto (pc := 43) (tgt := 62) hx hb dd_X_fragment_43 (by decide) ?_
            exact f_iret (pc := 62) cx hr hlocks hP hS (by simp [q_frag, hq]) rfl dd_X_fragment_62
        | some i =>
          have hi : i < mU S 10 s0 3 := List.mem_range.mp (List.mem_of_find?_eq_some hq)
          rw [hq] at hl
          refine lv_iload (pc := 37) hx hb dd_X_fragment_37 (lv_at hl 0 rfl) ?_
          refine lv_if_ge (pc := 39) (tgt := 46) hx hb dd_X_fragment_39 (by decide) (fun h39 => ?_) (fun h39 => ?_)
          · -- 39: t to 46
            refine lv_aload_n (pc := 46) hx hb dd_X_fragment_46 rfl (lv_at hl 1 rfl) ?_
            refine g_X_X_servers (pc := 47) cx hP (by assumption) dd_X_fragment_47 ?_
            refine lv_iload_n (pc := 50) hx hb dd_X_fragment_50 rfl (lv_at hl 2 rfl) ?_
            refine f_ald4 (pc := 51) cx hP (by assumption) rfl (by omega) dd_X_fragment_51 ?_
            refine g_X_S_fragments (pc := 52) cx hP (by assumption) dd_X_fragment_52 ?_
            refine lv_iload (pc := 55) hx hb dd_X_fragment_55 (lv_at hl 0 rfl) ?_
            refine f_lald (pc := 57) cx hP (fv.at (by assumption) _) rfl rfl (by omega) dd_X_fragment_57 ?_
            refine lv_iload_n (pc := 58) hx hb dd_X_fragment_58 rfl (lv_at hl 4 rfl) ?_
            refine k_X_K_byteAt (pc := 59) cx hl hP hS (ct_K_byteAt l x S (mJ S 12 s0 i) r (by omega)) ⟨⟨rfl, rfl⟩, ⟨(Nat.le_of_ble_eq_true rfl), (Nat.le_of_ble_eq_true rfl)⟩, (Nat.le_of_ble_eq_true rfl), (Nat.le_of_ble_eq_true rfl)⟩ (Nat.le_of_ble_eq_true rfl) dd_X_fragment_59 (fun H locs hP hS => ?_)
            exact f_iret (pc := 62) cx hr hlocks hP hS (by simp [q_frag, hq]) rfl dd_X_fragment_62
          · -- 39: f to 42
            exact absurd (nI_pos' (by omega)) h39
      · -- 20: f to 23
        exact absurd ((nI_ltI (by omega) (by omega)).mpr hr0) h20
set_option maxHeartbeats 4000000 in
set_option maxRecDepth 100000 in
theorem ct_X_requests_no (l : Launch) (x : fy) (S : fm) (hL : fL x) (z y : Int32) (hz : q_cl z = false ∨ q_sv x y = false) : Met l mn_X_requests (gw_ws mn_X_requests cb_X_requests 3 (some .int)) ({ frames := 1, cells := 0, slots := 0, locals := 22 } : Room) (fPc x (S) [.ref (xa x 0 0), .int z, .int y]) (fQi x (S) (-1)) 0 0 (fun q => xs x ≤ q) := by
  refine f_met (by decide) (Nat.le_of_ble_eq_true rfl) ?_
  intro p e s m below meth c0 cx hr hlocks hnm hP hS ls hl
  have cx : fX rn_X cb_X_requests 3 p c0 s m [.ref (xa x 0 0), .int z, .int y].toArray x := cx
  have hx := cx.1.1
  have hb := cx.1.2.1
  have hl : lv_has ls 3 [(0, .ref (xa x 0 0)), (1, .int z), (2, .int y)] := hl
  obtain ⟨v0, v1, v2, v3, v4, v5, v6, vC, vS, vR⟩ := hL
  refine lv_aload_n (pc := 0) hx hb dd_X_requests_0 rfl (lv_at hl 0 rfl) ?_
  refine lv_iload_n (pc := 1) hx hb dd_X_requests_1 rfl (lv_at hl 1 rfl) ?_
  refine k_X_X_isClient (pc := 2) cx hl hP hS (by assumption) (ct_X_isClient l x S ⟨v0, v1, v2, v3, v4, v5, v6, vC, vS, vR⟩ z) ⟨⟨rfl, rfl⟩, ⟨(Nat.le_of_ble_eq_true rfl), (Nat.le_of_ble_eq_true rfl)⟩, (Nat.le_of_ble_eq_true rfl), (Nat.le_of_ble_eq_true rfl)⟩ (Nat.le_of_ble_eq_true rfl) dd_X_requests_2 (fun H locs hP hS => ?_)
  refine f_eqB (pc := 5) (tgt := 33) cx dd_X_requests_5 (by decide) (fun h5 => ?_) (fun h5 => ?_)
  · -- 5: t to 33
    refine lv_iconst (pc := 33) (v := (-1)) hx hb dd_X_requests_33 (by decide) ?_
    exact f_iret (pc := 34) cx hr hlocks hP hS rfl rfl dd_X_requests_34
  · -- 5: f to 8
    refine lv_aload_n (pc := 8) hx hb dd_X_requests_8 rfl (lv_at hl 0 rfl) ?_
    refine lv_iload_n (pc := 9) hx hb dd_X_requests_9 rfl (lv_at hl 2 rfl) ?_
    refine k_X_X_isServer (pc := 10) cx hl hP hS (by assumption) (ct_X_isServer l x S ⟨v0, v1, v2, v3, v4, v5, v6, vC, vS, vR⟩ y) ⟨⟨rfl, rfl⟩, ⟨(Nat.le_of_ble_eq_true rfl), (Nat.le_of_ble_eq_true rfl)⟩, (Nat.le_of_ble_eq_true rfl), (Nat.le_of_ble_eq_true rfl)⟩ (Nat.le_of_ble_eq_true rfl) dd_X_requests_10 (fun H locs hP hS => ?_)
    refine f_eqB (pc := 13) (tgt := 33) cx dd_X_requests_13 (by decide) (fun h13 => ?_) (fun h13 => ?_)
    · -- 13: t to 33
      refine lv_iconst (pc := 33) (v := (-1)) hx hb dd_X_requests_33 (by decide) ?_
      exact f_iret (pc := 34) cx hr hlocks hP hS rfl rfl dd_X_requests_34
    · -- 13: f to 16
      exact hz.elim (fun q => absurd (q.symm.trans h5) (by decide)) (fun q => absurd (q.symm.trans h13) (by decide))
set_option maxHeartbeats 4000000 in
set_option maxRecDepth 100000 in
theorem ct_X_requests (l : Launch) (x : fy) (S : fm) (hL : fL x) (c s0 : Nat) (hc : c < 5) (hs : s0 < xN x) (hO : fO x) : Met l mn_X_requests (gw_ws mn_X_requests cb_X_requests 3 (some .int)) ({ frames := 1, cells := 0, slots := 0, locals := 22 } : Room) (fPc x (S) [.ref (xa x 0 0), .int (nI c), .int (nI s0)]) (fQi x (S) (nI (mU S 13 (c * xN x + s0) 1))) 0 0 (fun q => xs x ≤ q) := by
  refine f_met (by decide) (Nat.le_of_ble_eq_true rfl) ?_
  intro p e s m below meth c0 cx hr hlocks hnm hP hS ls hl
  have cx : fX rn_X cb_X_requests 3 p c0 s m [.ref (xa x 0 0), .int (nI c), .int (nI s0)].toArray x := cx
  have hx := cx.1.1
  have hb := cx.1.2.1
  have hl : lv_has ls 3 [(0, .ref (xa x 0 0)), (1, .int (nI c)), (2, .int (nI s0))] := hl
  obtain ⟨v0, v1, v2, v3, v4, v5, v6, vC, vS, vR⟩ := hL
  obtain ⟨v13, v14, v13r, v14r⟩ := vR _ (row_lt hc hs)
  have hN : xN x ≤ 7 := hO.2.2.2.1
  refine lv_aload_n (pc := 0) hx hb dd_X_requests_0 rfl (lv_at hl 0 rfl) ?_
  refine lv_iload_n (pc := 1) hx hb dd_X_requests_1 rfl (lv_at hl 1 rfl) ?_
  refine k_X_X_isClient (pc := 2) cx hl hP hS (by assumption) (ct_X_isClient l x S ⟨v0, v1, v2, v3, v4, v5, v6, vC, vS, vR⟩ (nI c)) ⟨⟨rfl, rfl⟩, ⟨(Nat.le_of_ble_eq_true rfl), (Nat.le_of_ble_eq_true rfl)⟩, (Nat.le_of_ble_eq_true rfl), (Nat.le_of_ble_eq_true rfl)⟩ (Nat.le_of_ble_eq_true rfl) dd_X_requests_2 (fun H locs hP hS => ?_)
  refine f_eqB (pc := 5) (tgt := 33) cx dd_X_requests_5 (by decide) (fun h5 => ?_) (fun h5 => ?_)
  · -- 5: t to 33
    exact absurd (h5.symm.trans (q_cl_in hc)) (by decide)
  · -- 5: f to 8
    refine lv_aload_n (pc := 8) hx hb dd_X_requests_8 rfl (lv_at hl 0 rfl) ?_
    refine lv_iload_n (pc := 9) hx hb dd_X_requests_9 rfl (lv_at hl 2 rfl) ?_
    refine k_X_X_isServer (pc := 10) cx hl hP hS (by assumption) (ct_X_isServer l x S ⟨v0, v1, v2, v3, v4, v5, v6, vC, vS, vR⟩ (nI s0)) ⟨⟨rfl, rfl⟩, ⟨(Nat.le_of_ble_eq_true rfl), (Nat.le_of_ble_eq_true rfl)⟩, (Nat.le_of_ble_eq_true rfl), (Nat.le_of_ble_eq_true rfl)⟩ (Nat.le_of_ble_eq_true rfl) dd_X_requests_10 (fun H locs hP hS => ?_)
    refine f_eqB (pc := 13) (tgt := 33) cx dd_X_requests_13 (by decide) (fun h13 => ?_) (fun h13 => ?_)
    · -- 13: t to 33
      exact absurd (h13.symm.trans (q_sv_in hO hs)) (by decide)
    · -- 13: f to 16
      refine lv_aload_n (pc := 16) hx hb dd_X_requests_16 rfl (lv_at hl 0 rfl) ?_
      refine g_X_X_requestRows (pc := 17) cx hP (by assumption) dd_X_requests_17 ?_
      refine lv_aload_n (pc := 20) hx hb dd_X_requests_20 rfl (lv_at hl 0 rfl) ?_
      refine lv_iload_n (pc := 21) hx hb dd_X_requests_21 rfl (lv_at hl 1 rfl) ?_
      refine lv_iload_n (pc := 22) hx hb dd_X_requests_22 rfl (lv_at hl 2 rfl) ?_
      refine k_X_X_rowOf (pc := 23) cx hl hP hS (by assumption) (ct_X_rowOf l x S ⟨v0, v1, v2, v3, v4, v5, v6, vC, vS, vR⟩ c s0) ⟨⟨rfl, rfl⟩, ⟨(Nat.le_of_ble_eq_true rfl), (Nat.le_of_ble_eq_true rfl)⟩, (Nat.le_of_ble_eq_true rfl), (Nat.le_of_ble_eq_true rfl)⟩ (Nat.le_of_ble_eq_true rfl) dd_X_requests_23 (fun H locs hP hS => ?_)
      refine f_ald5 (pc := 26) cx hP (by assumption) rfl (row_lt hc hs) dd_X_requests_26 ?_
      refine g_X_R_size (pc := 27) cx hP (by assumption) dd_X_requests_27 ?_
      refine lv_goto (pc := 30) (tgt := 34) hx hb dd_X_requests_30 (by decide) ?_
      exact f_iret (pc := 34) cx hr hlocks hP hS rfl rfl dd_X_requests_34
set_option maxHeartbeats 4000000 in
set_option maxRecDepth 100000 in
theorem ct_X_replies_no (l : Launch) (x : fy) (S : fm) (hL : fL x) (z y : Int32) (hz : q_cl z = false ∨ q_sv x y = false) : Met l mn_X_replies (gw_ws mn_X_replies cb_X_replies 3 (some .int)) ({ frames := 1, cells := 0, slots := 0, locals := 22 } : Room) (fPc x (S) [.ref (xa x 0 0), .int z, .int y]) (fQi x (S) (-1)) 0 0 (fun q => xs x ≤ q) := by
  refine f_met (by decide) (Nat.le_of_ble_eq_true rfl) ?_
  intro p e s m below meth c0 cx hr hlocks hnm hP hS ls hl
  have cx : fX rn_X cb_X_replies 3 p c0 s m [.ref (xa x 0 0), .int z, .int y].toArray x := cx
  have hx := cx.1.1
  have hb := cx.1.2.1
  have hl : lv_has ls 3 [(0, .ref (xa x 0 0)), (1, .int z), (2, .int y)] := hl
  obtain ⟨v0, v1, v2, v3, v4, v5, v6, vC, vS, vR⟩ := hL
  refine lv_aload_n (pc := 0) hx hb dd_X_replies_0 rfl (lv_at hl 0 rfl) ?_
  refine lv_iload_n (pc := 1) hx hb dd_X_replies_1 rfl (lv_at hl 1 rfl) ?_
  refine k_X_X_isClient (pc := 2) cx hl hP hS (by assumption) (ct_X_isClient l x S ⟨v0, v1, v2, v3, v4, v5, v6, vC, vS, vR⟩ z) ⟨⟨rfl, rfl⟩, ⟨(Nat.le_of_ble_eq_true rfl), (Nat.le_of_ble_eq_true rfl)⟩, (Nat.le_of_ble_eq_true rfl), (Nat.le_of_ble_eq_true rfl)⟩ (Nat.le_of_ble_eq_true rfl) dd_X_replies_2 (fun H locs hP hS => ?_)
  refine f_eqB (pc := 5) (tgt := 33) cx dd_X_replies_5 (by decide) (fun h5 => ?_) (fun h5 => ?_)
  · -- 5: t to 33
    refine lv_iconst (pc := 33) (v := (-1)) hx hb dd_X_replies_33 (by decide) ?_
    exact f_iret (pc := 34) cx hr hlocks hP hS rfl rfl dd_X_replies_34
  · -- 5: f to 8
    refine lv_aload_n (pc := 8) hx hb dd_X_replies_8 rfl (lv_at hl 0 rfl) ?_
    refine lv_iload_n (pc := 9) hx hb dd_X_replies_9 rfl (lv_at hl 2 rfl) ?_
    refine k_X_X_isServer (pc := 10) cx hl hP hS (by assumption) (ct_X_isServer l x S ⟨v0, v1, v2, v3, v4, v5, v6, vC, vS, vR⟩ y) ⟨⟨rfl, rfl⟩, ⟨(Nat.le_of_ble_eq_true rfl), (Nat.le_of_ble_eq_true rfl)⟩, (Nat.le_of_ble_eq_true rfl), (Nat.le_of_ble_eq_true rfl)⟩ (Nat.le_of_ble_eq_true rfl) dd_X_replies_10 (fun H locs hP hS => ?_)
    refine f_eqB (pc := 13) (tgt := 33) cx dd_X_replies_13 (by decide) (fun h13 => ?_) (fun h13 => ?_)
    · -- 13: t to 33
      refine lv_iconst (pc := 33) (v := (-1)) hx hb dd_X_replies_33 (by decide) ?_
      exact f_iret (pc := 34) cx hr hlocks hP hS rfl rfl dd_X_replies_34
    · -- 13: f to 16
      exact hz.elim (fun q => absurd (q.symm.trans h5) (by decide)) (fun q => absurd (q.symm.trans h13) (by decide))
set_option maxHeartbeats 4000000 in
set_option maxRecDepth 100000 in
theorem ct_X_replies (l : Launch) (x : fy) (S : fm) (hL : fL x) (c s0 : Nat) (hc : c < 5) (hs : s0 < xN x) (hO : fO x) : Met l mn_X_replies (gw_ws mn_X_replies cb_X_replies 3 (some .int)) ({ frames := 1, cells := 0, slots := 0, locals := 22 } : Room) (fPc x (S) [.ref (xa x 0 0), .int (nI c), .int (nI s0)]) (fQi x (S) (nI (mU S 13 (100 + (c * xN x + s0)) 1))) 0 0 (fun q => xs x ≤ q) := by
  refine f_met (by decide) (Nat.le_of_ble_eq_true rfl) ?_
  intro p e s m below meth c0 cx hr hlocks hnm hP hS ls hl
  have cx : fX rn_X cb_X_replies 3 p c0 s m [.ref (xa x 0 0), .int (nI c), .int (nI s0)].toArray x := cx
  have hx := cx.1.1
  have hb := cx.1.2.1
  have hl : lv_has ls 3 [(0, .ref (xa x 0 0)), (1, .int (nI c)), (2, .int (nI s0))] := hl
  obtain ⟨v0, v1, v2, v3, v4, v5, v6, vC, vS, vR⟩ := hL
  obtain ⟨v13, v14, v13r, v14r⟩ := vR _ (row_lt hc hs)
  have hN : xN x ≤ 7 := hO.2.2.2.1
  refine lv_aload_n (pc := 0) hx hb dd_X_replies_0 rfl (lv_at hl 0 rfl) ?_
  refine lv_iload_n (pc := 1) hx hb dd_X_replies_1 rfl (lv_at hl 1 rfl) ?_
  refine k_X_X_isClient (pc := 2) cx hl hP hS (by assumption) (ct_X_isClient l x S ⟨v0, v1, v2, v3, v4, v5, v6, vC, vS, vR⟩ (nI c)) ⟨⟨rfl, rfl⟩, ⟨(Nat.le_of_ble_eq_true rfl), (Nat.le_of_ble_eq_true rfl)⟩, (Nat.le_of_ble_eq_true rfl), (Nat.le_of_ble_eq_true rfl)⟩ (Nat.le_of_ble_eq_true rfl) dd_X_replies_2 (fun H locs hP hS => ?_)
  refine f_eqB (pc := 5) (tgt := 33) cx dd_X_replies_5 (by decide) (fun h5 => ?_) (fun h5 => ?_)
  · -- 5: t to 33
    exact absurd (h5.symm.trans (q_cl_in hc)) (by decide)
  · -- 5: f to 8
    refine lv_aload_n (pc := 8) hx hb dd_X_replies_8 rfl (lv_at hl 0 rfl) ?_
    refine lv_iload_n (pc := 9) hx hb dd_X_replies_9 rfl (lv_at hl 2 rfl) ?_
    refine k_X_X_isServer (pc := 10) cx hl hP hS (by assumption) (ct_X_isServer l x S ⟨v0, v1, v2, v3, v4, v5, v6, vC, vS, vR⟩ (nI s0)) ⟨⟨rfl, rfl⟩, ⟨(Nat.le_of_ble_eq_true rfl), (Nat.le_of_ble_eq_true rfl)⟩, (Nat.le_of_ble_eq_true rfl), (Nat.le_of_ble_eq_true rfl)⟩ (Nat.le_of_ble_eq_true rfl) dd_X_replies_10 (fun H locs hP hS => ?_)
    refine f_eqB (pc := 13) (tgt := 33) cx dd_X_replies_13 (by decide) (fun h13 => ?_) (fun h13 => ?_)
    · -- 13: t to 33
      exact absurd (h13.symm.trans (q_sv_in hO hs)) (by decide)
    · -- 13: f to 16
      refine lv_aload_n (pc := 16) hx hb dd_X_replies_16 rfl (lv_at hl 0 rfl) ?_
      refine g_X_X_replyRows (pc := 17) cx hP (by assumption) dd_X_replies_17 ?_
      refine lv_aload_n (pc := 20) hx hb dd_X_replies_20 rfl (lv_at hl 0 rfl) ?_
      refine lv_iload_n (pc := 21) hx hb dd_X_replies_21 rfl (lv_at hl 1 rfl) ?_
      refine lv_iload_n (pc := 22) hx hb dd_X_replies_22 rfl (lv_at hl 2 rfl) ?_
      refine k_X_X_rowOf (pc := 23) cx hl hP hS (by assumption) (ct_X_rowOf l x S ⟨v0, v1, v2, v3, v4, v5, v6, vC, vS, vR⟩ c s0) ⟨⟨rfl, rfl⟩, ⟨(Nat.le_of_ble_eq_true rfl), (Nat.le_of_ble_eq_true rfl)⟩, (Nat.le_of_ble_eq_true rfl), (Nat.le_of_ble_eq_true rfl)⟩ (Nat.le_of_ble_eq_true rfl) dd_X_replies_23 (fun H locs hP hS => ?_)
      refine f_ald6 (pc := 26) cx hP (by assumption) rfl (row_lt hc hs) dd_X_replies_26 ?_
      refine g_X_R_size (pc := 27) cx hP (by assumption) dd_X_replies_27 ?_
      refine lv_goto (pc := 30) (tgt := 34) hx hb dd_X_replies_30 (by decide) ?_
      exact f_iret (pc := 34) cx hr hlocks hP hS rfl rfl dd_X_replies_34
set_option maxHeartbeats 4000000 in
set_option maxRecDepth 100000 in
theorem ct_X_quorum (l : Launch) (x : fy) (S : fm) (hL : fL x)  : Met l mn_X_quorum (gw_ws mn_X_quorum cb_X_quorum 1 (some .int)) ({ frames := 0, cells := 0, slots := 0, locals := 0 } : Room) (fPc x (S) [.ref (xa x 0 0)]) (fQi x (S) (nI (xQ x))) 0 0 (fun q => xs x ≤ q) := by
  refine f_met (by decide) (Nat.le_of_ble_eq_true rfl) ?_
  intro p e s m below meth c0 cx hr hlocks hnm hP hS ls hl
  have cx : fX rn_X cb_X_quorum 1 p c0 s m [.ref (xa x 0 0)].toArray x := cx
  have hx := cx.1.1
  have hb := cx.1.2.1
  have hl : lv_has ls 1 [(0, .ref (xa x 0 0))] := hl
  obtain ⟨v0, v1, v2, v3, v4, v5, v6, vC, vS, vR⟩ := hL
  refine lv_aload_n (pc := 0) hx hb dd_X_quorum_0 rfl (lv_at hl 0 rfl) ?_
  refine g_X_X_quorumSize (pc := 1) cx hP (by assumption) dd_X_quorum_1 ?_
  exact f_iret (pc := 4) cx hr hlocks hP hS rfl rfl dd_X_quorum_4
set_option maxHeartbeats 4000000 in
set_option maxRecDepth 100000 in
theorem ct_X_stop_no (l : Launch) (x : fy) (S : fm) (hL : fL x) (z : Int32) (hz : q_cl z = false) : Met l mn_X_stop (gw_ws mn_X_stop cb_X_stop 2 (some .boolean)) ({ frames := 1, cells := 0, slots := 0, locals := 21 } : Room) (fPc x (S) [.ref (xa x 0 0), .int z]) (fQi x (S) (b2 (false))) 0 0 (fun q => xs x ≤ q) := by
  refine f_met (by decide) (Nat.le_of_ble_eq_true rfl) ?_
  intro p e s m below meth c0 cx hr hlocks hnm hP hS ls hl
  have cx : fX rn_X cb_X_stop 2 p c0 s m [.ref (xa x 0 0), .int z].toArray x := cx
  have hx := cx.1.1
  have hb := cx.1.2.1
  have hl : lv_has ls 2 [(0, .ref (xa x 0 0)), (1, .int z)] := hl
  obtain ⟨v0, v1, v2, v3, v4, v5, v6, vC, vS, vR⟩ := hL
  refine lv_aload_n (pc := 0) hx hb dd_X_stop_0 rfl (lv_at hl 0 rfl) ?_
  refine lv_iload_n (pc := 1) hx hb dd_X_stop_1 rfl (lv_at hl 1 rfl) ?_
  refine k_X_X_isClient (pc := 2) cx hl hP hS (by assumption) (ct_X_isClient l x S ⟨v0, v1, v2, v3, v4, v5, v6, vC, vS, vR⟩ z) ⟨⟨rfl, rfl⟩, ⟨(Nat.le_of_ble_eq_true rfl), (Nat.le_of_ble_eq_true rfl)⟩, (Nat.le_of_ble_eq_true rfl), (Nat.le_of_ble_eq_true rfl)⟩ (Nat.le_of_ble_eq_true rfl) dd_X_stop_2 (fun H locs hP hS => ?_)
  refine f_eqB (pc := 5) (tgt := 20) cx dd_X_stop_5 (by decide) (fun h5 => ?_) (fun h5 => ?_)
  · -- 5: t to 20
    refine lv_iconst (pc := 20) (v := 0) hx hb dd_X_stop_20 (by decide) ?_
    exact f_zret (pc := 21) cx hr hlocks hP hS rfl rfl dd_X_stop_21
  · -- 5: f to 8
    exact absurd (hz.symm.trans h5) (by decide)
set_option maxHeartbeats 4000000 in
set_option maxRecDepth 100000 in
theorem ct_X_stop (l : Launch) (x : fy) (S : fm) (hL : fL x) (c : Nat) (hc : c < 5) : Met l mn_X_stop (gw_ws mn_X_stop cb_X_stop 2 (some .boolean)) ({ frames := 1, cells := 0, slots := 0, locals := 21 } : Room) (fPc x (S) [.ref (xa x 0 0), .int (nI c)]) (fQi x (if mB S 7 c 4 = true then S else sB S 7 c 4 true) (b2 (!mB S 7 c 4))) 0 0 (fun q => xs x ≤ q) := by
  refine f_met (by decide) (Nat.le_of_ble_eq_true rfl) ?_
  intro p e s m below meth c0 cx hr hlocks hnm hP hS ls hl
  have cx : fX rn_X cb_X_stop 2 p c0 s m [.ref (xa x 0 0), .int (nI c)].toArray x := cx
  have hx := cx.1.1
  have hb := cx.1.2.1
  have hl : lv_has ls 2 [(0, .ref (xa x 0 0)), (1, .int (nI c))] := hl
  obtain ⟨v0, v1, v2, v3, v4, v5, v6, vC, vS, vR⟩ := hL
  obtain ⟨v7, v8, v9⟩ := vC c hc
  refine lv_aload_n (pc := 0) hx hb dd_X_stop_0 rfl (lv_at hl 0 rfl) ?_
  refine lv_iload_n (pc := 1) hx hb dd_X_stop_1 rfl (lv_at hl 1 rfl) ?_
  refine k_X_X_isClient (pc := 2) cx hl hP hS (by assumption) (ct_X_isClient l x S ⟨v0, v1, v2, v3, v4, v5, v6, vC, vS, vR⟩ (nI c)) ⟨⟨rfl, rfl⟩, ⟨(Nat.le_of_ble_eq_true rfl), (Nat.le_of_ble_eq_true rfl)⟩, (Nat.le_of_ble_eq_true rfl), (Nat.le_of_ble_eq_true rfl)⟩ (Nat.le_of_ble_eq_true rfl) dd_X_stop_2 (fun H locs hP hS => ?_)
  refine f_eqB (pc := 5) (tgt := 20) cx dd_X_stop_5 (by decide) (fun h5 => ?_) (fun h5 => ?_)
  · -- 5: t to 20
    exact absurd (h5.symm.trans (q_cl_in hc)) (by decide)
  · -- 5: f to 8
    refine lv_aload_n (pc := 8) hx hb dd_X_stop_8 rfl (lv_at hl 0 rfl) ?_
    refine g_X_X_clients (pc := 9) cx hP (by assumption) dd_X_stop_9 ?_
    refine lv_iload_n (pc := 12) hx hb dd_X_stop_12 rfl (lv_at hl 1 rfl) ?_
    refine f_ald3 (pc := 13) cx hP (by assumption) rfl (by omega) dd_X_stop_13 ?_
    refine g_X_C_crashed (pc := 14) cx hP (by assumption) dd_X_stop_14 ?_
    refine f_eqB (pc := 17) (tgt := 22) cx dd_X_stop_17 (by decide) (fun h17 => ?_) (fun h17 => ?_)
    · -- 17: t to 22
      refine lv_aload_n (pc := 22) hx hb dd_X_stop_22 rfl (lv_at hl 0 rfl) ?_
      refine g_X_X_clients (pc := 23) cx hP (by assumption) dd_X_stop_23 ?_
      refine lv_iload_n (pc := 26) hx hb dd_X_stop_26 rfl (lv_at hl 1 rfl) ?_
      refine f_ald3 (pc := 27) cx hP (by assumption) rfl (by omega) dd_X_stop_27 ?_
      refine lv_iconst (pc := 28) (v := b2 true) hx hb dd_X_stop_28 (by decide) ?_
      refine p_X_C_crashed (pc := 29) cx hP hS (by assumption) rfl dd_X_stop_29 (fun H locs hP hS => ?_)
      refine lv_iconst (pc := 32) (v := 1) hx hb dd_X_stop_32 (by decide) ?_
      exact f_zret (pc := 33) cx hr hlocks hP hS (by simp [b2, *]) (by simp [*]) dd_X_stop_33
    · -- 17: f to 20
      refine lv_iconst (pc := 20) (v := 0) hx hb dd_X_stop_20 (by decide) ?_
      exact f_zret (pc := 21) cx hr hlocks hP hS (by simp [b2, *]) (by simp [*]) dd_X_stop_21
set_option maxHeartbeats 4000000 in
set_option maxRecDepth 100000 in
theorem ct_X_crash_no (l : Launch) (x : fy) (S : fm) (hL : fL x) (z : Int32) (hz : q_sv x z = false) : Met l mn_X_crash (gw_ws mn_X_crash cb_X_crash 3 (some .boolean)) ({ frames := 1, cells := 0, slots := 0, locals := 22 } : Room) (fPc x (S) [.ref (xa x 0 0), .int z]) (fQi x (S) (b2 (false))) 0 0 (fun q => xs x ≤ q) := by
  refine f_met (by decide) (Nat.le_of_ble_eq_true rfl) ?_
  intro p e s m below meth c0 cx hr hlocks hnm hP hS ls hl
  have cx : fX rn_X cb_X_crash 3 p c0 s m [.ref (xa x 0 0), .int z].toArray x := cx
  have hx := cx.1.1
  have hb := cx.1.2.1
  have hl : lv_has ls 3 [(0, .ref (xa x 0 0)), (1, .int z)] := hl
  obtain ⟨v0, v1, v2, v3, v4, v5, v6, vC, vS, vR⟩ := hL
  refine lv_aload_n (pc := 0) hx hb dd_X_crash_0 rfl (lv_at hl 0 rfl) ?_
  refine lv_iload_n (pc := 1) hx hb dd_X_crash_1 rfl (lv_at hl 1 rfl) ?_
  refine k_X_X_isServer (pc := 2) cx hl hP hS (by assumption) (ct_X_isServer l x S ⟨v0, v1, v2, v3, v4, v5, v6, vC, vS, vR⟩ z) ⟨⟨rfl, rfl⟩, ⟨(Nat.le_of_ble_eq_true rfl), (Nat.le_of_ble_eq_true rfl)⟩, (Nat.le_of_ble_eq_true rfl), (Nat.le_of_ble_eq_true rfl)⟩ (Nat.le_of_ble_eq_true rfl) dd_X_crash_2 (fun H locs hP hS => ?_)
  refine f_eqB (pc := 5) (tgt := 31) cx dd_X_crash_5 (by decide) (fun h5 => ?_) (fun h5 => ?_)
  · -- 5: t to 31
    refine lv_iconst (pc := 31) (v := 0) hx hb dd_X_crash_31 (by decide) ?_
    exact f_zret (pc := 32) cx hr hlocks hP hS rfl rfl dd_X_crash_32
  · -- 5: f to 8
    exact absurd (hz.symm.trans h5) (by decide)
set_option maxHeartbeats 4000000 in
set_option maxRecDepth 100000 in
theorem ct_X_crash (l : Launch) (x : fy) (S : fm) (hL : fL x) (s0 : Nat) (hs : s0 < xN x) (hO : fO x) : Met l mn_X_crash (gw_ws mn_X_crash cb_X_crash 3 (some .boolean)) ({ frames := 1, cells := 0, slots := 0, locals := 22 } : Room) (fPc x (S) [.ref (xa x 0 0), .int (nI s0)]) (fQi x (if q_crash x S s0 = true then e_crash x S s0 else S) (b2 (q_crash x S s0))) 0 0 (fun q => xs x ≤ q) := by
  refine f_met (by decide) (Nat.le_of_ble_eq_true rfl) ?_
  intro p e s m below meth c0 cx hr hlocks hnm hP hS ls hl
  have cx : fX rn_X cb_X_crash 3 p c0 s m [.ref (xa x 0 0), .int (nI s0)].toArray x := cx
  have hx := cx.1.1
  have hb := cx.1.2.1
  have hl : lv_has ls 3 [(0, .ref (xa x 0 0)), (1, .int (nI s0))] := hl
  obtain ⟨v0, v1, v2, v3, v4, v5, v6, vC, vS, vR⟩ := hL
  obtain ⟨v10, v11, v12⟩ := vS s0 hs
  have hN : xN x ≤ 7 := hO.2.2.2.1
  have loop : q_crash x S s0 = true → ∀ (n i : Nat) (H : Heap) (locs : List Loc), i + n = 5 → fP x (e_crs x (sI (sB S 10 s0 5 true) 0 0 7 (mI S 0 0 7 + 1)) s0 (i)) H → fS x s.heap H locs → ∀ ls : Array Slot, lv_has ls 3 [(2, .int (nI i)), (0, .ref (xa x 0 0)), (1, .int (nI s0))] → W p l e ({ frames := 1, cells := 0, slots := 0, locals := 22 } : Room) s m [.ref (xa x 0 0), .int (nI s0)].toArray below meth c0 H locs 0 0 (MQ below (fQi x (if q_crash x S s0 = true then e_crash x S s0 else S) (b2 (q_crash x S s0))) [.ref (xa x 0 0), .int (nI s0)].toArray s 0 0 (fun q => xs x ≤ q)) (F0 m 55 ls []) := by
    intro hq n
    induction n with
    | zero =>
      intro i H locs hi hP hS ls hl
      have hi : i = 5 := by omega
      subst hi
      refine lv_iload_n (pc := 55) hx hb dd_X_crash_55 rfl (lv_at hl 0 rfl) ?_
      refine lv_iconst (pc := 56) (v := nI 5) hx hb dd_X_crash_56 (by decide) ?_
      refine lv_icmp_ge (pc := 57) (tgt := 80) hx hb dd_X_crash_57 (by decide) (fun h57 => ?_) (fun h57 => ?_)
      · -- 57: t to 80
        refine lv_iconst (pc := 80) (v := 1) hx hb dd_X_crash_80 (by decide) ?_
        exact f_zret (pc := 81) cx hr hlocks hP hS (by rw [hq]; rfl) (by rw [if_pos hq]; rfl) dd_X_crash_81
      · -- 57: f to 60
        exact absurd ((nI_leI (by omega) (by omega)).mpr (Nat.le_refl _)) h57
    | succ n ih =>
      intro i H locs hi hP hS ls hl
      obtain ⟨v13, v14, v13r, v14r⟩ := vR _ (row_lt (show i < 5 by omega) hs)
      refine lv_iload_n (pc := 55) hx hb dd_X_crash_55 rfl (lv_at hl 0 rfl) ?_
      refine lv_iconst (pc := 56) (v := nI 5) hx hb dd_X_crash_56 (by decide) ?_
      refine lv_icmp_ge (pc := 57) (tgt := 80) hx hb dd_X_crash_57 (by decide) (fun h57 => ?_) (fun h57 => ?_)
      · -- 57: t to 80
        exact absurd ((nI_leI (by omega) (by omega)).mp h57) (by omega)
      · -- 57: f to 60
        refine lv_aload_n (pc := 60) hx hb dd_X_crash_60 rfl (lv_at hl 1 rfl) ?_
        refine g_X_X_requestRows (pc := 61) cx hP (by assumption) dd_X_crash_61 ?_
        refine lv_aload_n (pc := 64) hx hb dd_X_crash_64 rfl (lv_at hl 1 rfl) ?_
        refine lv_iload_n (pc := 65) hx hb dd_X_crash_65 rfl (lv_at hl 0 rfl) ?_
        refine lv_iload_n (pc := 66) hx hb dd_X_crash_66 rfl (lv_at hl 2 rfl) ?_
        refine k_X_X_rowOf (pc := 67) cx hl hP hS (by assumption) (ct_X_rowOf l x _ ⟨v0, v1, v2, v3, v4, v5, v6, vC, vS, vR⟩ i s0) ⟨⟨rfl, rfl⟩, ⟨(Nat.le_of_ble_eq_true rfl), (Nat.le_of_ble_eq_true rfl)⟩, (Nat.le_of_ble_eq_true rfl), (Nat.le_of_ble_eq_true rfl)⟩ (Nat.le_of_ble_eq_true rfl) dd_X_crash_67 (fun H locs hP hS => ?_)
        refine f_ald5 (pc := 70) cx hP (by assumption) rfl (row_lt (by omega) hs) dd_X_crash_70 ?_
        refine k_X_R_lose (pc := 71) cx hl hP hS (by assumption) (ct_R_lose l x _ (i * xN x + s0) v13 v14) ⟨⟨rfl, rfl⟩, ⟨(Nat.le_of_ble_eq_true rfl), (Nat.le_of_ble_eq_true rfl)⟩, (Nat.le_of_ble_eq_true rfl), (Nat.le_of_ble_eq_true rfl)⟩ (Nat.le_of_ble_eq_true rfl) dd_X_crash_71 (fun H locs hP hS => ?_)
        refine lv_iinc (pc := 74) (k := 0) (lv' := [(2, _), (0, _), (1, _)]) hx hb dd_X_crash_74 hl rfl (f_inc1 i) (Nat.le_of_ble_eq_true rfl) rfl (fun ls hl => ?_)
        refine lv_goto (pc := 77) (tgt := 55) hx hb dd_X_crash_77 (by decide) ?_
        exact ih (i + 1) _ _ (by omega) hP hS ls (lv_sub hl [0, 1, 2] rfl)
  refine lv_aload_n (pc := 0) hx hb dd_X_crash_0 rfl (lv_at hl 0 rfl) ?_
  refine lv_iload_n (pc := 1) hx hb dd_X_crash_1 rfl (lv_at hl 1 rfl) ?_
  refine k_X_X_isServer (pc := 2) cx hl hP hS (by assumption) (ct_X_isServer l x S ⟨v0, v1, v2, v3, v4, v5, v6, vC, vS, vR⟩ (nI s0)) ⟨⟨rfl, rfl⟩, ⟨(Nat.le_of_ble_eq_true rfl), (Nat.le_of_ble_eq_true rfl)⟩, (Nat.le_of_ble_eq_true rfl), (Nat.le_of_ble_eq_true rfl)⟩ (Nat.le_of_ble_eq_true rfl) dd_X_crash_2 (fun H locs hP hS => ?_)
  refine f_eqB (pc := 5) (tgt := 31) cx dd_X_crash_5 (by decide) (fun h5 => ?_) (fun h5 => ?_)
  · -- 5: t to 31
    exact absurd (h5.symm.trans (q_sv_in hO hs)) (by decide)
  · -- 5: f to 8
    refine lv_aload_n (pc := 8) hx hb dd_X_crash_8 rfl (lv_at hl 0 rfl) ?_
    refine g_X_X_servers (pc := 9) cx hP (by assumption) dd_X_crash_9 ?_
    refine lv_iload_n (pc := 12) hx hb dd_X_crash_12 rfl (lv_at hl 1 rfl) ?_
    refine f_ald4 (pc := 13) cx hP (by assumption) rfl (by omega) dd_X_crash_13 ?_
    refine g_X_S_crashed (pc := 14) cx hP (by assumption) dd_X_crash_14 ?_
    refine f_neB (pc := 17) (tgt := 31) cx dd_X_crash_17 (by decide) (fun h17 => ?_) (fun h17 => ?_)
    · -- 17: t to 31
      refine lv_iconst (pc := 31) (v := 0) hx hb dd_X_crash_31 (by decide) ?_
      exact f_zret (pc := 32) cx hr hlocks hP hS (by simp [q_crash, b2, *]) (by simp [q_crash, *]) dd_X_crash_32
    · -- 17: f to 20
      refine lv_aload_n (pc := 20) hx hb dd_X_crash_20 rfl (lv_at hl 0 rfl) ?_
      refine g_X_X_crashes (pc := 21) cx hP (by assumption) dd_X_crash_21 ?_
      refine lv_aload_n (pc := 24) hx hb dd_X_crash_24 rfl (lv_at hl 0 rfl) ?_
      refine g_X_X_mostCrashes (pc := 25) cx hP (by assumption) dd_X_crash_25 ?_
      refine lv_icmp_lt (pc := 28) (tgt := 33) hx hb dd_X_crash_28 (by decide) (fun h28 => ?_) (fun h28 => ?_)
      · -- 28: t to 33
        refine lv_aload_n (pc := 33) hx hb dd_X_crash_33 rfl (lv_at hl 0 rfl) ?_
        refine g_X_X_servers (pc := 34) cx hP (by assumption) dd_X_crash_34 ?_
        refine lv_iload_n (pc := 37) hx hb dd_X_crash_37 rfl (lv_at hl 1 rfl) ?_
        refine f_ald4 (pc := 38) cx hP (by assumption) rfl (by omega) dd_X_crash_38 ?_
        refine lv_iconst (pc := 39) (v := b2 true) hx hb dd_X_crash_39 (by decide) ?_
        refine p_X_S_crashed (pc := 40) cx hP hS (by assumption) rfl dd_X_crash_40 (fun H locs hP hS => ?_)
        refine lv_aload_n (pc := 43) hx hb dd_X_crash_43 rfl (lv_at hl 0 rfl) ?_
        refine lv_dup (pc := 44) hx hb dd_X_crash_44 rfl ?_
        refine g_X_X_crashes (pc := 45) cx hP (by assumption) dd_X_crash_45 ?_
        refine lv_iconst (pc := 48) (v := 1) hx hb dd_X_crash_48 (by decide) ?_
        refine lv_iadd (pc := 49) hx hb dd_X_crash_49 ?_
        refine p_X_X_crashes (pc := 50) cx hP hS (by assumption) dd_X_crash_50 (fun H locs hP hS => ?_)
        refine lv_iconst (pc := 53) (v := nI 0) hx hb dd_X_crash_53 (by decide) ?_
        refine lv_istore_n (pc := 54) (lv' := [(2, _), (0, _), (1, _)]) hx hb dd_X_crash_54 rfl hl (Nat.le_of_ble_eq_true rfl) rfl (fun ls hl => ?_)
        exact loop (by simp [q_crash, *]) 5 0 _ _ (by omega) hP hS ls (lv_sub hl [0, 1, 2] rfl)
      · -- 28: f to 31
        refine lv_iconst (pc := 31) (v := 0) hx hb dd_X_crash_31 (by decide) ?_
        exact f_zret (pc := 32) cx hr hlocks hP hS (by simp [q_crash, b2, *]) (by simp [q_crash, *]) dd_X_crash_32
