-- contracts of Code, by wip/whole/gen/c_code.py
set_option maxHeartbeats 4000000 in
set_option maxRecDepth 100000 in
theorem ct_K_pointOf (l : Launch) (x : fy) (S : fm) (z : Int32) : Met l mn_K_pointOf (gw_ws mn_K_pointOf cb_K_pointOf 1 (some .int)) ({ frames := 0, cells := 0, slots := 0, locals := 0 } : Room) (fPc x (S) [.int z]) (fQi x (S) (z + 1)) 0 0 (fun q => xs x ≤ q) := by
  refine f_met (by decide) (Nat.le_of_ble_eq_true rfl) ?_
  intro p e s m below meth c0 cx hr hlocks hnm hP hS ls hl
  have cx : fX rn_K cb_K_pointOf 1 p c0 s m [.int z].toArray x := cx
  have hx := cx.1.1
  have hb := cx.1.2.1
  have hl : lv_has ls 1 [(0, .int z)] := hl
  refine lv_iload_n (pc := 0) hx hb dd_K_pointOf_0 rfl (lv_at hl 0 rfl) ?_
  refine lv_iconst (pc := 1) (v := 1) hx hb dd_K_pointOf_1 (by decide) ?_
  refine lv_iadd (pc := 2) hx hb dd_K_pointOf_2 ?_
  exact f_iret (pc := 3) cx hr hlocks hP hS rfl rfl dd_K_pointOf_3
set_option maxHeartbeats 4000000 in
set_option maxRecDepth 100000 in
theorem ct_K_byteAt (l : Launch) (x : fy) (S : fm) (w : Int64) (j : Nat) (hj : j < 1000) : Met l mn_K_byteAt (gw_ws mn_K_byteAt cb_K_byteAt 3 (some .int)) ({ frames := 0, cells := 0, slots := 0, locals := 0 } : Room) (fPc x (S) [.long w, .int (nI j)]) (fQi x (S) (bI (by8 w j))) 0 0 (fun q => xs x ≤ q) := by
  refine f_met (by decide) (Nat.le_of_ble_eq_true rfl) ?_
  intro p e s m below meth c0 cx hr hlocks hnm hP hS ls hl
  have cx : fX rn_K cb_K_byteAt 3 p c0 s m [.long w, .int (nI j)].toArray x := cx
  have hx := cx.1.1
  have hb := cx.1.2.1
  have hl : lv_has ls 3 [(0, .long w), (2, .int (nI j))] := hl
  refine lv_iload_n (pc := 0) hx hb dd_K_byteAt_0 rfl (lv_at hl 1 rfl) ?_
  refine lv_if_lt (pc := 1) (tgt := 24) hx hb dd_K_byteAt_1 (by decide) (fun h1 => ?_) (fun h1 => ?_)
  · -- 1: t to 24
    exact absurd h1 (nI_pos (by omega))
  · -- 1: f to 4
    refine lv_iload_n (pc := 4) hx hb dd_K_byteAt_4 rfl (lv_at hl 1 rfl) ?_
    refine lv_bipush (pc := 5) (v := nI 8) hx hb dd_K_byteAt_5 (by decide) ?_
    refine lv_icmp_ge (pc := 7) (tgt := 24) hx hb dd_K_byteAt_7 (by decide) (fun h7 => ?_) (fun h7 => ?_)
    · -- 7: t to 24
      have h := (nI_leI (by omega) (by omega)).mp h7
      have e0 : (0 : Int32) = bI (by8 w j) := by rw [by8_big w h]; exact bI_0.symm
      refine lv_iconst (pc := 24) (v := 0) hx hb dd_K_byteAt_24 (by decide) ?_
      exact f_iret (pc := 25) cx hr hlocks hP hS (by assumption) rfl dd_K_byteAt_25
    · -- 7: f to 10
      have h : j < 8 := Nat.lt_of_not_le (fun q => h7 ((nI_leI (by omega) (by omega)).mpr q))
      have e0 := by8_at w h
      refine lv_lload_n (pc := 10) hx hb dd_K_byteAt_10 rfl (lv_at hl 0 rfl) ?_
      refine lv_bipush (pc := 11) (v := 8) hx hb dd_K_byteAt_11 (by decide) ?_
      refine lv_iload_n (pc := 13) hx hb dd_K_byteAt_13 rfl (lv_at hl 1 rfl) ?_
      refine lv_imul (pc := 14) hx hb dd_K_byteAt_14 ?_
      refine lv_lushr (pc := 15) hx hb dd_K_byteAt_15 rfl ?_
      refine lv_l2i (pc := 16) hx hb dd_K_byteAt_16 rfl ?_
      refine lv_sipush (pc := 17) (v := 255) hx hb dd_K_byteAt_17 (by decide) ?_
      refine lv_iand (pc := 20) hx hb dd_K_byteAt_20 ?_
      refine lv_goto (pc := 21) (tgt := 25) hx hb dd_K_byteAt_21 (by decide) ?_
      exact f_iret (pc := 25) cx hr hlocks hP hS (by assumption) rfl dd_K_byteAt_25
set_option maxHeartbeats 4000000 in
set_option maxRecDepth 100000 in
theorem ct_K_placed (l : Launch) (x : fy) (S : fm) (v : BitVec 8) (j : Nat) (hj : j < 1000) : Met l mn_K_placed (gw_ws mn_K_placed cb_K_placed 2 (some .long)) ({ frames := 0, cells := 0, slots := 0, locals := 0 } : Room) (fPc x (S) [.int (bI v), .int (nI j)]) (fQl x (S) (pl8 v j)) 0 0 (fun q => xs x ≤ q) := by
  refine f_met (by decide) (Nat.le_of_ble_eq_true rfl) ?_
  intro p e s m below meth c0 cx hr hlocks hnm hP hS ls hl
  have cx : fX rn_K cb_K_placed 2 p c0 s m [.int (bI v), .int (nI j)].toArray x := cx
  have hx := cx.1.1
  have hb := cx.1.2.1
  have hl : lv_has ls 2 [(0, .int (bI v)), (1, .int (nI j))] := hl
  refine lv_iload_n (pc := 0) hx hb dd_K_placed_0 rfl (lv_at hl 1 rfl) ?_
  refine lv_if_lt (pc := 1) (tgt := 20) hx hb dd_K_placed_1 (by decide) (fun h1 => ?_) (fun h1 => ?_)
  · -- 1: t to 20
    exact absurd h1 (nI_pos (by omega))
  · -- 1: f to 4
    refine lv_iload_n (pc := 4) hx hb dd_K_placed_4 rfl (lv_at hl 1 rfl) ?_
    refine lv_bipush (pc := 5) (v := nI 8) hx hb dd_K_placed_5 (by decide) ?_
    refine lv_icmp_ge (pc := 7) (tgt := 20) hx hb dd_K_placed_7 (by decide) (fun h7 => ?_) (fun h7 => ?_)
    · -- 7: t to 20
      have h := (nI_leI (by omega) (by omega)).mp h7
      have e0 : (0 : Int64) = pl8 v j := (pl8_big v h).symm
      refine lv_lconst (pc := 20) (v := 0) hx hb dd_K_placed_20 (by decide) ?_
      exact f_lret (pc := 21) cx hr hlocks hP hS (by assumption) rfl dd_K_placed_21
    · -- 7: f to 10
      have h : j < 8 := Nat.lt_of_not_le (fun q => h7 ((nI_leI (by omega) (by omega)).mpr q))
      have e0 := pl8_at v h
      refine lv_iload_n (pc := 10) hx hb dd_K_placed_10 rfl (lv_at hl 0 rfl) ?_
      refine lv_i2l (pc := 11) hx hb dd_K_placed_11 rfl ?_
      refine lv_bipush (pc := 12) (v := 8) hx hb dd_K_placed_12 (by decide) ?_
      refine lv_iload_n (pc := 14) hx hb dd_K_placed_14 rfl (lv_at hl 1 rfl) ?_
      refine lv_imul (pc := 15) hx hb dd_K_placed_15 ?_
      refine lv_lshl (pc := 16) hx hb dd_K_placed_16 rfl ?_
      refine lv_goto (pc := 17) (tgt := 21) hx hb dd_K_placed_17 (by decide) ?_
      exact f_lret (pc := 21) cx hr hlocks hP hS (by assumption) rfl dd_K_placed_21
set_option maxHeartbeats 4000000 in
set_option maxRecDepth 100000 in
theorem ct_K_times (l : Launch) (x : fy) (S : fm) (a b : BitVec 8) : Met l mn_K_times (gw_ws mn_K_times cb_K_times 5 (some .int)) ({ frames := 0, cells := 0, slots := 0, locals := 0 } : Room) (fPc x (S) [.int (bI a), .int (bI b)]) (fQi x (S) (bI (gf_m a b))) 0 0 (fun q => xs x ≤ q) := by
  refine f_met (by decide) (Nat.le_of_ble_eq_true rfl) ?_
  intro p e s m below meth c0 cx hr hlocks hnm hP hS ls hl
  have cx : fX rn_K cb_K_times 5 p c0 s m [.int (bI a), .int (bI b)].toArray x := cx
  have hx := cx.1.1
  have hb := cx.1.2.1
  have hl : lv_has ls 5 [(0, .int (bI a)), (1, .int (bI b))] := hl
  have loop : ∀ (n i : Nat) (su sh : Int32), i ≤ 8 → 8 - i < n → su = bI (gf_s i a b) → sh = bI (gf_p i a) → ∀ ls : Array Slot, lv_has ls 5 [(4, .int (nI i)), (3, .int sh), (2, .int su), (0, .int (bI a)), (1, .int (bI b))] → W p l e ({ frames := 0, cells := 0, slots := 0, locals := 0 } : Room) s m [.int (bI a), .int (bI b)].toArray below meth c0 s.heap [] 0 0 (MQ below (fQi x (S) (bI (gf_m a b))) [.int (bI a), .int (bI b)].toArray s 0 0 (fun q => xs x ≤ q)) (F0 m 7 ls []) := by
    intro n
    induction n with
    | zero => intro i su sh _ h; omega
    | succ n ih =>
      intro i su sh hi hn e1 e2 ls hl
      subst e1; subst e2
      refine lv_iload (pc := 7) hx hb dd_K_times_7 (lv_at hl 0 rfl) ?_
      refine lv_bipush (pc := 9) (v := nI 8) hx hb dd_K_times_9 (by decide) ?_
      refine lv_icmp_ge (pc := 11) (tgt := 51) hx hb dd_K_times_11 (by decide) (fun h11 => ?_) (fun h11 => ?_)
      · -- 11: t to 51
        have h := (nI_leI (by omega) (by omega)).mp h11
        have hi8 : i = 8 := by omega
        subst hi8
        refine lv_iload_n (pc := 51) hx hb dd_K_times_51 rfl (lv_at hl 2 rfl) ?_
        exact f_iret (pc := 52) cx hr hlocks hP hS rfl rfl dd_K_times_52
      · -- 11: f to 14
        have h : i < 8 := Nat.lt_of_not_le (fun q => h11 ((nI_leI (by omega) (by omega)).mpr q))
        refine lv_iload_n (pc := 14) hx hb dd_K_times_14 rfl (lv_at hl 4 rfl) ?_
        refine lv_iload (pc := 15) hx hb dd_K_times_15 (lv_at hl 0 rfl) ?_
        refine lv_ishr (pc := 17) hx hb dd_K_times_17 ?_
        refine lv_iconst (pc := 18) (v := 1) hx hb dd_K_times_18 (by decide) ?_
        refine lv_iand (pc := 19) hx hb dd_K_times_19 ?_
        refine lv_if_eq (pc := 20) (tgt := 27) hx hb dd_K_times_20 (by decide) (fun h20 => ?_) (fun h20 => ?_)
        · -- 20: t to 27
          have hbit := (bt_bit b h).mp h20
          have hsu : bI (gf_s i a b) = bI (gf_s (i + 1) a b) := by rw [gf_sf hbit]
          refine lv_iload_n (pc := 27) hx hb dd_K_times_27 rfl (lv_at hl 1 rfl) ?_
          refine lv_iconst (pc := 28) (v := 1) hx hb dd_K_times_28 (by decide) ?_
          refine lv_ishl (pc := 29) hx hb dd_K_times_29 ?_
          refine lv_istore_n (pc := 30) (lv' := [(3, _), (4, _), (2, _), (0, _), (1, _)]) hx hb dd_K_times_30 rfl hl (Nat.le_of_ble_eq_true rfl) rfl (fun ls hl => ?_)
          refine lv_iload_n (pc := 31) hx hb dd_K_times_31 rfl (lv_at hl 0 rfl) ?_
          refine lv_sipush (pc := 32) (v := 256) hx hb dd_K_times_32 (by decide) ?_
          refine lv_iand (pc := 35) hx hb dd_K_times_35 ?_
          refine lv_if_eq (pc := 36) (tgt := 45) hx hb dd_K_times_36 (by decide) (fun h36 => ?_) (fun h36 => ?_)
          · -- 36: t to 45
            have hsh := (bt_sh (gf_p i a)).1 h36
            refine lv_iinc (pc := 45) (k := 1) (lv' := [(4, _), (3, _), (2, _), (0, _), (1, _)]) hx hb dd_K_times_45 hl rfl (f_inc1 i) (Nat.le_of_ble_eq_true rfl) rfl (fun ls hl => ?_)
            refine lv_goto (pc := 48) (tgt := 7) hx hb dd_K_times_48 (by decide) ?_
            exact ih (i + 1) _ _ (by omega) (by omega) hsu hsh ls (lv_sub hl [0, 1, 2, 3, 4] rfl)
          · -- 36: f to 39
            have hsh := (bt_sh (gf_p i a)).2 h36
            refine lv_iload_n (pc := 39) hx hb dd_K_times_39 rfl (lv_at hl 0 rfl) ?_
            refine lv_sipush (pc := 40) (v := 285) hx hb dd_K_times_40 (by decide) ?_
            refine lv_ixor (pc := 43) hx hb dd_K_times_43 ?_
            refine lv_istore_n (pc := 44) (lv' := [(3, _), (4, _), (2, _), (0, _), (1, _)]) hx hb dd_K_times_44 rfl hl (Nat.le_of_ble_eq_true rfl) rfl (fun ls hl => ?_)
            refine lv_iinc (pc := 45) (k := 1) (lv' := [(4, _), (3, _), (2, _), (0, _), (1, _)]) hx hb dd_K_times_45 hl rfl (f_inc1 i) (Nat.le_of_ble_eq_true rfl) rfl (fun ls hl => ?_)
            refine lv_goto (pc := 48) (tgt := 7) hx hb dd_K_times_48 (by decide) ?_
            exact ih (i + 1) _ _ (by omega) (by omega) hsu hsh ls (lv_sub hl [0, 1, 2, 3, 4] rfl)
        · -- 20: f to 23
          have hbit : b.getLsbD i = true := by
            cases hz : b.getLsbD i with
            | true => rfl
            | false => exact absurd ((bt_bit b h).mpr hz) h20
          have hsu : bI (gf_s i a b) ^^^ bI (gf_p i a) = bI (gf_s (i + 1) a b) := by rw [gf_st hbit, bI_xor]
          refine lv_iload_n (pc := 23) hx hb dd_K_times_23 rfl (lv_at hl 2 rfl) ?_
          refine lv_iload_n (pc := 24) hx hb dd_K_times_24 rfl (lv_at hl 1 rfl) ?_
          refine lv_ixor (pc := 25) hx hb dd_K_times_25 ?_
          refine lv_istore_n (pc := 26) (lv' := [(2, _), (4, _), (3, _), (0, _), (1, _)]) hx hb dd_K_times_26 rfl hl (Nat.le_of_ble_eq_true rfl) rfl (fun ls hl => ?_)
          refine lv_iload_n (pc := 27) hx hb dd_K_times_27 rfl (lv_at hl 2 rfl) ?_
          refine lv_iconst (pc := 28) (v := 1) hx hb dd_K_times_28 (by decide) ?_
          refine lv_ishl (pc := 29) hx hb dd_K_times_29 ?_
          refine lv_istore_n (pc := 30) (lv' := [(3, _), (2, _), (4, _), (0, _), (1, _)]) hx hb dd_K_times_30 rfl hl (Nat.le_of_ble_eq_true rfl) rfl (fun ls hl => ?_)
          refine lv_iload_n (pc := 31) hx hb dd_K_times_31 rfl (lv_at hl 0 rfl) ?_
          refine lv_sipush (pc := 32) (v := 256) hx hb dd_K_times_32 (by decide) ?_
          refine lv_iand (pc := 35) hx hb dd_K_times_35 ?_
          refine lv_if_eq (pc := 36) (tgt := 45) hx hb dd_K_times_36 (by decide) (fun h36 => ?_) (fun h36 => ?_)
          · -- 36: t to 45
            have hsh := (bt_sh (gf_p i a)).1 h36
            refine lv_iinc (pc := 45) (k := 2) (lv' := [(4, _), (3, _), (2, _), (0, _), (1, _)]) hx hb dd_K_times_45 hl rfl (f_inc1 i) (Nat.le_of_ble_eq_true rfl) rfl (fun ls hl => ?_)
            refine lv_goto (pc := 48) (tgt := 7) hx hb dd_K_times_48 (by decide) ?_
            exact ih (i + 1) _ _ (by omega) (by omega) hsu hsh ls (lv_sub hl [0, 1, 2, 3, 4] rfl)
          · -- 36: f to 39
            have hsh := (bt_sh (gf_p i a)).2 h36
            refine lv_iload_n (pc := 39) hx hb dd_K_times_39 rfl (lv_at hl 0 rfl) ?_
            refine lv_sipush (pc := 40) (v := 285) hx hb dd_K_times_40 (by decide) ?_
            refine lv_ixor (pc := 43) hx hb dd_K_times_43 ?_
            refine lv_istore_n (pc := 44) (lv' := [(3, _), (2, _), (4, _), (0, _), (1, _)]) hx hb dd_K_times_44 rfl hl (Nat.le_of_ble_eq_true rfl) rfl (fun ls hl => ?_)
            refine lv_iinc (pc := 45) (k := 2) (lv' := [(4, _), (3, _), (2, _), (0, _), (1, _)]) hx hb dd_K_times_45 hl rfl (f_inc1 i) (Nat.le_of_ble_eq_true rfl) rfl (fun ls hl => ?_)
            refine lv_goto (pc := 48) (tgt := 7) hx hb dd_K_times_48 (by decide) ?_
            exact ih (i + 1) _ _ (by omega) (by omega) hsu hsh ls (lv_sub hl [0, 1, 2, 3, 4] rfl)
  refine lv_iconst (pc := 0) (v := 0) hx hb dd_K_times_0 (by decide) ?_
  refine lv_istore_n (pc := 1) (lv' := [(2, _), (0, _), (1, _)]) hx hb dd_K_times_1 rfl hl (Nat.le_of_ble_eq_true rfl) rfl (fun ls hl => ?_)
  refine lv_iload_n (pc := 2) hx hb dd_K_times_2 rfl (lv_at hl 1 rfl) ?_
  refine lv_istore_n (pc := 3) (lv' := [(3, _), (2, _), (0, _), (1, _)]) hx hb dd_K_times_3 rfl hl (Nat.le_of_ble_eq_true rfl) rfl (fun ls hl => ?_)
  refine lv_iconst (pc := 4) (v := nI 0) hx hb dd_K_times_4 (by decide) ?_
  refine lv_istore (pc := 5) (lv' := [(4, _), (3, _), (2, _), (0, _), (1, _)]) hx hb dd_K_times_5 hl (Nat.le_of_ble_eq_true rfl) rfl (fun ls hl => ?_)
  exact loop 9 0 _ _ (by omega) (by omega) bI_0.symm rfl ls (lv_sub hl [0, 1, 2, 3, 4] rfl)
set_option maxHeartbeats 4000000 in
set_option maxRecDepth 100000 in
theorem ct_K_inverse (l : Launch) (x : fy) (S : fm) (a : BitVec 8) : Met l mn_K_inverse (gw_ws mn_K_inverse cb_K_inverse 4 (some .int)) ({ frames := 1, cells := 0, slots := 0, locals := 24 } : Room) (fPc x (S) [.int (bI a)]) (fQi x (S) (bI (gf_i a))) 0 0 (fun q => xs x ≤ q) := by
  refine f_met (by decide) (Nat.le_of_ble_eq_true rfl) ?_
  intro p e s m below meth c0 cx hr hlocks hnm hP hS ls hl
  have cx : fX rn_K cb_K_inverse 4 p c0 s m [.int (bI a)].toArray x := cx
  have hx := cx.1.1
  have hb := cx.1.2.1
  have hl : lv_has ls 4 [(0, .int (bI a))] := hl
  have loop : ∀ (n i : Nat) (rs pw : Int32) (H : Heap) (locs : List Loc), i ≤ 7 → 7 - i < n → rs = bI (gf_r i a) → pw = bI (gf_q i a) → fP x S H → fS x s.heap H locs → ∀ ls : Array Slot, lv_has ls 4 [(3, .int (nI (i + 1))), (2, .int rs), (1, .int pw), (0, .int (bI a))] → W p l e ({ frames := 1, cells := 0, slots := 0, locals := 24 } : Room) s m [.int (bI a)].toArray below meth c0 H locs 0 0 (MQ below (fQi x (S) (bI (gf_i a))) [.int (bI a)].toArray s 0 0 (fun q => xs x ≤ q)) (F0 m 6 ls []) := by
    intro n
    induction n with
    | zero => intro i rs pw H locs _ h; omega
    | succ n ih =>
      intro i rs pw H locs hi hn e1 e2 hP hS ls hl
      subst e1; subst e2
      refine lv_iload_n (pc := 6) hx hb dd_K_inverse_6 rfl (lv_at hl 0 rfl) ?_
      refine lv_bipush (pc := 7) (v := nI 8) hx hb dd_K_inverse_7 (by decide) ?_
      refine lv_icmp_ge (pc := 9) (tgt := 30) hx hb dd_K_inverse_9 (by decide) (fun h9 => ?_) (fun h9 => ?_)
      · -- 9: t to 30
        have h := (nI_leI (by omega) (by omega)).mp h9
        have hi8 : i = 7 := by omega
        subst hi8
        refine lv_iload_n (pc := 30) hx hb dd_K_inverse_30 rfl (lv_at hl 1 rfl) ?_
        exact f_iret (pc := 31) cx hr hlocks hP hS rfl rfl dd_K_inverse_31
      · -- 9: f to 12
        have h : i + 1 < 8 := Nat.lt_of_not_le (fun q => h9 ((nI_leI (by omega) (by omega)).mpr q))
        refine lv_iload_n (pc := 12) hx hb dd_K_inverse_12 rfl (lv_at hl 2 rfl) ?_
        refine lv_iload_n (pc := 13) hx hb dd_K_inverse_13 rfl (lv_at hl 2 rfl) ?_
        refine k_K_K_times (pc := 14) cx hl hP hS (ct_K_times l x S (gf_q i a) (gf_q i a)) ⟨⟨rfl, rfl⟩, ⟨(Nat.le_of_ble_eq_true rfl), (Nat.le_of_ble_eq_true rfl)⟩, (Nat.le_of_ble_eq_true rfl), (Nat.le_of_ble_eq_true rfl)⟩ (Nat.le_of_ble_eq_true rfl) dd_K_inverse_14 (fun H locs hP hS => ?_)
        refine lv_istore_n (pc := 17) (lv' := [(1, _), (3, _), (2, _), (0, _)]) hx hb dd_K_inverse_17 rfl hl (Nat.le_of_ble_eq_true rfl) rfl (fun ls hl => ?_)
        refine lv_iload_n (pc := 18) hx hb dd_K_inverse_18 rfl (lv_at hl 2 rfl) ?_
        refine lv_iload_n (pc := 19) hx hb dd_K_inverse_19 rfl (lv_at hl 0 rfl) ?_
        refine k_K_K_times (pc := 20) cx hl hP hS (ct_K_times l x S (gf_r i a) (gf_q (i + 1) a)) ⟨⟨rfl, rfl⟩, ⟨(Nat.le_of_ble_eq_true rfl), (Nat.le_of_ble_eq_true rfl)⟩, (Nat.le_of_ble_eq_true rfl), (Nat.le_of_ble_eq_true rfl)⟩ (Nat.le_of_ble_eq_true rfl) dd_K_inverse_20 (fun H locs hP hS => ?_)
        refine lv_istore_n (pc := 23) (lv' := [(2, _), (1, _), (3, _), (0, _)]) hx hb dd_K_inverse_23 rfl hl (Nat.le_of_ble_eq_true rfl) rfl (fun ls hl => ?_)
        refine lv_iinc (pc := 24) (k := 2) (lv' := [(3, _), (2, _), (1, _), (0, _)]) hx hb dd_K_inverse_24 hl rfl (f_inc1 (i + 1)) (Nat.le_of_ble_eq_true rfl) rfl (fun ls hl => ?_)
        refine lv_goto (pc := 27) (tgt := 6) hx hb dd_K_inverse_27 (by decide) ?_
        exact ih (i + 1) _ _ _ _ (by omega) (by omega) rfl rfl hP hS ls (lv_sub hl [0, 1, 2, 3] rfl)
  refine lv_iload_n (pc := 0) hx hb dd_K_inverse_0 rfl (lv_at hl 0 rfl) ?_
  refine lv_istore_n (pc := 1) (lv' := [(1, _), (0, _)]) hx hb dd_K_inverse_1 rfl hl (Nat.le_of_ble_eq_true rfl) rfl (fun ls hl => ?_)
  refine lv_iconst (pc := 2) (v := 1) hx hb dd_K_inverse_2 (by decide) ?_
  refine lv_istore_n (pc := 3) (lv' := [(2, _), (1, _), (0, _)]) hx hb dd_K_inverse_3 rfl hl (Nat.le_of_ble_eq_true rfl) rfl (fun ls hl => ?_)
  refine lv_iconst (pc := 4) (v := nI 1) hx hb dd_K_inverse_4 (by decide) ?_
  refine lv_istore_n (pc := 5) (lv' := [(3, _), (2, _), (1, _), (0, _)]) hx hb dd_K_inverse_5 rfl hl (Nat.le_of_ble_eq_true rfl) rfl (fun ls hl => ?_)
  exact loop 8 0 _ _ _ _ (by omega) (by omega) bI_1.symm rfl hP hS ls (lv_sub hl [0, 1, 2, 3] rfl)
