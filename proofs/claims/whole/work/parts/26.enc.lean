-- contracts of encode, by wip/whole/gen/c_enc.py
theorem f_m1 (z : Int32) : z + Int32.ofInt (-1) = z - 1 := by
  show z + (-1) = z - 1
  rw [Int32.sub_eq_add_neg]
theorem f_pt {s : Nat} (hs : s < 7) : nI s + 1 = bI (BitVec.ofNat 8 (s + 1)) := by rw [nI_1, bI_of (by omega)]
theorem f_rk {r K p : Nat} : nI r * nI K + nI p = nI (r * K + p) := by rw [pk_mul, nI_add]
theorem f_rkb {r K p : Nat} (hr : r < 8) (hK : K ≤ 7) (hp : p < K) : r * K + p < 1000 := by
  have : r * K ≤ 7 * 7 := Nat.mul_le_mul (by omega) hK
  omega
set_option maxHeartbeats 4000000 in
set_option maxRecDepth 100000 in
theorem ct_K_encode (l : Launch) (x : fy) (S : fm) (w : Int64) (s0 : Nat) (hv : fv x 1 0) (hs : s0 < 7) (hO : fO x) : Met l mn_K_encode (gw_ws mn_K_encode cb_K_encode 9 (some .long)) ({ frames := 1, cells := 0, slots := 0, locals := 24 } : Room) (fPc x (S) [.ref (xa x 1 0), .long w, .int (nI s0)]) (fQl x (S) (enc x w s0)) 0 0 (fun q => xs x ≤ q) := by
  refine f_met (by decide) (Nat.le_of_ble_eq_true rfl) ?_
  intro p e s m below meth c0 cx hr hlocks hnm hP hS ls hl
  have cx : fX rn_K cb_K_encode 9 p c0 s m [.ref (xa x 1 0), .long w, .int (nI s0)].toArray x := cx
  have hx := cx.1.1
  have hb := cx.1.2.1
  have hl : lv_has ls 9 [(0, .ref (xa x 1 0)), (1, .long w), (3, .int (nI s0))] := hl
  have hR := xR_facts x hO
  have hK : xK x ≤ 7 := by have := hO; unfold fO at this; omega
  have inner : ∀ (r : Nat) (fr : Int64), r < xR x → (∀ (H : Heap) (locs : List Loc), fP x S H → fS x s.heap H locs → ∀ ls : Array Slot, lv_has ls 9 [(7, .int (bI (en8 (xK x) w s0 r))), (6, .int (nI r)), (4, .long fr), (0, .ref (xa x 1 0)), (1, .long w), (3, .int (nI s0))] → W p l e ({ frames := 1, cells := 0, slots := 0, locals := 24 } : Room) s m [.ref (xa x 1 0), .long w, .int (nI s0)].toArray below meth c0 H locs 0 0 (MQ below (fQl x (S) (enc x w s0)) [.ref (xa x 1 0), .long w, .int (nI s0)].toArray s 0 0 (fun q => xs x ≤ q)) (F0 m 63 ls [])) → ∀ (q : Nat) (va : Int32) (H : Heap) (locs : List Loc), q ≤ xK x → va = bI (gf_o (fun i => by8 w (r * xK x + i)) (BitVec.ofNat 8 (s0 + 1)) (xK x) (xK x - q)) → fP x S H → fS x s.heap H locs → ∀ ls : Array Slot, lv_has ls 9 [(8, .int (nI q - 1)), (7, .int va), (6, .int (nI r)), (4, .long fr), (0, .ref (xa x 1 0)), (1, .long w), (3, .int (nI s0))] → W p l e ({ frames := 1, cells := 0, slots := 0, locals := 24 } : Room) s m [.ref (xa x 1 0), .long w, .int (nI s0)].toArray below meth c0 H locs 0 0 (MQ below (fQl x (S) (enc x w s0)) [.ref (xa x 1 0), .long w, .int (nI s0)].toArray s 0 0 (fun q => xs x ≤ q)) (F0 m 26 ls []) := by
    intro r fr hrr kk q
    induction q with
    | zero =>
      intro va H locs hq ev hP hS ls hl
      subst ev
      refine lv_iload (pc := 26) hx hb dd_K_encode_26 (lv_at hl 0 rfl) ?_
      refine lv_if_lt (pc := 28) (tgt := 63) hx hb dd_K_encode_28 (by decide) (fun h28 => ?_) (fun h28 => ?_)
      · -- 28: t to 63
        exact kk _ _ hP hS ls (lv_sub hl [1, 2, 3, 4, 5, 6] rfl)
      · -- 28: f to 31
        exact absurd (by decide) h28
    | succ q ih =>
      intro va H locs hq ev hP hS ls hl
      subst ev
      rw [nI_pred] at hl
      refine lv_iload (pc := 26) hx hb dd_K_encode_26 (lv_at hl 0 rfl) ?_
      refine lv_if_lt (pc := 28) (tgt := 63) hx hb dd_K_encode_28 (by decide) (fun h28 => ?_) (fun h28 => ?_)
      · -- 28: t to 63
        exact absurd h28 (nI_pos (by omega))
      · -- 28: f to 31
        refine lv_iload (pc := 31) hx hb dd_K_encode_31 (lv_at hl 1 rfl) ?_
        refine lv_iload_n (pc := 33) hx hb dd_K_encode_33 rfl (lv_at hl 6 rfl) ?_
        refine k_K_K_pointOf (pc := 34) cx hl hP hS (ct_K_pointOf l x S _) ⟨⟨rfl, rfl⟩, ⟨(Nat.le_of_ble_eq_true rfl), (Nat.le_of_ble_eq_true rfl)⟩, (Nat.le_of_ble_eq_true rfl), (Nat.le_of_ble_eq_true rfl)⟩ (Nat.le_of_ble_eq_true rfl) dd_K_encode_34 (fun H locs hP hS => ?_)
        refine f_topi (f_pt hs) ?_
        refine k_K_K_times (pc := 37) cx hl hP hS (ct_K_times l x S (gf_o (fun i => by8 w (r * xK x + i)) (BitVec.ofNat 8 (s0 + 1)) (xK x) (xK x - (q + 1))) (BitVec.ofNat 8 (s0 + 1))) ⟨⟨rfl, rfl⟩, ⟨(Nat.le_of_ble_eq_true rfl), (Nat.le_of_ble_eq_true rfl)⟩, (Nat.le_of_ble_eq_true rfl), (Nat.le_of_ble_eq_true rfl)⟩ (Nat.le_of_ble_eq_true rfl) dd_K_encode_37 (fun H locs hP hS => ?_)
        refine lv_lload_n (pc := 40) hx hb dd_K_encode_40 rfl (lv_at hl 5 rfl) ?_
        refine lv_iload (pc := 41) hx hb dd_K_encode_41 (lv_at hl 2 rfl) ?_
        refine lv_aload_n (pc := 43) hx hb dd_K_encode_43 rfl (lv_at hl 4 rfl) ?_
        refine g_K_K_needed (pc := 44) cx hP (by assumption) dd_K_encode_44 ?_
        refine lv_imul (pc := 47) hx hb dd_K_encode_47 ?_
        refine lv_iload (pc := 48) hx hb dd_K_encode_48 (lv_at hl 0 rfl) ?_
        refine lv_iadd (pc := 50) hx hb dd_K_encode_50 ?_
        refine f_topi f_rk ?_
        refine k_K_K_byteAt (pc := 51) cx hl hP hS (ct_K_byteAt l x S w (r * xK x + q) (f_rkb (by omega) hK (by omega))) ⟨⟨rfl, rfl⟩, ⟨(Nat.le_of_ble_eq_true rfl), (Nat.le_of_ble_eq_true rfl)⟩, (Nat.le_of_ble_eq_true rfl), (Nat.le_of_ble_eq_true rfl)⟩ (Nat.le_of_ble_eq_true rfl) dd_K_encode_51 (fun H locs hP hS => ?_)
        refine lv_ixor (pc := 54) hx hb dd_K_encode_54 ?_
        refine lv_istore (pc := 55) (lv' := [(7, _), (8, _), (6, _), (4, _), (0, _), (1, _), (3, _)]) hx hb dd_K_encode_55 hl (Nat.le_of_ble_eq_true rfl) rfl (fun ls hl => ?_)
        refine lv_iinc (pc := 57) (k := 1) (lv' := [(8, _), (7, _), (6, _), (4, _), (0, _), (1, _), (3, _)]) hx hb dd_K_encode_57 hl rfl (f_m1 (nI q)) (Nat.le_of_ble_eq_true rfl) rfl (fun ls hl => ?_)
        refine lv_goto (pc := 60) (tgt := 26) hx hb dd_K_encode_60 (by decide) ?_
        exact ih _ _ _ (by omega) (by rw [show xK x - q = xK x - (q + 1) + 1 by omega]; show _ = bI (gf_m _ _ ^^^ _); rw [show xK x - (xK x - (q + 1) + 1) = q by omega, bI_xor]) hP hS ls (lv_sub hl [0, 1, 2, 3, 4, 5, 6] rfl)
  have outer : ∀ (n r : Nat) (fr : Int64) (H : Heap) (locs : List Loc), r ≤ xR x → xR x - r < n → fr = enF (xK x) w s0 r → fP x S H → fS x s.heap H locs → ∀ ls : Array Slot, lv_has ls 9 [(6, .int (nI r)), (4, .long fr), (0, .ref (xa x 1 0)), (1, .long w), (3, .int (nI s0))] → W p l e ({ frames := 1, cells := 0, slots := 0, locals := 24 } : Room) s m [.ref (xa x 1 0), .long w, .int (nI s0)].toArray below meth c0 H locs 0 0 (MQ below (fQl x (S) (enc x w s0)) [.ref (xa x 1 0), .long w, .int (nI s0)].toArray s 0 0 (fun q => xs x ≤ q)) (F0 m 6 ls []) := by
    intro n
    induction n with
    | zero => intro r fr H locs _ h; omega
    | succ n ih =>
      intro r fr H locs hrr hn ef hP hS ls hl
      subst ef
      refine lv_iload (pc := 6) hx hb dd_K_encode_6 (lv_at hl 0 rfl) ?_
      refine lv_aload_n (pc := 8) hx hb dd_K_encode_8 rfl (lv_at hl 2 rfl) ?_
      refine g_K_K_length (pc := 9) cx hP (by assumption) dd_K_encode_9 ?_
      refine lv_icmp_ge (pc := 12) (tgt := 81) hx hb dd_K_encode_12 (by decide) (fun h12 => ?_) (fun h12 => ?_)
      · -- 12: t to 81
        have h := (nI_leI (by omega) (by omega)).mp h12
        have hre : r = xR x := by omega
        subst hre
        refine lv_lload (pc := 81) hx hb dd_K_encode_81 (lv_at hl 1 rfl) ?_
        exact f_lret (pc := 83) cx hr hlocks hP hS rfl rfl dd_K_encode_83
      · -- 12: f to 15
        have h : r < xR x := Nat.lt_of_not_le (fun q => h12 ((nI_leI (by omega) (by omega)).mpr q))
        refine lv_iconst (pc := 15) (v := 0) hx hb dd_K_encode_15 (by decide) ?_
        refine lv_istore (pc := 16) (lv' := [(7, _), (6, _), (4, _), (0, _), (1, _), (3, _)]) hx hb dd_K_encode_16 hl (Nat.le_of_ble_eq_true rfl) rfl (fun ls hl => ?_)
        refine lv_aload_n (pc := 18) hx hb dd_K_encode_18 rfl (lv_at hl 3 rfl) ?_
        refine g_K_K_needed (pc := 19) cx hP (by assumption) dd_K_encode_19 ?_
        refine lv_iconst (pc := 22) (v := 1) hx hb dd_K_encode_22 (by decide) ?_
        refine lv_isub (pc := 23) hx hb dd_K_encode_23 ?_
        refine lv_istore (pc := 24) (lv' := [(8, _), (7, _), (6, _), (4, _), (0, _), (1, _), (3, _)]) hx hb dd_K_encode_24 hl (Nat.le_of_ble_eq_true rfl) rfl (fun ls hl => ?_)
        refine inner r _ h (fun H locs hP hS ls hl => ?_) (xK x) _ _ _ (Nat.le_refl _) (by rw [Nat.sub_self]; exact bI_0.symm) hP hS ls (lv_sub hl [0, 1, 2, 3, 4, 5, 6] rfl)
        refine lv_lload (pc := 63) hx hb dd_K_encode_63 (lv_at hl 2 rfl) ?_
        refine lv_iload (pc := 65) hx hb dd_K_encode_65 (lv_at hl 0 rfl) ?_
        refine lv_iload (pc := 67) hx hb dd_K_encode_67 (lv_at hl 1 rfl) ?_
        refine k_K_K_placed (pc := 69) cx hl hP hS (ct_K_placed l x S (en8 (xK x) w s0 r) r (by omega)) ⟨⟨rfl, rfl⟩, ⟨(Nat.le_of_ble_eq_true rfl), (Nat.le_of_ble_eq_true rfl)⟩, (Nat.le_of_ble_eq_true rfl), (Nat.le_of_ble_eq_true rfl)⟩ (Nat.le_of_ble_eq_true rfl) dd_K_encode_69 (fun H locs hP hS => ?_)
        refine lv_lor (pc := 72) hx hb dd_K_encode_72 ?_
        refine lv_lstore (pc := 73) (lv' := [(4, _), (7, _), (6, _), (0, _), (1, _), (3, _)]) hx hb dd_K_encode_73 hl (Nat.le_of_ble_eq_true rfl) rfl (fun ls hl => ?_)
        refine lv_iinc (pc := 75) (k := 2) (lv' := [(6, _), (4, _), (7, _), (0, _), (1, _), (3, _)]) hx hb dd_K_encode_75 hl rfl (f_inc1 r) (Nat.le_of_ble_eq_true rfl) rfl (fun ls hl => ?_)
        refine lv_goto (pc := 78) (tgt := 6) hx hb dd_K_encode_78 (by decide) ?_
        exact ih (r + 1) _ _ _ (by omega) (by omega) rfl hP hS ls (lv_sub hl [0, 1, 3, 4, 5] rfl)
  refine lv_lconst (pc := 0) (v := 0) hx hb dd_K_encode_0 (by decide) ?_
  refine lv_lstore (pc := 1) (lv' := [(4, _), (0, _), (1, _), (3, _)]) hx hb dd_K_encode_1 hl (Nat.le_of_ble_eq_true rfl) rfl (fun ls hl => ?_)
  refine lv_iconst (pc := 3) (v := nI 0) hx hb dd_K_encode_3 (by decide) ?_
  refine lv_istore (pc := 4) (lv' := [(6, _), (4, _), (0, _), (1, _), (3, _)]) hx hb dd_K_encode_4 hl (Nat.le_of_ble_eq_true rfl) rfl (fun ls hl => ?_)
  exact outer (xR x + 1) 0 _ _ _ (by omega) (by omega) rfl hP hS ls (lv_sub hl [0, 1, 2, 3, 4] rfl)
