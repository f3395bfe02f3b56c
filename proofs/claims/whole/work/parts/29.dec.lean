-- contracts of interpolate and decode, by wip/whole/gen/c_dec.py
theorem f_dec {n : Nat} (h : 0 < n) : nI n + Int32.ofInt (-1) = nI (n - 1) := by
  obtain ⟨k, rfl⟩ : ∃ k, n = k + 1 := ⟨n - 1, by omega⟩
  rw [f_dec1]; rfl
theorem f_sub2 {K : Nat} (h : 1 ≤ K) : nI K - 2 = nI (K - 1) - 1 := by
  obtain ⟨k, rfl⟩ : ∃ k, K = k + 1 := ⟨K - 1, by omega⟩
  rw [show k + 1 - 1 = k from rfl, ← nI_1]
  have h1 : ∀ z : Int32, z + 1 - 2 = z - 1 := by
    intro z
    rw [Int32.sub_eq_add_neg, Int32.sub_eq_add_neg, Int32.add_assoc]
    rfl
  exact h1 _
theorem f_sbs (t p : Nat) : nI (t + p) - nI t = nI p := by rw [pk_sub (by omega), Nat.add_sub_cancel_left]
set_option maxHeartbeats 4000000 in
set_option maxRecDepth 100000 in
theorem ct_K_interp (l : Launch) (x : fy) (S : fm) (c : Nat) (v1 : fv x 1 0) (v2 : fv x 2 0) (v8 : fv x 8 c) (hO : fO x) (h7 : ∀ j, mU S 8 c j < 7) : Met l mn_K_interpolate (gw_ws mn_K_interpolate cb_K_interpolate 5 none) ({ frames := 2, cells := 0, slots := 0, locals := 47 } : Room) (fPc x (S) [.ref (xa x 1 0), .ref (xa x 8 c)]) (fQv x (rU S 2 0 (ipol (pts S c) (xK x) (mU S 2 0)))) 0 0 (fun q => xs x ≤ q) := by
  refine f_met (by decide) (Nat.le_of_ble_eq_true rfl) ?_
  intro p e s m below meth c0 cx hr hlocks hnm hP hS ls hl
  have cx : fX rn_K cb_K_interpolate 5 p c0 s m [.ref (xa x 1 0), .ref (xa x 8 c)].toArray x := cx
  have hx := cx.1.1
  have hb := cx.1.2.1
  have hl : lv_has ls 5 [(0, .ref (xa x 1 0)), (1, .ref (xa x 8 c))] := hl
  have hK : xK x ≤ 7 := by have := hO; unfold fO at this; omega
  have hK1 : 1 ≤ xK x := hO.2.2.2.2.1
  have in2 : ∀ (st : Nat) (U2 : Nat → Nat), st + 1 ≤ xK x → (∀ (H : Heap) (locs : List Loc), fP x (rU S 2 0 (U2)) H → fS x s.heap H locs → ∀ ls : Array Slot, lv_has ls 5 [(2, .int (nI st)), (0, .ref (xa x 1 0)), (1, .ref (xa x 8 c))] → W p l e ({ frames := 2, cells := 0, slots := 0, locals := 47 } : Room) s m [.ref (xa x 1 0), .ref (xa x 8 c)].toArray below meth c0 H locs 0 0 (MQ below (fQv x (rU S 2 0 (ipol (pts S c) (xK x) (mU S 2 0)))) [.ref (xa x 1 0), .ref (xa x 8 c)].toArray s 0 0 (fun q => xs x ≤ q)) (F0 m 135 ls [])) → ∀ (q : Nat) (u : Nat → Nat) (H : Heap) (locs : List Loc), q ≤ xK x - 1 - st → ipC (pts S c) (xK x) st q u = U2 → fP x (rU S 2 0 (u)) H → fS x s.heap H locs → ∀ ls : Array Slot, lv_has ls 5 [(3, .int (nI (xK x - 1 - q))), (2, .int (nI st)), (0, .ref (xa x 1 0)), (1, .ref (xa x 8 c))] → W p l e ({ frames := 2, cells := 0, slots := 0, locals := 47 } : Room) s m [.ref (xa x 1 0), .ref (xa x 8 c)].toArray below meth c0 H locs 0 0 (MQ below (fQv x (rU S 2 0 (ipol (pts S c) (xK x) (mU S 2 0)))) [.ref (xa x 1 0), .ref (xa x 8 c)].toArray s 0 0 (fun q => xs x ≤ q)) (F0 m 93 ls []) := by
    intro st U2 hst kk q
    induction q with
    | zero =>
      intro u H locs hq hU hP hS ls hl
      rw [Nat.sub_zero] at hl
      refine lv_iload_n (pc := 93) hx hb dd_K_interpolate_93 rfl (lv_at hl 0 rfl) ?_
      refine lv_aload_n (pc := 94) hx hb dd_K_interpolate_94 rfl (lv_at hl 2 rfl) ?_
      refine g_K_K_needed (pc := 95) cx hP (by assumption) dd_K_interpolate_95 ?_
      refine lv_iconst (pc := 98) (v := 1) hx hb dd_K_interpolate_98 (by decide) ?_
      refine lv_isub (pc := 99) hx hb dd_K_interpolate_99 ?_
      refine f_topi (f_pred (by omega)) ?_
      refine lv_icmp_ge (pc := 100) (tgt := 135) hx hb dd_K_interpolate_100 (by decide) (fun h100 => ?_) (fun h100 => ?_)
      · -- 100: t to 135
        exact kk _ _ (f_eqS hP (by rw [← hU]; rfl)) hS ls (lv_sub hl [1, 2, 3] rfl)
      · -- 100: f to 103
        exact absurd ((nI_leI (by omega) (by omega)).mpr (Nat.le_refl _)) h100
    | succ q ih =>
      intro u H locs hq hU hP hS ls hl
      refine lv_iload_n (pc := 93) hx hb dd_K_interpolate_93 rfl (lv_at hl 0 rfl) ?_
      refine lv_aload_n (pc := 94) hx hb dd_K_interpolate_94 rfl (lv_at hl 2 rfl) ?_
      refine g_K_K_needed (pc := 95) cx hP (by assumption) dd_K_interpolate_95 ?_
      refine lv_iconst (pc := 98) (v := 1) hx hb dd_K_interpolate_98 (by decide) ?_
      refine lv_isub (pc := 99) hx hb dd_K_interpolate_99 ?_
      refine f_topi (f_pred (by omega)) ?_
      refine lv_icmp_ge (pc := 100) (tgt := 135) hx hb dd_K_interpolate_100 (by decide) (fun h100 => ?_) (fun h100 => ?_)
      · -- 100: t to 135
        exact absurd ((nI_leI (by omega) (by omega)).mp h100) (by omega)
      · -- 100: f to 103
        refine lv_aload_n (pc := 103) hx hb dd_K_interpolate_103 rfl (lv_at hl 2 rfl) ?_
        refine g_K_K_column (pc := 104) cx hP (by assumption) dd_K_interpolate_104 ?_
        refine lv_iload_n (pc := 107) hx hb dd_K_interpolate_107 rfl (lv_at hl 0 rfl) ?_
        refine lv_dup2_11 (pc := 108) hx hb dd_K_interpolate_108 rfl rfl ?_
        refine f_iald (pc := 109) cx hP (fv.at (by assumption) _) rfl rfl (by omega) dd_K_interpolate_109 ?_
        refine lv_aload_n (pc := 110) hx hb dd_K_interpolate_110 rfl (lv_at hl 3 rfl) ?_
        refine lv_iload_n (pc := 111) hx hb dd_K_interpolate_111 rfl (lv_at hl 1 rfl) ?_
        refine f_iald (pc := 112) cx hP (fv.at (by assumption) _) rfl rfl (by omega) dd_K_interpolate_112 ?_
        refine k_K_K_pointOf (pc := 113) cx hl hP hS (ct_K_pointOf l x _ _) ⟨⟨rfl, rfl⟩, ⟨(Nat.le_of_ble_eq_true rfl), (Nat.le_of_ble_eq_true rfl)⟩, (Nat.le_of_ble_eq_true rfl), (Nat.le_of_ble_eq_true rfl)⟩ (Nat.le_of_ble_eq_true rfl) dd_K_interpolate_113 (fun H locs hP hS => ?_)
        refine f_topi (f_pt (h7 st)) ?_
        refine lv_aload_n (pc := 116) hx hb dd_K_interpolate_116 rfl (lv_at hl 2 rfl) ?_
        refine g_K_K_column (pc := 117) cx hP (by assumption) dd_K_interpolate_117 ?_
        refine lv_iload_n (pc := 120) hx hb dd_K_interpolate_120 rfl (lv_at hl 0 rfl) ?_
        refine lv_iconst (pc := 121) (v := 1) hx hb dd_K_interpolate_121 (by decide) ?_
        refine lv_iadd (pc := 122) hx hb dd_K_interpolate_122 ?_
        refine f_topi (nI_1 _) ?_
        refine f_iald (pc := 123) cx hP (fv.at (by assumption) _) rfl rfl (by omega) dd_K_interpolate_123 ?_
        refine k_K_K_times (pc := 124) cx hl hP hS (ct_K_times l x _ (pts S c st) (cb u (xK x - 1 - (q + 1) + 1))) ⟨⟨rfl, rfl⟩, ⟨(Nat.le_of_ble_eq_true rfl), (Nat.le_of_ble_eq_true rfl)⟩, (Nat.le_of_ble_eq_true rfl), (Nat.le_of_ble_eq_true rfl)⟩ (Nat.le_of_ble_eq_true rfl) dd_K_interpolate_124 (fun H locs hP hS => ?_)
        refine lv_ixor (pc := 127) hx hb dd_K_interpolate_127 ?_
        refine f_topi (bI_xor (cb u (xK x - 1 - (q + 1))) _) ?_
        refine f_iastY (pc := 128) cx hP hS (fv.at (by assumption) _) (fun _ => rfl) rfl rfl (by omega) dd_K_interpolate_128 (fun H locs hP hS => ?_)
        have hP := f_eqS (T' := rU S 2 0 (va_up u (xK x - 1 - (q + 1)) (cb u (xK x - 1 - (q + 1)) ^^^ gf_m (pts S c st) (cb u (xK x - 1 - (q + 1) + 1))).toNat)) hP (by rw [sU_rU])
        refine lv_iinc (pc := 129) (k := 0) (lv' := [(3, _), (2, _), (0, _), (1, _)]) hx hb dd_K_interpolate_129 hl rfl (f_inc1 _) (Nat.le_of_ble_eq_true rfl) rfl (fun ls hl => ?_)
        refine lv_goto (pc := 132) (tgt := 93) hx hb dd_K_interpolate_132 (by decide) ?_
        rw [show xK x - 1 - (q + 1) + 1 = xK x - 1 - q by omega] at hl
        exact ih _ _ _ (by omega) hU hP hS ls (lv_sub hl [0, 1, 2, 3] rfl)
  have ou2 : ∀ (n : Nat) (u : Nat → Nat) (H : Heap) (locs : List Loc), n + 1 ≤ xK x → ipD (pts S c) (xK x) n u = ipol (pts S c) (xK x) (mU S 2 0) → fP x (rU S 2 0 (u)) H → fS x s.heap H locs → ∀ ls : Array Slot, lv_has ls 5 [(2, .int (nI n - 1)), (0, .ref (xa x 1 0)), (1, .ref (xa x 8 c))] → W p l e ({ frames := 2, cells := 0, slots := 0, locals := 47 } : Room) s m [.ref (xa x 1 0), .ref (xa x 8 c)].toArray below meth c0 H locs 0 0 (MQ below (fQv x (rU S 2 0 (ipol (pts S c) (xK x) (mU S 2 0)))) [.ref (xa x 1 0), .ref (xa x 8 c)].toArray s 0 0 (fun q => xs x ≤ q)) (F0 m 87 ls []) := by
    intro n
    induction n with
    | zero =>
      intro u H locs hn hU hP hS ls hl
      refine lv_iload_n (pc := 87) hx hb dd_K_interpolate_87 rfl (lv_at hl 0 rfl) ?_
      refine lv_if_lt (pc := 88) (tgt := 141) hx hb dd_K_interpolate_88 (by decide) (fun h88 => ?_) (fun h88 => ?_)
      · -- 88: t to 141
        exact f_vret (pc := 141) cx hr hlocks hP hS (by rw [← hU]; rfl) dd_K_interpolate_141
      · -- 88: f to 91
        exact absurd (by decide) h88
    | succ n ih =>
      intro u H locs hn hU hP hS ls hl
      rw [nI_pred] at hl
      refine lv_iload_n (pc := 87) hx hb dd_K_interpolate_87 rfl (lv_at hl 0 rfl) ?_
      refine lv_if_lt (pc := 88) (tgt := 141) hx hb dd_K_interpolate_88 (by decide) (fun h88 => ?_) (fun h88 => ?_)
      · -- 88: t to 141
        exact absurd h88 (nI_pos (by omega))
      · -- 88: f to 91
        refine lv_iload_n (pc := 91) hx hb dd_K_interpolate_91 rfl (lv_at hl 0 rfl) ?_
        refine lv_istore_n (pc := 92) (lv' := [(3, _), (2, _), (0, _), (1, _)]) hx hb dd_K_interpolate_92 rfl hl (Nat.le_of_ble_eq_true rfl) rfl (fun ls hl => ?_)
        have hl := (lv_sub hl [0, 1, 2, 3] rfl)
        have hl : lv_has ls 5 [(3, .int (nI n)), (2, .int (nI n)), (0, .ref (xa x 1 0)), (1, .ref (xa x 8 c))] := hl
        have hl : lv_has ls 5 [(3, .int (nI (xK x - 1 - (xK x - 1 - n)))), (2, .int (nI n)), (0, .ref (xa x 1 0)), (1, .ref (xa x 8 c))] := by rw [show xK x - 1 - (xK x - 1 - n) = n by omega]; exact hl
        refine in2 n _ (by omega) (fun H locs hP hS ls hl => ?_) (xK x - 1 - n) u _ _ (Nat.le_refl _) rfl hP hS ls hl
        refine lv_iinc (pc := 135) (k := 0) (lv' := [(2, _), (0, _), (1, _)]) hx hb dd_K_interpolate_135 hl rfl (f_m1 (nI n)) (Nat.le_of_ble_eq_true rfl) rfl (fun ls hl => ?_)
        refine lv_goto (pc := 138) (tgt := 87) hx hb dd_K_interpolate_138 (by decide) ?_
        exact ih _ _ _ (by omega) hU hP hS ls (lv_sub hl [0, 1, 2] rfl)
  have in1 : ∀ (t : Nat) (U2 : Nat → Nat), 1 ≤ t → (∀ (H : Heap) (locs : List Loc), fP x (rU S 2 0 (U2)) H → fS x s.heap H locs → ∀ ls : Array Slot, lv_has ls 5 [(2, .int (nI t)), (0, .ref (xa x 1 0)), (1, .ref (xa x 8 c))] → W p l e ({ frames := 2, cells := 0, slots := 0, locals := 47 } : Room) s m [.ref (xa x 1 0), .ref (xa x 8 c)].toArray below meth c0 H locs 0 0 (MQ below (fQv x (rU S 2 0 (ipol (pts S c) (xK x) (mU S 2 0)))) [.ref (xa x 1 0), .ref (xa x 8 c)].toArray s 0 0 (fun q => xs x ≤ q)) (F0 m 74 ls [])) → ∀ (q : Nat) (u : Nat → Nat) (H : Heap) (locs : List Loc), t + q ≤ xK x → ipA (pts S c) t q u = U2 → fP x (rU S 2 0 (u)) H → fS x s.heap H locs → ∀ ls : Array Slot, lv_has ls 5 [(3, .int (nI (t + q - 1))), (2, .int (nI t)), (0, .ref (xa x 1 0)), (1, .ref (xa x 8 c))] → W p l e ({ frames := 2, cells := 0, slots := 0, locals := 47 } : Room) s m [.ref (xa x 1 0), .ref (xa x 8 c)].toArray below meth c0 H locs 0 0 (MQ below (fQv x (rU S 2 0 (ipol (pts S c) (xK x) (mU S 2 0)))) [.ref (xa x 1 0), .ref (xa x 8 c)].toArray s 0 0 (fun q => xs x ≤ q)) (F0 m 17 ls []) := by
    intro t U2 ht kk q
    induction q with
    | zero =>
      intro u H locs hq hU hP hS ls hl
      refine lv_iload_n (pc := 17) hx hb dd_K_interpolate_17 rfl (lv_at hl 0 rfl) ?_
      refine lv_iload_n (pc := 18) hx hb dd_K_interpolate_18 rfl (lv_at hl 1 rfl) ?_
      refine lv_icmp_lt (pc := 19) (tgt := 74) hx hb dd_K_interpolate_19 (by decide) (fun h19 => ?_) (fun h19 => ?_)
      · -- 19: t to 74
        exact kk _ _ (f_eqS hP (by rw [← hU]; rfl)) hS ls (lv_sub hl [1, 2, 3] rfl)
      · -- 19: f to 22
        exact absurd ((nI_ltI (by omega) (by omega)).mpr (by omega)) h19
    | succ q ih =>
      intro u H locs hq hU hP hS ls hl
      rw [show t + (q + 1) - 1 = t + q by omega] at hl
      refine lv_iload_n (pc := 17) hx hb dd_K_interpolate_17 rfl (lv_at hl 0 rfl) ?_
      refine lv_iload_n (pc := 18) hx hb dd_K_interpolate_18 rfl (lv_at hl 1 rfl) ?_
      refine lv_icmp_lt (pc := 19) (tgt := 74) hx hb dd_K_interpolate_19 (by decide) (fun h19 => ?_) (fun h19 => ?_)
      · -- 19: t to 74
        exact absurd ((nI_ltI (by omega) (by omega)).mp h19) (by omega)
      · -- 19: f to 22
        refine lv_aload_n (pc := 22) hx hb dd_K_interpolate_22 rfl (lv_at hl 3 rfl) ?_
        refine lv_iload_n (pc := 23) hx hb dd_K_interpolate_23 rfl (lv_at hl 0 rfl) ?_
        refine f_iald (pc := 24) cx hP (fv.at (by assumption) _) rfl rfl (by omega) dd_K_interpolate_24 ?_
        refine k_K_K_pointOf (pc := 25) cx hl hP hS (ct_K_pointOf l x _ _) ⟨⟨rfl, rfl⟩, ⟨(Nat.le_of_ble_eq_true rfl), (Nat.le_of_ble_eq_true rfl)⟩, (Nat.le_of_ble_eq_true rfl), (Nat.le_of_ble_eq_true rfl)⟩ (Nat.le_of_ble_eq_true rfl) dd_K_interpolate_25 (fun H locs hP hS => ?_)
        refine f_topi (f_pt (h7 (t + q))) ?_
        refine lv_aload_n (pc := 28) hx hb dd_K_interpolate_28 rfl (lv_at hl 3 rfl) ?_
        refine lv_iload_n (pc := 29) hx hb dd_K_interpolate_29 rfl (lv_at hl 0 rfl) ?_
        refine lv_iload_n (pc := 30) hx hb dd_K_interpolate_30 rfl (lv_at hl 1 rfl) ?_
        refine lv_isub (pc := 31) hx hb dd_K_interpolate_31 ?_
        refine f_topi (f_sbs t q) ?_
        refine f_iald (pc := 32) cx hP (fv.at (by assumption) _) rfl rfl (by omega) dd_K_interpolate_32 ?_
        refine k_K_K_pointOf (pc := 33) cx hl hP hS (ct_K_pointOf l x _ _) ⟨⟨rfl, rfl⟩, ⟨(Nat.le_of_ble_eq_true rfl), (Nat.le_of_ble_eq_true rfl)⟩, (Nat.le_of_ble_eq_true rfl), (Nat.le_of_ble_eq_true rfl)⟩ (Nat.le_of_ble_eq_true rfl) dd_K_interpolate_33 (fun H locs hP hS => ?_)
        refine f_topi (f_pt (h7 q)) ?_
        refine lv_ixor (pc := 36) hx hb dd_K_interpolate_36 ?_
        refine f_topi (bI_xor (pts S c (t + q)) (pts S c q)) ?_
        refine lv_istore (pc := 37) (lv' := [(4, _), (3, _), (2, _), (0, _), (1, _)]) hx hb dd_K_interpolate_37 hl (Nat.le_of_ble_eq_true rfl) rfl (fun ls hl => ?_)
        refine lv_aload_n (pc := 39) hx hb dd_K_interpolate_39 rfl (lv_at hl 3 rfl) ?_
        refine g_K_K_column (pc := 40) cx hP (by assumption) dd_K_interpolate_40 ?_
        refine lv_iload_n (pc := 43) hx hb dd_K_interpolate_43 rfl (lv_at hl 1 rfl) ?_
        refine lv_aload_n (pc := 44) hx hb dd_K_interpolate_44 rfl (lv_at hl 3 rfl) ?_
        refine g_K_K_column (pc := 45) cx hP (by assumption) dd_K_interpolate_45 ?_
        refine lv_iload_n (pc := 48) hx hb dd_K_interpolate_48 rfl (lv_at hl 1 rfl) ?_
        refine f_iald (pc := 49) cx hP (fv.at (by assumption) _) rfl rfl (by omega) dd_K_interpolate_49 ?_
        refine lv_aload_n (pc := 50) hx hb dd_K_interpolate_50 rfl (lv_at hl 3 rfl) ?_
        refine g_K_K_column (pc := 51) cx hP (by assumption) dd_K_interpolate_51 ?_
        refine lv_iload_n (pc := 54) hx hb dd_K_interpolate_54 rfl (lv_at hl 1 rfl) ?_
        refine lv_iconst (pc := 55) (v := 1) hx hb dd_K_interpolate_55 (by decide) ?_
        refine lv_isub (pc := 56) hx hb dd_K_interpolate_56 ?_
        refine f_topi (f_pred (by omega)) ?_
        refine f_iald (pc := 57) cx hP (fv.at (by assumption) _) rfl rfl (by omega) dd_K_interpolate_57 ?_
        refine lv_ixor (pc := 58) hx hb dd_K_interpolate_58 ?_
        refine f_topi (bI_xor (cb u (t + q)) (cb u (t + q - 1))) ?_
        refine lv_iload (pc := 59) hx hb dd_K_interpolate_59 (lv_at hl 0 rfl) ?_
        refine k_K_K_inverse (pc := 61) cx hl hP hS (ct_K_inverse l x _ (pts S c (t + q) ^^^ pts S c q)) ⟨⟨rfl, rfl⟩, ⟨(Nat.le_of_ble_eq_true rfl), (Nat.le_of_ble_eq_true rfl)⟩, (Nat.le_of_ble_eq_true rfl), (Nat.le_of_ble_eq_true rfl)⟩ (Nat.le_of_ble_eq_true rfl) dd_K_interpolate_61 (fun H locs hP hS => ?_)
        refine k_K_K_times (pc := 64) cx hl hP hS (ct_K_times l x _ (cb u (t + q) ^^^ cb u (t + q - 1)) (gf_i (pts S c (t + q) ^^^ pts S c q))) ⟨⟨rfl, rfl⟩, ⟨(Nat.le_of_ble_eq_true rfl), (Nat.le_of_ble_eq_true rfl)⟩, (Nat.le_of_ble_eq_true rfl), (Nat.le_of_ble_eq_true rfl)⟩ (Nat.le_of_ble_eq_true rfl) dd_K_interpolate_64 (fun H locs hP hS => ?_)
        refine f_iastY (pc := 67) cx hP hS (fv.at (by assumption) _) (fun _ => rfl) rfl rfl (by omega) dd_K_interpolate_67 (fun H locs hP hS => ?_)
        have hP := f_eqS (T' := rU S 2 0 (va_up u (t + q) (gf_m (cb u (t + q) ^^^ cb u (t + q - 1)) (gf_i (pts S c (t + q) ^^^ pts S c q))).toNat)) hP (by rw [sU_rU])
        refine lv_iinc (pc := 68) (k := 1) (lv' := [(3, _), (4, _), (2, _), (0, _), (1, _)]) hx hb dd_K_interpolate_68 hl rfl (f_dec (by omega)) (Nat.le_of_ble_eq_true rfl) rfl (fun ls hl => ?_)
        refine lv_goto (pc := 71) (tgt := 17) hx hb dd_K_interpolate_71 (by decide) ?_
        exact ih _ _ _ (by omega) hU hP hS ls (lv_sub hl [0, 2, 3, 4] rfl)
  have ou1 : ∀ (n t : Nat) (u : Nat → Nat) (H : Heap) (locs : List Loc), 1 ≤ t → t + n = xK x → ipB (pts S c) (xK x) n u = ipB (pts S c) (xK x) (xK x - 1) (mU S 2 0) → fP x (rU S 2 0 (u)) H → fS x s.heap H locs → ∀ ls : Array Slot, lv_has ls 5 [(2, .int (nI t)), (0, .ref (xa x 1 0)), (1, .ref (xa x 8 c))] → W p l e ({ frames := 2, cells := 0, slots := 0, locals := 47 } : Room) s m [.ref (xa x 1 0), .ref (xa x 8 c)].toArray below meth c0 H locs 0 0 (MQ below (fQv x (rU S 2 0 (ipol (pts S c) (xK x) (mU S 2 0)))) [.ref (xa x 1 0), .ref (xa x 8 c)].toArray s 0 0 (fun q => xs x ≤ q)) (F0 m 2 ls []) := by
    intro n
    induction n with
    | zero =>
      intro t u H locs ht hn hU hP hS ls hl
      refine lv_iload_n (pc := 2) hx hb dd_K_interpolate_2 rfl (lv_at hl 0 rfl) ?_
      refine lv_aload_n (pc := 3) hx hb dd_K_interpolate_3 rfl (lv_at hl 1 rfl) ?_
      refine g_K_K_needed (pc := 4) cx hP (by assumption) dd_K_interpolate_4 ?_
      refine lv_icmp_ge (pc := 7) (tgt := 80) hx hb dd_K_interpolate_7 (by decide) (fun hh7 => ?_) (fun hh7 => ?_)
      · -- 7: t to 80
        refine lv_aload_n (pc := 80) hx hb dd_K_interpolate_80 rfl (lv_at hl 1 rfl) ?_
        refine g_K_K_needed (pc := 81) cx hP (by assumption) dd_K_interpolate_81 ?_
        refine lv_iconst (pc := 84) (v := 2) hx hb dd_K_interpolate_84 (by decide) ?_
        refine lv_isub (pc := 85) hx hb dd_K_interpolate_85 ?_
        refine f_topi (f_sub2 hK1) ?_
        refine lv_istore_n (pc := 86) (lv' := [(2, _), (0, _), (1, _)]) hx hb dd_K_interpolate_86 rfl hl (Nat.le_of_ble_eq_true rfl) rfl (fun ls hl => ?_)
        exact ou2 (xK x - 1) u _ _ (by omega) (by rw [show u = ipB (pts S c) (xK x) (xK x - 1) (mU S 2 0) from hU]; rfl) hP hS ls (lv_sub hl [0, 1, 2] rfl)
      · -- 7: f to 10
        exact absurd ((nI_leI (by omega) (by omega)).mpr (by omega)) hh7
    | succ n ih =>
      intro t u H locs ht hn hU hP hS ls hl
      refine lv_iload_n (pc := 2) hx hb dd_K_interpolate_2 rfl (lv_at hl 0 rfl) ?_
      refine lv_aload_n (pc := 3) hx hb dd_K_interpolate_3 rfl (lv_at hl 1 rfl) ?_
      refine g_K_K_needed (pc := 4) cx hP (by assumption) dd_K_interpolate_4 ?_
      refine lv_icmp_ge (pc := 7) (tgt := 80) hx hb dd_K_interpolate_7 (by decide) (fun hh7 => ?_) (fun hh7 => ?_)
      · -- 7: t to 80
        exact absurd ((nI_leI (by omega) (by omega)).mp hh7) (by omega)
      · -- 7: f to 10
        refine lv_aload_n (pc := 10) hx hb dd_K_interpolate_10 rfl (lv_at hl 1 rfl) ?_
        refine g_K_K_needed (pc := 11) cx hP (by assumption) dd_K_interpolate_11 ?_
        refine lv_iconst (pc := 14) (v := 1) hx hb dd_K_interpolate_14 (by decide) ?_
        refine lv_isub (pc := 15) hx hb dd_K_interpolate_15 ?_
        refine f_topi (f_pred (by omega)) ?_
        refine lv_istore_n (pc := 16) (lv' := [(3, _), (2, _), (0, _), (1, _)]) hx hb dd_K_interpolate_16 rfl hl (Nat.le_of_ble_eq_true rfl) rfl (fun ls hl => ?_)
        have hl := (lv_sub hl [0, 1, 2, 3] rfl)
        have hl : lv_has ls 5 [(3, .int (nI (t + (n + 1) - 1))), (2, .int (nI t)), (0, .ref (xa x 1 0)), (1, .ref (xa x 8 c))] := by rw [show t + (n + 1) - 1 = xK x - 1 by omega]; exact hl
        refine in1 t _ ht (fun H locs hP hS ls hl => ?_) (n + 1) u _ _ (by omega) rfl hP hS ls hl
        refine lv_iinc (pc := 74) (k := 0) (lv' := [(2, _), (0, _), (1, _)]) hx hb dd_K_interpolate_74 hl rfl (f_inc1 t) (Nat.le_of_ble_eq_true rfl) rfl (fun ls hl => ?_)
        refine lv_goto (pc := 77) (tgt := 2) hx hb dd_K_interpolate_77 (by decide) ?_
        exact ih (t + 1) _ _ _ (by omega) (by omega) (by rw [← hU]; show _ = ipB _ _ n (ipA _ (xK x - (n + 1)) (n + 1) u); rw [show xK x - (n + 1) = t by omega]) hP hS ls (lv_sub hl [0, 1, 2] rfl)
  refine lv_iconst (pc := 0) (v := nI 1) hx hb dd_K_interpolate_0 (by decide) ?_
  refine lv_istore_n (pc := 1) (lv' := [(2, _), (0, _), (1, _)]) hx hb dd_K_interpolate_1 rfl hl (Nat.le_of_ble_eq_true rfl) rfl (fun ls hl => ?_)
  have hP := f_eqS (T' := rU S 2 0 (mU S 2 0)) hP (by rw [rU_self])
  exact ou1 (xK x - 1) 1 _ _ _ (by omega) (by omega) rfl hP hS ls (lv_sub hl [0, 1, 2] rfl)
set_option maxHeartbeats 4000000 in
set_option maxRecDepth 100000 in
theorem ct_K_decode (l : Launch) (x : fy) (S : fm) (c : Nat) (v1 : fv x 1 0) (v2 : fv x 2 0) (v8 : fv x 8 c) (hO : fO x) (h7 : ∀ j, mU S 8 c j < 7) (v9 : fv x 9 c) : Met l mn_K_decode (gw_ws mn_K_decode cb_K_decode 7 (some .long)) ({ frames := 3, cells := 0, slots := 0, locals := 71 } : Room) (fPc x (S) [.ref (xa x 1 0), .ref (xa x 8 c), .ref (xa x 9 c)]) (fQl x (rU S 2 0 (decU x S c (xR x))) (decW x S c (xR x))) 0 0 (fun q => xs x ≤ q) := by
  refine f_met (by decide) (Nat.le_of_ble_eq_true rfl) ?_
  intro p e s m below meth c0 cx hr hlocks hnm hP hS ls hl
  have cx : fX rn_K cb_K_decode 7 p c0 s m [.ref (xa x 1 0), .ref (xa x 8 c), .ref (xa x 9 c)].toArray x := cx
  have hx := cx.1.1
  have hb := cx.1.2.1
  have hl : lv_has ls 7 [(0, .ref (xa x 1 0)), (1, .ref (xa x 8 c)), (2, .ref (xa x 9 c))] := hl
  have hR := xR_facts x hO
  have hK : xK x ≤ 7 := by have := hO; unfold fO at this; omega
  have fil : ∀ (r : Nat) (w : Int64) (u0 : Nat → Nat), r < xR x → (∀ (H : Heap) (locs : List Loc), fP x (rU S 2 0 (cfil S c r (xK x) u0)) H → fS x s.heap H locs → ∀ ls : Array Slot, lv_has ls 7 [(5, .int (nI r)), (3, .long (w)), (0, .ref (xa x 1 0)), (1, .ref (xa x 8 c)), (2, .ref (xa x 9 c))] → W p l e ({ frames := 3, cells := 0, slots := 0, locals := 71 } : Room) s m [.ref (xa x 1 0), .ref (xa x 8 c), .ref (xa x 9 c)].toArray below meth c0 H locs 0 0 (MQ below (fQl x (rU S 2 0 (decU x S c (xR x))) (decW x S c (xR x))) [.ref (xa x 1 0), .ref (xa x 8 c), .ref (xa x 9 c)].toArray s 0 0 (fun q => xs x ≤ q)) (F0 m 48 ls [])) → ∀ (n i : Nat) (H : Heap) (locs : List Loc), i + n = xK x → fP x (rU S 2 0 (cfil S c r i u0)) H → fS x s.heap H locs → ∀ ls : Array Slot, lv_has ls 7 [(6, .int (nI i)), (5, .int (nI r)), (3, .long (w)), (0, .ref (xa x 1 0)), (1, .ref (xa x 8 c)), (2, .ref (xa x 9 c))] → W p l e ({ frames := 3, cells := 0, slots := 0, locals := 71 } : Room) s m [.ref (xa x 1 0), .ref (xa x 8 c), .ref (xa x 9 c)].toArray below meth c0 H locs 0 0 (MQ below (fQl x (rU S 2 0 (decU x S c (xR x))) (decW x S c (xR x))) [.ref (xa x 1 0), .ref (xa x 8 c), .ref (xa x 9 c)].toArray s 0 0 (fun q => xs x ≤ q)) (F0 m 17 ls []) := by
    intro r w u0 hrr kk n
    induction n with
    | zero =>
      intro i H locs hi hP hS ls hl
      have hi : i = xK x := by omega
      subst hi
      refine lv_iload (pc := 17) hx hb dd_K_decode_17 (lv_at hl 0 rfl) ?_
      refine lv_aload_n (pc := 19) hx hb dd_K_decode_19 rfl (lv_at hl 3 rfl) ?_
      refine g_K_K_needed (pc := 20) cx hP (by assumption) dd_K_decode_20 ?_
      refine lv_icmp_ge (pc := 23) (tgt := 48) hx hb dd_K_decode_23 (by decide) (fun h23 => ?_) (fun h23 => ?_)
      · -- 23: t to 48
        exact kk _ _ hP hS ls (lv_sub hl [1, 2, 3, 4, 5] rfl)
      · -- 23: f to 26
        exact absurd ((nI_leI (by omega) (by omega)).mpr (Nat.le_refl _)) h23
    | succ n ih =>
      intro i H locs hi hP hS ls hl
      refine lv_iload (pc := 17) hx hb dd_K_decode_17 (lv_at hl 0 rfl) ?_
      refine lv_aload_n (pc := 19) hx hb dd_K_decode_19 rfl (lv_at hl 3 rfl) ?_
      refine g_K_K_needed (pc := 20) cx hP (by assumption) dd_K_decode_20 ?_
      refine lv_icmp_ge (pc := 23) (tgt := 48) hx hb dd_K_decode_23 (by decide) (fun h23 => ?_) (fun h23 => ?_)
      · -- 23: t to 48
        exact absurd ((nI_leI (by omega) (by omega)).mp h23) (by omega)
      · -- 23: f to 26
        refine lv_aload_n (pc := 26) hx hb dd_K_decode_26 rfl (lv_at hl 3 rfl) ?_
        refine g_K_K_column (pc := 27) cx hP (by assumption) dd_K_decode_27 ?_
        refine lv_iload (pc := 30) hx hb dd_K_decode_30 (lv_at hl 0 rfl) ?_
        refine lv_aload_n (pc := 32) hx hb dd_K_decode_32 rfl (lv_at hl 5 rfl) ?_
        refine lv_iload (pc := 33) hx hb dd_K_decode_33 (lv_at hl 0 rfl) ?_
        refine f_lald (pc := 35) cx hP (fv.at (by assumption) _) rfl rfl (by omega) dd_K_decode_35 ?_
        refine lv_iload (pc := 36) hx hb dd_K_decode_36 (lv_at hl 1 rfl) ?_
        refine k_K_K_byteAt (pc := 38) cx hl hP hS (ct_K_byteAt l x _ (mJ S 9 c i) r (by omega)) ⟨⟨rfl, rfl⟩, ⟨(Nat.le_of_ble_eq_true rfl), (Nat.le_of_ble_eq_true rfl)⟩, (Nat.le_of_ble_eq_true rfl), (Nat.le_of_ble_eq_true rfl)⟩ (Nat.le_of_ble_eq_true rfl) dd_K_decode_38 (fun H locs hP hS => ?_)
        refine f_iastY (pc := 41) cx hP hS (fv.at (by assumption) _) (fun _ => rfl) rfl rfl (by omega) dd_K_decode_41 (fun H locs hP hS => ?_)
        have hP := f_eqS (T' := rU S 2 0 (cfil S c r (i + 1) u0)) hP (by rw [sU_rU]; rfl)
        refine lv_iinc (pc := 42) (k := 0) (lv' := [(6, _), (5, _), (3, _), (0, _), (1, _), (2, _)]) hx hb dd_K_decode_42 hl rfl (f_inc1 i) (Nat.le_of_ble_eq_true rfl) rfl (fun ls hl => ?_)
        refine lv_goto (pc := 45) (tgt := 17) hx hb dd_K_decode_45 (by decide) ?_
        exact ih (i + 1) _ _ (by omega) hP hS ls (lv_sub hl [0, 1, 2, 3, 4, 5] rfl)
  have plc : ∀ (r : Nat) (w0 : Int64) (u : Nat → Nat), r < xR x → (∀ (H : Heap) (locs : List Loc), fP x (rU S 2 0 (u)) H → fS x s.heap H locs → ∀ ls : Array Slot, lv_has ls 7 [(5, .int (nI r)), (3, .long (dblk (xK x) r u (xK x) w0)), (0, .ref (xa x 1 0)), (1, .ref (xa x 8 c)), (2, .ref (xa x 9 c))] → W p l e ({ frames := 3, cells := 0, slots := 0, locals := 71 } : Room) s m [.ref (xa x 1 0), .ref (xa x 8 c), .ref (xa x 9 c)].toArray below meth c0 H locs 0 0 (MQ below (fQl x (rU S 2 0 (decU x S c (xR x))) (decW x S c (xR x))) [.ref (xa x 1 0), .ref (xa x 8 c), .ref (xa x 9 c)].toArray s 0 0 (fun q => xs x ≤ q)) (F0 m 94 ls [])) → ∀ (n i : Nat) (H : Heap) (locs : List Loc), i + n = xK x → fP x (rU S 2 0 (u)) H → fS x s.heap H locs → ∀ ls : Array Slot, lv_has ls 7 [(6, .int (nI i)), (5, .int (nI r)), (3, .long (dblk (xK x) r u i w0)), (0, .ref (xa x 1 0)), (1, .ref (xa x 8 c)), (2, .ref (xa x 9 c))] → W p l e ({ frames := 3, cells := 0, slots := 0, locals := 71 } : Room) s m [.ref (xa x 1 0), .ref (xa x 8 c), .ref (xa x 9 c)].toArray below meth c0 H locs 0 0 (MQ below (fQl x (rU S 2 0 (decU x S c (xR x))) (decW x S c (xR x))) [.ref (xa x 1 0), .ref (xa x 8 c), .ref (xa x 9 c)].toArray s 0 0 (fun q => xs x ≤ q)) (F0 m 56 ls []) := by
    intro r w0 u hrr kk n
    induction n with
    | zero =>
      intro i H locs hi hP hS ls hl
      have hi : i = xK x := by omega
      subst hi
      refine lv_iload (pc := 56) hx hb dd_K_decode_56 (lv_at hl 0 rfl) ?_
      refine lv_aload_n (pc := 58) hx hb dd_K_decode_58 rfl (lv_at hl 3 rfl) ?_
      refine g_K_K_needed (pc := 59) cx hP (by assumption) dd_K_decode_59 ?_
      refine lv_icmp_ge (pc := 62) (tgt := 94) hx hb dd_K_decode_62 (by decide) (fun h62 => ?_) (fun h62 => ?_)
      · -- 62: t to 94
        exact kk _ _ hP hS ls (lv_sub hl [1, 2, 3, 4, 5] rfl)
      · -- 62: f to 65
        exact absurd ((nI_leI (by omega) (by omega)).mpr (Nat.le_refl _)) h62
    | succ n ih =>
      intro i H locs hi hP hS ls hl
      refine lv_iload (pc := 56) hx hb dd_K_decode_56 (lv_at hl 0 rfl) ?_
      refine lv_aload_n (pc := 58) hx hb dd_K_decode_58 rfl (lv_at hl 3 rfl) ?_
      refine g_K_K_needed (pc := 59) cx hP (by assumption) dd_K_decode_59 ?_
      refine lv_icmp_ge (pc := 62) (tgt := 94) hx hb dd_K_decode_62 (by decide) (fun h62 => ?_) (fun h62 => ?_)
      · -- 62: t to 94
        exact absurd ((nI_leI (by omega) (by omega)).mp h62) (by omega)
      · -- 62: f to 65
        refine lv_lload_n (pc := 65) hx hb dd_K_decode_65 rfl (lv_at hl 2 rfl) ?_
        refine lv_aload_n (pc := 66) hx hb dd_K_decode_66 rfl (lv_at hl 3 rfl) ?_
        refine g_K_K_column (pc := 67) cx hP (by assumption) dd_K_decode_67 ?_
        refine lv_iload (pc := 70) hx hb dd_K_decode_70 (lv_at hl 0 rfl) ?_
        refine f_iald (pc := 72) cx hP (fv.at (by assumption) _) rfl rfl (by omega) dd_K_decode_72 ?_
        refine lv_iload (pc := 73) hx hb dd_K_decode_73 (lv_at hl 1 rfl) ?_
        refine lv_aload_n (pc := 75) hx hb dd_K_decode_75 rfl (lv_at hl 3 rfl) ?_
        refine g_K_K_needed (pc := 76) cx hP (by assumption) dd_K_decode_76 ?_
        refine lv_imul (pc := 79) hx hb dd_K_decode_79 ?_
        refine lv_iload (pc := 80) hx hb dd_K_decode_80 (lv_at hl 0 rfl) ?_
        refine lv_iadd (pc := 82) hx hb dd_K_decode_82 ?_
        refine f_topi f_rk ?_
        refine k_K_K_placed (pc := 83) cx hl hP hS (ct_K_placed l x _ (cb u i) (r * xK x + i) (f_rkb (by omega) hK (by omega))) ⟨⟨rfl, rfl⟩, ⟨(Nat.le_of_ble_eq_true rfl), (Nat.le_of_ble_eq_true rfl)⟩, (Nat.le_of_ble_eq_true rfl), (Nat.le_of_ble_eq_true rfl)⟩ (Nat.le_of_ble_eq_true rfl) dd_K_decode_83 (fun H locs hP hS => ?_)
        refine lv_lor (pc := 86) hx hb dd_K_decode_86 ?_
        refine lv_lstore_n (pc := 87) (lv' := [(3, _), (6, _), (5, _), (0, _), (1, _), (2, _)]) hx hb dd_K_decode_87 rfl hl (Nat.le_of_ble_eq_true rfl) rfl (fun ls hl => ?_)
        refine lv_iinc (pc := 88) (k := 1) (lv' := [(6, _), (3, _), (5, _), (0, _), (1, _), (2, _)]) hx hb dd_K_decode_88 hl rfl (f_inc1 i) (Nat.le_of_ble_eq_true rfl) rfl (fun ls hl => ?_)
        refine lv_goto (pc := 91) (tgt := 56) hx hb dd_K_decode_91 (by decide) ?_
        exact ih (i + 1) _ _ (by omega) hP hS ls (lv_sub hl [0, 2, 1, 3, 4, 5] rfl)
  have outer : ∀ (n r : Nat) (H : Heap) (locs : List Loc), r + n = xR x → fP x (rU S 2 0 (decU x S c r)) H → fS x s.heap H locs → ∀ ls : Array Slot, lv_has ls 7 [(5, .int (nI r)), (3, .long (decW x S c r)), (0, .ref (xa x 1 0)), (1, .ref (xa x 8 c)), (2, .ref (xa x 9 c))] → W p l e ({ frames := 3, cells := 0, slots := 0, locals := 71 } : Room) s m [.ref (xa x 1 0), .ref (xa x 8 c), .ref (xa x 9 c)].toArray below meth c0 H locs 0 0 (MQ below (fQl x (rU S 2 0 (decU x S c (xR x))) (decW x S c (xR x))) [.ref (xa x 1 0), .ref (xa x 8 c), .ref (xa x 9 c)].toArray s 0 0 (fun q => xs x ≤ q)) (F0 m 5 ls []) := by
    intro n
    induction n with
    | zero =>
      intro r H locs hrn hP hS ls hl
      have hrn : r = xR x := by omega
      subst hrn
      refine lv_iload (pc := 5) hx hb dd_K_decode_5 (lv_at hl 0 rfl) ?_
      refine lv_aload_n (pc := 7) hx hb dd_K_decode_7 rfl (lv_at hl 2 rfl) ?_
      refine g_K_K_length (pc := 8) cx hP (by assumption) dd_K_decode_8 ?_
      refine lv_icmp_ge (pc := 11) (tgt := 100) hx hb dd_K_decode_11 (by decide) (fun h11 => ?_) (fun h11 => ?_)
      · -- 11: t to 100
        refine lv_lload_n (pc := 100) hx hb dd_K_decode_100 rfl (lv_at hl 1 rfl) ?_
        exact f_lret (pc := 101) cx hr hlocks hP hS rfl rfl dd_K_decode_101
      · -- 11: f to 14
        exact absurd ((nI_leI (by omega) (by omega)).mpr (Nat.le_refl _)) h11
    | succ n ih =>
      intro r H locs hrn hP hS ls hl
      refine lv_iload (pc := 5) hx hb dd_K_decode_5 (lv_at hl 0 rfl) ?_
      refine lv_aload_n (pc := 7) hx hb dd_K_decode_7 rfl (lv_at hl 2 rfl) ?_
      refine g_K_K_length (pc := 8) cx hP (by assumption) dd_K_decode_8 ?_
      refine lv_icmp_ge (pc := 11) (tgt := 100) hx hb dd_K_decode_11 (by decide) (fun h11 => ?_) (fun h11 => ?_)
      · -- 11: t to 100
        exact absurd ((nI_leI (by omega) (by omega)).mp h11) (by omega)
      · -- 11: f to 14
        refine lv_iconst (pc := 14) (v := nI 0) hx hb dd_K_decode_14 (by decide) ?_
        refine lv_istore (pc := 15) (lv' := [(6, _), (5, _), (3, _), (0, _), (1, _), (2, _)]) hx hb dd_K_decode_15 hl (Nat.le_of_ble_eq_true rfl) rfl (fun ls hl => ?_)
        refine fil r _ (decU x S c r) (by omega) (fun H locs hP hS ls hl => ?_) (xK x) 0 _ _ (by omega) hP hS ls (lv_sub hl [0, 1, 2, 3, 4, 5] rfl)
        refine lv_aload_n (pc := 48) hx hb dd_K_decode_48 rfl (lv_at hl 2 rfl) ?_
        refine lv_aload_n (pc := 49) hx hb dd_K_decode_49 rfl (lv_at hl 3 rfl) ?_
        refine k_K_K_interpolate (pc := 50) cx hl hP hS (by assumption) (ct_K_interp l x _ c v1 v2 v8 hO h7) ⟨⟨rfl, rfl⟩, ⟨(Nat.le_of_ble_eq_true rfl), (Nat.le_of_ble_eq_true rfl)⟩, (Nat.le_of_ble_eq_true rfl), (Nat.le_of_ble_eq_true rfl)⟩ (Nat.le_of_ble_eq_true rfl) dd_K_decode_50 (fun H locs hP hS => ?_)
        have hP := f_eqS (T' := rU S 2 0 (decU x S c (r + 1))) hP (by rw [rU_rU]; rfl)
        refine lv_iconst (pc := 53) (v := nI 0) hx hb dd_K_decode_53 (by decide) ?_
        refine lv_istore (pc := 54) (lv' := [(6, _), (5, _), (3, _), (0, _), (1, _), (2, _)]) hx hb dd_K_decode_54 hl (Nat.le_of_ble_eq_true rfl) rfl (fun ls hl => ?_)
        refine plc r _ (decU x S c (r + 1)) (by omega) (fun H locs hP hS ls hl => ?_) (xK x) 0 _ _ (by omega) hP hS ls (lv_sub hl [0, 1, 2, 3, 4, 5] rfl)
        refine lv_iinc (pc := 94) (k := 0) (lv' := [(5, _), (3, _), (0, _), (1, _), (2, _)]) hx hb dd_K_decode_94 hl rfl (f_inc1 r) (Nat.le_of_ble_eq_true rfl) rfl (fun ls hl => ?_)
        refine lv_goto (pc := 97) (tgt := 5) hx hb dd_K_decode_97 (by decide) ?_
        exact ih (r + 1) _ _ (by omega) hP hS ls (lv_sub hl [0, 1, 2, 3, 4] rfl)
  refine lv_lconst (pc := 0) (v := 0) hx hb dd_K_decode_0 (by decide) ?_
  refine lv_lstore_n (pc := 1) (lv' := [(3, _), (0, _), (1, _), (2, _)]) hx hb dd_K_decode_1 rfl hl (Nat.le_of_ble_eq_true rfl) rfl (fun ls hl => ?_)
  refine lv_iconst (pc := 2) (v := nI 0) hx hb dd_K_decode_2 (by decide) ?_
  refine lv_istore (pc := 3) (lv' := [(5, _), (3, _), (0, _), (1, _), (2, _)]) hx hb dd_K_decode_3 hl (Nat.le_of_ble_eq_true rfl) rfl (fun ls hl => ?_)
  have hP := f_eqS (T' := rU S 2 0 (decU x S c 0)) hP (by show _ = rU S 2 0 (mU S 2 0); rw [rU_self])
  exact outer (xR x) 0 _ _ (by omega) hP hS ls (lv_sub hl [0, 1, 2, 3, 4] rfl)
