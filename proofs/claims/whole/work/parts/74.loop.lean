-- printed by wip/whole/gen/c_loop.py: the loop of the law
theorem f_inc4 (a : Nat) : nI a + Int32.ofInt 4 = nI (a + 4) := by rw [show Int32.ofInt 4 = nI 4 from rfl, nI_add]
theorem sc_go {i L : Nat} (hL : L ≤ 2051) (hi : i ≤ 10000) (h : ¬ Int32.ofNat L - 4 < nI i) : i + 4 ≤ L := by
  have h4 : 4 ≤ L := by
    by_cases q : 4 ≤ L
    · exact q
    · exfalso
      apply h
      rw [Int32.lt_iff_toInt_lt, nI_toInt (by omega)]
      have : L = 0 ∨ L = 1 ∨ L = 2 ∨ L = 3 := by omega
      have hn : (Int32.ofNat L - 4).toInt < 0 := by rcases this with e | e | e | e <;> rw [e] <;> decide
      omega
  have e : Int32.ofNat L - 4 = nI (L - 4) := by
    have e1 : nI (L - 4) + 4 = Int32.ofNat L := by rw [show (4 : Int32) = nI 4 from rfl, nI_add, show L - 4 + 4 = L by omega]; rfl
    rw [← e1]; simp
  rw [e, nI_ltI (by omega) (by omega)] at h
  omega
set_option maxHeartbeats 4000000 in
set_option maxRecDepth 100000 in
theorem lw_loop {p : Program} {l : Launch} {e : Env} {s : State} {m : MethodId} {below : List Frame} {meth : Method} {c : Code} {x : fy} {b L : Nat} {ys : Nat → Int32} (cx : fX rn_W cb_W_law 4 p c s m #[Value.ref b] x) (hr : meth.sig.returnType = ret) (hlocks : meth.locks = false) (hO : fO x) (hL : fL x) (hM : fM x) (hX : va_X b L ys s s.heap) (hbl : b < s.heap.size) (hxs : xs x = s.heap.size) (hLL : L ≤ 2051) :
    ∀ (t n : Nat) (S : fm) (H : Heap) (locs : List Loc) (ls : Array Slot) (cells slots : Nat), n + t ≤ 520 → L ≤ 4 * n + 3 + 4 * t → SIM x (2 * n) S → lv_has ls 4 [(3, .int (nI (3 + 4 * n))), (2, .ref (xa x 16 0)), (1, .ref (xa x 0 0)), (0, .ref b)] → fP x S H → fS x s.heap H locs → cells ≤ 300 + 7 * n → slots ≤ 4000 + 42 * n → W p l e room_1 s m #[Value.ref b] below meth c H locs cells slots (lw_Z below #[Value.ref b] s) (F0 m 48 ls []) := by
  have hx := cx.1.1
  have hb := cx.1.2.1
  have hbA : ¬ xs x ≤ b := by omega
  intro t
  induction t with
  | zero =>
    intro n S H locs ls cells slots ht hLt hs hl hP hS hc hsl
    refine lv_iload_n (pc := 48) hx hb dd_W_law_48 rfl (lv_at hl 0 rfl) ?_
    refine lv_aload_n (pc := 49) hx hb dd_W_law_49 rfl (lv_at hl 3 rfl) ?_
    refine va_slen (pc := 50) hx hb hX hbl hbA hS dd_W_law_50 ?_
    refine lv_iconst (pc := 51) (v := 4) hx hb dd_W_law_51 (by decide) ?_
    refine lv_isub (pc := 52) hx hb dd_W_law_52 ?_
    refine lv_icmp_gt (pc := 53) (tgt := 716) hx hb dd_W_law_53 (by decide) (fun h53 => ?_) (fun h53 => ?_)
    · -- 53: t to 716
      refine lv_iconst (pc := 716) (v := 1) hx hb dd_W_law_716 (by decide) ?_
      refine va_forget (fun q hq => by have := hS.2.2 q hq; omega) ?_
      refine W.widen (k := 652497) (n := 7144758) (by omega) (by omega) ?_
      exact lw_ret hx hb hr hlocks dd_W_law_717
    · -- 53: f to 56
      have := sc_go hLL (by omega) h53
      omega
  | succ t ih =>
    intro n S H locs ls cells slots ht hLt hs hl hP hS hc hsl
    refine lv_iload_n (pc := 48) hx hb dd_W_law_48 rfl (lv_at hl 0 rfl) ?_
    refine lv_aload_n (pc := 49) hx hb dd_W_law_49 rfl (lv_at hl 3 rfl) ?_
    refine va_slen (pc := 50) hx hb hX hbl hbA hS dd_W_law_50 ?_
    refine lv_iconst (pc := 51) (v := 4) hx hb dd_W_law_51 (by decide) ?_
    refine lv_isub (pc := 52) hx hb dd_W_law_52 ?_
    refine lv_icmp_gt (pc := 53) (tgt := 716) hx hb dd_W_law_53 (by decide) (fun h53 => ?_) (fun h53 => ?_)
    · -- 53: t to 716
      refine lv_iconst (pc := 716) (v := 1) hx hb dd_W_law_716 (by decide) ?_
      refine va_forget (fun q hq => by have := hS.2.2 q hq; omega) ?_
      refine W.widen (k := 652497) (n := 7144758) (by omega) (by omega) ?_
      exact lw_ret hx hb hr hlocks dd_W_law_717
    · -- 53: f to 56
      have hgo := sc_go hLL (by omega) h53
      refine lv_aload_n (pc := 56) hx hb dd_W_law_56 rfl (lv_at hl 3 rfl) ?_
      refine lv_iload_n (pc := 57) hx hb dd_W_law_57 rfl (lv_at hl 0 rfl) ?_
      refine va_sld (pc := 58) hx hb hX hbl hbA hS (nI_in (by omega) (by omega)) dd_W_law_58 ?_
      refine lv_bipush (pc := 59) (v := 31) hx hb dd_W_law_59 (by decide) ?_
      refine lv_iand (pc := 61) hx hb dd_W_law_61 ?_
      have kk : ∀ (S2 : fm) (H1 : Heap) (locs1 : List Loc) (c1 s1 : Nat), fP x S2 H1 → fS x s.heap H1 locs1 → SIM x (2 * n + 2) S2 → c1 ≤ cells + 7 → s1 ≤ slots + 42 → W p l e room_1 s m #[Value.ref b] below meth c H1 locs1 c1 s1 (lw_Z below #[Value.ref b] s) (F0 m 710 ls []) := by
        intro S2 H1 locs1 c1 s1 hP hS hs hc hsl
        refine lv_iinc (pc := 710) (k := 0) (lv' := [(3, _), (2, _), (1, _), (0, _)]) hx hb dd_W_law_710 hl rfl (f_inc4 _) (Nat.le_of_ble_eq_true rfl) rfl (fun ls hl => ?_)
        refine lv_goto (pc := 713) (tgt := 48) hx hb dd_W_law_713 (by decide) ?_
        exact ih (n + 1) S2 H1 locs1 ls c1 s1 (by omega) (by omega) hs hl hP hS (by omega) (by omega)
      by_cases hs0 : ys (nI (3 + 4 * n)).toNatClampNeg &&& 31 = 0
      · refine f_topi hs0 ?_
        refine lv_tableIn (pc := 62) (off := 90) (tgt := 152) hx hb dd_W_law_62 (by decide) (by decide) (by decide) (by decide) ?_
        exact lo_write cx hO hL hM hX hbl hbA (by omega) hLL (by omega) hs hl hP hS (by omega) (by omega) kk
      by_cases hs1 : ys (nI (3 + 4 * n)).toNatClampNeg &&& 31 = 1
      · refine f_topi hs1 ?_
        refine lv_tableIn (pc := 62) (off := 153) (tgt := 215) hx hb dd_W_law_62 (by decide) (by decide) (by decide) (by decide) ?_
        exact lo_read cx hO hL hM hX hbl hbA (by omega) hLL (by omega) hs hl hP hS (by omega) (by omega) kk
      by_cases hs2 : ys (nI (3 + 4 * n)).toNatClampNeg &&& 31 = 2
      · refine f_topi hs2 ?_
        refine lv_tableIn (pc := 62) (off := 176) (tgt := 238) hx hb dd_W_law_62 (by decide) (by decide) (by decide) (by decide) ?_
        exact lo_again cx hO hL hM hX hbl hbA (by omega) hLL (by omega) hs hl hP hS (by omega) (by omega) kk
      by_cases hs3 : ys (nI (3 + 4 * n)).toNatClampNeg &&& 31 = 3
      · refine f_topi hs3 ?_
        refine lv_tableIn (pc := 62) (off := 199) (tgt := 261) hx hb dd_W_law_62 (by decide) (by decide) (by decide) (by decide) ?_
        exact lo_deliver cx hO hL hM hX hbl hbA (by omega) hLL (by omega) hs hl hP hS (by omega) (by omega) kk
      by_cases hs4 : ys (nI (3 + 4 * n)).toNatClampNeg &&& 31 = 4
      · refine f_topi hs4 ?_
        refine lv_tableIn (pc := 62) (off := 242) (tgt := 304) hx hb dd_W_law_62 (by decide) (by decide) (by decide) (by decide) ?_
        exact lo_hear cx hO hL hM hX hbl hbA (by omega) hLL (by omega) hs hl hP hS (by omega) (by omega) kk
      by_cases hs5 : ys (nI (3 + 4 * n)).toNatClampNeg &&& 31 = 5
      · refine f_topi hs5 ?_
        refine lv_tableIn (pc := 62) (off := 285) (tgt := 347) hx hb dd_W_law_62 (by decide) (by decide) (by decide) (by decide) ?_
        exact lo_crash cx hO hL hM hX hbl hbA (by omega) hLL (by omega) hs hl hP hS (by omega) (by omega) kk
      by_cases hs6 : ys (nI (3 + 4 * n)).toNatClampNeg &&& 31 = 6
      · refine f_topi hs6 ?_
        refine lv_tableIn (pc := 62) (off := 308) (tgt := 370) hx hb dd_W_law_62 (by decide) (by decide) (by decide) (by decide) ?_
        exact lo_stop cx hO hL hM hX hbl hbA (by omega) hLL (by omega) hs hl hP hS (by omega) (by omega) kk
      by_cases hs7 : ys (nI (3 + 4 * n)).toNatClampNeg &&& 31 = 7
      · refine f_topi hs7 ?_
        refine lv_tableIn (pc := 62) (off := 331) (tgt := 393) hx hb dd_W_law_62 (by decide) (by decide) (by decide) (by decide) ?_
        exact lo_phase cx hO hL hM hX hbl hbA (by omega) hLL (by omega) hs hl hP hS (by omega) (by omega) kk
      by_cases hs8 : ys (nI (3 + 4 * n)).toNatClampNeg &&& 31 = 8
      · refine f_topi hs8 ?_
        refine lv_tableIn (pc := 62) (off := 354) (tgt := 416) hx hb dd_W_law_62 (by decide) (by decide) (by decide) (by decide) ?_
        exact lo_heard cx hO hL hM hX hbl hbA (by omega) hLL (by omega) hs hl hP hS (by omega) (by omega) kk
      by_cases hs9 : ys (nI (3 + 4 * n)).toNatClampNeg &&& 31 = 9
      · refine f_topi hs9 ?_
        refine lv_tableIn (pc := 62) (off := 377) (tgt := 439) hx hb dd_W_law_62 (by decide) (by decide) (by decide) (by decide) ?_
        exact lo_tag cx hO hL hM hX hbl hbA (by omega) hLL (by omega) hs hl hP hS (by omega) (by omega) kk
      by_cases hs10 : ys (nI (3 + 4 * n)).toNatClampNeg &&& 31 = 10
      · refine f_topi hs10 ?_
        refine lv_tableIn (pc := 62) (off := 400) (tgt := 462) hx hb dd_W_law_62 (by decide) (by decide) (by decide) (by decide) ?_
        exact lo_result cx hO hL hM hX hbl hbA (by omega) hLL (by omega) hs hl hP hS (by omega) (by omega) kk
      by_cases hs11 : ys (nI (3 + 4 * n)).toNatClampNeg &&& 31 = 11
      · refine f_topi hs11 ?_
        refine lv_tableIn (pc := 62) (off := 424) (tgt := 486) hx hb dd_W_law_62 (by decide) (by decide) (by decide) (by decide) ?_
        exact lo_finished cx hO hL hM hX hbl hbA (by omega) hLL (by omega) hs hl hP hS (by omega) (by omega) kk
      by_cases hs12 : ys (nI (3 + 4 * n)).toNatClampNeg &&& 31 = 12
      · refine f_topi hs12 ?_
        refine lv_tableIn (pc := 62) (off := 447) (tgt := 509) hx hb dd_W_law_62 (by decide) (by decide) (by decide) (by decide) ?_
        exact lo_held cx hO hL hM hX hbl hbA (by omega) hLL (by omega) hs hl hP hS (by omega) (by omega) kk
      by_cases hs13 : ys (nI (3 + 4 * n)).toNatClampNeg &&& 31 = 13
      · refine f_topi hs13 ?_
        refine lv_tableIn (pc := 62) (off := 470) (tgt := 532) hx hb dd_W_law_62 (by decide) (by decide) (by decide) (by decide) ?_
        exact lo_heldTag cx hO hL hM hX hbl hbA (by omega) hLL (by omega) hs hl hP hS (by omega) (by omega) kk
      by_cases hs14 : ys (nI (3 + 4 * n)).toNatClampNeg &&& 31 = 14
      · refine f_topi hs14 ?_
        refine lv_tableIn (pc := 62) (off := 503) (tgt := 565) hx hb dd_W_law_62 (by decide) (by decide) (by decide) (by decide) ?_
        exact lo_fragment cx hO hL hM hX hbl hbA (by omega) hLL (by omega) hs hl hP hS (by omega) (by omega) kk
      by_cases hs15 : ys (nI (3 + 4 * n)).toNatClampNeg &&& 31 = 15
      · refine f_topi hs15 ?_
        refine lv_tableIn (pc := 62) (off := 546) (tgt := 608) hx hb dd_W_law_62 (by decide) (by decide) (by decide) (by decide) ?_
        exact lo_seal cx hO hL hM hX hbl hbA (by omega) hLL (by omega) hs hl hP hS (by omega) (by omega) kk
      by_cases hs16 : ys (nI (3 + 4 * n)).toNatClampNeg &&& 31 = 16
      · refine f_topi hs16 ?_
        refine lv_tableIn (pc := 62) (off := 569) (tgt := 631) hx hb dd_W_law_62 (by decide) (by decide) (by decide) (by decide) ?_
        exact lo_requests cx hO hL hM hX hbl hbA (by omega) hLL (by omega) hs hl hP hS (by omega) (by omega) kk
      by_cases hs17 : ys (nI (3 + 4 * n)).toNatClampNeg &&& 31 = 17
      · refine f_topi hs17 ?_
        refine lv_tableIn (pc := 62) (off := 602) (tgt := 664) hx hb dd_W_law_62 (by decide) (by decide) (by decide) (by decide) ?_
        exact lo_replies cx hO hL hM hX hbl hbA (by omega) hLL (by omega) hs hl hP hS (by omega) (by omega) kk
      by_cases hs18 : ys (nI (3 + 4 * n)).toNatClampNeg &&& 31 = 18
      · refine f_topi hs18 ?_
        refine lv_tableIn (pc := 62) (off := 635) (tgt := 697) hx hb dd_W_law_62 (by decide) (by decide) (by decide) (by decide) ?_
        exact lo_quorum cx hO hL hM hX hbl hbA (by omega) hLL (by omega) hs hl hP hS (by omega) (by omega) kk
      have hn0 := lv_neT (a := 0) hs0 (by decide)
      have hn1 := lv_neT (a := 1) hs1 (by decide)
      have hn2 := lv_neT (a := 2) hs2 (by decide)
      have hn3 := lv_neT (a := 3) hs3 (by decide)
      have hn4 := lv_neT (a := 4) hs4 (by decide)
      have hn5 := lv_neT (a := 5) hs5 (by decide)
      have hn6 := lv_neT (a := 6) hs6 (by decide)
      have hn7 := lv_neT (a := 7) hs7 (by decide)
      have hn8 := lv_neT (a := 8) hs8 (by decide)
      have hn9 := lv_neT (a := 9) hs9 (by decide)
      have hn10 := lv_neT (a := 10) hs10 (by decide)
      have hn11 := lv_neT (a := 11) hs11 (by decide)
      have hn12 := lv_neT (a := 12) hs12 (by decide)
      have hn13 := lv_neT (a := 13) hs13 (by decide)
      have hn14 := lv_neT (a := 14) hs14 (by decide)
      have hn15 := lv_neT (a := 15) hs15 (by decide)
      have hn16 := lv_neT (a := 16) hs16 (by decide)
      have hn17 := lv_neT (a := 17) hs17 (by decide)
      have hn18 := lv_neT (a := 18) hs18 (by decide)
      refine lv_tableOut (pc := 62) (tgt := 710) hx hb dd_W_law_62 (by omega) (by decide) ?_
      exact kk S H locs cells slots hP hS (hs.mono (by omega)) (by omega) (by omega)
