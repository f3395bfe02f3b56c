-- a new letter
section FN
variable {p : Program} {l : Launch} {e : Env} {R : Room} {s : State} {m : MethodId} {args : Array Value} {below : List Frame} {meth : Method} {c : Code} {H : Heap} {locs : List Loc} {cells slots : Nat} {Q : State → Prop}
variable {cc : ByteArray} {pc : Nat} {ls : Array Slot} {rest : List Value} {own : String} {nL : Nat} {x : fy} {S : fm} {a : Nat} {H0 : Heap}
theorem f_oi {idx : Nat} {lv : List (Nat × Value)} (w1 : Cond.methodLink own idx objectInit ∈ gw_tbl) (cx : fX own cc nL p c s m args x) (hl : lv_has ls nL lv) (hfr : 1 ≤ R.frames) (hlo : (rest.map fun v => v.category).sum + 12 ≤ R.locals) (hdg : decode cc pc = .ok (.invokespecial idx, 3)) (kk : W p l e R s m args below meth c H locs cells slots Q (F0 m (pc + 3) ls rest)) : W p l e R s m args below meth c H locs cells slots Q (F0 m pc ls (.ref a :: rest)) :=
  W.objInit cx.1.1 cx.1.2.1 cx.1.2.2.2.1 (cx.1.2.2.2.2 _ w1) (cx.1.2.2.2.2 _ im_O_init) (cx.1.2.2.2.2 _ co_O_init) rfl (by rw [cx.1.2.2.1]; exact hl.1) rfl hdg hfr (by show 2 * 0 + _ + 12 ≤ _; omega) kk
theorem fc_newL : fc x (e_newL S) 15 (mZ S) = .inr (2, [.int 0, .int 0, .int 0, .long 0, .int 0, .int (b2 false)]) := by
  show fcr x 15 (mZ S) (mI (e_newL S) 15 (mZ S)) (mJ (e_newL S) 15 (mZ S)) (mB (e_newL S) 15 (mZ S)) _ _ = _
  rw [show mI (e_newL S) 15 (mZ S) = fun _ => 0 from u2_s, show mJ (e_newL S) 15 (mZ S) = fun _ => 0 from u2_s, show mB (e_newL S) 15 (mZ S) = fun _ => false from u2_s]
  rfl
theorem fc_newL_n {k i : Nat} (h : ¬ (k = 15 ∧ i = mZ S)) : fc x (e_newL S) k i = fc x S k i := by
  show fcr x k i (mI (e_newL S) k i) (mJ (e_newL S) k i) (mB (e_newL S) k i) _ _ = _
  rw [show mI (e_newL S) k i = mI S k i from u2_n h, show mJ (e_newL S) k i = mJ S k i from u2_n h, show mB (e_newL S) k i = mB S k i from u2_n h]
  rfl
theorem fP_newL {H1 : Heap} (hP : fP x S H) (hn : va_at (xd x) cls_all (H.size, .inr (2, [.int 0, .int 0, .int 0, .long 0, .int 0, .int (b2 false)])) H1) (z : H1.size = H.size + 1) (o1 : ∀ q, q < H.size → H1[q]? = H[q]?) : fP x (e_newL S) H1 := by
  obtain ⟨hO, hb, hz, hw⟩ := hP
  have hZ : mZ (e_newL S) = mZ S + 1 := rfl
  refine ⟨hO, by omega, by omega, fun q e he => ?_⟩
  obtain ⟨k, i, hq, rfl⟩ := wd.at he
  by_cases hqz : q = mZ S
  · have : k = 15 ∧ i = mZ S := by
      rcases hq with hq | ⟨-, -, -, h5, h6⟩
      · have := (hO.1 _ _ _ hq).2.2.1
        omega
      · exact ⟨h5, h6.trans hqz⟩
    obtain ⟨rfl, rfl⟩ := this
    rw [fc_newL, hqz, ← hz]
    exact hn
  · have hq' : fat x S q k i := by
      rcases hq with hq | ⟨h1, h2, h4, h5⟩
      · exact Or.inl hq
      · exact Or.inr ⟨h1, h2, by omega, h5⟩
    have hki : ¬ (k = 15 ∧ i = mZ S) := by
      rintro ⟨h1, h2⟩
      rcases hq with hq | ⟨-, -, -, h5, h6⟩
      · exact (hO.1 _ _ _ hq).2.2.2 h1
      · omega
    rw [fc_newL_n hki]
    have h1 := hw _ _ hq'.cell
    exact h1.kept (o1 q h1.lt)
theorem fvL_new (hP : fP x S H) : fvL x (e_newL S) (mZ S) := by
  refine ⟨?_, hP.2.1, Nat.lt_succ_self _⟩
  cases h : xl x (mZ S) with
  | none => rfl
  | some q =>
    have := (hP.1.1 _ q.1 q.2 h).2.2.1
    have := hP.2.1
    omega
theorem f_newL {index : Nat} (w1 : Cond.classLink own index rn_L ∈ gw_tbl) (cx : fX own cc nL p c s m args x) (hP : fP x S H) (hS : fS x H0 H locs) (hcells : cells + 1 ≤ R.cells) (hslots : slots + 6 ≤ R.slots) (hdg : decode cc pc = .ok (.new index, 3))
    (kk : ∀ H1 : Heap, fP x (e_newL S) H1 → fS x H0 H1 locs → fvL x (e_newL S) (mZ S) → W p l e R s m args below meth c H1 locs (cells + 1) (slots + 6) Q (F0 m (pc + 3) ls (.ref (mZ S) :: rest))) : W p l e R s m args below meth c H locs cells slots Q (F0 m pc ls rest) := by
  have hts := cx.1.2.2.2.2
  have hKn := cx.2.1 2 _ rfl
  refine W.newcK cx.1.1 cx.1.2.1 cx.1.2.2.2.1 (hts _ w1) (hts _ is_L) (hts _ in_L) rfl hdg hcells hslots hKn.2.1 hP.2.2.1 fun H1 kC hkC e1 z1 o1 => ?_
  have hz := hP.2.2.1
  refine kk H1 (fP_newL hP ?_ (by omega) (fun q hq => o1 q (by omega))) ⟨Nat.le_trans hS.1 (by omega), fun q h1 h2 => (o1 q (by have := hS.1; omega)).trans (hS.2.1 q h1 h2), hS.2.2⟩ (fvL_new hP)
  rw [hz]
  refine ⟨_, rfl, (u_born ty_L hts wf_L hKn hkC e1 tk_L).to (fun j hj => ?_)⟩
  match j, hj with
  | 0, _ => rfl
  | 1, _ => rfl
  | 2, _ => rfl
  | 3, _ => rfl
  | 4, _ => rfl
  | 5, _ => rfl
  | n + 6, hj => exact absurd hj (by show ¬ n + 6 < 6; omega)
end FN
