-- delivery and crash, in the reference
theorem Ms.row {M T : fm} {A A' : AS} {s : Nat} (h : Ms M A s) (h33 : mB T 33 0 s = mB M 33 0 s) (h34 : mI T 34 0 s = mI M 34 0 s) (h35 : mU T 35 0 s = mU M 35 0 s) (h36 : ∀ q, q < mU M 35 0 s → mI T 36 0 (5 * s + q) = mI M 36 0 (5 * s + q) ∧ mJ T 37 0 (5 * s + q) = mJ M 37 0 (5 * s + q)) (hs : asv A' s = asv A s) (hb : abk A' = abk A) : Ms T A' s := by
  obtain ⟨h1, h2, h3, h4⟩ := h
  unfold Ms
  rw [hs, hb, h33, h34, h35]
  refine ⟨h1, h2, ?_, fun q hq => ?_⟩
  · rw [mk_congr (g := fun q => mI M 36 0 (5 * s + q)) (fun q hq => (h36 q hq).1)]; exact h3
  · rw [(h36 q hq).1, (h36 q hq).2]; exact h4 q hq
theorem jmax_if (a b : Int32) : jmax a b = if a < b then b else a := rfl
/-- the reference's server, before the reply is sent -/
theorem m_srv {x : fy} {M : fm} {A : AS} {s : Nat} {l : LA} {w : Int64} (hO : fO x) (h : Ms M A s) (hI : (asv A s).2.2.Pairwise (fun a b => b.toInt < a.toInt)) (hl : (asv A s).2.2.length ≤ xD x + 1) (ht : l.1 = 2 → l.2.2.1 ∉ (asv A s).2.2) (hw : l.1 = 2 → w = abk A l.2.2.1) :
    (∀ k, k < 34 ∨ 37 < k → sk M (n_dlB (n_dlA x M s l.1 l.2.2.1 w) s l.1 l.2.2.1) k) ∧ Ms (n_dlB (n_dlA x M s l.1 l.2.2.1 w) s l.1 l.2.2.1) (usv A s (a_srv x (asv A s) l)) s ∧ (∀ s', s' ≠ s → mI (n_dlB (n_dlA x M s l.1 l.2.2.1 w) s l.1 l.2.2.1) 34 0 s' = mI M 34 0 s' ∧ mU (n_dlB (n_dlA x M s l.1 l.2.2.1 w) s l.1 l.2.2.1) 35 0 s' = mU M 35 0 s') ∧ (∀ i, i < 5 * s ∨ 5 * s + 5 ≤ i → mI (n_dlB (n_dlA x M s l.1 l.2.2.1 w) s l.1 l.2.2.1) 36 0 i = mI M 36 0 i ∧ mJ (n_dlB (n_dlA x M s l.1 l.2.2.1 w) s l.1 l.2.2.1) 37 0 i = mJ M 37 0 i) := by
  have es : asv (usv A s (a_srv x (asv A s) l)) s = a_srv x (asv A s) l := vu_s _ _ _
  by_cases h2 : l.1 = 2
  · have ea : a_srv x (asv A s) l = ((asv A s).1, (asv A s).2.1, stL (xD x) l.2.2.1 (asv A s).2.2) := if_pos h2
    have eT : n_dlB (n_dlA x M s l.1 l.2.2.1 w) s l.1 l.2.2.1 = n_store x M s l.2.2.1 (abk A l.2.2.1) := by
      unfold n_dlB n_dlA
      rw [if_pos h2, if_neg (fun z => by rw [h2] at z; rcases z.1 with z | z <;> exact absurd z (by decide)), hw h2]
    obtain ⟨t1, t2, t3, t4, t5⟩ := m_store hO h hI hl (ht h2)
    rw [eT]
    refine ⟨fun k hk => t1 k (by omega) (by omega) (by omega), ?_, fun s' hs' => ⟨by rw [(t1 34 (by omega) (by omega) (by omega)).1], t2 s' hs'⟩, t3⟩
    unfold Ms
    rw [es, ea, (t1 33 (by omega) (by omega) (by omega)).2.2.1, (t1 34 (by omega) (by omega) (by omega)).1]
    exact ⟨h.1, h.2.1, t4, t5⟩
  · have e0 : n_dlA x M s l.1 l.2.2.1 w = M := if_neg h2
    rw [e0]
    by_cases h3 : l.1 = 3 ∨ l.1 = 5
    · have ea : a_srv x (asv A s) l = ((asv A s).1, jmax (asv A s).2.1 l.2.2.1, (asv A s).2.2) := by unfold a_srv; rw [if_neg h2, if_pos h3]
      have hs34 : mI (n_dlB M s l.1 l.2.2.1) 34 0 s = jmax (asv A s).2.1 l.2.2.1 := by
        unfold n_dlB
        rw [jmax_if, ← h.2.1]
        by_cases c : mI M 34 0 s < l.2.2.1
        · rw [if_pos ⟨h3, c⟩, if_pos c, mI_sI, if_pos ⟨rfl, rfl, rfl⟩]
        · rw [if_neg (fun z => c z.2), if_neg c]
      have so : ∀ s', s' ≠ s → mI (n_dlB M s l.1 l.2.2.1) 34 0 s' = mI M 34 0 s' := by
        intro s' hs'
        unfold n_dlB
        split
        · rw [mI_sI, if_neg (fun z => hs' z.2.2)]
        · rfl
      have sk34 : ∀ k, k ≠ 34 → sk M (n_dlB M s l.1 l.2.2.1) k := fun k hk => by unfold n_dlB; exact sk.if (sk_sI M _ hk) (sk.rf M k)
      refine ⟨fun k hk => sk34 k (by omega), ?_, fun s' hs' => ⟨so s' hs', by rw [(sk34 35 (by omega)).2.2.2.2]⟩, fun i _ => ⟨by rw [(sk34 36 (by omega)).1], by rw [(sk34 37 (by omega)).2.1]⟩⟩
      unfold Ms
      rw [es, ea, hs34, (sk34 33 (by omega)).2.2.1, (sk34 35 (by omega)).2.2.2.2, (sk34 36 (by omega)).1, (sk34 37 (by omega)).2.1]
      exact ⟨h.1, rfl, h.2.2.1, h.2.2.2⟩
    · have ea : a_srv x (asv A s) l = asv A s := by unfold a_srv; rw [if_neg h2, if_neg h3]
      have e1 : n_dlB M s l.1 l.2.2.1 = M := if_neg (fun z => h3 z.1)
      rw [e1]
      refine ⟨fun k _ => sk.rf M k, ?_, fun s' _ => ⟨rfl, rfl⟩, fun i _ => ⟨rfl, rfl⟩⟩
      unfold Ms
      rw [es, ea]
      exact h
theorem ml_dlC (M : fm) (c s : Nat) (p w : Int32) (o : Option Nat) : ml (n_dlC M c s p w o) = ml M ++ [(true, nI c, nI s, p, w, mI M 34 0 s, (match o with | some i => mJ M 37 0 i | none => 0), o.isSome)] := by
  unfold ml
  rw [show mL (n_dlC M c s p w o) = mL M + 1 from n_send_L M true c s p w, ← mk_snoc]
  refine mk_congr (fun j hj => ?_)
  unfold me
  by_cases h : j = mL M
  · subst h
    rw [vu_s]
    unfold n_dlC n_send
    simp [mI_sI, mB_sB, mJ_sJ, mI_sJ, mI_sB, mI_sU, mB_sI, mB_sJ, mB_sU, mJ_sI, mJ_sB, mJ_sU]
    cases o <;> rfl
  · rw [vu_n _ _ h]
    unfold n_dlC n_send
    simp [mI_sI, mB_sB, mJ_sJ, mI_sJ, mI_sB, mI_sU, mB_sI, mB_sJ, mB_sU, mJ_sI, mJ_sB, mJ_sU, h]
theorem sk_dlC (M : fm) (c s : Nat) (p w : Int32) (o : Option Nat) {k : Nat} (h : k ≠ 16 ∧ (k < 39 ∨ 46 < k)) : sk M (n_dlC M c s p w o) k := by
  unfold n_dlC
  exact (((sk_send M _ _ _ _ _ h).tr (sk_sI _ _ (by omega))).tr (sk_sB _ _ (by omega))).tr (sk_sJ _ _ (by omega))
theorem m_del {x : fy} {M : fm} {A : AS} {c s i j k : Nat} {l : LA} (hO : fO x) (hc : c < 5) (hs : s < xN x) (h : MRel x M A) (hI : Inv x k A) (hj : (aq A false c s)[j]? = some l) (hi : i < mL M) (hmj : (mq M false c s)[j]? = some (me M i)) (hm : mt false c s (me M i) = true) (he : ((ml M).eraseIdx i).filter (mt false c s) = (mq M false c s).eraseIdx j) : MRel x (n_dl x M c s i) (a_del x A c s j l) ∧ mI M 44 0 i = l.1 := by
  obtain ⟨h1, h2, h3, h4⟩ := h
  have hN : xN x ≤ 7 := hO.2.2.2.1
  have hD : xD x ≤ 3 := hO.2.2.2.2.2.2
  obtain ⟨r1, r2, r3, r4⟩ := (h3 c s hc hs).1.2 j _ _ hmj hj
  have r1 : mI M 44 0 i = l.1 := r1
  have r2 : mI M 43 0 i = nI l.2.1 := r2
  have r3 : mI M 45 0 i = l.2.2.1 := r3
  have r4 : l.1 = 2 → mJ M 46 0 i = abk A l.2.2.1 := r4
  refine ⟨?_, r1⟩
  obtain ⟨i1, i2, i3, i4, i5, i6, i7, i8, i9, i10⟩ := (hI.2.2.2 c s hc hs).1 false l (List.mem_of_getElem? hj)
  obtain ⟨g1, g2, g3, g4, g5⟩ := hI.2.2.1 s hs
  have sl : ∀ k, k ≠ 16 ∧ (k < 39 ∨ 46 < k) → sk M (n_lose M i) k := fun k hk => sk_nlose M i hk
  have hM1 : Ms (n_lose M i) A s := (h2 s hs).mono (fun k k1 k2 => sl k (by omega)) rfl (fun _ _ => rfl)
  have hq1 : ∀ b' c' s', c' < 5 → s' < xN x → mq (n_lose M i) b' c' s' = if b' = false ∧ c' = c ∧ s' = s then (mq M false c s).eraseIdx j else mq M b' c' s' := fun b' c' s' a b => mq_lose hi hm he hc (by omega) a (by omega)
  have ok1 := okE_lose (x := x) hi h4
  unfold n_dl
  rw [r1, r2, r3]
  obtain ⟨v1, v2, v3, v4⟩ := m_srv (x := x) (M := n_lose M i) (A := A) (s := s) (l := l) (w := mJ M 46 0 i) hO hM1 g3 g2 (fun e => (i8 rfl e).2.2) r4
  generalize n_lose M i = M1 at *
  generalize n_dlB (n_dlA x M1 s l.1 l.2.2.1 (mJ M 46 0 i)) s l.1 l.2.2.1 = M3 at *
  have hml3 : ml M3 = ml M1 := ml_sk (fun k hk => v1 k (by omega))
  have sf : ∀ k, k < 34 → k ≠ 16 → sk M (n_dlC M3 c s l.1 (nI l.2.1) (n_dlP M3 s l.1 l.2.2.1)) k := fun k a b => ((sl k (by omega)).tr (v1 k (by omega))).tr (sk_dlC _ _ _ _ _ _ (by omega))
  have sd : ∀ k, k ≠ 16 ∧ (k < 39 ∨ 46 < k) → sk M3 (n_dlC M3 c s l.1 (nI l.2.1) (n_dlP M3 s l.1 l.2.2.1)) k := fun k a => sk_dlC _ _ _ _ _ _ a
  have es : asv (usv A s (a_srv x (asv A s) l)) s = a_srv x (asv A s) l := vu_s _ _ _
  refine ⟨fun c' hc' => (h1 c' hc').mono (fun k k1 k2 => ⟨by rw [(sf k (by omega) (by omega)).1], by rw [(sf k (by omega) (by omega)).2.1]⟩) rfl rfl, fun s' hs' => ?_, fun c' s' hc' hs' => ?_, fun e he2 => ?_⟩
  · by_cases e : s' = s
    · subst e
      exact v2.mono (fun k k1 k2 => sd k (by omega)) rfl (fun _ _ => rfl)
    · have hlen : mU M 35 0 s' ≤ 5 := by
        have := (h2 s' hs').2.2.1.length_eq
        rw [mk_len] at this
        have := (hI.2.2.1 s' hs').2.1
        omega
      refine (h2 s' hs').row (by rw [(sf 33 (by omega) (by omega)).2.2.1]) (by rw [(sd 34 (by omega)).1, (v3 s' e).1, (sl 34 (by omega)).1]) (by rw [(sd 35 (by omega)).2.2.2.2, (v3 s' e).2, (sl 35 (by omega)).2.2.2.2]) (fun q hq => ?_) (vu_n _ _ e) rfl
      rw [(sd 36 (by omega)).1, (sd 37 (by omega)).2.1, (v4 _ (by omega)).1, (v4 _ (by omega)).2, (sl 36 (by omega)).1, (sl 37 (by omega)).2.1]
      exact ⟨rfl, rfl⟩
  · obtain ⟨q1, q2⟩ := h3 c' s' hc' hs'
    have hq3 : ∀ b', mq (n_dlC M3 c s l.1 (nI l.2.1) (n_dlP M3 s l.1 l.2.2.1)) b' c' s' = if b' = true ∧ c' = c ∧ s' = s then mq M1 b' c' s' ++ [(true, nI c, nI s, l.1, nI l.2.1, mI M3 34 0 s, (match n_dlP M3 s l.1 l.2.2.1 with | some i => mJ M3 37 0 i | none => 0), (n_dlP M3 s l.1 l.2.2.1).isSome)] else mq M1 b' c' s' := by
      intro b'
      unfold mq
      rw [ml_dlC, hml3, List.filter_append, List.filter_cons, mt_iff hc (by omega) hc' (by omega)]
      by_cases e : b' = true ∧ c' = c ∧ s' = s
      · rw [if_pos e, if_pos (decide_eq_true ⟨e.1.symm, e.2.1.symm, e.2.2.symm⟩)]; rfl
      · rw [if_neg e, if_neg (fun z => e (by have := of_decide_eq_true z; exact ⟨this.1.symm, this.2.1.symm, this.2.2.symm⟩))]; simp
    unfold Mq
    rw [hq3, hq3, hq1 _ _ _ hc' hs', hq1 _ _ _ hc' hs', aq_del, aq_del]
    refine ⟨?_, ?_⟩
    · have hft : ¬ (false = true ∧ c' = c ∧ s' = s) := fun z => by cases z.1
      rw [if_neg hft, if_neg hft]
      by_cases e : false = false ∧ c' = c ∧ s' = s
      · rw [if_pos e, if_pos e]
        obtain ⟨-, rfl, rfl⟩ := e
        exact rel_erase q1 j
      · rw [if_neg e, if_neg e]; exact q1
    · rw [if_neg (show ¬ (true = false ∧ c' = c ∧ s' = s) from fun z => by cases z.1)]
      by_cases e : true = true ∧ c' = c ∧ s' = s
      · rw [if_pos e, if_pos e]
        obtain ⟨-, rfl, rfl⟩ := e
        refine rel_snoc q2 ?_
        obtain ⟨y1, y2, y3, y4⟩ := v2
        rw [es] at y2 y3
        have y4 : ∀ q, q < mU M3 35 0 s' → mJ M3 37 0 (5 * s' + q) = abk A (mI M3 36 0 (5 * s' + q)) := y4
        refine ⟨rfl, rfl, y2, ?_, fun f => ?_⟩
        · show (n_dlP M3 s' l.1 l.2.2.1).isSome = (decide (l.1 = 5) && decide (l.2.2.1 ∈ (a_srv x (asv A s') l).2.2))
          unfold n_dlP
          by_cases e5 : l.1 = 5
          · rw [if_pos e5, decide_eq_true e5, Bool.true_and]
            rcases nplace_mem M3 s' l.2.2.1 with ⟨a, b⟩ | ⟨q, a, b, d⟩
            · rw [a, decide_eq_false (fun z => b (y3.mem_iff.mpr z))]; rfl
            · rw [a, decide_eq_true (y3.mem_iff.mp (mk_mem.mpr ⟨q, b, d⟩))]; rfl
          · rw [if_neg e5, decide_eq_false e5]; rfl
        · have f : (decide (l.1 = 5) && decide (l.2.2.1 ∈ (a_srv x (asv A s') l).2.2)) = true := f
          rw [Bool.and_eq_true] at f
          have f1 := of_decide_eq_true f.1
          have f2 := of_decide_eq_true f.2
          show (match n_dlP M3 s' l.1 l.2.2.1 with | some i => mJ M3 37 0 i | none => 0) = abk A l.2.2.1
          unfold n_dlP
          rw [if_pos f1]
          rcases nplace_mem M3 s' l.2.2.1 with ⟨a, b⟩ | ⟨q, a, b, d⟩
          · exact absurd (y3.mem_iff.mpr f2) b
          · rw [a]
            show mJ M3 37 0 (5 * s' + q) = _
            rw [y4 q b, d]
      · rw [if_neg e, if_neg e, if_neg (show ¬ (true = false ∧ c' = c ∧ s' = s) from fun z => by cases z.1)]; exact q2
  · rw [ml_dlC, hml3] at he2
    rcases List.mem_append.mp he2 with he2 | he2
    · exact ok1 e he2
    · rw [List.mem_singleton.mp he2]
      exact ⟨c, s, hc, hs, rfl, rfl⟩
