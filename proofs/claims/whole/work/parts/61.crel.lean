-- delivery and crash
theorem rk_encl (S : fm) (s a : Nat) {k i : Nat} (h : ¬ (k = 15 ∧ i = a)) : rk S (e_encl S s a) k i := by
  unfold e_encl
  split
  · exact (rk_sB S _ h).tr (rk_sJ _ _ h)
  · exact rk.rf S k i
theorem rk_answer (x : fy) (S : fm) (s a : Nat) {k i : Nat} (h10 : ¬ (k = 10 ∧ i = s)) (h11 : ¬ (k = 11 ∧ i = s)) (h12 : ¬ (k = 12 ∧ i = s)) (h15 : ¬ (k = 15 ∧ i = a)) : rk S (e_answer x S s a) k i := by
  unfold e_answer
  split
  · unfold e_store
    exact ((rk_rI S _ h11).tr (rk_rJ _ _ h12)).tr (rk_sU _ _ h10)
  · split
    · unfold e_raise; exact rk_sI S _ h10
    · split
      · unfold e_raise; exact (rk_sI S _ h10).tr (rk_encl _ s a h15)
      · exact rk_sI S _ h15
theorem mZ_answer (x : fy) (S : fm) (s a : Nat) : mZ (e_answer x S s a) = mZ S := by
  unfold e_answer
  split
  · rfl
  · split
    · rfl
    · split
      · unfold e_encl; split <;> rfl
      · rfl
theorem aq_del (x : fy) (A : AS) (c s j : Nat) (l : LA) (b : Bool) (c' s' : Nat) : aq (a_del x A c s j l) b c' s' = if b = true ∧ c' = c ∧ s' = s then aq A true c s ++ [a_rep (a_srv x (asv A s) l) l] else if b = false ∧ c' = c ∧ s' = s then (aq A false c s).eraseIdx j else aq A b c' s' := rfl
theorem c_del {x : fy} {S : fm} {A : AS} {c s j k : Nat} {l : LA} (hO : fO x) (hc : c < 5) (hs : s < xN x) (h : CRel x S A) (hI : Inv x k A) (hj : (aq A false c s)[j]? = some l) : CRel x (e_deliver x S c s j (ra S (c * xN x + s) j)) (a_del x A c s j l) ∧ mI (e_deliver x S c s j (ra S (c * xN x + s) j)) 15 (ra S (c * xN x + s) j) 0 = l.1 := by
  obtain ⟨h1, h2, h3, h4, h5, h6, h7⟩ := h
  obtain ⟨q1, q2⟩ := h3 c s hc hs
  obtain ⟨p1, p2, p3, p4, p5⟩ := hI.2.2.2 c s hc hs
  have hjl : j < (aq A false c s).length := (List.getElem?_eq_some_iff.mp hj).1
  have hjr : j < mU S 13 (c * xN x + s) 1 := by rw [← cq_len, q1.1]; exact hjl
  have l35 := row_lt35 hO hc hs
  have hla : LRq x A s (lt S (ra S (c * xN x + s) j)) l := q1.2 j _ _ (by rw [cq_get, if_pos hjr]) hj
  obtain ⟨R1, fr1⟩ := h5.take hjr
  have t13 : ∀ k, k ≠ 13 → k ≠ 14 → sk S (e_take S (c * xN x + s) j) k := fun k a b => sk_take S _ j ⟨a, b⟩
  have hcq1 := fun q => cq_take S q hjr
  have hl1 : ∀ b, lt (e_take S (c * xN x + s) j) b = lt S b := fun b => lt_take S _ j b
  have hu1 : mU (e_take S (c * xN x + s) j) 13 (100 + (c * xN x + s)) 1 < 7 := by
    rw [mU_take, if_neg (by omega), ← cq_len, q2.1]
    omega
  have hz1 : mZ (e_take S (c * xN x + s) j) = mZ S := rfl
  obtain ⟨b0, hb0, hb1⟩ := h5.2.1 _ j hjr
  have hra : ra S (c * xN x + s) j = b0 := ra_some hb0
  unfold e_deliver
  rw [hra] at hla fr1 ⊢
  have hs1 : Cs x (e_take S (c * xN x + s) j) A s := (h2 s hs).mono ((t13 10 (by omega) (by omega)).rk s) ((t13 11 (by omega) (by omega)).rk s) ((t13 12 (by omega) (by omega)).rk s) rfl (fun _ _ => rfl)
  have hU10 : ∀ s', mU (e_take S (c * xN x + s) j) 10 s' 3 ≤ xD x + 1 := fun s' => by rw [(t13 10 (by omega) (by omega)).2.2.2.2]; exact h6.1 s'
  generalize e_take S (c * xN x + s) j = S1 at *
  obtain ⟨v1, v2, v3⟩ := c_srv (x := x) (S := S1) (A := A) (s := s) (a := b0) (l := l) hs1 (by rw [hl1]; exact hla) (p1 false l (List.mem_of_getElem? hj)).1 (hU10 s)
  have a13 : ∀ k, k ≠ 10 → k ≠ 11 → k ≠ 12 → k ≠ 15 → sk S1 (e_answer x S1 s b0) k := fun k a b c d => sk_answer x S1 s b0 ⟨a, b, c, d⟩
  have hlb : ∀ b, b ≠ b0 → lt (e_answer x S1 s b0) b = lt S b := by
    intro b hb
    rw [← hl1]
    have q := rk_answer x S1 s b0 (k := 15) (i := b) (by omega) (by omega) (by omega) (by omega)
    unfold lt
    rw [q.1, q.2.1, q.2.2.1]
  have hcq2 : ∀ q, cq (e_answer x S1 s b0) q = cq S1 q := cq_off (a13 13 (by omega) (by omega) (by omega) (by omega)) (a13 14 (by omega) (by omega) (by omega) (by omega)) (fun r i hi => by rw [hlb _ (fr1 r i hi), hl1])
  have hz2 : mZ (e_answer x S1 s b0) = mZ S1 := mZ_answer x S1 s b0
  have R2 : Rw x (e_answer x S1 s b0) := R1.sk (a13 13 (by omega) (by omega) (by omega) (by omega)) (a13 14 (by omega) (by omega) (by omega) (by omega)) (by omega)
  have hu2 : mU (e_answer x S1 s b0) 13 (100 + (c * xN x + s)) 1 < 7 := by rw [(a13 13 (by omega) (by omega) (by omega) (by omega)).2.2.2.2]; exact hu1
  have ap : ∀ k, k ≠ 13 → k ≠ 14 → sk (e_answer x S1 s b0) (e_app (e_answer x S1 s b0) (100 + (c * xN x + s)) b0) k := fun k a b => sk_app _ _ _ ⟨a, b⟩
  have hz3 : mZ (e_app (e_answer x S1 s b0) (100 + (c * xN x + s)) b0) = mZ S := by rw [mZ_app, hz2, hz1]
  have full : ∀ k i, k ≠ 13 → k ≠ 14 → ¬ (k = 10 ∧ i = s) → ¬ (k = 11 ∧ i = s) → ¬ (k = 12 ∧ i = s) → ¬ (k = 15 ∧ i = b0) → rk S (e_app (e_answer x S1 s b0) (100 + (c * xN x + s)) b0) k i := fun k i a b d e f g => (((t13 k a b).rk i).tr (rk_answer x S1 s b0 d e f g)).tr ((ap k a b).rk i)
  have hfin := fun q => cq_app (e_answer x S1 s b0) (100 + (c * xN x + s)) b0 q hu2
  refine ⟨⟨fun c' hc' => ?_, fun s' hs' => ?_, fun c' s' hc' hs' => ?_, ?_, ?_, ⟨fun s' => ?_, fun c' => ?_, fun c' q => ?_⟩, by omega⟩, ?_⟩
  · exact (h1 c' hc').mono (full 7 c' (by omega) (by omega) (by omega) (by omega) (by omega) (by omega)) (full 8 c' (by omega) (by omega) (by omega) (by omega) (by omega) (by omega)) (full 9 c' (by omega) (by omega) (by omega) (by omega) (by omega) (by omega)) rfl rfl
  · by_cases e : s' = s
    · subst e
      exact v1.mono ((ap 10 (by omega) (by omega)).rk s') ((ap 11 (by omega) (by omega)).rk s') ((ap 12 (by omega) (by omega)).rk s') rfl (fun _ _ => rfl)
    · exact (h2 s' hs').mono (full 10 s' (by omega) (by omega) (by omega) (by omega) (by omega) (by omega)) (full 11 s' (by omega) (by omega) (by omega) (by omega) (by omega) (by omega)) (full 12 s' (by omega) (by omega) (by omega) (by omega) (by omega) (by omega)) (vu_n _ _ e) (fun _ _ => rfl)
  · obtain ⟨w1, w2⟩ := h3 c' s' hc' hs'
    have l352 := row_lt35 hO hc' hs'
    unfold Cq
    rw [hfin, hfin, if_neg (by omega), hcq2, hcq2, hcq2, hcq1, hcq1, hcq1, if_neg (show ¬ 100 + (c * xN x + s) = c * xN x + s by omega), if_neg (show ¬ 100 + (c' * xN x + s') = c * xN x + s by omega), aq_del, aq_del]
    by_cases e : c' = c ∧ s' = s
    · obtain ⟨rfl, rfl⟩ := e
      rw [if_pos rfl, if_neg (fun z => by cases z.1), if_pos ⟨rfl, rfl, rfl⟩, if_pos rfl, if_pos ⟨rfl, rfl, rfl⟩]
      exact ⟨rel_erase w1 j, rel_snoc w2 v2⟩
    · rw [if_neg (fun z => e (row_inj hs' hs z)), if_neg (fun z => e z.2), if_neg (fun z => e z.2), if_neg (fun z => e (row_inj hs' hs (by omega))), if_neg (fun z => e z.2), if_neg (fun z => e z.2)]
      exact ⟨w1, w2⟩
  · rw [(full 0 0 (by omega) (by omega) (by omega) (by omega) (by omega) (by omega)).1]
    rw [h4]
    congr 1
    refine cnt_congr (fun q hq => ?_)
    show (asv A q).1 = (va_up (asv A) s (a_srv x (asv A s) l) q).1
    by_cases e : q = s
    · rw [e, vu_s, (srv_up x (asv A s) l).1]
    · rw [vu_n _ _ e]
  · refine R2.app hu2 ⟨hb1.1, hb1.2.1, by rw [hz2, hz1]; exact hb1.2.2⟩ (fun r' j' hj' => ?_)
    rw [(a13 13 (by omega) (by omega) (by omega) (by omega)).2.2.2.2] at hj'
    unfold ra
    rw [(a13 14 (by omega) (by omega) (by omega) (by omega)).2.2.2.1]
    exact fr1 r' j' hj'
  · by_cases e : s' = s
    · rw [e, (ap 10 (by omega) (by omega)).2.2.2.2]; exact v3
    · rw [(full 10 s' (by omega) (by omega) (by omega) (by omega) (by omega) (by omega)).2.2.2.2]; exact h6.1 s'
  · rw [(full 7 c' (by omega) (by omega) (by omega) (by omega) (by omega) (by omega)).2.2.2.2]; exact h6.2.1 c'
  · rw [(full 8 c' (by omega) (by omega) (by omega) (by omega) (by omega) (by omega)).2.2.2.2]; exact h6.2.2 c' q
  · rw [(ap 15 (by omega) (by omega)).1]; exact v2.1
theorem crs_rows {x : fy} {S : fm} {s : Nat} (hO : fO x) (hs : s < xN x) (h : Rw x S) : ∀ n, n ≤ 5 → Rw x (e_crs x S s n) ∧ mZ (e_crs x S s n) = mZ S ∧ (∀ c s', c < 5 → s' < xN x → cq (e_crs x S s n) (c * xN x + s') = if s' = s ∧ c < n then [] else cq S (c * xN x + s')) ∧ (∀ q, 100 ≤ q → cq (e_crs x S s n) q = cq S q) := by
  intro n
  induction n with
  | zero => intro _; exact ⟨h, rfl, fun c s' _ _ => by rw [if_neg (by omega)]; rfl, fun _ _ => rfl⟩
  | succ n ih =>
    intro hn
    obtain ⟨i1, i2, i3, i4⟩ := ih (by omega)
    have l35 := row_lt35 hO (show n < 5 by omega) hs
    show Rw x (e_lose (e_crs x S s n) (n * xN x + s)) ∧ mZ (e_lose (e_crs x S s n) (n * xN x + s)) = mZ S ∧ (∀ c s', c < 5 → s' < xN x → cq (e_lose (e_crs x S s n) (n * xN x + s)) (c * xN x + s') = _) ∧ (∀ q, 100 ≤ q → cq (e_lose (e_crs x S s n) (n * xN x + s)) q = cq S q)
    refine ⟨i1.lose, i2, fun c s' hc hs' => ?_, fun q hq => ?_⟩
    · rw [cq_lose]
      by_cases e : c = n ∧ s' = s
      · obtain ⟨rfl, rfl⟩ := e
        rw [if_pos rfl, if_pos ⟨rfl, by omega⟩]
      · rw [if_neg (fun z => e (row_inj hs' hs z)), i3 c s' hc hs']
        by_cases e2 : s' = s ∧ c < n
        · rw [if_pos e2, if_pos ⟨e2.1, by omega⟩]
        · rw [if_neg e2, if_neg (by omega)]
    · rw [cq_lose, if_neg (by omega)]; exact i4 q hq
theorem c_crash {x : fy} {S : fm} {A : AS} {s : Nat} (hO : fO x) (hs : s < xN x) (h : CRel x S A) (hd : (asv A s).1 = false) : CRel x (e_crash x S s) (a_crash A s) := by
  obtain ⟨h1, h2, h3, h4, h5, h6, h7⟩ := h
  have s0 : ∀ k, k ≠ 10 → k ≠ 0 → sk S (sI (sB S 10 s 5 true) 0 0 7 (mI S 0 0 7 + 1)) k := fun k a b => (sk_sB S _ a).tr (sk_sI _ _ b)
  have hR0 : Rw x (sI (sB S 10 s 5 true) 0 0 7 (mI S 0 0 7 + 1)) := h5.sk (s0 13 (by omega) (by omega)) (s0 14 (by omega) (by omega)) (Nat.le_refl _)
  obtain ⟨b1, b2, b3, b4⟩ := crs_rows hO hs hR0 5 (Nat.le_refl _)
  have hcq0 := fun q => cq_sk (s0 13 (by omega) (by omega)) (s0 14 (by omega) (by omega)) (s0 15 (by omega) (by omega)) q
  have st : ∀ k, k ≠ 0 → k ≠ 10 → k ≠ 13 → k ≠ 14 → sk S (e_crash x S s) k := fun k a b c d => sk_crash x S s ⟨a, b, c, d⟩
  have sc : ∀ k, k ≠ 13 → k ≠ 14 → sk (sI (sB S 10 s 5 true) 0 0 7 (mI S 0 0 7 + 1)) (e_crash x S s) k := fun k a b => sk_crs x _ s ⟨a, b⟩ 5
  have eq : ∀ b c s', aq (a_crash A s) b c s' = if b = false ∧ s' = s then [] else aq A b c s' := fun _ _ _ => rfl
  have es : ∀ s', asv (a_crash A s) s' = if s' = s then (true, (asv A s).2) else asv A s' := fun _ => rfl
  refine ⟨fun c' hc' => (h1 c' hc').mono ((st 7 (by omega) (by omega) (by omega) (by omega)).rk c') ((st 8 (by omega) (by omega) (by omega) (by omega)).rk c') ((st 9 (by omega) (by omega) (by omega) (by omega)).rk c') rfl rfl, fun s' hs' => ?_, fun c' s' hc' hs' => ?_, ?_, b1, ⟨fun s' => ?_, fun c' => ?_, fun c' q => ?_⟩, by show xb x ≤ mZ (e_crs x _ s 5); rw [b2]; exact h7⟩
  · have q10 := (sc 10 (by omega) (by omega)).rk s'
    by_cases e : s' = s
    · subst e
      obtain ⟨w1, w2, w3, w4⟩ := h2 s' hs'
      unfold Cs
      rw [es, if_pos rfl, q10.1, q10.2.2.1, q10.2.2.2.2, (st 11 (by omega) (by omega) (by omega) (by omega)).1, (st 12 (by omega) (by omega) (by omega) (by omega)).2.1]
      refine ⟨?_, ?_, w3, w4⟩
      · rw [mB_sI, mB_sB, if_pos ⟨rfl, rfl, rfl⟩]
      · rw [mI_sI, if_neg (by omega)]; exact w2
    · exact (h2 s' hs').mono (((rk_sB S true (by omega)).tr (rk_sI _ _ (by omega))).tr q10) ((st 11 (by omega) (by omega) (by omega) (by omega)).rk s') ((st 12 (by omega) (by omega) (by omega) (by omega)).rk s') (by rw [es, if_neg e]) (fun _ _ => rfl)
  · obtain ⟨w1, w2⟩ := h3 c' s' hc' hs'
    unfold Cq
    rw [show cq (e_crash x S s) (c' * xN x + s') = _ from b3 c' s' hc' hs', show cq (e_crash x S s) (100 + (c' * xN x + s')) = _ from b4 _ (by omega), hcq0, hcq0, eq, eq, if_neg (show ¬ (true = false ∧ s' = s) from fun z => by cases z.1)]
    refine ⟨?_, w2⟩
    by_cases e : s' = s
    · rw [if_pos ⟨e, hc'⟩, if_pos ⟨rfl, e⟩]; exact rel_nil
    · rw [if_neg (fun z => e z.1), if_neg (fun z => e z.2)]; exact w1
  · rw [(sc 0 (by omega) (by omega)).1, mI_sI, if_pos ⟨rfl, rfl, rfl⟩, h4, nI_1]
    congr 1
    rw [← cnt_up (f := fun s => (asv A s).1) hd hs]
    refine cnt_congr (fun q hq => ?_)
    show _ = (asv (a_crash A s) q).1
    rw [es]
    by_cases e : q = s
    · rw [e, vu_s, if_pos rfl]
    · rw [vu_n _ _ e, if_neg e]
  · rw [(sc 10 (by omega) (by omega)).2.2.2.2]; exact h6.1 s'
  · rw [(st 7 (by omega) (by omega) (by omega) (by omega)).2.2.2.2]; exact h6.2.1 c'
  · rw [(st 8 (by omega) (by omega) (by omega) (by omega)).2.2.2.2]; exact h6.2.2 c' q
