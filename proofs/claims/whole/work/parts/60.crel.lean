-- the end of a phase
theorem okT_new {x : fy} {A : AS} {k c : Nat} {u : Int32} (hO : fO x) (hk : k ≤ 100000) (h : Inv x k A) (hc : c < 5) (hcr : kcr (acl A c) = false) (e1 : kph (acl A c) = 1) (he : xQ x ≤ cnt (khs (acl A c)) (xN x)) (hu : okT A k u) : u ≠ newtag A c := by
  obtain ⟨g1, g2, g3, g4, g5, g6, g7, g8, g9, g10, g11, g12⟩ := h.2.1 c hc
  obtain ⟨t1, t2, t3, t4⟩ := newtag_val hk hc g5
  obtain ⟨q1, q2⟩ := g10 hcr (by rw [e1]; decide) (by rw [e1]; decide)
  obtain ⟨m1, m2⟩ := quo2 x hO
  obtain ⟨s1, hs1, hs2, hs3⟩ := cnt_meet (khs (acl A c)) (kgq (acl A c)) (xN x) (by omega)
  have hwb := g12 hcr e1 s1 hs1 hs3 hs2
  intro e
  rcases hu.2.2 with h0 | ⟨c2, hc2, h2, h3⟩
  · rw [← e, h0] at t4; exact absurd t4 (by decide)
  · rw [e] at h2 h3
    have : c2 = c := by omega
    subst this
    omega
theorem c_end {x : fy} {S : fm} {A : AS} {k c : Nat} (hO : fO x) (hk : k ≤ 100000) (h : CRel x S A) (hI : Inv x k A) (hc : c < 5) (hcr : kcr (acl A c) = false) (hph : kph (acl A c) ≠ 0) (he : a_enough x A c) : CRel x (e_end x S c) (a_end x A c) := by
  obtain ⟨f1, f2, f3, f4, f5, f6, f7, f8, f9, f10, f11⟩ := h.1 c hc
  obtain ⟨g1, g2, g3, g4, g5, g6, g7, g8, g9, g10, g11, g12⟩ := hI.2.1 c hc
  have hsz : ∀ s, s < xN x → (asv A s).1 = false → (aq A false c s).length + (aq A true c s).length ≤ 4 + kp (kph (acl A c)) := fun s hs hd => (hI.2.2.2 c s hc hs).2.2.2.2 hcr hph hd
  unfold e_end a_end
  rw [f1]
  by_cases e1 : kph (acl A c) = 1
  · rw [if_pos e1, if_pos e1, f5 (Or.inl e1)]
    have ecc : acl (ubk (ucl A c (scl_tg (acl A c) (newtag A c) (newtag A c))) (newtag A c) (kbl (acl A c))) c = scl_tg (acl A c) (newtag A c) (newtag A c) := vu_s _ _ _
    refine c_begin hO hc (c_tag h hI hc (by rw [e1]; decide) ecc (fun c' hne => vu_n _ _ hne) rfl rfl (fun t ht => if_neg (okT_new hO hk hI hc hcr e1 he.1 ht))) (fun s hs hd => ?_) (fun _ => ?_)
    · have := hsz s hs hd
      rw [e1] at this
      have h2 : (aq A false c s).length + (aq A true c s).length ≤ 5 := this
      show (aq A false c s).length < 7
      omega
    · rw [ecc]
      exact if_pos rfl
  · rw [if_neg e1, if_neg e1]
    by_cases e2 : kph (acl A c) = 2
    · rw [if_pos e2, if_pos e2]
      refine c_begin hO hc h (fun s hs hd => ?_) (fun q => absurd q (by decide))
      have := hsz s hs hd
      rw [e2] at this
      have h2 : (aq A false c s).length + (aq A true c s).length ≤ 6 := this
      omega
    · rw [if_neg e2, if_neg e2]
      by_cases e4 : kph (acl A c) = 4
      · rw [if_pos e4, if_pos e4, f5 (Or.inr e4)]
        have ecc : acl (ucl A c (scl_tg (acl A c) (kbe (acl A c)) (kwt (acl A c)))) c = scl_tg (acl A c) (kbe (acl A c)) (kwt (acl A c)) := vu_s _ _ _
        refine c_begin hO hc (c_tag h hI hc (by rw [e4]; decide) ecc (fun c' hne => vu_n _ _ hne) rfl rfl (fun t ht => rfl)) (fun s hs hd => ?_) (fun q => absurd q (by decide))
        have := hsz s hs hd
        rw [e4] at this
        have h2 : (aq A false c s).length + (aq A true c s).length ≤ 5 := this
        show (aq A false c s).length < 7
        omega
      · rw [if_neg e4, if_neg e4]
        by_cases e5 : kph (acl A c) = 5
        · rw [if_pos e5, if_pos e5]
          have hlen : mU S 7 c 3 = xK x := by have := he.2 e5; omega
          have hdec : decW x S c (xR x) = abk A (ktg (acl A c)) := by
            refine dec_ok x S c _ hO (fun j hj => h.2.2.2.2.2.1.2.2 c j) (fun i j hi hj hij q => ?_) (fun j hj => (f11 j (by omega)).2 e5)
            have a1 := (f11 i (by omega)).1
            have a2 := (f11 j (by omega)).1
            rw [q, ← a2] at a1
            have hl := he.2 e5
            exact hij ((List.getElem?_inj (by omega) g8).mp a1)
          rw [hdec]
          exact c_fin h hI hc (Or.inr ⟨_, rfl⟩)
        · rw [if_neg e5, if_neg e5]
          exact c_fin h hI hc (Or.inl ⟨rfl, rfl⟩)
-- a server answers
theorem insp_congr {f g : Nat → Int32} {t : Int32} : ∀ {n : Nat}, (∀ i, i < n → f i = g i) → insp f t n = insp g t n := by
  intro n
  induction n with
  | zero => intro _; rfl
  | succ n ih =>
    intro h
    show (if f n < t then insp f t n else n + 1) = (if g n < t then insp g t n else n + 1)
    rw [h n (by omega), ih (fun i hi => h i (by omega))]
theorem mk_getD {f : Nat → Int32} {n i : Nat} (h : i < n) : (mk f n).getD i 0 = f i := by
  rw [List.getD_eq_getElem?_getD, mk_get, if_pos h]; rfl
theorem stL_mk (D : Nat) (t : Int32) (f : Nat → Int32) (n : Nat) : stL D t (mk f n) = mk (insA f (insp f t n) n t) (min (n + 1) (D + 1)) := by
  unfold stL
  rw [mk_len, insp_congr (g := f) (fun i hi => mk_getD hi)]
  have hp := (insp_spec f t n).1
  refine mk_congr (fun j hj => ?_)
  unfold insA
  by_cases h1 : j = insp f t n
  · rw [if_pos h1, if_pos h1]
  · rw [if_neg h1, if_neg h1]
    by_cases h2 : insp f t n < j ∧ j ≤ n
    · rw [if_pos h2, if_pos h2]; exact mk_getD (by omega)
    · rw [if_neg h2, if_neg h2]; exact mk_getD (by omega)
theorem place_mem (S : fm) (s : Nat) (t : Int32) : (q_place S s t = none ∧ t ∉ mk (mI S 11 s) (mU S 10 s 3)) ∨ ∃ i, q_place S s t = some i ∧ i < mU S 10 s 3 ∧ mI S 11 s i = t := by
  unfold q_place
  cases e : (List.range (mU S 10 s 3)).find? (fun i => decide (mI S 11 s i = t)) with
  | none =>
    refine Or.inl ⟨rfl, fun hm => ?_⟩
    obtain ⟨j, hj, h1⟩ := mk_mem.mp hm
    have := List.find?_eq_none.mp e j (List.mem_range.mpr hj)
    exact this (by simpa using h1)
  | some i =>
    have h1 := List.find?_some e
    have h2 := List.mem_of_find?_eq_some e
    exact Or.inr ⟨i, rfl, List.mem_range.mp h2, by simpa using h1⟩
theorem c_srv {x : fy} {S : fm} {A : AS} {s a : Nat} {l : LA} (h : Cs x S A s) (hl : LRq x A s (lt S a) l) (hp : l.1 = 1 ∨ l.1 = 2 ∨ l.1 = 3 ∨ l.1 = 4 ∨ l.1 = 5) (hu : mU S 10 s 3 ≤ xD x + 1) :
    Cs x (e_answer x S s a) (usv A s (a_srv x (asv A s) l)) s ∧ LRr x A s (lt (e_answer x S s a) a) (a_rep (a_srv x (asv A s) l) l) ∧ mU (e_answer x S s a) 10 s 3 ≤ xD x + 1 := by
  obtain ⟨c1, c2, c3, c4⟩ := h
  obtain ⟨l1, l2, l3, l4, l5⟩ := hl
  have l1 : mI S 15 a 0 = l.1 := l1
  have l2 : mI S 15 a 1 = nI l.2.1 := l2
  have l3 : mI S 15 a 2 = l.2.2.1 := l3
  have l4 : l.1 = 2 → mJ S 15 a 3 = enc x (abk A l.2.2.1) s := l4
  have l5 : mB S 15 a 5 = false := l5
  have es : asv (usv A s (a_srv x (asv A s) l)) s = a_srv x (asv A s) l := vu_s _ _ _
  unfold Cs
  rw [es]
  show (_ ∧ _ ∧ _ ∧ ∀ i, i < _ → _ = enc x (abk A _) s) ∧ _
  unfold e_answer
  rw [l1]
  by_cases h2 : l.1 = 2
  · rw [if_pos h2]
    have ea : a_srv x (asv A s) l = ((asv A s).1, (asv A s).2.1, stL (xD x) l.2.2.1 (asv A s).2.2) := if_pos h2
    rw [ea, l3, l4 h2]
    have hp := (insp_spec (mI S 11 s) l.2.2.1 (mU S 10 s 3)).1
    have u3 : mU (e_store x S s l.2.2.1 (enc x (abk A l.2.2.1) s)) 10 s 3 = min (mU S 10 s 3 + 1) (xD x + 1) := by unfold e_store; rw [mU_sU, if_pos ⟨rfl, rfl, rfl⟩]
    have i11 : mI (e_store x S s l.2.2.1 (enc x (abk A l.2.2.1) s)) 11 s = insA (mI S 11 s) (insp (mI S 11 s) l.2.2.1 (mU S 10 s 3)) (mU S 10 s 3) l.2.2.1 := by unfold e_store; rw [mI_sU, mI_rJ, mI_rI, if_pos ⟨rfl, rfl⟩]
    have j12 : mJ (e_store x S s l.2.2.1 (enc x (abk A l.2.2.1) s)) 12 s = insA (mJ S 12 s) (insp (mI S 11 s) l.2.2.1 (mU S 10 s 3)) (mU S 10 s 3) (enc x (abk A l.2.2.1) s) := by unfold e_store; rw [mJ_sU, mJ_rJ, if_pos ⟨rfl, rfl⟩]
    have i10 : mI (e_store x S s l.2.2.1 (enc x (abk A l.2.2.1) s)) 10 s 4 = mI S 10 s 4 := by unfold e_store; rw [mI_sU, mI_rJ, mI_rI, if_neg (by omega)]
    have sk15 := sk_store x S s l.2.2.1 (enc x (abk A l.2.2.1) s) (k := 15) ⟨by omega, by omega, by omega⟩
    rw [u3, i11, j12, i10]
    refine ⟨⟨c1, c2, ?_, fun i hi => ?_⟩, ?_, by omega⟩
    · show _ = stL (xD x) l.2.2.1 (asv A s).2.2
      rw [← c3, stL_mk]
    · unfold insA
      by_cases e1 : i = insp (mI S 11 s) l.2.2.1 (mU S 10 s 3)
      · rw [if_pos e1, if_pos e1]
      · rw [if_neg e1, if_neg e1]
        by_cases e2 : insp (mI S 11 s) l.2.2.1 (mU S 10 s 3) < i ∧ i ≤ mU S 10 s 3
        · rw [if_pos e2, if_pos e2]; exact c4 _ (by omega)
        · rw [if_neg e2, if_neg e2]; exact c4 _ (by omega)
    · have hlt : lt (e_store x S s l.2.2.1 (enc x (abk A l.2.2.1) s)) a = lt S a := by unfold lt; rw [sk15.1, sk15.2.1, sk15.2.2.1]
      rw [hlt]
      refine ⟨l1, l2, l3, fun q => ?_, ?_, fun q => ?_⟩
      · rcases q with q | q <;> exact absurd (h2.symm.trans q) (by decide)
      · show mB S 15 a 5 = (decide (l.1 = 5) && _)
        rw [l5, h2]; rfl
      · have q : (decide (l.1 = 5) && _) = true := q
        rw [h2] at q; cases q
  · rw [if_neg h2]
    by_cases h3 : l.1 = 3
    · rw [if_pos h3]
      have ea : a_srv x (asv A s) l = ((asv A s).1, jmax (asv A s).2.1 l.2.2.1, (asv A s).2.2) := by unfold a_srv; rw [if_neg h2, if_pos (Or.inl h3)]
      rw [ea, l3]
      refine ⟨⟨c1, ?_, ?_, c4⟩, ?_, hu⟩
      · unfold e_raise
        rw [mI_sI, if_pos ⟨rfl, rfl, rfl⟩, c2]
      · exact c3
      · refine ⟨l1, l2, l3, fun q => ?_, ?_, fun q => ?_⟩
        · rcases q with q | q <;> exact absurd (h3.symm.trans q) (by decide)
        · show mB S 15 a 5 = (decide (l.1 = 5) && _)
          rw [l5, h3]; rfl
        · have q : (decide (l.1 = 5) && _) = true := q
          rw [h3] at q; cases q
    · rw [if_neg h3]
      by_cases h5 : l.1 = 5
      · rw [if_pos h5]
        have ea : a_srv x (asv A s) l = ((asv A s).1, jmax (asv A s).2.1 l.2.2.1, (asv A s).2.2) := by unfold a_srv; rw [if_neg h2, if_pos (Or.inr h5)]
        rw [ea, l3]
        have r10 : mI (e_raise S s l.2.2.1) 10 s 4 = jmax (asv A s).2.1 l.2.2.1 := by unfold e_raise; rw [mI_sI, if_pos ⟨rfl, rfl, rfl⟩, c2]
        have r11 : mI (e_raise S s l.2.2.1) 11 s = mI S 11 s := (sk_raise S s l.2.2.1 (k := 11) (by omega)).1 ▸ rfl
        have rl : lt (e_raise S s l.2.2.1) a = lt S a := by have q := sk_raise S s l.2.2.1 (k := 15) (by omega); unfold lt; rw [q.1, q.2.1, q.2.2.1]
        have rU : mU (e_raise S s l.2.2.1) = mU S := rfl
        have rJ12 : mJ (e_raise S s l.2.2.1) = mJ S := rfl
        have rB : mB (e_raise S s l.2.2.1) = mB S := rfl
        have r15 : mI (e_raise S s l.2.2.1) 15 a 2 = l.2.2.1 := by rw [(sk_raise S s l.2.2.1 (k := 15) (by omega)).1]; exact l3
        unfold e_encl
        rw [r15]
        rcases place_mem (e_raise S s l.2.2.1) s l.2.2.1 with ⟨p1, p2⟩ | ⟨i, p1, p2, p3⟩
        · rw [p1]
          rw [r11, rU, c3] at p2
          refine ⟨⟨c1, r10, by rw [r11]; exact c3, by rw [r11]; exact c4⟩, ?_, hu⟩
          show LRr x A s (lt (e_raise S s l.2.2.1) a) _
          rw [rl]
          refine ⟨l1, l2, l3, fun q => ?_, ?_, fun q => ?_⟩
          · rcases q with q | q <;> exact absurd (h5.symm.trans q) (by decide)
          · show mB S 15 a 5 = (decide (l.1 = 5) && decide (l.2.2.1 ∈ (asv A s).2.2))
            rw [l5, decide_eq_false p2, Bool.and_false]
          · have q : (decide (l.1 = 5) && decide (l.2.2.1 ∈ (asv A s).2.2)) = true := q
            rw [decide_eq_false p2, Bool.and_false] at q; cases q
        · rw [p1]
          rw [r11] at p3
          have p2 : i < mU S 10 s 3 := p2
          have hm : l.2.2.1 ∈ (asv A s).2.2 := by rw [← c3]; exact mk_mem.mpr ⟨i, p2, p3⟩
          have c4' := c4 i p2
          rw [p3] at c4'
          refine ⟨⟨?_, r10, ?_, fun i hi => ?_⟩, ?_, hu⟩
          · show mB (sB _ 15 a 5 true) 10 s 5 = _
            rw [mB_sB, if_neg (by omega)]; exact c1
          · show mk (mI (e_raise S s l.2.2.1) 11 s) _ = _
            rw [r11]; exact c3
          · rw [mJ_sJ, if_neg (by omega)]
            show mJ S 12 s i = enc x (abk A (mI (e_raise S s l.2.2.1) 11 s i)) s
            rw [r11]; exact c4 i hi
          · refine ⟨?_, ?_, r15, fun q => ?_, ?_, fun q => ?_⟩
            · show mI (e_raise S s l.2.2.1) 15 a 0 = _
              rw [(sk_raise S s l.2.2.1 (k := 15) (by omega)).1]; exact l1
            · show mI (e_raise S s l.2.2.1) 15 a 1 = _
              rw [(sk_raise S s l.2.2.1 (k := 15) (by omega)).1]; exact l2
            · rcases q with q | q <;> exact absurd (h5.symm.trans q) (by decide)
            · show mB (sB _ 15 a 5 true) 15 a 5 = (decide (l.1 = 5) && decide (l.2.2.1 ∈ (asv A s).2.2))
              rw [mB_sB, if_pos ⟨rfl, rfl, rfl⟩, decide_eq_true h5, decide_eq_true hm]; rfl
            · show mJ (sJ _ 15 a 3 _) 15 a 3 = _
              rw [mJ_sJ, if_pos ⟨rfl, rfl, rfl⟩]; exact c4'
      · rw [if_neg h5]
        have ea : a_srv x (asv A s) l = asv A s := by unfold a_srv; rw [if_neg h2, if_neg (fun z => by rcases z with z | z; exact h3 z; exact h5 z)]
        rw [ea]
        refine ⟨⟨c1, ?_, ?_, fun i hi => ?_⟩, ?_, hu⟩
        · rw [mI_sI, if_neg (by omega)]; exact c2
        · rw [show mI (sI S 15 a 4 (mI S 10 s 4)) 11 s = mI S 11 s from (rk_sI S (k := 11) (i := s) (k0 := 15) (i0 := a) (j := 4) (mI S 10 s 4) (by omega)).1]; exact c3
        · rw [show mI (sI S 15 a 4 (mI S 10 s 4)) 11 s = mI S 11 s from (rk_sI S (k := 11) (i := s) (k0 := 15) (i0 := a) (j := 4) (mI S 10 s 4) (by omega)).1]; exact c4 i hi
        · refine ⟨?_, ?_, ?_, fun _ => ?_, ?_, fun q => ?_⟩
          · show mI (sI S 15 a 4 _) 15 a 0 = _
            rw [mI_sI, if_neg (by omega)]; exact l1
          · show mI (sI S 15 a 4 _) 15 a 1 = _
            rw [mI_sI, if_neg (by omega)]; exact l2
          · show mI (sI S 15 a 4 _) 15 a 2 = _
            rw [mI_sI, if_neg (by omega)]; exact l3
          · show mI (sI S 15 a 4 _) 15 a 4 = (asv A s).2.1
            rw [mI_sI, if_pos ⟨rfl, rfl, rfl⟩]; exact c2
          · show mB S 15 a 5 = (decide (l.1 = 5) && _)
            rw [l5, decide_eq_false h5]; rfl
          · have q : (decide (l.1 = 5) && _) = true := q
            rw [decide_eq_false h5] at q; cases q
