-- a letter is taken out; hearing; the end of a phase
theorem mt_of {b : Bool} {c s : Nat} {e : ME} (h : mt b c s e = true) : e.1 = b ∧ e.2.1 = nI c ∧ e.2.2.1 = nI s := by
  unfold mt at h
  simp only [Bool.and_eq_true, beq_iff_eq, decide_eq_true_eq] at h
  exact h
theorem mt_ne {b b' : Bool} {c s c' s' : Nat} {e : ME} (hc : c < 5) (hs : s < 7) (hc' : c' < 5) (hs' : s' < 7) (h : mt b c s e = true) (hn : ¬ (b' = b ∧ c' = c ∧ s' = s)) : mt b' c' s' e = false := by
  obtain ⟨h1, h2, h3⟩ := mt_of h
  rw [Bool.eq_false_iff]
  intro q
  obtain ⟨k1, k2, k3⟩ := mt_of q
  exact hn ⟨k1.symm.trans h1, (nI_eq (by omega) (by omega)).mp (k2.symm.trans h2), (nI_eq (by omega) (by omega)).mp (k3.symm.trans h3)⟩
theorem mq_lose {M : fm} {b : Bool} {c s i j : Nat} (hi : i < mL M) (hm : mt b c s (me M i) = true) (he : ((ml M).eraseIdx i).filter (mt b c s) = (mq M b c s).eraseIdx j) (hc : c < 5) (hs : s < 7) {b' : Bool} {c' s' : Nat} (hc' : c' < 5) (hs' : s' < 7) : mq (n_lose M i) b' c' s' = if b' = b ∧ c' = c ∧ s' = s then (mq M b c s).eraseIdx j else mq M b' c' s' := by
  unfold mq
  rw [ml_lose M hi]
  by_cases e : b' = b ∧ c' = c ∧ s' = s
  · obtain ⟨rfl, rfl, rfl⟩ := e
    rw [if_pos ⟨rfl, rfl, rfl⟩]
    exact he
  · rw [if_neg e]
    exact fl_no _ (ml M) i (me M i) (by unfold ml; rw [mk_get, if_pos hi]) (mt_ne hc hs hc' hs' hm e)
theorem okE_lose {x : fy} {M : fm} {i : Nat} (hi : i < mL M) (h : ∀ e, e ∈ ml M → okE x e) : ∀ e, e ∈ ml (n_lose M i) → okE x e := by
  intro e he
  rw [ml_lose M hi] at he
  exact h e (List.mem_of_mem_eraseIdx he)
theorem m_tak {x : fy} {M : fm} {A : AS} {c s i j : Nat} (hO : fO x) (hc : c < 5) (hs : s < xN x) (h : MRel x M A) (hi : i < mL M) (hm : mt true c s (me M i) = true) (he : ((ml M).eraseIdx i).filter (mt true c s) = (mq M true c s).eraseIdx j) : MRel x (n_lose M i) (a_tak A c s j) := by
  obtain ⟨h1, h2, h3, h4⟩ := h
  have hN : xN x ≤ 7 := hO.2.2.2.1
  have sl : ∀ k, k ≠ 16 ∧ (k < 39 ∨ 46 < k) → sk M (n_lose M i) k := fun k hk => sk_nlose M i hk
  refine ⟨fun c' hc' => (h1 c' hc').mono (fun k k1 k2 => ⟨by rw [(sl k (by omega)).1], by rw [(sl k (by omega)).2.1]⟩) rfl rfl, fun s' hs' => (h2 s' hs').mono (fun k k1 k2 => sl k (by omega)) rfl (fun _ _ => rfl), fun c' s' hc' hs' => ?_, okE_lose hi h4⟩
  obtain ⟨q1, q2⟩ := h3 c' s' hc' hs'
  unfold Mq
  rw [mq_lose hi hm he hc (by omega) hc' (by omega), mq_lose hi hm he hc (by omega) hc' (by omega), aq_tak, aq_tak]
  refine ⟨?_, ?_⟩
  · rw [if_neg (fun z => by cases z.1), if_neg (fun z => by cases z.1)]; exact q1
  · by_cases e : true = true ∧ c' = c ∧ s' = s
    · rw [if_pos e, if_pos e]
      obtain ⟨-, rfl, rfl⟩ := e
      exact rel_erase q2 j
    · rw [if_neg e, if_neg e]; exact q2
theorem m_hr {x : fy} {M : fm} {A : AS} {c s k : Nat} {l : LA} {sl : Int32} {f : Bool} {w : Int64} (hc : c < 5) (hs : s < xN x) (h : MRel x M A) (hI : Inv x k A) (e1 : sl = l.2.2.2.1) (e2 : f = l.2.2.2.2) (e3 : l.2.2.2.2 = true → w = abk A l.2.2.1) (p2 : l.2.2.1 = ktg (acl A c)) (p3 : khs (acl A c) s = false) : MRel x (n_hr2 (n_hr1 M c sl) c f w) (ucl A c (scl_hr (acl A c) s l.2.2.2.1 l.2.2.2.2)) := by
  subst e1 e2
  have ec : acl (ucl A c (scl_hr (acl A c) s l.2.2.2.1 l.2.2.2.2)) c = scl_hr (acl A c) s l.2.2.2.1 l.2.2.2.2 := vu_s _ _ _
  obtain ⟨f1, f2, f3, f4, f5, f6, f7, f8, f9, f10⟩ := h.1 c hc
  refine h.cl hI (fun k hk => ?_) (fun k c' hne => ?_) (fun c' hc' => vu_n _ _ hc') rfl rfl (fun _ _ => rfl) ?_
  · unfold n_hr2 n_hr1
    split
    · exact (((sk_sI _ _ (by omega)).tr (sk_sI _ _ (by omega))).tr (sk_sI _ _ (by omega))).tr (sk_sJ _ _ (by omega))
    · exact (sk_sI _ _ (by omega)).tr (sk_sI _ _ (by omega))
  · unfold n_hr2 n_hr1
    split
    · simp [mI_sI, mJ_sJ, mI_sJ, mJ_sI, hne]
    · simp [mI_sI, mJ_sI, hne]
  · have v : ∀ k, 23 ≤ k → k ≤ 32 → mI (n_hr2 (n_hr1 M c l.2.2.2.1) c l.2.2.2.2 w) k 0 c = if k = 26 then (if l.2.2.2.2 = true then mI M 26 0 c + 1 else mI M 26 0 c) else if k = 27 then jmax (mI M 27 0 c) l.2.2.2.1 else if k = 25 then mI M 25 0 c + 1 else mI M k 0 c := by
      intro k k1 k2
      unfold n_hr2 n_hr1
      by_cases hf : l.2.2.2.2 = true
      · rw [if_pos hf, if_pos hf]
        simp only [mI_sI, mI_sJ]
        by_cases a : k = 26
        · simp [a]
        · by_cases b : k = 27
          · simp [b]
          · by_cases d : k = 25 <;> simp [a, b, d]
      · rw [if_neg hf, if_neg hf]
        simp only [mI_sI]
        by_cases a : k = 26
        · simp [a]
        · by_cases b : k = 27
          · simp [b]
          · by_cases d : k = 25 <;> simp [a, b, d]
    have vj : ∀ k, k ≠ 31 → mJ (n_hr2 (n_hr1 M c l.2.2.2.1) c l.2.2.2.2 w) k 0 c = mJ M k 0 c := by
      intro k hk
      unfold n_hr2 n_hr1
      split
      · rw [mJ_sJ, if_neg (by omega)]; rfl
      · rfl
    unfold Mc
    rw [ec, v 23 (by omega) (by omega), v 24 (by omega) (by omega), v 25 (by omega) (by omega), v 26 (by omega) (by omega), v 27 (by omega) (by omega), v 28 (by omega) (by omega), v 29 (by omega) (by omega), vj 30 (by omega), vj 32 (by omega)]
    refine ⟨f1, f2, ?_, ?_, ?_, f6, f7, f8, f9, fun a b => ?_⟩
    · show mI M 25 0 c + 1 = nI (cnt (va_up (khs (acl A c)) s true) (xN x))
      rw [cnt_up p3 hs, f3, nI_1]
    · show (if l.2.2.2.2 = true then mI M 26 0 c + 1 else mI M 26 0 c) = nI (if l.2.2.2.2 = true then ksr (acl A c) ++ [s] else ksr (acl A c)).length
      by_cases hf : l.2.2.2.2 = true
      · rw [if_pos hf, if_pos hf, f4, nI_1, List.length_append]; rfl
      · rw [if_neg hf, if_neg hf, f4]
    · show jmax (mI M 27 0 c) l.2.2.2.1 = jmax (kbe (acl A c)) l.2.2.2.1
      rw [f5]
    · have a : kph (acl A c) = 5 := a
      have b : (if l.2.2.2.2 = true then ksr (acl A c) ++ [s] else ksr (acl A c)) ≠ [] := b
      show mJ (n_hr2 (n_hr1 M c l.2.2.2.1) c l.2.2.2.2 w) 31 0 c = abk A (ktg (acl A c))
      unfold n_hr2 n_hr1
      by_cases hf : l.2.2.2.2 = true
      · rw [if_pos hf, mJ_sJ, if_pos ⟨rfl, rfl, rfl⟩, e3 hf, p2]
      · rw [if_neg hf] at b
        rw [if_neg hf]
        exact f10 a b
theorem m_tag {x : fy} {M : fm} {A A' : AS} {c k : Nat} {t w : Int32} (h : MRel x M A) (hI : Inv x k A) (hc : c < 5) (hp : kph (acl A c) ≠ 5) (ec : acl A' c = scl_tg (acl A c) t w) (eo : ∀ c', c' ≠ c → acl A' c' = acl A c') (hs : asv A' = asv A) (hq : aq A' = aq A) (hb : ∀ t, okT A k t → abk A' t = abk A t) : MRel x (sI M 28 0 c t) A' := by
  refine h.cl hI (fun k hk => sk_sI M _ (by omega)) (fun k c' hne => ⟨by rw [mI_sI, if_neg (fun z => hne z.2.2)], rfl⟩) eo hs hq hb ?_
  obtain ⟨f1, f2, f3, f4, f5, f6, f7, f8, f9, f10⟩ := h.1 c hc
  unfold Mc
  rw [ec]
  refine ⟨?_, ?_, ?_, ?_, ?_, ?_, ?_, f8, f9, fun a => absurd a hp⟩
  · rw [mI_sI, if_neg (by omega)]; exact f1
  · rw [mI_sI, if_neg (by omega)]; exact f2
  · rw [mI_sI, if_neg (by omega)]; exact f3
  · rw [mI_sI, if_neg (by omega)]; exact f4
  · rw [mI_sI, if_neg (by omega)]; exact f5
  · rw [mI_sI, if_pos ⟨rfl, rfl, rfl⟩]; rfl
  · rw [mI_sI, if_neg (by omega)]; exact f7
theorem m_fin {x : fy} {M : fm} {A : AS} {c k : Nat} {r : Int64} {g : Nat → Bool} (h : MRel x M A) (hI : Inv x k A) (hc : c < 5) (hcr : kcr (acl A c) = false) (hr : (if mI M 23 0 c = 5 then mJ M 31 0 c else mJ M 32 0 c) = r) : MRel x (n_endS M c) (ucl A c (scl_end (acl A c) r g)) := by
  have ec : acl (ucl A c (scl_end (acl A c) r g)) c = scl_end (acl A c) r g := vu_s _ _ _
  obtain ⟨f1, f2, f3, f4, f5, f6, f7, f8, f9, f10⟩ := h.1 c hc
  unfold n_endS
  rw [hr]
  refine h.cl hI (fun k hk => ((sk_sJ _ _ (by omega)).tr (sk_sI _ _ (by omega))).tr (sk_sI _ _ (by omega))) (fun k c' hne => by simp [mI_sI, mJ_sJ, mI_sJ, mJ_sI, hne]) (fun c' hc' => vu_n _ _ hc') rfl rfl (fun _ _ => rfl) ?_
  unfold Mc
  rw [ec]
  simp only [mI_sI, mI_sJ, mJ_sI, mJ_sJ]
  refine ⟨?_, f2, f3, f4, f5, f6, ?_, f8, rfl, fun a => absurd (show (0 : Int32) = 5 from a) (by decide)⟩
  · show (0 : Int32) = if kcr (acl A c) = true then 6 else 0
    rw [hcr]; rfl
  · show mI M 29 0 c + 1 = kfi (acl A c) + 1
    rw [f7]
theorem m_more {x : fy} {M : fm} {A : AS} {c k : Nat} (hO : fO x) (h : MRel x M A) (hI : Inv x k A) (hc : c < 5) (hcr : kcr (acl A c) = false) : n_more x M c ↔ ¬ a_enough x A c := by
  obtain ⟨f1, f2, f3, f4, f5, f6, f7, f8, f9, f10⟩ := h.1 c hc
  have hN : xN x ≤ 7 := hO.2.2.2.1
  have hQ := (quo2 x hO).2
  have hK : xK x ≤ xN x := hO.2.2.2.2.2.1
  have hcn := cnt_le (khs (acl A c)) (xN x)
  have hsr := (hI.2.1 c hc).2.2.2.2.2.1
  rw [hcr] at f1
  have f1 : mI M 23 0 c = kph (acl A c) := f1
  unfold n_more a_enough
  rw [f1, f3, f4, nI_ltI (by omega) (by omega), nI_ltI (by omega) (by omega)]
  constructor
  · intro q z
    rcases q with q | ⟨q1, q2⟩
    · omega
    · have := z.2 q1; omega
  · intro q
    by_cases z : cnt (khs (acl A c)) (xN x) < xQ x
    · exact Or.inl z
    · refine Or.inr ?_
      by_cases e5 : kph (acl A c) = 5
      · refine ⟨e5, ?_⟩
        by_cases z2 : (ksr (acl A c)).length < xK x
        · exact z2
        · exact absurd ⟨by omega, fun _ => by omega⟩ q
      · exact absurd ⟨by omega, fun w => absurd w e5⟩ q
theorem m_end {x : fy} {M : fm} {A : AS} {k c : Nat} (hO : fO x) (hk : k ≤ 100000) (h : MRel x M A) (hI : Inv x k A) (hc : c < 5) (hcr : kcr (acl A c) = false) (hph : kph (acl A c) ≠ 0) (he : a_enough x A c) : MRel x (e_onw x M c) (a_end x A c) ∧ q_onw x M c = if kph (acl A c) = 3 ∨ kph (acl A c) = 5 then 3 else 2 := by
  have hm : ¬ n_more x M c := fun q => (m_more hO h hI hc hcr).mp q he
  obtain ⟨f1, f2, f3, f4, f5, f6, f7, f8, f9, f10⟩ := h.1 c hc
  obtain ⟨g1, -⟩ := hI.2.1 c hc
  rw [hcr] at f1
  have f1 : mI M 23 0 c = kph (acl A c) := f1
  have hK1 : 1 ≤ xK x := hO.2.2.2.2.1
  unfold e_onw q_onw a_end n_tagS
  rw [if_neg hm, if_neg hm, f1]
  refine ⟨?_, rfl⟩
  by_cases e1 : kph (acl A c) = 1
  · rw [if_neg (by rw [e1]; decide), if_pos e1, if_pos e1, f5, e1]
    have ecc : acl (ubk (ucl A c (scl_tg (acl A c) (newtag A c) (newtag A c))) (newtag A c) (kbl (acl A c))) c = scl_tg (acl A c) (newtag A c) (newtag A c) := vu_s _ _ _
    refine m_begin hO hc (m_tag h hI hc (by rw [e1]; decide) ecc (fun c' hne => vu_n _ _ hne) rfl rfl (fun t ht => if_neg (okT_new hO hk hI hc hcr e1 he.1 ht))) (by rw [ecc]; exact hcr) (fun _ => ?_)
    rw [ecc]
    exact if_pos rfl
  · rw [if_neg e1, if_neg e1]
    by_cases e2 : kph (acl A c) = 2
    · rw [if_neg (by rw [e2]; decide), if_neg (by rw [e2]; decide), if_pos e2, e2]
      exact m_begin hO hc h hcr (fun q => absurd q (by decide))
    · rw [if_neg e2]
      by_cases e4 : kph (acl A c) = 4
      · rw [if_neg (by rw [e4]; decide), if_pos e4, if_pos e4, f5, e4]
        have ecc : acl (ucl A c (scl_tg (acl A c) (kbe (acl A c)) (kwt (acl A c)))) c = scl_tg (acl A c) (kbe (acl A c)) (kwt (acl A c)) := vu_s _ _ _
        exact m_begin hO hc (m_tag h hI hc (by rw [e4]; decide) ecc (fun c' hne => vu_n _ _ hne) rfl rfl (fun t ht => rfl)) (by rw [ecc]; exact hcr) (fun q => absurd q (by decide))
      · rw [if_neg e4]
        by_cases e5 : kph (acl A c) = 5
        · rw [if_pos (Or.inr e5), if_neg e4, if_pos e5]
          refine m_fin h hI hc hcr ?_
          rw [f1, if_pos e5]
          exact f10 e5 (fun q => by have := he.2 e5; rw [q] at this; simp at this; omega)
        · have e3 : kph (acl A c) = 3 := by
            rcases g1 with q | q | q | q | q | q
            · exact absurd q hph
            · exact absurd q e1
            · exact absurd q e2
            · exact q
            · exact absurd q e4
            · exact absurd q e5
          rw [if_pos (Or.inl e3), if_neg e4, if_neg e5]
          refine m_fin h hI hc hcr ?_
          rw [f1, if_neg e5]
          exact f9
