-- stop, crash, deliver, hear
theorem op_stop {x : fy} {S : fm} {k c : Nat} (hc : c < 5) (h : SIM x k S) : (!mB S 7 c 4) = (!decide (mI (if mB S 7 c 4 = true then S else sB S 7 c 4 true) 23 0 c = 6)) ∧ SIM x (k + 1) (if mI (if mB S 7 c 4 = true then S else sB S 7 c 4 true) 23 0 c = 6 then (if mB S 7 c 4 = true then S else sB S 7 c 4 true) else sI (if mB S 7 c 4 = true then S else sB S 7 c 4 true) 23 0 c 6) := by
  obtain ⟨A, hI, hC, hM⟩ := h
  have e1 := (hC.1 c hc).2.1
  obtain ⟨m1, m2⟩ := m23 hM hI hc
  have e23 : mI (if mB S 7 c 4 = true then S else sB S 7 c 4 true) 23 0 c = mI S 23 0 c := by split <;> rfl
  rw [e23]
  by_cases z : kcr (acl A c) = true
  · have z1 : mB S 7 c 4 = true := by rw [e1]; exact z
    rw [if_pos z1, if_pos (m1.mpr z), z1, decide_eq_true (m1.mpr z)]
    exact ⟨rfl, A, hI.mono (by omega), hC, hM⟩
  · have z1 : ¬ mB S 7 c 4 = true := by rw [e1]; exact z
    have z2 : mI S 23 0 c ≠ 6 := fun q => z (m1.mp q)
    rw [if_neg z1, if_neg z2, decide_eq_false z2, show mB S 7 c 4 = false by simpa using z1]
    refine ⟨rfl, ?_⟩
    have hM1 : MRel x (sB S 7 c 4 true) A := hM.frame (fun k hk => sk_sB S _ (by omega))
    exact sim_of (S := S) (inv_stop hI hc) (c_stop hC hI hc) (m_stop hM1 hI hc) (fun k hk => sk_sI _ _ (by omega)) (Nat.le_refl _)
theorem gone_a {x : fy} {M : fm} {A : AS} (h : MRel x M A) : ∀ n, n ≤ xN x → n_gone M n = cnt (fun s => (asv A s).1) n := by
  intro n
  induction n with
  | zero => intro _; rfl
  | succ n ih =>
    intro hn
    show (if mB M 33 0 n = true then n_gone M n + 1 else n_gone M n) = _
    rw [cnt_s, ih (by omega), (h.2.1 n (by omega)).1]
theorem op_crash {x : fy} {S : fm} {k s : Nat} (hO : fO x) (hs : s < xN x) (h : SIM x k S) : q_crash x S s = qn_crash x (if q_crash x S s = true then e_crash x S s else S) s ∧ SIM x (k + 1) (if qn_crash x (if q_crash x S s = true then e_crash x S s else S) s = true then n_crash (if q_crash x S s = true then e_crash x S s else S) s else (if q_crash x S s = true then e_crash x S s else S)) := by
  obtain ⟨A, hI, hC, hM⟩ := h
  have hN : xN x ≤ 7 := hO.2.2.2.1
  have hcn := cnt_le (fun s => (asv A s).1) (xN x)
  have hMx : xM x ≤ 7 := by unfold xM; omega
  have e1 : q_crash x S s = (!(asv A s).1 && decide (cnt (fun s => (asv A s).1) (xN x) < xM x)) := by
    unfold q_crash
    rw [(hC.2.1 s hs).1, hC.2.2.2.1]
    simp only [nI_ltI (show cnt (fun s => (asv A s).1) (xN x) < 2 ^ 31 by omega) (show xM x < 2 ^ 31 by omega)]
  have hM1 : MRel x (if q_crash x S s = true then e_crash x S s else S) A := by
    split
    · exact hM.frame (fun k hk => sk_crash x S s ⟨by omega, by omega, by omega, by omega⟩)
    · exact hM
  have e2 : qn_crash x (if q_crash x S s = true then e_crash x S s else S) s = (!(asv A s).1 && decide (cnt (fun s => (asv A s).1) (xN x) < xM x)) := by
    unfold qn_crash
    rw [(hM1.2.1 s hs).1, gone_a hM1 _ (Nat.le_refl _)]
  refine ⟨by rw [e1] at e2 ⊢; exact e2.symm, ?_⟩
  rw [e2, e1]
  rw [e1] at hM1
  by_cases z : (!(asv A s).1 && decide (cnt (fun s => (asv A s).1) (xN x) < xM x)) = true
  · rw [if_pos z] at hM1
    rw [if_pos z, if_pos z]
    have hd : (asv A s).1 = false := by
      rw [Bool.and_eq_true, Bool.not_eq_true'] at z
      exact z.1
    exact sim_of (S := S) (inv_crash hI) (c_crash hO hs hC hd) (m_crash hO hs hM1) (fun k hk => sk_n_crash _ s hk) (by unfold n_crash; rw [mZ_crl]; exact Nat.le_refl _)
  · rw [if_neg z, if_neg z]
    exact ⟨A, hI.mono (by omega), hC, hM⟩
theorem op_deliver {x : fy} {S : fm} {k c s j : Nat} (hO : fO x) (hc : c < 5) (hs : s < xN x) (h : SIM x k S) (hj : j < mU S 13 (c * xN x + s) 1) : ∃ a i, mA S 14 (c * xN x + s) j = some a ∧ n_seek (e_deliver x S c s j a) false c s (nI j) = some i ∧ mL (e_deliver x S c s j a) ≤ 245 ∧ mU (e_deliver x S c s j a) 35 0 s ≤ xD x + 1 ∧ mI (e_deliver x S c s j a) 15 a 0 = mI (e_deliver x S c s j a) 44 0 i ∧ SIM x (k + 1) (n_dl x (e_deliver x S c s j a) c s i) := by
  obtain ⟨A, hI, hC, hM⟩ := h
  obtain ⟨b, hb, -⟩ := hC.2.2.2.2.1.2.1 _ j hj
  have hra : ra S (c * xN x + s) j = b := ra_some hb
  have hq := (hC.2.2.1 c s hc hs).1
  have hjl : j < (aq A false c s).length := by rw [← hq.1, cq_len]; exact hj
  obtain ⟨c1, c2⟩ := c_del hO hc hs hC hI (List.getElem?_eq_getElem hjl)
  rw [hra] at c1 c2
  have hM1 : MRel x (e_deliver x S c s j b) A := hM.frame (fun k hk => sk_deliver x S c s j b ⟨by omega, by omega, by omega, by omega, by omega, by omega⟩)
  have hL := mL_bound hO hM1 hI
  have hjm : j < (mq (e_deliver x S c s j b) false c s).length := by rw [(hM1.2.2.1 c s hc hs).1.1]; exact hjl
  obtain ⟨i, s1, s2, s3, s4, s5⟩ := mq_seek _ false c s j hjm (by omega)
  obtain ⟨d1, d2⟩ := m_del hO hc hs hM1 hI (List.getElem?_eq_getElem hjl) s2 s3 s4 s5
  refine ⟨b, i, hb, s1, hL, ?_, by rw [c2, d2], ?_⟩
  · have := (hM1.2.1 s hs).2.2.1.length_eq
    rw [mk_len] at this
    rw [this]
    exact (hI.2.2.1 s hs).2.1
  · exact sim_of (S := S) (inv_del hI hc hs (List.getElem?_eq_getElem hjl)) c1 d1 (fun k hk => sk_n_dl x _ c s i hk) (by rw [mZ_dl]; exact Nat.le_refl _)
theorem q_enough_a {x : fy} {S : fm} {A : AS} {k c : Nat} (hO : fO x) (h : CRel x S A) (hI : Inv x k A) (hc : c < 5) : q_enough x S c = true ↔ a_enough x A c := by
  obtain ⟨f1, f2, f3, f4, f5, f6, f7, f8, f9, f10, f11⟩ := h.1 c hc
  have hN : xN x ≤ 7 := hO.2.2.2.1
  have hQ := (quo2 x hO).2
  have hcn := cnt_le (khs (acl A c)) (xN x)
  unfold q_enough a_enough
  rw [f1, f4, f10]
  simp only [nI_ltI (show cnt (khs (acl A c)) (xN x) < 2 ^ 31 by omega) (show xQ x < 2 ^ 31 by omega), Bool.and_eq_true, Bool.not_eq_true', decide_eq_false_iff_not, Bool.or_eq_true, decide_eq_true_eq]
  constructor
  · rintro ⟨a, b⟩
    refine ⟨by omega, fun e5 => ?_⟩
    rcases b with b | b
    · exact absurd e5 b
    · omega
  · rintro ⟨a, b⟩
    refine ⟨by omega, ?_⟩
    by_cases e5 : kph (acl A c) = 5
    · exact Or.inr (by have := b e5; omega)
    · exact Or.inl e5
theorem op_hear {x : fy} {S : fm} {k c s j : Nat} (hO : fO x) (hk : k + 2 ≤ 100000) (hc : c < 5) (hs : s < xN x) (h : SIM x k S) (hj : j < mU S 13 (100 + (c * xN x + s)) 1) : ∃ a i, mA S 14 (100 + (c * xN x + s)) j = some a ∧ n_seek (e_hr x S c s j a) true c s (nI j) = some i ∧ mL (e_hr x S c s j a) ≤ 245 ∧ q_hr x S c s j a = q_hrM x (e_hr x S c s j a) c i ∧ SIM x (k + 2) (e_hrM x (e_hr x S c s j a) c i) := by
  obtain ⟨A, hI, hC, hM⟩ := h
  obtain ⟨b, hb, -⟩ := hC.2.2.2.2.1.2.1 _ j hj
  have hra : ra S (100 + (c * xN x + s)) j = b := ra_some hb
  have hq := (hC.2.2.1 c s hc hs).2
  have hjl : j < (aq A true c s).length := by rw [← hq.1, cq_len]; exact hj
  have hgl : (aq A true c s)[j]? = some (aq A true c s)[j] := List.getElem?_eq_getElem hjl
  generalize (aq A true c s)[j] = l at hgl
  have hlr : LRr x A s (lt S b) l := hq.2 j _ _ (by rw [cq_get, if_pos hj, hra]) hgl
  have hM1 : MRel x (e_hr x S c s j b) A := hM.frame (fun k hk => sk_hr x S c s j b ⟨by omega, by omega, by omega, by omega, by omega, by omega, by omega⟩)
  have hL := mL_bound hO hM1 hI
  have hjm : j < (mq (e_hr x S c s j b) true c s).length := by rw [(hM1.2.2.1 c s hc hs).2.1]; exact hjl
  obtain ⟨i, s1, s2, s3, s4, s5⟩ := mq_seek _ true c s j hjm (by omega)
  obtain ⟨r1, r2, r3, r4, r5⟩ := (hM1.2.2.1 c s hc hs).2.2 j _ _ s3 hgl
  refine ⟨b, i, hb, s1, hL, ?_⟩
  have hIl := (hI.2.2.2 c s hc hs).1 true l (List.mem_of_getElem? hgl)
  have hC1 := c_take hO hc hs hC hj
  have hMt := m_tak hO hc hs hM1 s2 s4 s5
  have hIt := inv_take (j := j) hI hc hs
  have hkag := (hI.2.1 c hc).2.1
  have hbeg : (nI l.2.1 = nI (kag (acl A c))) ↔ l.2.1 = kag (acl A c) := nI_eq (by have := hIl.2.1; omega) (by omega)
  have cq1 : q_counts (e_take S (100 + (c * xN x + s)) j) c b = a_cnt A c l := by
    unfold q_counts a_cnt
    rw [q_work_a hC1 hc, (hC1.1 c hc).2.2.1, show mI (e_take S (100 + (c * xN x + s)) j) 15 b 1 = nI l.2.1 from hlr.2.1]
    show (!kcr (acl A c) && decide (kph (acl A c) ≠ 0) && decide (nI l.2.1 = nI (kag (acl A c)))) = _
    simp only [hbeg, Bool.and_assoc]
  have cq2 : n_counts (e_hr x S c s j b) c i = a_cnt A c l := by
    obtain ⟨m1, m2⟩ := m23 hM1 hI hc
    unfold n_counts a_cnt
    rw [(hM1.1 c hc).2.1, show mI (e_hr x S c s j b) 43 0 i = nI l.2.1 from r2]
    simp only [hbeg]
    cases e : kcr (acl A c) with
    | true => rw [m1.mpr e]; rfl
    | false =>
      rw [m2 e]
      have h6 := ph_six (hI.2.1 c hc)
      simp [h6]
  unfold q_hrM e_hrM
  rw [cq2]
  by_cases z : a_cnt A c l = true
  · have z0 := z
    unfold a_cnt at z0
    simp only [Bool.and_eq_true, Bool.not_eq_true', decide_eq_true_eq] at z0
    obtain ⟨y1, y2, y3⟩ := z0
    obtain ⟨p1, p2, p3⟩ := hIl.2.2.2.2.2.2.1 y1 y2 y3
    have hIh := inv_hear hI hc hs hgl z
    have hCh : CRel x (e_hear x (e_take S (100 + (c * xN x + s)) j) c b s) (a_hr A c s j l) := c_hear hO hc hs hC1 hIt (by rw [lt_take]; exact hlr) p1 p2 p3 hIl.2.2.2.2.2.1
    have hMh : MRel x (n_hrU (e_hr x S c s j b) c i) (a_hr A c s j l) := m_hr hc hs hMt hIt r3 r4 r5 p2 p3
    have ec : acl (a_hr A c s j l) c = scl_hr (acl A c) s l.2.2.2.1 l.2.2.2.2 := vu_s _ _ _
    have w1 : kcr (acl (a_hr A c s j l) c) = false := by rw [ec]; exact y1
    have w2 : kph (acl (a_hr A c s j l) c) ≠ 0 := by rw [ec]; exact y2
    have hqe := q_enough_a hO hCh hIh hc
    have hmo := m_more hO hMh hIh hc w1
    rw [if_pos z, if_pos z]
    have fr : ∀ T : fm, T = e_hr x S c s j b → ∀ k, k < 16 → sk T (n_hrU (e_hr x S c s j b) c i) k := fun T hT k hk => by rw [hT]; exact sk_n_hrU _ c i hk
    have mzE : mZ (n_hrU (e_hr x S c s j b) c i) = mZ (e_hr x S c s j b) := mZ_hrU _ _ _
    by_cases en : a_enough x (a_hr A c s j l) c
    · have eT : e_hr x S c s j b = e_end x (e_hear x (e_take S (100 + (c * xN x + s)) j) c b s) c := by unfold e_hr; rw [cq1, if_pos z, if_pos (hqe.mpr en)]
      have eq1 : q_hr x S c s j b = q_end (e_hear x (e_take S (100 + (c * xN x + s)) j) c b s) c := by unfold q_hr; rw [cq1, if_pos z, if_pos (hqe.mpr en)]
      have hCe := c_end hO (by omega) hCh hIh hc w1 w2 en
      obtain ⟨hMe, hqo⟩ := m_end hO (by omega) hMh hIh hc w1 w2 en
      have hIe := inv_end hO (by omega) hIh hc w1 w2 en
      rw [← eT] at hCe
      refine ⟨?_, (sim_of (S := S) hIe hCe hMe (fun k hk => (sk_n_hrU _ c i hk).tr (sk_onw x _ c hk)) (by rw [mZ_onw, mzE]; exact Nat.le_refl _)).mono (by omega)⟩
      rw [eq1, hqo]
      unfold q_end
      rw [(hCh.1 c hc).1]
      rcases (hIh.2.1 c hc).1 with q | q | q | q | q | q
      · exact absurd q w2
      all_goals (rw [q]; decide)
    · have hqn : ¬ q_enough x (e_hear x (e_take S (100 + (c * xN x + s)) j) c b s) c = true := fun q => en (hqe.mp q)
      have eT : e_hr x S c s j b = e_hear x (e_take S (100 + (c * xN x + s)) j) c b s := by unfold e_hr; rw [cq1, if_pos z, if_neg hqn]
      have eq1 : q_hr x S c s j b = 1 := by unfold q_hr; rw [cq1, if_pos z, if_neg hqn]
      have hn := hmo.mpr en
      unfold q_onw e_onw
      rw [if_pos hn, if_pos hn, eq1]
      rw [← eT] at hCh
      exact ⟨rfl, (sim_of (S := S) hIh hCh hMh (fun k hk => sk_n_hrU _ c i hk) (by rw [mzE]; exact Nat.le_refl _)).mono (by omega)⟩
  · rw [if_neg z, if_neg z]
    have eT : e_hr x S c s j b = e_take S (100 + (c * xN x + s)) j := by unfold e_hr; rw [cq1, if_neg z]
    have eq1 : q_hr x S c s j b = 0 := by unfold q_hr; rw [cq1, if_neg z]
    rw [eq1]
    rw [← eT] at hC1
    exact ⟨rfl, (sim_of (S := S) hIt hC1 hMt (fun k hk => sk_n_lose _ i hk) (Nat.le_refl _)).mono (by omega)⟩
