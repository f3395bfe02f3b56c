-- what only asks
theorem op_phase {x : fy} {S : fm} {k c : Nat} (hc : c < 5) (h : SIM x k S) : (if mB S 7 c 4 = true then 6 else mI S 7 c 5) = mI S 23 0 c := by
  obtain ⟨A, hI, hC, hM⟩ := h
  rw [(hC.1 c hc).1, (hC.1 c hc).2.1, (hM.1 c hc).1]
theorem op_heard {x : fy} {S : fm} {k c : Nat} (hc : c < 5) (h : SIM x k S) : (if q_work S c = true then mI S 7 c 7 else 0) = if mI S 23 0 c = 0 ∨ mI S 23 0 c = 6 then 0 else mI S 25 0 c := by
  obtain ⟨A, hI, hC, hM⟩ := h
  obtain ⟨m1, m2⟩ := m23 hM hI hc
  rw [q_work_a hC hc, (hC.1 c hc).2.2.2.1, (hM.1 c hc).2.2.1]
  cases e : kcr (acl A c) with
  | true => rw [if_neg (by simp), if_pos (Or.inr (m1.mpr e))]
  | false =>
    have h6 := ph_six (hI.2.1 c hc)
    rw [m2 e]
    by_cases z : kph (acl A c) = 0
    · rw [if_neg (by simp [z]), if_pos (Or.inl z)]
    · rw [if_pos (by simp [z]), if_neg (fun q => by rcases q with q | q; exact z q; exact h6 q)]
theorem op_tag {x : fy} {S : fm} {k c : Nat} (hc : c < 5) (h : SIM x k S) : mI S 7 c 9 = mI S 28 0 c := by
  obtain ⟨A, hI, hC, hM⟩ := h
  rw [(hC.1 c hc).2.2.2.2.2.1, (hM.1 c hc).2.2.2.2.2.1]
theorem op_result {x : fy} {S : fm} {k c : Nat} (hc : c < 5) (h : SIM x k S) : mJ S 7 c 11 = mJ S 32 0 c := by
  obtain ⟨A, hI, hC, hM⟩ := h
  rw [(hC.1 c hc).2.2.2.2.2.2.2.1, (hM.1 c hc).2.2.2.2.2.2.2.2.1]
theorem op_finished {x : fy} {S : fm} {k c : Nat} (hc : c < 5) (h : SIM x k S) : mI S 7 c 12 = mI S 29 0 c := by
  obtain ⟨A, hI, hC, hM⟩ := h
  rw [(hC.1 c hc).2.2.2.2.2.2.2.2.1, (hM.1 c hc).2.2.2.2.2.2.1]
theorem op_held {x : fy} {S : fm} {k s : Nat} (hs : s < xN x) (h : SIM x k S) : mU S 10 s 3 = mU S 35 0 s ∧ mU S 35 0 s ≤ xD x + 1 := by
  obtain ⟨A, hI, hC, hM⟩ := h
  have h1 : mU S 10 s 3 = (asv A s).2.2.length := by rw [← (hC.2.1 s hs).2.2.1, mk_len]
  have h2 : mU S 35 0 s = (asv A s).2.2.length := by rw [← (hM.2.1 s hs).2.2.1.length_eq, mk_len]
  exact ⟨by rw [h1, h2], by rw [h2]; exact (hI.2.2.1 s hs).2.1⟩
theorem op_seal {x : fy} {S : fm} {k s : Nat} (hs : s < xN x) (h : SIM x k S) : mI S 10 s 4 = mI S 34 0 s := by
  obtain ⟨A, hI, hC, hM⟩ := h
  rw [(hC.2.1 s hs).2.1, (hM.2.1 s hs).2.1]
theorem op_letters {x : fy} {S : fm} {k c s : Nat} (hc : c < 5) (hs : s < xN x) (h : SIM x k S) : mU S 13 (c * xN x + s) 1 = n_cnt S false c s (mL S) ∧ mU S 13 (100 + (c * xN x + s)) 1 = n_cnt S true c s (mL S) := by
  obtain ⟨A, hI, hC, hM⟩ := h
  rw [mq_cnt, mq_cnt, ← cq_len, ← cq_len, (hC.2.2.1 c s hc hs).1.1, (hC.2.2.1 c s hc hs).2.1, (hM.2.2.1 c s hc hs).1.1, (hM.2.2.1 c s hc hs).2.1]
  exact ⟨rfl, rfl⟩
theorem op_L {x : fy} {S : fm} {k : Nat} (hO : fO x) (h : SIM x k S) : mL S ≤ 245 := by
  obtain ⟨A, hI, hC, hM⟩ := h
  exact mL_bound hO hM hI
theorem op_fI {x : fy} {S : fm} {k : Nat} (h : SIM x k S) : fI x S := by
  obtain ⟨A, hI, hC, hM⟩ := h
  exact hC.fI
/-- no letter at that place: neither side finds one -/
theorem op_seek {x : fy} {S : fm} {k c s : Nat} {j : Int32} (hO : fO x) (hc : c < 5) (hs : s < xN x) (h : SIM x k S) : (j < 0 ∨ nI (mU S 13 (c * xN x + s) 1) ≤ j → n_seek S false c s j = none) ∧ (j < 0 ∨ nI (mU S 13 (100 + (c * xN x + s)) 1) ≤ j → n_seek S true c s j = none) := by
  have hL := op_L hO h
  obtain ⟨e1, e2⟩ := op_letters hc hs h
  rw [mq_cnt] at e1 e2
  exact ⟨fun q => mq_none S false c s j (by omega) (by rw [← e1]; exact q), fun q => mq_none S true c s j (by omega) (by rw [← e2]; exact q)⟩
theorem abv_cnt (f : Nat → Int32) (b : Nat) (v : Int32) : ∀ n, n_abv f b v n = (mk (fun q => f (b + q)) n).countP (fun u => decide (v < u)) := by
  intro n
  induction n with
  | zero => rfl
  | succ n ih =>
    rw [mk_succ, List.countP_append, ← ih]
    show (if v < f (b + n) then n_abv f b v n + 1 else n_abv f b v n) = _
    by_cases h : v < f (b + n)
    · rw [if_pos h]; simp [h]
    · rw [if_neg h]; simp [h]
theorem pw_count : ∀ {l : List Int32} {j : Nat} {v : Int32}, l.Pairwise (fun a b => b.toInt < a.toInt) → l[j]? = some v → l.countP (fun u => decide (v < u)) = j := by
  intro l
  induction l with
  | nil => intro j v _ h; simp at h
  | cons a l ih =>
    intro j v hp h
    rw [List.pairwise_cons] at hp
    cases j with
    | zero =>
      simp at h
      subst h
      rw [List.countP_eq_zero]
      intro u hu q
      have q := of_decide_eq_true q
      rw [Int32.lt_iff_toInt_lt] at q
      rcases List.mem_cons.mp hu with e | e
      · rw [e] at q; omega
      · have := hp.1 u e; omega
    | succ j =>
      simp at h
      have h1 := ih hp.2 h
      have h2 := hp.1 v (List.mem_of_getElem? h)
      rw [List.countP_cons, h1, if_pos (decide_eq_true (Int32.lt_iff_toInt_lt.mpr h2))]
/-- the reference's places, by rank -/
theorem ht_rank {x : fy} {S : fm} {A : AS} {k s : Nat} (hI : Inv x k A) (hM : MRel x S A) (hs : s < xN x) {q : Nat} (hq : q < mU S 35 0 s) : ∃ j, j < mU S 35 0 s ∧ (asv A s).2.2[j]? = some (mI S 36 0 (5 * s + q)) ∧ n_abv (mI S 36 0) (5 * s) (mI S 36 0 (5 * s + q)) (mU S 35 0 s) = j := by
  obtain ⟨-, -, h3, -⟩ := hM.2.1 s hs
  have hn : mU S 35 0 s = (asv A s).2.2.length := by rw [← h3.length_eq, mk_len]
  have hm : mI S 36 0 (5 * s + q) ∈ (asv A s).2.2 := h3.mem_iff.mp (mk_mem.mpr ⟨q, hq, rfl⟩)
  obtain ⟨j, hj⟩ := List.mem_iff_getElem?.mp hm
  refine ⟨j, by rw [hn]; exact (List.getElem?_eq_some_iff.mp hj).1, hj, ?_⟩
  rw [abv_cnt, h3.countP_eq]
  exact pw_count (hI.2.2.1 s hs).2.2.1 hj
theorem op_heldTag {x : fy} {S : fm} {k s j : Nat} (hO : fO x) (hs : s < xN x) (h : SIM x k S) (hj : j < mU S 10 s 3) : mI S 11 s j = n_ht S s (nI j) := by
  have hh := op_held hs h
  obtain ⟨A, hI, hC, hM⟩ := h
  have hD : xD x ≤ 3 := hO.2.2.2.2.2.2
  obtain ⟨-, -, h3, -⟩ := hM.2.1 s hs
  have hc := (hC.2.1 s hs).2.2.1
  have hj2 : (asv A s).2.2[j]? = some (mI S 11 s j) := by rw [← hc, mk_get, if_pos hj]
  obtain ⟨q, hq, he⟩ := mk_mem.mp (h3.mem_iff.mpr (List.mem_of_getElem? hj2))
  have he : mI S 36 0 (5 * s + q) = mI S 11 s j := he
  have hinj : ∀ a b : Nat, (asv A s).2.2[a]? = some (mI S 11 s j) → (asv A s).2.2[b]? = some (mI S 11 s j) → a = b := by
    intro a b ha hb
    have h1 := pw_count (hI.2.2.1 s hs).2.2.1 ha
    have h2 := pw_count (hI.2.2.1 s hs).2.2.1 hb
    omega
  have hex : n_abv (mI S 36 0) (5 * s) (mI S 36 0 (5 * s + q)) (mU S 35 0 s) = j := by
    obtain ⟨j', a, b, c⟩ := ht_rank hI hM hs hq
    rw [c]
    rw [he] at b
    exact hinj j' j b hj2
  unfold n_ht n_htp
  cases e : (List.range (mU S 35 0 s)).find? (fun q => decide (nI (n_abv (mI S 36 0) (5 * s) (mI S 36 0 (5 * s + q)) (mU S 35 0 s)) = nI j)) with
  | none =>
    have := List.find?_eq_none.mp e q (List.mem_range.mpr hq)
    exact absurd (by rw [hex]; simp) this
  | some q' =>
    have h0 := List.find?_some e
    have h1 : nI (n_abv (mI S 36 0) (5 * s) (mI S 36 0 (5 * s + q')) (mU S 35 0 s)) = nI j := of_decide_eq_true h0
    have h2 := List.mem_range.mp (List.mem_of_find?_eq_some e)
    obtain ⟨j', a, b, c⟩ := ht_rank hI hM hs h2
    rw [c] at h1
    have h1 := (nI_eq (by omega) (by omega)).mp h1
    rw [h1, hj2] at b
    show mI S 11 s j = mI S 36 0 (5 * s + q')
    exact Option.some.inj b
theorem op_heldTag_bad {x : fy} {S : fm} {k s : Nat} {i : Int32} (hO : fO x) (hs : s < xN x) (h : SIM x k S) (hi : i < 0 ∨ nI (mU S 10 s 3) ≤ i) : n_ht S s i = -1 := by
  have hh := op_held hs h
  obtain ⟨A, hI, hC, hM⟩ := h
  have hD : xD x ≤ 3 := hO.2.2.2.2.2.2
  unfold n_ht n_htp
  rw [List.find?_eq_none.mpr]
  intro q hq z
  have z := of_decide_eq_true z
  obtain ⟨j', a, b, c⟩ := ht_rank hI hM hs (List.mem_range.mp hq)
  rw [c] at z
  rcases hi with hi | hi
  · rw [← z] at hi; exact nI_pos (by omega) hi
  · rw [← z] at hi
    have := (nI_leI (by omega) (by omega)).mp hi
    omega
theorem op_fragment {x : fy} {S : fm} {k s r : Nat} {t : Int32} (hO : fO x) (hs : s < xN x) (h : SIM x k S) (hr : r < xR x) : q_frag S s t r = n_frag x S s t r := by
  obtain ⟨A, hI, hC, hM⟩ := h
  obtain ⟨-, -, c3, c4⟩ := hC.2.1 s hs
  obtain ⟨-, -, m3, m4⟩ := hM.2.1 s hs
  have hR8 := (xR_facts x hO).1
  unfold q_frag n_frag
  rcases place_mem S s t with ⟨p1, p2⟩ | ⟨i, p1, p2, p3⟩
  · rcases nplace_mem S s t with ⟨n1, n2⟩ | ⟨q, n1, n2, n3⟩
    · rw [p1, n1]
    · refine absurd ?_ p2
      rw [c3]
      exact m3.mem_iff.mp (mk_mem.mpr ⟨q, n2, n3⟩)
  · rcases nplace_mem S s t with ⟨n1, n2⟩ | ⟨q, n1, n2, n3⟩
    · refine absurd (m3.mem_iff.mpr ?_) n2
      rw [← c3]
      exact mk_mem.mpr ⟨i, p2, p3⟩
    · rw [p1, n1]
      show bI (by8 (mJ S 12 s i) r) = bI (gf_v (fun m => by8 (mJ S 37 0 (5 * s + q)) (r * xK x + m)) (BitVec.ofNat 8 (s + 1)) (xK x))
      rw [c4 i p2, p3, m4 q n2, n3]
      unfold enc
      rw [by8_enF _ _ _ _ _ (by omega), if_pos hr]
      unfold en8
      rw [gf_horner]
