-- a tag comes into a server's list; a request is delivered
theorem insp_spec (f : Nat → Int32) (t : Int32) : ∀ n, insp f t n ≤ n ∧ (∀ i, insp f t n ≤ i → i < n → f i < t) ∧ (insp f t n = 0 ∨ ¬ f (insp f t n - 1) < t) := by
  intro n
  induction n with
  | zero => exact ⟨Nat.le_refl _, fun i _ h => by omega, Or.inl rfl⟩
  | succ n ih =>
    show (if f n < t then insp f t n else n + 1) ≤ n + 1 ∧ (∀ i, (if f n < t then insp f t n else n + 1) ≤ i → i < n + 1 → f i < t) ∧ ((if f n < t then insp f t n else n + 1) = 0 ∨ ¬ f ((if f n < t then insp f t n else n + 1) - 1) < t)
    by_cases h : f n < t
    · simp only [if_pos h]
      refine ⟨by omega, fun i h1 h2 => ?_, ih.2.2⟩
      by_cases hi : i = n
      · rw [hi]; exact h
      · exact ih.2.1 i h1 (by omega)
    · simp only [if_neg h]
      exact ⟨Nat.le_refl _, fun i h1 h2 => by omega, Or.inr h⟩
theorem mk_pw {α : Type} {R : α → α → Prop} {g : Nat → α} {n : Nat} (h : ∀ i j, i < j → j < n → R (g i) (g j)) : (mk g n).Pairwise R := by
  unfold mk
  rw [List.pairwise_map]
  exact (List.pairwise_lt_range (n := n)).imp_of_mem (fun _ hb hab => h _ _ hab (List.mem_range.mp hb))
theorem getD_mem {l : List Int32} {i : Nat} (h : i < l.length) : l.getD i 0 ∈ l := by
  rw [List.getD_eq_getElem?_getD, List.getElem?_eq_getElem h]
  exact List.getElem_mem h
theorem stL_len (D : Nat) (t : Int32) (l : List Int32) : (stL D t l).length = min (l.length + 1) (D + 1) := mk_len _ _
theorem stL_mem {D : Nat} {t u : Int32} {l : List Int32} (h : u ∈ stL D t l) : u = t ∨ u ∈ l := by
  obtain ⟨j, hj, he⟩ := mk_mem.mp h
  have hp := (insp_spec (fun i => l.getD i 0) t l.length).1
  unfold insA at he
  by_cases h1 : j = insp (fun i => l.getD i 0) t l.length
  · rw [if_pos h1] at he; exact Or.inl he.symm
  · rw [if_neg h1] at he
    refine Or.inr ?_
    by_cases h2 : insp (fun i => l.getD i 0) t l.length < j ∧ j ≤ l.length
    · rw [if_pos h2] at he
      rw [← he]; exact getD_mem (by omega)
    · rw [if_neg h2] at he
      rw [← he]; exact getD_mem (by omega)
theorem getD_pw {l : List Int32} (h : l.Pairwise (fun a b => b.toInt < a.toInt)) {i j : Nat} (hij : i < j) (hj : j < l.length) : (l.getD j 0).toInt < (l.getD i 0).toInt := by
  rw [List.getD_eq_getElem?_getD, List.getD_eq_getElem?_getD, List.getElem?_eq_getElem hj, List.getElem?_eq_getElem (show i < l.length by omega)]
  exact (List.pairwise_iff_getElem.mp h) i j (by omega) hj hij
theorem stL_pw {D : Nat} {t : Int32} {l : List Int32} (h : l.Pairwise (fun a b => b.toInt < a.toInt)) (ht : t ∉ l) : (stL D t l).Pairwise (fun a b => b.toInt < a.toInt) := by
  obtain ⟨hp, h1, h2⟩ := insp_spec (fun i => l.getD i 0) t l.length
  unfold stL
  generalize insp (fun i => l.getD i 0) t l.length = p at hp h1 h2 ⊢
  refine mk_pw (fun i j hij hj => ?_)
  have hjn : j ≤ l.length := by omega
  unfold insA
  rcases Nat.lt_trichotomy i p with hi | hi | hi
  · rw [if_neg (show ¬ i = p by omega), if_neg (show ¬ (p < i ∧ i ≤ l.length) by omega)]
    rcases Nat.lt_trichotomy j p with hq | hq | hq
    · rw [if_neg (show ¬ j = p by omega), if_neg (show ¬ (p < j ∧ j ≤ l.length) by omega)]
      exact getD_pw h hij (by omega)
    · rw [if_pos hq]
      have h3 : ¬ l.getD (p - 1) 0 < t := by
        rcases h2 with h2 | h2
        · omega
        · exact h2
      rw [Int32.lt_iff_toInt_lt] at h3
      have h4 : (l.getD (p - 1) 0).toInt ≠ t.toInt := by
        intro e
        exact ht (by rw [← Int32.toInt_inj.mp e]; exact getD_mem (by omega))
      have h5 : (l.getD (p - 1) 0).toInt ≤ (l.getD i 0).toInt := by
        by_cases e : i = p - 1
        · rw [e]; exact Int.le_refl _
        · exact Int.le_of_lt (getD_pw h (by omega) (by omega))
      show t.toInt < (l.getD i 0).toInt
      omega
    · rw [if_neg (show ¬ j = p by omega), if_pos (show p < j ∧ j ≤ l.length by omega)]
      exact getD_pw h (by omega) (by omega)
  · rw [if_pos hi, if_neg (show ¬ j = p by omega), if_pos (show p < j ∧ j ≤ l.length by omega)]
    have := h1 (j - 1) (by omega) (by omega)
    exact Int32.lt_iff_toInt_lt.mp this
  · rw [if_neg (show ¬ i = p by omega), if_pos (show p < i ∧ i ≤ l.length by omega), if_neg (show ¬ j = p by omega), if_pos (show p < j ∧ j ≤ l.length by omega)]
    exact getD_pw h (by omega) (by omega)
theorem srv_up (x : fy) (v : SV) (l : LA) : (a_srv x v l).1 = v.1 ∧ v.2.1.toInt ≤ (a_srv x v l).2.1.toInt ∧ (∀ t, t ∈ (a_srv x v l).2.2 → t ∈ v.2.2 ∨ (l.1 = 2 ∧ t = l.2.2.1)) := by
  unfold a_srv
  by_cases h2 : l.1 = 2
  · rw [if_pos h2]
    refine ⟨rfl, Int.le_refl _, fun t ht => ?_⟩
    rcases stL_mem ht with h | h
    · exact Or.inr ⟨h2, h⟩
    · exact Or.inl h
  · rw [if_neg h2]
    by_cases h3 : l.1 = 3 ∨ l.1 = 5
    · rw [if_pos h3]
      exact ⟨rfl, (jmax_int _ _).1, fun t ht => Or.inl ht⟩
    · rw [if_neg h3]
      exact ⟨rfl, Int.le_refl _, fun t ht => Or.inl ht⟩
theorem inv_del {x : fy} {A : AS} {k c s j : Nat} {l : LA} (h : Inv x k A) (hc : c < 5) (hs : s < xN x) (hj : (aq A false c s)[j]? = some l) : Inv x (k + 1) (a_del x A c s j l) := by
  obtain ⟨h0, hIc, hIs, hIp⟩ := h
  have hwt : ∀ c', c' < 5 → (kwt (acl A c')).toInt ≤ (kwt (acl (a_del x A c s j l) c')).toInt := fun _ _ => Int.le_refl _
  have es : asv (a_del x A c s j l) s = a_srv x (asv A s) l := vu_s _ _ _
  have eo : ∀ s', s' ≠ s → asv (a_del x A c s j l) s' = asv A s' := fun s' h => vu_n _ _ h
  have eq : ∀ b c' s', aq (a_del x A c s j l) b c' s' = if b = true ∧ c' = c ∧ s' = s then aq A true c s ++ [a_rep (a_srv x (asv A s) l) l] else if b = false ∧ c' = c ∧ s' = s then (aq A false c s).eraseIdx j else aq A b c' s' := fun _ _ _ => rfl
  obtain ⟨v1, v2, v3⟩ := srv_up x (asv A s) l
  obtain ⟨p1, p2, p3, p4, p5⟩ := hIp c s hc hs
  have hlm : l ∈ aq A false c s := List.mem_of_getElem? hj
  have hjl : j < (aq A false c s).length := (List.getElem?_eq_some_iff.mp hj).1
  obtain ⟨i1, i2, i3, i4, i5, i6, i7, i8, i9, i10⟩ := p1 false l hlm
  have hup : ∀ s', ((asv A s').2.1).toInt ≤ ((asv (a_del x A c s j l) s').2.1).toInt := by
    intro s'
    by_cases h : s' = s
    · rw [h, es]; exact v2
    · rw [eo s' h]; exact Int.le_refl _
  have hdn : ∀ s', (asv (a_del x A c s j l) s').1 = false → (asv A s').1 = false := by
    intro s'
    by_cases h : s' = s
    · rw [h, es, v1]; exact fun z => z
    · rw [eo s' h]; exact fun z => z
  have hos : okT A k (a_srv x (asv A s) l).2.1 := by
    unfold a_srv
    split
    · exact (hIs s hs).2.2.2.2
    · split
      · rcases (jmax_int (asv A s).2.1 l.2.2.1).2.2 with e | e
        · show okT A k (jmax _ _); rw [e]; exact (hIs s hs).2.2.2.2
        · show okT A k (jmax _ _); rw [e]; exact i3
      · exact (hIs s hs).2.2.2.2
  refine ⟨h0, fun c' hc' => (hIc c' hc').mono (by omega) rfl hwt (fun s' _ => hup s'), fun s' hs' => ?_, fun c' s' hc' hs' => ?_⟩
  · by_cases h : s' = s
    · subst h
      obtain ⟨q1, q2, q3, q4, q5⟩ := hIs s' hs'
      unfold Is
      rw [es]
      refine ⟨?_, ?_, ?_, fun t ht => ?_, hos.mono (by omega) hwt⟩
      · unfold a_srv
        split
        · show 1 ≤ (stL _ _ _).length; rw [stL_len]; omega
        · split <;> exact q1
      · unfold a_srv
        split
        · show (stL _ _ _).length ≤ _; rw [stL_len]; omega
        · split <;> exact q2
      · unfold a_srv
        split
        · rename_i h2
          exact stL_pw q3 (i8 rfl h2).2.2
        · split <;> exact q3
      · rcases v3 t ht with h | ⟨_, h⟩
        · exact (q4 t h).mono (by omega) hwt
        · rw [h]; exact i3.mono (by omega) hwt
    · exact (hIs s' hs').mono (by omega) (by rw [eo s' h]) hwt
  · by_cases hss : s' = s
    · subst hss
      by_cases hcc : c' = c
      · subst hcc
        have ef : aq (a_del x A c' s' j l) false c' s' = (aq A false c' s').eraseIdx j := by rw [eq, if_neg (fun q => by cases q.1), if_pos ⟨rfl, rfl, rfl⟩]
        have et : aq (a_del x A c' s' j l) true c' s' = aq A true c' s' ++ [a_rep (a_srv x (asv A s') l) l] := by rw [eq, if_pos ⟨rfl, rfl, rfl⟩]
        have hln : ((aq A false c' s').eraseIdx j).length + (aq A true c' s' ++ [a_rep (a_srv x (asv A s') l) l]).length = (aq A false c' s').length + (aq A true c' s').length := by
          rw [List.length_eraseIdx, if_pos hjl, List.length_append]
          show _ - 1 + (_ + 1) = _
          omega
        unfold Ip
        rw [ef, et, hln]
        refine ⟨fun b l' hl' => ?_, ?_, ?_, p4, fun a b d => p5 a b (hdn _ d)⟩
        · cases b with
          | false =>
            rw [ef] at hl'
            refine (p1 false l' (er_mem hl')).mono (by omega) rfl hwt (hup _) (fun _ hl2 hn hm => ?_)
            rw [es] at hm
            rcases v3 _ hm with hm | ⟨h2, hm⟩
            · exact hn hm
            · obtain ⟨y1, y2⟩ := fl_yes (fun l : LA => decide (l.1 = 2)) (aq A false c' s') j l hj (by simpa using h2)
              have y3 : ((List.filter (fun l : LA => decide (l.1 = 2)) (aq A false c' s')).map (fun l => l.2.2.1))[(List.filter (fun l : LA => decide (l.1 = 2)) (List.take j (aq A false c' s'))).length]? = some l.2.2.1 := by
                rw [List.getElem?_map, y2]; rfl
              refine er_not p3 y3 ?_
              rw [← er_map, ← y1]
              exact List.mem_map.mpr ⟨l', List.mem_filter.mpr ⟨hl', by simpa using hl2⟩, hm⟩
          | true =>
            rw [et] at hl'
            rcases List.mem_append.mp hl' with hl' | hl'
            · exact (p1 true l' hl').mono (by omega) rfl hwt (hup _) (fun q => by cases q)
            · rw [List.mem_singleton.mp hl']
              refine ⟨i1, i2, i3.mono (by omega) hwt, hos.mono (by omega) hwt, (fun q => by cases q), fun q => ?_, i7, (fun q => by cases q), fun _ a b d => ?_, fun _ a b d e => ?_⟩
              · have q : (decide (l.1 = 5) && decide (l.2.2.1 ∈ (a_srv x (asv A s') l).2.2)) = true := q
                rw [Bool.and_eq_true] at q
                exact of_decide_eq_true q.1
              · have d' : kph (acl A c') = 3 := d
                obtain ⟨w1, w2, w3⟩ := i7 a (by rw [d']; decide) b
                have w4 := ((hIc c' hc').2.2.2.2.2.2.2.2.1 a (Or.inr d')).1
                rw [d'] at w1
                rw [es]
                show (kwt (acl A c')).toInt ≤ _
                rw [← w4, ← w2]
                unfold a_srv
                rw [if_neg (by rw [w1]; decide), if_pos (Or.inl w1)]
                exact (jmax_int _ _).2.1
              · have d' : kph (acl A c') = 1 := d
                have w4 := ((hIc c' hc').2.2.2.2.2.2.2.2.2.1 a (by rw [d']; decide) (by rw [d']; decide)).2 s' hs' e
                exact Int.le_trans w4 v2
        · have hjj : ((aq A false c' s' ++ aq A true c' s').map (fun l => l.2.1))[j]? = some l.2.1 := by
            rw [List.getElem?_map, List.getElem?_append_left hjl, hj]; rfl
          have hno := er_not p2 hjj
          have hnd := er_nodup j p2
          rw [← er_map, er_app _ _ _ hjl] at hno hnd
          rw [← List.append_assoc, List.map_append, List.nodup_append]
          refine ⟨hnd, by simp, fun a ha b hb e => ?_⟩
          rw [List.mem_singleton.mp hb] at e
          exact hno (by rw [show l.2.1 = a from e.symm]; exact ha)
        · exact List.Nodup.sublist (((List.eraseIdx_sublist _ j).filter _).map _) p3
      · refine (hIp c' s' hc' hs').mono (by omega) rfl hwt (hup _) (hdn _) (fun l' hl' hl2 hn hm => ?_) (fun b => by rw [eq, if_neg (fun q => hcc q.2.1), if_neg (fun q => hcc q.2.1)])
        rw [es] at hm
        rcases v3 _ hm with hm | ⟨h2, hm⟩
        · exact hn hm
        · have r1 := (i8 rfl h2).1
          have r2 := (((hIp c' s' hc' hs').1 false l' hl').2.2.2.2.2.2.2.1 rfl hl2).1
          rw [hm, r1] at r2
          exact hcc (by omega)
    · exact (hIp c' s' hc' hs').mono (by omega) rfl hwt (hup _) (hdn _) (fun _ _ _ z => by rw [eo s' hss]; exact z) (fun b => by rw [eq, if_neg (fun q => hss q.2.2), if_neg (fun q => hss q.2.2)])
/-- an operation begins -/
theorem inv_op {x : fy} {A A1 : AS} {k c : Nat} {p : Int32} (h : Inv x k A) (hc : c < 5) (hp : p = 1 ∨ p = 4) (hcr : kcr (acl A c) = false) (hph : kph (acl A c) = 0 ∨ kph (acl A c) = 5) (hcw : ∀ s, s < xN x → (asv A s).1 = false → (aq A false c s).length + (aq A true c s).length ≤ 4) (hA : A1 = A ∨ ∃ w, A1 = ucl A c (scl_bl (acl A c) w)) : Inv x (k + 1) (a_begin x A1 c p) := by
  have hI := h
  obtain ⟨h0, hIc, hIs, hIp⟩ := h
  obtain ⟨g1, g2, g3, g4, g5, g6, g7, g8, g9, g10, g11, g12⟩ := hIc c hc
  have n2 : kph (acl A c) ≠ 2 := by rcases hph with e | e <;> rw [e] <;> decide
  have n3 : kph (acl A c) ≠ 3 := by rcases hph with e | e <;> rw [e] <;> decide
  have p2 : p ≠ 2 := by rcases hp with e | e <;> rw [e] <;> decide
  have p3 : p ≠ 3 := by rcases hp with e | e <;> rw [e] <;> decide
  have hkp : kp p = 1 := by rcases hp with e | e <;> rw [e] <;> rfl
  have hp5 : p = 1 ∨ p = 2 ∨ p = 3 ∨ p = 4 ∨ p = 5 := by rcases hp with e | e <;> simp [e]
  rcases hA with rfl | ⟨w, rfl⟩
  · exact inv_next hI hc hp5 h0 (fun _ _ => rfl) rfl rfl rfl rfl rfl (Int.le_refl _) (by omega) (g3.mono (by omega) (fun _ _ => Int.le_refl _)) (fun s hs hd => by have := hcw s hs hd; omega) (fun _ q => by rcases q with q | q; exact absurd q p2; exact absurd q p3) (fun a _ _ => ⟨rfl, g10 a n2 n3⟩) (fun q => absurd q p2)
  · have ecc : acl (ucl A c (scl_bl (acl A c) w)) c = scl_bl (acl A c) w := vu_s _ _ _
    have hww : ∀ c', c' < 5 → (kwt (acl A c')).toInt ≤ (kwt (acl (ucl A c (scl_bl (acl A c) w)) c')).toInt := by
      intro c' _
      by_cases h : c' = c
      · rw [h, ecc]; exact Int.le_refl _
      · rw [show acl (ucl A c (scl_bl (acl A c) w)) c' = acl A c' from vu_n _ _ h]; exact Int.le_refl _
    exact inv_next hI hc hp5 h0 (fun c' hne => vu_n _ _ hne) rfl rfl (by rw [ecc]; rfl) (by rw [ecc]; rfl) (by rw [ecc]; rfl) (by rw [ecc]; exact Int.le_refl _) (by rw [ecc]; show (kwt (acl A c)).toInt ≤ _; omega) (by rw [ecc]; exact g3.mono (by omega) hww) (fun s hs hd => by have := hcw s hs hd; omega) (fun _ q => by rcases q with q | q; exact absurd q p2; exact absurd q p3) (fun a _ _ => ⟨by rw [ecc]; rfl, g10 a n2 n3⟩) (fun q => absurd q p2)
