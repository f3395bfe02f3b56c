-- the other steps keep what holds
theorem inv_stop {x : fy} {A : AS} {k c : Nat} (h : Inv x k A) (hc : c < 5) : Inv x (k + 1) (ucl A c (scl_cr (acl A c))) := by
  obtain ⟨h0, hIc, hIs, hIp⟩ := h
  have ec : acl (ucl A c (scl_cr (acl A c))) c = scl_cr (acl A c) := vu_s _ _ _
  have eo : ∀ c', c' ≠ c → acl (ucl A c (scl_cr (acl A c))) c' = acl A c' := fun c' h => vu_n _ _ h
  have hwt : ∀ c', c' < 5 → (kwt (acl A c')).toInt ≤ (kwt (acl (ucl A c (scl_cr (acl A c))) c')).toInt := by
    intro c' _
    by_cases h : c' = c
    · rw [h, ec]; exact Int.le_refl _
    · rw [eo c' h]; exact Int.le_refl _
  refine ⟨h0, fun c' hc' => ?_, fun s hs => (hIs s hs).mono (by omega) rfl hwt, fun c' s hc' hs => ?_⟩
  · by_cases h : c' = c
    · subst h
      obtain ⟨h1, h2, h3, h4, h5, h6, h7, h8, h9, h10, h11, h12⟩ := hIc c' hc'
      unfold Ic
      rw [ec]
      exact ⟨h1, by show kag (acl A c') ≤ k + 1; omega, h3.mono (by omega) hwt, ⟨h4.1, by show (kwt (acl A c')).toInt ≤ _; omega⟩, h5.mono (by omega) hwt, h6, h7, h8, (fun a => by cases a), (fun a => by cases a), (fun a => by cases a), (fun a => by cases a)⟩
    · exact (hIc c' hc').mono (by omega) (eo c' h) hwt (fun _ _ => Int.le_refl _)
  · by_cases h : c' = c
    · subst h
      obtain ⟨h1, h2, h3, h4, h5⟩ := hIp c' s hc' hs
      refine ⟨fun b l hl => ?_, h2, h3, h4, fun a => ?_⟩
      · obtain ⟨i1, i2, i3, i4, i5, i6, i7, i8, i9, i10⟩ := h1 b l hl
        unfold Il
        rw [ec]
        exact ⟨i1, i2, i3.mono (by omega) hwt, i4.mono (by omega) hwt, i5, i6, (fun a => by cases a), i8, (fun _ a => by cases a), (fun _ a => by cases a)⟩
      · rw [ec] at a; cases a
    · exact (hIp c' s hc' hs).mono (by omega) (eo c' h) hwt (Int.le_refl _) (fun z => z) (fun _ _ _ z => z) (fun _ => rfl)
theorem inv_crash {x : fy} {A : AS} {k s0 : Nat} (h : Inv x k A) : Inv x (k + 1) (a_crash A s0) := by
  obtain ⟨h0, hIc, hIs, hIp⟩ := h
  have e2 : ∀ s, (asv (a_crash A s0) s).2 = (asv A s).2 := by
    intro s
    show (va_up (asv A) s0 (true, (asv A s0).2) s).2 = _
    by_cases h : s = s0
    · rw [h, vu_s]
    · rw [vu_n _ _ h]
  have e1 : ∀ s, (asv (a_crash A s0) s).1 = false → (asv A s).1 = false := by
    intro s
    show (va_up (asv A) s0 (true, (asv A s0).2) s).1 = false → _
    by_cases h : s = s0
    · rw [h, vu_s]; intro q; cases q
    · rw [vu_n _ _ h]; exact fun q => q
  have hwt : ∀ c', c' < 5 → (kwt (acl A c')).toInt ≤ (kwt (acl (a_crash A s0) c')).toInt := fun _ _ => Int.le_refl _
  have eq : ∀ b c s, aq (a_crash A s0) b c s = if b = false ∧ s = s0 then [] else aq A b c s := fun _ _ _ => rfl
  refine ⟨h0, fun c hc => (hIc c hc).mono (by omega) rfl hwt (fun s _ => by rw [e2]; exact Int.le_refl _), fun s hs => (hIs s hs).mono (by omega) (e2 s) hwt, fun c s hc hs => ?_⟩
  by_cases h : s = s0
  · subst h
    obtain ⟨h1, h2, h3, h4, h5⟩ := hIp c s hc hs
    have ef : aq (a_crash A s) false c s = [] := by rw [eq, if_pos ⟨rfl, rfl⟩]
    have et : aq (a_crash A s) true c s = aq A true c s := by rw [eq, if_neg (fun q => by cases q.1)]
    unfold Ip
    rw [ef, et]
    refine ⟨fun b l hl => ?_, ?_, List.nodup_nil, by have := h4; show 0 + _ ≤ 7; omega, fun _ _ d => ?_⟩
    · cases b with
      | false => rw [ef] at hl; exact absurd hl List.not_mem_nil
      | true =>
        rw [et] at hl
        exact (h1 true l hl).mono (by omega) rfl hwt (by rw [e2]; exact Int.le_refl _) (fun a => by cases a)
    · rw [List.map_append, List.nodup_append] at h2
      rw [List.nil_append]
      exact h2.2.1
    · have : (asv (a_crash A s) s).1 = true := by show (va_up (asv A) s (true, (asv A s).2) s).1 = true; rw [vu_s]
      rw [this] at d; cases d
  · exact (hIp c s hc hs).mono (by omega) rfl hwt (by rw [e2]; exact Int.le_refl _) (e1 s) (fun l _ _ z => by rw [e2]; exact z) (fun b => by rw [eq, if_neg (fun q => h q.2)])
theorem er_map {α β : Type} (f : α → β) (l : List α) (j : Nat) : (l.eraseIdx j).map f = (l.map f).eraseIdx j := by
  apply List.ext_getElem?
  intro i
  rw [List.getElem?_map, List.getElem?_eraseIdx, List.getElem?_eraseIdx]
  split <;> rw [List.getElem?_map]
theorem er_nodup {α : Type} {l : List α} (j : Nat) (h : l.Nodup) : (l.eraseIdx j).Nodup := List.Nodup.sublist (List.eraseIdx_sublist l j) h
theorem er_mem {α : Type} {l : List α} {j : Nat} {a : α} (h : a ∈ l.eraseIdx j) : a ∈ l := List.mem_of_mem_eraseIdx h
theorem er_app {α : Type} (l m : List α) (j : Nat) (h : j < l.length) : (l ++ m).eraseIdx j = l.eraseIdx j ++ m := List.eraseIdx_append_of_lt_length h m
theorem er_app2 {α : Type} (l m : List α) (j : Nat) : (l ++ m).eraseIdx (l.length + j) = l ++ m.eraseIdx j := by
  rw [List.eraseIdx_append_of_length_le (by omega)]
  congr 2
  omega
/-- in a list without repetition an erased element is not there any more -/
theorem er_not {α : Type} : ∀ {l : List α} {j : Nat} {a : α}, l.Nodup → l[j]? = some a → a ∉ l.eraseIdx j := by
  intro l
  induction l with
  | nil => intro j a _ h; simp at h
  | cons b l ih =>
    intro j a hn h
    rw [List.nodup_cons] at hn
    cases j with
    | zero =>
      simp at h
      subst h
      simpa using hn.1
    | succ j =>
      simp at h
      simp only [List.eraseIdx_cons_succ, List.mem_cons, not_or]
      exact ⟨fun e => hn.1 (by rw [← e]; exact List.mem_of_getElem? h), ih hn.2 h⟩
/-- a reply is taken out, and not counted -/
theorem inv_take {x : fy} {A : AS} {k c s j : Nat} (h : Inv x k A) (hc : c < 5) (hs : s < xN x) : Inv x (k + 1) (a_tak A c s j) := by
  obtain ⟨h0, hIc, hIs, hIp⟩ := h
  have hwt : ∀ c', c' < 5 → (kwt (acl A c')).toInt ≤ (kwt (acl (a_tak A c s j) c')).toInt := fun _ _ => Int.le_refl _
  have eq : ∀ b c' s', aq (a_tak A c s j) b c' s' = if b = true ∧ c' = c ∧ s' = s then (aq A true c s).eraseIdx j else aq A b c' s' := fun _ _ _ => rfl
  refine ⟨h0, fun c hc => (hIc c hc).mono (by omega) rfl hwt (fun s _ => Int.le_refl _), fun s hs => (hIs s hs).mono (by omega) rfl hwt, fun c' s' hc' hs' => ?_⟩
  by_cases h : c' = c ∧ s' = s
  · obtain ⟨rfl, rfl⟩ := h
    obtain ⟨h1, h2, h3, h4, h5⟩ := hIp c' s' hc' hs'
    have ef : aq (a_tak A c' s' j) false c' s' = aq A false c' s' := by rw [eq, if_neg (fun q => by cases q.1)]
    have et : aq (a_tak A c' s' j) true c' s' = (aq A true c' s').eraseIdx j := by rw [eq, if_pos ⟨rfl, rfl, rfl⟩]
    have hle : ((aq A true c' s').eraseIdx j).length ≤ (aq A true c' s').length := List.length_eraseIdx_le _ _
    unfold Ip
    rw [ef, et]
    refine ⟨fun b l hl => ?_, ?_, h3, by omega, fun a b d => by have := h5 a b d; show _ + _ ≤ 4 + kp (kph (acl A c')); omega⟩
    · have hl2 : l ∈ aq A b c' s' := by
        cases b with
        | false => rw [ef] at hl; exact hl
        | true => rw [et] at hl; exact er_mem hl
      exact (h1 b l hl2).mono (by omega) rfl hwt (Int.le_refl _) (fun _ _ z => z)
    · rw [← er_app2, er_map]
      exact er_nodup _ h2
  · exact (hIp c' s' hc' hs').mono (by omega) rfl hwt (Int.le_refl _) (fun z => z) (fun _ _ _ z => z) (fun b => by rw [eq, if_neg (fun q => h q.2)])
theorem jmax_int (a b : Int32) : a.toInt ≤ (jmax a b).toInt ∧ b.toInt ≤ (jmax a b).toInt ∧ (jmax a b = a ∨ jmax a b = b) := by
  unfold jmax
  by_cases h : a < b
  · rw [if_pos h]
    rw [Int32.lt_iff_toInt_lt] at h
    exact ⟨by omega, Int.le_refl _, Or.inr rfl⟩
  · rw [if_neg h]
    rw [Int32.lt_iff_toInt_lt] at h
    exact ⟨Int.le_refl _, by omega, Or.inl rfl⟩
/-- a reply is taken out and counted -/
theorem inv_hear {x : fy} {A : AS} {k c s j : Nat} {l0 : LA} (h : Inv x k A) (hc : c < 5) (hs : s < xN x) (hj : (aq A true c s)[j]? = some l0) (hcn : a_cnt A c l0 = true) : Inv x k (a_hr A c s j l0) := by
  obtain ⟨h0, hIc, hIs, hIp⟩ := h
  unfold a_cnt at hcn
  simp only [Bool.and_eq_true, Bool.not_eq_true', decide_eq_true_eq] at hcn
  obtain ⟨hcr, hph, hbg⟩ := hcn
  have ec : acl (a_hr A c s j l0) c = scl_hr (acl A c) s l0.2.2.2.1 l0.2.2.2.2 := vu_s _ _ _
  have eo : ∀ c', c' ≠ c → acl (a_hr A c s j l0) c' = acl A c' := fun c' h => vu_n _ _ h
  have hwt : ∀ c', c' < 5 → (kwt (acl A c')).toInt ≤ (kwt (acl (a_hr A c s j l0) c')).toInt := by
    intro c' _
    by_cases h : c' = c
    · rw [h, ec]; exact Int.le_refl _
    · rw [eo c' h]; exact Int.le_refl _
  have eq : ∀ b c' s', aq (a_hr A c s j l0) b c' s' = if b = true ∧ c' = c ∧ s' = s then (aq A true c s).eraseIdx j else aq A b c' s' := fun _ _ _ => rfl
  have hl0 := (hIp c s hc hs).1 true l0 (List.mem_of_getElem? hj)
  obtain ⟨i1, i2, i3, i4, i5, i6, i7, i8, i9, i10⟩ := hl0
  obtain ⟨p1, p2, p3⟩ := i7 hcr hph hbg
  have hjm := jmax_int (kbe (acl A c)) l0.2.2.2.1
  refine ⟨h0, fun c' hc' => ?_, fun s hs => (hIs s hs).mono (Nat.le_refl _) rfl hwt, fun c' s' hc' hs' => ?_⟩
  · by_cases h : c' = c
    · subst h
      obtain ⟨g1, g2, g3, g4, g5, g6, g7, g8, g9, g10, g11, g12⟩ := hIc c' hc'
      have hcu : cnt (va_up (khs (acl A c')) s true) (xN x) = cnt (khs (acl A c')) (xN x) + 1 := cnt_up p3 hs
      unfold Ic
      rw [ec]
      refine ⟨g1, g2, g3.mono (Nat.le_refl _) hwt, g4, ?_, ?_, ?_, ?_, g9, g10, ?_, ?_⟩
      · show okT _ k (jmax (kbe (acl A c')) l0.2.2.2.1)
        rcases hjm.2.2 with e | e
        · rw [e]; exact g5.mono (Nat.le_refl _) hwt
        · rw [e]; exact i4.mono (Nat.le_refl _) hwt
      · show (if l0.2.2.2.2 = true then ksr (acl A c') ++ [s] else ksr (acl A c')).length ≤ cnt (va_up (khs (acl A c')) s true) (xN x)
        rw [hcu]
        split
        · rw [List.length_append]; show _ + 1 ≤ _; omega
        · omega
      · show ∀ q, q ∈ (if l0.2.2.2.2 = true then ksr (acl A c') ++ [s] else ksr (acl A c')) → q < xN x ∧ va_up (khs (acl A c')) s true q = true
        intro q hq
        have hold : q ∈ ksr (acl A c') → q < xN x ∧ va_up (khs (acl A c')) s true q = true := by
          intro hq2
          refine ⟨(g7 q hq2).1, ?_⟩
          by_cases hqs : q = s
          · rw [hqs, vu_s]
          · rw [vu_n _ _ hqs]; exact (g7 q hq2).2
        split at hq
        · rcases List.mem_append.mp hq with hq2 | hq2
          · exact hold hq2
          · rw [List.mem_singleton.mp hq2, vu_s]; exact ⟨hs, rfl⟩
        · exact hold hq
      · show (if l0.2.2.2.2 = true then ksr (acl A c') ++ [s] else ksr (acl A c')).Nodup
        split
        · rw [List.nodup_append]
          refine ⟨g8, by simp, fun a ha b hb e => ?_⟩
          rw [List.mem_singleton.mp hb] at e
          have := (g7 a ha).2
          rw [e, p3] at this
          cases this
        · exact g8
      · intro a b q e f
        by_cases hqs : q = s
        · rw [hqs]; exact i9 rfl hcr hbg b
        · have f : va_up (khs (acl A c')) s true q = true := f
          rw [vu_n _ _ hqs] at f
          exact g11 a b q e f
      · intro a b q e f g
        show (kwt (acl A c')).toInt ≤ (jmax (kbe (acl A c')) l0.2.2.2.1).toInt
        by_cases hqs : q = s
        · rw [hqs] at f
          exact Int.le_trans (i10 rfl hcr hbg b f) hjm.2.1
        · have g : va_up (khs (acl A c')) s true q = true := g
          rw [vu_n _ _ hqs] at g
          exact Int.le_trans (g12 a b q e f g) hjm.1
    · exact (hIc c' hc').mono (Nat.le_refl _) (eo c' h) hwt (fun _ _ => Int.le_refl _)
  · by_cases h : c' = c
    · subst h
      obtain ⟨h1, h2, h3, h4, h5⟩ := hIp c' s' hc' hs'
      have hmv : ∀ b l, l ∈ aq A b c' s' → (s' = s → l.2.1 ≠ kag (acl A c')) → Il x k (a_hr A c' s j l0) c' s' b l := by
        intro b l hl hne
        obtain ⟨j1, j2, j3, j4, j5, j6, j7, j8, j9, j10⟩ := h1 b l hl
        unfold Il
        rw [ec]
        refine ⟨j1, j2, j3.mono (Nat.le_refl _) hwt, j4.mono (Nat.le_refl _) hwt, j5, j6, fun a b d => ⟨(j7 a b d).1, (j7 a b d).2.1, ?_⟩, j8, j9, j10⟩
        show va_up (khs (acl A c')) s true s' = false
        by_cases hss : s' = s
        · exact absurd d (hne hss)
        · rw [vu_n _ _ hss]; exact (j7 a b d).2.2
      by_cases hss : s' = s
      · subst hss
        have ef : aq (a_hr A c' s' j l0) false c' s' = aq A false c' s' := by rw [eq, if_neg (fun q => by cases q.1)]
        have et : aq (a_hr A c' s' j l0) true c' s' = (aq A true c' s').eraseIdx j := by rw [eq, if_pos ⟨rfl, rfl, rfl⟩]
        have hle : ((aq A true c' s').eraseIdx j).length ≤ (aq A true c' s').length := List.length_eraseIdx_le _ _
        have hjj : ((aq A false c' s' ++ aq A true c' s').map (fun l => l.2.1))[(aq A false c' s').length + j]? = some (kag (acl A c')) := by
          rw [List.getElem?_map, List.getElem?_append_right (by omega), show (aq A false c' s').length + j - (aq A false c' s').length = j by omega, hj]
          show some l0.2.1 = _
          rw [hbg]
        have hno := er_not h2 hjj
        rw [← er_map, er_app2] at hno
        unfold Ip
        rw [ef, et, ec]
        refine ⟨fun b l hl => ?_, ?_, h3, by omega, fun a b d => by have := h5 a b d; show _ + _ ≤ 4 + kp (kph (acl A c')); omega⟩
        · cases b with
          | false =>
            rw [ef] at hl
            exact hmv false l hl (fun _ e => hno (List.mem_map.mpr ⟨l, List.mem_append_left _ hl, e⟩))
          | true =>
            rw [et] at hl
            exact hmv true l (er_mem hl) (fun _ e => hno (List.mem_map.mpr ⟨l, List.mem_append_right _ hl, e⟩))
        · rw [← er_app2, er_map]
          exact er_nodup _ h2
      · have eqq : ∀ b, aq (a_hr A c' s j l0) b c' s' = aq A b c' s' := fun b => by rw [eq, if_neg (fun q => hss q.2.2)]
        unfold Ip
        rw [eqq false, eqq true, ec]
        refine ⟨fun b l hl => ?_, h2, h3, h4, h5⟩
        rw [eqq b] at hl
        exact hmv b l hl (fun e => absurd e hss)
    · exact (hIp c' s' hc' hs').mono (Nat.le_refl _) (eo c' h) hwt (Int.le_refl _) (fun z => z) (fun _ _ _ z => z) (fun b => by rw [eq, if_neg (fun q => h q.2.1)])
