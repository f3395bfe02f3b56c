-- the reference's server stores a tag
theorem perm_up {α : Type} (g : Nat → α) (v : α) : ∀ {n low : Nat}, low < n → (g low :: mk (va_up g low v) n).Perm (v :: mk g n) := by
  intro n
  induction n with
  | zero => intro low h; omega
  | succ n ih =>
    intro low h
    by_cases e : low = n
    · subst e
      rw [mk_snoc, mk_succ]
      have h1 : (mk g low ++ [v]).Perm (v :: mk g low) := List.perm_append_singleton v _
      have h2 : (mk g low ++ [g low]).Perm (g low :: mk g low) := List.perm_append_singleton _ _
      exact (h1.cons _).trans ((List.Perm.swap v (g low) _).trans (h2.symm.cons v))
    · rw [mk_succ, mk_succ, vu_n _ _ (fun q => e q.symm)]
      exact (ih (show low < n by omega)).append_right [g n]
theorem perm_ins {α : Type} (f : Nat → α) (t : α) : ∀ {n p : Nat}, p ≤ n → (mk (insA f p n t) (n + 1)).Perm (t :: mk f n) := by
  intro n
  induction n with
  | zero =>
    intro p h
    have : p = 0 := by omega
    subst this
    exact List.Perm.refl _
  | succ n ih =>
    intro p h
    by_cases e : p = n + 1
    · subst e
      rw [mk_succ]
      have h1 : mk (insA f (n + 1) (n + 1) t) (n + 1) = mk f (n + 1) := mk_congr (fun j hj => by unfold insA; rw [if_neg (by omega), if_neg (by omega)])
      have h2 : insA f (n + 1) (n + 1) t (n + 1) = t := if_pos rfl
      rw [h1, h2]
      exact List.perm_append_singleton t _
    · rw [mk_succ (insA f p (n + 1) t) (n + 1), mk_succ f n]
      have h1 : mk (insA f p (n + 1) t) (n + 1) = mk (insA f p n t) (n + 1) := by
        refine mk_congr (fun j hj => ?_)
        unfold insA
        by_cases a : j = p
        · rw [if_pos a, if_pos a]
        · rw [if_neg a, if_neg a]
          by_cases b : p < j
          · rw [if_pos ⟨b, by omega⟩, if_pos ⟨b, by omega⟩]
          · rw [if_neg (fun z => b z.1), if_neg (fun z => b z.1)]
      have h2 : insA f p (n + 1) t (n + 1) = f n := by
        unfold insA
        rw [if_neg (fun z => e z.symm), if_pos ⟨by omega, by omega⟩]; rfl
      rw [h1, h2]
      exact (ih (show p ≤ n by omega)).append_right [f n]
theorem mk_self (l : List Int32) : mk (fun i => l.getD i 0) l.length = l := by
  apply List.ext_getElem?
  intro i
  rw [mk_get]
  by_cases h : i < l.length
  · rw [if_pos h, List.getD_eq_getElem?_getD, List.getElem?_eq_getElem h]; rfl
  · rw [if_neg h, List.getElem?_eq_none (by omega)]
theorem n_low_spec (f : Nat → Int32) (b : Nat) : ∀ n, b ≤ n_low f b n ∧ (n = 0 ∧ n_low f b n = b ∨ n_low f b n < b + n) ∧ ∀ j, j < n → (f (n_low f b n)).toInt ≤ (f (b + j)).toInt := by
  intro n
  induction n with
  | zero => exact ⟨Nat.le_refl _, Or.inl ⟨rfl, rfl⟩, fun j h => by omega⟩
  | succ n ih =>
    obtain ⟨h1, h2, h3⟩ := ih
    show b ≤ (if f (b + n) < f (n_low f b n) then b + n else n_low f b n) ∧ (n + 1 = 0 ∧ _ ∨ (if f (b + n) < f (n_low f b n) then b + n else n_low f b n) < b + (n + 1)) ∧ ∀ j, j < n + 1 → (f (if f (b + n) < f (n_low f b n) then b + n else n_low f b n)).toInt ≤ (f (b + j)).toInt
    by_cases h : f (b + n) < f (n_low f b n)
    · rw [if_pos h]
      rw [Int32.lt_iff_toInt_lt] at h
      refine ⟨by omega, Or.inr (by omega), fun j hj => ?_⟩
      by_cases e : j = n
      · rw [e]; exact Int.le_refl _
      · have := h3 j (by omega); omega
    · rw [if_neg h]
      rw [Int32.lt_iff_toInt_lt] at h
      refine ⟨h1, Or.inr (by omega), fun j hj => ?_⟩
      by_cases e : j = n
      · rw [e]; omega
      · exact h3 j (by omega)
theorem nplace_mem (M : fm) (s : Nat) (t : Int32) : (n_place M s t = none ∧ t ∉ mk (fun q => mI M 36 0 (5 * s + q)) (mU M 35 0 s)) ∨ ∃ q, n_place M s t = some (5 * s + q) ∧ q < mU M 35 0 s ∧ mI M 36 0 (5 * s + q) = t := by
  unfold n_place
  cases e : (List.range (mU M 35 0 s)).find? (fun q => decide (mI M 36 0 (5 * s + q) = t)) with
  | none =>
    refine Or.inl ⟨rfl, fun hm => ?_⟩
    obtain ⟨j, hj, h1⟩ := mk_mem.mp hm
    have := List.find?_eq_none.mp e j (List.mem_range.mpr hj)
    exact this (by simpa using h1)
  | some i =>
    have h1 := List.find?_some e
    have h2 := List.mem_of_find?_eq_some e
    exact Or.inr ⟨i, rfl, List.mem_range.mp h2, by simpa using h1⟩
theorem m_store {x : fy} {M : fm} {A : AS} {s : Nat} {t : Int32} (hO : fO x) (h : Ms M A s) (hp : (asv A s).2.2.Pairwise (fun a b => b.toInt < a.toInt)) (hl : (asv A s).2.2.length ≤ xD x + 1) (ht : t ∉ (asv A s).2.2) :
    (∀ k, k ≠ 35 → k ≠ 36 → k ≠ 37 → sk M (n_store x M s t (abk A t)) k) ∧ (∀ s', s' ≠ s → mU (n_store x M s t (abk A t)) 35 0 s' = mU M 35 0 s') ∧ (∀ i, i < 5 * s ∨ 5 * s + 5 ≤ i → mI (n_store x M s t (abk A t)) 36 0 i = mI M 36 0 i ∧ mJ (n_store x M s t (abk A t)) 37 0 i = mJ M 37 0 i) ∧
    (mk (fun q => mI (n_store x M s t (abk A t)) 36 0 (5 * s + q)) (mU (n_store x M s t (abk A t)) 35 0 s)).Perm (stL (xD x) t (asv A s).2.2) ∧ ∀ q, q < mU (n_store x M s t (abk A t)) 35 0 s → mJ (n_store x M s t (abk A t)) 37 0 (5 * s + q) = abk A (mI (n_store x M s t (abk A t)) 36 0 (5 * s + q)) := by
  obtain ⟨-, -, h3, h4⟩ := h
  have hD : xD x ≤ 3 := hO.2.2.2.2.2.2
  have hn : mU M 35 0 s = (asv A s).2.2.length := by rw [← h3.length_eq, mk_len]
  have hpl : n_place M s t = none := by
    rcases nplace_mem M s t with ⟨a, _⟩ | ⟨q, _, a, b⟩
    · exact a
    · exact absurd (h3.mem_iff.mp (mk_mem.mpr ⟨q, a, b⟩)) ht
  have eP : n_put M s t (abk A t) = sJ (sI (sU M 35 0 s (mU M 35 0 s + 1)) 36 0 (5 * s + mU M 35 0 s) t) 37 0 (5 * s + mU M 35 0 s) (abk A t) := by unfold n_put; rw [hpl]
  have pU : ∀ s', mU (n_put M s t (abk A t)) 35 0 s' = if s' = s then mU M 35 0 s + 1 else mU M 35 0 s' := by
    intro s'
    rw [eP, mU_sJ, mU_sI, mU_sU]
    by_cases e : s' = s <;> simp [e]
  have pI : ∀ i, mI (n_put M s t (abk A t)) 36 0 i = if i = 5 * s + mU M 35 0 s then t else mI M 36 0 i := by
    intro i
    rw [eP, mI_sJ, mI_sI]
    by_cases e : i = 5 * s + mU M 35 0 s <;> simp [e, mI_sU]
  have pJ : ∀ i, mJ (n_put M s t (abk A t)) 37 0 i = if i = 5 * s + mU M 35 0 s then abk A t else mJ M 37 0 i := by
    intro i
    rw [eP, mJ_sJ]
    by_cases e : i = 5 * s + mU M 35 0 s <;> simp [e, mJ_sI, mJ_sU]
  have pS : ∀ k, k ≠ 35 → k ≠ 36 → k ≠ 37 → sk M (n_put M s t (abk A t)) k := fun k a b c => by rw [eP]; exact ((sk_sU _ _ a).tr (sk_sI _ _ b)).tr (sk_sJ _ _ c)
  have pG : mk (fun q => mI (n_put M s t (abk A t)) 36 0 (5 * s + q)) (mU M 35 0 s + 1) = mk (fun q => mI M 36 0 (5 * s + q)) (mU M 35 0 s) ++ [t] := by
    rw [← mk_snoc]
    refine mk_congr (fun j hj => ?_)
    rw [pI]
    by_cases e : j = mU M 35 0 s
    · rw [e, vu_s, if_pos rfl]
    · rw [vu_n _ _ e, if_neg (by omega)]
  have pp : (mk (fun q => mI (n_put M s t (abk A t)) 36 0 (5 * s + q)) (mU M 35 0 s + 1)).Perm (t :: (asv A s).2.2) := by
    rw [pG]
    exact (List.perm_append_singleton t _).trans (h3.cons t)
  have pF : ∀ q, q < mU M 35 0 s + 1 → mJ (n_put M s t (abk A t)) 37 0 (5 * s + q) = abk A (mI (n_put M s t (abk A t)) 36 0 (5 * s + q)) := by
    intro q hq
    rw [pI, pJ]
    by_cases e : q = mU M 35 0 s
    · rw [if_pos (by omega), if_pos (by omega)]
    · rw [if_neg (by omega), if_neg (by omega)]; exact h4 q (by omega)
  have hins := (insp_spec (fun i => (asv A s).2.2.getD i 0) t (asv A s).2.2.length).1
  have hI1 : (stL (asv A s).2.2.length t (asv A s).2.2).Perm (t :: (asv A s).2.2) := by
    unfold stL
    rw [Nat.min_self]
    have := perm_ins (fun i => (asv A s).2.2.getD i 0) t hins
    rwa [mk_self] at this
  unfold n_store
  rw [pU s, if_pos rfl]
  by_cases hb : xD x + 1 < mU M 35 0 s + 1
  · rw [if_pos hb]
    have hnD : mU M 35 0 s = xD x + 1 := by omega
    generalize hPn : n_put M s t (abk A t) = P at *
    obtain ⟨w1, w2, w3⟩ := n_low_spec (mI P 36 0) (5 * s) (mU M 35 0 s + 1)
    have pUs : mU P 35 0 s = mU M 35 0 s + 1 := by rw [pU, if_pos rfl]
    unfold n_drop
    rw [pUs]
    generalize n_low (mI P 36 0) (5 * s) (mU M 35 0 s + 1) = low at w1 w2 w3 ⊢
    have hlow : low < 5 * s + (mU M 35 0 s + 1) := by omega
    have e1 : mU M 35 0 s + 1 - 1 = mU M 35 0 s := by omega
    rw [e1]
    have uS : mU (sJ (sI (sU P 35 0 s (mU M 35 0 s)) 36 0 low (mI P 36 0 (5 * s + mU M 35 0 s))) 37 0 low (mJ P 37 0 (5 * s + mU M 35 0 s))) 35 0 s = mU M 35 0 s := by rw [mU_sJ, mU_sI, mU_sU, if_pos ⟨rfl, rfl, rfl⟩]
    have tI : ∀ i, mI (sJ (sI (sU P 35 0 s (mU M 35 0 s)) 36 0 low (mI P 36 0 (5 * s + mU M 35 0 s))) 37 0 low (mJ P 37 0 (5 * s + mU M 35 0 s))) 36 0 i = if i = low then mI P 36 0 (5 * s + mU M 35 0 s) else mI P 36 0 i := by
      intro i
      rw [mI_sJ, mI_sI]
      by_cases e : i = low <;> simp [e, mI_sU]
    have tJ : ∀ i, mJ (sJ (sI (sU P 35 0 s (mU M 35 0 s)) 36 0 low (mI P 36 0 (5 * s + mU M 35 0 s))) 37 0 low (mJ P 37 0 (5 * s + mU M 35 0 s))) 37 0 i = if i = low then mJ P 37 0 (5 * s + mU M 35 0 s) else mJ P 37 0 i := by
      intro i
      rw [mJ_sJ]
      by_cases e : i = low <;> simp [e, mJ_sI, mJ_sU]
    refine ⟨fun k a b c => (pS k a b c).tr (((sk_sU _ _ a).tr (sk_sI _ _ b)).tr (sk_sJ _ _ c)), fun s' hs' => ?_, fun i hi => ?_, ?_, ?_⟩
    · rw [mU_sJ, mU_sI, mU_sU, if_neg (fun z => hs' z.2.2), pU, if_neg hs']
    · rw [tI, tJ, if_neg (by omega), if_neg (by omega), pI, pJ, if_neg (by omega), if_neg (by omega)]
      exact ⟨rfl, rfl⟩
    · rw [uS]
      obtain ⟨lq, rfl⟩ : ∃ lq, low = 5 * s + lq := ⟨low - 5 * s, by omega⟩
      have hlq : lq < mU M 35 0 s + 1 := by omega
      have hT : mk (fun q => mI (sJ (sI (sU P 35 0 s (mU M 35 0 s)) 36 0 (5 * s + lq) (mI P 36 0 (5 * s + mU M 35 0 s))) 37 0 (5 * s + lq) (mJ P 37 0 (5 * s + mU M 35 0 s))) 36 0 (5 * s + q)) (mU M 35 0 s) = mk (va_up (fun q => mI P 36 0 (5 * s + q)) lq (mI P 36 0 (5 * s + mU M 35 0 s))) (mU M 35 0 s) := by
        refine mk_congr (fun j hj => ?_)
        rw [tI]
        by_cases e : j = lq
        · rw [e, vu_s, if_pos rfl]
        · rw [vu_n _ _ e, if_neg (by omega)]
      rw [hT]
      have hsw : (mI P 36 0 (5 * s + lq) :: mk (va_up (fun q => mI P 36 0 (5 * s + q)) lq (mI P 36 0 (5 * s + mU M 35 0 s))) (mU M 35 0 s)).Perm (mk (fun q => mI P 36 0 (5 * s + q)) (mU M 35 0 s + 1)) := by
        by_cases e : lq = mU M 35 0 s
        · subst e
          have hsame : mk (va_up (fun q => mI P 36 0 (5 * s + q)) (mU M 35 0 s) (mI P 36 0 (5 * s + mU M 35 0 s))) (mU M 35 0 s) = mk (fun q => mI P 36 0 (5 * s + q)) (mU M 35 0 s) := mk_congr (fun j hj => vu_n _ _ (show j ≠ mU M 35 0 s by omega))
          rw [mk_succ, hsame]
          exact (List.perm_append_singleton _ _).symm
        · rw [mk_succ]
          exact (perm_up (fun q => mI P 36 0 (5 * s + q)) (mI P 36 0 (5 * s + mU M 35 0 s)) (show lq < mU M 35 0 s by omega)).trans (List.perm_append_singleton _ _).symm
      have hfull : stL (asv A s).2.2.length t (asv A s).2.2 = stL (xD x) t (asv A s).2.2 ++ [insA (fun i => (asv A s).2.2.getD i 0) (insp (fun i => (asv A s).2.2.getD i 0) t (asv A s).2.2.length) (asv A s).2.2.length t (asv A s).2.2.length] := by
        unfold stL
        rw [Nat.min_self, mk_succ, show min ((asv A s).2.2.length + 1) (xD x + 1) = (asv A s).2.2.length by omega]
      have hpw := stL_pw (D := (asv A s).2.2.length) hp ht
      generalize insA (fun i => (asv A s).2.2.getD i 0) (insp (fun i => (asv A s).2.2.getD i 0) t (asv A s).2.2.length) (asv A s).2.2.length t (asv A s).2.2.length = z at hfull
      have hall : (mk (fun q => mI P 36 0 (5 * s + q)) (mU M 35 0 s + 1)).Perm (stL (xD x) t (asv A s).2.2 ++ [z]) := by rw [← hfull]; exact pp.trans hI1.symm
      rw [hfull] at hpw
      have hz : mI P 36 0 (5 * s + lq) = z := by
        have m1 : z ∈ mk (fun q => mI P 36 0 (5 * s + q)) (mU M 35 0 s + 1) := hall.mem_iff.mpr (by simp)
        obtain ⟨j, hj, hj2⟩ := mk_mem.mp m1
        have k1 := w3 j hj
        rw [show mI P 36 0 (5 * s + j) = z from hj2] at k1
        have m2 : mI P 36 0 (5 * s + lq) ∈ stL (xD x) t (asv A s).2.2 ++ [z] := hall.mem_iff.mp (mk_mem.mpr ⟨lq, hlq, rfl⟩)
        rcases List.mem_append.mp m2 with m3 | m3
        · have := (List.pairwise_append.mp hpw).2.2 _ m3 z (by simp)
          omega
        · exact List.mem_singleton.mp m3
      rw [hz] at hsw
      exact (List.Perm.cons_inv (a := z) (hsw.trans (hall.trans (List.perm_append_singleton _ _))))
    · rw [uS]
      intro q hq
      rw [tI, tJ]
      by_cases e : 5 * s + q = low
      · rw [if_pos e, if_pos e]; exact pF _ (by omega)
      · rw [if_neg e, if_neg e]; exact pF q (by omega)
  · rw [if_neg hb]
    refine ⟨pS, fun s' hs' => by rw [pU, if_neg hs'], fun i hi => ?_, ?_, fun q hq => ?_⟩
    · rw [pI, pJ, if_neg (by omega), if_neg (by omega)]
      exact ⟨rfl, rfl⟩
    · rw [pU, if_pos rfl]
      refine pp.trans ?_
      have : stL (xD x) t (asv A s).2.2 = stL (asv A s).2.2.length t (asv A s).2.2 := by
        unfold stL
        rw [Nat.min_self, show min ((asv A s).2.2.length + 1) (xD x + 1) = (asv A s).2.2.length + 1 by omega]
      rw [this]
      exact hI1.symm
    · rw [pU, if_pos rfl] at hq
      exact pF q hq
