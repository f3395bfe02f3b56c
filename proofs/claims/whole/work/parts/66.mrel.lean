-- a crash, in the reference; how many letters there are
theorem tk_dr {α : Type} {l : List α} {n : Nat} {e : α} (h : l[n]? = some e) : l.take (n + 1) = l.take n ++ [e] ∧ l.drop n = e :: l.drop (n + 1) := by
  obtain ⟨h1, h2⟩ := List.getElem?_eq_some_iff.mp h
  refine ⟨?_, ?_⟩
  · rw [List.take_succ, h]; rfl
  · rw [List.drop_eq_getElem_cons h1, h2]
def keep (s : Nat) (e : ME) : Bool := !decide (e.1 = false ∧ e.2.2.1 = nI s)
theorem crl_ml (s : Nat) : ∀ n (S : fm), n ≤ mL S → ml (n_crl s n S) = ((ml S).take n).filter (keep s) ++ (ml S).drop n ∧ ∀ k, k ≠ 16 ∧ (k < 39 ∨ 46 < k) → sk S (n_crl s n S) k := by
  intro n
  induction n with
  | zero => intro S _; exact ⟨by simp [n_crl], fun k _ => sk.rf S k⟩
  | succ n ih =>
    intro S hn
    have hg : (ml S)[n]? = some (me S n) := by unfold ml; rw [mk_get, if_pos (by omega)]
    obtain ⟨t1, t2⟩ := tk_dr hg
    show ml (n_crl s n (if mB S 39 0 n = false ∧ mI S 42 0 n = nI s then n_lose S n else S)) = _ ∧ ∀ k, _ → sk S (n_crl s n (if mB S 39 0 n = false ∧ mI S 42 0 n = nI s then n_lose S n else S)) k
    by_cases h : mB S 39 0 n = false ∧ mI S 42 0 n = nI s
    · rw [if_pos h]
      have hL : mL (n_lose S n) = mL S - 1 := rfl
      obtain ⟨i1, i2⟩ := ih (n_lose S n) (by omega)
      refine ⟨?_, fun k hk => (sk_nlose S n hk).tr (i2 k hk)⟩
      have hlen : (ml S).length = mL S := mk_len _ _
      have hP : keep s (me S n) = false := by unfold keep; rw [decide_eq_true (show (me S n).1 = false ∧ (me S n).2.2.1 = nI s from h)]; rfl
      rw [i1, ml_lose S (by omega), t1, List.filter_append, List.eraseIdx_eq_take_drop_succ, List.take_left' (by rw [List.length_take]; omega), List.drop_left' (by rw [List.length_take]; omega)]
      simp [hP]
    · rw [if_neg h]
      obtain ⟨i1, i2⟩ := ih S (by omega)
      refine ⟨?_, i2⟩
      have hP : keep s (me S n) = true := by unfold keep; rw [decide_eq_false (show ¬ ((me S n).1 = false ∧ (me S n).2.2.1 = nI s) from h)]; rfl
      rw [i1, t1, t2, List.filter_append]
      simp [hP]
theorem m_crash {x : fy} {M : fm} {A : AS} {s : Nat} (hO : fO x) (hs : s < xN x) (h : MRel x M A) : MRel x (n_crash M s) (a_crash A s) := by
  obtain ⟨h1, h2, h3, h4⟩ := h
  have hN : xN x ≤ 7 := hO.2.2.2.1
  have s0 : ∀ k, k ≠ 33 → sk M (sB M 33 0 s true) k := fun k hk => sk_sB M _ hk
  have hml0 : ml (sB M 33 0 s true) = ml M := ml_sk (fun k hk => s0 k (by omega))
  obtain ⟨b1, b2⟩ := crl_ml s (mL M) (sB M 33 0 s true) (Nat.le_refl _)
  have hml : ml (n_crash M s) = (ml M).filter (keep s) := by
    have hlen : (ml M).length = mL M := mk_len _ _
    unfold n_crash
    rw [b1, hml0, List.take_of_length_le (by omega), List.drop_of_length_le (by omega), List.append_nil]
  have st : ∀ k, k ≠ 33 → k ≠ 16 ∧ (k < 39 ∨ 46 < k) → sk M (n_crash M s) k := fun k a b => (s0 k a).tr (b2 k b)
  have eq : ∀ b c s', aq (a_crash A s) b c s' = if b = false ∧ s' = s then [] else aq A b c s' := fun _ _ _ => rfl
  have es : ∀ s', asv (a_crash A s) s' = if s' = s then (true, (asv A s).2) else asv A s' := fun _ => rfl
  have hq : ∀ b c s', s' < xN x → mq (n_crash M s) b c s' = if b = false ∧ s' = s then [] else mq M b c s' := by
    intro b c s' hs'
    unfold mq
    rw [hml, List.filter_filter]
    by_cases e : b = false ∧ s' = s
    · rw [if_pos e, List.filter_eq_nil_iff]
      intro a _ q
      rw [Bool.and_eq_true] at q
      obtain ⟨k1, k2, k3⟩ := mt_of q.1
      have q2 := q.2
      unfold keep at q2
      rw [decide_eq_true (show a.1 = false ∧ a.2.2.1 = nI s from ⟨k1.trans e.1, by rw [k3, e.2]⟩)] at q2
      cases q2
    · rw [if_neg e]
      refine List.filter_congr (fun a _ => ?_)
      by_cases q : mt b c s' a = true
      · rw [q, Bool.true_and]
        obtain ⟨k1, k2, k3⟩ := mt_of q
        unfold keep
        rw [decide_eq_false (fun z => e ⟨k1.symm.trans z.1, (nI_eq (by omega) (by omega)).mp (k3.symm.trans z.2)⟩)]; rfl
      · rw [Bool.not_eq_true] at q
        rw [q]; rfl
  refine ⟨fun c' hc' => (h1 c' hc').mono (fun k k1 k2 => ⟨by rw [(st k (by omega) (by omega)).1], by rw [(st k (by omega) (by omega)).2.1]⟩) rfl rfl, fun s' hs' => ?_, fun c' s' hc' hs' => ?_, fun e he => ?_⟩
  · have e33 : mB (n_crash M s) 33 0 s' = if s' = s then true else mB M 33 0 s' := by
      rw [show mB (n_crash M s) 33 = mB (sB M 33 0 s true) 33 from (b2 33 (by omega)).2.2.1, mB_sB]
      by_cases e : s' = s <;> simp [e]
    obtain ⟨w1, w2, w3, w4⟩ := h2 s' hs'
    unfold Ms
    rw [e33, es, (st 34 (by omega) (by omega)).1, (st 35 (by omega) (by omega)).2.2.2.2, (st 36 (by omega) (by omega)).1, (st 37 (by omega) (by omega)).2.1]
    by_cases e : s' = s
    · subst e
      rw [if_pos rfl, if_pos rfl]
      exact ⟨rfl, w2, w3, w4⟩
    · rw [if_neg e, if_neg e]
      exact ⟨w1, w2, w3, w4⟩
  · obtain ⟨q1, q2⟩ := h3 c' s' hc' hs'
    unfold Mq
    rw [hq _ _ _ hs', hq _ _ _ hs', eq, eq]
    have hft : ¬ (true = false ∧ s' = s) := fun z => by cases z.1
    rw [if_neg hft, if_neg hft]
    refine ⟨?_, q2⟩
    by_cases e : false = false ∧ s' = s
    · rw [if_pos e, if_pos e]; exact rel_nil
    · rw [if_neg e, if_neg e]; exact q1
  · rw [hml] at he
    exact h4 e (List.mem_filter.mp he).1
def sumN (f : Nat → Nat) : Nat → Nat
  | 0 => 0
  | n + 1 => sumN f n + f n
theorem sumN_le {f g : Nat → Nat} : ∀ {n : Nat}, (∀ i, i < n → f i ≤ g i) → sumN f n ≤ sumN g n := by
  intro n
  induction n with
  | zero => intro _; exact Nat.le_refl _
  | succ n ih =>
    intro h
    show sumN f n + f n ≤ sumN g n + g n
    have := ih (fun i hi => h i (by omega))
    have := h n (by omega)
    omega
theorem sumN_lt {f g : Nat → Nat} {j : Nat} : ∀ {n : Nat}, (∀ i, i < n → f i ≤ g i) → j < n → f j + 1 ≤ g j → sumN f n + 1 ≤ sumN g n := by
  intro n
  induction n with
  | zero => intro _ h; omega
  | succ n ih =>
    intro h hj hf
    show sumN f n + f n + 1 ≤ sumN g n + g n
    by_cases e : j = n
    · subst e
      have := sumN_le (f := f) (g := g) (n := j) (fun i hi => h i (by omega))
      omega
    · have := ih (fun i hi => h i (by omega)) (by omega) hf
      have := h n (by omega)
      omega
theorem sumN_const {f : Nat → Nat} {B : Nat} : ∀ {n : Nat}, (∀ i, i < n → f i ≤ B) → sumN f n ≤ n * B := by
  intro n
  induction n with
  | zero => intro _; simp [sumN]
  | succ n ih =>
    intro h
    show sumN f n + f n ≤ (n + 1) * B
    have h1 := ih (fun i hi => h i (by omega))
    have h2 := h n (by omega)
    rw [Nat.succ_mul]
    omega
def pairs (l : List ME) (c s : Nat) : Nat := (l.filter (mt false c s)).length + (l.filter (mt true c s)).length
theorem len_pairs {x : fy} : ∀ (l : List ME), (∀ e, e ∈ l → okE x e) → l.length ≤ sumN (fun c => sumN (fun s => pairs l c s) (xN x)) 5 := by
  intro l
  induction l with
  | nil => intro _; exact Nat.zero_le _
  | cons e l ih =>
    intro h
    have h1 := ih (fun a ha => h a (List.mem_cons_of_mem _ ha))
    obtain ⟨c, s, hc, hs, e1, e2⟩ := h e List.mem_cons_self
    have hle : ∀ c' s', pairs l c' s' ≤ pairs (e :: l) c' s' := by
      intro c' s'
      unfold pairs
      have : ∀ p : ME → Bool, (l.filter p).length ≤ ((e :: l).filter p).length := by
        intro p
        rw [List.filter_cons]
        split
        · rw [List.length_cons]; omega
        · exact Nat.le_refl _
      have a := this (mt false c' s')
      have b := this (mt true c' s')
      omega
    have hlt : pairs l c s + 1 ≤ pairs (e :: l) c s := by
      unfold pairs
      have hm : ∀ b, mt b c s e = decide (e.1 = b) := by
        intro b
        unfold mt
        rw [e1, e2]
        cases e.1 <;> cases b <;> simp
      rw [List.filter_cons, List.filter_cons, hm, hm]
      cases e.1 <;> simp <;> omega
    have h2 : sumN (fun c => sumN (fun s => pairs l c s) (xN x)) 5 + 1 ≤ sumN (fun c => sumN (fun s => pairs (e :: l) c s) (xN x)) 5 :=
      sumN_lt (j := c) (fun c' _ => sumN_le (fun s' _ => hle c' s')) hc (sumN_lt (j := s) (fun s' _ => hle c s') hs hlt)
    rw [List.length_cons]
    omega
theorem mL_bound {x : fy} {M : fm} {A : AS} {k : Nat} (hO : fO x) (h : MRel x M A) (hI : Inv x k A) : mL M ≤ 245 := by
  have hN : xN x ≤ 7 := hO.2.2.2.1
  have h1 := len_pairs (x := x) (ml M) h.2.2.2
  have h2 : sumN (fun c => sumN (fun s => pairs (ml M) c s) (xN x)) 5 ≤ 5 * (xN x * 7) := by
    refine sumN_const (fun c hc => sumN_const (fun s hs => ?_))
    obtain ⟨q1, q2⟩ := h.2.2.1 c s hc hs
    have := (hI.2.2.2 c s hc hs).2.2.2.1
    show (mq M false c s).length + (mq M true c s).length ≤ 7
    rw [q1.1, q2.1]
    exact this
  have h3 : (ml M).length = mL M := mk_len _ _
  omega
