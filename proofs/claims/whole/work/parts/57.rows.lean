-- what holds of the rows of letters
theorem row_inj {c s c' s' N : Nat} (hs : s < N) (hs' : s' < N) (h : c * N + s = c' * N + s') : c = c' ∧ s = s' := by
  have e : ∀ a b, b < N → (a * N + b) / N = a := by
    intro a b hb
    rw [Nat.mul_comm, Nat.mul_add_div (by omega), Nat.div_eq_of_lt hb]; rfl
  have h1 : (c * N + s) / N = (c' * N + s') / N := by rw [h]
  rw [e c s hs, e c' s' hs'] at h1
  subst h1
  exact ⟨rfl, by omega⟩
def Rw (x : fy) (S : fm) : Prop := (∀ r, mU S 13 r 1 ≤ 7) ∧ (∀ r q, q < mU S 13 r 1 → ∃ b, mA S 14 r q = some b ∧ fvL x S b) ∧ inj S
theorem ra_some {S : fm} {r q b : Nat} (h : mA S 14 r q = some b) : ra S r q = b := by unfold ra; rw [h]; rfl
theorem Rw.lt {x : fy} {S : fm} (h : Rw x S) {r q : Nat} (hq : q < mU S 13 r 1) : ra S r q < mZ S := by
  obtain ⟨b, h1, h2⟩ := h.2.1 r q hq
  rw [ra_some h1]; exact h2.2.2
theorem Rw.sk {x : fy} {S T : fm} (h : Rw x S) (h1 : sk S T 13) (h2 : sk S T 14) (hz : mZ S ≤ mZ T) : Rw x T := by
  have eU : ∀ r, mU T 13 r 1 = mU S 13 r 1 := fun r => by rw [h1.2.2.2.2]
  have eA : ∀ r, mA T 14 r = mA S 14 r := fun r => by rw [h2.2.2.2.1]
  refine ⟨fun r => by rw [eU]; exact h.1 r, fun r q hq => ?_, fun r j r' j' hj hj' e => ?_⟩
  · rw [eU] at hq
    obtain ⟨b, b1, b2, b3, b4⟩ := h.2.1 r q hq
    exact ⟨b, by rw [eA]; exact b1, b2, b3, by omega⟩
  · rw [eU] at hj hj'
    unfold ra at e
    rw [eA, eA] at e
    exact h.2.2 r j r' j' hj hj' e
theorem mZ_app (S : fm) (r a : Nat) : mZ (e_app S r a) = mZ S := by unfold e_app; split <;> rfl
theorem ra_app (S : fm) {r a q i : Nat} (h : mU S 13 r 1 < 7) (hi : i < mU (e_app S r a) 13 q 1) : (q = r ∧ i = mU S 13 r 1 ∧ ra (e_app S r a) q i = a) ∨ (i < mU S 13 q 1 ∧ ra (e_app S r a) q i = ra S q i ∧ mA (e_app S r a) 14 q i = mA S 14 q i) := by
  rw [mU_app S r a q h] at hi
  unfold ra
  rw [mA_app S r a q h]
  by_cases hq : q = r
  · rw [if_pos hq] at hi
    rw [if_pos hq]
    by_cases e : i = mU S 13 r 1
    · refine Or.inl ⟨hq, e, ?_⟩
      rw [e, vu_s]; rfl
    · refine Or.inr ⟨by rw [hq]; omega, ?_, ?_⟩
      · rw [vu_n _ _ e, hq]
      · rw [vu_n _ _ e, hq]
  · rw [if_neg hq] at hi
    rw [if_neg hq]
    exact Or.inr ⟨hi, rfl, rfl⟩
theorem Rw.app {x : fy} {S : fm} {r a : Nat} (h : Rw x S) (hr : mU S 13 r 1 < 7) (ha : fvL x S a) (hf : ∀ r' j', j' < mU S 13 r' 1 → ra S r' j' ≠ a) : Rw x (e_app S r a) := by
  refine ⟨fun q => ?_, fun q i hi => ?_, fun q i q' i' hi hi' e => ?_⟩
  · rw [mU_app S r a q hr]
    split
    · omega
    · exact h.1 q
  · rcases ra_app S hr hi with ⟨h1, h2, h3⟩ | ⟨h1, h2, h3⟩
    · refine ⟨a, ?_, ?_⟩
      · rw [mA_app S r a q hr, if_pos h1, h2, vu_s]
      · exact ⟨ha.1, ha.2.1, by rw [mZ_app]; exact ha.2.2⟩
    · obtain ⟨b, b1, b2, b3, b4⟩ := h.2.1 q i h1
      exact ⟨b, by rw [h3]; exact b1, b2, b3, by rw [mZ_app]; exact b4⟩
  · rcases ra_app S hr hi with ⟨h1, h2, h3⟩ | ⟨h1, h2, _⟩
    · rcases ra_app S hr hi' with ⟨k1, k2, k3⟩ | ⟨k1, k2, _⟩
      · exact ⟨by rw [h1, k1], by rw [h2, k2]⟩
      · rw [h3, k2] at e
        exact absurd e.symm (hf q' i' k1)
    · rcases ra_app S hr hi' with ⟨k1, k2, k3⟩ | ⟨k1, k2, _⟩
      · rw [h2, k3] at e
        exact absurd e (hf q i h1)
      · rw [h2, k2] at e
        exact h.2.2 q i q' i' h1 k1 e
theorem Rw.take {x : fy} {S : fm} {r j : Nat} (h : Rw x S) (hj : j < mU S 13 r 1) : Rw x (e_take S r j) ∧ ∀ q i, i < mU (e_take S r j) 13 q 1 → ra (e_take S r j) q i ≠ ra S r j := by
  have hx : ∀ q i, i < mU (e_take S r j) 13 q 1 → ∃ i', i' < mU S 13 q 1 ∧ (q = r → i' ≠ j) ∧ ra (e_take S r j) q i = ra S q i' ∧ mA (e_take S r j) 14 q i = mA S 14 q i' ∧ (q = r → i' = if j ≤ i then i + 1 else i) ∧ (q ≠ r → i' = i) := by
    intro q i hi
    have e := ra_take S hi
    rw [mU_take] at hi
    by_cases hq : q = r
    · rw [if_pos hq] at hi e
      refine ⟨if j ≤ i then i + 1 else i, ?_, ?_, ?_, ?_, fun _ => rfl, fun z => absurd hq z⟩
      · rw [hq]; split <;> omega
      · intro _; split <;> omega
      · rw [e, hq]
      · rw [mA_take, if_pos hq, vu_n _ _ (by omega), hq]
        unfold tkA
        by_cases h1 : j ≤ i
        · rw [if_pos ⟨h1, hi⟩, if_pos h1]
        · rw [if_neg (fun z => h1 z.1), if_neg h1]
    · rw [if_neg hq] at hi e
      refine ⟨i, hi, fun z => absurd z hq, e, ?_, fun z => absurd z hq, fun _ => rfl⟩
      rw [mA_take, if_neg hq]
  refine ⟨⟨fun q => ?_, fun q i hi => ?_, fun q i q' i' hi hi' e => ?_⟩, fun q i hi e => ?_⟩
  · rw [mU_take]
    split
    · have := h.1 r; omega
    · exact h.1 q
  · obtain ⟨i2, a1, a2, a3, a4, _⟩ := hx q i hi
    obtain ⟨b, b1, b2⟩ := h.2.1 q i2 a1
    exact ⟨b, by rw [a4]; exact b1, b2⟩
  · obtain ⟨i2, a1, a2, a3, a4, a5, a6⟩ := hx q i hi
    obtain ⟨k2, c1, c2, c3, c4, c5, c6⟩ := hx q' i' hi'
    rw [a3, c3] at e
    obtain ⟨rfl, e2⟩ := h.2.2 q i2 q' k2 a1 c1 e
    refine ⟨rfl, ?_⟩
    by_cases hq : q = r
    · have u := a5 hq
      have v := c5 hq
      rw [e2] at u
      rw [u] at v
      by_cases z1 : j ≤ i <;> by_cases z2 : j ≤ i' <;> simp only [z1, z2, if_true, if_false] at v <;> omega
    · rw [← a6 hq, ← c6 hq]; exact e2
  · obtain ⟨i2, a1, a2, a3, a4, _⟩ := hx q i hi
    rw [a3] at e
    obtain ⟨e1, e2⟩ := h.2.2 q i2 r j a1 hj e
    exact a2 e1 e2
theorem Rw.lose {x : fy} {S : fm} {r : Nat} (h : Rw x S) : Rw x (e_lose S r) := by
  have eU : ∀ q, mU (e_lose S r) 13 q 1 = if q = r then 0 else mU S 13 q 1 := by
    intro q
    unfold e_lose
    rw [mU_sU]
    by_cases hq : q = r
    · rw [if_pos ⟨rfl, hq, rfl⟩, if_pos hq]
    · rw [if_neg (fun z => hq z.2.1), if_neg hq]; rfl
  have eA : ∀ q, q ≠ r → mA (e_lose S r) 14 q = mA S 14 q := by
    intro q hq
    unfold e_lose
    rw [mA_sU]; exact u2_n (fun z => hq z.2)
  have hx : ∀ q i, i < mU (e_lose S r) 13 q 1 → q ≠ r ∧ i < mU S 13 q 1 := by
    intro q i hi
    rw [eU] at hi
    by_cases hq : q = r
    · rw [if_pos hq] at hi; omega
    · rw [if_neg hq] at hi; exact ⟨hq, hi⟩
  refine ⟨fun q => ?_, fun q i hi => ?_, fun q i q' i' hi hi' e => ?_⟩
  · rw [eU]
    split
    · omega
    · exact h.1 q
  · obtain ⟨a1, a2⟩ := hx q i hi
    obtain ⟨b, b1, b2⟩ := h.2.1 q i a2
    exact ⟨b, by rw [eA q a1]; exact b1, b2⟩
  · obtain ⟨a1, a2⟩ := hx q i hi
    obtain ⟨c1, c2⟩ := hx q' i' hi'
    unfold ra at e
    rw [eA q a1, eA q' c1] at e
    exact h.2.2 q i q' i' a2 c2 e
-- a new request
def nlt (x : fy) (S : fm) (c s : Nat) : LT := (mI S 7 c 5, mI S 7 c 6, mI S 7 c 9, if mI S 7 c 5 = 2 then enc x (mJ S 7 c 10) s else 0, 0, false)
theorem lt_req_old (x : fy) (S : fm) (c s : Nat) {b : Nat} (h : b ≠ mZ S) : lt (e_req x S c s) b = lt S b := by
  have hn : lt (e_initL (e_newL S) (mZ S) (mI S 7 c 5) (mI S 7 c 6) (mI S 7 c 9)) b = lt S b := by
    unfold lt e_initL e_newL
    simp only [mI_sI, mJ_sI, mB_sI, mI_rZ, mI_rB, mI_rJ, mJ_rZ, mJ_rB, mB_rZ, if_neg (show ¬ (15 = 15 ∧ b = mZ S ∧ (0:Nat) = 0) from fun z => h z.2.1)]
    simp only [mI_rI, mJ_rJ, mB_rB, mJ_rI, mB_rJ, mB_rI, h, false_and, and_false, if_false]
  unfold e_req
  split
  · rw [← hn]
    unfold lt
    simp only [mI_sJ, mB_sJ, mJ_sJ, h, false_and, and_false, if_false]
  · exact hn
theorem lt_req_new (x : fy) (S : fm) (c s : Nat) : lt (e_req x S c s) (mZ S) = nlt x S c s := by
  have hn : lt (e_initL (e_newL S) (mZ S) (mI S 7 c 5) (mI S 7 c 6) (mI S 7 c 9)) (mZ S) = (mI S 7 c 5, mI S 7 c 6, mI S 7 c 9, 0, 0, false) := by
    unfold lt e_initL e_newL
    simp only [mI_sI, mJ_sI, mB_sI, mI_rZ, mI_rB, mI_rJ, mJ_rZ, mJ_rB, mB_rZ, mI_rI, mJ_rJ, mB_rB, mJ_rI, mB_rJ, mB_rI]
    simp
  unfold e_req nlt
  split
  · have hn1 := congrArg (fun z : LT => (z.1, z.2.1, z.2.2.1, z.2.2.2.2.1, z.2.2.2.2.2)) hn
    unfold lt at hn1 ⊢
    simp only [mI_sJ, mB_sJ, mJ_sJ] at hn1 ⊢
    simp only [Prod.mk.injEq] at hn1 ⊢
    simp [hn1]
  · exact hn
theorem mZ_req (x : fy) (S : fm) (c s : Nat) : mZ (e_req x S c s) = mZ S + 1 := by unfold e_req; split <;> rfl
/-- the letters of a phase that begins -/
theorem bgs_rows {x : fy} {S : fm} {c : Nat} (hb : xb x ≤ mZ S) (hxl : ∀ a, xb x ≤ a → xl x a = none) (h : Rw x S) (hr : ∀ s, s < xN x → mB S 10 s 5 = false → mU S 13 (c * xN x + s) 1 < 7) :
    ∀ n, n ≤ xN x → Rw x (e_bgs x S c n) ∧ mZ S ≤ mZ (e_bgs x S c n) ∧ (∀ s, s < xN x → cq (e_bgs x S c n) (c * xN x + s) = if s < n ∧ mB S 10 s 5 = false then cq S (c * xN x + s) ++ [nlt x S c s] else cq S (c * xN x + s)) ∧ (∀ r, (∀ s, s < xN x → r ≠ c * xN x + s) → cq (e_bgs x S c n) r = cq S r) := by
  intro n
  induction n with
  | zero => intro _; exact ⟨h, Nat.le_refl _, fun s hs => by rw [if_neg (fun z => by omega)]; rfl, fun _ _ => rfl⟩
  | succ n ih =>
    intro hn
    obtain ⟨i1, i2, i3, i4⟩ := ih (by omega)
    have s7 := sk_bgs x S c (k := 7) ⟨by omega, by omega, by omega⟩ n
    have s10 := sk_bgs x S c (k := 10) ⟨by omega, by omega, by omega⟩ n
    show Rw x (e_bg1 x (e_bgs x S c n) c n) ∧ mZ S ≤ mZ (e_bg1 x (e_bgs x S c n) c n) ∧ (∀ s, s < xN x → cq (e_bg1 x (e_bgs x S c n) c n) (c * xN x + s) = _) ∧ (∀ r, (∀ s, s < xN x → r ≠ c * xN x + s) → cq (e_bg1 x (e_bgs x S c n) c n) r = cq S r)
    have hnl : nlt x (e_bgs x S c n) c n = nlt x S c n := by unfold nlt; rw [s7.1, s7.2.1]
    have h10 : mB (e_bgs x S c n) 10 n 5 = mB S 10 n 5 := by rw [s10.2.2.1]
    have hlen : mU (e_bgs x S c n) 13 (c * xN x + n) 1 = mU S 13 (c * xN x + n) 1 := by
      rw [← cq_len, ← cq_len, i3 n (by omega), if_neg (fun z => by omega)]
    generalize e_bgs x S c n = T at i1 i2 i3 i4 hnl h10 hlen ⊢
    unfold e_bg1
    by_cases hd : mB T 10 n 5 = true
    · rw [if_pos hd]
      refine ⟨i1, i2, fun s hs => ?_, i4⟩
      rw [i3 s hs]
      by_cases hsn : s = n
      · rw [if_neg (fun z => by omega), if_neg (fun z => by rw [hsn, ← h10, hd] at z; cases z.2)]
      · by_cases hb2 : mB S 10 s 5 = false
        · by_cases hlt : s < n
          · rw [if_pos ⟨hlt, hb2⟩, if_pos ⟨by omega, hb2⟩]
          · rw [if_neg (fun z => hlt z.1), if_neg (fun z => by omega)]
        · rw [if_neg (fun z => hb2 z.2), if_neg (fun z => hb2 z.2)]
    · rw [if_neg hd]
      have hd2 : mB S 10 n 5 = false := by rw [← h10]; exact Bool.not_eq_true _ ▸ hd
      have q13 := sk_req x T c n (k := 13) (by omega)
      have q14 := sk_req x T c n (k := 14) (by omega)
      have hR : Rw x (e_req x T c n) := i1.sk q13 q14 (by rw [mZ_req]; omega)
      have eU : ∀ r, mU (e_req x T c n) 13 r 1 = mU T 13 r 1 := fun r => by rw [q13.2.2.2.2]
      have eR : ∀ r j, ra (e_req x T c n) r j = ra T r j := fun r j => by unfold ra; rw [q14.2.2.2.1]
      have hcq : ∀ r, cq (e_req x T c n) r = cq T r := fun r => cq_off q13 q14 (fun r j hj => lt_req_old x T c n (by have := i1.lt hj; omega)) r
      have hr7 : mU (e_req x T c n) 13 (c * xN x + n) 1 < 7 := by rw [eU, hlen]; exact hr n (by omega) hd2
      have hfv : fvL x (e_req x T c n) (mZ T) := ⟨hxl _ (by omega), by omega, by rw [mZ_req]; omega⟩
      refine ⟨hR.app hr7 hfv (fun r' j' hj' => ?_), by rw [mZ_app, mZ_req]; omega, fun s hs => ?_, fun r hr2 => ?_⟩
      · rw [eU] at hj'
        rw [eR]
        have := i1.lt hj'
        omega
      · rw [cq_app _ _ _ _ hr7, lt_req_new, hnl, hcq, hcq]
        by_cases hsn : s = n
        · subst hsn
          rw [if_pos rfl, if_pos ⟨by omega, hd2⟩, i3 s hs, if_neg (fun z => by omega)]
        · rw [if_neg (fun z => hsn (by omega)), i3 s hs]
          by_cases hb2 : mB S 10 s 5 = false
          · by_cases hlt : s < n
            · rw [if_pos ⟨hlt, hb2⟩, if_pos ⟨by omega, hb2⟩]
            · rw [if_neg (fun z => hlt z.1), if_neg (fun z => by omega)]
          · rw [if_neg (fun z => hb2 z.2), if_neg (fun z => hb2 z.2)]
      · rw [cq_app _ _ _ _ hr7, if_neg (hr2 n (by omega)), hcq]
        exact i4 r hr2
