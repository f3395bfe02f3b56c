-- the rows of letters as lists
abbrev LT : Type := Int32 × Int32 × Int32 × Int64 × Int32 × Bool
def lt (C : fm) (a : Nat) : LT := (mI C 15 a 0, mI C 15 a 1, mI C 15 a 2, mJ C 15 a 3, mI C 15 a 4, mB C 15 a 5)
def ra (C : fm) (r j : Nat) : Nat := (mA C 14 r j).getD 0
def cq (C : fm) (r : Nat) : List LT := mk (fun j => lt C (ra C r j)) (mU C 13 r 1)
theorem cq_len (C : fm) (r : Nat) : (cq C r).length = mU C 13 r 1 := mk_len _ _
theorem cq_get (C : fm) (r j : Nat) : (cq C r)[j]? = if j < mU C 13 r 1 then some (lt C (ra C r j)) else none := mk_get _ _ _
/-- kinds 13, 14, 15 as they were: the rows as they were -/
theorem cq_sk {C T : fm} (h1 : sk C T 13) (h2 : sk C T 14) (h3 : sk C T 15) (r : Nat) : cq T r = cq C r := by
  unfold cq ra lt
  rw [h1.2.2.2.2, h2.2.2.2.1, h3.1, h3.2.1, h3.2.2.1]
/-- no letter lies in two places -/
def inj (C : fm) : Prop := ∀ r j r' j', j < mU C 13 r 1 → j' < mU C 13 r' 1 → ra C r j = ra C r' j' → r = r' ∧ j = j'
/-- letters off the rows may change -/
theorem cq_off {C T : fm} (h1 : sk C T 13) (h2 : sk C T 14) (h3 : ∀ r j, j < mU C 13 r 1 → lt T (ra C r j) = lt C (ra C r j)) (r : Nat) : cq T r = cq C r := by
  unfold cq
  rw [h1.2.2.2.2]
  refine mk_congr (fun j hj => ?_)
  rw [show ra T r j = ra C r j by unfold ra; rw [h2.2.2.2.1]]
  exact h3 r j hj
theorem mU_app (S : fm) (r a q : Nat) (h : mU S 13 r 1 < 7) : mU (e_app S r a) 13 q 1 = if q = r then mU S 13 r 1 + 1 else mU S 13 q 1 := by
  unfold e_app
  rw [if_pos h, mU_sU]
  by_cases hq : q = r
  · rw [if_pos ⟨rfl, hq, rfl⟩, if_pos hq]
  · rw [if_neg (fun z => hq z.2.1), if_neg hq]; rfl
theorem mA_app (S : fm) (r a q : Nat) (h : mU S 13 r 1 < 7) : mA (e_app S r a) 14 q = if q = r then va_up (mA S 14 r) (mU S 13 r 1) (some a) else mA S 14 q := by
  unfold e_app
  rw [if_pos h, mA_sU]
  show (if 14 = 14 ∧ q = r then _ else _) = _
  by_cases hq : q = r
  · rw [if_pos ⟨rfl, hq⟩, if_pos hq]
  · rw [if_neg (fun z => hq z.2), if_neg hq]; rfl
theorem lt_app (S : fm) (r a b : Nat) : lt (e_app S r a) b = lt S b := by
  have h := sk_app S r a (k := 15) ⟨by omega, by omega⟩
  unfold lt
  rw [h.1, h.2.1, h.2.2.1]
theorem cq_app (S : fm) (r a q : Nat) (h : mU S 13 r 1 < 7) : cq (e_app S r a) q = if q = r then cq S r ++ [lt S a] else cq S q := by
  by_cases hq : q = r
  · subst hq
    rw [if_pos rfl]
    unfold cq
    rw [mU_app S q a q h, if_pos rfl]
    rw [← mk_snoc (fun j => lt S (ra S q j)) (mU S 13 q 1) (lt S a)]
    refine mk_congr (fun j hj => ?_)
    rw [lt_app]
    unfold ra
    rw [mA_app S q a q h, if_pos rfl]
    by_cases hj2 : j = mU S 13 q 1
    · rw [hj2, vu_s, vu_s]; rfl
    · rw [vu_n _ _ hj2, vu_n _ _ hj2]
  · rw [if_neg hq]
    unfold cq
    rw [mU_app S r a q h, if_neg hq]
    refine mk_congr (fun j hj => ?_)
    rw [lt_app]
    unfold ra
    rw [mA_app S r a q h, if_neg hq]
theorem mU_take (S : fm) (r j q : Nat) : mU (e_take S r j) 13 q 1 = if q = r then mU S 13 r 1 - 1 else mU S 13 q 1 := by
  unfold e_take
  rw [mU_rA, mU_sU]
  by_cases hq : q = r
  · rw [if_pos ⟨rfl, hq, rfl⟩, if_pos hq]
  · rw [if_neg (fun z => hq z.2.1), if_neg hq]
theorem mA_take (S : fm) (r j q : Nat) : mA (e_take S r j) 14 q = if q = r then va_up (tkA (mA S 14 r) j (mU S 13 r 1 - 1)) (mU S 13 r 1 - 1) none else mA S 14 q := by
  unfold e_take
  show (if 14 = 14 ∧ q = r then _ else _) = _
  by_cases hq : q = r
  · rw [if_pos ⟨rfl, hq⟩, if_pos hq]
  · rw [if_neg (fun z => hq z.2), if_neg hq]; rfl
theorem lt_take (S : fm) (r j b : Nat) : lt (e_take S r j) b = lt S b := by
  have h := sk_take S r j (k := 15) ⟨by omega, by omega⟩
  unfold lt
  rw [h.1, h.2.1, h.2.2.1]
theorem ra_take (S : fm) {r j q i : Nat} (hi : i < mU (e_take S r j) 13 q 1) : ra (e_take S r j) q i = if q = r then ra S r (if j ≤ i then i + 1 else i) else ra S q i := by
  rw [mU_take] at hi
  unfold ra
  rw [mA_take]
  by_cases hq : q = r
  · rw [if_pos hq] at hi
    rw [if_pos hq, if_pos hq, vu_n _ _ (by omega)]
    unfold tkA
    by_cases h : j ≤ i
    · rw [if_pos ⟨h, hi⟩, if_pos h]
    · rw [if_neg (fun z => h z.1), if_neg h]
  · rw [if_neg hq, if_neg hq]
theorem cq_take (S : fm) {r j : Nat} (q : Nat) (h : j < mU S 13 r 1) : cq (e_take S r j) q = if q = r then (cq S r).eraseIdx j else cq S q := by
  by_cases hq : q = r
  · subst hq
    rw [if_pos rfl]
    unfold cq
    rw [← mk_erase _ h, mU_take, if_pos rfl]
    refine mk_congr (fun i hi => ?_)
    rw [lt_take, ra_take S (by rw [mU_take, if_pos rfl]; exact hi), if_pos rfl]
    unfold tkA
    by_cases hj : j ≤ i
    · rw [if_pos hj, if_pos ⟨hj, hi⟩]
    · rw [if_neg hj, if_neg (fun z => hj z.1)]
  · rw [if_neg hq]
    unfold cq
    rw [mU_take, if_neg hq]
    refine mk_congr (fun i hi => ?_)
    rw [lt_take, ra_take S (by rw [mU_take, if_neg hq]; exact hi), if_neg hq]
theorem cq_lose (S : fm) (r q : Nat) : cq (e_lose S r) q = if q = r then [] else cq S q := by
  have h15 := sk_lose S r (k := 15) ⟨by omega, by omega⟩
  by_cases hq : q = r
  · subst hq
    rw [if_pos rfl]
    unfold cq
    rw [show mU (e_lose S q) 13 q 1 = 0 by unfold e_lose; rw [mU_same]]
    rfl
  · rw [if_neg hq]
    unfold cq
    rw [show mU (e_lose S r) 13 q 1 = mU S 13 q 1 by unfold e_lose; rw [mU_sU, if_neg (fun z => hq z.2.1)]; rfl]
    refine mk_congr (fun i hi => ?_)
    rw [show lt (e_lose S r) = lt S by funext b; unfold lt; rw [h15.1, h15.2.1, h15.2.2.1]]
    congr 1
    unfold ra
    rw [show mA (e_lose S r) 14 q = mA S 14 q by unfold e_lose; rw [mA_sU]; exact u2_n (fun z => hq z.2)]
/-- the reference's letters as a list -/
abbrev ME : Type := Bool × Int32 × Int32 × Int32 × Int32 × Int32 × Int64 × Bool
def me (M : fm) (i : Nat) : ME := (mB M 39 0 i, mI M 41 0 i, mI M 42 0 i, mI M 44 0 i, mI M 43 0 i, mI M 45 0 i, mJ M 46 0 i, mB M 40 0 i)
def ml (M : fm) : List ME := mk (me M) (mL M)
def mt (b : Bool) (c s : Nat) (e : ME) : Bool := (e.1 == b) && (decide (e.2.1 = nI c) && decide (e.2.2.1 = nI s))
def mq (M : fm) (b : Bool) (c s : Nat) : List ME := (ml M).filter (mt b c s)
theorem n_match_mt (M : fm) (b : Bool) (c s i : Nat) : n_match M b c s i = mt b c s (me M i) := rfl
theorem n_cnt_mt (M : fm) (b : Bool) (c s : Nat) : ∀ n, n_cnt M b c s n = ((mk (me M) n).filter (mt b c s)).length := by
  intro n
  induction n with
  | zero => rfl
  | succ n ih =>
    rw [mk_succ, List.filter_append, List.length_append, ← ih]
    show (if _ then _ else _) = _
    rw [n_match_mt]
    by_cases h : mt b c s (me M n) = true
    · rw [if_pos h]; simp [h]
    · rw [if_neg h]; simp [h]
theorem mq_cnt (M : fm) (b : Bool) (c s : Nat) : n_cnt M b c s (mL M) = (mq M b c s).length := n_cnt_mt M b c s _
/-- the j-th of a pair is found, or there is none -/
theorem mq_seek (M : fm) (b : Bool) (c s j : Nat) (hj : j < (mq M b c s).length) (hL : mL M ≤ 256) : ∃ i, n_seek M b c s (nI j) = some i ∧ i < mL M ∧ (mq M b c s)[j]? = some (me M i) ∧ mt b c s (me M i) = true ∧ (((ml M).eraseIdx i).filter (mt b c s)) = (mq M b c s).eraseIdx j := by
  obtain ⟨i, v, h1, h2, h3⟩ := fl_find (mt b c s) (ml M) j hj
  have hi : i < mL M := by
    unfold ml at h1
    rw [mk_get] at h1
    by_cases h : i < mL M
    · exact h
    · rw [if_neg h] at h1; cases h1
  have hv : v = me M i := by
    unfold ml at h1
    rw [mk_get, if_pos hi] at h1
    exact (Option.some.inj h1).symm
  subst hv
  have h4 : n_cnt M b c s i = j := by
    rw [n_cnt_mt, ← mk_take (me M) (Nat.le_of_lt hi)]
    exact h3
  have h5 := fl_yes (mt b c s) (ml M) i _ h1 h2
  rw [h3] at h5
  refine ⟨i, ?_, hi, h5.2, h2, h5.1⟩
  unfold n_seek
  refine fr_some hi ?_ (fun k hk => ?_)
  · rw [n_match_mt, h2, h4]; simp
  · rw [n_match_mt]
    by_cases hm : mt b c s (me M k) = true
    · rw [hm, Bool.true_and]
      apply decide_eq_false
      intro he
      have hb1 := n_cnt_le M b c s k
      have hb2 := n_cnt_le M b c s i
      have he2 := (nI_eq (by omega) (by omega)).mp he
      have h6 : n_cnt M b c s (k + 1) = n_cnt M b c s k + 1 := n_cnt_t hm
      have h7 : ∀ d, n_cnt M b c s (k + 1) ≤ n_cnt M b c s (k + 1 + d) := by
        intro d
        induction d with
        | zero => exact Nat.le_refl _
        | succ d ihd =>
          refine Nat.le_trans ihd ?_
          rw [show k + 1 + (d + 1) = (k + 1 + d) + 1 by omega, show n_cnt M b c s (k + 1 + d + 1) = if n_match M b c s (k + 1 + d) = true then n_cnt M b c s (k + 1 + d) + 1 else n_cnt M b c s (k + 1 + d) from rfl]
          split <;> omega
      have h8 := h7 (i - (k + 1))
      rw [show k + 1 + (i - (k + 1)) = i by omega] at h8
      omega
    · rw [Bool.not_eq_true] at hm
      rw [hm]; rfl
theorem mq_none (M : fm) (b : Bool) (c s : Nat) (j : Int32) (hL : mL M ≤ 256) (hj : j < 0 ∨ nI (mq M b c s).length ≤ j) : n_seek M b c s j = none := by
  unfold n_seek
  refine fr_none (fun k hk => ?_)
  rw [n_match_mt]
  by_cases hm : mt b c s (me M k) = true
  · rw [hm, Bool.true_and]
    apply decide_eq_false
    intro he
    have hb1 := n_cnt_le M b c s k
    have h1 : ((ml M).take k).filter (mt b c s) = (mk (me M) k).filter (mt b c s) := by unfold ml; rw [mk_take _ (Nat.le_of_lt hk)]
    have h2 := (fl_yes (mt b c s) (ml M) k (me M k) (by unfold ml; rw [mk_get, if_pos hk]) hm).2
    rw [h1, ← n_cnt_mt] at h2
    have h3 := (List.getElem?_eq_some_iff.mp h2).1
    have h3 : n_cnt M b c s k < (mq M b c s).length := h3
    have h4 : (mq M b c s).length ≤ mL M := by
      rw [← mq_cnt]; exact n_cnt_le _ _ _ _ _
    rcases hj with hj | hj
    · rw [← he] at hj
      exact nI_pos (by omega) hj
    · rw [← he] at hj
      have := (nI_leI (by omega) (by omega)).mp hj
      omega
  · rw [Bool.not_eq_true] at hm
    rw [hm]; rfl
theorem ml_send (M : fm) (b : Bool) (c s : Nat) (p w : Int32) : ml (n_send M b c s p w) = ml M ++ [(b, nI c, nI s, p, w, mI M 28 0 c, mJ M 30 0 c, false)] := by
  unfold ml
  rw [n_send_L, ← mk_snoc]
  refine mk_congr (fun j hj => ?_)
  unfold me
  show (va_up (mB M 39 0) (mL M) b j, va_up (mI M 41 0) (mL M) (nI c) j, va_up (mI M 42 0) (mL M) (nI s) j, va_up (mI M 44 0) (mL M) p j, va_up (mI M 43 0) (mL M) w j, va_up (mI M 45 0) (mL M) (mI M 28 0 c) j, va_up (mJ M 46 0) (mL M) (mJ M 30 0 c) j, va_up (mB M 40 0) (mL M) false j) = _
  by_cases h : j = mL M
  · subst h
    simp only [vu_s]
  · simp only [vu_n _ _ h]
theorem ml_lose (M : fm) {i : Nat} (hi : i < mL M) : ml (n_lose M i) = (ml M).eraseIdx i := by
  unfold ml
  rw [← mk_erase _ hi]
  show mk _ (mL M - 1) = _
  refine mk_congr (fun j hj => ?_)
  show (tkA (mB M 39 0) i (mL M - 1) j, tkA (mI M 41 0) i (mL M - 1) j, tkA (mI M 42 0) i (mL M - 1) j, tkA (mI M 44 0) i (mL M - 1) j, tkA (mI M 43 0) i (mL M - 1) j, tkA (mI M 45 0) i (mL M - 1) j, tkA (mJ M 46 0) i (mL M - 1) j, tkA (mB M 40 0) i (mL M - 1) j) = tkA (me M) i (mL M - 1) j
  unfold tkA
  by_cases h : i ≤ j ∧ j < mL M - 1
  · simp only [if_pos h]; rfl
  · simp only [if_neg h]; rfl
/-- lists that go together -/
def rel {α β : Type} (R : α → β → Prop) (l : List α) (m : List β) : Prop := l.length = m.length ∧ ∀ (j : Nat) (a : α) (b : β), l[j]? = some a → m[j]? = some b → R a b
theorem rel_nil {α β : Type} {R : α → β → Prop} : rel R [] [] := ⟨rfl, fun j a b h => by simp at h⟩
theorem rel_snoc {α β : Type} {R : α → β → Prop} {l : List α} {m : List β} {a : α} {b : β} (h : rel R l m) (hab : R a b) : rel R (l ++ [a]) (m ++ [b]) := by
  refine ⟨by simp [h.1], fun j a' b' h1 h2 => ?_⟩
  by_cases hj : j < l.length
  · rw [List.getElem?_append_left hj] at h1
    rw [List.getElem?_append_left (by rw [← h.1]; exact hj)] at h2
    exact h.2 j a' b' h1 h2
  · rw [List.getElem?_append_right (by omega)] at h1
    rw [List.getElem?_append_right (by rw [← h.1]; omega)] at h2
    have h3 : j - l.length < 1 := (List.getElem?_eq_some_iff.mp h1).1
    have h4 : j - m.length = 0 := by rw [← h.1]; omega
    rw [show j - l.length = 0 by omega] at h1
    rw [h4] at h2
    cases h1; cases h2
    exact hab
theorem rel_erase {α β : Type} {R : α → β → Prop} {l : List α} {m : List β} (h : rel R l m) (i : Nat) : rel R (l.eraseIdx i) (m.eraseIdx i) := by
  refine ⟨by rw [List.length_eraseIdx, List.length_eraseIdx, h.1], fun j a b h1 h2 => ?_⟩
  rw [List.getElem?_eraseIdx] at h1 h2
  by_cases hj : j < i
  · rw [if_pos hj] at h1 h2; exact h.2 j a b h1 h2
  · rw [if_neg hj] at h1 h2; exact h.2 (j + 1) a b h1 h2
theorem rel_mono {α β : Type} {R R' : α → β → Prop} {l : List α} {m : List β} (h : rel R l m) (hR : ∀ a b, a ∈ l → b ∈ m → R a b → R' a b) : rel R' l m :=
  ⟨h.1, fun j a b h1 h2 => hR a b (List.mem_of_getElem? h1) (List.mem_of_getElem? h2) (h.2 j a b h1 h2)⟩
