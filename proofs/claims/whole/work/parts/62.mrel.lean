-- the reference's memory goes with the protocol's state
def Mc (x : fy) (M : fm) (A : AS) (c : Nat) : Prop :=
  mI M 23 0 c = (if kcr (acl A c) = true then 6 else kph (acl A c)) ∧ mI M 24 0 c = nI (kag (acl A c)) ∧ mI M 25 0 c = nI (cnt (khs (acl A c)) (xN x)) ∧ mI M 26 0 c = nI (ksr (acl A c)).length ∧ mI M 27 0 c = kbe (acl A c) ∧ mI M 28 0 c = ktg (acl A c) ∧ mI M 29 0 c = kfi (acl A c) ∧ mJ M 30 0 c = kbl (acl A c) ∧ mJ M 32 0 c = kre (acl A c) ∧ (kph (acl A c) = 5 → ksr (acl A c) ≠ [] → mJ M 31 0 c = abk A (ktg (acl A c)))
def Ms (M : fm) (A : AS) (s : Nat) : Prop := mB M 33 0 s = (asv A s).1 ∧ mI M 34 0 s = (asv A s).2.1 ∧ (mk (fun q => mI M 36 0 (5 * s + q)) (mU M 35 0 s)).Perm (asv A s).2.2 ∧ ∀ q, q < mU M 35 0 s → mJ M 37 0 (5 * s + q) = abk A (mI M 36 0 (5 * s + q))
def LMq (A : AS) (e : ME) (l : LA) : Prop := e.2.2.2.1 = l.1 ∧ e.2.2.2.2.1 = nI l.2.1 ∧ e.2.2.2.2.2.1 = l.2.2.1 ∧ (l.1 = 2 → e.2.2.2.2.2.2.1 = abk A l.2.2.1)
def LMr (A : AS) (e : ME) (l : LA) : Prop := e.2.2.2.1 = l.1 ∧ e.2.2.2.2.1 = nI l.2.1 ∧ e.2.2.2.2.2.1 = l.2.2.2.1 ∧ e.2.2.2.2.2.2.2 = l.2.2.2.2 ∧ (l.2.2.2.2 = true → e.2.2.2.2.2.2.1 = abk A l.2.2.1)
def Mq (M : fm) (A : AS) (c s : Nat) : Prop := rel (LMq A) (mq M false c s) (aq A false c s) ∧ rel (LMr A) (mq M true c s) (aq A true c s)
def okE (x : fy) (e : ME) : Prop := ∃ c s, c < 5 ∧ s < xN x ∧ e.2.1 = nI c ∧ e.2.2.1 = nI s
def MRel (x : fy) (M : fm) (A : AS) : Prop := (∀ c, c < 5 → Mc x M A c) ∧ (∀ s, s < xN x → Ms M A s) ∧ (∀ c s, c < 5 → s < xN x → Mq M A c s) ∧ ∀ e, e ∈ ml M → okE x e
theorem ml_sk {M T : fm} (h : ∀ k, k = 16 ∨ (39 ≤ k ∧ k ≤ 46) → sk M T k) : ml T = ml M := by
  unfold ml me mL
  rw [(h 16 (by omega)).2.2.2.2, (h 39 (by omega)).2.2.1, (h 41 (by omega)).1, (h 42 (by omega)).1, (h 44 (by omega)).1, (h 43 (by omega)).1, (h 45 (by omega)).1, (h 46 (by omega)).2.1, (h 40 (by omega)).2.2.1]
theorem Mc.mono {x : fy} {M T : fm} {A A' : AS} {c : Nat} (h : Mc x M A c) (hi : ∀ k, 23 ≤ k → k ≤ 32 → mI T k 0 c = mI M k 0 c ∧ mJ T k 0 c = mJ M k 0 c) (hc : acl A' c = acl A c) (hb : abk A' (ktg (acl A c)) = abk A (ktg (acl A c))) : Mc x T A' c := by
  unfold Mc
  rw [hc, (hi 23 (by omega) (by omega)).1, (hi 24 (by omega) (by omega)).1, (hi 25 (by omega) (by omega)).1, (hi 26 (by omega) (by omega)).1, (hi 27 (by omega) (by omega)).1, (hi 28 (by omega) (by omega)).1, (hi 29 (by omega) (by omega)).1, (hi 30 (by omega) (by omega)).2, (hi 31 (by omega) (by omega)).2, (hi 32 (by omega) (by omega)).2, hb]
  exact h
theorem Ms.mono {M T : fm} {A A' : AS} {s : Nat} (h : Ms M A s) (hk : ∀ k, 33 ≤ k → k ≤ 37 → sk M T k) (hs : asv A' s = asv A s) (hb : ∀ t, t ∈ (asv A s).2.2 → abk A' t = abk A t) : Ms T A' s := by
  obtain ⟨h1, h2, h3, h4⟩ := h
  unfold Ms
  rw [hs, (hk 33 (by omega) (by omega)).2.2.1, (hk 34 (by omega) (by omega)).1, (hk 35 (by omega) (by omega)).2.2.2.2, (hk 36 (by omega) (by omega)).1, (hk 37 (by omega) (by omega)).2.1]
  refine ⟨h1, h2, h3, fun q hq => ?_⟩
  rw [hb _ (h3.mem_iff.mp (mk_mem.mpr ⟨q, hq, rfl⟩))]
  exact h4 q hq
theorem Mq.mono {M T : fm} {A A' : AS} {c s : Nat} (h : Mq M A c s) (hr : ∀ b, mq T b c s = mq M b c s) (hq : ∀ b, aq A' b c s = aq A b c s) (hb : ∀ b l, l ∈ aq A b c s → abk A' l.2.2.1 = abk A l.2.2.1) : Mq T A' c s := by
  unfold Mq
  rw [hr, hr, hq, hq]
  refine ⟨rel_mono h.1 (fun a l _ hl q => ?_), rel_mono h.2 (fun a l _ hl q => ?_)⟩
  · unfold LMq
    rw [hb false l hl]
    exact q
  · unfold LMr
    rw [hb true l hl]
    exact q
/-- only one client changes -/
theorem MRel.cl {x : fy} {M T : fm} {A A' : AS} {c k : Nat} (h : MRel x M A) (hI : Inv x k A) (hk : ∀ k, k < 23 ∨ 32 < k → sk M T k) (hi : ∀ k c', c' ≠ c → mI T k 0 c' = mI M k 0 c' ∧ mJ T k 0 c' = mJ M k 0 c') (ho : ∀ c', c' ≠ c → acl A' c' = acl A c') (hs : asv A' = asv A) (hq : aq A' = aq A) (hb : ∀ t, okT A k t → abk A' t = abk A t) (hc : Mc x T A' c) : MRel x T A' := by
  obtain ⟨h1, h2, h3, h4⟩ := h
  have hml : ml T = ml M := ml_sk (fun k hk2 => hk k (by omega))
  refine ⟨fun c' hc' => ?_, fun s hs' => ?_, fun c' s hc' hs' => ?_, by rw [hml]; exact h4⟩
  · by_cases e : c' = c
    · rw [e]; exact hc
    · exact (h1 c' hc').mono (fun k _ _ => hi k c' e) (ho c' e) (hb _ (hI.2.1 c' hc').2.2.1)
  · exact (h2 s hs').mono (fun k _ _ => hk k (by omega)) (by rw [hs]) (fun t ht => hb t ((hI.2.2.1 s hs').2.2.2.1 t ht))
  · exact (h3 c' s hc' hs').mono (fun b => by unfold mq; rw [hml]) (fun b => by rw [hq]) (fun b l hl => hb _ ((hI.2.2.2 c' s hc' hs').1 b l hl).2.2.1)
theorem mt_iff {b b' : Bool} {c s c' s' : Nat} (hc : c < 5) (hs : s < 7) (hc' : c' < 5) (hs' : s' < 7) (p w t : Int32) (v : Int64) (f : Bool) : mt b' c' s' (b, nI c, nI s, p, w, t, v, f) = decide (b = b' ∧ c = c' ∧ s = s') := by
  unfold mt
  have e1 : (nI c = nI c') ↔ c = c' := nI_eq (by omega) (by omega)
  have e2 : (nI s = nI s') ↔ s = s' := nI_eq (by omega) (by omega)
  simp only [e1, e2]
  cases b <;> cases b' <;> simp [Bool.decide_and]
theorem mq_send {M : fm} {b b' : Bool} {c s c' s' : Nat} {p w : Int32} (hc : c < 5) (hs : s < 7) (hc' : c' < 5) (hs' : s' < 7) : mq (n_send M b c s p w) b' c' s' = if b' = b ∧ c' = c ∧ s' = s then mq M b' c' s' ++ [(b, nI c, nI s, p, w, mI M 28 0 c, mJ M 30 0 c, false)] else mq M b' c' s' := by
  unfold mq
  rw [ml_send, List.filter_append]
  by_cases e : b' = b ∧ c' = c ∧ s' = s
  · rw [if_pos e]
    congr 1
    rw [List.filter_cons, mt_iff hc hs hc' hs', if_pos (decide_eq_true ⟨e.1.symm, e.2.1.symm, e.2.2.symm⟩)]; rfl
  · rw [if_neg e, List.filter_cons, mt_iff hc hs hc' hs', if_neg (fun z => e (by have := of_decide_eq_true z; exact ⟨this.1.symm, this.2.1.symm, this.2.2.symm⟩))]
    simp
theorem sk_send (M : fm) (b : Bool) (c s : Nat) (p w : Int32) {k : Nat} (h : k ≠ 16 ∧ (k < 39 ∨ 46 < k)) : sk M (n_send M b c s p w) k := by
  unfold n_send
  exact ((((((((sk_sB _ _ (by omega)).tr (sk_sI _ _ (by omega))).tr (sk_sI _ _ (by omega))).tr (sk_sI _ _ (by omega))).tr (sk_sI _ _ (by omega))).tr (sk_sB _ _ (by omega))).tr (sk_sI _ _ (by omega))).tr (sk_sJ _ _ (by omega))).tr (sk_sU _ _ (by omega))
theorem sk_nlose (M : fm) (i : Nat) {k : Nat} (h : k ≠ 16 ∧ (k < 39 ∨ 46 < k)) : sk M (n_lose M i) k := by
  unfold n_lose n_shift
  exact ((((((((sk_sU _ _ (by omega)).tr (sk_rB _ _ (by omega))).tr (sk_rB _ _ (by omega))).tr (sk_rI _ _ (by omega))).tr (sk_rI _ _ (by omega))).tr (sk_rI _ _ (by omega))).tr (sk_rI _ _ (by omega))).tr (sk_rI _ _ (by omega))).tr (sk_rJ _ _ (by omega))
theorem begs_rows {x : fy} {M : fm} {c : Nat} {p : Int32} (hO : fO x) (hc : c < 5) (h : ∀ e, e ∈ ml M → okE x e) :
    ∀ n, n ≤ xN x → (∀ k, k ≠ 16 ∧ (k < 39 ∨ 46 < k) → sk M (n_begs M c p n) k) ∧ (∀ b c' s', c' < 5 → s' < xN x → mq (n_begs M c p n) b c' s' = if b = false ∧ c' = c ∧ s' < n ∧ mB M 33 0 s' = false then mq M b c' s' ++ [(false, nI c, nI s', p, mI M 24 0 c, mI M 28 0 c, mJ M 30 0 c, false)] else mq M b c' s') ∧ ∀ e, e ∈ ml (n_begs M c p n) → okE x e := by
  have hN : xN x ≤ 7 := hO.2.2.2.1
  intro n
  induction n with
  | zero => intro _; exact ⟨fun k _ => sk.rf M k, fun b c' s' _ _ => by rw [if_neg (fun z => by omega)]; rfl, h⟩
  | succ n ih =>
    intro hn
    obtain ⟨i1, i2, i3⟩ := ih (by omega)
    show (∀ k, k ≠ 16 ∧ (k < 39 ∨ 46 < k) → sk M (n_beg1 (n_begs M c p n) c n p) k) ∧ (∀ b c' s', c' < 5 → s' < xN x → mq (n_beg1 (n_begs M c p n) c n p) b c' s' = _) ∧ ∀ e, e ∈ ml (n_beg1 (n_begs M c p n) c n p) → okE x e
    have h33 : mB (n_begs M c p n) 33 0 n = mB M 33 0 n := by rw [(i1 33 (by omega)).2.2.1]
    unfold n_beg1
    by_cases hd : mB (n_begs M c p n) 33 0 n = true
    · rw [if_pos hd]
      refine ⟨i1, fun b c' s' hc' hs' => ?_, i3⟩
      rw [i2 b c' s' hc' hs']
      by_cases hz : b = false ∧ c' = c ∧ s' < n ∧ mB M 33 0 s' = false
      · rw [if_pos hz, if_pos ⟨hz.1, hz.2.1, by omega, hz.2.2.2⟩]
      · rw [if_neg hz, if_neg (fun z => ?_)]
        by_cases e : s' = n
        · rw [e, ← h33, hd] at z; cases z.2.2.2
        · exact hz ⟨z.1, z.2.1, by omega, z.2.2.2⟩
    · rw [if_neg hd]
      have hd2 : mB M 33 0 n = false := by rw [← h33]; exact Bool.not_eq_true _ ▸ hd
      refine ⟨fun k hk => (i1 k hk).tr (sk_send _ _ _ _ _ _ hk), fun b c' s' hc' hs' => ?_, fun e he => ?_⟩
      · rw [mq_send hc (by omega) hc' (by omega), i2 b c' s' hc' hs', (i1 24 (by omega)).1, (i1 28 (by omega)).1, (i1 30 (by omega)).2.1]
        by_cases e : b = false ∧ c' = c ∧ s' = n
        · obtain ⟨rfl, rfl, rfl⟩ := e
          rw [if_pos ⟨rfl, rfl, rfl⟩, if_neg (fun z => by omega), if_pos ⟨rfl, rfl, by omega, hd2⟩]
        · rw [if_neg e]
          by_cases hz : b = false ∧ c' = c ∧ s' < n ∧ mB M 33 0 s' = false
          · rw [if_pos hz, if_pos ⟨hz.1, hz.2.1, by omega, hz.2.2.2⟩]
          · rw [if_neg hz, if_neg (fun z => ?_)]
            by_cases e2 : s' = n
            · exact e ⟨z.1, z.2.1, e2⟩
            · exact hz ⟨z.1, z.2.1, by omega, z.2.2.2⟩
      · rw [ml_send] at he
        rcases List.mem_append.mp he with he | he
        · exact i3 e he
        · rw [List.mem_singleton.mp he]
          exact ⟨c, n, hc, by omega, rfl, rfl⟩
theorem m_begin {x : fy} {M : fm} {A : AS} {c : Nat} {p : Int32} (hO : fO x) (hc : c < 5) (h : MRel x M A) (hcr : kcr (acl A c) = false) (hbk : p = 2 → abk A (ktg (acl A c)) = kbl (acl A c)) : MRel x (n_begin x M c p) (a_begin x A c p) := by
  obtain ⟨h1, h2, h3, h4⟩ := h
  have hN : xN x ≤ 7 := hO.2.2.2.1
  obtain ⟨f1, f2, f3, f4, f5, f6, f7, f8, f9, f10⟩ := h1 c hc
  have sb : ∀ k, k < 23 ∨ 27 < k → sk M (n_beg0 M c p) k := by
    intro k hk
    unfold n_beg0
    exact ((((sk_sI _ _ (by omega)).tr (sk_sI _ _ (by omega))).tr (sk_sI _ _ (by omega))).tr (sk_sI _ _ (by omega))).tr (sk_sI _ _ (by omega))
  have hml : ml (n_beg0 M c p) = ml M := ml_sk (fun k hk => sb k (by omega))
  obtain ⟨b1, b2, b3⟩ := begs_rows (x := x) (M := n_beg0 M c p) (c := c) (p := p) hO hc (by rw [hml]; exact h4) (xN x) (Nat.le_refl _)
  have ec : acl (a_begin x A c p) c = bcl (acl A c) p := vu_s _ _ _
  have eo : ∀ c', c' ≠ c → acl (a_begin x A c p) c' = acl A c' := fun c' h => vu_n _ _ h
  have v23 : mI (n_beg0 M c p) 23 0 c = p := by unfold n_beg0; simp [mI_sI]
  have v24 : mI (n_beg0 M c p) 24 0 c = nI (kag (acl A c) + 1) := by unfold n_beg0; simp [mI_sI, f2, nI_1]
  have v25 : mI (n_beg0 M c p) 25 0 c = 0 := by unfold n_beg0; simp [mI_sI]
  have v26 : mI (n_beg0 M c p) 26 0 c = 0 := by unfold n_beg0; simp [mI_sI]
  have v27 : mI (n_beg0 M c p) 27 0 c = 0 := by unfold n_beg0; simp [mI_sI]
  have v28 : mI (n_beg0 M c p) 28 0 c = ktg (acl A c) := by rw [(sb 28 (by omega)).1]; exact f6
  have v30 : mJ (n_beg0 M c p) 30 0 c = kbl (acl A c) := f8
  have vo : ∀ k c', c' ≠ c → mI (n_beg0 M c p) k 0 c' = mI M k 0 c' ∧ mJ (n_beg0 M c p) k 0 c' = mJ M k 0 c' := by
    intro k c' hne
    refine ⟨?_, rfl⟩
    unfold n_beg0
    simp [mI_sI, hne]
  refine ⟨fun c' hc' => ?_, fun s hs => ?_, fun c' s hc' hs => ?_, b3⟩
  · by_cases e : c' = c
    · subst e
      unfold Mc n_begin
      rw [ec, (b1 23 (by omega)).1, (b1 24 (by omega)).1, (b1 25 (by omega)).1, (b1 26 (by omega)).1, (b1 27 (by omega)).1, (b1 28 (by omega)).1, (b1 29 (by omega)).1, (b1 30 (by omega)).2.1, (b1 32 (by omega)).2.1, v23, v24, v25, v26, v27, v28, v30, (sb 29 (by omega)).1]
      refine ⟨?_, rfl, ?_, rfl, rfl, rfl, f7, rfl, f9, fun _ q => absurd rfl q⟩
      · show p = if kcr (acl A c') = true then 6 else p
        rw [hcr]; rfl
      · show (0 : Int32) = nI (cnt (fun _ => false) (xN x))
        rw [cnt_false]; rfl
    · refine (h1 c' hc').mono (fun k k1 k2 => ?_) (eo c' e) rfl
      rw [show mI (n_begin x M c p) k = mI (n_beg0 M c p) k from (b1 k (by omega)).1, show mJ (n_begin x M c p) k = mJ (n_beg0 M c p) k from (b1 k (by omega)).2.1]
      exact vo k c' e
  · exact (h2 s hs).mono (fun k k1 k2 => (sb k (by omega)).tr (b1 k (by omega))) rfl (fun _ _ => rfl)
  · obtain ⟨q1, q2⟩ := h3 c' s hc' hs
    have hq0 : ∀ b, mq (n_beg0 M c p) b c' s = mq M b c' s := fun b => by unfold mq; rw [hml]
    have hdn : mB (n_beg0 M c p) 33 0 s = (asv A s).1 := (h2 s hs).1
    unfold Mq n_begin
    refine ⟨?_, ?_⟩
    · rw [b2 false c' s hc' hs, hq0, aq_begin, hdn]
      by_cases e : false = false ∧ c' = c ∧ s < xN x ∧ (asv A s).1 = false
      · rw [if_pos e, if_pos e]
        refine rel_snoc q1 ?_
        rw [v24, v28, v30]
        exact ⟨rfl, rfl, rfl, fun z => (hbk z).symm⟩
      · rw [if_neg e, if_neg e]; exact q1
    · rw [b2 true c' s hc' hs, hq0, aq_begin, if_neg (fun z => by cases z.1), if_neg (fun z => by cases z.1)]; exact q2
theorem m_bl {x : fy} {M : fm} {A : AS} {c k : Nat} (h : MRel x M A) (hI : Inv x k A) (hc : c < 5) (w : Int64) : MRel x (sJ M 30 0 c w) (ucl A c (scl_bl (acl A c) w)) := by
  have ec : acl (ucl A c (scl_bl (acl A c) w)) c = scl_bl (acl A c) w := vu_s _ _ _
  refine h.cl hI (fun k hk => sk_sJ M _ (by omega)) (fun k c' hne => ⟨rfl, by rw [mJ_sJ, if_neg (fun z => hne z.2.2)]⟩) (fun c' hc' => vu_n _ _ hc') rfl rfl (fun _ _ => rfl) ?_
  obtain ⟨f1, f2, f3, f4, f5, f6, f7, f8, f9, f10⟩ := h.1 c hc
  unfold Mc
  rw [ec]
  refine ⟨f1, f2, f3, f4, f5, f6, f7, ?_, ?_, fun a b => ?_⟩
  · rw [mJ_sJ, if_pos ⟨rfl, rfl, rfl⟩]; rfl
  · rw [mJ_sJ, if_neg (by omega)]; exact f9
  · rw [mJ_sJ, if_neg (by omega)]; exact f10 a b
theorem m_stop {x : fy} {M : fm} {A : AS} {c k : Nat} (h : MRel x M A) (hI : Inv x k A) (hc : c < 5) : MRel x (sI M 23 0 c 6) (ucl A c (scl_cr (acl A c))) := by
  have ec : acl (ucl A c (scl_cr (acl A c))) c = scl_cr (acl A c) := vu_s _ _ _
  refine h.cl hI (fun k hk => sk_sI M _ (by omega)) (fun k c' hne => ⟨by rw [mI_sI, if_neg (fun z => hne z.2.2)], rfl⟩) (fun c' hc' => vu_n _ _ hc') rfl rfl (fun _ _ => rfl) ?_
  obtain ⟨f1, f2, f3, f4, f5, f6, f7, f8, f9, f10⟩ := h.1 c hc
  unfold Mc
  rw [ec]
  simp only [mI_sI, mJ_sI]
  exact ⟨rfl, f2, f3, f4, f5, f6, f7, f8, f9, f10⟩
