-- the program's memory goes with the protocol's state
def rk (S T : fm) (k i : Nat) : Prop := mI T k i = mI S k i ∧ mJ T k i = mJ S k i ∧ mB T k i = mB S k i ∧ mA T k i = mA S k i ∧ mU T k i = mU S k i
theorem rk.rf (S : fm) (k i : Nat) : rk S S k i := ⟨rfl, rfl, rfl, rfl, rfl⟩
theorem rk.tr {S T U : fm} {k i : Nat} (h : rk S T k i) (h2 : rk T U k i) : rk S U k i := ⟨h2.1.trans h.1, h2.2.1.trans h.2.1, h2.2.2.1.trans h.2.2.1, h2.2.2.2.1.trans h.2.2.2.1, h2.2.2.2.2.trans h.2.2.2.2⟩
theorem sk.rk {S T : fm} {k : Nat} (h : sk S T k) (i : Nat) : rk S T k i := ⟨by rw [h.1], by rw [h.2.1], by rw [h.2.2.1], by rw [h.2.2.2.1], by rw [h.2.2.2.2]⟩
theorem rk_rI (S : fm) {k0 i0 k i : Nat} (r : Nat → Int32) (h : ¬ (k = k0 ∧ i = i0)) : rk S (rI S k0 i0 r) k i := ⟨u2_n h, rfl, rfl, rfl, rfl⟩
theorem rk_sI (S : fm) {k0 i0 j k i : Nat} (v : Int32) (h : ¬ (k = k0 ∧ i = i0)) : rk S (sI S k0 i0 j v) k i := rk_rI S _ h
theorem rk_rJ (S : fm) {k0 i0 k i : Nat} (r : Nat → Int64) (h : ¬ (k = k0 ∧ i = i0)) : rk S (rJ S k0 i0 r) k i := ⟨rfl, u2_n h, rfl, rfl, rfl⟩
theorem rk_sJ (S : fm) {k0 i0 j k i : Nat} (v : Int64) (h : ¬ (k = k0 ∧ i = i0)) : rk S (sJ S k0 i0 j v) k i := rk_rJ S _ h
theorem rk_rB (S : fm) {k0 i0 k i : Nat} (r : Nat → Bool) (h : ¬ (k = k0 ∧ i = i0)) : rk S (rB S k0 i0 r) k i := ⟨rfl, rfl, u2_n h, rfl, rfl⟩
theorem rk_sB (S : fm) {k0 i0 j k i : Nat} (v : Bool) (h : ¬ (k = k0 ∧ i = i0)) : rk S (sB S k0 i0 j v) k i := rk_rB S _ h
theorem rk_rU (S : fm) {k0 i0 k i : Nat} (r : Nat → Nat) (h : ¬ (k = k0 ∧ i = i0)) : rk S (rU S k0 i0 r) k i := ⟨rfl, rfl, rfl, rfl, u2_n h⟩
theorem rk_sU (S : fm) {k0 i0 j k i : Nat} (v : Nat) (h : ¬ (k = k0 ∧ i = i0)) : rk S (sU S k0 i0 j v) k i := rk_rU S _ h
theorem rk_enter (S : fm) (c : Nat) (p : Int32) {k i : Nat} (h : ¬ (k = 7 ∧ i = c)) : rk S (e_enter S c p) k i := by unfold e_enter; exact ((((rk_sI _ _ h).tr (rk_sI _ _ h)).tr (rk_sI _ _ h)).tr (rk_sI _ _ h)).tr (rk_sU _ _ h)
theorem rk_hear1 (S : fm) (c a : Nat) {k i : Nat} (h : ¬ (k = 7 ∧ i = c)) : rk S (e_hear1 S c a) k i := by unfold e_hear1; exact (rk_sI _ _ h).tr (rk_sI _ _ h)
theorem rk_hear (x : fy) (S : fm) (c a s : Nat) {k i : Nat} (h : ¬ (k = 7 ∧ i = c)) (h8 : ¬ (k = 8 ∧ i = c)) (h9 : ¬ (k = 9 ∧ i = c)) : rk S (e_hear x S c a s) k i := by
  unfold e_hear
  split
  · unfold e_hear2
    exact (((rk_hear1 S c a h).tr (rk_sU _ _ h8)).tr (rk_sJ _ _ h9)).tr (rk_sU _ _ h)
  · exact rk_hear1 S c a h
theorem rk_finish (S : fm) (c : Nat) {k i : Nat} (h : ¬ (k = 7 ∧ i = c)) : rk S (e_finish S c) k i := by unfold e_finish; exact (rk_sI _ _ h).tr (rk_sI _ _ h)
def Cc (x : fy) (S : fm) (A : AS) (c : Nat) : Prop :=
  mI S 7 c 5 = kph (acl A c) ∧ mB S 7 c 4 = kcr (acl A c) ∧ mI S 7 c 6 = nI (kag (acl A c)) ∧ mI S 7 c 7 = nI (cnt (khs (acl A c)) (xN x)) ∧ (kph (acl A c) = 1 ∨ kph (acl A c) = 4 → mI S 7 c 8 = kbe (acl A c)) ∧ mI S 7 c 9 = ktg (acl A c) ∧ mJ S 7 c 10 = kbl (acl A c) ∧ mJ S 7 c 11 = kre (acl A c) ∧ mI S 7 c 12 = kfi (acl A c) ∧ mU S 7 c 3 = min (ksr (acl A c)).length (xK x) ∧ (∀ j, j < mU S 7 c 3 → (ksr (acl A c))[j]? = some (mU S 8 c j) ∧ (kph (acl A c) = 5 → mJ S 9 c j = enc x (abk A (ktg (acl A c))) (mU S 8 c j)))
def Cs (x : fy) (S : fm) (A : AS) (s : Nat) : Prop := mB S 10 s 5 = (asv A s).1 ∧ mI S 10 s 4 = (asv A s).2.1 ∧ mk (mI S 11 s) (mU S 10 s 3) = (asv A s).2.2 ∧ ∀ i, i < mU S 10 s 3 → mJ S 12 s i = enc x (abk A (mI S 11 s i)) s
def LRq (x : fy) (A : AS) (s : Nat) (a : LT) (l : LA) : Prop := a.1 = l.1 ∧ a.2.1 = nI l.2.1 ∧ a.2.2.1 = l.2.2.1 ∧ (l.1 = 2 → a.2.2.2.1 = enc x (abk A l.2.2.1) s) ∧ a.2.2.2.2.2 = false
def LRr (x : fy) (A : AS) (s : Nat) (a : LT) (l : LA) : Prop := a.1 = l.1 ∧ a.2.1 = nI l.2.1 ∧ a.2.2.1 = l.2.2.1 ∧ (l.1 = 1 ∨ l.1 = 4 → a.2.2.2.2.1 = l.2.2.2.1) ∧ a.2.2.2.2.2 = l.2.2.2.2 ∧ (l.2.2.2.2 = true → a.2.2.2.1 = enc x (abk A l.2.2.1) s)
def Cq (x : fy) (S : fm) (A : AS) (c s : Nat) : Prop := rel (LRq x A s) (cq S (c * xN x + s)) (aq A false c s) ∧ rel (LRr x A s) (cq S (100 + (c * xN x + s))) (aq A true c s)
def fT (x : fy) (S : fm) : Prop := (∀ s, mU S 10 s 3 ≤ xD x + 1) ∧ (∀ c, mU S 7 c 3 ≤ 7) ∧ (∀ c j, mU S 8 c j < 7)
def CRel (x : fy) (S : fm) (A : AS) : Prop := (∀ c, c < 5 → Cc x S A c) ∧ (∀ s, s < xN x → Cs x S A s) ∧ (∀ c s, c < 5 → s < xN x → Cq x S A c s) ∧ mI S 0 0 7 = nI (cnt (fun s => (asv A s).1) (xN x)) ∧ Rw x S ∧ fT x S ∧ xb x ≤ mZ S
theorem CRel.fI {x : fy} {S : fm} {A : AS} (h : CRel x S A) : fI x S := ⟨h.2.2.2.2.1.1, h.2.2.2.2.1.2.1, h.2.2.2.2.2.1.1, h.2.2.2.2.2.1.2.1, h.2.2.2.2.2.1.2.2⟩
theorem Cc.mono {x : fy} {S T : fm} {A A' : AS} {c : Nat} (h : Cc x S A c) (h7 : rk S T 7 c) (h8 : rk S T 8 c) (h9 : rk S T 9 c) (hc : acl A' c = acl A c) (hb : abk A' (ktg (acl A c)) = abk A (ktg (acl A c))) : Cc x T A' c := by
  unfold Cc
  rw [hc, h7.1, h7.2.1, h7.2.2.1, h7.2.2.2.2, h8.2.2.2.2, h9.2.1, hb]
  exact h
theorem Cs.mono {x : fy} {S T : fm} {A A' : AS} {s : Nat} (h : Cs x S A s) (h10 : rk S T 10 s) (h11 : rk S T 11 s) (h12 : rk S T 12 s) (hs : asv A' s = asv A s) (hb : ∀ t, t ∈ (asv A s).2.2 → abk A' t = abk A t) : Cs x T A' s := by
  obtain ⟨h1, h2, h3, h4⟩ := h
  unfold Cs
  rw [hs, h10.1, h10.2.2.1, h10.2.2.2.2, h11.1, h12.2.1]
  refine ⟨h1, h2, h3, fun i hi => ?_⟩
  rw [hb _ (by rw [← h3]; exact mk_mem.mpr ⟨i, hi, rfl⟩)]
  exact h4 i hi
theorem Cq.mono {x : fy} {S T : fm} {A A' : AS} {c s : Nat} (h : Cq x S A c s) (hr : ∀ r, cq T r = cq S r) (hq : ∀ b, aq A' b c s = aq A b c s) (hb : ∀ b l, l ∈ aq A b c s → abk A' l.2.2.1 = abk A l.2.2.1) : Cq x T A' c s := by
  unfold Cq
  rw [hr, hr, hq, hq]
  refine ⟨rel_mono h.1 (fun a l _ hl q => ?_), rel_mono h.2 (fun a l _ hl q => ?_)⟩
  · unfold LRq
    rw [hb false l hl]
    exact q
  · unfold LRr
    rw [hb true l hl]
    exact q
/-- only one client changes -/
theorem CRel.cl {x : fy} {S T : fm} {A A' : AS} {c k : Nat} (h : CRel x S A) (hI : Inv x k A) (hk : ∀ k i, ¬ (k = 7 ∧ i = c) → ¬ (k = 8 ∧ i = c) → ¬ (k = 9 ∧ i = c) → k ≠ 2 → rk S T k i) (hz : mZ T = mZ S) (ho : ∀ c', c' ≠ c → acl A' c' = acl A c') (hs : asv A' = asv A) (hq : aq A' = aq A) (hb : ∀ t, okT A k t → abk A' t = abk A t) (hc : Cc x T A' c) (hu : mU T 7 c 3 ≤ 7) (hu8 : ∀ j, mU T 8 c j < 7) : CRel x T A' := by
  obtain ⟨h1, h2, h3, h4, h5, h6, h7⟩ := h
  have s13 : sk S T 13 := ⟨by funext i; exact (hk 13 i (by omega) (by omega) (by omega) (by omega)).1, by funext i; exact (hk 13 i (by omega) (by omega) (by omega) (by omega)).2.1, by funext i; exact (hk 13 i (by omega) (by omega) (by omega) (by omega)).2.2.1, by funext i; exact (hk 13 i (by omega) (by omega) (by omega) (by omega)).2.2.2.1, by funext i; exact (hk 13 i (by omega) (by omega) (by omega) (by omega)).2.2.2.2⟩
  have s14 : sk S T 14 := ⟨by funext i; exact (hk 14 i (by omega) (by omega) (by omega) (by omega)).1, by funext i; exact (hk 14 i (by omega) (by omega) (by omega) (by omega)).2.1, by funext i; exact (hk 14 i (by omega) (by omega) (by omega) (by omega)).2.2.1, by funext i; exact (hk 14 i (by omega) (by omega) (by omega) (by omega)).2.2.2.1, by funext i; exact (hk 14 i (by omega) (by omega) (by omega) (by omega)).2.2.2.2⟩
  have s15 : sk S T 15 := ⟨by funext i; exact (hk 15 i (by omega) (by omega) (by omega) (by omega)).1, by funext i; exact (hk 15 i (by omega) (by omega) (by omega) (by omega)).2.1, by funext i; exact (hk 15 i (by omega) (by omega) (by omega) (by omega)).2.2.1, by funext i; exact (hk 15 i (by omega) (by omega) (by omega) (by omega)).2.2.2.1, by funext i; exact (hk 15 i (by omega) (by omega) (by omega) (by omega)).2.2.2.2⟩
  refine ⟨fun c' hc' => ?_, fun s hs' => ?_, fun c' s hc' hs' => ?_, ?_, h5.sk s13 s14 (by omega), ⟨fun s => ?_, fun c' => ?_, fun c' j => ?_⟩, by omega⟩
  · by_cases e : c' = c
    · rw [e]; exact hc
    · exact (h1 c' hc').mono (hk 7 c' (by omega) (by omega) (by omega) (by omega)) (hk 8 c' (by omega) (by omega) (by omega) (by omega)) (hk 9 c' (by omega) (by omega) (by omega) (by omega)) (ho c' e) (hb _ (hI.2.1 c' hc').2.2.1)
  · exact (h2 s hs').mono (hk 10 s (by omega) (by omega) (by omega) (by omega)) (hk 11 s (by omega) (by omega) (by omega) (by omega)) (hk 12 s (by omega) (by omega) (by omega) (by omega)) (by rw [hs]) (fun t ht => hb t ((hI.2.2.1 s hs').2.2.2.1 t ht))
  · exact (h3 c' s hc' hs').mono (cq_sk s13 s14 s15) (fun b => by rw [hq]) (fun b l hl => hb _ ((hI.2.2.2 c' s hc' hs').1 b l hl).2.2.1)
  · rw [(hk 0 0 (by omega) (by omega) (by omega) (by omega)).1, hs]; exact h4
  · rw [(hk 10 s (by omega) (by omega) (by omega) (by omega)).2.2.2.2]; exact h6.1 s
  · by_cases e : c' = c
    · rw [e]; exact hu
    · rw [(hk 7 c' (by omega) (by omega) (by omega) (by omega)).2.2.2.2]; exact h6.2.1 c'
  · by_cases e : c' = c
    · rw [e]; exact hu8 j
    · rw [(hk 8 c' (by omega) (by omega) (by omega) (by omega)).2.2.2.2]; exact h6.2.2 c' j
theorem xl_none {x : fy} (hO : fO x) {a : Nat} (h : xb x ≤ a) : xl x a = none := by
  cases e : xl x a with
  | none => rfl
  | some q =>
    obtain ⟨k, i⟩ := q
    have := (hO.1 a k i e).2.2.1
    omega
theorem row_lt35 {x : fy} (hO : fO x) {c s : Nat} (hc : c < 5) (hs : s < xN x) : c * xN x + s < 35 := by
  have h1 := row_lt hc hs
  have h2 : xN x ≤ 7 := hO.2.2.2.1
  omega
/-- a phase begins -/
theorem c_begin {x : fy} {S : fm} {A : AS} {c : Nat} {p : Int32} (hO : fO x) (hc : c < 5) (h : CRel x S A) (hlen : ∀ s, s < xN x → (asv A s).1 = false → (aq A false c s).length < 7) (hbk : p = 2 → abk A (ktg (acl A c)) = kbl (acl A c)) : CRel x (e_begin x S c p) (a_begin x A c p) := by
  obtain ⟨h1, h2, h3, h4, h5, h6, h7⟩ := h
  have se : ∀ k, k ≠ 7 → sk S (e_enter S c p) k := fun k hk => sk_enter S c p hk
  have hz : mZ (e_enter S c p) = mZ S := rfl
  obtain ⟨f1, f2, f3, f4, f5, f6, f7, f8, f9, f10, f11⟩ := h1 c hc
  have hR1 : Rw x (e_enter S c p) := h5.sk (se 13 (by omega)) (se 14 (by omega)) (by omega)
  have hr7 : ∀ s, s < xN x → mB (e_enter S c p) 10 s 5 = false → mU (e_enter S c p) 13 (c * xN x + s) 1 < 7 := by
    intro s hs hd
    have hd2 : mB S 10 s 5 = false := hd
    rw [(h2 s hs).1] at hd2
    rw [(se 13 (by omega)).2.2.2.2, ← cq_len, (h3 c s hc hs).1.1]
    exact hlen s hs hd2
  obtain ⟨b1, b2, b3, b4⟩ := bgs_rows (x := x) (S := e_enter S c p) (c := c) (by omega) (fun a ha => xl_none hO ha) hR1 hr7 (xN x) (Nat.le_refl _)
  have st : ∀ k, k ≠ 7 → k ≠ 13 → k ≠ 14 → k ≠ 15 → sk S (e_begin x S c p) k := fun k q7 q13 q14 q15 => sk_begin x S c p ⟨q7, q13, q14, q15⟩
  have st7 : sk (e_enter S c p) (e_begin x S c p) 7 := sk_bgs x _ c ⟨by omega, by omega, by omega⟩ _
  have hcq1 : ∀ r, cq (e_enter S c p) r = cq S r := cq_sk (se 13 (by omega)) (se 14 (by omega)) (se 15 (by omega))
  have ec : acl (a_begin x A c p) c = bcl (acl A c) p := vu_s _ _ _
  have eo : ∀ c', c' ≠ c → acl (a_begin x A c p) c' = acl A c' := fun c' h => vu_n _ _ h
  have v5 : mI (e_enter S c p) 7 c 5 = p := by unfold e_enter; simp [mI_sI, mI_sU]
  have v6 : mI (e_enter S c p) 7 c 6 = nI (kag (acl A c) + 1) := by unfold e_enter; simp [mI_sI, mI_sU, f3, nI_1]
  have v7 : mI (e_enter S c p) 7 c 7 = 0 := by unfold e_enter; simp [mI_sI, mI_sU]
  have v8 : mI (e_enter S c p) 7 c 8 = 0 := by unfold e_enter; simp [mI_sI, mI_sU]
  have v9 : mI (e_enter S c p) 7 c 9 = ktg (acl A c) := by unfold e_enter; simp [mI_sI, mI_sU, f6]
  have v12 : mI (e_enter S c p) 7 c 12 = kfi (acl A c) := by unfold e_enter; simp [mI_sI, mI_sU, f9]
  have v3 : mU (e_enter S c p) 7 c 3 = 0 := by unfold e_enter; simp [mU_sU]
  have v10 : mJ (e_enter S c p) 7 c 10 = kbl (acl A c) := f7
  refine ⟨fun c' hc' => ?_, fun s hs => ?_, fun c' s hc' hs => ?_, ?_, b1, ⟨fun s => ?_, fun c' => ?_, fun c' j => ?_⟩, by show xb x ≤ mZ (e_bgs x (e_enter S c p) c (xN x)); omega⟩
  · by_cases e : c' = c
    · subst e
      unfold Cc
      rw [ec, st7.1, st7.2.1, st7.2.2.1, st7.2.2.2.2, v5, v6, v7, v8, v9, v12, v3, v10]
      refine ⟨rfl, f2, rfl, ?_, fun _ => rfl, rfl, rfl, f8, rfl, ?_, fun j hj => by omega⟩
      · show (0 : Int32) = nI (cnt (fun _ => false) (xN x))
        rw [cnt_false]; rfl
      · show 0 = min ([] : List Nat).length (xK x)
        simp
    · have s7 : rk S (e_begin x S c p) 7 c' := (rk_enter S c p (by omega)).tr (st7.rk c')
      exact (h1 c' hc').mono s7 ((st 8 (by omega) (by omega) (by omega) (by omega)).rk c') ((st 9 (by omega) (by omega) (by omega) (by omega)).rk c') (eo c' e) rfl
  · exact (h2 s hs).mono ((st 10 (by omega) (by omega) (by omega) (by omega)).rk s) ((st 11 (by omega) (by omega) (by omega) (by omega)).rk s) ((st 12 (by omega) (by omega) (by omega) (by omega)).rk s) rfl (fun _ _ => rfl)
  · obtain ⟨q1, q2⟩ := h3 c' s hc' hs
    have hrep : cq (e_begin x S c p) (100 + (c' * xN x + s)) = cq S (100 + (c' * xN x + s)) := by
      rw [← hcq1]
      exact b4 _ (fun s' hs' z => by have := row_lt35 hO hc hs'; omega)
    have hrt : aq (a_begin x A c p) true c' s = aq A true c' s := by rw [aq_begin, if_neg (fun z => by cases z.1)]
    unfold Cq
    rw [hrep, hrt]
    refine ⟨?_, q2⟩
    by_cases e : c' = c
    · subst e
      have hb3 := b3 s hs
      rw [show cq (e_begin x S c' p) (c' * xN x + s) = _ from hb3, hcq1, aq_begin]
      have hdn : mB (e_enter S c' p) 10 s 5 = (asv A s).1 := (h2 s hs).1
      rw [hdn]
      by_cases hd : (asv A s).1 = false
      · rw [if_pos ⟨hs, hd⟩, if_pos ⟨rfl, rfl, hs, hd⟩]
        refine rel_snoc q1 ?_
        unfold nlt
        rw [v5, v6, v9, v10]
        refine ⟨rfl, rfl, rfl, fun e2 => ?_, rfl⟩
        have e2 : p = 2 := e2
        show (if p = 2 then enc x (kbl (acl A c')) s else 0) = enc x (abk A (ktg (acl A c'))) s
        rw [if_pos e2, hbk e2]
      · rw [if_neg (fun z => hd z.2), if_neg (fun z => hd z.2.2.2)]
        exact q1
    · have hro : cq (e_begin x S c p) (c' * xN x + s) = cq S (c' * xN x + s) := by
        rw [← hcq1]
        exact b4 _ (fun s' hs' z => e (row_inj hs hs' z).1)
      rw [hro, aq_begin, if_neg (fun z => e z.2.1)]
      exact q1
  · rw [(st 0 (by omega) (by omega) (by omega) (by omega)).1]; exact h4
  · rw [(st 10 (by omega) (by omega) (by omega) (by omega)).2.2.2.2]; exact h6.1 s
  · rw [st7.2.2.2.2]
    by_cases e : c' = c
    · rw [e, v3]; omega
    · rw [(rk_enter S c p (show ¬ (7 = 7 ∧ c' = c) by omega)).2.2.2.2]; exact h6.2.1 c'
  · rw [(st 8 (by omega) (by omega) (by omega) (by omega)).2.2.2.2]; exact h6.2.2 c' j
