-- the program's steps go with the protocol's
theorem c_bl {x : fy} {S : fm} {A : AS} {c k : Nat} (h : CRel x S A) (hI : Inv x k A) (hc : c < 5) (w : Int64) : CRel x (sJ S 7 c 10 w) (ucl A c (scl_bl (acl A c) w)) := by
  have ec : acl (ucl A c (scl_bl (acl A c) w)) c = scl_bl (acl A c) w := vu_s _ _ _
  refine h.cl hI (fun k i h7 _ _ _ => rk_sJ S _ h7) rfl (fun c' hc' => vu_n _ _ hc') rfl rfl (fun _ _ => rfl) ?_ (h.2.2.2.2.2.1.2.1 c) (h.2.2.2.2.2.1.2.2 c)
  obtain ⟨f1, f2, f3, f4, f5, f6, f7, f8, f9, f10, f11⟩ := h.1 c hc
  unfold Cc
  rw [ec]
  refine ⟨f1, f2, f3, f4, f5, f6, ?_, ?_, f9, f10, fun j hj => ⟨(f11 j hj).1, fun e => ?_⟩⟩
  · rw [mJ_sJ, if_pos ⟨rfl, rfl, rfl⟩]; rfl
  · rw [mJ_sJ, if_neg (by omega)]; exact f8
  · rw [mJ_sJ, if_neg (by omega)]; exact (f11 j hj).2 e
theorem c_stop {x : fy} {S : fm} {A : AS} {c k : Nat} (h : CRel x S A) (hI : Inv x k A) (hc : c < 5) : CRel x (sB S 7 c 4 true) (ucl A c (scl_cr (acl A c))) := by
  have ec : acl (ucl A c (scl_cr (acl A c))) c = scl_cr (acl A c) := vu_s _ _ _
  refine h.cl hI (fun k i h7 _ _ _ => rk_sB S _ h7) rfl (fun c' hc' => vu_n _ _ hc') rfl rfl (fun _ _ => rfl) ?_ (h.2.2.2.2.2.1.2.1 c) (h.2.2.2.2.2.1.2.2 c)
  obtain ⟨f1, f2, f3, f4, f5, f6, f7, f8, f9, f10, f11⟩ := h.1 c hc
  unfold Cc
  rw [ec]
  refine ⟨f1, ?_, f3, f4, f5, f6, f7, f8, f9, f10, fun j hj => ⟨(f11 j hj).1, fun e => (f11 j hj).2 e⟩⟩
  rw [mB_sB, if_pos ⟨rfl, rfl, rfl⟩]; rfl
theorem c_tag {x : fy} {S : fm} {A A' : AS} {c k : Nat} {t w : Int32} (h : CRel x S A) (hI : Inv x k A) (hc : c < 5) (hp : kph (acl A c) ≠ 5) (ec : acl A' c = scl_tg (acl A c) t w) (eo : ∀ c', c' ≠ c → acl A' c' = acl A c') (hs : asv A' = asv A) (hq : aq A' = aq A) (hb : ∀ t, okT A k t → abk A' t = abk A t) : CRel x (sI S 7 c 9 t) A' := by
  refine h.cl hI (fun k i h7 _ _ _ => rk_sI S _ h7) rfl eo hs hq hb ?_ (h.2.2.2.2.2.1.2.1 c) (h.2.2.2.2.2.1.2.2 c)
  obtain ⟨f1, f2, f3, f4, f5, f6, f7, f8, f9, f10, f11⟩ := h.1 c hc
  unfold Cc
  rw [ec]
  refine ⟨?_, f2, ?_, ?_, fun e => ?_, ?_, f7, f8, ?_, f10, fun j hj => ⟨(f11 j hj).1, fun e => absurd e hp⟩⟩
  · rw [mI_sI, if_neg (by omega)]; exact f1
  · rw [mI_sI, if_neg (by omega)]; exact f3
  · rw [mI_sI, if_neg (by omega)]; exact f4
  · rw [mI_sI, if_neg (by omega)]; exact f5 e
  · rw [mI_sI, if_pos ⟨rfl, rfl, rfl⟩]; rfl
  · rw [mI_sI, if_neg (by omega)]; exact f9
theorem c_fin {x : fy} {S S0 : fm} {A : AS} {c k : Nat} {r : Int64} {g : Nat → Bool} (h : CRel x S A) (hI : Inv x k A) (hc : c < 5) (hS : S0 = S ∧ r = kre (acl A c) ∨ ∃ f, S0 = sJ (rU S 2 0 f) 7 c 11 r) : CRel x (e_finish S0 c) (ucl A c (scl_end (acl A c) r g)) := by
  have ec : acl (ucl A c (scl_end (acl A c) r g)) c = scl_end (acl A c) r g := vu_s _ _ _
  obtain ⟨f1, f2, f3, f4, f5, f6, f7, f8, f9, f10, f11⟩ := h.1 c hc
  have k0 : ∀ k i, ¬ (k = 7 ∧ i = c) → k ≠ 2 → rk S S0 k i := by
    intro k i h7 h2
    rcases hS with ⟨e, _⟩ | ⟨f, e⟩
    · rw [e]; exact rk.rf S k i
    · rw [e]; exact (rk_rU S _ (by omega)).tr (rk_sJ _ _ h7)
  have hz : mZ S0 = mZ S := by rcases hS with ⟨e, _⟩ | ⟨f, e⟩ <;> rw [e] <;> rfl
  have hI7 : mI S0 = mI S := by rcases hS with ⟨e, _⟩ | ⟨f, e⟩ <;> rw [e] <;> rfl
  have hB : mB S0 = mB S := by rcases hS with ⟨e, _⟩ | ⟨f, e⟩ <;> rw [e] <;> rfl
  have hU : ∀ k i, k ≠ 2 → mU S0 k i = mU S k i := by
    intro k i hk
    rcases hS with ⟨e, _⟩ | ⟨f, e⟩
    · rw [e]
    · rw [e]; exact u2_n (by omega)
  have hJ10 : mJ S0 7 c 10 = mJ S 7 c 10 := by
    rcases hS with ⟨e, _⟩ | ⟨f, e⟩
    · rw [e]
    · rw [e, mJ_sJ, if_neg (by omega)]; rfl
  have hJ11 : mJ S0 7 c 11 = r := by
    rcases hS with ⟨e, e2⟩ | ⟨f, e⟩
    · rw [e, e2]; exact f8
    · rw [e, mJ_sJ, if_pos ⟨rfl, rfl, rfl⟩]
  refine h.cl hI (fun k i h7 _ _ h2 => (k0 k i h7 h2).tr (rk_finish S0 c h7)) hz (fun c' hc' => vu_n _ _ hc') rfl rfl (fun _ _ => rfl) ?_ (by show mU S0 7 c 3 ≤ 7; rw [hU 7 c (by omega)]; exact h.2.2.2.2.2.1.2.1 c) (fun j => by show mU S0 8 c j < 7; rw [hU 8 c (by omega)]; exact h.2.2.2.2.2.1.2.2 c j)
  have hv : ∀ q, mI (e_finish S0 c) 7 c q = if q = 12 then mI S 7 c 12 + 1 else if q = 5 then 0 else mI S 7 c q := by
    intro q
    unfold e_finish
    simp only [mI_sI, hI7]
    by_cases e12 : q = 12
    · simp [e12]
    · by_cases e5 : q = 5
      · simp [e5]
      · simp [e12, e5]
  have hU3 : mU (e_finish S0 c) 7 c 3 = mU S 7 c 3 := by show mU S0 7 c 3 = _; rw [hU 7 c (by omega)]
  unfold Cc
  rw [ec, hv 5, hv 6, hv 7, hv 9, hv 12, hU3]
  refine ⟨rfl, by show mB S0 7 c 4 = _; rw [hB]; exact f2, f3, f4, fun e => ?_, f6, by show mJ S0 7 c 10 = _; rw [hJ10]; exact f7, hJ11, by show mI S 7 c 12 + 1 = kfi (acl A c) + 1; rw [f9], f10, fun j hj => ⟨?_, fun e => absurd (show (0 : Int32) = 5 from e) (by decide)⟩⟩
  · rcases e with e | e
    · exact absurd (show (0 : Int32) = 1 from e) (by decide)
    · exact absurd (show (0 : Int32) = 4 from e) (by decide)
  · show _ = some (mU S0 8 c j)
    rw [hU 8 c (by omega)]
    exact (f11 j hj).1
theorem aq_tak (A : AS) (c s j : Nat) (b : Bool) (c' s' : Nat) : aq (a_tak A c s j) b c' s' = if b = true ∧ c' = c ∧ s' = s then (aq A true c s).eraseIdx j else aq A b c' s' := rfl
theorem c_take {x : fy} {S : fm} {A : AS} {c s j : Nat} (hO : fO x) (hc : c < 5) (hs : s < xN x) (h : CRel x S A) (hj : j < mU S 13 (100 + (c * xN x + s)) 1) : CRel x (e_take S (100 + (c * xN x + s)) j) (a_tak A c s j) := by
  obtain ⟨h1, h2, h3, h4, h5, h6, h7⟩ := h
  have st : ∀ k, k ≠ 13 → k ≠ 14 → sk S (e_take S (100 + (c * xN x + s)) j) k := fun k a b => sk_take S _ j ⟨a, b⟩
  refine ⟨fun c' hc' => (h1 c' hc').mono ((st 7 (by omega) (by omega)).rk c') ((st 8 (by omega) (by omega)).rk c') ((st 9 (by omega) (by omega)).rk c') rfl rfl, fun s' hs' => (h2 s' hs').mono ((st 10 (by omega) (by omega)).rk s') ((st 11 (by omega) (by omega)).rk s') ((st 12 (by omega) (by omega)).rk s') rfl (fun _ _ => rfl), fun c' s' hc' hs' => ?_, ?_, (h5.take hj).1, ⟨fun s' => ?_, fun c' => ?_, fun c' q => ?_⟩, h7⟩
  · obtain ⟨q1, q2⟩ := h3 c' s' hc' hs'
    have l1 := row_lt35 hO hc hs
    have l2 := row_lt35 hO hc' hs'
    have ef : aq (a_tak A c s j) false c' s' = aq A false c' s' := by rw [aq_tak, if_neg (fun z => by cases z.1)]
    unfold Cq
    rw [cq_take S _ hj, if_neg (by omega), ef]
    refine ⟨q1, ?_⟩
    rw [cq_take S _ hj]
    by_cases e : c' = c ∧ s' = s
    · obtain ⟨rfl, rfl⟩ := e
      rw [if_pos rfl, aq_tak, if_pos ⟨rfl, rfl, rfl⟩]
      exact rel_erase q2 j
    · rw [if_neg (fun z => e (row_inj hs' hs (by omega))), aq_tak, if_neg (fun z => e z.2)]
      exact q2
  · rw [(st 0 (by omega) (by omega)).1]; exact h4
  · rw [(st 10 (by omega) (by omega)).2.2.2.2]; exact h6.1 s'
  · rw [(st 7 (by omega) (by omega)).2.2.2.2]; exact h6.2.1 c'
  · rw [(st 8 (by omega) (by omega)).2.2.2.2]; exact h6.2.2 c' q
theorem c_hear {x : fy} {S : fm} {A : AS} {c s a k : Nat} {l : LA} (hO : fO x) (hc : c < 5) (hs : s < xN x) (h : CRel x S A) (hI : Inv x k A) (hl : LRr x A s (lt S a) l) (p1 : l.1 = kph (acl A c)) (p2 : l.2.2.1 = ktg (acl A c)) (p3 : khs (acl A c) s = false) (p4 : l.2.2.2.2 = true → l.1 = 5) : CRel x (e_hear x S c a s) (ucl A c (scl_hr (acl A c) s l.2.2.2.1 l.2.2.2.2)) := by
  have ec : acl (ucl A c (scl_hr (acl A c) s l.2.2.2.1 l.2.2.2.2)) c = scl_hr (acl A c) s l.2.2.2.1 l.2.2.2.2 := vu_s _ _ _
  obtain ⟨f1, f2, f3, f4, f5, f6, f7, f8, f9, f10, f11⟩ := h.1 c hc
  obtain ⟨l1, l2, l3, l4, l5, l6⟩ := hl
  have l4 : l.1 = 1 ∨ l.1 = 4 → mI S 15 a 4 = l.2.2.2.1 := l4
  have l5 : mB S 15 a 5 = l.2.2.2.2 := l5
  have l6 : l.2.2.2.2 = true → mJ S 15 a 3 = enc x (abk A l.2.2.1) s := l6
  have hN : xN x ≤ 7 := hO.2.2.2.1
  have hK : xK x ≤ xN x := hO.2.2.2.2.2.1
  have hI1 : ∀ q, mI (e_hear x S c a s) 7 c q = if q = 8 then jmax (mI S 7 c 8) (mI S 15 a 4) else if q = 7 then mI S 7 c 7 + 1 else mI S 7 c q := by
    intro q
    have e : mI (e_hear x S c a s) = mI (e_hear1 S c a) := by unfold e_hear; split <;> rfl
    rw [e]
    unfold e_hear1
    simp only [mI_sI]
    by_cases e8 : q = 8
    · simp [e8]
    · by_cases e7 : q = 7
      · simp [e7]
      · simp [e8, e7]
  have hB1 : mB (e_hear x S c a s) = mB S := by unfold e_hear; split <;> rfl
  have hJ1 : ∀ q, mJ (e_hear x S c a s) 7 c q = mJ S 7 c q := by
    intro q
    unfold e_hear
    split
    · unfold e_hear2
      rw [mJ_sU, mJ_sJ, if_neg (by omega)]; rfl
    · rfl
  have hU : mU (e_hear x S c a s) 7 c 3 = min (if l.2.2.2.2 = true then ksr (acl A c) ++ [s] else ksr (acl A c)).length (xK x) ∧ (∀ j, j < mU (e_hear x S c a s) 7 c 3 → (if l.2.2.2.2 = true then ksr (acl A c) ++ [s] else ksr (acl A c))[j]? = some (mU (e_hear x S c a s) 8 c j) ∧ (kph (acl A c) = 5 → mJ (e_hear x S c a s) 9 c j = enc x (abk A (ktg (acl A c))) (mU (e_hear x S c a s) 8 c j))) ∧ ∀ j, mU (e_hear x S c a s) 8 c j < 7 := by
    by_cases hcd : mB S 15 a 5 = true ∧ mU S 7 c 3 < xK x
    · have e : e_hear x S c a s = e_hear2 (e_hear1 S c a) c a s := if_pos hcd
      have hf : l.2.2.2.2 = true := by rw [← l5]; exact hcd.1
      have hlen : (ksr (acl A c)).length = mU S 7 c 3 := by have := hcd.2; omega
      rw [e, if_pos hf]
      have g3 : mU (e_hear2 (e_hear1 S c a) c a s) 7 c 3 = mU S 7 c 3 + 1 := by unfold e_hear2; rw [mU_sU, if_pos ⟨rfl, rfl, rfl⟩]; rfl
      have g8 : ∀ j, mU (e_hear2 (e_hear1 S c a) c a s) 8 c j = if j = mU S 7 c 3 then s else mU S 8 c j := by
        intro j
        unfold e_hear2
        rw [mU_sU, if_neg (by omega), mU_sJ, mU_sU, show mU (e_hear1 S c a) = mU S from rfl]
        by_cases ej : j = mU S 7 c 3
        · simp [ej]
        · simp [ej]
      have g9 : ∀ j, mJ (e_hear2 (e_hear1 S c a) c a s) 9 c j = if j = mU S 7 c 3 then mJ S 15 a 3 else mJ S 9 c j := by
        intro j
        unfold e_hear2
        rw [mJ_sU, mJ_sJ, mJ_sU, show mU (e_hear1 S c a) = mU S from rfl, show mJ (e_hear1 S c a) = mJ S from rfl]
        by_cases ej : j = mU S 7 c 3
        · simp [ej]
        · simp [ej]
      rw [g3]
      refine ⟨?_, fun j hj => ?_, fun j => ?_⟩
      · rw [List.length_append, hlen]
        show _ = min (_ + 1) _
        have := hcd.2
        omega
      · rw [g8, g9]
        by_cases ej : j = mU S 7 c 3
        · rw [if_pos ej, if_pos ej]
          refine ⟨?_, fun _ => ?_⟩
          · rw [ej, ← hlen, List.getElem?_append_right (Nat.le_refl _)]; simp
          · rw [l6 hf, p2]
        · rw [if_neg ej, if_neg ej]
          have hj2 : j < mU S 7 c 3 := by omega
          refine ⟨?_, (f11 j hj2).2⟩
          rw [List.getElem?_append_left (by omega)]
          exact (f11 j hj2).1
      · rw [g8]
        split
        · omega
        · exact h.2.2.2.2.2.1.2.2 c j
    · have e : e_hear x S c a s = e_hear1 S c a := if_neg hcd
      rw [e]
      have g3 : mU (e_hear1 S c a) = mU S := rfl
      have g9 : mJ (e_hear1 S c a) = mJ S := rfl
      rw [g3, g9]
      refine ⟨?_, fun j hj => ⟨?_, (f11 j hj).2⟩, h.2.2.2.2.2.1.2.2 c⟩
      · by_cases hf : l.2.2.2.2 = true
        · rw [if_pos hf, List.length_append]
          have : ¬ mU S 7 c 3 < xK x := fun z => hcd ⟨by rw [l5]; exact hf, z⟩
          show _ = min (_ + 1) _
          omega
        · rw [if_neg hf]; exact f10
      · by_cases hf : l.2.2.2.2 = true
        · rw [if_pos hf, List.getElem?_append_left (by omega)]
          exact (f11 j hj).1
        · rw [if_neg hf]; exact (f11 j hj).1
  refine h.cl hI (fun k i h7 h8 h9 _ => rk_hear x S c a s h7 h8 h9) (by unfold e_hear; split <;> rfl) (fun c' hc' => vu_n _ _ hc') rfl rfl (fun _ _ => rfl) ?_ (by rw [hU.1]; omega) hU.2.2
  unfold Cc
  rw [ec, hI1 5, hI1 6, hI1 7, hI1 8, hI1 9, hI1 12, hB1, hJ1, hJ1]
  refine ⟨f1, f2, f3, ?_, fun e => ?_, f6, f7, f8, f9, hU.1, hU.2.1⟩
  · show mI S 7 c 7 + 1 = nI (cnt (va_up (khs (acl A c)) s true) (xN x))
    rw [cnt_up p3 hs, f4, nI_1]
  · have e : kph (acl A c) = 1 ∨ kph (acl A c) = 4 := e
    show jmax (mI S 7 c 8) (mI S 15 a 4) = jmax (kbe (acl A c)) l.2.2.2.1
    rw [f5 e, l4 (by rw [p1]; exact e)]
