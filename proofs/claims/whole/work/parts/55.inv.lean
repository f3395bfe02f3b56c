-- the end of a phase
theorem i32_nat {t : Int32} {m : Nat} (h0 : 0 ≤ t.toInt) (h1 : t.toInt ≤ (m : Int)) : ∃ n, n ≤ m ∧ t = nI n ∧ t.toInt = (n : Int) := ⟨t.toInt.toNat, by omega, (nI_self h0).symm, by omega⟩
theorem newtag_val {A : AS} {k c : Nat} (hk : k ≤ 100000) (hc : c < 5) (hb : okT A k (kbe (acl A c))) : (newtag A c).toInt % 8 = (c : Int) ∧ (kbe (acl A c)).toInt < (newtag A c).toInt ∧ (newtag A c).toInt ≤ 12 * ((k + 1 : Nat) : Int) ∧ 0 < (newtag A c).toInt := by
  obtain ⟨h, h1, h2, h3⟩ := i32_nat (m := 12 * k) hb.1 (by have := hb.2.1; omega)
  have e : newtag A c = nI (8 * (h / 8 + 1) + c) := by
    unfold newtag
    rw [h2, show (8 : Int32) = nI 8 from rfl, pk_div (by omega) (by omega) (by omega), nI_1, pk_mul, nI_add]
  rw [e, nI_toInt (by omega), h3]
  omega
theorem inv_fin {x : fy} {A : AS} {k c : Nat} {r : Int64} {g : Nat → Bool} (h : Inv x k A) (hc : c < 5) (hq : kcr (acl A c) = false → xQ x ≤ cnt g (xN x) ∧ ∀ s, s < xN x → g s = true → (kwt (acl A c)).toInt ≤ ((asv A s).2.1).toInt) : Inv x (k + 1) (ucl A c (scl_end (acl A c) r g)) := by
  obtain ⟨h0, hIc, hIs, hIp⟩ := h
  have ec : acl (ucl A c (scl_end (acl A c) r g)) c = scl_end (acl A c) r g := vu_s _ _ _
  have eo : ∀ c', c' ≠ c → acl (ucl A c (scl_end (acl A c) r g)) c' = acl A c' := fun c' h => vu_n _ _ h
  have hwt : ∀ c', c' < 5 → (kwt (acl A c')).toInt ≤ (kwt (acl (ucl A c (scl_end (acl A c) r g)) c')).toInt := by
    intro c' _
    by_cases h : c' = c
    · rw [h, ec]; exact Int.le_refl _
    · rw [eo c' h]; exact Int.le_refl _
  refine ⟨h0, fun c' hc' => ?_, fun s hs => (hIs s hs).mono (by omega) rfl hwt, fun c' s hc' hs => ?_⟩
  · by_cases h : c' = c
    · subst h
      obtain ⟨h1, h2, h3, h4, h5, h6, h7, h8, h9, h10, h11, h12⟩ := hIc c' hc'
      unfold Ic
      rw [ec]
      exact ⟨Or.inl rfl, by show kag (acl A c') ≤ k + 1; omega, h3.mono (by omega) hwt, ⟨h4.1, by show (kwt (acl A c')).toInt ≤ _; omega⟩, h5.mono (by omega) hwt, h6, h7, h8, (fun _ a => by rcases a with a | a; exact absurd (show (0 : Int32) = 2 from a) (by decide); exact absurd (show (0 : Int32) = 3 from a) (by decide)), (fun a _ _ => hq a), (fun _ a => absurd (show (0 : Int32) = 3 from a) (by decide)), (fun _ a => absurd (show (0 : Int32) = 1 from a) (by decide))⟩
    · exact (hIc c' hc').mono (by omega) (eo c' h) hwt (fun _ _ => Int.le_refl _)
  · by_cases h : c' = c
    · subst h
      obtain ⟨h1, h2, h3, h4, h5⟩ := hIp c' s hc' hs
      refine ⟨fun b l hl => ?_, h2, h3, h4, fun _ a => ?_⟩
      · obtain ⟨i1, i2, i3, i4, i5, i6, i7, i8, i9, i10⟩ := h1 b l hl
        unfold Il
        rw [ec]
        exact ⟨i1, i2, i3.mono (by omega) hwt, i4.mono (by omega) hwt, i5, i6, (fun _ a => absurd rfl a), i8, (fun _ _ _ a => absurd (show (0 : Int32) = 3 from a) (by decide)), (fun _ _ _ a => absurd (show (0 : Int32) = 1 from a) (by decide))⟩
      · rw [ec] at a; exact absurd rfl a
    · exact (hIp c' s hc' hs).mono (by omega) (eo c' h) hwt (Int.le_refl _) (fun z => z) (fun _ _ _ z => z) (fun _ => rfl)
theorem Jl.mono {x : fy} {A A' : AS} {k k' c s : Nat} {b : Bool} {l : LA} (h : Jl x k A c s b l) (hk : k ≤ k') (hc : kag (acl A' c) = kag (acl A c)) (hw : ∀ c, c < 5 → (kwt (acl A c)).toInt ≤ (kwt (acl A' c)).toInt) (ht : (asv A' s).2.2 = (asv A s).2.2) : Jl x k' A' c s b l := by
  obtain ⟨h1, h2, h3, h4, h5, h6, h7⟩ := h
  unfold Jl
  rw [hc, ht]
  exact ⟨h1, h2, h3.mono hk hw, h4.mono hk hw, h5, h6, h7⟩
/-- a next phase, after the client's tag was set -/
theorem inv_next {x : fy} {A A1 : AS} {k c : Nat} {p : Int32} (h : Inv x k A) (hc : c < 5) (hp : p = 1 ∨ p = 2 ∨ p = 3 ∨ p = 4 ∨ p = 5) (h0 : abk A1 0 = 0) (eo : ∀ c', c' ≠ c → acl A1 c' = acl A c') (es : asv A1 = asv A) (eq : aq A1 = aq A) (ea : kag (acl A1 c) = kag (acl A c)) (ec : kcr (acl A1 c) = kcr (acl A c)) (eg : kgq (acl A1 c) = kgq (acl A c))
    (hwl : (kwt (acl A c)).toInt ≤ (kwt (acl A1 c)).toInt) (hwu : (kwt (acl A1 c)).toInt ≤ 12 * ((k + 1 : Nat) : Int)) (ht : okT A1 (k + 1) (ktg (acl A1 c)))
    (hn : ∀ s, s < xN x → (asv A s).1 = false → (aq A false c s).length + (aq A true c s).length + 1 ≤ 4 + kp p)
    (h23 : kcr (acl A c) = false → p = 2 ∨ p = 3 → ktg (acl A1 c) = kwt (acl A1 c) ∧ (ktg (acl A1 c)).toInt % 8 = (c : Int) ∧ 0 < (ktg (acl A1 c)).toInt)
    (hq : kcr (acl A c) = false → p ≠ 2 → p ≠ 3 → kwt (acl A1 c) = kwt (acl A c) ∧ xQ x ≤ cnt (kgq (acl A c)) (xN x) ∧ ∀ s, s < xN x → kgq (acl A c) s = true → (kwt (acl A c)).toInt ≤ ((asv A s).2.1).toInt)
    (hfr : p = 2 → (ktg (acl A1 c)).toInt % 8 = (c : Int) ∧ 0 < (ktg (acl A1 c)).toInt ∧ (kwt (acl A c)).toInt < (ktg (acl A1 c)).toInt) :
    Inv x (k + 1) (a_begin x A1 c p) := by
  obtain ⟨-, hIc, hIs, hIp⟩ := h
  have hwt : ∀ c', c' < 5 → (kwt (acl A c')).toInt ≤ (kwt (acl A1 c')).toInt := by
    intro c' _
    by_cases h : c' = c
    · rw [h]; exact hwl
    · rw [eo c' h]; exact Int.le_refl _
  obtain ⟨g1, g2, g3, g4, -⟩ := hIc c hc
  have fresh : p = 2 → ∀ u, okT A k u → u.toInt % 8 = (c : Int) → 0 < u.toInt → u ≠ ktg (acl A1 c) := by
    intro hp2 u hu _ _ he
    obtain ⟨f1, f2, f3⟩ := hfr hp2
    rcases hu.2.2 with h0 | ⟨c2, hc2, h2, h3⟩
    · rw [← he, h0] at f2; exact absurd f2 (by decide)
    · rw [he] at h2 h3
      have : c2 = c := by omega
      subst this
      omega
  refine inv_begin hc hp h0 (fun c' hc' hne => (hIc c' hc').mono (by omega) (eo c' hne) hwt (fun _ _ => by rw [es]; exact Int.le_refl _)) (fun s hs => (hIs s hs).mono (by omega) (by rw [es]) hwt) (fun c' s hc' hs hne => (hIp c' s hc' hs).mono (by omega) (eo c' hne) hwt (by rw [es]; exact Int.le_refl _) (by rw [es]; exact fun z => z) (by rw [es]; exact fun _ _ _ z => z) (fun b => by rw [eq])) (by rw [ea]; omega) ht ⟨Int.le_trans g4.1 hwl, hwu⟩ (fun s b l hs hl => ?_) (fun s hs => ?_) (by rw [ec]; exact h23) (fun a b d => ?_) (fun hp2 => ?_)
  · rw [eq] at hl
    exact ((hIp c s hc hs).1 b l hl).weak.mono (by omega) ea hwt (by rw [es])
  · obtain ⟨i1, i2, i3, i4, i5⟩ := hIp c s hc hs
    rw [eq, es]
    exact ⟨i2, i3, i4, hn s hs⟩
  · rw [ec] at a
    obtain ⟨q1, q2, q3⟩ := hq a b d
    rw [eg, q1, es]
    exact ⟨q2, q3⟩
  · obtain ⟨f1, f2, f3⟩ := hfr hp2
    refine ⟨f1, f2, fun s hs => ⟨fun hm => ?_, fun l hl hl2 => ?_⟩⟩
    · rw [es] at hm
      have hk := (hIs s hs).2.2.2.1 _ hm
      exact fresh hp2 _ hk f1 f2 rfl
    · rw [eq] at hl
      have hi := (hIp c s hc hs).1 false l hl
      have h8 := hi.2.2.2.2.2.2.2.1 rfl hl2
      exact fresh hp2 _ hi.2.2.1 h8.1 h8.2.1
theorem inv_end {x : fy} {A : AS} {k c : Nat} (hO : fO x) (hk : k ≤ 100000) (h : Inv x k A) (hc : c < 5) (hcr : kcr (acl A c) = false) (hph : kph (acl A c) ≠ 0) (he : a_enough x A c) : Inv x (k + 1) (a_end x A c) := by
  have hI := h
  obtain ⟨h0, hIc, hIs, hIp⟩ := h
  obtain ⟨g1, g2, g3, g4, g5, g6, g7, g8, g9, g10, g11, g12⟩ := hIc c hc
  have hsz : ∀ s, s < xN x → (asv A s).1 = false → (aq A false c s).length + (aq A true c s).length ≤ 4 + kp (kph (acl A c)) := fun s hs hd => (hIp c s hc hs).2.2.2.2 hcr hph hd
  unfold a_end
  by_cases e1 : kph (acl A c) = 1
  · rw [if_pos e1]
    obtain ⟨t1, t2, t3, t4⟩ := newtag_val hk hc g5
    obtain ⟨q1, q2⟩ := g10 hcr (by rw [e1]; decide) (by rw [e1]; decide)
    obtain ⟨m1, m2⟩ := quo2 x hO
    obtain ⟨s1, hs1, hs2, hs3⟩ := cnt_meet (khs (acl A c)) (kgq (acl A c)) (xN x) (by have := he.1; omega)
    have hwb := g12 hcr e1 s1 hs1 hs3 hs2
    have ne0 : newtag A c ≠ 0 := fun q => by rw [q] at t4; exact absurd t4 (by decide)
    have ecc : acl (ubk (ucl A c (scl_tg (acl A c) (newtag A c) (newtag A c))) (newtag A c) (kbl (acl A c))) c = scl_tg (acl A c) (newtag A c) (newtag A c) := vu_s _ _ _
    refine inv_next hI hc (by decide) ?_ (fun c' hne => vu_n _ _ hne) rfl rfl (by rw [ecc]; rfl) (by rw [ecc]; rfl) (by rw [ecc]; rfl) ?_ ?_ ?_ ?_ ?_ ?_ ?_
    · show (if (0 : Int32) = newtag A c then _ else abk A 0) = 0
      rw [if_neg (fun q => ne0 q.symm)]; exact h0
    · rw [ecc]; show _ ≤ (newtag A c).toInt; omega
    · rw [ecc]; exact t3
    · rw [ecc]
      refine ⟨by show 0 ≤ (newtag A c).toInt; omega, t3, Or.inr ⟨c, hc, t1, ?_⟩⟩
      rw [ecc]; exact Int.le_refl _
    · intro s hs hd
      have := hsz s hs hd
      rw [e1] at this
      exact Nat.succ_le_succ this
    · intro _ _; rw [ecc]; exact ⟨rfl, t1, t4⟩
    · intro _ q; exact absurd rfl q
    · intro _; rw [ecc]; exact ⟨t1, t4, by show _ < (newtag A c).toInt; omega⟩
  · rw [if_neg e1]
    by_cases e2 : kph (acl A c) = 2
    · rw [if_pos e2]
      obtain ⟨r1, r2, r3⟩ := g9 hcr (Or.inl e2)
      refine inv_next hI hc (by decide) h0 (fun _ _ => rfl) rfl rfl rfl rfl rfl (Int.le_refl _) (by omega) (g3.mono (by omega) (fun _ _ => Int.le_refl _)) ?_ ?_ ?_ ?_
      · intro s hs hd
        have := hsz s hs hd
        rw [e2] at this
        exact Nat.succ_le_succ this
      · intro _ _; exact ⟨r1, r2, r3⟩
      · intro _ _ q; exact absurd rfl q
      · intro q; exact absurd q (by decide)
    · rw [if_neg e2]
      by_cases e4 : kph (acl A c) = 4
      · rw [if_pos e4]
        obtain ⟨q1, q2⟩ := g10 hcr (by rw [e4]; decide) (by rw [e4]; decide)
        have ecc : acl (ucl A c (scl_tg (acl A c) (kbe (acl A c)) (kwt (acl A c)))) c = scl_tg (acl A c) (kbe (acl A c)) (kwt (acl A c)) := vu_s _ _ _
        have hww : ∀ c', c' < 5 → (kwt (acl A c')).toInt ≤ (kwt (acl (ucl A c (scl_tg (acl A c) (kbe (acl A c)) (kwt (acl A c)))) c')).toInt := by
          intro c' _
          by_cases h : c' = c
          · rw [h, ecc]; exact Int.le_refl _
          · rw [show acl (ucl A c (scl_tg (acl A c) (kbe (acl A c)) (kwt (acl A c)))) c' = acl A c' from vu_n _ _ h]; exact Int.le_refl _
        refine inv_next hI hc (by decide) h0 (fun c' hne => vu_n _ _ hne) rfl rfl (by rw [ecc]; rfl) (by rw [ecc]; rfl) (by rw [ecc]; rfl) (by rw [ecc]; exact Int.le_refl _) (by rw [ecc]; show (kwt (acl A c)).toInt ≤ _; omega) ?_ ?_ ?_ ?_ ?_
        · rw [ecc]; exact g5.mono (by omega) hww
        · intro s hs hd
          have := hsz s hs hd
          rw [e4] at this
          exact Nat.succ_le_succ this
        · intro _ q; rcases q with q | q <;> exact absurd q (by decide)
        · intro _ _ _; rw [ecc]; exact ⟨rfl, q1, q2⟩
        · intro q; exact absurd q (by decide)
      · rw [if_neg e4]
        by_cases e5 : kph (acl A c) = 5
        · rw [if_pos e5]
          exact inv_fin hI hc (fun a => g10 a (by rw [e5]; decide) (by rw [e5]; decide))
        · rw [if_neg e5]
          have e3 : kph (acl A c) = 3 := by
            rcases g1 with q | q | q | q | q | q
            · exact absurd q hph
            · exact absurd q e1
            · exact absurd q e2
            · exact q
            · exact absurd q e4
            · exact absurd q e5
          exact inv_fin hI hc (fun a => ⟨he.1, g11 a e3⟩)
