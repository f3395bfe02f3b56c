-- the steps keep what holds
theorem okT.mono {A A' : AS} {k k' : Nat} {t : Int32} (h : okT A k t) (hk : k ≤ k') (hw : ∀ c, c < 5 → (kwt (acl A c)).toInt ≤ (kwt (acl A' c)).toInt) : okT A' k' t := by
  obtain ⟨h1, h2, h3⟩ := h
  refine ⟨h1, by omega, ?_⟩
  rcases h3 with h3 | ⟨c, hc, h4, h5⟩
  · exact Or.inl h3
  · exact Or.inr ⟨c, hc, h4, Int.le_trans h5 (hw c hc)⟩
theorem okT.zero (A : AS) (k : Nat) : okT A k 0 := ⟨by decide, by show (0 : Int) ≤ _; omega, Or.inl rfl⟩
theorem Ic.mono {x : fy} {A A' : AS} {k k' c : Nat} (h : Ic x k A c) (hk : k ≤ k') (hc : acl A' c = acl A c) (hw : ∀ c, c < 5 → (kwt (acl A c)).toInt ≤ (kwt (acl A' c)).toInt) (hs : ∀ s, s < xN x → ((asv A s).2.1).toInt ≤ ((asv A' s).2.1).toInt) : Ic x k' A' c := by
  obtain ⟨h1, h2, h3, h4, h5, h6, h7, h8, h9, h10, h11, h12⟩ := h
  unfold Ic
  rw [hc]
  exact ⟨h1, by omega, h3.mono hk hw, ⟨h4.1, by omega⟩, h5.mono hk hw, h6, h7, h8, h9, fun a b d => ⟨(h10 a b d).1, fun s e f => Int.le_trans ((h10 a b d).2 s e f) (hs s e)⟩, fun a b s e f => Int.le_trans (h11 a b s e f) (hs s e), h12⟩
theorem Is.mono {x : fy} {A A' : AS} {k k' s : Nat} (h : Is x k A s) (hk : k ≤ k') (hc : (asv A' s).2 = (asv A s).2) (hw : ∀ c, c < 5 → (kwt (acl A c)).toInt ≤ (kwt (acl A' c)).toInt) : Is x k' A' s := by
  obtain ⟨h1, h2, h3, h4, h5⟩ := h
  unfold Is
  rw [hc]
  exact ⟨h1, h2, h3, fun t ht => (h4 t ht).mono hk hw, h5.mono hk hw⟩
/-- what holds of a letter whatever its client does -/
def Jl (x : fy) (k : Nat) (A : AS) (c s : Nat) (b : Bool) (l : LA) : Prop :=
  (l.1 = 1 ∨ l.1 = 2 ∨ l.1 = 3 ∨ l.1 = 4 ∨ l.1 = 5) ∧ l.2.1 ≤ kag (acl A c) ∧ okT A k l.2.2.1 ∧ okT A k l.2.2.2.1 ∧ (b = false → l.2.2.2.2 = false) ∧ (l.2.2.2.2 = true → l.1 = 5) ∧
  (b = false → l.1 = 2 → l.2.2.1.toInt % 8 = (c : Int) ∧ 0 < l.2.2.1.toInt ∧ l.2.2.1 ∉ (asv A s).2.2)
theorem Il.weak {x : fy} {k : Nat} {A : AS} {c s : Nat} {b : Bool} {l : LA} (h : Il x k A c s b l) : Jl x k A c s b l := ⟨h.1, h.2.1, h.2.2.1, h.2.2.2.1, h.2.2.2.2.1, h.2.2.2.2.2.1, h.2.2.2.2.2.2.2.1⟩
theorem Il.mono {x : fy} {A A' : AS} {k k' c s : Nat} {b : Bool} {l : LA} (h : Il x k A c s b l) (hk : k ≤ k') (hc : acl A' c = acl A c) (hw : ∀ c, c < 5 → (kwt (acl A c)).toInt ≤ (kwt (acl A' c)).toInt) (hs : ((asv A s).2.1).toInt ≤ ((asv A' s).2.1).toInt) (ht : b = false → l.1 = 2 → l.2.2.1 ∉ (asv A s).2.2 → l.2.2.1 ∉ (asv A' s).2.2) : Il x k' A' c s b l := by
  obtain ⟨h1, h2, h3, h4, h5, h6, h7, h8, h9, h10⟩ := h
  unfold Il
  rw [hc]
  exact ⟨h1, h2, h3.mono hk hw, h4.mono hk hw, h5, h6, h7, fun a b => ⟨(h8 a b).1, (h8 a b).2.1, ht a b (h8 a b).2.2⟩, fun a b d e => Int.le_trans (h9 a b d e) hs, h10⟩
theorem Ip.mono {x : fy} {A A' : AS} {k k' c s : Nat} (h : Ip x k A c s) (hk : k ≤ k') (hc : acl A' c = acl A c) (hw : ∀ c, c < 5 → (kwt (acl A c)).toInt ≤ (kwt (acl A' c)).toInt) (hs : ((asv A s).2.1).toInt ≤ ((asv A' s).2.1).toInt) (hd : (asv A' s).1 = false → (asv A s).1 = false) (ht : ∀ l, l ∈ aq A false c s → l.1 = 2 → l.2.2.1 ∉ (asv A s).2.2 → l.2.2.1 ∉ (asv A' s).2.2) (hq : ∀ b, aq A' b c s = aq A b c s) : Ip x k' A' c s := by
  obtain ⟨h1, h2, h3, h4, h5⟩ := h
  unfold Ip
  rw [hq false, hq true, hc]
  refine ⟨fun b l hl => ?_, h2, h3, h4, fun a b d => h5 a b (hd d)⟩
  rw [hq b] at hl
  exact (h1 b l hl).mono hk hc hw hs (fun e f g => ht l (by rw [e] at hl; exact hl) f g)
theorem Inv.mono {x : fy} {A : AS} {k k' : Nat} (h : Inv x k A) (hk : k ≤ k') : Inv x k' A :=
  ⟨h.1, fun c hc => (h.2.1 c hc).mono hk rfl (fun _ _ => Int.le_refl _) (fun _ _ => Int.le_refl _), fun s hs => (h.2.2.1 s hs).mono hk rfl (fun _ _ => Int.le_refl _), fun c s hc hs => (h.2.2.2 c s hc hs).mono hk rfl (fun _ _ => Int.le_refl _) (Int.le_refl _) (fun z => z) (fun _ _ _ z => z) (fun _ => rfl)⟩
theorem aq_begin (x : fy) (A : AS) (c : Nat) (p : Int32) (b : Bool) (c' s : Nat) : aq (a_begin x A c p) b c' s = if b = false ∧ c' = c ∧ s < xN x ∧ (asv A s).1 = false then aq A b c' s ++ [(p, kag (acl A c) + 1, ktg (acl A c), 0, false)] else aq A b c' s := rfl
/-- a phase begins -/
theorem inv_begin {x : fy} {A : AS} {k c : Nat} {p : Int32} (hc : c < 5) (hp : p = 1 ∨ p = 2 ∨ p = 3 ∨ p = 4 ∨ p = 5)
    (h0 : abk A 0 = 0) (hIc : ∀ c', c' < 5 → c' ≠ c → Ic x k A c') (hIs : ∀ s, s < xN x → Is x k A s) (hIp : ∀ c' s, c' < 5 → s < xN x → c' ≠ c → Ip x k A c' s)
    (ha : kag (acl A c) + 1 ≤ k) (ht : okT A k (ktg (acl A c))) (hw : 0 ≤ (kwt (acl A c)).toInt ∧ (kwt (acl A c)).toInt ≤ 12 * (k : Int))
    (hl : ∀ s b l, s < xN x → l ∈ aq A b c s → Jl x k A c s b l)
    (hn : ∀ s, s < xN x → ((aq A false c s ++ aq A true c s).map (fun l => l.2.1)).Nodup ∧ (((aq A false c s).filter (fun l => decide (l.1 = 2))).map (fun l => l.2.2.1)).Nodup ∧ (aq A false c s).length + (aq A true c s).length ≤ 7 ∧ ((asv A s).1 = false → (aq A false c s).length + (aq A true c s).length + 1 ≤ 4 + kp p))
    (h23 : kcr (acl A c) = false → p = 2 ∨ p = 3 → ktg (acl A c) = kwt (acl A c) ∧ (ktg (acl A c)).toInt % 8 = (c : Int) ∧ 0 < (ktg (acl A c)).toInt)
    (hq : kcr (acl A c) = false → p ≠ 2 → p ≠ 3 → xQ x ≤ cnt (kgq (acl A c)) (xN x) ∧ ∀ s, s < xN x → kgq (acl A c) s = true → (kwt (acl A c)).toInt ≤ ((asv A s).2.1).toInt)
    (hfr : p = 2 → (ktg (acl A c)).toInt % 8 = (c : Int) ∧ 0 < (ktg (acl A c)).toInt ∧ ∀ s, s < xN x → ktg (acl A c) ∉ (asv A s).2.2 ∧ ∀ l, l ∈ aq A false c s → l.1 = 2 → l.2.2.1 ≠ ktg (acl A c)) :
    Inv x k (a_begin x A c p) := by
  have ec : acl (a_begin x A c p) c = bcl (acl A c) p := vu_s _ _ _
  have eo : ∀ c', c' ≠ c → acl (a_begin x A c p) c' = acl A c' := fun c' h => vu_n _ _ h
  have hwt : ∀ c', c' < 5 → (kwt (acl A c')).toInt ≤ (kwt (acl (a_begin x A c p) c')).toInt := by
    intro c' _
    by_cases h : c' = c
    · rw [h, ec]; exact Int.le_refl _
    · rw [eo c' h]; exact Int.le_refl _
  have hp7 : kp p ≤ 3 := by unfold kp; split; omega; split <;> omega
  refine ⟨h0, fun c' hc' => ?_, fun s hs => (hIs s hs).mono (Nat.le_refl _) rfl hwt, fun c' s hc' hs => ?_⟩
  · by_cases h : c' = c
    · subst h
      unfold Ic
      rw [ec]
      refine ⟨?_, ?_, ht.mono (Nat.le_refl _) hwt, hw, okT.zero _ _, ?_, ?_, ?_, ?_, ?_, ?_, ?_⟩
      · exact Or.inr hp
      · exact ha
      · show ([] : List Nat).length ≤ _; exact Nat.zero_le _
      · intro s hs; exact absurd hs List.not_mem_nil
      · exact List.nodup_nil
      · exact h23
      · intro a b d; exact hq a b d
      · intro a b s e f; cases f
      · intro a b s e f g; cases g
    · exact (hIc c' hc' h).mono (Nat.le_refl _) (eo c' h) hwt (fun _ _ => Int.le_refl _)
  · by_cases h : c' = c
    · subst h
      obtain ⟨n1, n2, n3, n4⟩ := hn s hs
      have et : aq (a_begin x A c' p) true c' s = aq A true c' s := by rw [aq_begin, if_neg (fun q => by cases q.1)]
      have hold : ∀ b l, l ∈ aq A b c' s → Il x k (a_begin x A c' p) c' s b l := by
        intro b l hl1
        obtain ⟨j1, j2, j3, j4, j5, j6, j7⟩ := hl s b l hs hl1
        have hne : l.2.1 ≠ kag (acl A c') + 1 := by omega
        unfold Il
        rw [ec]
        exact ⟨j1, by show l.2.1 ≤ kag (acl A c') + 1; omega, j3.mono (Nat.le_refl _) hwt, j4.mono (Nat.le_refl _) hwt, j5, j6, fun _ _ e => absurd e hne, j7, fun _ _ e => absurd e hne, fun _ _ e => absurd e hne⟩
      by_cases hd : (asv A s).1 = false
      · have ef : aq (a_begin x A c' p) false c' s = aq A false c' s ++ [(p, kag (acl A c') + 1, ktg (acl A c'), 0, false)] := if_pos ⟨rfl, rfl, hs, hd⟩
        unfold Ip
        rw [ef, et, ec]
        refine ⟨fun b l hl1 => ?_, ?_, ?_, ?_, ?_⟩
        · cases b with
          | true => rw [et] at hl1; exact hold true l hl1
          | false =>
            rw [ef] at hl1
            rcases List.mem_append.mp hl1 with h1 | h1
            · exact hold false l h1
            · rw [List.mem_singleton.mp h1]
              unfold Il
              rw [ec]
              refine ⟨hp, Nat.le_refl _, ht.mono (Nat.le_refl _) hwt, okT.zero _ _, fun _ => rfl, (fun e => by cases e), fun _ _ _ => ⟨rfl, rfl, rfl⟩, fun _ e => ?_, (fun e => by cases e), (fun e => by cases e)⟩
              have h2 := hfr e
              exact ⟨h2.1, h2.2.1, (h2.2.2 s hs).1⟩
        · rw [List.map_append, List.map_append]
          rw [List.map_append] at n1
          have hnew : ∀ b l, l ∈ aq A b c' s → l.2.1 ≠ kag (acl A c') + 1 := fun b l hl1 => by have := (hl s b l hs hl1).2.1; omega
          rw [List.append_assoc, List.nodup_append]
          rw [List.nodup_append] at n1
          refine ⟨n1.1, ?_, ?_⟩
          · rw [List.map_cons, List.map_nil, List.singleton_append, List.nodup_cons]
            refine ⟨fun hm => ?_, n1.2.1⟩
            obtain ⟨l, hl1, hl2⟩ := List.mem_map.mp hm
            exact hnew true l hl1 hl2
          · intro a ha1 b hb1
            rw [List.map_cons, List.map_nil, List.singleton_append] at hb1
            rcases List.mem_cons.mp hb1 with hb2 | hb2
            · obtain ⟨l, hl1, hl2⟩ := List.mem_map.mp ha1
              rw [hb2, ← hl2]
              exact hnew false l hl1
            · exact n1.2.2 a ha1 b hb2
        · rw [List.filter_append, List.map_append, List.nodup_append]
          refine ⟨n2, ?_, ?_⟩
          · by_cases h2 : p = 2 <;> simp [h2]
          · intro a ha1 b hb1
            obtain ⟨l, hl1, hl2⟩ := List.mem_map.mp ha1
            obtain ⟨hl3, hl4⟩ := List.mem_filter.mp hl1
            by_cases h2 : p = 2
            · simp [h2] at hb1
              rw [hb1, ← hl2]
              exact ((hfr h2).2.2 s hs).2 l hl3 (by simpa using hl4)
            · simp [h2] at hb1
        · rw [List.length_append]
          have := n4 hd
          show _ + 1 + _ ≤ 7
          omega
        · intro _ _ _
          rw [List.length_append]
          have := n4 hd
          show _ + 1 + _ ≤ 4 + kp p
          omega
      · have ef : aq (a_begin x A c' p) false c' s = aq A false c' s := if_neg (fun q => hd q.2.2.2)
        unfold Ip
        rw [ef, et]
        refine ⟨fun b l hl1 => ?_, n1, n2, n3, fun _ _ d => absurd d hd⟩
        cases b with
        | true => rw [et] at hl1; exact hold true l hl1
        | false => rw [ef] at hl1; exact hold false l hl1
    · have eq : ∀ b, aq (a_begin x A c p) b c' s = aq A b c' s := fun b => if_neg (fun q => h q.2.1)
      exact (hIp c' s hc' hs h).mono (Nat.le_refl _) (eo c' h) hwt (Int.le_refl _) (fun z => z) (fun _ _ _ z => z) eq
