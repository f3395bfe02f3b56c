-- the protocol's own state, with what is remembered for the proof alone
abbrev CL : Type := Int32 × Bool × Nat × (Nat → Bool) × Int32 × Int32 × Int64 × Int64 × Int32 × List Nat × Int32 × (Nat → Bool)
def kph (u : CL) : Int32 := u.1
def kcr (u : CL) : Bool := u.2.1
def kag (u : CL) : Nat := u.2.2.1
def khs (u : CL) : Nat → Bool := u.2.2.2.1
def kbe (u : CL) : Int32 := u.2.2.2.2.1
def ktg (u : CL) : Int32 := u.2.2.2.2.2.1
def kbl (u : CL) : Int64 := u.2.2.2.2.2.2.1
def kre (u : CL) : Int64 := u.2.2.2.2.2.2.2.1
def kfi (u : CL) : Int32 := u.2.2.2.2.2.2.2.2.1
def ksr (u : CL) : List Nat := u.2.2.2.2.2.2.2.2.2.1
def kwt (u : CL) : Int32 := u.2.2.2.2.2.2.2.2.2.2.1
def kgq (u : CL) : Nat → Bool := u.2.2.2.2.2.2.2.2.2.2.2
abbrev SV : Type := Bool × Int32 × List Int32
abbrev LA : Type := Int32 × Nat × Int32 × Int32 × Bool
abbrev AS : Type := (Nat → CL) × (Nat → SV) × (Bool → Nat → Nat → List LA) × (Int32 → Int64)
def acl (A : AS) : Nat → CL := A.1
def asv (A : AS) : Nat → SV := A.2.1
def aq (A : AS) : Bool → Nat → Nat → List LA := A.2.2.1
def abk (A : AS) : Int32 → Int64 := A.2.2.2
def cnt (f : Nat → Bool) : Nat → Nat
  | 0 => 0
  | n + 1 => if f n = true then cnt f n + 1 else cnt f n
theorem cnt_s (f : Nat → Bool) (n : Nat) : cnt f (n + 1) = if f n = true then cnt f n + 1 else cnt f n := rfl
theorem cnt_le (f : Nat → Bool) : ∀ n, cnt f n ≤ n := by
  intro n
  induction n with
  | zero => exact Nat.le_refl _
  | succ n ih => rw [cnt_s]; split <;> omega
theorem cnt_congr {f g : Nat → Bool} : ∀ {n : Nat}, (∀ s, s < n → f s = g s) → cnt f n = cnt g n := by
  intro n
  induction n with
  | zero => intro _; rfl
  | succ n ih => intro h; rw [cnt_s, cnt_s, h n (by omega), ih (fun s hs => h s (by omega))]
theorem cnt_false (n : Nat) : cnt (fun _ => false) n = 0 := by
  induction n with
  | zero => rfl
  | succ n ih => rw [cnt_s, ih]; rfl
theorem cnt_up {f : Nat → Bool} {s : Nat} (hf : f s = false) : ∀ {n : Nat}, s < n → cnt (va_up f s true) n = cnt f n + 1 := by
  intro n
  induction n with
  | zero => intro h; omega
  | succ n ih =>
    intro h
    rw [cnt_s, cnt_s]
    by_cases hs : s = n
    · subst hs
      rw [vu_s, if_pos rfl, hf, if_neg (by decide), cnt_congr (g := f) (fun q hq => vu_n _ _ (by omega))]
    · rw [vu_n _ _ (fun h2 => hs h2.symm), ih (by omega)]
      split <;> rfl
theorem cnt_meet (f g : Nat → Bool) : ∀ n, n < cnt f n + cnt g n → ∃ s, s < n ∧ f s = true ∧ g s = true := by
  intro n
  induction n with
  | zero => intro h; simp [cnt] at h
  | succ n ih =>
    intro h
    rw [cnt_s, cnt_s] at h
    by_cases h1 : f n = true ∧ g n = true
    · exact ⟨n, by omega, h1.1, h1.2⟩
    · have h2 : n < cnt f n + cnt g n := by
        by_cases hf : f n = true
        · by_cases hg : g n = true
          · exact absurd ⟨hf, hg⟩ h1
          · rw [if_pos hf, if_neg hg] at h; omega
        · rw [if_neg hf] at h
          split at h <;> omega
      obtain ⟨s, a, b⟩ := ih h2
      exact ⟨s, by omega, b⟩
theorem quo2 (x : fy) (hO : fO x) : xN x < xQ x + xQ x ∧ xQ x ≤ xN x := by
  obtain ⟨-, -, h1, h2, h3, h4, -⟩ := hO
  unfold xQ xM
  omega
-- the steps
def ucl (A : AS) (c : Nat) (u : CL) : AS := (va_up (acl A) c u, asv A, aq A, abk A)
def usv (A : AS) (s : Nat) (v : SV) : AS := (acl A, va_up (asv A) s v, aq A, abk A)
def uq (A : AS) (b : Bool) (c s : Nat) (l : List LA) : AS := (acl A, asv A, fun b' c' s' => if b' = b ∧ c' = c ∧ s' = s then l else aq A b' c' s', abk A)
def ubk (A : AS) (t : Int32) (w : Int64) : AS := (acl A, asv A, aq A, fun u => if u = t then w else abk A u)
/-- a phase begins -/
def bcl (u : CL) (p : Int32) : CL := (p, kcr u, kag u + 1, fun _ => false, 0, ktg u, kbl u, kre u, kfi u, [], kwt u, kgq u)
def a_begin (x : fy) (A : AS) (c : Nat) (p : Int32) : AS := (va_up (acl A) c (bcl (acl A c) p), asv A, fun b' c' s' => if b' = false ∧ c' = c ∧ s' < xN x ∧ (asv A s').1 = false then aq A b' c' s' ++ [(p, kag (acl A c) + 1, ktg (acl A c), 0, false)] else aq A b' c' s', abk A)
def scl_bl (u : CL) (w : Int64) : CL := (kph u, kcr u, kag u, khs u, kbe u, ktg u, w, kre u, kfi u, ksr u, kwt u, kgq u)
def scl_tg (u : CL) (t w : Int32) : CL := (kph u, kcr u, kag u, khs u, kbe u, t, kbl u, kre u, kfi u, ksr u, w, kgq u)
def scl_cr (u : CL) : CL := (kph u, true, kag u, khs u, kbe u, ktg u, kbl u, kre u, kfi u, ksr u, kwt u, kgq u)
def scl_end (u : CL) (r : Int64) (g : Nat → Bool) : CL := (0, kcr u, kag u, khs u, kbe u, ktg u, kbl u, r, kfi u + 1, ksr u, kwt u, g)
def scl_hr (u : CL) (s : Nat) (sl : Int32) (f : Bool) : CL := (kph u, kcr u, kag u, va_up (khs u) s true, jmax (kbe u) sl, ktg u, kbl u, kre u, kfi u, (if f = true then ksr u ++ [s] else ksr u), kwt u, kgq u)
/-- a tag comes into a server's list -/
def stL (D : Nat) (t : Int32) (l : List Int32) : List Int32 := mk (insA (fun i => l.getD i 0) (insp (fun i => l.getD i 0) t l.length) l.length t) (min (l.length + 1) (D + 1))
def a_srv (x : fy) (v : SV) (l : LA) : SV := if l.1 = 2 then (v.1, v.2.1, stL (xD x) l.2.2.1 v.2.2) else if l.1 = 3 ∨ l.1 = 5 then (v.1, jmax v.2.1 l.2.2.1, v.2.2) else v
def a_rep (v : SV) (l : LA) : LA := (l.1, l.2.1, l.2.2.1, v.2.1, decide (l.1 = 5) && decide (l.2.2.1 ∈ v.2.2))
/-- a request is delivered -/
def a_del (x : fy) (A : AS) (c s j : Nat) (l : LA) : AS := uq (uq (usv A s (a_srv x (asv A s) l)) false c s ((aq A false c s).eraseIdx j)) true c s (aq A true c s ++ [a_rep (a_srv x (asv A s) l) l])
def a_cnt (A : AS) (c : Nat) (l : LA) : Bool := !kcr (acl A c) && (decide (kph (acl A c) ≠ 0) && decide (l.2.1 = kag (acl A c)))
def a_tak (A : AS) (c s j : Nat) : AS := uq A true c s ((aq A true c s).eraseIdx j)
def a_hr (A : AS) (c s j : Nat) (l : LA) : AS := ucl (a_tak A c s j) c (scl_hr (acl A c) s l.2.2.2.1 l.2.2.2.2)
def a_enough (x : fy) (A : AS) (c : Nat) : Prop := xQ x ≤ cnt (khs (acl A c)) (xN x) ∧ (kph (acl A c) = 5 → xK x ≤ (ksr (acl A c)).length)
def newtag (A : AS) (c : Nat) : Int32 := 8 * (kbe (acl A c) / 8 + 1) + nI c
def a_end (x : fy) (A : AS) (c : Nat) : AS :=
  if kph (acl A c) = 1 then a_begin x (ubk (ucl A c (scl_tg (acl A c) (newtag A c) (newtag A c))) (newtag A c) (kbl (acl A c))) c 2
  else if kph (acl A c) = 2 then a_begin x A c 3
  else if kph (acl A c) = 4 then a_begin x (ucl A c (scl_tg (acl A c) (kbe (acl A c)) (kwt (acl A c)))) c 5
  else if kph (acl A c) = 5 then ucl A c (scl_end (acl A c) (abk A (ktg (acl A c))) (kgq (acl A c)))
  else ucl A c (scl_end (acl A c) (kre (acl A c)) (khs (acl A c)))
def a_crash (A : AS) (s : Nat) : AS := (acl A, va_up (asv A) s (true, (asv A s).2), fun b' c' s' => if b' = false ∧ s' = s then [] else aq A b' c' s', abk A)
-- what holds
def okT (A : AS) (k : Nat) (t : Int32) : Prop := 0 ≤ t.toInt ∧ t.toInt ≤ 12 * (k : Int) ∧ (t = 0 ∨ ∃ c : Nat, c < 5 ∧ t.toInt % 8 = (c : Int) ∧ t.toInt ≤ (kwt (acl A c)).toInt)
def kp (p : Int32) : Nat := if p = 1 ∨ p = 4 then 1 else if p = 2 ∨ p = 5 then 2 else 3
/-- of a client -/
def Ic (x : fy) (k : Nat) (A : AS) (c : Nat) : Prop :=
  (kph (acl A c) = 0 ∨ kph (acl A c) = 1 ∨ kph (acl A c) = 2 ∨ kph (acl A c) = 3 ∨ kph (acl A c) = 4 ∨ kph (acl A c) = 5) ∧ kag (acl A c) ≤ k ∧ okT A k (ktg (acl A c)) ∧
  (0 ≤ (kwt (acl A c)).toInt ∧ (kwt (acl A c)).toInt ≤ 12 * (k : Int)) ∧ okT A k (kbe (acl A c)) ∧ (ksr (acl A c)).length ≤ cnt (khs (acl A c)) (xN x) ∧
  (∀ s, s ∈ ksr (acl A c) → s < xN x ∧ khs (acl A c) s = true) ∧ (ksr (acl A c)).Nodup ∧
  (kcr (acl A c) = false → kph (acl A c) = 2 ∨ kph (acl A c) = 3 → ktg (acl A c) = kwt (acl A c) ∧ (ktg (acl A c)).toInt % 8 = (c : Int) ∧ 0 < (ktg (acl A c)).toInt) ∧
  (kcr (acl A c) = false → kph (acl A c) ≠ 2 → kph (acl A c) ≠ 3 → xQ x ≤ cnt (kgq (acl A c)) (xN x) ∧ ∀ s, s < xN x → kgq (acl A c) s = true → (kwt (acl A c)).toInt ≤ ((asv A s).2.1).toInt) ∧
  (kcr (acl A c) = false → kph (acl A c) = 3 → ∀ s, s < xN x → khs (acl A c) s = true → (kwt (acl A c)).toInt ≤ ((asv A s).2.1).toInt) ∧
  (kcr (acl A c) = false → kph (acl A c) = 1 → ∀ s, s < xN x → kgq (acl A c) s = true → khs (acl A c) s = true → (kwt (acl A c)).toInt ≤ (kbe (acl A c)).toInt)
/-- of a server -/
def Is (x : fy) (k : Nat) (A : AS) (s : Nat) : Prop :=
  1 ≤ (asv A s).2.2.length ∧ (asv A s).2.2.length ≤ xD x + 1 ∧ (asv A s).2.2.Pairwise (fun a b => b.toInt < a.toInt) ∧ (∀ t, t ∈ (asv A s).2.2 → okT A k t) ∧ okT A k (asv A s).2.1
/-- of a letter between client c and server s -/
def Il (x : fy) (k : Nat) (A : AS) (c s : Nat) (b : Bool) (l : LA) : Prop :=
  (l.1 = 1 ∨ l.1 = 2 ∨ l.1 = 3 ∨ l.1 = 4 ∨ l.1 = 5) ∧ l.2.1 ≤ kag (acl A c) ∧ okT A k l.2.2.1 ∧ okT A k l.2.2.2.1 ∧ (b = false → l.2.2.2.2 = false) ∧ (l.2.2.2.2 = true → l.1 = 5) ∧
  (kcr (acl A c) = false → kph (acl A c) ≠ 0 → l.2.1 = kag (acl A c) → l.1 = kph (acl A c) ∧ l.2.2.1 = ktg (acl A c) ∧ khs (acl A c) s = false) ∧
  (b = false → l.1 = 2 → l.2.2.1.toInt % 8 = (c : Int) ∧ 0 < l.2.2.1.toInt ∧ l.2.2.1 ∉ (asv A s).2.2) ∧
  (b = true → kcr (acl A c) = false → l.2.1 = kag (acl A c) → kph (acl A c) = 3 → (kwt (acl A c)).toInt ≤ ((asv A s).2.1).toInt) ∧
  (b = true → kcr (acl A c) = false → l.2.1 = kag (acl A c) → kph (acl A c) = 1 → kgq (acl A c) s = true → (kwt (acl A c)).toInt ≤ (l.2.2.2.1).toInt)
/-- of a pair -/
def Ip (x : fy) (k : Nat) (A : AS) (c s : Nat) : Prop :=
  (∀ b l, l ∈ aq A b c s → Il x k A c s b l) ∧ ((aq A false c s ++ aq A true c s).map (fun l => l.2.1)).Nodup ∧
  (((aq A false c s).filter (fun l => decide (l.1 = 2))).map (fun l => l.2.2.1)).Nodup ∧
  (aq A false c s).length + (aq A true c s).length ≤ 7 ∧
  (kcr (acl A c) = false → kph (acl A c) ≠ 0 → (asv A s).1 = false → (aq A false c s).length + (aq A true c s).length ≤ 4 + kp (kph (acl A c)))
def Inv (x : fy) (k : Nat) (A : AS) : Prop := abk A 0 = 0 ∧ (∀ c, c < 5 → Ic x k A c) ∧ (∀ s, s < xN x → Is x k A s) ∧ (∀ c s, c < 5 → s < xN x → Ip x k A c s)
