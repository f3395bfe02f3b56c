-- what each method of the reference does to the memory
def mL (S : fm) : Nat := mU S 16 0 18
def n_send (S : fm) (b : Bool) (c s : Nat) (p w : Int32) : fm := sU (sJ (sI (sB (sI (sI (sI (sI (sB S 39 0 (mL S) b) 41 0 (mL S) (nI c)) 42 0 (mL S) (nI s)) 44 0 (mL S) p) 43 0 (mL S) w) 40 0 (mL S) false) 45 0 (mL S) (mI S 28 0 c)) 46 0 (mL S) (mJ S 30 0 c)) 16 0 18 (mL S + 1)
def n_shift (S : fm) (at_ n : Nat) : fm := rJ (rI (rI (rI (rI (rI (rB (rB S 39 0 (tkA (mB S 39 0) at_ n)) 40 0 (tkA (mB S 40 0) at_ n)) 41 0 (tkA (mI S 41 0) at_ n)) 42 0 (tkA (mI S 42 0) at_ n)) 43 0 (tkA (mI S 43 0) at_ n)) 44 0 (tkA (mI S 44 0) at_ n)) 45 0 (tkA (mI S 45 0) at_ n)) 46 0 (tkA (mJ S 46 0) at_ n)
def n_lose (S : fm) (at_ : Nat) : fm := n_shift (sU S 16 0 18 (mL S - 1)) at_ (mL S - 1)
def n_match (S : fm) (b : Bool) (c s : Nat) (i : Nat) : Bool := (mB S 39 0 i == b) && (decide (mI S 41 0 i = nI c) && decide (mI S 42 0 i = nI s))
def n_cnt (S : fm) (b : Bool) (c s : Nat) : Nat → Nat
  | 0 => 0
  | n + 1 => if n_match S b c s n = true then n_cnt S b c s n + 1 else n_cnt S b c s n
def n_seek (S : fm) (b : Bool) (c s : Nat) (j : Int32) : Option Nat := (List.range (mL S)).find? (fun i => n_match S b c s i && decide (nI (n_cnt S b c s i) = j))
def n_crowd (x : fy) (S : fm) (c : Nat) : Bool := (List.range (xN x)).any (fun s => !mB S 33 0 s && decide (4 < n_cnt S false c s (mL S) + n_cnt S true c s (mL S)))
def n_beg0 (S : fm) (c : Nat) (p : Int32) : fm := sI (sI (sI (sI (sI S 23 0 c p) 24 0 c (mI S 24 0 c + 1)) 25 0 c 0) 26 0 c 0) 27 0 c 0
def n_beg1 (S : fm) (c s : Nat) (p : Int32) : fm := if mB S 33 0 s = true then S else n_send S false c s p (mI S 24 0 c)
def n_begs (S : fm) (c : Nat) (p : Int32) : Nat → fm
  | 0 => S
  | s + 1 => n_beg1 (n_begs S c p s) c s p
def n_begin (x : fy) (S : fm) (c : Nat) (p : Int32) : fm := n_begs (n_beg0 S c p) c p (xN x)
def n_refuse (x : fy) (S : fm) (c : Nat) : Int32 := if mI S 23 0 c = 6 then -2 else if mI S 23 0 c ≠ 0 then -3 else if n_crowd x S c = true then -4 else 0
def n_write (x : fy) (S : fm) (c : Nat) (w : Int64) : fm := if n_refuse x S c = 0 then n_begin x (sJ S 30 0 c w) c 1 else S
def n_read (x : fy) (S : fm) (c : Nat) : fm := if n_refuse x S c = 0 then n_begin x S c 4 else S
def n_agr (x : fy) (S : fm) (c : Nat) : Int32 := if mI S 23 0 c = 6 then -2 else if mI S 23 0 c ≠ 5 ∨ mI S 25 0 c < nI (xQ x) then -3 else if n_crowd x S c = true then -4 else 0
def n_again (x : fy) (S : fm) (c : Nat) : fm := if n_agr x S c = 0 then n_begin x S c 4 else S
def n_place (S : fm) (s : Nat) (t : Int32) : Option Nat := ((List.range (mU S 35 0 s)).find? (fun q => decide (mI S 36 0 (5 * s + q) = t))).map (fun q => 5 * s + q)
/-- the lowest tag's place among the first n -/
def n_low (f : Nat → Int32) (b : Nat) : Nat → Nat
  | 0 => b
  | n + 1 => if f (b + n) < f (n_low f b n) then b + n else n_low f b n
def n_put (S : fm) (s : Nat) (t : Int32) (w : Int64) : fm := match n_place S s t with
  | some i => sJ (sI S 36 0 i t) 37 0 i w
  | none => sJ (sI (sU S 35 0 s (mU S 35 0 s + 1)) 36 0 (5 * s + mU S 35 0 s) t) 37 0 (5 * s + mU S 35 0 s) w
def n_drop (S : fm) (s : Nat) : fm := sJ (sI (sU S 35 0 s (mU S 35 0 s - 1)) 36 0 (n_low (mI S 36 0) (5 * s) (mU S 35 0 s)) (mI S 36 0 (5 * s + (mU S 35 0 s - 1)))) 37 0 (n_low (mI S 36 0) (5 * s) (mU S 35 0 s)) (mJ S 37 0 (5 * s + (mU S 35 0 s - 1)))
def n_store (x : fy) (S : fm) (s : Nat) (t : Int32) (w : Int64) : fm := if xD x + 1 < mU (n_put S s t w) 35 0 s then n_drop (n_put S s t w) s else n_put S s t w
def n_dlA (x : fy) (S : fm) (s : Nat) (p t : Int32) (w : Int64) : fm := if p = 2 then n_store x S s t w else S
def n_dlB (S : fm) (s : Nat) (p t : Int32) : fm := if (p = 3 ∨ p = 5) ∧ mI S 34 0 s < t then sI S 34 0 s t else S
def n_dlP (S : fm) (s : Nat) (p t : Int32) : Option Nat := if p = 5 then n_place S s t else none
def n_dlC (S : fm) (c s : Nat) (p w : Int32) (o : Option Nat) : fm := sJ (sB (sI (n_send S true c s p w) 45 0 (mL S) (mI S 34 0 s)) 40 0 (mL S) o.isSome) 46 0 (mL S) (match o with | some i => mJ S 37 0 i | none => 0)
def n_dl (x : fy) (S : fm) (c s at_ : Nat) : fm := n_dlC (n_dlB (n_dlA x (n_lose S at_) s (mI S 44 0 at_) (mI S 45 0 at_) (mJ S 46 0 at_)) s (mI S 44 0 at_) (mI S 45 0 at_)) c s (mI S 44 0 at_) (mI S 43 0 at_) (n_dlP (n_dlB (n_dlA x (n_lose S at_) s (mI S 44 0 at_) (mI S 45 0 at_) (mJ S 46 0 at_)) s (mI S 44 0 at_) (mI S 45 0 at_)) s (mI S 44 0 at_) (mI S 45 0 at_))
def n_counts (S : fm) (c at_ : Nat) : Bool := decide (mI S 23 0 c ≠ 0) && (decide (mI S 23 0 c ≠ 6) && decide (mI S 43 0 at_ = mI S 24 0 c))
def n_hr1 (S : fm) (c : Nat) (sl : Int32) : fm := sI (sI S 25 0 c (mI S 25 0 c + 1)) 27 0 c (jmax (mI S 27 0 c) sl)
def n_hr2 (S : fm) (c : Nat) (has : Bool) (w : Int64) : fm := if has = true then sJ (sI S 26 0 c (mI S 26 0 c + 1)) 31 0 c w else S
abbrev n_more (x : fy) (S : fm) (c : Nat) : Prop := mI S 25 0 c < nI (xQ x) ∨ (mI S 23 0 c = 5 ∧ mI S 26 0 c < nI (xK x))
def n_endS (S : fm) (c : Nat) : fm := sI (sI (sJ S 32 0 c (if mI S 23 0 c = 5 then mJ S 31 0 c else mJ S 32 0 c)) 23 0 c 0) 29 0 c (mI S 29 0 c + 1)
def n_tagS (S : fm) (c : Nat) : fm := if mI S 23 0 c = 1 then sI S 28 0 c (8 * (mI S 27 0 c / 8 + 1) + nI c) else if mI S 23 0 c = 4 then sI S 28 0 c (mI S 27 0 c) else S
def q_onw (x : fy) (S : fm) (c : Nat) : Int32 := if n_more x S c then 1 else if mI S 23 0 c = 3 ∨ mI S 23 0 c = 5 then 3 else 2
def e_onw (x : fy) (S : fm) (c : Nat) : fm := if n_more x S c then S else if mI S 23 0 c = 3 ∨ mI S 23 0 c = 5 then n_endS S c else n_begin x (n_tagS S c) c (mI S 23 0 c + 1)
def n_hrU (S : fm) (c at_ : Nat) : fm := n_hr2 (n_hr1 (n_lose S at_) c (mI S 45 0 at_)) c (mB S 40 0 at_) (mJ S 46 0 at_)
def q_hrM (x : fy) (S : fm) (c at_ : Nat) : Int32 := if n_counts S c at_ = true then q_onw x (n_hrU S c at_) c else 0
def e_hrM (x : fy) (S : fm) (c at_ : Nat) : fm := if n_counts S c at_ = true then e_onw x (n_hrU S c at_) c else n_lose S at_
def n_gone (S : fm) : Nat → Nat
  | 0 => 0
  | n + 1 => if mB S 33 0 n = true then n_gone S n + 1 else n_gone S n
def n_crl (s : Nat) : Nat → fm → fm
  | 0, S => S
  | n + 1, S => n_crl s n (if mB S 39 0 n = false ∧ mI S 42 0 n = nI s then n_lose S n else S)
def qn_crash (x : fy) (S : fm) (s : Nat) : Bool := !mB S 33 0 s && decide (n_gone S (xN x) < xM x)
def n_crash (S : fm) (s : Nat) : fm := n_crl s (mL S) (sB S 33 0 s true)
def n_abv (f : Nat → Int32) (b : Nat) (v : Int32) : Nat → Nat
  | 0 => 0
  | n + 1 => if v < f (b + n) then n_abv f b v n + 1 else n_abv f b v n
def n_htp (S : fm) (s : Nat) (i : Int32) : Option Nat := (List.range (mU S 35 0 s)).find? (fun q => decide (nI (n_abv (mI S 36 0) (5 * s) (mI S 36 0 (5 * s + q)) (mU S 35 0 s)) = i))
def n_ht (S : fm) (s : Nat) (i : Int32) : Int32 := match n_htp S s i with
  | some q => mI S 36 0 (5 * s + q)
  | none => -1
def n_frag (x : fy) (S : fm) (s : Nat) (t : Int32) (r : Nat) : Int32 := match n_place S s t with
  | some i => bI (gf_v (fun m => by8 (mJ S 37 0 i) (r * xK x + m)) (BitVec.ofNat 8 (s + 1)) (xK x))
  | none => -1
