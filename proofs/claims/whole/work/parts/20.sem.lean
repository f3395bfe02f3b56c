-- what each method of the program does to the memory
def en8 (K : Nat) (w : Int64) (s r : Nat) : BitVec 8 := gf_o (fun i => by8 w (r * K + i)) (BitVec.ofNat 8 (s + 1)) K K
def enF (K : Nat) (w : Int64) (s : Nat) : Nat → Int64
  | 0 => 0
  | r + 1 => enF K w s r ||| pl8 (en8 K w s r) r
def enc (x : fy) (w : Int64) (s : Nat) : Int64 := enF (xK x) w s (xR x)
-- the column, as numbers: cb says its bytes
def cb (u : Nat → Nat) : Nat → BitVec 8 := fun j => BitVec.ofNat 8 (u j)
def ipA (X : Nat → BitVec 8) (t : Nat) : Nat → (Nat → Nat) → Nat → Nat
  | 0, u => u
  | n + 1, u => ipA X t n (va_up u (t + n) (gf_m (cb u (t + n) ^^^ cb u (t + n - 1)) (gf_i (X (t + n) ^^^ X n))).toNat)
def ipB (X : Nat → BitVec 8) (K : Nat) : Nat → (Nat → Nat) → Nat → Nat
  | 0, u => u
  | n + 1, u => ipB X K n (ipA X (K - (n + 1)) (n + 1) u)
def ipC (X : Nat → BitVec 8) (K st : Nat) : Nat → (Nat → Nat) → Nat → Nat
  | 0, u => u
  | m + 1, u => ipC X K st m (va_up u (K - 1 - (m + 1)) (cb u (K - 1 - (m + 1)) ^^^ gf_m (X st) (cb u (K - 1 - (m + 1) + 1))).toNat)
def ipD (X : Nat → BitVec 8) (K : Nat) : Nat → (Nat → Nat) → Nat → Nat
  | 0, u => u
  | n + 1, u => ipD X K n (ipC X K n (K - 1 - n) u)
def ipol (X : Nat → BitVec 8) (K : Nat) (u : Nat → Nat) : Nat → Nat := ipD X K (K - 1) (ipB X K (K - 1) u)
def pts (S : fm) (c : Nat) : Nat → BitVec 8 := fun j => BitVec.ofNat 8 (mU S 8 c j + 1)
/-- the column is filled: the first n places -/
def cfil (S : fm) (c r : Nat) : Nat → (Nat → Nat) → Nat → Nat
  | 0, u => u
  | n + 1, u => va_up (cfil S c r n u) n (by8 (mJ S 9 c n) r).toNat
def ccol (x : fy) (S : fm) (c r : Nat) (u : Nat → Nat) : Nat → Nat := ipol (pts S c) (xK x) (cfil S c r (xK x) u)
/-- the block, out of a column: the first n places -/
def dblk (K r : Nat) (u : Nat → Nat) : Nat → Int64 → Int64
  | 0, w => w
  | n + 1, w => dblk K r u n w ||| pl8 (cb u n) (r * K + n)
def decU (x : fy) (S : fm) (c : Nat) : Nat → (Nat → Nat)
  | 0 => mU S 2 0
  | r + 1 => ccol x S c r (decU x S c r)
def decW (x : fy) (S : fm) (c : Nat) : Nat → Int64
  | 0 => 0
  | r + 1 => dblk (xK x) r (decU x S c (r + 1)) (xK x) (decW x S c r)
-- rows of letters
def e_app (S : fm) (r a : Nat) : fm := if mU S 13 r 1 < 7 then sU (sA S 14 r (mU S 13 r 1) (some a)) 13 r 1 (mU S 13 r 1 + 1) else S
def tkA {α : Type} (f : Nat → α) (j n : Nat) : Nat → α := fun q => if j ≤ q ∧ q < n then f (q + 1) else f q
def e_take (S : fm) (r j : Nat) : fm := rA (sU S 13 r 1 (mU S 13 r 1 - 1)) 14 r (va_up (tkA (mA S 14 r) j (mU S 13 r 1 - 1)) (mU S 13 r 1 - 1) none)
def loA (f : Nat → Option Nat) (n : Nat) : Nat → Option Nat := fun q => if q < n then none else f q
def e_lose (S : fm) (r : Nat) : fm := sU (rA S 14 r (loA (mA S 14 r) 7)) 13 r 1 0
-- clients
def q_work (S : fm) (c : Nat) : Bool := !mB S 7 c 4 && decide (mI S 7 c 5 ≠ 0)
def e_enter (S : fm) (c : Nat) (ph : Int32) : fm := sU (sI (sI (sI (sI S 7 c 5 ph) 7 c 6 (mI S 7 c 6 + 1)) 7 c 7 0) 7 c 8 0) 7 c 3 0
def q_counts (S : fm) (c a : Nat) : Bool := q_work S c && decide (mI S 15 a 1 = mI S 7 c 6)
def jmax (a b : Int32) : Int32 := if a < b then b else a
def jmin (a b : Int32) : Int32 := if b < a then b else a
def e_hear1 (S : fm) (c a : Nat) : fm := sI (sI S 7 c 7 (mI S 7 c 7 + 1)) 7 c 8 (jmax (mI S 7 c 8) (mI S 15 a 4))
def e_hear2 (S : fm) (c a s : Nat) : fm := sU (sJ (sU S 8 c (mU S 7 c 3) s) 9 c (mU S 7 c 3) (mJ S 15 a 3)) 7 c 3 (mU S 7 c 3 + 1)
def e_hear (x : fy) (S : fm) (c a s : Nat) : fm := if mB S 15 a 5 = true ∧ mU S 7 c 3 < xK x then e_hear2 (e_hear1 S c a) c a s else e_hear1 S c a
def e_finish (S : fm) (c : Nat) : fm := sI (sI S 7 c 5 0) 7 c 12 (mI S 7 c 12 + 1)
-- servers
/-- where a tag goes: scanned from n down -/
def insp (f : Nat → Int32) (t : Int32) : Nat → Nat
  | 0 => 0
  | n + 1 => if f n < t then insp f t n else n + 1
def insA {α : Type} (f : Nat → α) (p n : Nat) (v : α) : Nat → α := fun q => if q = p then v else if p < q ∧ q ≤ n then f (q - 1) else f q
def e_store (x : fy) (S : fm) (s : Nat) (t : Int32) (w : Int64) : fm := sU (rJ (rI S 11 s (insA (mI S 11 s) (insp (mI S 11 s) t (mU S 10 s 3)) (mU S 10 s 3) t)) 12 s (insA (mJ S 12 s) (insp (mI S 11 s) t (mU S 10 s 3)) (mU S 10 s 3) w)) 10 s 3 (min (mU S 10 s 3 + 1) (xD x + 1))
def e_raise (S : fm) (s : Nat) (t : Int32) : fm := sI S 10 s 4 (jmax (mI S 10 s 4) t)
def q_place (S : fm) (s : Nat) (t : Int32) : Option Nat := (List.range (mU S 10 s 3)).find? (fun i => decide (mI S 11 s i = t))
def oI (o : Option Nat) : Int32 := match o with
  | some i => nI i
  | none => -1
def e_encl (S : fm) (s a : Nat) : fm := match q_place S s (mI S 15 a 2) with
  | some i => sJ (sB S 15 a 5 true) 15 a 3 (mJ S 12 s i)
  | none => S
def e_answer (x : fy) (S : fm) (s a : Nat) : fm :=
  if mI S 15 a 0 = 2 then e_store x S s (mI S 15 a 2) (mJ S 15 a 3)
  else if mI S 15 a 0 = 3 then e_raise S s (mI S 15 a 2)
  else if mI S 15 a 0 = 5 then e_encl (e_raise S s (mI S 15 a 2)) s a
  else sI S 15 a 4 (mI S 10 s 4)
-- the register
def q_crowd (x : fy) (S : fm) (c : Nat) : Bool := (List.range (xN x)).any (fun s => !mB S 10 s 5 && decide (4 < mU S 13 (c * xN x + s) 1 + mU S 13 (100 + (c * xN x + s)) 1))
/-- a new letter: an empty sheet at the heap's end -/
def e_newL (S : fm) : fm := rZ (rB (rJ (rI S 15 (mZ S) (fun _ => 0)) 15 (mZ S) (fun _ => 0)) 15 (mZ S) (fun _ => false)) (mZ S + 1)
def e_initL (S : fm) (a : Nat) (ph bg tg : Int32) : fm := sI (sI (sI S 15 a 0 ph) 15 a 1 bg) 15 a 2 tg
def e_req (x : fy) (S : fm) (c s : Nat) : fm :=
  if mI S 7 c 5 = 2 then sJ (e_initL (e_newL S) (mZ S) (mI S 7 c 5) (mI S 7 c 6) (mI S 7 c 9)) 15 (mZ S) 3 (enc x (mJ S 7 c 10) s)
  else e_initL (e_newL S) (mZ S) (mI S 7 c 5) (mI S 7 c 6) (mI S 7 c 9)
def e_bg1 (x : fy) (S : fm) (c s : Nat) : fm := if mB S 10 s 5 = true then S else e_app (e_req x S c s) (c * xN x + s) (mZ S)
def e_bgs (x : fy) (S : fm) (c : Nat) : Nat → fm
  | 0 => S
  | s + 1 => e_bg1 x (e_bgs x S c s) c s
def e_begin (x : fy) (S : fm) (c : Nat) (ph : Int32) : fm := e_bgs x (e_enter S c ph) c (xN x)
