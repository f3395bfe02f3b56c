-- printed by wip/whole/gen/frame.py: which kinds of cells a step leaves as they were
def sk (S T : fm) (k : Nat) : Prop := mI T k = mI S k ∧ mJ T k = mJ S k ∧ mB T k = mB S k ∧ mA T k = mA S k ∧ mU T k = mU S k
theorem sk.rf (S : fm) (k : Nat) : sk S S k := ⟨rfl, rfl, rfl, rfl, rfl⟩
theorem sk.tr {S T U : fm} {k : Nat} (h : sk S T k) (h2 : sk T U k) : sk S U k := ⟨h2.1.trans h.1, h2.2.1.trans h.2.1, h2.2.2.1.trans h.2.2.1, h2.2.2.2.1.trans h.2.2.2.1, h2.2.2.2.2.trans h.2.2.2.2⟩
theorem sk.if {S T U : fm} {k : Nat} {c : Prop} [Decidable c] (h : sk S T k) (h2 : sk S U k) : sk S (if c then T else U) k := by split <;> assumption
theorem u2_k {α : Type} (f : Nat → Nat → Nat → α) {k i a : Nat} (r : Nat → α) (h : a ≠ k) : u2 f k i r a = f a := by funext b; exact u2_n (fun q => h q.1)
theorem sk_rI (S : fm) {k0 i k : Nat} (r : Nat → Int32) (h : k ≠ k0) : sk S (rI S k0 i r) k := ⟨u2_k _ _ h, rfl, rfl, rfl, rfl⟩
theorem sk_sI (S : fm) {k0 i j k : Nat} (v : Int32) (h : k ≠ k0) : sk S (sI S k0 i j v) k := sk_rI S _ h
theorem sk_rJ (S : fm) {k0 i k : Nat} (r : Nat → Int64) (h : k ≠ k0) : sk S (rJ S k0 i r) k := ⟨rfl, u2_k _ _ h, rfl, rfl, rfl⟩
theorem sk_sJ (S : fm) {k0 i j k : Nat} (v : Int64) (h : k ≠ k0) : sk S (sJ S k0 i j v) k := sk_rJ S _ h
theorem sk_rB (S : fm) {k0 i k : Nat} (r : Nat → Bool) (h : k ≠ k0) : sk S (rB S k0 i r) k := ⟨rfl, rfl, u2_k _ _ h, rfl, rfl⟩
theorem sk_sB (S : fm) {k0 i j k : Nat} (v : Bool) (h : k ≠ k0) : sk S (sB S k0 i j v) k := sk_rB S _ h
theorem sk_rA (S : fm) {k0 i k : Nat} (r : Nat → Option Nat) (h : k ≠ k0) : sk S (rA S k0 i r) k := ⟨rfl, rfl, rfl, u2_k _ _ h, rfl⟩
theorem sk_sA (S : fm) {k0 i j k : Nat} (v : Option Nat) (h : k ≠ k0) : sk S (sA S k0 i j v) k := sk_rA S _ h
theorem sk_rU (S : fm) {k0 i k : Nat} (r : Nat → Nat) (h : k ≠ k0) : sk S (rU S k0 i r) k := ⟨rfl, rfl, rfl, rfl, u2_k _ _ h⟩
theorem sk_sU (S : fm) {k0 i j k : Nat} (v : Nat) (h : k ≠ k0) : sk S (sU S k0 i j v) k := sk_rU S _ h
theorem sk_rZ (S : fm) {k n : Nat} : sk S (rZ S n) k := ⟨rfl, rfl, rfl, rfl, rfl⟩
theorem sk_app (S : fm) (r a : Nat) {k : Nat} (h : k ≠ 13 ∧ k ≠ 14) : sk S (e_app S r a) k := by unfold e_app; exact sk.if ((sk_sA _ _ (by omega)).tr (sk_sU _ _ (by omega))) (sk.rf S k)
theorem sk_take (S : fm) (r j : Nat) {k : Nat} (h : k ≠ 13 ∧ k ≠ 14) : sk S (e_take S r j) k := by unfold e_take; exact ((sk_sU _ _ (by omega)).tr (sk_rA _ _ (by omega)))
theorem sk_lose (S : fm) (r : Nat) {k : Nat} (h : k ≠ 13 ∧ k ≠ 14) : sk S (e_lose S r) k := by unfold e_lose; exact ((sk_rA _ _ (by omega)).tr (sk_sU _ _ (by omega)))
theorem sk_enter (S : fm) (c : Nat) (p : Int32) {k : Nat} (h : k ≠ 7) : sk S (e_enter S c p) k := by unfold e_enter; exact (((((sk_sI _ _ (by omega)).tr (sk_sI _ _ (by omega))).tr (sk_sI _ _ (by omega))).tr (sk_sI _ _ (by omega))).tr (sk_sU _ _ (by omega)))
theorem sk_hear1 (S : fm) (c a : Nat) {k : Nat} (h : k ≠ 7) : sk S (e_hear1 S c a) k := by unfold e_hear1; exact ((sk_sI _ _ (by omega)).tr (sk_sI _ _ (by omega)))
theorem sk_hear2 (S : fm) (c a s : Nat) {k : Nat} (h : k ≠ 7 ∧ k ≠ 8 ∧ k ≠ 9) : sk S (e_hear2 S c a s) k := by unfold e_hear2; exact (((sk_sU _ _ (by omega)).tr (sk_sJ _ _ (by omega))).tr (sk_sU _ _ (by omega)))
theorem sk_hear (x : fy) (S : fm) (c a s : Nat) {k : Nat} (h : k ≠ 7 ∧ k ≠ 8 ∧ k ≠ 9) : sk S (e_hear x S c a s) k := by unfold e_hear; exact sk.if ((sk_hear1 S c a h.1).tr (sk_hear2 _ c a s h)) (sk_hear1 S c a h.1)
theorem sk_finish (S : fm) (c : Nat) {k : Nat} (h : k ≠ 7) : sk S (e_finish S c) k := by unfold e_finish; exact ((sk_sI _ _ (by omega)).tr (sk_sI _ _ (by omega)))
theorem sk_store (x : fy) (S : fm) (s : Nat) (t : Int32) (w : Int64) {k : Nat} (h : k ≠ 10 ∧ k ≠ 11 ∧ k ≠ 12) : sk S (e_store x S s t w) k := by unfold e_store; exact (((sk_rI _ _ (by omega)).tr (sk_rJ _ _ (by omega))).tr (sk_sU _ _ (by omega)))
theorem sk_raise (S : fm) (s : Nat) (t : Int32) {k : Nat} (h : k ≠ 10) : sk S (e_raise S s t) k := by unfold e_raise; exact (sk_sI _ _ (by omega))
theorem sk_encl (S : fm) (s a : Nat) {k : Nat} (h : k ≠ 15) : sk S (e_encl S s a) k := by unfold e_encl; split; exact ((sk_sB _ _ (by omega)).tr (sk_sJ _ _ (by omega))); exact sk.rf S k
theorem sk_answer (x : fy) (S : fm) (s a : Nat) {k : Nat} (h : k ≠ 10 ∧ k ≠ 11 ∧ k ≠ 12 ∧ k ≠ 15) : sk S (e_answer x S s a) k := by unfold e_answer; exact sk.if (sk_store x S s _ _ ⟨h.1, h.2.1, h.2.2.1⟩) (sk.if (sk_raise S s _ h.1) (sk.if ((sk_raise S s _ h.1).tr (sk_encl _ s a h.2.2.2)) (sk_sI S _ h.2.2.2)))
theorem sk_newL (S : fm) {k : Nat} (h : k ≠ 15) : sk S (e_newL S) k := by unfold e_newL; exact ((((sk_rI _ _ (by omega)).tr (sk_rJ _ _ (by omega))).tr (sk_rB _ _ (by omega))).tr (sk_rZ _))
theorem sk_initL (S : fm) (a : Nat) (p b t : Int32) {k : Nat} (h : k ≠ 15) : sk S (e_initL S a p b t) k := by unfold e_initL; exact (((sk_sI _ _ (by omega)).tr (sk_sI _ _ (by omega))).tr (sk_sI _ _ (by omega)))
theorem sk_req (x : fy) (S : fm) (c s : Nat) {k : Nat} (h : k ≠ 15) : sk S (e_req x S c s) k := by unfold e_req; exact sk.if (((sk_newL S h).tr (sk_initL _ _ _ _ _ h)).tr (sk_sJ _ _ h)) ((sk_newL S h).tr (sk_initL _ _ _ _ _ h))
theorem sk_bg1 (x : fy) (S : fm) (c s : Nat) {k : Nat} (h : k ≠ 13 ∧ k ≠ 14 ∧ k ≠ 15) : sk S (e_bg1 x S c s) k := by unfold e_bg1; exact sk.if (sk.rf S k) ((sk_req x S c s h.2.2).tr (sk_app _ _ _ ⟨h.1, h.2.1⟩))
theorem sk_bgs (x : fy) (S : fm) (c : Nat) {k : Nat} (h : k ≠ 13 ∧ k ≠ 14 ∧ k ≠ 15) : ∀ n, sk S (e_bgs x S c n) k
  | 0 => sk.rf S k
  | n + 1 => (sk_bgs x S c h n).tr (sk_bg1 x _ c n h)
theorem sk_begin (x : fy) (S : fm) (c : Nat) (p : Int32) {k : Nat} (h : k ≠ 7 ∧ k ≠ 13 ∧ k ≠ 14 ∧ k ≠ 15) : sk S (e_begin x S c p) k := by unfold e_begin; exact (sk_enter S c p h.1).tr (sk_bgs x _ c h.2 _)
theorem sk_write (x : fy) (S : fm) (c : Nat) (w : Int64) {k : Nat} (h : k ≠ 7 ∧ k ≠ 13 ∧ k ≠ 14 ∧ k ≠ 15) : sk S (e_write x S c w) k := by unfold e_write; exact sk.if ((sk_sJ S _ h.1).tr (sk_begin x _ c 1 h)) (sk.rf S k)
theorem sk_read (x : fy) (S : fm) (c : Nat) {k : Nat} (h : k ≠ 7 ∧ k ≠ 13 ∧ k ≠ 14 ∧ k ≠ 15) : sk S (e_read x S c) k := by unfold e_read; exact sk.if (sk_begin x S c 4 h) (sk.rf S k)
theorem sk_again (x : fy) (S : fm) (c : Nat) {k : Nat} (h : k ≠ 7 ∧ k ≠ 13 ∧ k ≠ 14 ∧ k ≠ 15) : sk S (e_again x S c) k := by unfold e_again; exact sk.if (sk_begin x S c 4 h) (sk.rf S k)
theorem sk_end (x : fy) (S : fm) (c : Nat) {k : Nat} (h : k ≠ 2 ∧ k ≠ 7 ∧ k ≠ 13 ∧ k ≠ 14 ∧ k ≠ 15) : sk S (e_end x S c) k := by unfold e_end; exact sk.if ((sk_sI S _ h.2.1).tr (sk_begin x _ c _ h.2)) (sk.if (sk_begin x S c _ h.2) (sk.if ((sk_sI S _ h.2.1).tr (sk_begin x _ c _ h.2)) (sk.if (((sk_rU S _ h.1).tr (sk_sJ _ _ h.2.1)).tr (sk_finish _ c h.2.1)) (sk_finish S c h.2.1))))
theorem sk_deliver (x : fy) (S : fm) (c s j a : Nat) {k : Nat} (h : k ≠ 10 ∧ k ≠ 11 ∧ k ≠ 12 ∧ k ≠ 13 ∧ k ≠ 14 ∧ k ≠ 15) : sk S (e_deliver x S c s j a) k := by unfold e_deliver; exact ((sk_take S _ j ⟨h.2.2.2.1, h.2.2.2.2.1⟩).tr (sk_answer x _ s a ⟨h.1, h.2.1, h.2.2.1, h.2.2.2.2.2⟩)).tr (sk_app _ _ a ⟨h.2.2.2.1, h.2.2.2.2.1⟩)
theorem sk_hr (x : fy) (S : fm) (c s j a : Nat) {k : Nat} (h : k ≠ 2 ∧ k ≠ 7 ∧ k ≠ 8 ∧ k ≠ 9 ∧ k ≠ 13 ∧ k ≠ 14 ∧ k ≠ 15) : sk S (e_hr x S c s j a) k := by
  obtain ⟨h2, h7, h8, h9, h13, h14, h15⟩ := h
  have ht := sk_take S (100 + (c * xN x + s)) j (k := k) ⟨h13, h14⟩
  have hh := ht.tr (sk_hear x _ c a s ⟨h7, h8, h9⟩)
  unfold e_hr
  exact sk.if (sk.if (hh.tr (sk_end x _ c ⟨h2, h7, h13, h14, h15⟩)) hh) ht
theorem sk_crs (x : fy) (S : fm) (s : Nat) {k : Nat} (h : k ≠ 13 ∧ k ≠ 14) : ∀ n, sk S (e_crs x S s n) k
  | 0 => sk.rf S k
  | n + 1 => (sk_crs x S s h n).tr (sk_lose _ _ h)
theorem sk_crash (x : fy) (S : fm) (s : Nat) {k : Nat} (h : k ≠ 0 ∧ k ≠ 10 ∧ k ≠ 13 ∧ k ≠ 14) : sk S (e_crash x S s) k := by unfold e_crash; exact ((sk_sB S _ h.2.1).tr (sk_sI _ _ h.1)).tr (sk_crs x _ s h.2.2 5)
theorem sk_n_send (S : fm) (b : Bool) (c s : Nat) (p w : Int32) {k : Nat} (h : k < 16) : sk S (n_send S b c s p w) k := by unfold n_send; exact (((((((((sk_sB _ _ (by omega)).tr (sk_sI _ _ (by omega))).tr (sk_sI _ _ (by omega))).tr (sk_sI _ _ (by omega))).tr (sk_sI _ _ (by omega))).tr (sk_sB _ _ (by omega))).tr (sk_sI _ _ (by omega))).tr (sk_sJ _ _ (by omega))).tr (sk_sU _ _ (by omega)))
theorem sk_n_shift (S : fm) (a n : Nat) {k : Nat} (h : k < 16) : sk S (n_shift S a n) k := by unfold n_shift; exact ((((((((sk_rB _ _ (by omega)).tr (sk_rB _ _ (by omega))).tr (sk_rI _ _ (by omega))).tr (sk_rI _ _ (by omega))).tr (sk_rI _ _ (by omega))).tr (sk_rI _ _ (by omega))).tr (sk_rI _ _ (by omega))).tr (sk_rJ _ _ (by omega)))
theorem sk_n_lose (S : fm) (a : Nat) {k : Nat} (h : k < 16) : sk S (n_lose S a) k := by unfold n_lose; exact (sk_sU S _ (by omega)).tr (sk_n_shift _ a _ h)
theorem sk_n_beg0 (S : fm) (c : Nat) (p : Int32) {k : Nat} (h : k < 16) : sk S (n_beg0 S c p) k := by unfold n_beg0; exact (((((sk_sI _ _ (by omega)).tr (sk_sI _ _ (by omega))).tr (sk_sI _ _ (by omega))).tr (sk_sI _ _ (by omega))).tr (sk_sI _ _ (by omega)))
theorem sk_n_beg1 (S : fm) (c s : Nat) (p : Int32) {k : Nat} (h : k < 16) : sk S (n_beg1 S c s p) k := by unfold n_beg1; exact sk.if (sk.rf S k) (sk_n_send S _ _ _ _ _ h)
theorem sk_n_begs (S : fm) (c : Nat) (p : Int32) {k : Nat} (h : k < 16) : ∀ n, sk S (n_begs S c p n) k
  | 0 => sk.rf S k
  | n + 1 => (sk_n_begs S c p h n).tr (sk_n_beg1 _ c n p h)
theorem sk_n_begin (x : fy) (S : fm) (c : Nat) (p : Int32) {k : Nat} (h : k < 16) : sk S (n_begin x S c p) k := by unfold n_begin; exact (sk_n_beg0 S c p h).tr (sk_n_begs _ c p h _)
theorem sk_n_write (x : fy) (S : fm) (c : Nat) (w : Int64) {k : Nat} (h : k < 16) : sk S (n_write x S c w) k := by unfold n_write; exact sk.if ((sk_sJ S _ (by omega)).tr (sk_n_begin x _ c 1 h)) (sk.rf S k)
theorem sk_n_read (x : fy) (S : fm) (c : Nat) {k : Nat} (h : k < 16) : sk S (n_read x S c) k := by unfold n_read; exact sk.if (sk_n_begin x S c 4 h) (sk.rf S k)
theorem sk_n_again (x : fy) (S : fm) (c : Nat) {k : Nat} (h : k < 16) : sk S (n_again x S c) k := by unfold n_again; exact sk.if (sk_n_begin x S c 4 h) (sk.rf S k)
theorem sk_n_put (S : fm) (s : Nat) (t : Int32) (w : Int64) {k : Nat} (h : k < 16) : sk S (n_put S s t w) k := by unfold n_put; split; exact ((sk_sI _ _ (by omega)).tr (sk_sJ _ _ (by omega))); exact (((sk_sU _ _ (by omega)).tr (sk_sI _ _ (by omega))).tr (sk_sJ _ _ (by omega)))
theorem sk_n_drop (S : fm) (s : Nat) {k : Nat} (h : k < 16) : sk S (n_drop S s) k := by unfold n_drop; exact (((sk_sU _ _ (by omega)).tr (sk_sI _ _ (by omega))).tr (sk_sJ _ _ (by omega)))
theorem sk_n_store (x : fy) (S : fm) (s : Nat) (t : Int32) (w : Int64) {k : Nat} (h : k < 16) : sk S (n_store x S s t w) k := by unfold n_store; exact sk.if ((sk_n_put S s t w h).tr (sk_n_drop _ s h)) (sk_n_put S s t w h)
theorem sk_n_dlA (x : fy) (S : fm) (s : Nat) (p t : Int32) (w : Int64) {k : Nat} (h : k < 16) : sk S (n_dlA x S s p t w) k := by unfold n_dlA; exact sk.if (sk_n_store x S s t w h) (sk.rf S k)
theorem sk_n_dlB (S : fm) (s : Nat) (p t : Int32) {k : Nat} (h : k < 16) : sk S (n_dlB S s p t) k := by unfold n_dlB; exact sk.if (sk_sI S _ (by omega)) (sk.rf S k)
theorem sk_n_dlC (S : fm) (c s : Nat) (p w : Int32) (o : Option Nat) {k : Nat} (h : k < 16) : sk S (n_dlC S c s p w o) k := by unfold n_dlC; exact (((sk_n_send S _ _ _ _ _ h).tr (sk_sI _ _ (by omega))).tr (sk_sB _ _ (by omega))).tr (sk_sJ _ _ (by omega))
theorem sk_n_dl (x : fy) (S : fm) (c s a : Nat) {k : Nat} (h : k < 16) : sk S (n_dl x S c s a) k := by unfold n_dl; exact (((sk_n_lose S a h).tr (sk_n_dlA x _ s _ _ _ h)).tr (sk_n_dlB _ s _ _ h)).tr (sk_n_dlC _ c s _ _ _ h)
theorem sk_n_hr1 (S : fm) (c : Nat) (v : Int32) {k : Nat} (h : k < 16) : sk S (n_hr1 S c v) k := by unfold n_hr1; exact ((sk_sI _ _ (by omega)).tr (sk_sI _ _ (by omega)))
theorem sk_n_hr2 (S : fm) (c : Nat) (b : Bool) (w : Int64) {k : Nat} (h : k < 16) : sk S (n_hr2 S c b w) k := by unfold n_hr2; exact sk.if ((sk_sI _ _ (by omega)).tr (sk_sJ _ _ (by omega))) (sk.rf S k)
theorem sk_n_hrU (S : fm) (c a : Nat) {k : Nat} (h : k < 16) : sk S (n_hrU S c a) k := by unfold n_hrU; exact ((sk_n_lose S a h).tr (sk_n_hr1 _ c _ h)).tr (sk_n_hr2 _ c _ _ h)
theorem sk_n_endS (S : fm) (c : Nat) {k : Nat} (h : k < 16) : sk S (n_endS S c) k := by unfold n_endS; exact (((sk_sJ _ _ (by omega)).tr (sk_sI _ _ (by omega))).tr (sk_sI _ _ (by omega)))
theorem sk_n_tagS (S : fm) (c : Nat) {k : Nat} (h : k < 16) : sk S (n_tagS S c) k := by unfold n_tagS; exact sk.if (sk_sI S _ (by omega)) (sk.if (sk_sI S _ (by omega)) (sk.rf S k))
theorem sk_onw (x : fy) (S : fm) (c : Nat) {k : Nat} (h : k < 16) : sk S (e_onw x S c) k := by unfold e_onw; exact sk.if (sk.rf S k) (sk.if (sk_n_endS S c h) ((sk_n_tagS S c h).tr (sk_n_begin x _ c _ h)))
theorem sk_hrM (x : fy) (S : fm) (c a : Nat) {k : Nat} (h : k < 16) : sk S (e_hrM x S c a) k := by unfold e_hrM; exact sk.if ((sk_n_hrU S c a h).tr (sk_onw x _ c h)) (sk_n_lose S a h)
theorem sk_n_crl (s : Nat) {k : Nat} (h : k < 16) : ∀ n (S : fm), sk S (n_crl s n S) k
  | 0, S => sk.rf S k
  | n + 1, S => (sk.if (sk_n_lose S n h) (sk.rf S k)).tr (sk_n_crl s h n _)
theorem sk_n_crash (S : fm) (s : Nat) {k : Nat} (h : k < 16) : sk S (n_crash S s) k := by unfold n_crash; exact (sk_sB S _ (by omega)).tr (sk_n_crl s h _ _)
