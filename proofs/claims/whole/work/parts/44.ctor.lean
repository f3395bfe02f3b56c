-- contracts of the constructors, by wip/whole/gen/c_ctor.py
def ccl (g : Nat → ClassId) (K : Nat) : Nat → va_E := fun j => match j with
  | 0 => .inl (g 0, K, .inl (fun _ => 0))
  | _ => .inl (g 1, K, ja (fun _ => 0))
def ccr (g : Nat → ClassId) : Nat → va_E := fun _ => .inl (g 6, 7, qa (fun _ => none))
set_option maxHeartbeats 4000000 in
set_option maxRecDepth 100000 in
theorem ct_C_init (l : Launch) (D : va_G) (g : Nat → ClassId) (b n : Nat) (w : Nat → Option va_E) (a : Nat) (fa : w a = some (.inr (0, [.int 0, .null, .null, .int 0, .int 0, .int 0, .int 0, .int 0, .int 0, .int 0, .long 0, .long 0, .int 0]))) (cn K : Nat) (hK : K ≤ 7) : Met l mn_C_init (gw_ws mn_C_init cb_C_init 3 none) ({ frames := 1, cells := 2, slots := 14, locals := 21 } : Room) (gPc D g b n w [.ref a, .int (nI cn), .int (nI K)]) (gQv D b (n + 2) (fun w1 => w1 a = some (.inr (0, [.int (nI cn), .ref n, .ref (n + 1), .int 0, .int 0, .int 0, .int 0, .int 0, .int 0, .int 0, .long 0, .long 0, .int 0])) ∧ (∀ j, j < 2 → w1 (n + j) = some (ccl g K j)) ∧ ∀ q, q < n → q ≠ a → w1 q = w q)) 2 14 (fun q => b ≤ q) := by
  refine g_met (by decide) (Nat.le_of_ble_eq_true rfl) ?_
  intro p e s m below meth c0 cx hr hlocks hnm hP hS ls hl
  have cx : gX rn_C cb_C_init 3 p c0 s m [.ref a, .int (nI cn), .int (nI K)].toArray D g := cx
  have hx := cx.1.1
  have hb := cx.1.2.1
  have hl : lv_has ls 3 [(0, .ref a), (1, .int (nI cn)), (2, .int (nI K))] := hl
  have fr : ∀ q, q < n → q ≠ a → w q = w q := fun _ _ _ => rfl
  have F : ∀ j, j < 0 → w (n + j) = some (ccl g K j) := fun j h => absurd h (Nat.not_lt_zero j)
  have han : a < n := hP.lt fa
  obtain ⟨w0, hw0⟩ : ∃ w0, w0 = w := ⟨_, rfl⟩
  rw [← hw0] at hP fa F fr
  have fr : ∀ q, q < n → q ≠ a → w0 q = w q := fun q _ _ => by rw [hw0]
  refine lv_aload_n (pc := 0) hx hb dd_C_init_0 rfl (lv_at hl 0 rfl) ?_
  refine g_oi (pc := 1) ml_C_O_init cx hl (Nat.le_of_ble_eq_true rfl) (Nat.le_of_ble_eq_true rfl) dd_C_init_1 ?_
  refine lv_aload_n (pc := 4) hx hb dd_C_init_4 rfl (lv_at hl 0 rfl) ?_
  refine lv_iconst (pc := 5) (v := 0) hx hb dd_C_init_5 (by decide) ?_
  refine g_put (pc := 6) cx hnm hP hS fa rfl wf_C ty_C tk_C nm_C 5 (by decide) fl_C_C_phase (fun _ h => h) rfl (ty := .int) (by decide +kernel) rfl rfl (Nat.le_of_ble_eq_true rfl) dd_C_init_6 (fun H locs hP hS => ?_)
  obtain ⟨w1, hw1⟩ : ∃ w1, w1 = va_up w0 a (some (.inr (0, [.int 0, .null, .null, .int 0, .int 0, .int 0, .int 0, .int 0, .int 0, .int 0, .long 0, .long 0, .int 0]))) := ⟨_, rfl⟩
  have hP : gP D b (n + 0) w1 H := by rw [hw1]; exact hP
  have fa : w1 a = some (.inr (0, [.int 0, .null, .null, .int 0, .int 0, .int 0, .int 0, .int 0, .int 0, .int 0, .long 0, .long 0, .int 0])) := by rw [hw1, vu_s]
  have F : ∀ j, j < 0 → w1 (n + j) = some (ccl g K j) := fun j hj => by rw [hw1, vu_n _ _ (by omega)]; exact F j hj
  have fr : ∀ q, q < n → q ≠ a → w1 q = w q := fun q h1 h2 => by rw [hw1, vu_n _ _ h2]; exact fr q h1 h2
  clear hw1
  obtain ⟨w0, hw0⟩ : ∃ w0, w0 = w1 := ⟨_, rfl⟩
  rw [← hw0] at hP fa F fr
  clear hw0
  refine lv_aload_n (pc := 9) hx hb dd_C_init_9 rfl (lv_at hl 0 rfl) ?_
  refine lv_iload_n (pc := 10) hx hb dd_C_init_10 rfl (lv_at hl 1 rfl) ?_
  refine g_put (pc := 11) cx hnm hP hS fa rfl wf_C ty_C tk_C nm_C 0 (by decide) fl_C_C_number (fun _ h => h) rfl (ty := .int) (by decide +kernel) rfl rfl (Nat.le_of_ble_eq_true rfl) dd_C_init_11 (fun H locs hP hS => ?_)
  obtain ⟨w1, hw1⟩ : ∃ w1, w1 = va_up w0 a (some (.inr (0, [.int (nI cn), .null, .null, .int 0, .int 0, .int 0, .int 0, .int 0, .int 0, .int 0, .long 0, .long 0, .int 0]))) := ⟨_, rfl⟩
  have hP : gP D b (n + 0) w1 H := by rw [hw1]; exact hP
  have fa : w1 a = some (.inr (0, [.int (nI cn), .null, .null, .int 0, .int 0, .int 0, .int 0, .int 0, .int 0, .int 0, .long 0, .long 0, .int 0])) := by rw [hw1, vu_s]
  have F : ∀ j, j < 0 → w1 (n + j) = some (ccl g K j) := fun j hj => by rw [hw1, vu_n _ _ (by omega)]; exact F j hj
  have fr : ∀ q, q < n → q ≠ a → w1 q = w q := fun q h1 h2 => by rw [hw1, vu_n _ _ h2]; exact fr q h1 h2
  clear hw1
  obtain ⟨w0, hw0⟩ : ∃ w0, w0 = w1 := ⟨_, rfl⟩
  rw [← hw0] at hP fa F fr
  clear hw0
  refine lv_aload_n (pc := 14) hx hb dd_C_init_14 rfl (lv_at hl 0 rfl) ?_
  refine lv_iload_n (pc := 15) hx hb dd_C_init_15 rfl (lv_at hl 2 rfl) ?_
  refine g_newa (pc := 16) 0 (atype := .int) (ty := .int) (a0 := (K, .inl (fun _ => 0))) cx hP hS ac_int rfl rfl (fun h => h) (fun _ => rfl) rfl (by omega) (by show (K) * 4 ≤ _; omega) (Nat.le_of_ble_eq_true rfl) (by show 0 + K ≤ 14; omega) dd_C_init_16 (fun H hP hS => ?_)
  obtain ⟨w1, hw1⟩ : ∃ w1, w1 = va_up w0 (n + 0) (some (.inl (g 0, (K, .inl (fun _ => 0))))) := ⟨_, rfl⟩
  have hP : gP D b (n + 1) w1 H := by rw [hw1]; exact hP
  have fa : w1 a = some (.inr (0, [.int (nI cn), .null, .null, .int 0, .int 0, .int 0, .int 0, .int 0, .int 0, .int 0, .long 0, .long 0, .int 0])) := by rw [hw1, vu_n _ _ (by omega)]; exact fa
  have F : ∀ j, j < 1 → w1 (n + j) = some (ccl g K j) := fun j hj => by
    by_cases hj2 : j = 0
    · subst hj2; rw [hw1, vu_s]; rfl
    · rw [hw1, vu_n _ _ (by omega)]; exact F j (by omega)
  have fr : ∀ q, q < n → q ≠ a → w1 q = w q := fun q h1 h2 => by rw [hw1, vu_n _ _ (by omega)]; exact fr q h1 h2
  clear hw1
  obtain ⟨w0, hw0⟩ : ∃ w0, w0 = w1 := ⟨_, rfl⟩
  rw [← hw0] at hP fa F fr
  clear hw0
  refine g_put (pc := 18) cx hnm hP hS fa rfl wf_C ty_C tk_C nm_C 1 (by decide) fl_C_C_sources (fun _ h => h) rfl (ty := .array .int) (by decide +kernel) rfl rfl (Nat.le_of_ble_eq_true rfl) dd_C_init_18 (fun H locs hP hS => ?_)
  obtain ⟨w1, hw1⟩ : ∃ w1, w1 = va_up w0 a (some (.inr (0, [.int (nI cn), .ref (n + 0), .null, .int 0, .int 0, .int 0, .int 0, .int 0, .int 0, .int 0, .long 0, .long 0, .int 0]))) := ⟨_, rfl⟩
  have hP : gP D b (n + 1) w1 H := by rw [hw1]; exact hP
  have fa : w1 a = some (.inr (0, [.int (nI cn), .ref (n + 0), .null, .int 0, .int 0, .int 0, .int 0, .int 0, .int 0, .int 0, .long 0, .long 0, .int 0])) := by rw [hw1, vu_s]
  have F : ∀ j, j < 1 → w1 (n + j) = some (ccl g K j) := fun j hj => by rw [hw1, vu_n _ _ (by omega)]; exact F j hj
  have fr : ∀ q, q < n → q ≠ a → w1 q = w q := fun q h1 h2 => by rw [hw1, vu_n _ _ h2]; exact fr q h1 h2
  clear hw1
  obtain ⟨w0, hw0⟩ : ∃ w0, w0 = w1 := ⟨_, rfl⟩
  rw [← hw0] at hP fa F fr
  clear hw0
  refine lv_aload_n (pc := 21) hx hb dd_C_init_21 rfl (lv_at hl 0 rfl) ?_
  refine lv_iload_n (pc := 22) hx hb dd_C_init_22 rfl (lv_at hl 2 rfl) ?_
  refine g_newa (pc := 23) 1 (atype := .long) (ty := .long) (a0 := (K, ja (fun _ => 0))) cx hP hS ac_long rfl rfl (fun h => h) (fun _ => rfl) rfl (by omega) (by show (K) * 8 ≤ _; omega) (Nat.le_of_ble_eq_true rfl) (by show 0 + K + K ≤ 14; omega) dd_C_init_23 (fun H hP hS => ?_)
  obtain ⟨w1, hw1⟩ : ∃ w1, w1 = va_up w0 (n + 1) (some (.inl (g 1, (K, ja (fun _ => 0))))) := ⟨_, rfl⟩
  have hP : gP D b (n + 2) w1 H := by rw [hw1]; exact hP
  have fa : w1 a = some (.inr (0, [.int (nI cn), .ref (n + 0), .null, .int 0, .int 0, .int 0, .int 0, .int 0, .int 0, .int 0, .long 0, .long 0, .int 0])) := by rw [hw1, vu_n _ _ (by omega)]; exact fa
  have F : ∀ j, j < 2 → w1 (n + j) = some (ccl g K j) := fun j hj => by
    by_cases hj2 : j = 1
    · subst hj2; rw [hw1, vu_s]; rfl
    · rw [hw1, vu_n _ _ (by omega)]; exact F j (by omega)
  have fr : ∀ q, q < n → q ≠ a → w1 q = w q := fun q h1 h2 => by rw [hw1, vu_n _ _ (by omega)]; exact fr q h1 h2
  clear hw1
  obtain ⟨w0, hw0⟩ : ∃ w0, w0 = w1 := ⟨_, rfl⟩
  rw [← hw0] at hP fa F fr
  clear hw0
  refine g_put (pc := 25) cx hnm hP hS fa rfl wf_C ty_C tk_C nm_C 2 (by decide) fl_C_C_fragments (fun _ h => h) rfl (ty := .array .long) (by decide +kernel) rfl rfl (Nat.le_of_ble_eq_true rfl) dd_C_init_25 (fun H locs hP hS => ?_)
  obtain ⟨w1, hw1⟩ : ∃ w1, w1 = va_up w0 a (some (.inr (0, [.int (nI cn), .ref (n + 0), .ref (n + 1), .int 0, .int 0, .int 0, .int 0, .int 0, .int 0, .int 0, .long 0, .long 0, .int 0]))) := ⟨_, rfl⟩
  have hP : gP D b (n + 2) w1 H := by rw [hw1]; exact hP
  have fa : w1 a = some (.inr (0, [.int (nI cn), .ref (n + 0), .ref (n + 1), .int 0, .int 0, .int 0, .int 0, .int 0, .int 0, .int 0, .long 0, .long 0, .int 0])) := by rw [hw1, vu_s]
  have F : ∀ j, j < 2 → w1 (n + j) = some (ccl g K j) := fun j hj => by rw [hw1, vu_n _ _ (by omega)]; exact F j hj
  have fr : ∀ q, q < n → q ≠ a → w1 q = w q := fun q h1 h2 => by rw [hw1, vu_n _ _ h2]; exact fr q h1 h2
  clear hw1
  obtain ⟨w0, hw0⟩ : ∃ w0, w0 = w1 := ⟨_, rfl⟩
  rw [← hw0] at hP fa F fr
  clear hw0
  refine W.widen (k := 2) (n := 14) (by omega) (by omega) ?_
  exact g_vret (pc := 28) cx hr hlocks hP hS ⟨fa, F, fr⟩ dd_C_init_28
set_option maxHeartbeats 4000000 in
set_option maxRecDepth 100000 in
theorem ct_S_init (l : Launch) (D : va_G) (g : Nat → ClassId) (b n : Nat) (w : Nat → Option va_E) (a : Nat) (fa : w a = some (.inr (4, [.int 0, .null, .null, .int 0, .int 0, .int 0]))) (K : Nat) (hK : K ≤ 6) : Met l mn_S_init (gw_ws mn_S_init cb_S_init 2 none) ({ frames := 1, cells := 2, slots := 14, locals := 21 } : Room) (gPc D g b n w [.ref a, .int (nI K)]) (gQv D b (n + 2) (fun w1 => w1 a = some (.inr (4, [.int (nI K), .ref n, .ref (n + 1), .int 1, .int 0, .int 0])) ∧ (∀ j, j < 2 → w1 (n + j) = some (ccl g (K + 1) j)) ∧ ∀ q, q < n → q ≠ a → w1 q = w q)) 2 14 (fun q => b ≤ q) := by
  refine g_met (by decide) (Nat.le_of_ble_eq_true rfl) ?_
  intro p e s m below meth c0 cx hr hlocks hnm hP hS ls hl
  have cx : gX rn_S cb_S_init 2 p c0 s m [.ref a, .int (nI K)].toArray D g := cx
  have hx := cx.1.1
  have hb := cx.1.2.1
  have hl : lv_has ls 2 [(0, .ref a), (1, .int (nI K))] := hl
  have fr : ∀ q, q < n → q ≠ a → w q = w q := fun _ _ _ => rfl
  have F : ∀ j, j < 0 → w (n + j) = some (ccl g (K + 1) j) := fun j h => absurd h (Nat.not_lt_zero j)
  have han : a < n := hP.lt fa
  obtain ⟨w0, hw0⟩ : ∃ w0, w0 = w := ⟨_, rfl⟩
  rw [← hw0] at hP fa F fr
  have fr : ∀ q, q < n → q ≠ a → w0 q = w q := fun q _ _ => by rw [hw0]
  refine lv_aload_n (pc := 0) hx hb dd_S_init_0 rfl (lv_at hl 0 rfl) ?_
  refine g_oi (pc := 1) ml_S_O_init cx hl (Nat.le_of_ble_eq_true rfl) (Nat.le_of_ble_eq_true rfl) dd_S_init_1 ?_
  refine lv_aload_n (pc := 4) hx hb dd_S_init_4 rfl (lv_at hl 0 rfl) ?_
  refine lv_iconst (pc := 5) (v := 1) hx hb dd_S_init_5 (by decide) ?_
  refine g_put (pc := 6) cx hnm hP hS fa rfl wf_S ty_S tk_S nm_S 3 (by decide) fl_S_S_count (fun _ h => h) rfl (ty := .int) (by decide +kernel) rfl rfl (Nat.le_of_ble_eq_true rfl) dd_S_init_6 (fun H locs hP hS => ?_)
  obtain ⟨w1, hw1⟩ : ∃ w1, w1 = va_up w0 a (some (.inr (4, [.int 0, .null, .null, .int 1, .int 0, .int 0]))) := ⟨_, rfl⟩
  have hP : gP D b (n + 0) w1 H := by rw [hw1]; exact hP
  have fa : w1 a = some (.inr (4, [.int 0, .null, .null, .int 1, .int 0, .int 0])) := by rw [hw1, vu_s]
  have F : ∀ j, j < 0 → w1 (n + j) = some (ccl g (K + 1) j) := fun j hj => by rw [hw1, vu_n _ _ (by omega)]; exact F j hj
  have fr : ∀ q, q < n → q ≠ a → w1 q = w q := fun q h1 h2 => by rw [hw1, vu_n _ _ h2]; exact fr q h1 h2
  clear hw1
  obtain ⟨w0, hw0⟩ : ∃ w0, w0 = w1 := ⟨_, rfl⟩
  rw [← hw0] at hP fa F fr
  clear hw0
  refine lv_aload_n (pc := 9) hx hb dd_S_init_9 rfl (lv_at hl 0 rfl) ?_
  refine lv_iload_n (pc := 10) hx hb dd_S_init_10 rfl (lv_at hl 1 rfl) ?_
  refine g_put (pc := 11) cx hnm hP hS fa rfl wf_S ty_S tk_S nm_S 0 (by decide) fl_S_S_mostTags (fun _ h => h) rfl (ty := .int) (by decide +kernel) rfl rfl (Nat.le_of_ble_eq_true rfl) dd_S_init_11 (fun H locs hP hS => ?_)
  obtain ⟨w1, hw1⟩ : ∃ w1, w1 = va_up w0 a (some (.inr (4, [.int (nI K), .null, .null, .int 1, .int 0, .int 0]))) := ⟨_, rfl⟩
  have hP : gP D b (n + 0) w1 H := by rw [hw1]; exact hP
  have fa : w1 a = some (.inr (4, [.int (nI K), .null, .null, .int 1, .int 0, .int 0])) := by rw [hw1, vu_s]
  have F : ∀ j, j < 0 → w1 (n + j) = some (ccl g (K + 1) j) := fun j hj => by rw [hw1, vu_n _ _ (by omega)]; exact F j hj
  have fr : ∀ q, q < n → q ≠ a → w1 q = w q := fun q h1 h2 => by rw [hw1, vu_n _ _ h2]; exact fr q h1 h2
  clear hw1
  obtain ⟨w0, hw0⟩ : ∃ w0, w0 = w1 := ⟨_, rfl⟩
  rw [← hw0] at hP fa F fr
  clear hw0
  refine lv_aload_n (pc := 14) hx hb dd_S_init_14 rfl (lv_at hl 0 rfl) ?_
  refine lv_iload_n (pc := 15) hx hb dd_S_init_15 rfl (lv_at hl 1 rfl) ?_
  refine lv_iconst (pc := 16) (v := 1) hx hb dd_S_init_16 (by decide) ?_
  refine lv_iadd (pc := 17) hx hb dd_S_init_17 ?_
  refine f_topi (nI_1 _) ?_
  refine g_newa (pc := 18) 0 (atype := .int) (ty := .int) (a0 := (K + 1, .inl (fun _ => 0))) cx hP hS ac_int rfl rfl (fun h => h) (fun _ => rfl) rfl (by omega) (by show (K + 1) * 4 ≤ _; omega) (Nat.le_of_ble_eq_true rfl) (by show 0 + (K + 1) ≤ 14; omega) dd_S_init_18 (fun H hP hS => ?_)
  obtain ⟨w1, hw1⟩ : ∃ w1, w1 = va_up w0 (n + 0) (some (.inl (g 0, (K + 1, .inl (fun _ => 0))))) := ⟨_, rfl⟩
  have hP : gP D b (n + 1) w1 H := by rw [hw1]; exact hP
  have fa : w1 a = some (.inr (4, [.int (nI K), .null, .null, .int 1, .int 0, .int 0])) := by rw [hw1, vu_n _ _ (by omega)]; exact fa
  have F : ∀ j, j < 1 → w1 (n + j) = some (ccl g (K + 1) j) := fun j hj => by
    by_cases hj2 : j = 0
    · subst hj2; rw [hw1, vu_s]; rfl
    · rw [hw1, vu_n _ _ (by omega)]; exact F j (by omega)
  have fr : ∀ q, q < n → q ≠ a → w1 q = w q := fun q h1 h2 => by rw [hw1, vu_n _ _ (by omega)]; exact fr q h1 h2
  clear hw1
  obtain ⟨w0, hw0⟩ : ∃ w0, w0 = w1 := ⟨_, rfl⟩
  rw [← hw0] at hP fa F fr
  clear hw0
  refine g_put (pc := 20) cx hnm hP hS fa rfl wf_S ty_S tk_S nm_S 1 (by decide) fl_S_S_tags (fun _ h => h) rfl (ty := .array .int) (by decide +kernel) rfl rfl (Nat.le_of_ble_eq_true rfl) dd_S_init_20 (fun H locs hP hS => ?_)
  obtain ⟨w1, hw1⟩ : ∃ w1, w1 = va_up w0 a (some (.inr (4, [.int (nI K), .ref (n + 0), .null, .int 1, .int 0, .int 0]))) := ⟨_, rfl⟩
  have hP : gP D b (n + 1) w1 H := by rw [hw1]; exact hP
  have fa : w1 a = some (.inr (4, [.int (nI K), .ref (n + 0), .null, .int 1, .int 0, .int 0])) := by rw [hw1, vu_s]
  have F : ∀ j, j < 1 → w1 (n + j) = some (ccl g (K + 1) j) := fun j hj => by rw [hw1, vu_n _ _ (by omega)]; exact F j hj
  have fr : ∀ q, q < n → q ≠ a → w1 q = w q := fun q h1 h2 => by rw [hw1, vu_n _ _ h2]; exact fr q h1 h2
  clear hw1
  obtain ⟨w0, hw0⟩ : ∃ w0, w0 = w1 := ⟨_, rfl⟩
  rw [← hw0] at hP fa F fr
  clear hw0
  refine lv_aload_n (pc := 23) hx hb dd_S_init_23 rfl (lv_at hl 0 rfl) ?_
  refine lv_iload_n (pc := 24) hx hb dd_S_init_24 rfl (lv_at hl 1 rfl) ?_
  refine lv_iconst (pc := 25) (v := 1) hx hb dd_S_init_25 (by decide) ?_
  refine lv_iadd (pc := 26) hx hb dd_S_init_26 ?_
  refine f_topi (nI_1 _) ?_
  refine g_newa (pc := 27) 1 (atype := .long) (ty := .long) (a0 := (K + 1, ja (fun _ => 0))) cx hP hS ac_long rfl rfl (fun h => h) (fun _ => rfl) rfl (by omega) (by show (K + 1) * 8 ≤ _; omega) (Nat.le_of_ble_eq_true rfl) (by show 0 + (K + 1) + (K + 1) ≤ 14; omega) dd_S_init_27 (fun H hP hS => ?_)
  obtain ⟨w1, hw1⟩ : ∃ w1, w1 = va_up w0 (n + 1) (some (.inl (g 1, (K + 1, ja (fun _ => 0))))) := ⟨_, rfl⟩
  have hP : gP D b (n + 2) w1 H := by rw [hw1]; exact hP
  have fa : w1 a = some (.inr (4, [.int (nI K), .ref (n + 0), .null, .int 1, .int 0, .int 0])) := by rw [hw1, vu_n _ _ (by omega)]; exact fa
  have F : ∀ j, j < 2 → w1 (n + j) = some (ccl g (K + 1) j) := fun j hj => by
    by_cases hj2 : j = 1
    · subst hj2; rw [hw1, vu_s]; rfl
    · rw [hw1, vu_n _ _ (by omega)]; exact F j (by omega)
  have fr : ∀ q, q < n → q ≠ a → w1 q = w q := fun q h1 h2 => by rw [hw1, vu_n _ _ (by omega)]; exact fr q h1 h2
  clear hw1
  obtain ⟨w0, hw0⟩ : ∃ w0, w0 = w1 := ⟨_, rfl⟩
  rw [← hw0] at hP fa F fr
  clear hw0
  refine g_put (pc := 29) cx hnm hP hS fa rfl wf_S ty_S tk_S nm_S 2 (by decide) fl_S_S_fragments (fun _ h => h) rfl (ty := .array .long) (by decide +kernel) rfl rfl (Nat.le_of_ble_eq_true rfl) dd_S_init_29 (fun H locs hP hS => ?_)
  obtain ⟨w1, hw1⟩ : ∃ w1, w1 = va_up w0 a (some (.inr (4, [.int (nI K), .ref (n + 0), .ref (n + 1), .int 1, .int 0, .int 0]))) := ⟨_, rfl⟩
  have hP : gP D b (n + 2) w1 H := by rw [hw1]; exact hP
  have fa : w1 a = some (.inr (4, [.int (nI K), .ref (n + 0), .ref (n + 1), .int 1, .int 0, .int 0])) := by rw [hw1, vu_s]
  have F : ∀ j, j < 2 → w1 (n + j) = some (ccl g (K + 1) j) := fun j hj => by rw [hw1, vu_n _ _ (by omega)]; exact F j hj
  have fr : ∀ q, q < n → q ≠ a → w1 q = w q := fun q h1 h2 => by rw [hw1, vu_n _ _ h2]; exact fr q h1 h2
  clear hw1
  obtain ⟨w0, hw0⟩ : ∃ w0, w0 = w1 := ⟨_, rfl⟩
  rw [← hw0] at hP fa F fr
  clear hw0
  refine W.widen (k := 2) (n := 14) (by omega) (by omega) ?_
  exact g_vret (pc := 32) cx hr hlocks hP hS ⟨fa, F, fr⟩ dd_S_init_32
set_option maxHeartbeats 4000000 in
set_option maxRecDepth 100000 in
theorem ct_K_init (l : Launch) (D : va_G) (g : Nat → ClassId) (b n : Nat) (w : Nat → Option va_E) (a : Nat) (fa : w a = some (.inr (1, [.int 0, .int 0, .null]))) (K : Nat) (hK : K ≤ 7) (hK1 : 1 ≤ K) : Met l mn_K_init (gw_ws mn_K_init cb_K_init 2 none) ({ frames := 1, cells := 1, slots := 7, locals := 21 } : Room) (gPc D g b n w [.ref a, .int (nI K)]) (gQv D b (n + 1) (fun w1 => w1 a = some (.inr (1, [.int (nI K), .int (nI ((8 + K - 1) / K)), .ref n])) ∧ (∀ j, j < 1 → w1 (n + j) = some (ccl g K j)) ∧ ∀ q, q < n → q ≠ a → w1 q = w q)) 1 7 (fun q => b ≤ q) := by
  refine g_met (by decide) (Nat.le_of_ble_eq_true rfl) ?_
  intro p e s m below meth c0 cx hr hlocks hnm hP hS ls hl
  have cx : gX rn_K cb_K_init 2 p c0 s m [.ref a, .int (nI K)].toArray D g := cx
  have hx := cx.1.1
  have hb := cx.1.2.1
  have hl : lv_has ls 2 [(0, .ref a), (1, .int (nI K))] := hl
  have fr : ∀ q, q < n → q ≠ a → w q = w q := fun _ _ _ => rfl
  have F : ∀ j, j < 0 → w (n + j) = some (ccl g K j) := fun j h => absurd h (Nat.not_lt_zero j)
  have han : a < n := hP.lt fa
  obtain ⟨w0, hw0⟩ : ∃ w0, w0 = w := ⟨_, rfl⟩
  rw [← hw0] at hP fa F fr
  have fr : ∀ q, q < n → q ≠ a → w0 q = w q := fun q _ _ => by rw [hw0]
  refine lv_aload_n (pc := 0) hx hb dd_K_init_0 rfl (lv_at hl 0 rfl) ?_
  refine g_oi (pc := 1) ml_K_O_init cx hl (Nat.le_of_ble_eq_true rfl) (Nat.le_of_ble_eq_true rfl) dd_K_init_1 ?_
  refine lv_aload_n (pc := 4) hx hb dd_K_init_4 rfl (lv_at hl 0 rfl) ?_
  refine lv_iload_n (pc := 5) hx hb dd_K_init_5 rfl (lv_at hl 1 rfl) ?_
  refine g_put (pc := 6) cx hnm hP hS fa rfl wf_K ty_K tk_K nm_K 0 (by decide) fl_K_K_needed (fun _ h => h) rfl (ty := .int) (by decide +kernel) rfl rfl (Nat.le_of_ble_eq_true rfl) dd_K_init_6 (fun H locs hP hS => ?_)
  obtain ⟨w1, hw1⟩ : ∃ w1, w1 = va_up w0 a (some (.inr (1, [.int (nI K), .int 0, .null]))) := ⟨_, rfl⟩
  have hP : gP D b (n + 0) w1 H := by rw [hw1]; exact hP
  have fa : w1 a = some (.inr (1, [.int (nI K), .int 0, .null])) := by rw [hw1, vu_s]
  have F : ∀ j, j < 0 → w1 (n + j) = some (ccl g K j) := fun j hj => by rw [hw1, vu_n _ _ (by omega)]; exact F j hj
  have fr : ∀ q, q < n → q ≠ a → w1 q = w q := fun q h1 h2 => by rw [hw1, vu_n _ _ h2]; exact fr q h1 h2
  clear hw1
  obtain ⟨w0, hw0⟩ : ∃ w0, w0 = w1 := ⟨_, rfl⟩
  rw [← hw0] at hP fa F fr
  clear hw0
  refine lv_aload_n (pc := 9) hx hb dd_K_init_9 rfl (lv_at hl 0 rfl) ?_
  refine lv_bipush (pc := 10) (v := nI 8) hx hb dd_K_init_10 (by decide) ?_
  refine lv_iload_n (pc := 12) hx hb dd_K_init_12 rfl (lv_at hl 1 rfl) ?_
  refine lv_iadd (pc := 13) hx hb dd_K_init_13 ?_
  refine lv_iconst (pc := 14) (v := 1) hx hb dd_K_init_14 (by decide) ?_
  refine lv_isub (pc := 15) hx hb dd_K_init_15 ?_
  refine lv_iload_n (pc := 16) hx hb dd_K_init_16 rfl (lv_at hl 1 rfl) ?_
  refine lv_idiv (pc := 17) hx hb dd_K_init_17 (fun q => by have := (nI_eq (show K < 2 ^ 31 by omega) (by decide)).mp (show nI K = nI 0 from q); omega) ?_
  refine f_topi (show (nI 8 + nI K - 1) / nI K = nI ((8 + K - 1) / K) by rw [nI_add, f_pred (by omega), pk_div (by omega) (by omega) (by omega)]) ?_
  refine g_put (pc := 18) cx hnm hP hS fa rfl wf_K ty_K tk_K nm_K 1 (by decide) fl_K_K_length (fun _ h => h) rfl (ty := .int) (by decide +kernel) rfl rfl (Nat.le_of_ble_eq_true rfl) dd_K_init_18 (fun H locs hP hS => ?_)
  obtain ⟨w1, hw1⟩ : ∃ w1, w1 = va_up w0 a (some (.inr (1, [.int (nI K), .int (nI ((8 + K - 1) / K)), .null]))) := ⟨_, rfl⟩
  have hP : gP D b (n + 0) w1 H := by rw [hw1]; exact hP
  have fa : w1 a = some (.inr (1, [.int (nI K), .int (nI ((8 + K - 1) / K)), .null])) := by rw [hw1, vu_s]
  have F : ∀ j, j < 0 → w1 (n + j) = some (ccl g K j) := fun j hj => by rw [hw1, vu_n _ _ (by omega)]; exact F j hj
  have fr : ∀ q, q < n → q ≠ a → w1 q = w q := fun q h1 h2 => by rw [hw1, vu_n _ _ h2]; exact fr q h1 h2
  clear hw1
  obtain ⟨w0, hw0⟩ : ∃ w0, w0 = w1 := ⟨_, rfl⟩
  rw [← hw0] at hP fa F fr
  clear hw0
  refine lv_aload_n (pc := 21) hx hb dd_K_init_21 rfl (lv_at hl 0 rfl) ?_
  refine lv_iload_n (pc := 22) hx hb dd_K_init_22 rfl (lv_at hl 1 rfl) ?_
  refine g_newa (pc := 23) 0 (atype := .int) (ty := .int) (a0 := (K, .inl (fun _ => 0))) cx hP hS ac_int rfl rfl (fun h => h) (fun _ => rfl) rfl (by omega) (by show (K) * 4 ≤ _; omega) (Nat.le_of_ble_eq_true rfl) (by show 0 + K ≤ 7; omega) dd_K_init_23 (fun H hP hS => ?_)
  obtain ⟨w1, hw1⟩ : ∃ w1, w1 = va_up w0 (n + 0) (some (.inl (g 0, (K, .inl (fun _ => 0))))) := ⟨_, rfl⟩
  have hP : gP D b (n + 1) w1 H := by rw [hw1]; exact hP
  have fa : w1 a = some (.inr (1, [.int (nI K), .int (nI ((8 + K - 1) / K)), .null])) := by rw [hw1, vu_n _ _ (by omega)]; exact fa
  have F : ∀ j, j < 1 → w1 (n + j) = some (ccl g K j) := fun j hj => by
    by_cases hj2 : j = 0
    · subst hj2; rw [hw1, vu_s]; rfl
    · rw [hw1, vu_n _ _ (by omega)]; exact F j (by omega)
  have fr : ∀ q, q < n → q ≠ a → w1 q = w q := fun q h1 h2 => by rw [hw1, vu_n _ _ (by omega)]; exact fr q h1 h2
  clear hw1
  obtain ⟨w0, hw0⟩ : ∃ w0, w0 = w1 := ⟨_, rfl⟩
  rw [← hw0] at hP fa F fr
  clear hw0
  refine g_put (pc := 25) cx hnm hP hS fa rfl wf_K ty_K tk_K nm_K 2 (by decide) fl_K_K_column (fun _ h => h) rfl (ty := .array .int) (by decide +kernel) rfl rfl (Nat.le_of_ble_eq_true rfl) dd_K_init_25 (fun H locs hP hS => ?_)
  obtain ⟨w1, hw1⟩ : ∃ w1, w1 = va_up w0 a (some (.inr (1, [.int (nI K), .int (nI ((8 + K - 1) / K)), .ref (n + 0)]))) := ⟨_, rfl⟩
  have hP : gP D b (n + 1) w1 H := by rw [hw1]; exact hP
  have fa : w1 a = some (.inr (1, [.int (nI K), .int (nI ((8 + K - 1) / K)), .ref (n + 0)])) := by rw [hw1, vu_s]
  have F : ∀ j, j < 1 → w1 (n + j) = some (ccl g K j) := fun j hj => by rw [hw1, vu_n _ _ (by omega)]; exact F j hj
  have fr : ∀ q, q < n → q ≠ a → w1 q = w q := fun q h1 h2 => by rw [hw1, vu_n _ _ h2]; exact fr q h1 h2
  clear hw1
  obtain ⟨w0, hw0⟩ : ∃ w0, w0 = w1 := ⟨_, rfl⟩
  rw [← hw0] at hP fa F fr
  clear hw0
  refine W.widen (k := 1) (n := 7) (by omega) (by omega) ?_
  exact g_vret (pc := 28) cx hr hlocks hP hS ⟨fa, F, fr⟩ dd_K_init_28
set_option maxHeartbeats 4000000 in
set_option maxRecDepth 100000 in
theorem ct_R_init (l : Launch) (D : va_G) (g : Nat → ClassId) (b n : Nat) (w : Nat → Option va_E) (a : Nat) (fa : w a = some (.inr (3, [.null, .int 0]))) : Met l mn_R_init (gw_ws mn_R_init cb_R_init 1 none) ({ frames := 1, cells := 1, slots := 7, locals := 21 } : Room) (gPc D g b n w [.ref a]) (gQv D b (n + 1) (fun w1 => w1 a = some (.inr (3, [.ref n, .int 0])) ∧ (∀ j, j < 1 → w1 (n + j) = some (ccr g j)) ∧ ∀ q, q < n → q ≠ a → w1 q = w q)) 1 7 (fun q => b ≤ q) := by
  refine g_met (by decide) (Nat.le_of_ble_eq_true rfl) ?_
  intro p e s m below meth c0 cx hr hlocks hnm hP hS ls hl
  have cx : gX rn_R cb_R_init 1 p c0 s m [.ref a].toArray D g := cx
  have hx := cx.1.1
  have hb := cx.1.2.1
  have hl : lv_has ls 1 [(0, .ref a)] := hl
  have han : a < n := hP.lt fa
  refine lv_aload_n (pc := 0) hx hb dd_R_init_0 rfl (lv_at hl 0 rfl) ?_
  refine g_oi (pc := 1) ml_R_O_init cx hl (Nat.le_of_ble_eq_true rfl) (Nat.le_of_ble_eq_true rfl) dd_R_init_1 ?_
  refine lv_aload_n (pc := 4) hx hb dd_R_init_4 rfl (lv_at hl 0 rfl) ?_
  refine lv_bipush (pc := 5) (v := nI 7) hx hb dd_R_init_5 (by decide) ?_
  refine g_newq (pc := 7) 6 (N' := 7) cx hP hS kl_R_L cx.2.2.2.2.2.1 rfl rfl (by omega) (Nat.le_of_ble_eq_true rfl) (Nat.le_of_ble_eq_true rfl) dd_R_init_7 (fun H hP hS => ?_)
  refine g_put (pc := 10) cx hnm hP hS (fs := [.null, .int 0]) (by rw [vu_n _ _ (by omega)]; exact fa) rfl wf_R ty_R tk_R nm_R 0 (by decide) fl_R_R_letters (fun _ h => h) rfl (ty := .array (.object "SealedFragmentRegister$Letter")) (by decide +kernel) rfl rfl (Nat.le_of_ble_eq_true rfl) dd_R_init_10 (fun H locs hP hS => ?_)
  refine W.widen (k := 1) (n := 7) (by omega) (by omega) ?_
  exact g_vret (pc := 13) cx hr hlocks hP hS ⟨by rw [vu_s]; rfl, fun j hj => by rw [show j = 0 by omega, vu_n _ _ (by omega)]; exact vu_s _ _ _, fun q h1 h2 => by rw [vu_n _ _ h2, vu_n _ _ (by omega)]⟩ dd_R_init_13
