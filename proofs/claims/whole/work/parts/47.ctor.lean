-- contract of the making of the reference, by wip/whole/gen/c_ctor3.py
def cmz (g : Nat → ClassId) : Nat → va_E := fun j => match j with
  | 0 => .inl (g 0, 5, .inl (fun _ => 0))
  | 1 => .inl (g 0, 5, .inl (fun _ => 0))
  | 2 => .inl (g 0, 5, .inl (fun _ => 0))
  | 3 => .inl (g 0, 5, .inl (fun _ => 0))
  | 4 => .inl (g 0, 5, .inl (fun _ => 0))
  | 5 => .inl (g 0, 5, .inl (fun _ => 0))
  | 6 => .inl (g 0, 5, .inl (fun _ => 0))
  | 7 => .inl (g 1, 5, ja (fun _ => 0))
  | 8 => .inl (g 1, 5, ja (fun _ => 0))
  | 9 => .inl (g 1, 5, ja (fun _ => 0))
  | 10 => .inl (g 2, 7, .inl (fun _ => 0))
  | 11 => .inl (g 0, 7, .inl (fun _ => 0))
  | 12 => .inl (g 0, 7, .inl (fun _ => 0))
  | 13 => .inl (g 0, 35, .inl (fun _ => 0))
  | 14 => .inl (g 1, 35, ja (fun _ => 0))
  | 15 => .inl (g 2, 256, .inl (fun _ => 0))
  | 16 => .inl (g 2, 256, .inl (fun _ => 0))
  | 17 => .inl (g 0, 256, .inl (fun _ => 0))
  | 18 => .inl (g 0, 256, .inl (fun _ => 0))
  | 19 => .inl (g 0, 256, .inl (fun _ => 0))
  | 20 => .inl (g 0, 256, .inl (fun _ => 0))
  | 21 => .inl (g 0, 256, .inl (fun _ => 0))
  | _ => .inl (g 1, 256, ja (fun _ => 0))
set_option maxHeartbeats 4000000 in
set_option maxRecDepth 100000 in
theorem ct_M_init (l : Launch) (D : va_G) (g : Nat → ClassId) (b n : Nat) (w : Nat → Option va_E) (a : Nat) (fa : w a = some (.inr (6, [.int 0, .int 0, .int 0, .null, .null, .null, .null, .null, .null, .null, .null, .null, .null, .null, .null, .null, .null, .null, .int 0, .null, .null, .null, .null, .null, .null, .null, .null]))) (z1 z2 z3 : Int32) : Met l mn_M_init (gw_ws mn_M_init cb_M_init 5 none) ({ frames := 1, cells := 23, slots := 2189, locals := 21 } : Room) (gPc D g b n w [.ref a, .int z1, .int z2, .int z3]) (gQv D b (n + 23) (fun w1 => w1 a = some (.inr (6, [.int (nI (clN 3 7 z1)), .int (nI (clN 1 (clN 3 7 z1) z2)), .int (nI (clN 0 3 z3)), .ref (n + 0), .ref (n + 1), .ref (n + 2), .ref (n + 3), .ref (n + 4), .ref (n + 5), .ref (n + 6), .ref (n + 7), .ref (n + 8), .ref (n + 9), .ref (n + 10), .ref (n + 11), .ref (n + 12), .ref (n + 13), .ref (n + 14), .int 0, .ref (n + 15), .ref (n + 16), .ref (n + 17), .ref (n + 18), .ref (n + 19), .ref (n + 20), .ref (n + 21), .ref (n + 22)])) ∧ w1 (n + 12) = some (.inl (g 0, 7, .inl (fun j => if j < (clN 3 7 z1) then 1 else 0))) ∧ (∀ j, j < 23 → j ≠ 12 → w1 (n + j) = some (cmz g j)) ∧ ∀ q, q < n → q ≠ a → w1 q = w q)) 23 2189 (fun q => b ≤ q) := by
  refine g_met (by decide) (Nat.le_of_ble_eq_true rfl) ?_
  intro p e s m below meth c0 cx hr hlocks hnm hP hS ls hl
  have cx : gX rn_M cb_M_init 5 p c0 s m [.ref a, .int z1, .int z2, .int z3].toArray D g := cx
  have hx := cx.1.1
  have hb := cx.1.2.1
  have hl : lv_has ls 5 [(0, .ref a), (1, .int z1), (2, .int z2), (3, .int z3)] := hl
  have fr : ∀ q, q < n → q ≠ a → w q = w q := fun _ _ _ => rfl
  have F : ∀ j, j < 0 → w (n + j) = some (cmz g j) := fun j h => absurd h (Nat.not_lt_zero j)
  have han : a < n := hP.lt fa
  obtain ⟨w0, hw0⟩ : ∃ w0, w0 = w := ⟨_, rfl⟩
  rw [← hw0] at hP fa F fr
  have fr : ∀ q, q < n → q ≠ a → w0 q = w q := fun q _ _ => by rw [hw0]
  refine lv_aload_n (pc := 0) hx hb dd_M_init_0 rfl (lv_at hl 0 rfl) ?_
  refine g_oi (pc := 1) ml_M_O_init cx hl (Nat.le_of_ble_eq_true rfl) (Nat.le_of_ble_eq_true rfl) dd_M_init_1 ?_
  refine lv_aload_n (pc := 4) hx hb dd_M_init_4 rfl (lv_at hl 0 rfl) ?_
  refine lv_iconst (pc := 5) (v := nI 5) hx hb dd_M_init_5 (by decide) ?_
  refine g_newa (pc := 6) 0 (atype := .int) (ty := .int) (a0 := (5, .inl (fun _ => 0))) cx hP hS ac_int rfl rfl (fun h => h) (fun _ => rfl) rfl (by omega) (by show (5) * 4 ≤ _; omega) (Nat.le_of_ble_eq_true rfl) (Nat.le_of_ble_eq_true rfl) dd_M_init_6 (fun H hP hS => ?_)
  obtain ⟨w1, hw1⟩ : ∃ w1, w1 = va_up w0 (n + 0) (some (.inl (g 0, (5, .inl (fun _ => 0))))) := ⟨_, rfl⟩
  have hP : gP D b (n + 1) w1 H := by rw [hw1]; exact hP
  have fa : w1 a = some (.inr (6, [.int 0, .int 0, .int 0, .null, .null, .null, .null, .null, .null, .null, .null, .null, .null, .null, .null, .null, .null, .null, .int 0, .null, .null, .null, .null, .null, .null, .null, .null])) := by rw [hw1, vu_n _ _ (by omega)]; exact fa
  have F : ∀ j, j < 1 → w1 (n + j) = some (cmz g j) := fun j hj => by
    by_cases hj2 : j = 0
    · subst hj2; rw [hw1, vu_s]; rfl
    · rw [hw1, vu_n _ _ (by omega)]; exact F j (by omega)
  have fr : ∀ q, q < n → q ≠ a → w1 q = w q := fun q h1 h2 => by rw [hw1, vu_n _ _ (by omega)]; exact fr q h1 h2
  clear hw1
  obtain ⟨w0, hw0⟩ : ∃ w0, w0 = w1 := ⟨_, rfl⟩
  rw [← hw0] at hP fa F fr
  clear hw0
  refine g_put (pc := 8) cx hnm hP hS fa rfl wf_M ty_M tk_M nm_M 3 (by decide) fl_M_M_phase (fun _ h => h) rfl (ty := .array .int) (by decide +kernel) rfl rfl (Nat.le_of_ble_eq_true rfl) dd_M_init_8 (fun H locs hP hS => ?_)
  obtain ⟨w1, hw1⟩ : ∃ w1, w1 = va_up w0 a (some (.inr (6, [.int 0, .int 0, .int 0, .ref (n + 0), .null, .null, .null, .null, .null, .null, .null, .null, .null, .null, .null, .null, .null, .null, .int 0, .null, .null, .null, .null, .null, .null, .null, .null]))) := ⟨_, rfl⟩
  have hP : gP D b (n + 1) w1 H := by rw [hw1]; exact hP
  have fa : w1 a = some (.inr (6, [.int 0, .int 0, .int 0, .ref (n + 0), .null, .null, .null, .null, .null, .null, .null, .null, .null, .null, .null, .null, .null, .null, .int 0, .null, .null, .null, .null, .null, .null, .null, .null])) := by rw [hw1, vu_s]
  have F : ∀ j, j < 1 → w1 (n + j) = some (cmz g j) := fun j hj => by rw [hw1, vu_n _ _ (by omega)]; exact F j hj
  have fr : ∀ q, q < n → q ≠ a → w1 q = w q := fun q h1 h2 => by rw [hw1, vu_n _ _ h2]; exact fr q h1 h2
  clear hw1
  obtain ⟨w0, hw0⟩ : ∃ w0, w0 = w1 := ⟨_, rfl⟩
  rw [← hw0] at hP fa F fr
  clear hw0
  refine lv_aload_n (pc := 11) hx hb dd_M_init_11 rfl (lv_at hl 0 rfl) ?_
  refine lv_iconst (pc := 12) (v := nI 5) hx hb dd_M_init_12 (by decide) ?_
  refine g_newa (pc := 13) 0 (atype := .int) (ty := .int) (a0 := (5, .inl (fun _ => 0))) cx hP hS ac_int rfl rfl (fun h => h) (fun _ => rfl) rfl (by omega) (by show (5) * 4 ≤ _; omega) (Nat.le_of_ble_eq_true rfl) (Nat.le_of_ble_eq_true rfl) dd_M_init_13 (fun H hP hS => ?_)
  obtain ⟨w1, hw1⟩ : ∃ w1, w1 = va_up w0 (n + 1) (some (.inl (g 0, (5, .inl (fun _ => 0))))) := ⟨_, rfl⟩
  have hP : gP D b (n + 2) w1 H := by rw [hw1]; exact hP
  have fa : w1 a = some (.inr (6, [.int 0, .int 0, .int 0, .ref (n + 0), .null, .null, .null, .null, .null, .null, .null, .null, .null, .null, .null, .null, .null, .null, .int 0, .null, .null, .null, .null, .null, .null, .null, .null])) := by rw [hw1, vu_n _ _ (by omega)]; exact fa
  have F : ∀ j, j < 2 → w1 (n + j) = some (cmz g j) := fun j hj => by
    by_cases hj2 : j = 1
    · subst hj2; rw [hw1, vu_s]; rfl
    · rw [hw1, vu_n _ _ (by omega)]; exact F j (by omega)
  have fr : ∀ q, q < n → q ≠ a → w1 q = w q := fun q h1 h2 => by rw [hw1, vu_n _ _ (by omega)]; exact fr q h1 h2
  clear hw1
  obtain ⟨w0, hw0⟩ : ∃ w0, w0 = w1 := ⟨_, rfl⟩
  rw [← hw0] at hP fa F fr
  clear hw0
  refine g_put (pc := 15) cx hnm hP hS fa rfl wf_M ty_M tk_M nm_M 4 (by decide) fl_M_M_age (fun _ h => h) rfl (ty := .array .int) (by decide +kernel) rfl rfl (Nat.le_of_ble_eq_true rfl) dd_M_init_15 (fun H locs hP hS => ?_)
  obtain ⟨w1, hw1⟩ : ∃ w1, w1 = va_up w0 a (some (.inr (6, [.int 0, .int 0, .int 0, .ref (n + 0), .ref (n + 1), .null, .null, .null, .null, .null, .null, .null, .null, .null, .null, .null, .null, .null, .int 0, .null, .null, .null, .null, .null, .null, .null, .null]))) := ⟨_, rfl⟩
  have hP : gP D b (n + 2) w1 H := by rw [hw1]; exact hP
  have fa : w1 a = some (.inr (6, [.int 0, .int 0, .int 0, .ref (n + 0), .ref (n + 1), .null, .null, .null, .null, .null, .null, .null, .null, .null, .null, .null, .null, .null, .int 0, .null, .null, .null, .null, .null, .null, .null, .null])) := by rw [hw1, vu_s]
  have F : ∀ j, j < 2 → w1 (n + j) = some (cmz g j) := fun j hj => by rw [hw1, vu_n _ _ (by omega)]; exact F j hj
  have fr : ∀ q, q < n → q ≠ a → w1 q = w q := fun q h1 h2 => by rw [hw1, vu_n _ _ h2]; exact fr q h1 h2
  clear hw1
  obtain ⟨w0, hw0⟩ : ∃ w0, w0 = w1 := ⟨_, rfl⟩
  rw [← hw0] at hP fa F fr
  clear hw0
  refine lv_aload_n (pc := 18) hx hb dd_M_init_18 rfl (lv_at hl 0 rfl) ?_
  refine lv_iconst (pc := 19) (v := nI 5) hx hb dd_M_init_19 (by decide) ?_
  refine g_newa (pc := 20) 0 (atype := .int) (ty := .int) (a0 := (5, .inl (fun _ => 0))) cx hP hS ac_int rfl rfl (fun h => h) (fun _ => rfl) rfl (by omega) (by show (5) * 4 ≤ _; omega) (Nat.le_of_ble_eq_true rfl) (Nat.le_of_ble_eq_true rfl) dd_M_init_20 (fun H hP hS => ?_)
  obtain ⟨w1, hw1⟩ : ∃ w1, w1 = va_up w0 (n + 2) (some (.inl (g 0, (5, .inl (fun _ => 0))))) := ⟨_, rfl⟩
  have hP : gP D b (n + 3) w1 H := by rw [hw1]; exact hP
  have fa : w1 a = some (.inr (6, [.int 0, .int 0, .int 0, .ref (n + 0), .ref (n + 1), .null, .null, .null, .null, .null, .null, .null, .null, .null, .null, .null, .null, .null, .int 0, .null, .null, .null, .null, .null, .null, .null, .null])) := by rw [hw1, vu_n _ _ (by omega)]; exact fa
  have F : ∀ j, j < 3 → w1 (n + j) = some (cmz g j) := fun j hj => by
    by_cases hj2 : j = 2
    · subst hj2; rw [hw1, vu_s]; rfl
    · rw [hw1, vu_n _ _ (by omega)]; exact F j (by omega)
  have fr : ∀ q, q < n → q ≠ a → w1 q = w q := fun q h1 h2 => by rw [hw1, vu_n _ _ (by omega)]; exact fr q h1 h2
  clear hw1
  obtain ⟨w0, hw0⟩ : ∃ w0, w0 = w1 := ⟨_, rfl⟩
  rw [← hw0] at hP fa F fr
  clear hw0
  refine g_put (pc := 22) cx hnm hP hS fa rfl wf_M ty_M tk_M nm_M 5 (by decide) fl_M_M_counted (fun _ h => h) rfl (ty := .array .int) (by decide +kernel) rfl rfl (Nat.le_of_ble_eq_true rfl) dd_M_init_22 (fun H locs hP hS => ?_)
  obtain ⟨w1, hw1⟩ : ∃ w1, w1 = va_up w0 a (some (.inr (6, [.int 0, .int 0, .int 0, .ref (n + 0), .ref (n + 1), .ref (n + 2), .null, .null, .null, .null, .null, .null, .null, .null, .null, .null, .null, .null, .int 0, .null, .null, .null, .null, .null, .null, .null, .null]))) := ⟨_, rfl⟩
  have hP : gP D b (n + 3) w1 H := by rw [hw1]; exact hP
  have fa : w1 a = some (.inr (6, [.int 0, .int 0, .int 0, .ref (n + 0), .ref (n + 1), .ref (n + 2), .null, .null, .null, .null, .null, .null, .null, .null, .null, .null, .null, .null, .int 0, .null, .null, .null, .null, .null, .null, .null, .null])) := by rw [hw1, vu_s]
  have F : ∀ j, j < 3 → w1 (n + j) = some (cmz g j) := fun j hj => by rw [hw1, vu_n _ _ (by omega)]; exact F j hj
  have fr : ∀ q, q < n → q ≠ a → w1 q = w q := fun q h1 h2 => by rw [hw1, vu_n _ _ h2]; exact fr q h1 h2
  clear hw1
  obtain ⟨w0, hw0⟩ : ∃ w0, w0 = w1 := ⟨_, rfl⟩
  rw [← hw0] at hP fa F fr
  clear hw0
  refine lv_aload_n (pc := 25) hx hb dd_M_init_25 rfl (lv_at hl 0 rfl) ?_
  refine lv_iconst (pc := 26) (v := nI 5) hx hb dd_M_init_26 (by decide) ?_
  refine g_newa (pc := 27) 0 (atype := .int) (ty := .int) (a0 := (5, .inl (fun _ => 0))) cx hP hS ac_int rfl rfl (fun h => h) (fun _ => rfl) rfl (by omega) (by show (5) * 4 ≤ _; omega) (Nat.le_of_ble_eq_true rfl) (Nat.le_of_ble_eq_true rfl) dd_M_init_27 (fun H hP hS => ?_)
  obtain ⟨w1, hw1⟩ : ∃ w1, w1 = va_up w0 (n + 3) (some (.inl (g 0, (5, .inl (fun _ => 0))))) := ⟨_, rfl⟩
  have hP : gP D b (n + 4) w1 H := by rw [hw1]; exact hP
  have fa : w1 a = some (.inr (6, [.int 0, .int 0, .int 0, .ref (n + 0), .ref (n + 1), .ref (n + 2), .null, .null, .null, .null, .null, .null, .null, .null, .null, .null, .null, .null, .int 0, .null, .null, .null, .null, .null, .null, .null, .null])) := by rw [hw1, vu_n _ _ (by omega)]; exact fa
  have F : ∀ j, j < 4 → w1 (n + j) = some (cmz g j) := fun j hj => by
    by_cases hj2 : j = 3
    · subst hj2; rw [hw1, vu_s]; rfl
    · rw [hw1, vu_n _ _ (by omega)]; exact F j (by omega)
  have fr : ∀ q, q < n → q ≠ a → w1 q = w q := fun q h1 h2 => by rw [hw1, vu_n _ _ (by omega)]; exact fr q h1 h2
  clear hw1
  obtain ⟨w0, hw0⟩ : ∃ w0, w0 = w1 := ⟨_, rfl⟩
  rw [← hw0] at hP fa F fr
  clear hw0
  refine g_put (pc := 29) cx hnm hP hS fa rfl wf_M ty_M tk_M nm_M 6 (by decide) fl_M_M_bearing (fun _ h => h) rfl (ty := .array .int) (by decide +kernel) rfl rfl (Nat.le_of_ble_eq_true rfl) dd_M_init_29 (fun H locs hP hS => ?_)
  obtain ⟨w1, hw1⟩ : ∃ w1, w1 = va_up w0 a (some (.inr (6, [.int 0, .int 0, .int 0, .ref (n + 0), .ref (n + 1), .ref (n + 2), .ref (n + 3), .null, .null, .null, .null, .null, .null, .null, .null, .null, .null, .null, .int 0, .null, .null, .null, .null, .null, .null, .null, .null]))) := ⟨_, rfl⟩
  have hP : gP D b (n + 4) w1 H := by rw [hw1]; exact hP
  have fa : w1 a = some (.inr (6, [.int 0, .int 0, .int 0, .ref (n + 0), .ref (n + 1), .ref (n + 2), .ref (n + 3), .null, .null, .null, .null, .null, .null, .null, .null, .null, .null, .null, .int 0, .null, .null, .null, .null, .null, .null, .null, .null])) := by rw [hw1, vu_s]
  have F : ∀ j, j < 4 → w1 (n + j) = some (cmz g j) := fun j hj => by rw [hw1, vu_n _ _ (by omega)]; exact F j hj
  have fr : ∀ q, q < n → q ≠ a → w1 q = w q := fun q h1 h2 => by rw [hw1, vu_n _ _ h2]; exact fr q h1 h2
  clear hw1
  obtain ⟨w0, hw0⟩ : ∃ w0, w0 = w1 := ⟨_, rfl⟩
  rw [← hw0] at hP fa F fr
  clear hw0
  refine lv_aload_n (pc := 32) hx hb dd_M_init_32 rfl (lv_at hl 0 rfl) ?_
  refine lv_iconst (pc := 33) (v := nI 5) hx hb dd_M_init_33 (by decide) ?_
  refine g_newa (pc := 34) 0 (atype := .int) (ty := .int) (a0 := (5, .inl (fun _ => 0))) cx hP hS ac_int rfl rfl (fun h => h) (fun _ => rfl) rfl (by omega) (by show (5) * 4 ≤ _; omega) (Nat.le_of_ble_eq_true rfl) (Nat.le_of_ble_eq_true rfl) dd_M_init_34 (fun H hP hS => ?_)
  obtain ⟨w1, hw1⟩ : ∃ w1, w1 = va_up w0 (n + 4) (some (.inl (g 0, (5, .inl (fun _ => 0))))) := ⟨_, rfl⟩
  have hP : gP D b (n + 5) w1 H := by rw [hw1]; exact hP
  have fa : w1 a = some (.inr (6, [.int 0, .int 0, .int 0, .ref (n + 0), .ref (n + 1), .ref (n + 2), .ref (n + 3), .null, .null, .null, .null, .null, .null, .null, .null, .null, .null, .null, .int 0, .null, .null, .null, .null, .null, .null, .null, .null])) := by rw [hw1, vu_n _ _ (by omega)]; exact fa
  have F : ∀ j, j < 5 → w1 (n + j) = some (cmz g j) := fun j hj => by
    by_cases hj2 : j = 4
    · subst hj2; rw [hw1, vu_s]; rfl
    · rw [hw1, vu_n _ _ (by omega)]; exact F j (by omega)
  have fr : ∀ q, q < n → q ≠ a → w1 q = w q := fun q h1 h2 => by rw [hw1, vu_n _ _ (by omega)]; exact fr q h1 h2
  clear hw1
  obtain ⟨w0, hw0⟩ : ∃ w0, w0 = w1 := ⟨_, rfl⟩
  rw [← hw0] at hP fa F fr
  clear hw0
  refine g_put (pc := 36) cx hnm hP hS fa rfl wf_M ty_M tk_M nm_M 7 (by decide) fl_M_M_best (fun _ h => h) rfl (ty := .array .int) (by decide +kernel) rfl rfl (Nat.le_of_ble_eq_true rfl) dd_M_init_36 (fun H locs hP hS => ?_)
  obtain ⟨w1, hw1⟩ : ∃ w1, w1 = va_up w0 a (some (.inr (6, [.int 0, .int 0, .int 0, .ref (n + 0), .ref (n + 1), .ref (n + 2), .ref (n + 3), .ref (n + 4), .null, .null, .null, .null, .null, .null, .null, .null, .null, .null, .int 0, .null, .null, .null, .null, .null, .null, .null, .null]))) := ⟨_, rfl⟩
  have hP : gP D b (n + 5) w1 H := by rw [hw1]; exact hP
  have fa : w1 a = some (.inr (6, [.int 0, .int 0, .int 0, .ref (n + 0), .ref (n + 1), .ref (n + 2), .ref (n + 3), .ref (n + 4), .null, .null, .null, .null, .null, .null, .null, .null, .null, .null, .int 0, .null, .null, .null, .null, .null, .null, .null, .null])) := by rw [hw1, vu_s]
  have F : ∀ j, j < 5 → w1 (n + j) = some (cmz g j) := fun j hj => by rw [hw1, vu_n _ _ (by omega)]; exact F j hj
  have fr : ∀ q, q < n → q ≠ a → w1 q = w q := fun q h1 h2 => by rw [hw1, vu_n _ _ h2]; exact fr q h1 h2
  clear hw1
  obtain ⟨w0, hw0⟩ : ∃ w0, w0 = w1 := ⟨_, rfl⟩
  rw [← hw0] at hP fa F fr
  clear hw0
  refine lv_aload_n (pc := 39) hx hb dd_M_init_39 rfl (lv_at hl 0 rfl) ?_
  refine lv_iconst (pc := 40) (v := nI 5) hx hb dd_M_init_40 (by decide) ?_
  refine g_newa (pc := 41) 0 (atype := .int) (ty := .int) (a0 := (5, .inl (fun _ => 0))) cx hP hS ac_int rfl rfl (fun h => h) (fun _ => rfl) rfl (by omega) (by show (5) * 4 ≤ _; omega) (Nat.le_of_ble_eq_true rfl) (Nat.le_of_ble_eq_true rfl) dd_M_init_41 (fun H hP hS => ?_)
  obtain ⟨w1, hw1⟩ : ∃ w1, w1 = va_up w0 (n + 5) (some (.inl (g 0, (5, .inl (fun _ => 0))))) := ⟨_, rfl⟩
  have hP : gP D b (n + 6) w1 H := by rw [hw1]; exact hP
  have fa : w1 a = some (.inr (6, [.int 0, .int 0, .int 0, .ref (n + 0), .ref (n + 1), .ref (n + 2), .ref (n + 3), .ref (n + 4), .null, .null, .null, .null, .null, .null, .null, .null, .null, .null, .int 0, .null, .null, .null, .null, .null, .null, .null, .null])) := by rw [hw1, vu_n _ _ (by omega)]; exact fa
  have F : ∀ j, j < 6 → w1 (n + j) = some (cmz g j) := fun j hj => by
    by_cases hj2 : j = 5
    · subst hj2; rw [hw1, vu_s]; rfl
    · rw [hw1, vu_n _ _ (by omega)]; exact F j (by omega)
  have fr : ∀ q, q < n → q ≠ a → w1 q = w q := fun q h1 h2 => by rw [hw1, vu_n _ _ (by omega)]; exact fr q h1 h2
  clear hw1
  obtain ⟨w0, hw0⟩ : ∃ w0, w0 = w1 := ⟨_, rfl⟩
  rw [← hw0] at hP fa F fr
  clear hw0
  refine g_put (pc := 43) cx hnm hP hS fa rfl wf_M ty_M tk_M nm_M 8 (by decide) fl_M_M_tags (fun _ h => h) rfl (ty := .array .int) (by decide +kernel) rfl rfl (Nat.le_of_ble_eq_true rfl) dd_M_init_43 (fun H locs hP hS => ?_)
  obtain ⟨w1, hw1⟩ : ∃ w1, w1 = va_up w0 a (some (.inr (6, [.int 0, .int 0, .int 0, .ref (n + 0), .ref (n + 1), .ref (n + 2), .ref (n + 3), .ref (n + 4), .ref (n + 5), .null, .null, .null, .null, .null, .null, .null, .null, .null, .int 0, .null, .null, .null, .null, .null, .null, .null, .null]))) := ⟨_, rfl⟩
  have hP : gP D b (n + 6) w1 H := by rw [hw1]; exact hP
  have fa : w1 a = some (.inr (6, [.int 0, .int 0, .int 0, .ref (n + 0), .ref (n + 1), .ref (n + 2), .ref (n + 3), .ref (n + 4), .ref (n + 5), .null, .null, .null, .null, .null, .null, .null, .null, .null, .int 0, .null, .null, .null, .null, .null, .null, .null, .null])) := by rw [hw1, vu_s]
  have F : ∀ j, j < 6 → w1 (n + j) = some (cmz g j) := fun j hj => by rw [hw1, vu_n _ _ (by omega)]; exact F j hj
  have fr : ∀ q, q < n → q ≠ a → w1 q = w q := fun q h1 h2 => by rw [hw1, vu_n _ _ h2]; exact fr q h1 h2
  clear hw1
  obtain ⟨w0, hw0⟩ : ∃ w0, w0 = w1 := ⟨_, rfl⟩
  rw [← hw0] at hP fa F fr
  clear hw0
  refine lv_aload_n (pc := 46) hx hb dd_M_init_46 rfl (lv_at hl 0 rfl) ?_
  refine lv_iconst (pc := 47) (v := nI 5) hx hb dd_M_init_47 (by decide) ?_
  refine g_newa (pc := 48) 0 (atype := .int) (ty := .int) (a0 := (5, .inl (fun _ => 0))) cx hP hS ac_int rfl rfl (fun h => h) (fun _ => rfl) rfl (by omega) (by show (5) * 4 ≤ _; omega) (Nat.le_of_ble_eq_true rfl) (Nat.le_of_ble_eq_true rfl) dd_M_init_48 (fun H hP hS => ?_)
  obtain ⟨w1, hw1⟩ : ∃ w1, w1 = va_up w0 (n + 6) (some (.inl (g 0, (5, .inl (fun _ => 0))))) := ⟨_, rfl⟩
  have hP : gP D b (n + 7) w1 H := by rw [hw1]; exact hP
  have fa : w1 a = some (.inr (6, [.int 0, .int 0, .int 0, .ref (n + 0), .ref (n + 1), .ref (n + 2), .ref (n + 3), .ref (n + 4), .ref (n + 5), .null, .null, .null, .null, .null, .null, .null, .null, .null, .int 0, .null, .null, .null, .null, .null, .null, .null, .null])) := by rw [hw1, vu_n _ _ (by omega)]; exact fa
  have F : ∀ j, j < 7 → w1 (n + j) = some (cmz g j) := fun j hj => by
    by_cases hj2 : j = 6
    · subst hj2; rw [hw1, vu_s]; rfl
    · rw [hw1, vu_n _ _ (by omega)]; exact F j (by omega)
  have fr : ∀ q, q < n → q ≠ a → w1 q = w q := fun q h1 h2 => by rw [hw1, vu_n _ _ (by omega)]; exact fr q h1 h2
  clear hw1
  obtain ⟨w0, hw0⟩ : ∃ w0, w0 = w1 := ⟨_, rfl⟩
  rw [← hw0] at hP fa F fr
  clear hw0
  refine g_put (pc := 50) cx hnm hP hS fa rfl wf_M ty_M tk_M nm_M 9 (by decide) fl_M_M_ends (fun _ h => h) rfl (ty := .array .int) (by decide +kernel) rfl rfl (Nat.le_of_ble_eq_true rfl) dd_M_init_50 (fun H locs hP hS => ?_)
  obtain ⟨w1, hw1⟩ : ∃ w1, w1 = va_up w0 a (some (.inr (6, [.int 0, .int 0, .int 0, .ref (n + 0), .ref (n + 1), .ref (n + 2), .ref (n + 3), .ref (n + 4), .ref (n + 5), .ref (n + 6), .null, .null, .null, .null, .null, .null, .null, .null, .int 0, .null, .null, .null, .null, .null, .null, .null, .null]))) := ⟨_, rfl⟩
  have hP : gP D b (n + 7) w1 H := by rw [hw1]; exact hP
  have fa : w1 a = some (.inr (6, [.int 0, .int 0, .int 0, .ref (n + 0), .ref (n + 1), .ref (n + 2), .ref (n + 3), .ref (n + 4), .ref (n + 5), .ref (n + 6), .null, .null, .null, .null, .null, .null, .null, .null, .int 0, .null, .null, .null, .null, .null, .null, .null, .null])) := by rw [hw1, vu_s]
  have F : ∀ j, j < 7 → w1 (n + j) = some (cmz g j) := fun j hj => by rw [hw1, vu_n _ _ (by omega)]; exact F j hj
  have fr : ∀ q, q < n → q ≠ a → w1 q = w q := fun q h1 h2 => by rw [hw1, vu_n _ _ h2]; exact fr q h1 h2
  clear hw1
  obtain ⟨w0, hw0⟩ : ∃ w0, w0 = w1 := ⟨_, rfl⟩
  rw [← hw0] at hP fa F fr
  clear hw0
  refine lv_aload_n (pc := 53) hx hb dd_M_init_53 rfl (lv_at hl 0 rfl) ?_
  refine lv_iconst (pc := 54) (v := nI 5) hx hb dd_M_init_54 (by decide) ?_
  refine g_newa (pc := 55) 1 (atype := .long) (ty := .long) (a0 := (5, ja (fun _ => 0))) cx hP hS ac_long rfl rfl (fun h => h) (fun _ => rfl) rfl (by omega) (by show (5) * 8 ≤ _; omega) (Nat.le_of_ble_eq_true rfl) (Nat.le_of_ble_eq_true rfl) dd_M_init_55 (fun H hP hS => ?_)
  obtain ⟨w1, hw1⟩ : ∃ w1, w1 = va_up w0 (n + 7) (some (.inl (g 1, (5, ja (fun _ => 0))))) := ⟨_, rfl⟩
  have hP : gP D b (n + 8) w1 H := by rw [hw1]; exact hP
  have fa : w1 a = some (.inr (6, [.int 0, .int 0, .int 0, .ref (n + 0), .ref (n + 1), .ref (n + 2), .ref (n + 3), .ref (n + 4), .ref (n + 5), .ref (n + 6), .null, .null, .null, .null, .null, .null, .null, .null, .int 0, .null, .null, .null, .null, .null, .null, .null, .null])) := by rw [hw1, vu_n _ _ (by omega)]; exact fa
  have F : ∀ j, j < 8 → w1 (n + j) = some (cmz g j) := fun j hj => by
    by_cases hj2 : j = 7
    · subst hj2; rw [hw1, vu_s]; rfl
    · rw [hw1, vu_n _ _ (by omega)]; exact F j (by omega)
  have fr : ∀ q, q < n → q ≠ a → w1 q = w q := fun q h1 h2 => by rw [hw1, vu_n _ _ (by omega)]; exact fr q h1 h2
  clear hw1
  obtain ⟨w0, hw0⟩ : ∃ w0, w0 = w1 := ⟨_, rfl⟩
  rw [← hw0] at hP fa F fr
  clear hw0
  refine g_put (pc := 57) cx hnm hP hS fa rfl wf_M ty_M tk_M nm_M 10 (by decide) fl_M_M_block (fun _ h => h) rfl (ty := .array .long) (by decide +kernel) rfl rfl (Nat.le_of_ble_eq_true rfl) dd_M_init_57 (fun H locs hP hS => ?_)
  obtain ⟨w1, hw1⟩ : ∃ w1, w1 = va_up w0 a (some (.inr (6, [.int 0, .int 0, .int 0, .ref (n + 0), .ref (n + 1), .ref (n + 2), .ref (n + 3), .ref (n + 4), .ref (n + 5), .ref (n + 6), .ref (n + 7), .null, .null, .null, .null, .null, .null, .null, .int 0, .null, .null, .null, .null, .null, .null, .null, .null]))) := ⟨_, rfl⟩
  have hP : gP D b (n + 8) w1 H := by rw [hw1]; exact hP
  have fa : w1 a = some (.inr (6, [.int 0, .int 0, .int 0, .ref (n + 0), .ref (n + 1), .ref (n + 2), .ref (n + 3), .ref (n + 4), .ref (n + 5), .ref (n + 6), .ref (n + 7), .null, .null, .null, .null, .null, .null, .null, .int 0, .null, .null, .null, .null, .null, .null, .null, .null])) := by rw [hw1, vu_s]
  have F : ∀ j, j < 8 → w1 (n + j) = some (cmz g j) := fun j hj => by rw [hw1, vu_n _ _ (by omega)]; exact F j hj
  have fr : ∀ q, q < n → q ≠ a → w1 q = w q := fun q h1 h2 => by rw [hw1, vu_n _ _ h2]; exact fr q h1 h2
  clear hw1
  obtain ⟨w0, hw0⟩ : ∃ w0, w0 = w1 := ⟨_, rfl⟩
  rw [← hw0] at hP fa F fr
  clear hw0
  refine lv_aload_n (pc := 60) hx hb dd_M_init_60 rfl (lv_at hl 0 rfl) ?_
  refine lv_iconst (pc := 61) (v := nI 5) hx hb dd_M_init_61 (by decide) ?_
  refine g_newa (pc := 62) 1 (atype := .long) (ty := .long) (a0 := (5, ja (fun _ => 0))) cx hP hS ac_long rfl rfl (fun h => h) (fun _ => rfl) rfl (by omega) (by show (5) * 8 ≤ _; omega) (Nat.le_of_ble_eq_true rfl) (Nat.le_of_ble_eq_true rfl) dd_M_init_62 (fun H hP hS => ?_)
  obtain ⟨w1, hw1⟩ : ∃ w1, w1 = va_up w0 (n + 8) (some (.inl (g 1, (5, ja (fun _ => 0))))) := ⟨_, rfl⟩
  have hP : gP D b (n + 9) w1 H := by rw [hw1]; exact hP
  have fa : w1 a = some (.inr (6, [.int 0, .int 0, .int 0, .ref (n + 0), .ref (n + 1), .ref (n + 2), .ref (n + 3), .ref (n + 4), .ref (n + 5), .ref (n + 6), .ref (n + 7), .null, .null, .null, .null, .null, .null, .null, .int 0, .null, .null, .null, .null, .null, .null, .null, .null])) := by rw [hw1, vu_n _ _ (by omega)]; exact fa
  have F : ∀ j, j < 9 → w1 (n + j) = some (cmz g j) := fun j hj => by
    by_cases hj2 : j = 8
    · subst hj2; rw [hw1, vu_s]; rfl
    · rw [hw1, vu_n _ _ (by omega)]; exact F j (by omega)
  have fr : ∀ q, q < n → q ≠ a → w1 q = w q := fun q h1 h2 => by rw [hw1, vu_n _ _ (by omega)]; exact fr q h1 h2
  clear hw1
  obtain ⟨w0, hw0⟩ : ∃ w0, w0 = w1 := ⟨_, rfl⟩
  rw [← hw0] at hP fa F fr
  clear hw0
  refine g_put (pc := 64) cx hnm hP hS fa rfl wf_M ty_M tk_M nm_M 11 (by decide) fl_M_M_seen (fun _ h => h) rfl (ty := .array .long) (by decide +kernel) rfl rfl (Nat.le_of_ble_eq_true rfl) dd_M_init_64 (fun H locs hP hS => ?_)
  obtain ⟨w1, hw1⟩ : ∃ w1, w1 = va_up w0 a (some (.inr (6, [.int 0, .int 0, .int 0, .ref (n + 0), .ref (n + 1), .ref (n + 2), .ref (n + 3), .ref (n + 4), .ref (n + 5), .ref (n + 6), .ref (n + 7), .ref (n + 8), .null, .null, .null, .null, .null, .null, .int 0, .null, .null, .null, .null, .null, .null, .null, .null]))) := ⟨_, rfl⟩
  have hP : gP D b (n + 9) w1 H := by rw [hw1]; exact hP
  have fa : w1 a = some (.inr (6, [.int 0, .int 0, .int 0, .ref (n + 0), .ref (n + 1), .ref (n + 2), .ref (n + 3), .ref (n + 4), .ref (n + 5), .ref (n + 6), .ref (n + 7), .ref (n + 8), .null, .null, .null, .null, .null, .null, .int 0, .null, .null, .null, .null, .null, .null, .null, .null])) := by rw [hw1, vu_s]
  have F : ∀ j, j < 9 → w1 (n + j) = some (cmz g j) := fun j hj => by rw [hw1, vu_n _ _ (by omega)]; exact F j hj
  have fr : ∀ q, q < n → q ≠ a → w1 q = w q := fun q h1 h2 => by rw [hw1, vu_n _ _ h2]; exact fr q h1 h2
  clear hw1
  obtain ⟨w0, hw0⟩ : ∃ w0, w0 = w1 := ⟨_, rfl⟩
  rw [← hw0] at hP fa F fr
  clear hw0
  refine lv_aload_n (pc := 67) hx hb dd_M_init_67 rfl (lv_at hl 0 rfl) ?_
  refine lv_iconst (pc := 68) (v := nI 5) hx hb dd_M_init_68 (by decide) ?_
  refine g_newa (pc := 69) 1 (atype := .long) (ty := .long) (a0 := (5, ja (fun _ => 0))) cx hP hS ac_long rfl rfl (fun h => h) (fun _ => rfl) rfl (by omega) (by show (5) * 8 ≤ _; omega) (Nat.le_of_ble_eq_true rfl) (Nat.le_of_ble_eq_true rfl) dd_M_init_69 (fun H hP hS => ?_)
  obtain ⟨w1, hw1⟩ : ∃ w1, w1 = va_up w0 (n + 9) (some (.inl (g 1, (5, ja (fun _ => 0))))) := ⟨_, rfl⟩
  have hP : gP D b (n + 10) w1 H := by rw [hw1]; exact hP
  have fa : w1 a = some (.inr (6, [.int 0, .int 0, .int 0, .ref (n + 0), .ref (n + 1), .ref (n + 2), .ref (n + 3), .ref (n + 4), .ref (n + 5), .ref (n + 6), .ref (n + 7), .ref (n + 8), .null, .null, .null, .null, .null, .null, .int 0, .null, .null, .null, .null, .null, .null, .null, .null])) := by rw [hw1, vu_n _ _ (by omega)]; exact fa
  have F : ∀ j, j < 10 → w1 (n + j) = some (cmz g j) := fun j hj => by
    by_cases hj2 : j = 9
    · subst hj2; rw [hw1, vu_s]; rfl
    · rw [hw1, vu_n _ _ (by omega)]; exact F j (by omega)
  have fr : ∀ q, q < n → q ≠ a → w1 q = w q := fun q h1 h2 => by rw [hw1, vu_n _ _ (by omega)]; exact fr q h1 h2
  clear hw1
  obtain ⟨w0, hw0⟩ : ∃ w0, w0 = w1 := ⟨_, rfl⟩
  rw [← hw0] at hP fa F fr
  clear hw0
  refine g_put (pc := 71) cx hnm hP hS fa rfl wf_M ty_M tk_M nm_M 12 (by decide) fl_M_M_results (fun _ h => h) rfl (ty := .array .long) (by decide +kernel) rfl rfl (Nat.le_of_ble_eq_true rfl) dd_M_init_71 (fun H locs hP hS => ?_)
  obtain ⟨w1, hw1⟩ : ∃ w1, w1 = va_up w0 a (some (.inr (6, [.int 0, .int 0, .int 0, .ref (n + 0), .ref (n + 1), .ref (n + 2), .ref (n + 3), .ref (n + 4), .ref (n + 5), .ref (n + 6), .ref (n + 7), .ref (n + 8), .ref (n + 9), .null, .null, .null, .null, .null, .int 0, .null, .null, .null, .null, .null, .null, .null, .null]))) := ⟨_, rfl⟩
  have hP : gP D b (n + 10) w1 H := by rw [hw1]; exact hP
  have fa : w1 a = some (.inr (6, [.int 0, .int 0, .int 0, .ref (n + 0), .ref (n + 1), .ref (n + 2), .ref (n + 3), .ref (n + 4), .ref (n + 5), .ref (n + 6), .ref (n + 7), .ref (n + 8), .ref (n + 9), .null, .null, .null, .null, .null, .int 0, .null, .null, .null, .null, .null, .null, .null, .null])) := by rw [hw1, vu_s]
  have F : ∀ j, j < 10 → w1 (n + j) = some (cmz g j) := fun j hj => by rw [hw1, vu_n _ _ (by omega)]; exact F j hj
  have fr : ∀ q, q < n → q ≠ a → w1 q = w q := fun q h1 h2 => by rw [hw1, vu_n _ _ h2]; exact fr q h1 h2
  clear hw1
  obtain ⟨w0, hw0⟩ : ∃ w0, w0 = w1 := ⟨_, rfl⟩
  rw [← hw0] at hP fa F fr
  clear hw0
  refine lv_aload_n (pc := 74) hx hb dd_M_init_74 rfl (lv_at hl 0 rfl) ?_
  refine lv_bipush (pc := 75) (v := nI 7) hx hb dd_M_init_75 (by decide) ?_
  refine g_newa (pc := 77) 2 (atype := .boolean) (ty := .boolean) (a0 := (7, .inl (fun _ => 0))) cx hP hS ac_boolean rfl rfl (fun h => h) (fun _ => rfl) rfl (by omega) (by show (7) * 1 ≤ _; omega) (Nat.le_of_ble_eq_true rfl) (Nat.le_of_ble_eq_true rfl) dd_M_init_77 (fun H hP hS => ?_)
  obtain ⟨w1, hw1⟩ : ∃ w1, w1 = va_up w0 (n + 10) (some (.inl (g 2, (7, .inl (fun _ => 0))))) := ⟨_, rfl⟩
  have hP : gP D b (n + 11) w1 H := by rw [hw1]; exact hP
  have fa : w1 a = some (.inr (6, [.int 0, .int 0, .int 0, .ref (n + 0), .ref (n + 1), .ref (n + 2), .ref (n + 3), .ref (n + 4), .ref (n + 5), .ref (n + 6), .ref (n + 7), .ref (n + 8), .ref (n + 9), .null, .null, .null, .null, .null, .int 0, .null, .null, .null, .null, .null, .null, .null, .null])) := by rw [hw1, vu_n _ _ (by omega)]; exact fa
  have F : ∀ j, j < 11 → w1 (n + j) = some (cmz g j) := fun j hj => by
    by_cases hj2 : j = 10
    · subst hj2; rw [hw1, vu_s]; rfl
    · rw [hw1, vu_n _ _ (by omega)]; exact F j (by omega)
  have fr : ∀ q, q < n → q ≠ a → w1 q = w q := fun q h1 h2 => by rw [hw1, vu_n _ _ (by omega)]; exact fr q h1 h2
  clear hw1
  obtain ⟨w0, hw0⟩ : ∃ w0, w0 = w1 := ⟨_, rfl⟩
  rw [← hw0] at hP fa F fr
  clear hw0
  refine g_put (pc := 79) cx hnm hP hS fa rfl wf_M ty_M tk_M nm_M 13 (by decide) fl_M_M_down (fun _ h => h) rfl (ty := .array .boolean) (by decide +kernel) rfl rfl (Nat.le_of_ble_eq_true rfl) dd_M_init_79 (fun H locs hP hS => ?_)
  obtain ⟨w1, hw1⟩ : ∃ w1, w1 = va_up w0 a (some (.inr (6, [.int 0, .int 0, .int 0, .ref (n + 0), .ref (n + 1), .ref (n + 2), .ref (n + 3), .ref (n + 4), .ref (n + 5), .ref (n + 6), .ref (n + 7), .ref (n + 8), .ref (n + 9), .ref (n + 10), .null, .null, .null, .null, .int 0, .null, .null, .null, .null, .null, .null, .null, .null]))) := ⟨_, rfl⟩
  have hP : gP D b (n + 11) w1 H := by rw [hw1]; exact hP
  have fa : w1 a = some (.inr (6, [.int 0, .int 0, .int 0, .ref (n + 0), .ref (n + 1), .ref (n + 2), .ref (n + 3), .ref (n + 4), .ref (n + 5), .ref (n + 6), .ref (n + 7), .ref (n + 8), .ref (n + 9), .ref (n + 10), .null, .null, .null, .null, .int 0, .null, .null, .null, .null, .null, .null, .null, .null])) := by rw [hw1, vu_s]
  have F : ∀ j, j < 11 → w1 (n + j) = some (cmz g j) := fun j hj => by rw [hw1, vu_n _ _ (by omega)]; exact F j hj
  have fr : ∀ q, q < n → q ≠ a → w1 q = w q := fun q h1 h2 => by rw [hw1, vu_n _ _ h2]; exact fr q h1 h2
  clear hw1
  obtain ⟨w0, hw0⟩ : ∃ w0, w0 = w1 := ⟨_, rfl⟩
  rw [← hw0] at hP fa F fr
  clear hw0
  refine lv_aload_n (pc := 82) hx hb dd_M_init_82 rfl (lv_at hl 0 rfl) ?_
  refine lv_bipush (pc := 83) (v := nI 7) hx hb dd_M_init_83 (by decide) ?_
  refine g_newa (pc := 85) 0 (atype := .int) (ty := .int) (a0 := (7, .inl (fun _ => 0))) cx hP hS ac_int rfl rfl (fun h => h) (fun _ => rfl) rfl (by omega) (by show (7) * 4 ≤ _; omega) (Nat.le_of_ble_eq_true rfl) (Nat.le_of_ble_eq_true rfl) dd_M_init_85 (fun H hP hS => ?_)
  obtain ⟨w1, hw1⟩ : ∃ w1, w1 = va_up w0 (n + 11) (some (.inl (g 0, (7, .inl (fun _ => 0))))) := ⟨_, rfl⟩
  have hP : gP D b (n + 12) w1 H := by rw [hw1]; exact hP
  have fa : w1 a = some (.inr (6, [.int 0, .int 0, .int 0, .ref (n + 0), .ref (n + 1), .ref (n + 2), .ref (n + 3), .ref (n + 4), .ref (n + 5), .ref (n + 6), .ref (n + 7), .ref (n + 8), .ref (n + 9), .ref (n + 10), .null, .null, .null, .null, .int 0, .null, .null, .null, .null, .null, .null, .null, .null])) := by rw [hw1, vu_n _ _ (by omega)]; exact fa
  have F : ∀ j, j < 12 → w1 (n + j) = some (cmz g j) := fun j hj => by
    by_cases hj2 : j = 11
    · subst hj2; rw [hw1, vu_s]; rfl
    · rw [hw1, vu_n _ _ (by omega)]; exact F j (by omega)
  have fr : ∀ q, q < n → q ≠ a → w1 q = w q := fun q h1 h2 => by rw [hw1, vu_n _ _ (by omega)]; exact fr q h1 h2
  clear hw1
  obtain ⟨w0, hw0⟩ : ∃ w0, w0 = w1 := ⟨_, rfl⟩
  rw [← hw0] at hP fa F fr
  clear hw0
  refine g_put (pc := 87) cx hnm hP hS fa rfl wf_M ty_M tk_M nm_M 14 (by decide) fl_M_M_seals (fun _ h => h) rfl (ty := .array .int) (by decide +kernel) rfl rfl (Nat.le_of_ble_eq_true rfl) dd_M_init_87 (fun H locs hP hS => ?_)
  obtain ⟨w1, hw1⟩ : ∃ w1, w1 = va_up w0 a (some (.inr (6, [.int 0, .int 0, .int 0, .ref (n + 0), .ref (n + 1), .ref (n + 2), .ref (n + 3), .ref (n + 4), .ref (n + 5), .ref (n + 6), .ref (n + 7), .ref (n + 8), .ref (n + 9), .ref (n + 10), .ref (n + 11), .null, .null, .null, .int 0, .null, .null, .null, .null, .null, .null, .null, .null]))) := ⟨_, rfl⟩
  have hP : gP D b (n + 12) w1 H := by rw [hw1]; exact hP
  have fa : w1 a = some (.inr (6, [.int 0, .int 0, .int 0, .ref (n + 0), .ref (n + 1), .ref (n + 2), .ref (n + 3), .ref (n + 4), .ref (n + 5), .ref (n + 6), .ref (n + 7), .ref (n + 8), .ref (n + 9), .ref (n + 10), .ref (n + 11), .null, .null, .null, .int 0, .null, .null, .null, .null, .null, .null, .null, .null])) := by rw [hw1, vu_s]
  have F : ∀ j, j < 12 → w1 (n + j) = some (cmz g j) := fun j hj => by rw [hw1, vu_n _ _ (by omega)]; exact F j hj
  have fr : ∀ q, q < n → q ≠ a → w1 q = w q := fun q h1 h2 => by rw [hw1, vu_n _ _ h2]; exact fr q h1 h2
  clear hw1
  obtain ⟨w0, hw0⟩ : ∃ w0, w0 = w1 := ⟨_, rfl⟩
  rw [← hw0] at hP fa F fr
  clear hw0
  refine lv_aload_n (pc := 90) hx hb dd_M_init_90 rfl (lv_at hl 0 rfl) ?_
  refine lv_bipush (pc := 91) (v := nI 7) hx hb dd_M_init_91 (by decide) ?_
  refine g_newa (pc := 93) 0 (atype := .int) (ty := .int) (a0 := (7, .inl (fun _ => 0))) cx hP hS ac_int rfl rfl (fun h => h) (fun _ => rfl) rfl (by omega) (by show (7) * 4 ≤ _; omega) (Nat.le_of_ble_eq_true rfl) (Nat.le_of_ble_eq_true rfl) dd_M_init_93 (fun H hP hS => ?_)
  obtain ⟨w1, hw1⟩ : ∃ w1, w1 = va_up w0 (n + 12) (some (.inl (g 0, (7, .inl (fun _ => 0))))) := ⟨_, rfl⟩
  have hP : gP D b (n + 13) w1 H := by rw [hw1]; exact hP
  have fa : w1 a = some (.inr (6, [.int 0, .int 0, .int 0, .ref (n + 0), .ref (n + 1), .ref (n + 2), .ref (n + 3), .ref (n + 4), .ref (n + 5), .ref (n + 6), .ref (n + 7), .ref (n + 8), .ref (n + 9), .ref (n + 10), .ref (n + 11), .null, .null, .null, .int 0, .null, .null, .null, .null, .null, .null, .null, .null])) := by rw [hw1, vu_n _ _ (by omega)]; exact fa
  have F : ∀ j, j < 13 → w1 (n + j) = some (cmz g j) := fun j hj => by
    by_cases hj2 : j = 12
    · subst hj2; rw [hw1, vu_s]; rfl
    · rw [hw1, vu_n _ _ (by omega)]; exact F j (by omega)
  have fr : ∀ q, q < n → q ≠ a → w1 q = w q := fun q h1 h2 => by rw [hw1, vu_n _ _ (by omega)]; exact fr q h1 h2
  clear hw1
  obtain ⟨w0, hw0⟩ : ∃ w0, w0 = w1 := ⟨_, rfl⟩
  rw [← hw0] at hP fa F fr
  clear hw0
  refine g_put (pc := 95) cx hnm hP hS fa rfl wf_M ty_M tk_M nm_M 15 (by decide) fl_M_M_many (fun _ h => h) rfl (ty := .array .int) (by decide +kernel) rfl rfl (Nat.le_of_ble_eq_true rfl) dd_M_init_95 (fun H locs hP hS => ?_)
  obtain ⟨w1, hw1⟩ : ∃ w1, w1 = va_up w0 a (some (.inr (6, [.int 0, .int 0, .int 0, .ref (n + 0), .ref (n + 1), .ref (n + 2), .ref (n + 3), .ref (n + 4), .ref (n + 5), .ref (n + 6), .ref (n + 7), .ref (n + 8), .ref (n + 9), .ref (n + 10), .ref (n + 11), .ref (n + 12), .null, .null, .int 0, .null, .null, .null, .null, .null, .null, .null, .null]))) := ⟨_, rfl⟩
  have hP : gP D b (n + 13) w1 H := by rw [hw1]; exact hP
  have fa : w1 a = some (.inr (6, [.int 0, .int 0, .int 0, .ref (n + 0), .ref (n + 1), .ref (n + 2), .ref (n + 3), .ref (n + 4), .ref (n + 5), .ref (n + 6), .ref (n + 7), .ref (n + 8), .ref (n + 9), .ref (n + 10), .ref (n + 11), .ref (n + 12), .null, .null, .int 0, .null, .null, .null, .null, .null, .null, .null, .null])) := by rw [hw1, vu_s]
  have F : ∀ j, j < 13 → w1 (n + j) = some (cmz g j) := fun j hj => by rw [hw1, vu_n _ _ (by omega)]; exact F j hj
  have fr : ∀ q, q < n → q ≠ a → w1 q = w q := fun q h1 h2 => by rw [hw1, vu_n _ _ h2]; exact fr q h1 h2
  clear hw1
  obtain ⟨w0, hw0⟩ : ∃ w0, w0 = w1 := ⟨_, rfl⟩
  rw [← hw0] at hP fa F fr
  clear hw0
  refine lv_aload_n (pc := 98) hx hb dd_M_init_98 rfl (lv_at hl 0 rfl) ?_
  refine lv_bipush (pc := 99) (v := nI 35) hx hb dd_M_init_99 (by decide) ?_
  refine g_newa (pc := 101) 0 (atype := .int) (ty := .int) (a0 := (35, .inl (fun _ => 0))) cx hP hS ac_int rfl rfl (fun h => h) (fun _ => rfl) rfl (by omega) (by show (35) * 4 ≤ _; omega) (Nat.le_of_ble_eq_true rfl) (Nat.le_of_ble_eq_true rfl) dd_M_init_101 (fun H hP hS => ?_)
  obtain ⟨w1, hw1⟩ : ∃ w1, w1 = va_up w0 (n + 13) (some (.inl (g 0, (35, .inl (fun _ => 0))))) := ⟨_, rfl⟩
  have hP : gP D b (n + 14) w1 H := by rw [hw1]; exact hP
  have fa : w1 a = some (.inr (6, [.int 0, .int 0, .int 0, .ref (n + 0), .ref (n + 1), .ref (n + 2), .ref (n + 3), .ref (n + 4), .ref (n + 5), .ref (n + 6), .ref (n + 7), .ref (n + 8), .ref (n + 9), .ref (n + 10), .ref (n + 11), .ref (n + 12), .null, .null, .int 0, .null, .null, .null, .null, .null, .null, .null, .null])) := by rw [hw1, vu_n _ _ (by omega)]; exact fa
  have F : ∀ j, j < 14 → w1 (n + j) = some (cmz g j) := fun j hj => by
    by_cases hj2 : j = 13
    · subst hj2; rw [hw1, vu_s]; rfl
    · rw [hw1, vu_n _ _ (by omega)]; exact F j (by omega)
  have fr : ∀ q, q < n → q ≠ a → w1 q = w q := fun q h1 h2 => by rw [hw1, vu_n _ _ (by omega)]; exact fr q h1 h2
  clear hw1
  obtain ⟨w0, hw0⟩ : ∃ w0, w0 = w1 := ⟨_, rfl⟩
  rw [← hw0] at hP fa F fr
  clear hw0
  refine g_put (pc := 103) cx hnm hP hS fa rfl wf_M ty_M tk_M nm_M 16 (by decide) fl_M_M_hasTag (fun _ h => h) rfl (ty := .array .int) (by decide +kernel) rfl rfl (Nat.le_of_ble_eq_true rfl) dd_M_init_103 (fun H locs hP hS => ?_)
  obtain ⟨w1, hw1⟩ : ∃ w1, w1 = va_up w0 a (some (.inr (6, [.int 0, .int 0, .int 0, .ref (n + 0), .ref (n + 1), .ref (n + 2), .ref (n + 3), .ref (n + 4), .ref (n + 5), .ref (n + 6), .ref (n + 7), .ref (n + 8), .ref (n + 9), .ref (n + 10), .ref (n + 11), .ref (n + 12), .ref (n + 13), .null, .int 0, .null, .null, .null, .null, .null, .null, .null, .null]))) := ⟨_, rfl⟩
  have hP : gP D b (n + 14) w1 H := by rw [hw1]; exact hP
  have fa : w1 a = some (.inr (6, [.int 0, .int 0, .int 0, .ref (n + 0), .ref (n + 1), .ref (n + 2), .ref (n + 3), .ref (n + 4), .ref (n + 5), .ref (n + 6), .ref (n + 7), .ref (n + 8), .ref (n + 9), .ref (n + 10), .ref (n + 11), .ref (n + 12), .ref (n + 13), .null, .int 0, .null, .null, .null, .null, .null, .null, .null, .null])) := by rw [hw1, vu_s]
  have F : ∀ j, j < 14 → w1 (n + j) = some (cmz g j) := fun j hj => by rw [hw1, vu_n _ _ (by omega)]; exact F j hj
  have fr : ∀ q, q < n → q ≠ a → w1 q = w q := fun q h1 h2 => by rw [hw1, vu_n _ _ h2]; exact fr q h1 h2
  clear hw1
  obtain ⟨w0, hw0⟩ : ∃ w0, w0 = w1 := ⟨_, rfl⟩
  rw [← hw0] at hP fa F fr
  clear hw0
  refine lv_aload_n (pc := 106) hx hb dd_M_init_106 rfl (lv_at hl 0 rfl) ?_
  refine lv_bipush (pc := 107) (v := nI 35) hx hb dd_M_init_107 (by decide) ?_
  refine g_newa (pc := 109) 1 (atype := .long) (ty := .long) (a0 := (35, ja (fun _ => 0))) cx hP hS ac_long rfl rfl (fun h => h) (fun _ => rfl) rfl (by omega) (by show (35) * 8 ≤ _; omega) (Nat.le_of_ble_eq_true rfl) (Nat.le_of_ble_eq_true rfl) dd_M_init_109 (fun H hP hS => ?_)
  obtain ⟨w1, hw1⟩ : ∃ w1, w1 = va_up w0 (n + 14) (some (.inl (g 1, (35, ja (fun _ => 0))))) := ⟨_, rfl⟩
  have hP : gP D b (n + 15) w1 H := by rw [hw1]; exact hP
  have fa : w1 a = some (.inr (6, [.int 0, .int 0, .int 0, .ref (n + 0), .ref (n + 1), .ref (n + 2), .ref (n + 3), .ref (n + 4), .ref (n + 5), .ref (n + 6), .ref (n + 7), .ref (n + 8), .ref (n + 9), .ref (n + 10), .ref (n + 11), .ref (n + 12), .ref (n + 13), .null, .int 0, .null, .null, .null, .null, .null, .null, .null, .null])) := by rw [hw1, vu_n _ _ (by omega)]; exact fa
  have F : ∀ j, j < 15 → w1 (n + j) = some (cmz g j) := fun j hj => by
    by_cases hj2 : j = 14
    · subst hj2; rw [hw1, vu_s]; rfl
    · rw [hw1, vu_n _ _ (by omega)]; exact F j (by omega)
  have fr : ∀ q, q < n → q ≠ a → w1 q = w q := fun q h1 h2 => by rw [hw1, vu_n _ _ (by omega)]; exact fr q h1 h2
  clear hw1
  obtain ⟨w0, hw0⟩ : ∃ w0, w0 = w1 := ⟨_, rfl⟩
  rw [← hw0] at hP fa F fr
  clear hw0
  refine g_put (pc := 111) cx hnm hP hS fa rfl wf_M ty_M tk_M nm_M 17 (by decide) fl_M_M_hasBlock (fun _ h => h) rfl (ty := .array .long) (by decide +kernel) rfl rfl (Nat.le_of_ble_eq_true rfl) dd_M_init_111 (fun H locs hP hS => ?_)
  obtain ⟨w1, hw1⟩ : ∃ w1, w1 = va_up w0 a (some (.inr (6, [.int 0, .int 0, .int 0, .ref (n + 0), .ref (n + 1), .ref (n + 2), .ref (n + 3), .ref (n + 4), .ref (n + 5), .ref (n + 6), .ref (n + 7), .ref (n + 8), .ref (n + 9), .ref (n + 10), .ref (n + 11), .ref (n + 12), .ref (n + 13), .ref (n + 14), .int 0, .null, .null, .null, .null, .null, .null, .null, .null]))) := ⟨_, rfl⟩
  have hP : gP D b (n + 15) w1 H := by rw [hw1]; exact hP
  have fa : w1 a = some (.inr (6, [.int 0, .int 0, .int 0, .ref (n + 0), .ref (n + 1), .ref (n + 2), .ref (n + 3), .ref (n + 4), .ref (n + 5), .ref (n + 6), .ref (n + 7), .ref (n + 8), .ref (n + 9), .ref (n + 10), .ref (n + 11), .ref (n + 12), .ref (n + 13), .ref (n + 14), .int 0, .null, .null, .null, .null, .null, .null, .null, .null])) := by rw [hw1, vu_s]
  have F : ∀ j, j < 15 → w1 (n + j) = some (cmz g j) := fun j hj => by rw [hw1, vu_n _ _ (by omega)]; exact F j hj
  have fr : ∀ q, q < n → q ≠ a → w1 q = w q := fun q h1 h2 => by rw [hw1, vu_n _ _ h2]; exact fr q h1 h2
  clear hw1
  obtain ⟨w0, hw0⟩ : ∃ w0, w0 = w1 := ⟨_, rfl⟩
  rw [← hw0] at hP fa F fr
  clear hw0
  refine lv_aload_n (pc := 114) hx hb dd_M_init_114 rfl (lv_at hl 0 rfl) ?_
  refine lv_sipush (pc := 115) (v := nI 256) hx hb dd_M_init_115 (by decide) ?_
  refine g_newa (pc := 118) 2 (atype := .boolean) (ty := .boolean) (a0 := (256, .inl (fun _ => 0))) cx hP hS ac_boolean rfl rfl (fun h => h) (fun _ => rfl) rfl (by omega) (by show (256) * 1 ≤ _; omega) (Nat.le_of_ble_eq_true rfl) (Nat.le_of_ble_eq_true rfl) dd_M_init_118 (fun H hP hS => ?_)
  obtain ⟨w1, hw1⟩ : ∃ w1, w1 = va_up w0 (n + 15) (some (.inl (g 2, (256, .inl (fun _ => 0))))) := ⟨_, rfl⟩
  have hP : gP D b (n + 16) w1 H := by rw [hw1]; exact hP
  have fa : w1 a = some (.inr (6, [.int 0, .int 0, .int 0, .ref (n + 0), .ref (n + 1), .ref (n + 2), .ref (n + 3), .ref (n + 4), .ref (n + 5), .ref (n + 6), .ref (n + 7), .ref (n + 8), .ref (n + 9), .ref (n + 10), .ref (n + 11), .ref (n + 12), .ref (n + 13), .ref (n + 14), .int 0, .null, .null, .null, .null, .null, .null, .null, .null])) := by rw [hw1, vu_n _ _ (by omega)]; exact fa
  have F : ∀ j, j < 16 → w1 (n + j) = some (cmz g j) := fun j hj => by
    by_cases hj2 : j = 15
    · subst hj2; rw [hw1, vu_s]; rfl
    · rw [hw1, vu_n _ _ (by omega)]; exact F j (by omega)
  have fr : ∀ q, q < n → q ≠ a → w1 q = w q := fun q h1 h2 => by rw [hw1, vu_n _ _ (by omega)]; exact fr q h1 h2
  clear hw1
  obtain ⟨w0, hw0⟩ : ∃ w0, w0 = w1 := ⟨_, rfl⟩
  rw [← hw0] at hP fa F fr
  clear hw0
  refine g_put (pc := 120) cx hnm hP hS fa rfl wf_M ty_M tk_M nm_M 19 (by decide) fl_M_M_reply (fun _ h => h) rfl (ty := .array .boolean) (by decide +kernel) rfl rfl (Nat.le_of_ble_eq_true rfl) dd_M_init_120 (fun H locs hP hS => ?_)
  obtain ⟨w1, hw1⟩ : ∃ w1, w1 = va_up w0 a (some (.inr (6, [.int 0, .int 0, .int 0, .ref (n + 0), .ref (n + 1), .ref (n + 2), .ref (n + 3), .ref (n + 4), .ref (n + 5), .ref (n + 6), .ref (n + 7), .ref (n + 8), .ref (n + 9), .ref (n + 10), .ref (n + 11), .ref (n + 12), .ref (n + 13), .ref (n + 14), .int 0, .ref (n + 15), .null, .null, .null, .null, .null, .null, .null]))) := ⟨_, rfl⟩
  have hP : gP D b (n + 16) w1 H := by rw [hw1]; exact hP
  have fa : w1 a = some (.inr (6, [.int 0, .int 0, .int 0, .ref (n + 0), .ref (n + 1), .ref (n + 2), .ref (n + 3), .ref (n + 4), .ref (n + 5), .ref (n + 6), .ref (n + 7), .ref (n + 8), .ref (n + 9), .ref (n + 10), .ref (n + 11), .ref (n + 12), .ref (n + 13), .ref (n + 14), .int 0, .ref (n + 15), .null, .null, .null, .null, .null, .null, .null])) := by rw [hw1, vu_s]
  have F : ∀ j, j < 16 → w1 (n + j) = some (cmz g j) := fun j hj => by rw [hw1, vu_n _ _ (by omega)]; exact F j hj
  have fr : ∀ q, q < n → q ≠ a → w1 q = w q := fun q h1 h2 => by rw [hw1, vu_n _ _ h2]; exact fr q h1 h2
  clear hw1
  obtain ⟨w0, hw0⟩ : ∃ w0, w0 = w1 := ⟨_, rfl⟩
  rw [← hw0] at hP fa F fr
  clear hw0
  refine lv_aload_n (pc := 123) hx hb dd_M_init_123 rfl (lv_at hl 0 rfl) ?_
  refine lv_sipush (pc := 124) (v := nI 256) hx hb dd_M_init_124 (by decide) ?_
  refine g_newa (pc := 127) 2 (atype := .boolean) (ty := .boolean) (a0 := (256, .inl (fun _ => 0))) cx hP hS ac_boolean rfl rfl (fun h => h) (fun _ => rfl) rfl (by omega) (by show (256) * 1 ≤ _; omega) (Nat.le_of_ble_eq_true rfl) (Nat.le_of_ble_eq_true rfl) dd_M_init_127 (fun H hP hS => ?_)
  obtain ⟨w1, hw1⟩ : ∃ w1, w1 = va_up w0 (n + 16) (some (.inl (g 2, (256, .inl (fun _ => 0))))) := ⟨_, rfl⟩
  have hP : gP D b (n + 17) w1 H := by rw [hw1]; exact hP
  have fa : w1 a = some (.inr (6, [.int 0, .int 0, .int 0, .ref (n + 0), .ref (n + 1), .ref (n + 2), .ref (n + 3), .ref (n + 4), .ref (n + 5), .ref (n + 6), .ref (n + 7), .ref (n + 8), .ref (n + 9), .ref (n + 10), .ref (n + 11), .ref (n + 12), .ref (n + 13), .ref (n + 14), .int 0, .ref (n + 15), .null, .null, .null, .null, .null, .null, .null])) := by rw [hw1, vu_n _ _ (by omega)]; exact fa
  have F : ∀ j, j < 17 → w1 (n + j) = some (cmz g j) := fun j hj => by
    by_cases hj2 : j = 16
    · subst hj2; rw [hw1, vu_s]; rfl
    · rw [hw1, vu_n _ _ (by omega)]; exact F j (by omega)
  have fr : ∀ q, q < n → q ≠ a → w1 q = w q := fun q h1 h2 => by rw [hw1, vu_n _ _ (by omega)]; exact fr q h1 h2
  clear hw1
  obtain ⟨w0, hw0⟩ : ∃ w0, w0 = w1 := ⟨_, rfl⟩
  rw [← hw0] at hP fa F fr
  clear hw0
  refine g_put (pc := 129) cx hnm hP hS fa rfl wf_M ty_M tk_M nm_M 20 (by decide) fl_M_M_full (fun _ h => h) rfl (ty := .array .boolean) (by decide +kernel) rfl rfl (Nat.le_of_ble_eq_true rfl) dd_M_init_129 (fun H locs hP hS => ?_)
  obtain ⟨w1, hw1⟩ : ∃ w1, w1 = va_up w0 a (some (.inr (6, [.int 0, .int 0, .int 0, .ref (n + 0), .ref (n + 1), .ref (n + 2), .ref (n + 3), .ref (n + 4), .ref (n + 5), .ref (n + 6), .ref (n + 7), .ref (n + 8), .ref (n + 9), .ref (n + 10), .ref (n + 11), .ref (n + 12), .ref (n + 13), .ref (n + 14), .int 0, .ref (n + 15), .ref (n + 16), .null, .null, .null, .null, .null, .null]))) := ⟨_, rfl⟩
  have hP : gP D b (n + 17) w1 H := by rw [hw1]; exact hP
  have fa : w1 a = some (.inr (6, [.int 0, .int 0, .int 0, .ref (n + 0), .ref (n + 1), .ref (n + 2), .ref (n + 3), .ref (n + 4), .ref (n + 5), .ref (n + 6), .ref (n + 7), .ref (n + 8), .ref (n + 9), .ref (n + 10), .ref (n + 11), .ref (n + 12), .ref (n + 13), .ref (n + 14), .int 0, .ref (n + 15), .ref (n + 16), .null, .null, .null, .null, .null, .null])) := by rw [hw1, vu_s]
  have F : ∀ j, j < 17 → w1 (n + j) = some (cmz g j) := fun j hj => by rw [hw1, vu_n _ _ (by omega)]; exact F j hj
  have fr : ∀ q, q < n → q ≠ a → w1 q = w q := fun q h1 h2 => by rw [hw1, vu_n _ _ h2]; exact fr q h1 h2
  clear hw1
  obtain ⟨w0, hw0⟩ : ∃ w0, w0 = w1 := ⟨_, rfl⟩
  rw [← hw0] at hP fa F fr
  clear hw0
  refine lv_aload_n (pc := 132) hx hb dd_M_init_132 rfl (lv_at hl 0 rfl) ?_
  refine lv_sipush (pc := 133) (v := nI 256) hx hb dd_M_init_133 (by decide) ?_
  refine g_newa (pc := 136) 0 (atype := .int) (ty := .int) (a0 := (256, .inl (fun _ => 0))) cx hP hS ac_int rfl rfl (fun h => h) (fun _ => rfl) rfl (by omega) (by show (256) * 4 ≤ _; omega) (Nat.le_of_ble_eq_true rfl) (Nat.le_of_ble_eq_true rfl) dd_M_init_136 (fun H hP hS => ?_)
  obtain ⟨w1, hw1⟩ : ∃ w1, w1 = va_up w0 (n + 17) (some (.inl (g 0, (256, .inl (fun _ => 0))))) := ⟨_, rfl⟩
  have hP : gP D b (n + 18) w1 H := by rw [hw1]; exact hP
  have fa : w1 a = some (.inr (6, [.int 0, .int 0, .int 0, .ref (n + 0), .ref (n + 1), .ref (n + 2), .ref (n + 3), .ref (n + 4), .ref (n + 5), .ref (n + 6), .ref (n + 7), .ref (n + 8), .ref (n + 9), .ref (n + 10), .ref (n + 11), .ref (n + 12), .ref (n + 13), .ref (n + 14), .int 0, .ref (n + 15), .ref (n + 16), .null, .null, .null, .null, .null, .null])) := by rw [hw1, vu_n _ _ (by omega)]; exact fa
  have F : ∀ j, j < 18 → w1 (n + j) = some (cmz g j) := fun j hj => by
    by_cases hj2 : j = 17
    · subst hj2; rw [hw1, vu_s]; rfl
    · rw [hw1, vu_n _ _ (by omega)]; exact F j (by omega)
  have fr : ∀ q, q < n → q ≠ a → w1 q = w q := fun q h1 h2 => by rw [hw1, vu_n _ _ (by omega)]; exact fr q h1 h2
  clear hw1
  obtain ⟨w0, hw0⟩ : ∃ w0, w0 = w1 := ⟨_, rfl⟩
  rw [← hw0] at hP fa F fr
  clear hw0
  refine g_put (pc := 138) cx hnm hP hS fa rfl wf_M ty_M tk_M nm_M 21 (by decide) fl_M_M_client (fun _ h => h) rfl (ty := .array .int) (by decide +kernel) rfl rfl (Nat.le_of_ble_eq_true rfl) dd_M_init_138 (fun H locs hP hS => ?_)
  obtain ⟨w1, hw1⟩ : ∃ w1, w1 = va_up w0 a (some (.inr (6, [.int 0, .int 0, .int 0, .ref (n + 0), .ref (n + 1), .ref (n + 2), .ref (n + 3), .ref (n + 4), .ref (n + 5), .ref (n + 6), .ref (n + 7), .ref (n + 8), .ref (n + 9), .ref (n + 10), .ref (n + 11), .ref (n + 12), .ref (n + 13), .ref (n + 14), .int 0, .ref (n + 15), .ref (n + 16), .ref (n + 17), .null, .null, .null, .null, .null]))) := ⟨_, rfl⟩
  have hP : gP D b (n + 18) w1 H := by rw [hw1]; exact hP
  have fa : w1 a = some (.inr (6, [.int 0, .int 0, .int 0, .ref (n + 0), .ref (n + 1), .ref (n + 2), .ref (n + 3), .ref (n + 4), .ref (n + 5), .ref (n + 6), .ref (n + 7), .ref (n + 8), .ref (n + 9), .ref (n + 10), .ref (n + 11), .ref (n + 12), .ref (n + 13), .ref (n + 14), .int 0, .ref (n + 15), .ref (n + 16), .ref (n + 17), .null, .null, .null, .null, .null])) := by rw [hw1, vu_s]
  have F : ∀ j, j < 18 → w1 (n + j) = some (cmz g j) := fun j hj => by rw [hw1, vu_n _ _ (by omega)]; exact F j hj
  have fr : ∀ q, q < n → q ≠ a → w1 q = w q := fun q h1 h2 => by rw [hw1, vu_n _ _ h2]; exact fr q h1 h2
  clear hw1
  obtain ⟨w0, hw0⟩ : ∃ w0, w0 = w1 := ⟨_, rfl⟩
  rw [← hw0] at hP fa F fr
  clear hw0
  refine lv_aload_n (pc := 141) hx hb dd_M_init_141 rfl (lv_at hl 0 rfl) ?_
  refine lv_sipush (pc := 142) (v := nI 256) hx hb dd_M_init_142 (by decide) ?_
  refine g_newa (pc := 145) 0 (atype := .int) (ty := .int) (a0 := (256, .inl (fun _ => 0))) cx hP hS ac_int rfl rfl (fun h => h) (fun _ => rfl) rfl (by omega) (by show (256) * 4 ≤ _; omega) (Nat.le_of_ble_eq_true rfl) (Nat.le_of_ble_eq_true rfl) dd_M_init_145 (fun H hP hS => ?_)
  obtain ⟨w1, hw1⟩ : ∃ w1, w1 = va_up w0 (n + 18) (some (.inl (g 0, (256, .inl (fun _ => 0))))) := ⟨_, rfl⟩
  have hP : gP D b (n + 19) w1 H := by rw [hw1]; exact hP
  have fa : w1 a = some (.inr (6, [.int 0, .int 0, .int 0, .ref (n + 0), .ref (n + 1), .ref (n + 2), .ref (n + 3), .ref (n + 4), .ref (n + 5), .ref (n + 6), .ref (n + 7), .ref (n + 8), .ref (n + 9), .ref (n + 10), .ref (n + 11), .ref (n + 12), .ref (n + 13), .ref (n + 14), .int 0, .ref (n + 15), .ref (n + 16), .ref (n + 17), .null, .null, .null, .null, .null])) := by rw [hw1, vu_n _ _ (by omega)]; exact fa
  have F : ∀ j, j < 19 → w1 (n + j) = some (cmz g j) := fun j hj => by
    by_cases hj2 : j = 18
    · subst hj2; rw [hw1, vu_s]; rfl
    · rw [hw1, vu_n _ _ (by omega)]; exact F j (by omega)
  have fr : ∀ q, q < n → q ≠ a → w1 q = w q := fun q h1 h2 => by rw [hw1, vu_n _ _ (by omega)]; exact fr q h1 h2
  clear hw1
  obtain ⟨w0, hw0⟩ : ∃ w0, w0 = w1 := ⟨_, rfl⟩
  rw [← hw0] at hP fa F fr
  clear hw0
  refine g_put (pc := 147) cx hnm hP hS fa rfl wf_M ty_M tk_M nm_M 22 (by decide) fl_M_M_server (fun _ h => h) rfl (ty := .array .int) (by decide +kernel) rfl rfl (Nat.le_of_ble_eq_true rfl) dd_M_init_147 (fun H locs hP hS => ?_)
  obtain ⟨w1, hw1⟩ : ∃ w1, w1 = va_up w0 a (some (.inr (6, [.int 0, .int 0, .int 0, .ref (n + 0), .ref (n + 1), .ref (n + 2), .ref (n + 3), .ref (n + 4), .ref (n + 5), .ref (n + 6), .ref (n + 7), .ref (n + 8), .ref (n + 9), .ref (n + 10), .ref (n + 11), .ref (n + 12), .ref (n + 13), .ref (n + 14), .int 0, .ref (n + 15), .ref (n + 16), .ref (n + 17), .ref (n + 18), .null, .null, .null, .null]))) := ⟨_, rfl⟩
  have hP : gP D b (n + 19) w1 H := by rw [hw1]; exact hP
  have fa : w1 a = some (.inr (6, [.int 0, .int 0, .int 0, .ref (n + 0), .ref (n + 1), .ref (n + 2), .ref (n + 3), .ref (n + 4), .ref (n + 5), .ref (n + 6), .ref (n + 7), .ref (n + 8), .ref (n + 9), .ref (n + 10), .ref (n + 11), .ref (n + 12), .ref (n + 13), .ref (n + 14), .int 0, .ref (n + 15), .ref (n + 16), .ref (n + 17), .ref (n + 18), .null, .null, .null, .null])) := by rw [hw1, vu_s]
  have F : ∀ j, j < 19 → w1 (n + j) = some (cmz g j) := fun j hj => by rw [hw1, vu_n _ _ (by omega)]; exact F j hj
  have fr : ∀ q, q < n → q ≠ a → w1 q = w q := fun q h1 h2 => by rw [hw1, vu_n _ _ h2]; exact fr q h1 h2
  clear hw1
  obtain ⟨w0, hw0⟩ : ∃ w0, w0 = w1 := ⟨_, rfl⟩
  rw [← hw0] at hP fa F fr
  clear hw0
  refine lv_aload_n (pc := 150) hx hb dd_M_init_150 rfl (lv_at hl 0 rfl) ?_
  refine lv_sipush (pc := 151) (v := nI 256) hx hb dd_M_init_151 (by decide) ?_
  refine g_newa (pc := 154) 0 (atype := .int) (ty := .int) (a0 := (256, .inl (fun _ => 0))) cx hP hS ac_int rfl rfl (fun h => h) (fun _ => rfl) rfl (by omega) (by show (256) * 4 ≤ _; omega) (Nat.le_of_ble_eq_true rfl) (Nat.le_of_ble_eq_true rfl) dd_M_init_154 (fun H hP hS => ?_)
  obtain ⟨w1, hw1⟩ : ∃ w1, w1 = va_up w0 (n + 19) (some (.inl (g 0, (256, .inl (fun _ => 0))))) := ⟨_, rfl⟩
  have hP : gP D b (n + 20) w1 H := by rw [hw1]; exact hP
  have fa : w1 a = some (.inr (6, [.int 0, .int 0, .int 0, .ref (n + 0), .ref (n + 1), .ref (n + 2), .ref (n + 3), .ref (n + 4), .ref (n + 5), .ref (n + 6), .ref (n + 7), .ref (n + 8), .ref (n + 9), .ref (n + 10), .ref (n + 11), .ref (n + 12), .ref (n + 13), .ref (n + 14), .int 0, .ref (n + 15), .ref (n + 16), .ref (n + 17), .ref (n + 18), .null, .null, .null, .null])) := by rw [hw1, vu_n _ _ (by omega)]; exact fa
  have F : ∀ j, j < 20 → w1 (n + j) = some (cmz g j) := fun j hj => by
    by_cases hj2 : j = 19
    · subst hj2; rw [hw1, vu_s]; rfl
    · rw [hw1, vu_n _ _ (by omega)]; exact F j (by omega)
  have fr : ∀ q, q < n → q ≠ a → w1 q = w q := fun q h1 h2 => by rw [hw1, vu_n _ _ (by omega)]; exact fr q h1 h2
  clear hw1
  obtain ⟨w0, hw0⟩ : ∃ w0, w0 = w1 := ⟨_, rfl⟩
  rw [← hw0] at hP fa F fr
  clear hw0
  refine g_put (pc := 156) cx hnm hP hS fa rfl wf_M ty_M tk_M nm_M 23 (by decide) fl_M_M_sent (fun _ h => h) rfl (ty := .array .int) (by decide +kernel) rfl rfl (Nat.le_of_ble_eq_true rfl) dd_M_init_156 (fun H locs hP hS => ?_)
  obtain ⟨w1, hw1⟩ : ∃ w1, w1 = va_up w0 a (some (.inr (6, [.int 0, .int 0, .int 0, .ref (n + 0), .ref (n + 1), .ref (n + 2), .ref (n + 3), .ref (n + 4), .ref (n + 5), .ref (n + 6), .ref (n + 7), .ref (n + 8), .ref (n + 9), .ref (n + 10), .ref (n + 11), .ref (n + 12), .ref (n + 13), .ref (n + 14), .int 0, .ref (n + 15), .ref (n + 16), .ref (n + 17), .ref (n + 18), .ref (n + 19), .null, .null, .null]))) := ⟨_, rfl⟩
  have hP : gP D b (n + 20) w1 H := by rw [hw1]; exact hP
  have fa : w1 a = some (.inr (6, [.int 0, .int 0, .int 0, .ref (n + 0), .ref (n + 1), .ref (n + 2), .ref (n + 3), .ref (n + 4), .ref (n + 5), .ref (n + 6), .ref (n + 7), .ref (n + 8), .ref (n + 9), .ref (n + 10), .ref (n + 11), .ref (n + 12), .ref (n + 13), .ref (n + 14), .int 0, .ref (n + 15), .ref (n + 16), .ref (n + 17), .ref (n + 18), .ref (n + 19), .null, .null, .null])) := by rw [hw1, vu_s]
  have F : ∀ j, j < 20 → w1 (n + j) = some (cmz g j) := fun j hj => by rw [hw1, vu_n _ _ (by omega)]; exact F j hj
  have fr : ∀ q, q < n → q ≠ a → w1 q = w q := fun q h1 h2 => by rw [hw1, vu_n _ _ h2]; exact fr q h1 h2
  clear hw1
  obtain ⟨w0, hw0⟩ : ∃ w0, w0 = w1 := ⟨_, rfl⟩
  rw [← hw0] at hP fa F fr
  clear hw0
  refine lv_aload_n (pc := 159) hx hb dd_M_init_159 rfl (lv_at hl 0 rfl) ?_
  refine lv_sipush (pc := 160) (v := nI 256) hx hb dd_M_init_160 (by decide) ?_
  refine g_newa (pc := 163) 0 (atype := .int) (ty := .int) (a0 := (256, .inl (fun _ => 0))) cx hP hS ac_int rfl rfl (fun h => h) (fun _ => rfl) rfl (by omega) (by show (256) * 4 ≤ _; omega) (Nat.le_of_ble_eq_true rfl) (Nat.le_of_ble_eq_true rfl) dd_M_init_163 (fun H hP hS => ?_)
  obtain ⟨w1, hw1⟩ : ∃ w1, w1 = va_up w0 (n + 20) (some (.inl (g 0, (256, .inl (fun _ => 0))))) := ⟨_, rfl⟩
  have hP : gP D b (n + 21) w1 H := by rw [hw1]; exact hP
  have fa : w1 a = some (.inr (6, [.int 0, .int 0, .int 0, .ref (n + 0), .ref (n + 1), .ref (n + 2), .ref (n + 3), .ref (n + 4), .ref (n + 5), .ref (n + 6), .ref (n + 7), .ref (n + 8), .ref (n + 9), .ref (n + 10), .ref (n + 11), .ref (n + 12), .ref (n + 13), .ref (n + 14), .int 0, .ref (n + 15), .ref (n + 16), .ref (n + 17), .ref (n + 18), .ref (n + 19), .null, .null, .null])) := by rw [hw1, vu_n _ _ (by omega)]; exact fa
  have F : ∀ j, j < 21 → w1 (n + j) = some (cmz g j) := fun j hj => by
    by_cases hj2 : j = 20
    · subst hj2; rw [hw1, vu_s]; rfl
    · rw [hw1, vu_n _ _ (by omega)]; exact F j (by omega)
  have fr : ∀ q, q < n → q ≠ a → w1 q = w q := fun q h1 h2 => by rw [hw1, vu_n _ _ (by omega)]; exact fr q h1 h2
  clear hw1
  obtain ⟨w0, hw0⟩ : ∃ w0, w0 = w1 := ⟨_, rfl⟩
  rw [← hw0] at hP fa F fr
  clear hw0
  refine g_put (pc := 165) cx hnm hP hS fa rfl wf_M ty_M tk_M nm_M 24 (by decide) fl_M_M_kind (fun _ h => h) rfl (ty := .array .int) (by decide +kernel) rfl rfl (Nat.le_of_ble_eq_true rfl) dd_M_init_165 (fun H locs hP hS => ?_)
  obtain ⟨w1, hw1⟩ : ∃ w1, w1 = va_up w0 a (some (.inr (6, [.int 0, .int 0, .int 0, .ref (n + 0), .ref (n + 1), .ref (n + 2), .ref (n + 3), .ref (n + 4), .ref (n + 5), .ref (n + 6), .ref (n + 7), .ref (n + 8), .ref (n + 9), .ref (n + 10), .ref (n + 11), .ref (n + 12), .ref (n + 13), .ref (n + 14), .int 0, .ref (n + 15), .ref (n + 16), .ref (n + 17), .ref (n + 18), .ref (n + 19), .ref (n + 20), .null, .null]))) := ⟨_, rfl⟩
  have hP : gP D b (n + 21) w1 H := by rw [hw1]; exact hP
  have fa : w1 a = some (.inr (6, [.int 0, .int 0, .int 0, .ref (n + 0), .ref (n + 1), .ref (n + 2), .ref (n + 3), .ref (n + 4), .ref (n + 5), .ref (n + 6), .ref (n + 7), .ref (n + 8), .ref (n + 9), .ref (n + 10), .ref (n + 11), .ref (n + 12), .ref (n + 13), .ref (n + 14), .int 0, .ref (n + 15), .ref (n + 16), .ref (n + 17), .ref (n + 18), .ref (n + 19), .ref (n + 20), .null, .null])) := by rw [hw1, vu_s]
  have F : ∀ j, j < 21 → w1 (n + j) = some (cmz g j) := fun j hj => by rw [hw1, vu_n _ _ (by omega)]; exact F j hj
  have fr : ∀ q, q < n → q ≠ a → w1 q = w q := fun q h1 h2 => by rw [hw1, vu_n _ _ h2]; exact fr q h1 h2
  clear hw1
  obtain ⟨w0, hw0⟩ : ∃ w0, w0 = w1 := ⟨_, rfl⟩
  rw [← hw0] at hP fa F fr
  clear hw0
  refine lv_aload_n (pc := 168) hx hb dd_M_init_168 rfl (lv_at hl 0 rfl) ?_
  refine lv_sipush (pc := 169) (v := nI 256) hx hb dd_M_init_169 (by decide) ?_
  refine g_newa (pc := 172) 0 (atype := .int) (ty := .int) (a0 := (256, .inl (fun _ => 0))) cx hP hS ac_int rfl rfl (fun h => h) (fun _ => rfl) rfl (by omega) (by show (256) * 4 ≤ _; omega) (Nat.le_of_ble_eq_true rfl) (Nat.le_of_ble_eq_true rfl) dd_M_init_172 (fun H hP hS => ?_)
  obtain ⟨w1, hw1⟩ : ∃ w1, w1 = va_up w0 (n + 21) (some (.inl (g 0, (256, .inl (fun _ => 0))))) := ⟨_, rfl⟩
  have hP : gP D b (n + 22) w1 H := by rw [hw1]; exact hP
  have fa : w1 a = some (.inr (6, [.int 0, .int 0, .int 0, .ref (n + 0), .ref (n + 1), .ref (n + 2), .ref (n + 3), .ref (n + 4), .ref (n + 5), .ref (n + 6), .ref (n + 7), .ref (n + 8), .ref (n + 9), .ref (n + 10), .ref (n + 11), .ref (n + 12), .ref (n + 13), .ref (n + 14), .int 0, .ref (n + 15), .ref (n + 16), .ref (n + 17), .ref (n + 18), .ref (n + 19), .ref (n + 20), .null, .null])) := by rw [hw1, vu_n _ _ (by omega)]; exact fa
  have F : ∀ j, j < 22 → w1 (n + j) = some (cmz g j) := fun j hj => by
    by_cases hj2 : j = 21
    · subst hj2; rw [hw1, vu_s]; rfl
    · rw [hw1, vu_n _ _ (by omega)]; exact F j (by omega)
  have fr : ∀ q, q < n → q ≠ a → w1 q = w q := fun q h1 h2 => by rw [hw1, vu_n _ _ (by omega)]; exact fr q h1 h2
  clear hw1
  obtain ⟨w0, hw0⟩ : ∃ w0, w0 = w1 := ⟨_, rfl⟩
  rw [← hw0] at hP fa F fr
  clear hw0
  refine g_put (pc := 174) cx hnm hP hS fa rfl wf_M ty_M tk_M nm_M 25 (by decide) fl_M_M_what (fun _ h => h) rfl (ty := .array .int) (by decide +kernel) rfl rfl (Nat.le_of_ble_eq_true rfl) dd_M_init_174 (fun H locs hP hS => ?_)
  obtain ⟨w1, hw1⟩ : ∃ w1, w1 = va_up w0 a (some (.inr (6, [.int 0, .int 0, .int 0, .ref (n + 0), .ref (n + 1), .ref (n + 2), .ref (n + 3), .ref (n + 4), .ref (n + 5), .ref (n + 6), .ref (n + 7), .ref (n + 8), .ref (n + 9), .ref (n + 10), .ref (n + 11), .ref (n + 12), .ref (n + 13), .ref (n + 14), .int 0, .ref (n + 15), .ref (n + 16), .ref (n + 17), .ref (n + 18), .ref (n + 19), .ref (n + 20), .ref (n + 21), .null]))) := ⟨_, rfl⟩
  have hP : gP D b (n + 22) w1 H := by rw [hw1]; exact hP
  have fa : w1 a = some (.inr (6, [.int 0, .int 0, .int 0, .ref (n + 0), .ref (n + 1), .ref (n + 2), .ref (n + 3), .ref (n + 4), .ref (n + 5), .ref (n + 6), .ref (n + 7), .ref (n + 8), .ref (n + 9), .ref (n + 10), .ref (n + 11), .ref (n + 12), .ref (n + 13), .ref (n + 14), .int 0, .ref (n + 15), .ref (n + 16), .ref (n + 17), .ref (n + 18), .ref (n + 19), .ref (n + 20), .ref (n + 21), .null])) := by rw [hw1, vu_s]
  have F : ∀ j, j < 22 → w1 (n + j) = some (cmz g j) := fun j hj => by rw [hw1, vu_n _ _ (by omega)]; exact F j hj
  have fr : ∀ q, q < n → q ≠ a → w1 q = w q := fun q h1 h2 => by rw [hw1, vu_n _ _ h2]; exact fr q h1 h2
  clear hw1
  obtain ⟨w0, hw0⟩ : ∃ w0, w0 = w1 := ⟨_, rfl⟩
  rw [← hw0] at hP fa F fr
  clear hw0
  refine lv_aload_n (pc := 177) hx hb dd_M_init_177 rfl (lv_at hl 0 rfl) ?_
  refine lv_sipush (pc := 178) (v := nI 256) hx hb dd_M_init_178 (by decide) ?_
  refine g_newa (pc := 181) 1 (atype := .long) (ty := .long) (a0 := (256, ja (fun _ => 0))) cx hP hS ac_long rfl rfl (fun h => h) (fun _ => rfl) rfl (by omega) (by show (256) * 8 ≤ _; omega) (Nat.le_of_ble_eq_true rfl) (Nat.le_of_ble_eq_true rfl) dd_M_init_181 (fun H hP hS => ?_)
  obtain ⟨w1, hw1⟩ : ∃ w1, w1 = va_up w0 (n + 22) (some (.inl (g 1, (256, ja (fun _ => 0))))) := ⟨_, rfl⟩
  have hP : gP D b (n + 23) w1 H := by rw [hw1]; exact hP
  have fa : w1 a = some (.inr (6, [.int 0, .int 0, .int 0, .ref (n + 0), .ref (n + 1), .ref (n + 2), .ref (n + 3), .ref (n + 4), .ref (n + 5), .ref (n + 6), .ref (n + 7), .ref (n + 8), .ref (n + 9), .ref (n + 10), .ref (n + 11), .ref (n + 12), .ref (n + 13), .ref (n + 14), .int 0, .ref (n + 15), .ref (n + 16), .ref (n + 17), .ref (n + 18), .ref (n + 19), .ref (n + 20), .ref (n + 21), .null])) := by rw [hw1, vu_n _ _ (by omega)]; exact fa
  have F : ∀ j, j < 23 → w1 (n + j) = some (cmz g j) := fun j hj => by
    by_cases hj2 : j = 22
    · subst hj2; rw [hw1, vu_s]; rfl
    · rw [hw1, vu_n _ _ (by omega)]; exact F j (by omega)
  have fr : ∀ q, q < n → q ≠ a → w1 q = w q := fun q h1 h2 => by rw [hw1, vu_n _ _ (by omega)]; exact fr q h1 h2
  clear hw1
  obtain ⟨w0, hw0⟩ : ∃ w0, w0 = w1 := ⟨_, rfl⟩
  rw [← hw0] at hP fa F fr
  clear hw0
  refine g_put (pc := 183) cx hnm hP hS fa rfl wf_M ty_M tk_M nm_M 26 (by decide) fl_M_M_load (fun _ h => h) rfl (ty := .array .long) (by decide +kernel) rfl rfl (Nat.le_of_ble_eq_true rfl) dd_M_init_183 (fun H locs hP hS => ?_)
  obtain ⟨w1, hw1⟩ : ∃ w1, w1 = va_up w0 a (some (.inr (6, [.int 0, .int 0, .int 0, .ref (n + 0), .ref (n + 1), .ref (n + 2), .ref (n + 3), .ref (n + 4), .ref (n + 5), .ref (n + 6), .ref (n + 7), .ref (n + 8), .ref (n + 9), .ref (n + 10), .ref (n + 11), .ref (n + 12), .ref (n + 13), .ref (n + 14), .int 0, .ref (n + 15), .ref (n + 16), .ref (n + 17), .ref (n + 18), .ref (n + 19), .ref (n + 20), .ref (n + 21), .ref (n + 22)]))) := ⟨_, rfl⟩
  have hP : gP D b (n + 23) w1 H := by rw [hw1]; exact hP
  have fa : w1 a = some (.inr (6, [.int 0, .int 0, .int 0, .ref (n + 0), .ref (n + 1), .ref (n + 2), .ref (n + 3), .ref (n + 4), .ref (n + 5), .ref (n + 6), .ref (n + 7), .ref (n + 8), .ref (n + 9), .ref (n + 10), .ref (n + 11), .ref (n + 12), .ref (n + 13), .ref (n + 14), .int 0, .ref (n + 15), .ref (n + 16), .ref (n + 17), .ref (n + 18), .ref (n + 19), .ref (n + 20), .ref (n + 21), .ref (n + 22)])) := by rw [hw1, vu_s]
  have F : ∀ j, j < 23 → w1 (n + j) = some (cmz g j) := fun j hj => by rw [hw1, vu_n _ _ (by omega)]; exact F j hj
  have fr : ∀ q, q < n → q ≠ a → w1 q = w q := fun q h1 h2 => by rw [hw1, vu_n _ _ h2]; exact fr q h1 h2
  clear hw1
  obtain ⟨w0, hw0⟩ : ∃ w0, w0 = w1 := ⟨_, rfl⟩
  rw [← hw0] at hP fa F fr
  clear hw0
  have hN3 := (clN_b (show 3 ≤ 7 by omega) z1).1
  have hN7 := (clN_b (show 3 ≤ 7 by omega) z1).2
  refine W.widen (k := 23) (n := 2189) (Nat.le_of_ble_eq_true rfl) (Nat.le_of_ble_eq_true rfl) ?_
  have k208 : ∀ ls : Array Slot, lv_has ls 5 [(0, .ref a), (1, .int z1), (2, .int z2), (3, .int z3)] → W p l e ({ frames := 1, cells := 23, slots := 2189, locals := 21 } : Room) s m [.ref a, .int z1, .int z2, .int z3].toArray below meth c0 H locs 23 2189 (MQ below (gQv D b (n + 23) (fun w1 => w1 a = some (.inr (6, [.int (nI (clN 3 7 z1)), .int (nI (clN 1 (clN 3 7 z1) z2)), .int (nI (clN 0 3 z3)), .ref (n + 0), .ref (n + 1), .ref (n + 2), .ref (n + 3), .ref (n + 4), .ref (n + 5), .ref (n + 6), .ref (n + 7), .ref (n + 8), .ref (n + 9), .ref (n + 10), .ref (n + 11), .ref (n + 12), .ref (n + 13), .ref (n + 14), .int 0, .ref (n + 15), .ref (n + 16), .ref (n + 17), .ref (n + 18), .ref (n + 19), .ref (n + 20), .ref (n + 21), .ref (n + 22)])) ∧ w1 (n + 12) = some (.inl (g 0, 7, .inl (fun j => if j < (clN 3 7 z1) then 1 else 0))) ∧ (∀ j, j < 23 → j ≠ 12 → w1 (n + j) = some (cmz g j)) ∧ ∀ q, q < n → q ≠ a → w1 q = w q)) [.ref a, .int z1, .int z2, .int z3].toArray s 23 2189 (fun q => b ≤ q)) (F0 m 208 ls [.int (nI (clN 3 7 z1)), .ref a]) := by
    intro ls hl
    refine g_put (pc := 208) cx hnm hP hS fa rfl wf_M ty_M tk_M nm_M 0 (by decide) fl_M_M_n (fun _ h => h) rfl (ty := .int) (by decide +kernel) rfl rfl (Nat.le_of_ble_eq_true rfl) dd_M_init_208 (fun H locs hP hS => ?_)
    obtain ⟨w1, hw1⟩ : ∃ w1, w1 = va_up w0 a (some (.inr (6, [.int (nI (clN 3 7 z1)), .int 0, .int 0, .ref (n + 0), .ref (n + 1), .ref (n + 2), .ref (n + 3), .ref (n + 4), .ref (n + 5), .ref (n + 6), .ref (n + 7), .ref (n + 8), .ref (n + 9), .ref (n + 10), .ref (n + 11), .ref (n + 12), .ref (n + 13), .ref (n + 14), .int 0, .ref (n + 15), .ref (n + 16), .ref (n + 17), .ref (n + 18), .ref (n + 19), .ref (n + 20), .ref (n + 21), .ref (n + 22)]))) := ⟨_, rfl⟩
    have hP : gP D b (n + 23) w1 H := by rw [hw1]; exact hP
    have fa : w1 a = some (.inr (6, [.int (nI (clN 3 7 z1)), .int 0, .int 0, .ref (n + 0), .ref (n + 1), .ref (n + 2), .ref (n + 3), .ref (n + 4), .ref (n + 5), .ref (n + 6), .ref (n + 7), .ref (n + 8), .ref (n + 9), .ref (n + 10), .ref (n + 11), .ref (n + 12), .ref (n + 13), .ref (n + 14), .int 0, .ref (n + 15), .ref (n + 16), .ref (n + 17), .ref (n + 18), .ref (n + 19), .ref (n + 20), .ref (n + 21), .ref (n + 22)])) := by rw [hw1, vu_s]
    have F : ∀ j, j < 23 → w1 (n + j) = some (cmz g j) := fun j hj => by rw [hw1, vu_n _ _ (by omega)]; exact F j hj
    have fr : ∀ q, q < n → q ≠ a → w1 q = w q := fun q h1 h2 => by rw [hw1, vu_n _ _ h2]; exact fr q h1 h2
    clear hw1
    obtain ⟨w0, hw0⟩ : ∃ w0, w0 = w1 := ⟨_, rfl⟩
    rw [← hw0] at hP fa F fr
    clear hw0
    have k237 : ∀ ls : Array Slot, lv_has ls 5 [(0, .ref a), (1, .int z1), (2, .int z2), (3, .int z3)] → W p l e ({ frames := 1, cells := 23, slots := 2189, locals := 21 } : Room) s m [.ref a, .int z1, .int z2, .int z3].toArray below meth c0 H locs 23 2189 (MQ below (gQv D b (n + 23) (fun w1 => w1 a = some (.inr (6, [.int (nI (clN 3 7 z1)), .int (nI (clN 1 (clN 3 7 z1) z2)), .int (nI (clN 0 3 z3)), .ref (n + 0), .ref (n + 1), .ref (n + 2), .ref (n + 3), .ref (n + 4), .ref (n + 5), .ref (n + 6), .ref (n + 7), .ref (n + 8), .ref (n + 9), .ref (n + 10), .ref (n + 11), .ref (n + 12), .ref (n + 13), .ref (n + 14), .int 0, .ref (n + 15), .ref (n + 16), .ref (n + 17), .ref (n + 18), .ref (n + 19), .ref (n + 20), .ref (n + 21), .ref (n + 22)])) ∧ w1 (n + 12) = some (.inl (g 0, 7, .inl (fun j => if j < (clN 3 7 z1) then 1 else 0))) ∧ (∀ j, j < 23 → j ≠ 12 → w1 (n + j) = some (cmz g j)) ∧ ∀ q, q < n → q ≠ a → w1 q = w q)) [.ref a, .int z1, .int z2, .int z3].toArray s 23 2189 (fun q => b ≤ q)) (F0 m 237 ls [.int (nI (clN 1 (clN 3 7 z1) z2)), .ref a]) := by
      intro ls hl
      refine g_put (pc := 237) cx hnm hP hS fa rfl wf_M ty_M tk_M nm_M 1 (by decide) fl_M_M_k (fun _ h => h) rfl (ty := .int) (by decide +kernel) rfl rfl (Nat.le_of_ble_eq_true rfl) dd_M_init_237 (fun H locs hP hS => ?_)
      obtain ⟨w1, hw1⟩ : ∃ w1, w1 = va_up w0 a (some (.inr (6, [.int (nI (clN 3 7 z1)), .int (nI (clN 1 (clN 3 7 z1) z2)), .int 0, .ref (n + 0), .ref (n + 1), .ref (n + 2), .ref (n + 3), .ref (n + 4), .ref (n + 5), .ref (n + 6), .ref (n + 7), .ref (n + 8), .ref (n + 9), .ref (n + 10), .ref (n + 11), .ref (n + 12), .ref (n + 13), .ref (n + 14), .int 0, .ref (n + 15), .ref (n + 16), .ref (n + 17), .ref (n + 18), .ref (n + 19), .ref (n + 20), .ref (n + 21), .ref (n + 22)]))) := ⟨_, rfl⟩
      have hP : gP D b (n + 23) w1 H := by rw [hw1]; exact hP
      have fa : w1 a = some (.inr (6, [.int (nI (clN 3 7 z1)), .int (nI (clN 1 (clN 3 7 z1) z2)), .int 0, .ref (n + 0), .ref (n + 1), .ref (n + 2), .ref (n + 3), .ref (n + 4), .ref (n + 5), .ref (n + 6), .ref (n + 7), .ref (n + 8), .ref (n + 9), .ref (n + 10), .ref (n + 11), .ref (n + 12), .ref (n + 13), .ref (n + 14), .int 0, .ref (n + 15), .ref (n + 16), .ref (n + 17), .ref (n + 18), .ref (n + 19), .ref (n + 20), .ref (n + 21), .ref (n + 22)])) := by rw [hw1, vu_s]
      have F : ∀ j, j < 23 → w1 (n + j) = some (cmz g j) := fun j hj => by rw [hw1, vu_n _ _ (by omega)]; exact F j hj
      have fr : ∀ q, q < n → q ≠ a → w1 q = w q := fun q h1 h2 => by rw [hw1, vu_n _ _ h2]; exact fr q h1 h2
      clear hw1
      obtain ⟨w0, hw0⟩ : ∃ w0, w0 = w1 := ⟨_, rfl⟩
      rw [← hw0] at hP fa F fr
      clear hw0
      have k259 : ∀ ls : Array Slot, lv_has ls 5 [(0, .ref a), (1, .int z1), (2, .int z2), (3, .int z3)] → W p l e ({ frames := 1, cells := 23, slots := 2189, locals := 21 } : Room) s m [.ref a, .int z1, .int z2, .int z3].toArray below meth c0 H locs 23 2189 (MQ below (gQv D b (n + 23) (fun w1 => w1 a = some (.inr (6, [.int (nI (clN 3 7 z1)), .int (nI (clN 1 (clN 3 7 z1) z2)), .int (nI (clN 0 3 z3)), .ref (n + 0), .ref (n + 1), .ref (n + 2), .ref (n + 3), .ref (n + 4), .ref (n + 5), .ref (n + 6), .ref (n + 7), .ref (n + 8), .ref (n + 9), .ref (n + 10), .ref (n + 11), .ref (n + 12), .ref (n + 13), .ref (n + 14), .int 0, .ref (n + 15), .ref (n + 16), .ref (n + 17), .ref (n + 18), .ref (n + 19), .ref (n + 20), .ref (n + 21), .ref (n + 22)])) ∧ w1 (n + 12) = some (.inl (g 0, 7, .inl (fun j => if j < (clN 3 7 z1) then 1 else 0))) ∧ (∀ j, j < 23 → j ≠ 12 → w1 (n + j) = some (cmz g j)) ∧ ∀ q, q < n → q ≠ a → w1 q = w q)) [.ref a, .int z1, .int z2, .int z3].toArray s 23 2189 (fun q => b ≤ q)) (F0 m 259 ls [.int (nI (clN 0 3 z3)), .ref a]) := by
        intro ls hl
        refine g_put (pc := 259) cx hnm hP hS fa rfl wf_M ty_M tk_M nm_M 2 (by decide) fl_M_M_d (fun _ h => h) rfl (ty := .int) (by decide +kernel) rfl rfl (Nat.le_of_ble_eq_true rfl) dd_M_init_259 (fun H locs hP hS => ?_)
        obtain ⟨w1, hw1⟩ : ∃ w1, w1 = va_up w0 a (some (.inr (6, [.int (nI (clN 3 7 z1)), .int (nI (clN 1 (clN 3 7 z1) z2)), .int (nI (clN 0 3 z3)), .ref (n + 0), .ref (n + 1), .ref (n + 2), .ref (n + 3), .ref (n + 4), .ref (n + 5), .ref (n + 6), .ref (n + 7), .ref (n + 8), .ref (n + 9), .ref (n + 10), .ref (n + 11), .ref (n + 12), .ref (n + 13), .ref (n + 14), .int 0, .ref (n + 15), .ref (n + 16), .ref (n + 17), .ref (n + 18), .ref (n + 19), .ref (n + 20), .ref (n + 21), .ref (n + 22)]))) := ⟨_, rfl⟩
        have hP : gP D b (n + 23) w1 H := by rw [hw1]; exact hP
        have fa : w1 a = some (.inr (6, [.int (nI (clN 3 7 z1)), .int (nI (clN 1 (clN 3 7 z1) z2)), .int (nI (clN 0 3 z3)), .ref (n + 0), .ref (n + 1), .ref (n + 2), .ref (n + 3), .ref (n + 4), .ref (n + 5), .ref (n + 6), .ref (n + 7), .ref (n + 8), .ref (n + 9), .ref (n + 10), .ref (n + 11), .ref (n + 12), .ref (n + 13), .ref (n + 14), .int 0, .ref (n + 15), .ref (n + 16), .ref (n + 17), .ref (n + 18), .ref (n + 19), .ref (n + 20), .ref (n + 21), .ref (n + 22)])) := by rw [hw1, vu_s]
        have F : ∀ j, j < 23 → w1 (n + j) = some (cmz g j) := fun j hj => by rw [hw1, vu_n _ _ (by omega)]; exact F j hj
        have fr : ∀ q, q < n → q ≠ a → w1 q = w q := fun q h1 h2 => by rw [hw1, vu_n _ _ h2]; exact fr q h1 h2
        clear hw1
        obtain ⟨w0, hw0⟩ : ∃ w0, w0 = w1 := ⟨_, rfl⟩
        rw [← hw0] at hP fa F fr
        clear hw0
        refine lv_iconst (pc := 262) (v := nI 0) hx hb dd_M_init_262 (by decide) ?_
        refine lv_istore (pc := 263) (lv' := [(4, _), (0, _), (1, _), (2, _), (3, _)]) hx hb dd_M_init_263 hl (Nat.le_of_ble_eq_true rfl) rfl (fun ls hl => ?_)
        have loop : ∀ (t i : Nat) (w1 : Nat → Option va_E) (f : Nat → Int32) (H : Heap) (locs : List Loc), i + t = (clN 3 7 z1) → gP D b (n + 23) w1 H → gS b s.heap H locs → w1 a = some (.inr (6, [.int (nI (clN 3 7 z1)), .int (nI (clN 1 (clN 3 7 z1) z2)), .int (nI (clN 0 3 z3)), .ref (n + 0), .ref (n + 1), .ref (n + 2), .ref (n + 3), .ref (n + 4), .ref (n + 5), .ref (n + 6), .ref (n + 7), .ref (n + 8), .ref (n + 9), .ref (n + 10), .ref (n + 11), .ref (n + 12), .ref (n + 13), .ref (n + 14), .int 0, .ref (n + 15), .ref (n + 16), .ref (n + 17), .ref (n + 18), .ref (n + 19), .ref (n + 20), .ref (n + 21), .ref (n + 22)])) → w1 (n + 12) = some (.inl (g 0, 7, .inl f)) → (∀ j, f j = if j < i then 1 else 0) → (∀ j, j < 23 → j ≠ 12 → w1 (n + j) = some (cmz g j)) → (∀ q, q < n → q ≠ a → w1 q = w q) → ∀ ls : Array Slot, lv_has ls 5 [(4, .int (nI i)), (0, .ref a), (1, .int z1), (2, .int z2), (3, .int z3)] → W p l e ({ frames := 1, cells := 23, slots := 2189, locals := 21 } : Room) s m [.ref a, .int z1, .int z2, .int z3].toArray below meth c0 H locs 23 2189 (MQ below (gQv D b (n + 23) (fun w1 => w1 a = some (.inr (6, [.int (nI (clN 3 7 z1)), .int (nI (clN 1 (clN 3 7 z1) z2)), .int (nI (clN 0 3 z3)), .ref (n + 0), .ref (n + 1), .ref (n + 2), .ref (n + 3), .ref (n + 4), .ref (n + 5), .ref (n + 6), .ref (n + 7), .ref (n + 8), .ref (n + 9), .ref (n + 10), .ref (n + 11), .ref (n + 12), .ref (n + 13), .ref (n + 14), .int 0, .ref (n + 15), .ref (n + 16), .ref (n + 17), .ref (n + 18), .ref (n + 19), .ref (n + 20), .ref (n + 21), .ref (n + 22)])) ∧ w1 (n + 12) = some (.inl (g 0, 7, .inl (fun j => if j < (clN 3 7 z1) then 1 else 0))) ∧ (∀ j, j < 23 → j ≠ 12 → w1 (n + j) = some (cmz g j)) ∧ ∀ q, q < n → q ≠ a → w1 q = w q)) [.ref a, .int z1, .int z2, .int z3].toArray s 23 2189 (fun q => b ≤ q)) (F0 m 265 ls []) := by
          intro t
          induction t with
          | zero =>
            intro i w1 f H locs hi hP hS fa ha hf F fr ls hl
            have hi : i = (clN 3 7 z1) := by omega
            subst hi
            refine lv_iload (pc := 265) hx hb dd_M_init_265 (lv_at hl 0 rfl) ?_
            refine lv_aload_n (pc := 267) hx hb dd_M_init_267 rfl (lv_at hl 1 rfl) ?_
            refine g_get (pc := 268) cx hP fa rfl wf_M 0 (by decide) fl_M_M_n (fun _ h => h) rfl dd_M_init_268 ?_
            refine lv_icmp_ge (pc := 271) (tgt := 288) hx hb dd_M_init_271 (by decide) (fun h271 => ?_) (fun h271 => ?_)
            · -- 271: t to 288
              exact g_vret (pc := 288) cx hr hlocks hP hS ⟨fa, by rw [ha, show f = fun j => if j < (clN 3 7 z1) then 1 else 0 from funext hf], F, fr⟩ dd_M_init_288
            · -- 271: f to 274
              exact absurd ((nI_leI (by omega) (by omega)).mpr (Nat.le_refl _)) h271
          | succ t ih =>
            intro i w1 f H locs hi hP hS fa ha hf F fr ls hl
            refine lv_iload (pc := 265) hx hb dd_M_init_265 (lv_at hl 0 rfl) ?_
            refine lv_aload_n (pc := 267) hx hb dd_M_init_267 rfl (lv_at hl 1 rfl) ?_
            refine g_get (pc := 268) cx hP fa rfl wf_M 0 (by decide) fl_M_M_n (fun _ h => h) rfl dd_M_init_268 ?_
            refine lv_icmp_ge (pc := 271) (tgt := 288) hx hb dd_M_init_271 (by decide) (fun h271 => ?_) (fun h271 => ?_)
            · -- 271: t to 288
              exact absurd ((nI_leI (by omega) (by omega)).mp h271) (by omega)
            · -- 271: f to 274
              refine lv_aload_n (pc := 274) hx hb dd_M_init_274 rfl (lv_at hl 1 rfl) ?_
              refine g_get (pc := 275) cx hP fa rfl wf_M 15 (by decide) fl_M_M_many (fun _ h => h) rfl dd_M_init_275 ?_
              refine lv_iload (pc := 278) hx hb dd_M_init_278 (lv_at hl 0 rfl) ?_
              refine lv_iconst (pc := 280) (v := 1) hx hb dd_M_init_280 (by decide) ?_
              refine g_iast (pc := 281) cx hP hS ha rfl (by omega) (by omega) dd_M_init_281 (fun H locs hP hS => ?_)
              refine lv_iinc (pc := 282) (k := 0) (lv' := [(4, _), (0, _), (1, _), (2, _), (3, _)]) hx hb dd_M_init_282 hl rfl (f_inc1 i) (Nat.le_of_ble_eq_true rfl) rfl (fun ls hl => ?_)
              refine lv_goto (pc := 285) (tgt := 265) hx hb dd_M_init_285 (by decide) ?_
              refine ih (i + 1) _ (va_up f i 1) _ _ (by omega) hP hS (by rw [vu_n _ _ (by omega)]; exact fa) (vu_s _ _ _) (fun j => ?_) (fun j h1 h2 => by rw [vu_n _ _ (by omega)]; exact F j h1 h2) (fun q h1 h2 => by rw [vu_n _ _ (by omega)]; exact fr q h1 h2) ls (lv_sub hl [0, 1, 2, 3, 4] rfl)
              by_cases hji : j = i
              · rw [hji, vu_s, if_pos (by omega)]
              · rw [vu_n _ _ hji, hf j]
                by_cases h1 : j < i
                · rw [if_pos h1, if_pos (by omega)]
                · rw [if_neg h1, if_neg (by omega)]
        exact loop (clN 3 7 z1) 0 _ (fun _ => 0) _ _ (by omega) hP hS fa (F 12 (by omega)) (fun j => by rw [if_neg (by omega)]) (fun j h1 _ => F j h1) fr ls (lv_sub hl [0, 1, 2, 3, 4] rfl)
      have hm := clN_m (show 0 ≤ 3 by omega) (by omega) z3
      refine lv_aload_n (pc := 240) hx hb dd_M_init_240 rfl (lv_at hl 0 rfl) ?_
      refine lv_iload_n (pc := 241) hx hb dd_M_init_241 rfl (lv_at hl 3 rfl) ?_
      refine lv_if_ge (pc := 242) (tgt := 249) hx hb dd_M_init_242 (by decide) (fun h242 => ?_) (fun h242 => ?_)
      · -- 242: t to 249
        have hge : ¬ z3 < nI 0 := Int32.not_lt.mpr h242
        refine lv_iload_n (pc := 249) hx hb dd_M_init_249 rfl (lv_at hl 3 rfl) ?_
        refine lv_iconst (pc := 250) (v := nI 3) hx hb dd_M_init_250 (by decide) ?_
        refine lv_icmp_le (pc := 251) (tgt := 258) hx hb dd_M_init_251 (by decide) (fun h251 => ?_) (fun h251 => ?_)
        · -- 251: t to 258
          have e0 := hm.2.2 hge (Int32.not_lt.mpr h251)
          refine lv_iload_n (pc := 258) hx hb dd_M_init_258 rfl (lv_at hl 3 rfl) ?_
          refine f_topi e0 ?_
          exact k259 ls (lv_sub hl [0, 1, 2, 3] rfl)
        · -- 251: f to 254
          have e0 := hm.2.1 hge (Int32.not_le.mp h251)
          refine lv_iconst (pc := 254) (v := nI 3) hx hb dd_M_init_254 (by decide) ?_
          refine lv_goto (pc := 255) (tgt := 259) hx hb dd_M_init_255 (by decide) ?_
          refine f_topi e0 ?_
          exact k259 ls (lv_sub hl [0, 1, 2, 3] rfl)
      · -- 242: f to 245
        have e0 : (0 : Int32) = _ := hm.1 (Int32.not_le.mp h242)
        refine lv_iconst (pc := 245) (v := 0) hx hb dd_M_init_245 (by decide) ?_
        refine lv_goto (pc := 246) (tgt := 259) hx hb dd_M_init_246 (by decide) ?_
        refine f_topi e0 ?_
        exact k259 ls (lv_sub hl [0, 1, 2, 3] rfl)
    have hm := clN_m (show 1 ≤ (clN 3 7 z1) by omega) (by omega) z2
    refine lv_aload_n (pc := 211) hx hb dd_M_init_211 rfl (lv_at hl 0 rfl) ?_
    refine lv_iload_n (pc := 212) hx hb dd_M_init_212 rfl (lv_at hl 2 rfl) ?_
    refine lv_iconst (pc := 213) (v := nI 1) hx hb dd_M_init_213 (by decide) ?_
    refine lv_icmp_ge (pc := 214) (tgt := 221) hx hb dd_M_init_214 (by decide) (fun h214 => ?_) (fun h214 => ?_)
    · -- 214: t to 221
      have hge : ¬ z2 < nI 1 := Int32.not_lt.mpr h214
      refine lv_iload_n (pc := 221) hx hb dd_M_init_221 rfl (lv_at hl 2 rfl) ?_
      refine lv_aload_n (pc := 222) hx hb dd_M_init_222 rfl (lv_at hl 0 rfl) ?_
      refine g_get (pc := 223) cx hP fa rfl wf_M 0 (by decide) fl_M_M_n (fun _ h => h) rfl dd_M_init_223 ?_
      refine lv_icmp_le (pc := 226) (tgt := 236) hx hb dd_M_init_226 (by decide) (fun h226 => ?_) (fun h226 => ?_)
      · -- 226: t to 236
        have e0 := hm.2.2 hge (Int32.not_lt.mpr h226)
        refine lv_iload_n (pc := 236) hx hb dd_M_init_236 rfl (lv_at hl 2 rfl) ?_
        refine f_topi e0 ?_
        exact k237 ls (lv_sub hl [0, 1, 2, 3] rfl)
      · -- 226: f to 229
        have e0 := hm.2.1 hge (Int32.not_le.mp h226)
        refine lv_aload_n (pc := 229) hx hb dd_M_init_229 rfl (lv_at hl 0 rfl) ?_
        refine g_get (pc := 230) cx hP fa rfl wf_M 0 (by decide) fl_M_M_n (fun _ h => h) rfl dd_M_init_230 ?_
        refine lv_goto (pc := 233) (tgt := 237) hx hb dd_M_init_233 (by decide) ?_
        refine f_topi e0 ?_
        exact k237 ls (lv_sub hl [0, 1, 2, 3] rfl)
    · -- 214: f to 217
      have e0 := hm.1 (Int32.not_le.mp h214)
      refine lv_iconst (pc := 217) (v := nI 1) hx hb dd_M_init_217 (by decide) ?_
      refine lv_goto (pc := 218) (tgt := 237) hx hb dd_M_init_218 (by decide) ?_
      refine f_topi e0 ?_
      exact k237 ls (lv_sub hl [0, 1, 2, 3] rfl)
  have hm := clN_m (show 3 ≤ 7 by omega) (by omega) z1
  refine lv_aload_n (pc := 186) hx hb dd_M_init_186 rfl (lv_at hl 0 rfl) ?_
  refine lv_iload_n (pc := 187) hx hb dd_M_init_187 rfl (lv_at hl 1 rfl) ?_
  refine lv_iconst (pc := 188) (v := nI 3) hx hb dd_M_init_188 (by decide) ?_
  refine lv_icmp_ge (pc := 189) (tgt := 196) hx hb dd_M_init_189 (by decide) (fun h189 => ?_) (fun h189 => ?_)
  · -- 189: t to 196
    have hge : ¬ z1 < nI 3 := Int32.not_lt.mpr h189
    refine lv_iload_n (pc := 196) hx hb dd_M_init_196 rfl (lv_at hl 1 rfl) ?_
    refine lv_bipush (pc := 197) (v := nI 7) hx hb dd_M_init_197 (by decide) ?_
    refine lv_icmp_le (pc := 199) (tgt := 207) hx hb dd_M_init_199 (by decide) (fun h199 => ?_) (fun h199 => ?_)
    · -- 199: t to 207
      have e0 := hm.2.2 hge (Int32.not_lt.mpr h199)
      refine lv_iload_n (pc := 207) hx hb dd_M_init_207 rfl (lv_at hl 1 rfl) ?_
      refine f_topi e0 ?_
      exact k208 ls (lv_sub hl [0, 1, 2, 3] rfl)
    · -- 199: f to 202
      have e0 := hm.2.1 hge (Int32.not_le.mp h199)
      refine lv_bipush (pc := 202) (v := nI 7) hx hb dd_M_init_202 (by decide) ?_
      refine lv_goto (pc := 204) (tgt := 208) hx hb dd_M_init_204 (by decide) ?_
      refine f_topi e0 ?_
      exact k208 ls (lv_sub hl [0, 1, 2, 3] rfl)
  · -- 189: f to 192
    have e0 := hm.1 (Int32.not_le.mp h189)
    refine lv_iconst (pc := 192) (v := nI 3) hx hb dd_M_init_192 (by decide) ?_
    refine lv_goto (pc := 193) (tgt := 208) hx hb dd_M_init_193 (by decide) ?_
    refine f_topi e0 ?_
    exact k208 ls (lv_sub hl [0, 1, 2, 3] rfl)
