-- the kit's rows, said of the typed memory
abbrev fS (x : fy) (H0 H : Heap) (locs : List Loc) : Prop := va_S (fun q => xs x ≤ q) H0 H locs
def fX (own : String) (cc : ByteArray) (nL : Nat) (p : Program) (c : Code) (s : State) (m : MethodId) (args : Array Value) (x : fy) : Prop := CallFix p m c cc nL s args gw_tbl own ∧ va_K (xd x) cls_all (xt x) s
abbrev fPc (x : fy) (S : fm) (av : List Value) : Array Value → State → Prop := va_Pc av (fun U => fP x S U.heap ∧ va_K (xd x) cls_all (xt x) U)
abbrev fQi (x : fy) (S' : fm) (r : Int32) : Array Value → State → Outcome → State → Prop := va_Qi (fun (v : Int32) (_ : Unit) => v = r) (fun _ t => fP x S' t.heap) (fun q => xs x ≤ q)
abbrev fQl (x : fy) (S' : fm) (r : Int64) : Array Value → State → Outcome → State → Prop := va_Ql (fun (v : Int64) (_ : Unit) => v = r) (fun _ t => fP x S' t.heap) (fun q => xs x ≤ q)
abbrev fQv (x : fy) (S' : fm) : Array Value → State → Outcome → State → Prop := va_Qv (fun (_ : Unit) => True) (fun _ t => fP x S' t.heap) (fun q => xs x ≤ q)
abbrev fQq (x : fy) (S' : fm) (r : Option Nat) : Array Value → State → Outcome → State → Prop := va_Qq (fun (v : Option Nat) (_ : Unit) => v = r) (fun _ t => fP x S' t.heap) (fun q => xs x ≤ q)
section FR
variable {p : Program} {l : Launch} {e : Env} {R : Room} {s : State} {m : MethodId} {args : Array Value} {below : List Frame} {meth : Method} {c : Code} {H : Heap} {locs : List Loc} {cells slots : Nat} {Q : State → Prop}
variable {cc : ByteArray} {pc : Nat} {ls : Array Slot} {rest : List Value} {own : String} {nL : Nat} {x : fy} {S : fm} {a k i : Nat} {H0 : Heap}
/-- a contract begins: one row for all that every contract needs -/
theorem f_met {y : MethodName} {bytes : ByteArray} {maxL : Nat} {ret : Option FieldType} {rm : Room} {av : List Value} {Qc : Array Value → State → Outcome → State → Prop} {mc ms : Nat} {free : Addr → Prop} (hy : plainName y.cls = true) (hlen : (lg_sl av).length ≤ maxL)
    (body : ∀ (p : Program) (e : Env) (s : State) (m : MethodId) (below : List Frame) (meth : Method) (c : Code), fX y.cls bytes maxL p c s m av.toArray x → meth.sig.returnType = ret → meth.locks = false → meth.name = y.name → fP x S s.heap → fS x s.heap s.heap [] → ∀ ls : Array Slot, lv_has ls maxL (lv_args 0 av) →
      W p l e rm s m av.toArray below meth c s.heap [] 0 0 (MQ below Qc av.toArray s mc ms free) (F0 m 0 ls [])) : Met l y (gw_ws y bytes maxL ret) rm (fPc x S av) Qc mc ms free := by
  refine Met.ofW (cc := bytes) (maxL := maxL) (ret := ret) hy rfl ?_
  intro p e s m args below meth c s₁ B hml hv
  obtain ⟨rfl, hP, hK⟩ := hv
  rw [lg_entry_eq]
  exact body p e s m below meth c ⟨⟨B.exec, B.bytes, hml, findClass_of_methodNamed B.named, fun w h => atoms_spec (ws := gw_ws y bytes maxL ret) B.pre w (List.mem_cons_of_mem _ h)⟩, hK⟩ B.returns B.notSynchronized (name_of_methodNamed B.named B.method).1 hP va_S.rf _ (lv_entry av hlen)
theorem f_get (cx : fX own cc nL p c s m args x) (hP : fP x S H) (ha : fat x S a k i) {C ref : String} {T : u_T} {N ci index : Nat} {fs : List Value} (hf : fc x S k i = .inr (ci, fs)) (hc : cls_all[ci]? = some (C, T, N)) (hin : ∀ w ∈ u_ws C T N, w ∈ gw_tbl) (q : Nat) (hq : q < N) (hlink : Cond.fieldLink own index ref (T q).2.1 (T q).2.2.1 ∈ gw_tbl) (hsame : ∀ z, s.fieldFound? (T q).1 (T q).2.1 (T q).2.2.1 = some z → s.fieldFound? ref (T q).2.1 (T q).2.2.1 = some z) {v : Value} (hv : fs[q]? = some v) (hdg : decode cc pc = .ok (.getfield index, 3))
    (kk : W p l e R s m args below meth c H locs cells slots Q (F0 m (pc + 3) ls (v :: rest))) : W p l e R s m args below meth c H locs cells slots Q (F0 m pc ls (.ref a :: rest)) := by
  have h1 := hP.one ha
  rw [hf] at h1
  exact va_get cx.1.1 cx.1.2.1 cx.1.2.2.2.2 hin cx.1.2.2.2.1 cx.2 h1 0 rfl hc q hq (cx.1.2.2.2.2 _ hlink) hsame hv hdg kk
theorem f_put (cx : fX own cc nL p c s m args x) (hP : fP x S H) (hS0 : fS x H0 H locs) (ha : fat x S a k i) {C ref : String} {T : u_T} {N ci index : Nat} {fs : List Value} (hf : fc x S k i = .inr (ci, fs)) (hc : cls_all[ci]? = some (C, T, N)) (hin : ∀ w ∈ u_ws C T N, w ∈ gw_tbl) (ty0 : Nat → FieldType) (hty : ∀ k, k < N → parseFieldDescriptor (T k).2.2.1 = some (ty0 k)) (hnm : ∀ a, a < N → ∀ b, b < N → a ≠ b → (T a).2.1 ≠ (T b).2.1) (q : Nat) (hq : q < N) (hlink : Cond.fieldLink own index ref (T q).2.1 (T q).2.2.1 ∈ gw_tbl) (hsame : ∀ z, s.fieldFound? (T q).1 (T q).2.1 (T q).2.2.1 = some z → s.fieldFound? ref (T q).2.1 (T q).2.2.1 = some z) (hfin : (T q).2.2.2 = false) {ty : FieldType} {v : Value} (hd : parseFieldDescriptor (T q).2.2.1 = some ty) (hn : narrow ty v = v) (hfit : fits ty v = true) (hl : q < fs.length)
    {S' : fm} (h2 : fc x S' k i = .inr (ci, fs.set q v)) (h3 : ∀ b d, ¬ (b = k ∧ d = i) → fc x S' b d = fc x S b d) (hz : mZ S' = mZ S) (hdg : decode cc pc = .ok (.putfield index, 3))
    (kk : ∀ (H1 : Heap) (locs1 : List Loc), fP x S' H1 → fS x H0 H1 locs1 → W p l e R s m args below meth c H1 locs1 cells slots Q (F0 m (pc + 3) ls rest)) : W p l e R s m args below meth c H locs cells slots Q (F0 m pc ls (v :: .ref a :: rest)) := by
  obtain ⟨⟨hexec, hb, -, hown, hts⟩, hK⟩ := cx
  have hap := va_apart (own := own) hts hin ty0 hty hnm hK hc
  have h1 := hP.2.2.2 _ _ ha.cell
  rw [hf] at h1
  obtain ⟨r, h1, cell, q1, q2, q3, q4⟩ := h1
  have hr : r = (C, T, N) := Option.some.inj (h1.symm.trans hc)
  subst hr
  obtain ⟨hS, hfc, kC, hkC, hkind⟩ := hK.1 ci _ hc
  obtain ⟨cf, kf, fi, f, hi, hsl⟩ := hS q hq
  have hlay := hts _ (hin _ (u_in_lay hq))
  unfold u_lay at hlay
  rw [if_neg (by rw [hfin]; decide)] at hlay
  have hst := (u_facts hfc hkC (u_lays hts hin hq) hi).1
  have h6 := u_store hfc hkC hkind hlay hi hd hn hfit
  refine W.putK hexec hb (f := f) ⟨hown, hts _ hlink, ⟨_, _, _, hsame _ hi⟩, hst⟩ (by rw [q2]; exact h6) q1 q3 (by rw [hsl]; exact k2_hasslot (q4 q hq)) rfl rfl hdg fun H' e1 e2 e3 => ?_
  rw [hsl] at e1 ⊢
  refine kk H' _ (hP.set ha h3 hz ?_ e2 e3) (hS0.put e2 e3 (ha.lo hP.1))
  rw [h2]
  exact ⟨_, hc, t_OB.to (V := updV (vp_V fs) q v) ⟨_, e1, q2, q3, t_set q4 hap hq v⟩ (fun j _ => vp_updV_set hl v j)⟩
theorem f_putF (cx : fX own cc nL p c s m args x) (hin2 : meth.name = "<init>") (hP : fP x S H) (hS0 : fS x H0 H locs) (ha : fat x S a k i) {C ref : String} {T : u_T} {N ci index : Nat} {fs : List Value} (hf : fc x S k i = .inr (ci, fs)) (hc : cls_all[ci]? = some (C, T, N)) (hin : ∀ w ∈ u_ws C T N, w ∈ gw_tbl) (ty0 : Nat → FieldType) (hty : ∀ k, k < N → parseFieldDescriptor (T k).2.2.1 = some (ty0 k)) (hnm : ∀ a, a < N → ∀ b, b < N → a ≠ b → (T a).2.1 ≠ (T b).2.1) (q : Nat) (hq : q < N) (hlink : Cond.fieldLink own index ref (T q).2.1 (T q).2.2.1 ∈ gw_tbl) (hsame : ∀ z, s.fieldFound? (T q).1 (T q).2.1 (T q).2.2.1 = some z → s.fieldFound? ref (T q).2.1 (T q).2.2.1 = some z) (hfin : (T q).2.2.2 = true) (hdecl : (T q).1 = own) {ty : FieldType} {v : Value} (hd : parseFieldDescriptor (T q).2.2.1 = some ty) (hn : narrow ty v = v) (hfit : fits ty v = true) (hl : q < fs.length)
    {S' : fm} (h2 : fc x S' k i = .inr (ci, fs.set q v)) (h3 : ∀ b d, ¬ (b = k ∧ d = i) → fc x S' b d = fc x S b d) (hz : mZ S' = mZ S) (hdg : decode cc pc = .ok (.putfield index, 3))
    (kk : ∀ (H1 : Heap) (locs1 : List Loc), fP x S' H1 → fS x H0 H1 locs1 → W p l e R s m args below meth c H1 locs1 cells slots Q (F0 m (pc + 3) ls rest)) : W p l e R s m args below meth c H locs cells slots Q (F0 m pc ls (v :: .ref a :: rest)) := by
  obtain ⟨⟨hexec, hb, -, hown, hts⟩, hK⟩ := cx
  have hap := va_apart (own := own) hts hin ty0 hty hnm hK hc
  have h1 := hP.2.2.2 _ _ ha.cell
  rw [hf] at h1
  obtain ⟨r, h1, cell, q1, q2, q3, q4⟩ := h1
  have hr : r = (C, T, N) := Option.some.inj (h1.symm.trans hc)
  subst hr
  obtain ⟨hS, hfc, kC, hkC, hkind⟩ := hK.1 ci _ hc
  obtain ⟨cf, kf, fi, f, hi, hsl⟩ := hS q hq
  have hlay := hts _ (hin _ (u_in_lay hq))
  unfold u_lay at hlay
  rw [if_pos hfin] at hlay
  have hst := (u_facts hfc hkC (u_lays hts hin hq) hi).1
  have hcf : m.cls = cf := by
    obtain ⟨_, _, c', _, _, _, -, -, hf', -, -, -, hown2, -⟩ := Cond.laysFinal_spec hlay
    have e1 : c' = cf := by have := hi.symm.trans hf'; simp at this; exact this.1.symm
    rw [hdecl] at hown2
    rw [← e1]; exact Option.some.inj (hown.symm.trans hown2)
  have h6 := u_fits hfc hkC hkind (Or.inr hlay) hi hd hn hfit
  refine W.putFinK hexec hb hown (hts _ hlink) (hsame _ hi) hst hcf hin2 (by rw [q2]; exact h6) q1 q3 (by rw [hsl]; exact k2_hasslot (q4 q hq)) rfl rfl hdg fun H' e1 e2 e3 => ?_
  rw [hsl] at e1 ⊢
  refine kk H' _ (hP.set ha h3 hz ?_ e2 e3) (hS0.put e2 e3 (ha.lo hP.1))
  rw [h2]
  exact ⟨_, hc, t_OB.to (V := updV (vp_V fs) q v) ⟨_, e1, q2, q3, t_set q4 hap hq v⟩ (fun j _ => vp_updV_set hl v j)⟩
theorem f_clamp {j n : Nat} (hj : j < n) (hn : n < 2 ^ 31) : vp_in (nI j) n ∧ (nI j).toNatClampNeg = j := ⟨vp_in_nI hj hn, nI_clamp (by omega)⟩
theorem f_iald (cx : fX own cc nL p c s m args x) (hP : fP x S H) (ha : fat x S a k i) {n : Nat} {f : Nat → Int32} (hf : fc x S k i = .inl (xg x 0, n, .inl f)) {z : Int32} {j : Nat} (hz : z = nI j) (hj : j < n) (hdg : decode cc pc = .ok (.iaload, 1))
    (kk : W p l e R s m args below meth c H locs cells slots Q (F0 m (pc + 1) ls (.int (f j) :: rest))) : W p l e R s m args below meth c H locs cells slots Q (F0 m pc ls (.int z :: .ref a :: rest)) := by
  subst hz
  have h1 := hP.one ha
  rw [hf] at h1
  have hc := f_clamp hj (f_len hP.1 hf)
  exact va_iald cx.1.1 cx.1.2.1 cx.2 h1 0 0 rfl rfl hc.1 hdg (by rw [hc.2]; exact kk)
theorem f_lald (cx : fX own cc nL p c s m args x) (hP : fP x S H) (ha : fat x S a k i) {n : Nat} {f : Nat → Int64} (hf : fc x S k i = .inl (xg x 1, n, ja f)) {z : Int32} {j : Nat} (hz : z = nI j) (hj : j < n) (hdg : decode cc pc = .ok (.laload, 1))
    (kk : W p l e R s m args below meth c H locs cells slots Q (F0 m (pc + 1) ls (.long (f j) :: rest))) : W p l e R s m args below meth c H locs cells slots Q (F0 m pc ls (.int z :: .ref a :: rest)) := by
  subst hz
  have h1 := hP.one ha
  rw [hf] at h1
  have hc := f_clamp hj (f_len hP.1 hf)
  exact va_lald cx.1.1 cx.1.2.1 cx.2 h1 0 1 rfl rfl hc.1 hdg (by rw [hc.2]; exact kk)
theorem f_zald (cx : fX own cc nL p c s m args x) (hP : fP x S H) (ha : fat x S a k i) {n : Nat} {f : Nat → Int32} (hf : fc x S k i = .inl (xg x 2, n, .inl f)) {z : Int32} {j : Nat} (hz : z = nI j) (hj : j < n) (hdg : decode cc pc = .ok (.baload, 1))
    (kk : W p l e R s m args below meth c H locs cells slots Q (F0 m (pc + 1) ls (.int (f j) :: rest))) : W p l e R s m args below meth c H locs cells slots Q (F0 m pc ls (.int z :: .ref a :: rest)) := by
  subst hz
  have h1 := hP.one ha
  rw [hf] at h1
  have hc := f_clamp hj (f_len hP.1 hf)
  exact va_zald cx.1.1 cx.1.2.1 cx.2 h1 0 2 rfl rfl hc.1 hdg (by rw [hc.2]; exact kk)
theorem f_aald (t0 : Nat) (cx : fX own cc nL p c s m args x) (hP : fP x S H) (ha : fat x S a k i) {C : String} {n : Nat} {f : Nat → Option Nat} (hf : fc x S k i = .inl (xg x t0, n, qa f)) (ht : (xt x)[t0]? = some (xg x t0, .object C)) {z : Int32} {j : Nat} (hz : z = nI j) (hj : j < n) (hdg : decode cc pc = .ok (.aaload, 1))
    (kk : W p l e R s m args below meth c H locs cells slots Q (F0 m (pc + 1) ls (va_rf (f j) :: rest))) : W p l e R s m args below meth c H locs cells slots Q (F0 m pc ls (.int z :: .ref a :: rest)) := by
  subst hz
  have h1 := hP.one ha
  rw [hf] at h1
  have hc := f_clamp hj (f_len hP.1 hf)
  exact va_aldq cx.1.1 cx.1.2.1 cx.2 h1 0 t0 rfl ht hc.1 hdg (by rw [hc.2]; exact kk)
/-- a place of an array of references that holds one -/
theorem f_aalds (t0 : Nat) (cx : fX own cc nL p c s m args x) (hP : fP x S H) (ha : fat x S a k i) {C : String} {n : Nat} {f : Nat → Option Nat} (hf : fc x S k i = .inl (xg x t0, n, qa f)) (ht : (xt x)[t0]? = some (xg x t0, .object C)) {z : Int32} {j : Nat} (hz : z = nI j) (hj : j < n) {b : Nat} (hb : f j = some b) (hdg : decode cc pc = .ok (.aaload, 1))
    (kk : W p l e R s m args below meth c H locs cells slots Q (F0 m (pc + 1) ls (.ref b :: rest))) : W p l e R s m args below meth c H locs cells slots Q (F0 m pc ls (.int z :: .ref a :: rest)) :=
  f_aald t0 cx hP ha hf ht hz hj hdg (by rw [hb]; exact kk)
theorem f_alen (t0 : Nat) (cx : fX own cc nL p c s m args x) (hP : fP x S H) (ha : fat x S a k i) {ty : FieldType} {n : Nat} {d : (Nat → Int32) ⊕ (Nat → Int64) ⊕ (Nat → UInt32) ⊕ (Nat → UInt64) ⊕ (Nat → Option Nat)} (hf : fc x S k i = .inl (xg x t0, n, d)) (ht : (xt x)[t0]? = some (xg x t0, ty)) (hdg : decode cc pc = .ok (.arraylength, 1))
    (kk : W p l e R s m args below meth c H locs cells slots Q (F0 m (pc + 1) ls (.int (nI n) :: rest))) : W p l e R s m args below meth c H locs cells slots Q (F0 m pc ls (.ref a :: rest)) := by
  have h1 := hP.one ha
  rw [hf] at h1
  exact va_alen cx.1.1 cx.1.2.1 cx.2 h1 0 t0 rfl ht rfl hdg kk
theorem f_iast (cx : fX own cc nL p c s m args x) (hP : fP x S H) (hS0 : fS x H0 H locs) (ha : fat x S a k i) {n : Nat} (hf : ∀ I, fcr x k i I (mJ S k i) (mB S k i) (mA S k i) (mU S k i) = .inl (xg x 0, n, .inl I)) {z v : Int32} {j : Nat} (hz : z = nI j) (hj : j < n) (hdg : decode cc pc = .ok (.iastore, 1))
    (kk : ∀ (H1 : Heap) (locs1 : List Loc), fP x (sI S k i j v) H1 → fS x H0 H1 locs1 → W p l e R s m args below meth c H1 locs1 cells slots Q (F0 m (pc + 1) ls rest)) : W p l e R s m args below meth c H locs cells slots Q (F0 m pc ls (.int v :: .int z :: .ref a :: rest)) := by
  subst hz
  have h1 := hP.2.2.2 _ _ ha.cell
  rw [show fc x S k i = _ from hf _] at h1
  have hc := f_clamp hj (f_len hP.1 (hf (mI S k i)))
  refine W.iast cx.1.1 cx.1.2.1 h1 ((cx.2.2 0 _ rfl).1 n (fun j => .int (mI S k i j))) (fun q => by cases q) (by show ¬ (nI j < 0 ∨ (arrV _ _ _).slots.size ≤ _); rw [arrV_size]; exact hc.1) rfl rfl hdg fun H1 e z oq => ?_
  refine kk H1 _ (hP.set ha fc_sI rfl ?_ z oq) (hS0.put z oq (ha.lo hP.1))
  rw [show fc x (sI S k i j v) k i = .inl (xg x 0, n, .inl (va_up (mI S k i) j v)) by show fcr x k i (mI (sI S k i j v) k i) _ _ _ _ = _; rw [mI_row]; exact hf _]
  show H1[a]? = some (vp_cell _ _)
  rw [e, vp_cell_i, vp_cell_i, arrV_store, hc.2]
  congr 2
  funext q
  by_cases hq : q = j <;> simp [updV, va_up, hq]
theorem f_iastU (cx : fX own cc nL p c s m args x) (hP : fP x S H) (hS0 : fS x H0 H locs) (ha : fat x S a k i) {n : Nat} (hf : ∀ U, fcr x k i (mI S k i) (mJ S k i) (mB S k i) (mA S k i) U = .inl (xg x 0, n, .inl (fun j => nI (U j)))) {z w : Int32} {j v : Nat} (hw : w = nI v) (hz : z = nI j) (hj : j < n) (hdg : decode cc pc = .ok (.iastore, 1))
    (kk : ∀ (H1 : Heap) (locs1 : List Loc), fP x (sU S k i j v) H1 → fS x H0 H1 locs1 → W p l e R s m args below meth c H1 locs1 cells slots Q (F0 m (pc + 1) ls rest)) : W p l e R s m args below meth c H locs cells slots Q (F0 m pc ls (.int w :: .int z :: .ref a :: rest)) := by
  subst hz; subst hw
  have h1 := hP.2.2.2 _ _ ha.cell
  rw [show fc x S k i = _ from hf _] at h1
  have hc := f_clamp hj (f_len hP.1 (hf (mU S k i)))
  refine W.iast cx.1.1 cx.1.2.1 h1 ((cx.2.2 0 _ rfl).1 n (fun j => .int (nI (mU S k i j)))) (fun q => by cases q) (by show ¬ (nI j < 0 ∨ (arrV _ _ _).slots.size ≤ _); rw [arrV_size]; exact hc.1) rfl rfl hdg fun H1 e z oq => ?_
  refine kk H1 _ (hP.set ha fc_sU rfl ?_ z oq) (hS0.put z oq (ha.lo hP.1))
  rw [show fc x (sU S k i j v) k i = .inl (xg x 0, n, .inl (fun q => nI (va_up (mU S k i) j v q))) by show fcr x k i _ _ _ _ (mU (sU S k i j v) k i) = _; rw [mU_row]; exact hf _]
  show H1[a]? = some (vp_cell _ _)
  rw [e, vp_cell_i, vp_cell_i, arrV_store, hc.2]
  congr 2
  funext q
  by_cases hq : q = j <;> simp [updV, va_up, hq]
theorem f_iastY (cx : fX own cc nL p c s m args x) (hP : fP x S H) (hS0 : fS x H0 H locs) (ha : fat x S a k i) {n : Nat} (hf : ∀ U, fcr x k i (mI S k i) (mJ S k i) (mB S k i) (mA S k i) U = .inl (xg x 0, n, .inl (fun j => bI (BitVec.ofNat 8 (U j))))) {z w : Int32} {j : Nat} {v : BitVec 8} (hw : w = bI v) (hz : z = nI j) (hj : j < n) (hdg : decode cc pc = .ok (.iastore, 1))
    (kk : ∀ (H1 : Heap) (locs1 : List Loc), fP x (sU S k i j v.toNat) H1 → fS x H0 H1 locs1 → W p l e R s m args below meth c H1 locs1 cells slots Q (F0 m (pc + 1) ls rest)) : W p l e R s m args below meth c H locs cells slots Q (F0 m pc ls (.int w :: .int z :: .ref a :: rest)) := by
  subst hz; subst hw
  have h1 := hP.2.2.2 _ _ ha.cell
  rw [show fc x S k i = _ from hf _] at h1
  have hc := f_clamp hj (f_len hP.1 (hf (mU S k i)))
  refine W.iast cx.1.1 cx.1.2.1 h1 ((cx.2.2 0 _ rfl).1 n (fun j => .int (bI (BitVec.ofNat 8 (mU S k i j))))) (fun q => by cases q) (by show ¬ (nI j < 0 ∨ (arrV _ _ _).slots.size ≤ _); rw [arrV_size]; exact hc.1) rfl rfl hdg fun H1 e z oq => ?_
  refine kk H1 _ (hP.set ha fc_sU rfl ?_ z oq) (hS0.put z oq (ha.lo hP.1))
  rw [show fc x (sU S k i j v.toNat) k i = .inl (xg x 0, n, .inl (fun q => bI (BitVec.ofNat 8 (va_up (mU S k i) j v.toNat q)))) by show fcr x k i _ _ _ _ (mU (sU S k i j v.toNat) k i) = _; rw [mU_row]; exact hf _]
  show H1[a]? = some (vp_cell _ _)
  rw [e, vp_cell_i, vp_cell_i, arrV_store, hc.2]
  congr 2
  funext q
  by_cases hq : q = j <;> simp [updV, va_up, hq]
theorem f_last (cx : fX own cc nL p c s m args x) (hP : fP x S H) (hS0 : fS x H0 H locs) (ha : fat x S a k i) {n : Nat} (hf : ∀ J, fcr x k i (mI S k i) J (mB S k i) (mA S k i) (mU S k i) = .inl (xg x 1, n, ja J)) {z : Int32} {v : Int64} {j : Nat} (hz : z = nI j) (hj : j < n) (hdg : decode cc pc = .ok (.lastore, 1))
    (kk : ∀ (H1 : Heap) (locs1 : List Loc), fP x (sJ S k i j v) H1 → fS x H0 H1 locs1 → W p l e R s m args below meth c H1 locs1 cells slots Q (F0 m (pc + 1) ls rest)) : W p l e R s m args below meth c H locs cells slots Q (F0 m pc ls (.long v :: .int z :: .ref a :: rest)) := by
  subst hz
  have h1 := hP.2.2.2 _ _ ha.cell
  rw [show fc x S k i = _ from hf _] at h1
  have hc := f_clamp hj (f_len hP.1 (hf (mJ S k i)))
  refine W.last cx.1.1 cx.1.2.1 h1 ((cx.2.2 1 _ rfl).1 n (fun j => .long (mJ S k i j))) (fun q => by cases q) (by show ¬ (nI j < 0 ∨ (arrV _ _ _).slots.size ≤ _); rw [arrV_size]; exact hc.1) rfl rfl hdg fun H1 e z oq => ?_
  refine kk H1 _ (hP.set ha fc_sJ rfl ?_ z oq) (hS0.put z oq (ha.lo hP.1))
  rw [show fc x (sJ S k i j v) k i = .inl (xg x 1, n, ja (va_up (mJ S k i) j v)) by show fcr x k i _ (mJ (sJ S k i j v) k i) _ _ _ = _; rw [mJ_row]; exact hf _]
  show H1[a]? = some (vp_cell _ _)
  rw [e, vp_cell_l, vp_cell_l, arrV_store, hc.2]
  congr 2
  funext q
  by_cases hq : q = j <;> simp [updV, va_up, hq]
theorem f_zast (cx : fX own cc nL p c s m args x) (hP : fP x S H) (hS0 : fS x H0 H locs) (ha : fat x S a k i) {n : Nat} (hf : ∀ B, fcr x k i (mI S k i) (mJ S k i) B (mA S k i) (mU S k i) = .inl (xg x 2, n, .inl (fun j => b2 (B j)))) {z w : Int32} {v : Bool} {j : Nat} (hw : w = b2 v) (hz : z = nI j) (hj : j < n) (hdg : decode cc pc = .ok (.bastore, 1))
    (kk : ∀ (H1 : Heap) (locs1 : List Loc), fP x (sB S k i j v) H1 → fS x H0 H1 locs1 → W p l e R s m args below meth c H1 locs1 cells slots Q (F0 m (pc + 1) ls rest)) : W p l e R s m args below meth c H locs cells slots Q (F0 m pc ls (.int w :: .int z :: .ref a :: rest)) := by
  subst hz; subst hw
  have h1 := hP.2.2.2 _ _ ha.cell
  rw [show fc x S k i = _ from hf _] at h1
  have hc := f_clamp hj (f_len hP.1 (hf (mB S k i)))
  refine W.zast cx.1.1 cx.1.2.1 h1 ((cx.2.2 2 _ rfl).1 n (fun j => .int (b2 (mB S k i j)))) (fun q => by cases q) (by show ¬ (nI j < 0 ∨ (arrV _ _ _).slots.size ≤ _); rw [arrV_size]; exact hc.1) rfl rfl hdg fun H1 e z oq => ?_
  refine kk H1 _ (hP.set ha fc_sB rfl ?_ z oq) (hS0.put z oq (ha.lo hP.1))
  rw [show fc x (sB S k i j v) k i = .inl (xg x 2, n, .inl (fun q => b2 (va_up (mB S k i) j v q))) by show fcr x k i _ _ (mB (sB S k i j v) k i) _ _ = _; rw [mB_row]; exact hf _]
  show H1[a]? = some (vp_cell _ _)
  rw [e, b2_nar, vp_cell_i, vp_cell_i, arrV_store, hc.2]
  congr 2
  funext q
  by_cases hq : q = j <;> simp [updV, va_up, hq]
/-- a letter is put into a row -/
theorem f_aast (cx : fX own cc nL p c s m args x) (hP : fP x S H) (hS0 : fS x H0 H locs) (ha : fat x S a k i) {n v : Nat} (hv : fvL x S v) (hf : ∀ A, fcr x k i (mI S k i) (mJ S k i) (mB S k i) A (mU S k i) = .inl (xg x 6, n, qa A)) {z : Int32} {j : Nat} (hz : z = nI j) (hj : j < n) (hdg : decode cc pc = .ok (.aastore, 1))
    (kk : ∀ (H1 : Heap) (locs1 : List Loc), fP x (sA S k i j (some v)) H1 → fS x H0 H1 locs1 → W p l e R s m args below meth c H1 locs1 cells slots Q (F0 m (pc + 1) ls rest)) : W p l e R s m args below meth c H locs cells slots Q (F0 m pc ls (.ref v :: .int z :: .ref a :: rest)) := by
  subst hz
  have h1 := hP.2.2.2 _ _ ha.cell
  rw [show fc x S k i = _ from hf _] at h1
  have hc := f_clamp hj (f_len hP.1 (hf (mA S k i)))
  obtain ⟨r', hr', cellV, g1, g2, g3, -⟩ := hP.2.2.2 _ _ hv.at.cell
  have hcls := (cx.2.1 2 _ rfl).2
  obtain ⟨kA, comp, k1, k2, k3, -⟩ := (cx.2.2 6 _ rfl).2
  have hcomp : comp = (xd x).1 2 := Option.some.inj (k3.symm.trans hcls.1)
  subst hcomp
  obtain ⟨kC, hkC, -⟩ := hcls.2
  refine W.aast cx.1.1 cx.1.2.1 h1 (fun q h => by cases h) (fun h => by cases h) k1 k2 rfl hkC ⟨fun q => hc.1 (Or.inl q), by show _ < (arrV _ _ _).slots.size; rw [arrV_size, hc.2]; exact hj⟩ g1 (fun q h => by rw [g3] at h; cases h) (by rw [g2]; exact hkC) (by rw [g2]; exact va_assign hcls) rfl rfl hdg fun H1 e z oq => ?_
  refine kk H1 _ (hP.set ha fc_sA rfl ?_ z oq) (hS0.put z oq (ha.lo hP.1))
  rw [show fc x (sA S k i j (some v)) k i = .inl (xg x 6, n, qa (va_up (mA S k i) j (some v))) by show fcr x k i _ _ _ (mA (sA S k i j (some v)) k i) _ = _; rw [mA_row]; exact hf _]
  show H1[a]? = some (vp_cell _ _)
  rw [e, vp_cell_q, vp_cell_q, arrV_store, hc.2]
  congr 2
  funext q
  by_cases hq : q = j <;> simp [updV, va_up, va_rf, hq]
theorem f_aastN (cx : fX own cc nL p c s m args x) (hP : fP x S H) (hS0 : fS x H0 H locs) (ha : fat x S a k i) {n : Nat} (hf : ∀ A, fcr x k i (mI S k i) (mJ S k i) (mB S k i) A (mU S k i) = .inl (xg x 6, n, qa A)) {z : Int32} {j : Nat} (hz : z = nI j) (hj : j < n) (hdg : decode cc pc = .ok (.aastore, 1))
    (kk : ∀ (H1 : Heap) (locs1 : List Loc), fP x (sA S k i j none) H1 → fS x H0 H1 locs1 → W p l e R s m args below meth c H1 locs1 cells slots Q (F0 m (pc + 1) ls rest)) : W p l e R s m args below meth c H locs cells slots Q (F0 m pc ls (.null :: .int z :: .ref a :: rest)) := by
  subst hz
  have h1 := hP.2.2.2 _ _ ha.cell
  rw [show fc x S k i = _ from hf _] at h1
  have hc := f_clamp hj (f_len hP.1 (hf (mA S k i)))
  refine va_WaastN (C := rn_L) cx.1.1 cx.1.2.1 h1 ((cx.2.2 6 _ rfl).1 n (fun j => va_rf (mA S k i j))) (fun h => by cases h) (by show ¬ (nI j < 0 ∨ (arrV _ _ _).slots.size ≤ _); rw [arrV_size]; exact hc.1) rfl rfl hdg fun H1 e z oq => ?_
  refine kk H1 _ (hP.set ha fc_sA rfl ?_ z oq) (hS0.put z oq (ha.lo hP.1))
  rw [show fc x (sA S k i j none) k i = .inl (xg x 6, n, qa (va_up (mA S k i) j none)) by show fcr x k i _ _ _ (mA (sA S k i j none) k i) _ = _; rw [mA_row]; exact hf _]
  show H1[a]? = some (vp_cell _ _)
  rw [e, vp_cell_q, vp_cell_q, arrV_store, hc.2]
  congr 2
  funext q
  by_cases hq : q = j <;> simp [updV, va_up, va_rf, hq]
theorem f_aastO (cx : fX own cc nL p c s m args x) (hP : fP x S H) (hS0 : fS x H0 H locs) (ha : fat x S a k i) {n : Nat} {v : Option Nat} (hv : ∀ b, v = some b → fvL x S b) (hf : ∀ A, fcr x k i (mI S k i) (mJ S k i) (mB S k i) A (mU S k i) = .inl (xg x 6, n, qa A)) {z : Int32} {j : Nat} (hz : z = nI j) (hj : j < n) (hdg : decode cc pc = .ok (.aastore, 1))
    (kk : ∀ (H1 : Heap) (locs1 : List Loc), fP x (sA S k i j v) H1 → fS x H0 H1 locs1 → W p l e R s m args below meth c H1 locs1 cells slots Q (F0 m (pc + 1) ls rest)) : W p l e R s m args below meth c H locs cells slots Q (F0 m pc ls (va_rf v :: .int z :: .ref a :: rest)) := by
  cases v with
  | none => exact f_aastN cx hP hS0 ha hf hz hj hdg kk
  | some b => exact f_aast cx hP hS0 ha (hv b rfl) hf hz hj hdg kk
-- names for the top of the stack
theorem f_eqS {T T' : fm} (h : fP x T H) (e : T = T') : fP x T' H := e ▸ h
theorem f_topi {z w : Int32} (h : z = w) (kk : W p l e R s m args below meth c H locs cells slots Q (F0 m pc ls (.int w :: rest))) : W p l e R s m args below meth c H locs cells slots Q (F0 m pc ls (.int z :: rest)) := by
  subst h; exact kk
theorem f_topl {z w : Int64} (h : z = w) (kk : W p l e R s m args below meth c H locs cells slots Q (F0 m pc ls (.long w :: rest))) : W p l e R s m args below meth c H locs cells slots Q (F0 m pc ls (.long z :: rest)) := by
  subst h; exact kk
theorem f_st {z w : List Value} (h : z = w) (kk : W p l e R s m args below meth c H locs cells slots Q (F0 m pc ls w)) : W p l e R s m args below meth c H locs cells slots Q (F0 m pc ls z) := by
  subst h; exact kk
theorem f_inc1 (a : Nat) : nI a + Int32.ofInt 1 = nI (a + 1) := nI_1 a
theorem f_pred {n : Nat} (h : 0 < n) : nI n - 1 = nI (n - 1) := by
  obtain ⟨k, rfl⟩ : ∃ k, n = k + 1 := ⟨n - 1, by omega⟩
  rw [nI_pred]; rfl
theorem f_dec1 (a : Nat) : nI (a + 1) + Int32.ofInt (-1) = nI a := pk_m1 a
-- branches on a boolean
theorem f_eqB (cx : fX own cc nL p c s m args x) {b : Bool} {off : Int} {tgt : Nat} (hdg : decode cc pc = .ok (.ifCond .eq off, 3)) (ht : (pc : Int) + off = (tgt : Int))
    (kt : b = false → W p l e R s m args below meth c H locs cells slots Q (F0 m tgt ls rest)) (kf : b = true → W p l e R s m args below meth c H locs cells slots Q (F0 m (pc + 3) ls rest)) : W p l e R s m args below meth c H locs cells slots Q (F0 m pc ls (.int (b2 b) :: rest)) :=
  lv_if_eq cx.1.1 cx.1.2.1 hdg ht (fun h => kt ((b2_0 b).mp h)) (fun h => kf (by cases b with | true => rfl | false => exact absurd rfl h))
theorem f_neB (cx : fX own cc nL p c s m args x) {b : Bool} {off : Int} {tgt : Nat} (hdg : decode cc pc = .ok (.ifCond .ne off, 3)) (ht : (pc : Int) + off = (tgt : Int))
    (kt : b = true → W p l e R s m args below meth c H locs cells slots Q (F0 m tgt ls rest)) (kf : b = false → W p l e R s m args below meth c H locs cells slots Q (F0 m (pc + 3) ls rest)) : W p l e R s m args below meth c H locs cells slots Q (F0 m pc ls (.int (b2 b) :: rest)) :=
  lv_if_ne cx.1.1 cx.1.2.1 hdg ht (fun h => kt (by cases b with | true => rfl | false => exact absurd rfl h)) (fun h => kf ((b2_0 b).mp h))
-- calls
theorem f_preS {av : List Value} (hP : fP x S H) (hK : va_K (xd x) cls_all (xt x) s) : PreS s H (fPc x S av) av :=
  ⟨fun a U g mk q => ⟨q.1, q.2.1, va_K.moved (u := U) (U := U.calling g mk a) (Vm.Alike.refl U.vm) q.2.2⟩, fun U hU hW => ⟨rfl, by rw [hU]; exact hP, va_K.moved hW.alike hK⟩⟩
theorem f_preV {As : List Value} {ci : Nat} {q : vw_C} {fs : List Value} (hP : fP x S H) (hK : va_K (xd x) cls_all (xt x) s) (ha : fat x S a k i) (hf : fc x S k i = .inr (ci, fs)) (hc : cls_all[ci]? = some q) : PreV s H q.1 a (fPc x S (.ref a :: As)) As := by
  have h1 := hP.one ha
  rw [hf] at h1
  exact ⟨(f_preS (av := .ref a :: As) hP hK).1, va_recv (q0 := 0) hK h1 hc rfl, (f_preS (av := .ref a :: As) hP hK).2⟩
theorem f_runV {y : MethodName} {bytes : ByteArray} {maxL mc ms n index ci : Nat} {ret : Option FieldType} {rm : Room} {Qc : Array Value → State → Outcome → State → Prop} {free : Addr → Prop} {As : List Value} {q : vw_C} {fs : List Value} {lv : List (Nat × Value)} (w1 : Cond.code y bytes maxL ret ∈ gw_tbl) (w2 : Cond.methodLink own index y ∈ gw_tbl) (w3 : Cond.instanceMethod y ∈ gw_tbl) (w4 : Cond.selects q.1 y y ∈ gw_tbl) (w5 : Cond.initialized y.cls ∈ gw_tbl) (hd : y.cls ≠ "java/lang/invoke/MethodHandle" ∧ y.cls ≠ "java/lang/invoke/VarHandle" ∧ (parseMethodDescriptor y.desc).map (fun d => d.parameters.length) = some n) (hn : As.length = n) (hc : cls_all[ci]? = some q)
    (cx : fX own cc nL p c s m args x) (hl : lv_has ls nL lv) (hP : fP x S H) (ha : fat x S a k i) (hf : fc x S k i = .inr (ci, fs)) (hM : Met l y (gw_ws y bytes maxL ret) rm (fPc x S (.ref a :: As)) Qc mc ms free) (hrc : rm.cells = mc) (hrs : rm.slots = ms) (hR : rm.frames + 1 ≤ R.frames ∧ 8 + (maxL + 11) + rm.locals ≤ R.locals) (hcs : cells + mc ≤ R.cells ∧ slots + ms ≤ R.slots) (hst : (rest.map fun v => v.category).sum ≤ 8) (hdg : decode cc pc = .ok (.invokevirtual index, 3)) :
    va_Run p l e R s m args below meth c H locs cells slots mc ms (F0 m pc ls (As.reverse ++ .ref a :: rest)) rest (Qc (Value.ref a :: As).toArray) free :=
  va_runV (C := q.1) cx.1 hM ⟨callB_of n cx.1.2.2.2.2 (gw_all w1) rfl hrc hrs (cx.1.2.2.2.2 _ w5) (cx.1.2.2.2.2 _ w2) hd hR, cx.1.2.2.2.2 _ w3, cx.1.2.2.2.2 _ w4⟩ (f_preV hP cx.2 ha hf hc) rfl hn hl.1 rfl (lv_room hst) hdg hcs
theorem f_runS {y : MethodName} {bytes : ByteArray} {maxL mc ms n index : Nat} {ret : Option FieldType} {rm : Room} {Qc : Array Value → State → Outcome → State → Prop} {free : Addr → Prop} {As : List Value} {lv : List (Nat × Value)} (w1 : Cond.code y bytes maxL ret ∈ gw_tbl) (w2 : Cond.methodLink own index y ∈ gw_tbl) (w3 : Cond.static y ∈ gw_tbl) (w5 : Cond.initialized y.cls ∈ gw_tbl) (hd : y.cls ≠ "java/lang/invoke/MethodHandle" ∧ y.cls ≠ "java/lang/invoke/VarHandle" ∧ (parseMethodDescriptor y.desc).map (fun d => d.parameters.length) = some n) (hn : As.length = n)
    (cx : fX own cc nL p c s m args x) (hl : lv_has ls nL lv) (hP : fP x S H) (hM : Met l y (gw_ws y bytes maxL ret) rm (fPc x S As) Qc mc ms free) (hrc : rm.cells = mc) (hrs : rm.slots = ms) (hR : rm.frames + 1 ≤ R.frames ∧ 8 + (maxL + 11) + rm.locals ≤ R.locals) (hcs : cells + mc ≤ R.cells ∧ slots + ms ≤ R.slots) (hst : (rest.map fun v => v.category).sum ≤ 8) (hdg : decode cc pc = .ok (.invokestatic index, 3)) :
    va_Run p l e R s m args below meth c H locs cells slots mc ms (F0 m pc ls (As.reverse ++ rest)) rest (Qc As.toArray) free :=
  va_runS cx.1 hM ⟨callB_of n cx.1.2.2.2.2 (gw_all w1) rfl hrc hrs (cx.1.2.2.2.2 _ w5) (cx.1.2.2.2.2 _ w2) hd hR, cx.1.2.2.2.2 _ w3⟩ (f_preS hP cx.2) rfl hn hl.1 rfl (lv_room hst) hdg hcs
theorem f_runI {y : MethodName} {bytes : ByteArray} {maxL mc ms n index : Nat} {rm : Room} {Qc : Array Value → State → Outcome → State → Prop} {free : Addr → Prop} {As : List Value} {lv : List (Nat × Value)} (w1 : Cond.code y bytes maxL none ∈ gw_tbl) (w2 : Cond.methodLink own index y ∈ gw_tbl) (w3 : Cond.instanceMethod y ∈ gw_tbl) (w5 : Cond.initialized y.cls ∈ gw_tbl) (hy : y.name = "<init>") (hd : y.cls ≠ "java/lang/invoke/MethodHandle" ∧ y.cls ≠ "java/lang/invoke/VarHandle" ∧ (parseMethodDescriptor y.desc).map (fun d => d.parameters.length) = some n) (hn : As.length = n)
    (cx : fX own cc nL p c s m args x) (hl : lv_has ls nL lv) (hP : fP x S H) (hM : Met l y (gw_ws y bytes maxL none) rm (fPc x S (.ref a :: As)) Qc mc ms free) (hrc : rm.cells = mc) (hrs : rm.slots = ms) (hR : rm.frames + 1 ≤ R.frames ∧ 8 + (maxL + 11) + rm.locals ≤ R.locals) (hcs : cells + mc ≤ R.cells ∧ slots + ms ≤ R.slots) (hst : (rest.map fun v => v.category).sum ≤ 8) (hdg : decode cc pc = .ok (.invokespecial index, 3)) :
    va_Run p l e R s m args below meth c H locs cells slots mc ms (F0 m pc ls (As.reverse ++ .ref a :: rest)) rest (Qc (Value.ref a :: As).toArray) free :=
  va_runI cx.1 hM ⟨callB_of n cx.1.2.2.2.2 (gw_all w1) rfl hrc hrs (cx.1.2.2.2.2 _ w5) (cx.1.2.2.2.2 _ w2) hd hR, hy, cx.1.2.2.2.2 _ w3⟩ (f_preS hP cx.2) rfl hn hl.1 rfl (lv_room hst) hdg hcs
theorem f_calli {S' : fm} {r : Int32} {st0 : List Value} {av : Array Value} {mc ms : Nat} (hr : va_Run p l e R s m args below meth c H locs cells slots mc ms (F0 m pc ls st0) rest (fQi x S' r av) (fun q => xs x ≤ q)) (hS : fS x H0 H locs)
    (kk : ∀ (H1 : Heap) (locs1 : List Loc), fP x S' H1 → fS x H0 H1 locs1 → W p l e R s m args below meth c H1 locs1 (cells + mc) (slots + ms) Q (F0 m (pc + 3) ls (.int r :: rest))) : W p l e R s m args below meth c H locs cells slots Q (F0 m pc ls st0) :=
  va_calli hr hS (fun _ _ h => h) (fun _ h => h) (fun v _ t H1 locs1 ht _ hp hB _ _ hS' => by subst hp; exact kk H1 locs1 (by rw [← ht]; exact hB) hS')
theorem f_calll {S' : fm} {r : Int64} {st0 : List Value} {av : Array Value} {mc ms : Nat} (hr : va_Run p l e R s m args below meth c H locs cells slots mc ms (F0 m pc ls st0) rest (fQl x S' r av) (fun q => xs x ≤ q)) (hS : fS x H0 H locs)
    (kk : ∀ (H1 : Heap) (locs1 : List Loc), fP x S' H1 → fS x H0 H1 locs1 → W p l e R s m args below meth c H1 locs1 (cells + mc) (slots + ms) Q (F0 m (pc + 3) ls (.long r :: rest))) : W p l e R s m args below meth c H locs cells slots Q (F0 m pc ls st0) :=
  va_calll hr hS (fun _ _ h => h) (fun _ h => h) (fun v _ t H1 locs1 ht _ hp hB _ _ hS' => by subst hp; exact kk H1 locs1 (by rw [← ht]; exact hB) hS')
theorem f_callv {S' : fm} {st0 : List Value} {av : Array Value} {mc ms : Nat} (hr : va_Run p l e R s m args below meth c H locs cells slots mc ms (F0 m pc ls st0) rest (fQv x S' av) (fun q => xs x ≤ q)) (hS : fS x H0 H locs)
    (kk : ∀ (H1 : Heap) (locs1 : List Loc), fP x S' H1 → fS x H0 H1 locs1 → W p l e R s m args below meth c H1 locs1 (cells + mc) (slots + ms) Q (F0 m (pc + 3) ls rest)) : W p l e R s m args below meth c H locs cells slots Q (F0 m pc ls st0) :=
  va_callv hr hS (fun _ _ h => h) (fun _ h => h) (fun _ t H1 locs1 ht _ _ hB _ _ hS' => kk H1 locs1 (by rw [← ht]; exact hB) hS')
theorem f_callq {S' : fm} {r : Option Nat} {st0 : List Value} {av : Array Value} {mc ms : Nat} (hr : va_Run p l e R s m args below meth c H locs cells slots mc ms (F0 m pc ls st0) rest (fQq x S' r av) (fun q => xs x ≤ q)) (hS : fS x H0 H locs)
    (kk : ∀ (H1 : Heap) (locs1 : List Loc), fP x S' H1 → fS x H0 H1 locs1 → W p l e R s m args below meth c H1 locs1 (cells + mc) (slots + ms) Q (F0 m (pc + 3) ls (va_rf r :: rest))) : W p l e R s m args below meth c H locs cells slots Q (F0 m pc ls st0) :=
  va_callq hr hS (fun _ _ h => h) (fun _ h => h) (fun v _ t H1 locs1 ht _ hp hB _ _ hS' => by subst hp; exact kk H1 locs1 (by rw [← ht]; exact hB) hS')
-- returns
theorem f_iret {S1 S' : fm} {v r : Int32} (cx : fX own cc nL p c s m args x) (hr : meth.sig.returnType = some .int) (hlocks : meth.locks = false) (hP : fP x S1 H) (hS : fS x s.heap H locs) (h1 : v = r) (h2 : S1 = S') (hdg : decode cc pc = .ok (.ireturn, 1)) :
    W p l e R s m args below meth c H locs cells slots (MQ below (fQi x S' r) args s cells slots (fun q => xs x ≤ q)) (F0 m pc ls [.int v]) := by
  subst h1; subst h2
  exact W.iret cx.1.1 cx.1.2.1 hr (fun t ht hW => ⟨⟨_, (), rfl, rfl, by show fP x _ t.heap; rw [ht]; exact hP⟩, hS.F ht⟩) hS.2.2 hdg
theorem f_zret {S1 S' : fm} {v : Int32} {r : Bool} (cx : fX own cc nL p c s m args x) (hr : meth.sig.returnType = some .boolean) (hlocks : meth.locks = false) (hP : fP x S1 H) (hS : fS x s.heap H locs) (h1 : v = b2 r) (h2 : S1 = S') (hdg : decode cc pc = .ok (.ireturn, 1)) :
    W p l e R s m args below meth c H locs cells slots (MQ below (fQi x S' (b2 r)) args s cells slots (fun q => xs x ≤ q)) (F0 m pc ls [.int v]) := by
  subst h1; subst h2
  exact W.zret cx.1.1 cx.1.2.1 hr (b2_nar r) (fun t ht hW => ⟨⟨_, (), rfl, rfl, by show fP x _ t.heap; rw [ht]; exact hP⟩, hS.F ht⟩) hS.2.2 hdg
theorem f_lret {S1 S' : fm} {v r : Int64} (cx : fX own cc nL p c s m args x) (hr : meth.sig.returnType = some .long) (hlocks : meth.locks = false) (hP : fP x S1 H) (hS : fS x s.heap H locs) (h1 : v = r) (h2 : S1 = S') (hdg : decode cc pc = .ok (.lreturn, 1)) :
    W p l e R s m args below meth c H locs cells slots (MQ below (fQl x S' r) args s cells slots (fun q => xs x ≤ q)) (F0 m pc ls [.long v]) := by
  subst h1; subst h2
  exact W.lret cx.1.1 cx.1.2.1 hr (fun t ht hW => ⟨⟨_, (), rfl, rfl, by show fP x _ t.heap; rw [ht]; exact hP⟩, hS.F ht⟩) hS.2.2 hdg
theorem f_vret {S1 S' : fm} (cx : fX own cc nL p c s m args x) (hr : meth.sig.returnType = none) (hlocks : meth.locks = false) (hP : fP x S1 H) (hS : fS x s.heap H locs) (h2 : S1 = S') (hdg : decode cc pc = .ok (.return_, 1)) :
    W p l e R s m args below meth c H locs cells slots (MQ below (fQv x S') args s cells slots (fun q => xs x ≤ q)) (F0 m pc ls []) := by
  subst h2
  exact W.vret cx.1.1 cx.1.2.1 hr (fun t ht hW => ⟨⟨(), rfl, trivial, by show fP x _ t.heap; rw [ht]; exact hP⟩, hS.F ht⟩) hS.2.2 hdg
theorem f_qret {S1 S' : fm} {v : Value} {r : Option Nat} {C : String} (cx : fX own cc nL p c s m args x) (hr : meth.sig.returnType = some (.object C)) (hlocks : meth.locks = false) (hP : fP x S1 H) (hS : fS x s.heap H locs) (h1 : v = va_rf r) (h2 : S1 = S') (hdg : decode cc pc = .ok (.areturn, 1)) :
    W p l e R s m args below meth c H locs cells slots (MQ below (fQq x S' r) args s cells slots (fun q => xs x ≤ q)) (F0 m pc ls [v]) := by
  subst h1; subst h2
  exact W.aret cx.1.1 cx.1.2.1 hr (Or.inl ⟨C, rfl⟩) (by cases r with | none => exact Or.inl rfl | some b => exact Or.inr ⟨b, rfl⟩) (fun t ht hW => ⟨⟨_, (), rfl, rfl, by show fP x _ t.heap; rw [ht]; exact hP⟩, hS.F ht⟩) hS.2.2 hdg
end FR
