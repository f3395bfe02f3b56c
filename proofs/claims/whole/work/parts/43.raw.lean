abbrev nq_R : Cond := .methodLinkNest rn_X 178 mn_R_init rn_X
-- worlds of which nothing is known but cells: for what is being made
def gP (D : va_G) (b n : Nat) (w : Nat → Option va_E) (H : Heap) : Prop := H.size = n ∧ b ≤ n ∧ ∀ a e, w a = some e → b ≤ a ∧ va_at D cls_all (a, e) H
abbrev gt (g : Nat → ClassId) : List (ClassId × FieldType) := [(g 0, .int), (g 1, .long), (g 2, .boolean), (g 3, .object rn_C), (g 4, .object rn_S), (g 5, .object rn_R), (g 6, .object rn_L)]
def gE (U : State) : Prop := va_AO rn_C U ∧ va_AO rn_S U ∧ va_AO rn_R U ∧ va_AO rn_L U ∧ va_Nw nq_R U
theorem gE.warm {s U : State} (hW : s.WarmedH U.vm) (h : gE s) : gE U := ⟨h.1.moved hW.alike, h.2.1.moved hW.alike, h.2.2.1.moved hW.alike, h.2.2.2.1.moved hW.alike, va_Nw.warmM hW h.2.2.2.2⟩
theorem gE.same {u U : State} (hv : u.vm = U.vm) (h : gE u) : gE U := by
  have ha : u.vm.Alike U.vm := by rw [hv]; exact Vm.Alike.refl _
  exact ⟨h.1.moved ha, h.2.1.moved ha, h.2.2.1.moved ha, h.2.2.2.1.moved ha, va_Nw.same rfl hv h.2.2.2.2⟩
def gX (own : String) (cc : ByteArray) (nL : Nat) (p : Program) (c : Code) (s : State) (m : MethodId) (args : Array Value) (D : va_G) (g : Nat → ClassId) : Prop := CallFix p m c cc nL s args gw_tbl own ∧ va_K D cls_all (gt g) s ∧ gE s
abbrev gPc (D : va_G) (g : Nat → ClassId) (b n : Nat) (w : Nat → Option va_E) (av : List Value) : Array Value → State → Prop := va_Pc av (fun U => gP D b n w U.heap ∧ va_K D cls_all (gt g) U ∧ gE U)
abbrev gS (b : Nat) (H0 H : Heap) (locs : List Loc) : Prop := va_S (fun q => b ≤ q) H0 H locs
abbrev gQv (D : va_G) (b n : Nat) (post : (Nat → Option va_E) → Prop) : Array Value → State → Outcome → State → Prop := va_Qv post (fun w t => gP D b n w t.heap) (fun q => b ≤ q)
abbrev gQi (D : va_G) (b n : Nat) (w : Nat → Option va_E) (r : Int32) : Array Value → State → Outcome → State → Prop := va_Qi (fun (v : Int32) (_ : Unit) => v = r) (fun _ t => gP D b n w t.heap) (fun q => b ≤ q)
abbrev gQq (D : va_G) (b n : Nat) (a : Nat) (post : (Nat → Option va_E) → Prop) : Array Value → State → Outcome → State → Prop := va_Qq (fun r w => r = some a ∧ post w) (fun w t => gP D b n w t.heap) (fun q => b ≤ q)
theorem vu_s {α : Type} (f : Nat → α) (k : Nat) (v : α) : va_up f k v k = v := if_pos rfl
theorem vu_n {α : Type} (f : Nat → α) {k j : Nat} (v : α) (h : j ≠ k) : va_up f k v j = f j := if_neg h
theorem gP.one {D : va_G} {b n a : Nat} {w : Nat → Option va_E} {H : Heap} {e : va_E} (h : gP D b n w H) (ha : w a = some e) : va_P D cls_all [(a, e)] H := by
  intro k q hk
  have hz : k < 1 := (List.getElem?_eq_some_iff.mp hk).1
  rw [show k = 0 by omega] at hk
  cases hk
  exact (h.2.2 a e ha).2
theorem gP.lt {D : va_G} {b n a : Nat} {w : Nat → Option va_E} {H : Heap} {e : va_E} (h : gP D b n w H) (ha : w a = some e) : a < n := by
  have h1 : a < H.size := ((h.2.2 a e ha).2).lt
  have := h.1
  omega
theorem gP.set {D : va_G} {b n a : Nat} {w : Nat → Option va_E} {H H1 : Heap} {e0 e : va_E} (h : gP D b n w H) (ha : w a = some e0) (hn : va_at D cls_all (a, e) H1) (z : H1.size = H.size) (oq : ∀ q : Nat, q ≠ a → H1[q]? = H[q]?) : gP D b n (va_up w a (some e)) H1 := by
  refine ⟨by rw [z]; exact h.1, h.2.1, fun q e2 hq => ?_⟩
  by_cases hqa : q = a
  · subst hqa
    rw [vu_s] at hq
    cases hq
    exact ⟨(h.2.2 _ _ ha).1, hn⟩
  · rw [vu_n _ _ hqa] at hq
    exact ⟨(h.2.2 _ _ hq).1, (h.2.2 _ _ hq).2.kept (oq q hqa)⟩
theorem gP.push {D : va_G} {b n : Nat} {w : Nat → Option va_E} {H H1 : Heap} {e : va_E} (h : gP D b n w H) (hn : va_at D cls_all (n, e) H1) (z : H1.size = n + 1) (o1 : ∀ q : Nat, q < n → H1[q]? = H[q]?) : gP D b (n + 1) (va_up w n (some e)) H1 := by
  refine ⟨z, by have := h.2.1; omega, fun q e2 hq => ?_⟩
  by_cases hqa : q = n
  · subst hqa
    rw [vu_s] at hq
    cases hq
    exact ⟨h.2.1, hn⟩
  · rw [vu_n _ _ hqa] at hq
    exact ⟨(h.2.2 _ _ hq).1, (h.2.2 _ _ hq).2.kept (o1 q (h.lt hq))⟩
section GR
variable {p : Program} {l : Launch} {e : Env} {R : Room} {s : State} {m : MethodId} {args : Array Value} {below : List Frame} {meth : Method} {c : Code} {H : Heap} {locs : List Loc} {cells slots : Nat} {Q : State → Prop}
variable {cc : ByteArray} {pc : Nat} {ls : Array Slot} {rest : List Value} {own : String} {nL : Nat} {D : va_G} {g : Nat → ClassId} {b n a : Nat} {w : Nat → Option va_E} {H0 : Heap}
theorem g_met {y : MethodName} {bytes : ByteArray} {maxL : Nat} {ret : Option FieldType} {rm : Room} {av : List Value} {Qc : Array Value → State → Outcome → State → Prop} {mc ms : Nat} {free : Addr → Prop} (hy : plainName y.cls = true) (hlen : (lg_sl av).length ≤ maxL)
    (body : ∀ (p : Program) (e : Env) (s : State) (m : MethodId) (below : List Frame) (meth : Method) (c : Code), gX y.cls bytes maxL p c s m av.toArray D g → meth.sig.returnType = ret → meth.locks = false → meth.name = y.name → gP D b n w s.heap → gS b s.heap s.heap [] → ∀ ls : Array Slot, lv_has ls maxL (lv_args 0 av) →
      W p l e rm s m av.toArray below meth c s.heap [] 0 0 (MQ below Qc av.toArray s mc ms free) (F0 m 0 ls [])) : Met l y (gw_ws y bytes maxL ret) rm (gPc D g b n w av) Qc mc ms free := by
  refine Met.ofW (cc := bytes) (maxL := maxL) (ret := ret) hy rfl ?_
  intro p e s m args below meth c s₁ B hml hv
  obtain ⟨rfl, hP, hK, hE⟩ := hv
  rw [lg_entry_eq]
  exact body p e s m below meth c ⟨⟨B.exec, B.bytes, hml, findClass_of_methodNamed B.named, fun w h => atoms_spec (ws := gw_ws y bytes maxL ret) B.pre w (List.mem_cons_of_mem _ h)⟩, hK, hE⟩ B.returns B.notSynchronized (name_of_methodNamed B.named B.method).1 hP va_S.rf _ (lv_entry av hlen)
theorem g_get (cx : gX own cc nL p c s m args D g) (hP : gP D b n w H) {C ref : String} {T : u_T} {N ci index : Nat} {fs : List Value} (ha : w a = some (.inr (ci, fs))) (hc : cls_all[ci]? = some (C, T, N)) (hin : ∀ w ∈ u_ws C T N, w ∈ gw_tbl) (q : Nat) (hq : q < N) (hlink : Cond.fieldLink own index ref (T q).2.1 (T q).2.2.1 ∈ gw_tbl) (hsame : ∀ z, s.fieldFound? (T q).1 (T q).2.1 (T q).2.2.1 = some z → s.fieldFound? ref (T q).2.1 (T q).2.2.1 = some z) {v : Value} (hv : fs[q]? = some v) (hdg : decode cc pc = .ok (.getfield index, 3))
    (kk : W p l e R s m args below meth c H locs cells slots Q (F0 m (pc + 3) ls (v :: rest))) : W p l e R s m args below meth c H locs cells slots Q (F0 m pc ls (.ref a :: rest)) :=
  va_get cx.1.1 cx.1.2.1 cx.1.2.2.2.2 hin cx.1.2.2.2.1 cx.2.1 (hP.one ha) 0 rfl hc q hq (cx.1.2.2.2.2 _ hlink) hsame hv hdg kk
theorem g_put (cx : gX own cc nL p c s m args D g) (hin2 : meth.name = "<init>") (hP : gP D b n w H) (hS0 : gS b H0 H locs) {C ref : String} {T : u_T} {N ci index : Nat} {fs : List Value} (ha : w a = some (.inr (ci, fs))) (hc : cls_all[ci]? = some (C, T, N)) (hin : ∀ w ∈ u_ws C T N, w ∈ gw_tbl) (ty0 : Nat → FieldType) (hty : ∀ k, k < N → parseFieldDescriptor (T k).2.2.1 = some (ty0 k)) (hnm : ∀ a, a < N → ∀ b, b < N → a ≠ b → (T a).2.1 ≠ (T b).2.1) (q : Nat) (hq : q < N) (hlink : Cond.fieldLink own index ref (T q).2.1 (T q).2.2.1 ∈ gw_tbl) (hsame : ∀ z, s.fieldFound? (T q).1 (T q).2.1 (T q).2.2.1 = some z → s.fieldFound? ref (T q).2.1 (T q).2.2.1 = some z) (hdecl : (T q).1 = own) {ty : FieldType} {v : Value} (hd : parseFieldDescriptor (T q).2.2.1 = some ty) (hn : narrow ty v = v) (hfit : fits ty v = true) (hl : q < fs.length) (hdg : decode cc pc = .ok (.putfield index, 3))
    (kk : ∀ (H1 : Heap) (locs1 : List Loc), gP D b n (va_up w a (some (.inr (ci, fs.set q v)))) H1 → gS b H0 H1 locs1 → W p l e R s m args below meth c H1 locs1 cells slots Q (F0 m (pc + 3) ls rest)) : W p l e R s m args below meth c H locs cells slots Q (F0 m pc ls (v :: .ref a :: rest)) := by
  obtain ⟨⟨hexec, hb, -, hown, hts⟩, hK, -⟩ := cx
  have hap := va_apart (own := own) hts hin ty0 hty hnm hK hc
  obtain ⟨r, h1, cell, q1, q2, q3, q4⟩ := (hP.2.2 _ _ ha).2
  have hr : r = (C, T, N) := Option.some.inj (h1.symm.trans hc)
  subst hr
  obtain ⟨hS, hfc, kC, hkC, hkind⟩ := hK.1 ci _ hc
  obtain ⟨cf, kf, fi, f, hi, hsl⟩ := hS q hq
  have hlay := hts _ (hin _ (u_in_lay hq))
  unfold u_lay at hlay
  have hst := (u_facts hfc hkC (u_lays hts hin hq) hi).1
  by_cases hfin : (T q).2.2.2 = true
  · rw [if_pos hfin] at hlay
    have hcf : m.cls = cf := by
      obtain ⟨_, _, c', _, _, _, -, -, hf', -, -, -, hown2, -⟩ := Cond.laysFinal_spec hlay
      have e1 : c' = cf := by have := hi.symm.trans hf'; simp at this; exact this.1.symm
      rw [hdecl] at hown2
      rw [← e1]; exact Option.some.inj (hown.symm.trans hown2)
    have h6 := u_fits hfc hkC hkind (Or.inr hlay) hi hd hn hfit
    refine W.putFinK hexec hb hown (hts _ hlink) (hsame _ hi) hst hcf hin2 (by rw [q2]; exact h6) q1 q3 (by rw [hsl]; exact k2_hasslot (q4 q hq)) rfl rfl hdg fun H' e1 e2 e3 => ?_
    rw [hsl] at e1 ⊢
    refine kk H' _ (hP.set ha ?_ e2 e3) (hS0.put e2 e3 (hP.2.2 _ _ ha).1)
    exact ⟨_, hc, t_OB.to (V := updV (vp_V fs) q v) ⟨_, e1, q2, q3, t_set q4 hap hq v⟩ (fun j _ => vp_updV_set hl v j)⟩
  · rw [if_neg hfin] at hlay
    have h6 := u_store hfc hkC hkind hlay hi hd hn hfit
    refine W.putK hexec hb (f := f) ⟨hown, hts _ hlink, ⟨_, _, _, hsame _ hi⟩, hst⟩ (by rw [q2]; exact h6) q1 q3 (by rw [hsl]; exact k2_hasslot (q4 q hq)) rfl rfl hdg fun H' e1 e2 e3 => ?_
    rw [hsl] at e1 ⊢
    refine kk H' _ (hP.set ha ?_ e2 e3) (hS0.put e2 e3 (hP.2.2 _ _ ha).1)
    exact ⟨_, hc, t_OB.to (V := updV (vp_V fs) q v) ⟨_, e1, q2, q3, t_set q4 hap hq v⟩ (fun j _ => vp_updV_set hl v j)⟩
theorem gS.grow {H1 : Heap} (hP : gP D b n w H) (hS : gS b H0 H locs) (z : H1.size = n + 1) (o1 : ∀ q : Nat, q < n → H1[q]? = H[q]?) : gS b H0 H1 locs := by
  have h1 := hP.1
  refine ⟨Nat.le_trans hS.1 (by omega), fun q h2 h3 => (o1 q (by have := hS.1; omega)).trans (hS.2.1 q h2 h3), hS.2.2⟩
theorem g_new {C : String} {T : u_T} {N ci index : Nat} {fs : List Value} (cx : gX own cc nL p c s m args D g) (hP : gP D b n w H) (hS : gS b H0 H locs) (hcl : Cond.classLink own index C ∈ gw_tbl) (hins : Cond.instantiable C N ∈ gw_tbl) (hini : Cond.initialized C ∈ gw_tbl) (hc : cls_all[ci]? = some (C, T, N)) (hin : ∀ w ∈ u_ws C T N, w ∈ gw_tbl) (ty : Nat → FieldType) (hty : ∀ k, k < N → parseFieldDescriptor (T k).2.2.1 = some (ty k)) (hfs : ∀ j, j < N → defaultValue (ty j) = vp_V fs j) (hcells : cells + 1 ≤ R.cells) (hslots : slots + N ≤ R.slots) (hdg : decode cc pc = .ok (.new index, 3))
    (kk : ∀ H1 : Heap, gP D b (n + 1) (va_up w n (some (.inr (ci, fs)))) H1 → gS b H0 H1 locs → W p l e R s m args below meth c H1 locs (cells + 1) (slots + N) Q (F0 m (pc + 3) ls (.ref n :: rest))) : W p l e R s m args below meth c H locs cells slots Q (F0 m pc ls rest) := by
  have hts := cx.1.2.2.2.2
  have hKn := cx.2.1.1 ci _ hc
  refine W.newcK cx.1.1 cx.1.2.1 cx.1.2.2.2.1 (hts _ hcl) (hts _ hins) (hts _ hini) rfl hdg hcells hslots hKn.2.1 hP.1 fun H1 kC hkC e1 z1 o1 => ?_
  exact kk H1 (hP.push ⟨_, hc, (u_born ty hts hin hKn hkC e1 hty).to hfs⟩ z1 o1) (gS.grow hP hS z1 o1)
theorem g_newa (t0 : Nat) {atype : ArrayType} {ty : FieldType} {N' : Nat} {z : Int32} {a0 : vp_A} (cx : gX own cc nL p c s m args D g) (hP : gP D b n w H) (hS : gS b H0 H locs) (harr : Cond.arrayClass (newarray.typeOf atype) ∈ gw_tbl) (hty : newarray.typeOf atype = ty) (ht : (gt g)[t0]? = some (g t0, ty)) (hpr : va_RA s (g t0) ty → s.vm.findClass ("[" ++ ty.toString) = some (g t0)) (ha : ∀ cA : ClassId, vp_cell cA a0 = arrV cA N' (fun _ => defaultValue ty)) (hz : z = nI N') (hN : N' < 1000) (hbt : N' * componentBytes ty ≤ 536870912) (hcells : cells + 1 ≤ R.cells) (hslots : slots + N' ≤ R.slots) (hdg : decode cc pc = .ok (.newarray atype, 2))
    (kk : ∀ H1 : Heap, gP D b (n + 1) (va_up w n (some (.inl (g t0, a0)))) H1 → gS b H0 H1 locs → W p l e R s m args below meth c H1 locs (cells + 1) (slots + N') Q (F0 m (pc + 2) ls (.ref n :: rest))) : W p l e R s m args below meth c H locs cells slots Q (F0 m pc ls (.int z :: rest)) := by
  subst hz; subst hty
  refine va_newaK cx.1.1 cx.1.2.1 (cx.1.2.2.2.2 _ harr) rfl hdg rfl (nI_pos (by omega)) (nI_clamp (by omega)) hbt hcells hslots hP.1 fun H1 cA e1 z1 o1 hAr hNm => ?_
  have hcA : cA = g t0 := Option.some.inj (hNm.symm.trans (hpr (cx.2.1.2 t0 _ ht).2))
  subst hcA
  refine kk H1 (hP.push ?_ z1 o1) (gS.grow hP hS z1 o1)
  show H1[n]? = some (vp_cell _ _)
  rw [ha]
  exact e1
theorem g_newq (t0 : Nat) {C : String} {index N' : Nat} {z : Int32} (cx : gX own cc nL p c s m args D g) (hP : gP D b n w H) (hS : gS b H0 H locs) (hcl : Cond.classLink own index C ∈ gw_tbl) (hao : va_AO C s) (ht : (gt g)[t0]? = some (g t0, .object C)) (hz : z = nI N') (hN : N' < 1000) (hcells : cells + 1 ≤ R.cells) (hslots : slots + N' ≤ R.slots) (hdg : decode cc pc = .ok (.anewarray index, 3))
    (kk : ∀ H1 : Heap, gP D b (n + 1) (va_up w n (some (.inl (g t0, N', qa (fun _ => none))))) H1 → gS b H0 H1 locs → W p l e R s m args below meth c H1 locs (cells + 1) (slots + N') Q (F0 m (pc + 3) ls (.ref n :: rest))) : W p l e R s m args below meth c H locs cells slots Q (F0 m pc ls (.int z :: rest)) := by
  subst hz
  have hcl2 : (nI N').toNatClampNeg = N' := nI_clamp (by omega)
  refine W.anew cx.1.1 cx.1.2.1 cx.1.2.2.2.1 (cx.1.2.2.2.2 _ hcl) (va_AO.use hao) rfl hdg rfl (nI_pos (by omega)) (by rw [hcl2]; omega) hcells (by rw [hcl2]; exact hslots) fun cA kA comp f1 f2 f3 f4 => ?_
  rw [hcl2]
  obtain ⟨kA2, comp2, g1, g2, g3, g4⟩ := (cx.2.1.2 t0 _ ht).2
  have hcA : cA = g t0 := Option.some.inj (f1.symm.trans g4)
  subst hcA
  have hz0 := hP.1
  subst hz0
  have z1 : (H.push ({ cls := g t0, slots := Array.replicate N' .null, vm := .none } : Cell)).size = H.size + 1 := by rw [Array.size_push]
  have o1 : ∀ q : Nat, q < H.size → (H.push ({ cls := g t0, slots := Array.replicate N' .null, vm := .none } : Cell))[q]? = H[q]? := fun q hq => by rw [Array.getElem?_push, if_neg (Nat.ne_of_lt hq)]
  refine kk _ (hP.push ?_ z1 o1) (gS.grow hP hS z1 o1)
  show _ = some (vp_cell _ _)
  rw [vp_cell_q, Array.getElem?_push_size]
  exact congrArg some (arrV_new (g t0) N' .null)
theorem g_aast (t0 ci : Nat) {r : vw_C} {k v : Nat} {vs : List Value} {f : Nat → Option Nat} (cx : gX own cc nL p c s m args D g) (hP : gP D b n w H) (hS0 : gS b H0 H locs) (ha : w a = some (.inl (g t0, k, qa f))) (ht : (gt g)[t0]? = some (g t0, .object r.1)) (hv : w v = some (.inr (ci, vs))) (hc : cls_all[ci]? = some r) {z : Int32} {j : Nat} (hz : z = nI j) (hj : j < k) (hk : k < 1000) (hdg : decode cc pc = .ok (.aastore, 1))
    (kk : ∀ (H1 : Heap) (locs1 : List Loc), gP D b n (va_up w a (some (.inl (g t0, k, qa (va_up f j (some v)))))) H1 → gS b H0 H1 locs1 → W p l e R s m args below meth c H1 locs1 cells slots Q (F0 m (pc + 1) ls rest)) : W p l e R s m args below meth c H locs cells slots Q (F0 m pc ls (.ref v :: .int z :: .ref a :: rest)) := by
  subst hz
  have hcl : vp_in (nI j) k ∧ (nI j).toNatClampNeg = j := f_clamp hj (by omega)
  have h1 := (hP.2.2 _ _ ha).2
  obtain ⟨r', hr', cellV, g1, g2, g3, -⟩ := (hP.2.2 _ _ hv).2
  have hcls := (cx.2.1.1 ci r hc).2
  obtain ⟨kA, comp, k1, k2, k3, -⟩ := (cx.2.1.2 t0 _ ht).2
  have hcomp : comp = D.1 ci := Option.some.inj (k3.symm.trans hcls.1)
  subst hcomp
  obtain ⟨kC, hkC, -⟩ := hcls.2
  refine W.aast cx.1.1 cx.1.2.1 h1 (fun q h => by cases h) (fun h => by cases h) k1 k2 rfl hkC ⟨fun q => hcl.1 (Or.inl q), by show _ < (arrV _ _ _).slots.size; rw [arrV_size, hcl.2]; exact hj⟩ g1 (fun q h => by rw [g3] at h; cases h) (by rw [g2]; exact hkC) (by rw [g2]; exact va_assign hcls) rfl rfl hdg fun H1 e z oq => ?_
  refine kk H1 _ (hP.set ha ?_ z oq) (hS0.put z oq (hP.2.2 _ _ ha).1)
  show H1[a]? = some (vp_cell _ _)
  rw [e, vp_cell_q, vp_cell_q, arrV_store, hcl.2]
  congr 2
  funext q
  by_cases hq : q = j <;> simp [updV, va_up, va_rf, hq]
theorem g_iast {k : Nat} {f : Nat → Int32} (cx : gX own cc nL p c s m args D g) (hP : gP D b n w H) (hS0 : gS b H0 H locs) (ha : w a = some (.inl (g 0, k, .inl f))) {z v : Int32} {j : Nat} (hz : z = nI j) (hj : j < k) (hk : k < 1000) (hdg : decode cc pc = .ok (.iastore, 1))
    (kk : ∀ (H1 : Heap) (locs1 : List Loc), gP D b n (va_up w a (some (.inl (g 0, k, .inl (va_up f j v))))) H1 → gS b H0 H1 locs1 → W p l e R s m args below meth c H1 locs1 cells slots Q (F0 m (pc + 1) ls rest)) : W p l e R s m args below meth c H locs cells slots Q (F0 m pc ls (.int v :: .int z :: .ref a :: rest)) := by
  subst hz
  have hcl : vp_in (nI j) k ∧ (nI j).toNatClampNeg = j := f_clamp hj (by omega)
  have h1 := (hP.2.2 _ _ ha).2
  refine W.iast cx.1.1 cx.1.2.1 h1 ((cx.2.1.2 0 _ rfl).1 k (fun j => .int (f j))) (fun q => by cases q) (by show ¬ (nI j < 0 ∨ (arrV _ _ _).slots.size ≤ _); rw [arrV_size]; exact hcl.1) rfl rfl hdg fun H1 e z oq => ?_
  refine kk H1 _ (hP.set ha ?_ z oq) (hS0.put z oq (hP.2.2 _ _ ha).1)
  show H1[a]? = some (vp_cell _ _)
  rw [e, vp_cell_i, vp_cell_i, arrV_store, hcl.2]
  congr 2
  funext q
  by_cases hq : q = j <;> simp [updV, va_up, hq]
theorem g_oi {idx : Nat} {lv : List (Nat × Value)} (w1 : Cond.methodLink own idx objectInit ∈ gw_tbl) (cx : gX own cc nL p c s m args D g) (hl : lv_has ls nL lv) (hfr : 1 ≤ R.frames) (hlo : (rest.map fun v => v.category).sum + 12 ≤ R.locals) (hdg : decode cc pc = .ok (.invokespecial idx, 3)) (kk : W p l e R s m args below meth c H locs cells slots Q (F0 m (pc + 3) ls rest)) : W p l e R s m args below meth c H locs cells slots Q (F0 m pc ls (.ref a :: rest)) :=
  W.objInit cx.1.1 cx.1.2.1 cx.1.2.2.2.1 (cx.1.2.2.2.2 _ w1) (cx.1.2.2.2.2 _ im_O_init) (cx.1.2.2.2.2 _ co_O_init) rfl (by rw [cx.1.2.2.1]; exact hl.1) rfl hdg hfr (by show 2 * 0 + _ + 12 ≤ _; omega) kk
theorem g_preS {av : List Value} (hP : gP D b n w H) (cx : gX own cc nL p c s m args D g) : PreS s H (gPc D g b n w av) av :=
  ⟨fun a U f mk q => ⟨q.1, q.2.1, va_K.moved (u := U) (U := U.calling f mk a) (Vm.Alike.refl U.vm) q.2.2.1, gE.same rfl q.2.2.2⟩, fun U hU hW => ⟨rfl, by rw [hU]; exact hP, va_K.moved hW.alike cx.2.1, cx.2.2.warm hW⟩⟩
theorem g_runI {y : MethodName} {bytes : ByteArray} {maxL mc ms k index : Nat} {rm : Room} {Qc : Array Value → State → Outcome → State → Prop} {free : Addr → Prop} {As : List Value} {lv : List (Nat × Value)} (w1 : Cond.code y bytes maxL none ∈ gw_tbl) (w2 : Cond.methodLink own index y ∈ gw_tbl) (w3 : Cond.instanceMethod y ∈ gw_tbl) (w5 : Cond.initialized y.cls ∈ gw_tbl) (hy : y.name = "<init>") (hd : y.cls ≠ "java/lang/invoke/MethodHandle" ∧ y.cls ≠ "java/lang/invoke/VarHandle" ∧ (parseMethodDescriptor y.desc).map (fun d => d.parameters.length) = some k) (hn : As.length = k)
    (cx : gX own cc nL p c s m args D g) (hl : lv_has ls nL lv) (hP : gP D b n w H) (hM : Met l y (gw_ws y bytes maxL none) rm (gPc D g b n w (.ref a :: As)) Qc mc ms free) (hrc : rm.cells = mc) (hrs : rm.slots = ms) (hR : rm.frames + 1 ≤ R.frames ∧ 8 + (maxL + 11) + rm.locals ≤ R.locals) (hcs : cells + mc ≤ R.cells ∧ slots + ms ≤ R.slots) (hst : (rest.map fun v => v.category).sum ≤ 8) (hdg : decode cc pc = .ok (.invokespecial index, 3)) :
    va_Run p l e R s m args below meth c H locs cells slots mc ms (F0 m pc ls (As.reverse ++ .ref a :: rest)) rest (Qc (Value.ref a :: As).toArray) free :=
  va_runI cx.1 hM ⟨callB_of k cx.1.2.2.2.2 (gw_all w1) rfl hrc hrs (cx.1.2.2.2.2 _ w5) (cx.1.2.2.2.2 _ w2) hd hR, hy, cx.1.2.2.2.2 _ w3⟩ (g_preS hP cx) rfl hn hl.1 rfl (lv_room hst) hdg hcs
theorem g_runIN {y : MethodName} {bytes : ByteArray} {maxL mc ms k index : Nat} {host : String} {rm : Room} {Qc : Array Value → State → Outcome → State → Prop} {free : Addr → Prop} {As : List Value} {lv : List (Nat × Value)} (w1 : Cond.code y bytes maxL none ∈ gw_tbl) (w3 : Cond.instanceMethod y ∈ gw_tbl) (w5 : Cond.initialized y.cls ∈ gw_tbl) (hy : y.name = "<init>") (hd : y.cls ≠ "java/lang/invoke/MethodHandle" ∧ y.cls ≠ "java/lang/invoke/VarHandle" ∧ (parseMethodDescriptor y.desc).map (fun d => d.parameters.length) = some k) (hn : As.length = k)
    (cx : gX own cc nL p c s m args D g) (w2 : va_Nw (.methodLinkNest own index y host) s) (hl : lv_has ls nL lv) (hP : gP D b n w H) (hM : Met l y (gw_ws y bytes maxL none) rm (gPc D g b n w (.ref a :: As)) Qc mc ms free) (hrc : rm.cells = mc) (hrs : rm.slots = ms) (hR : rm.frames + 1 ≤ R.frames ∧ 8 + (maxL + 11) + rm.locals ≤ R.locals) (hcs : cells + mc ≤ R.cells ∧ slots + ms ≤ R.slots) (hst : (rest.map fun v => v.category).sum ≤ 8) (hdg : decode cc pc = .ok (.invokespecial index, 3)) :
    va_Run p l e R s m args below meth c H locs cells slots mc ms (F0 m pc ls (As.reverse ++ .ref a :: rest)) rest (Qc (Value.ref a :: As).toArray) free :=
  va_runIN (Ts := gw_tbl) cx.1 hM ⟨va_cnB k cx.1.2.2.2.2 (gw_all w1) rfl hrc hrs w2 (cx.1.2.2.2.2 _ w5) hd hR, hy, cx.1.2.2.2.2 _ w3⟩ (g_preS hP cx) rfl hn hl.1 rfl (lv_room hst) hdg hcs
theorem g_runS {y : MethodName} {bytes : ByteArray} {maxL mc ms k index : Nat} {ret : Option FieldType} {rm : Room} {Qc : Array Value → State → Outcome → State → Prop} {free : Addr → Prop} {As : List Value} {lv : List (Nat × Value)} (w1 : Cond.code y bytes maxL ret ∈ gw_tbl) (w2 : Cond.methodLink own index y ∈ gw_tbl) (w3 : Cond.static y ∈ gw_tbl) (w5 : Cond.initialized y.cls ∈ gw_tbl) (hd : y.cls ≠ "java/lang/invoke/MethodHandle" ∧ y.cls ≠ "java/lang/invoke/VarHandle" ∧ (parseMethodDescriptor y.desc).map (fun d => d.parameters.length) = some k) (hn : As.length = k)
    (cx : gX own cc nL p c s m args D g) (hl : lv_has ls nL lv) (hP : gP D b n w H) (hM : Met l y (gw_ws y bytes maxL ret) rm (gPc D g b n w As) Qc mc ms free) (hrc : rm.cells = mc) (hrs : rm.slots = ms) (hR : rm.frames + 1 ≤ R.frames ∧ 8 + (maxL + 11) + rm.locals ≤ R.locals) (hcs : cells + mc ≤ R.cells ∧ slots + ms ≤ R.slots) (hst : (rest.map fun v => v.category).sum ≤ 8) (hdg : decode cc pc = .ok (.invokestatic index, 3)) :
    va_Run p l e R s m args below meth c H locs cells slots mc ms (F0 m pc ls (As.reverse ++ rest)) rest (Qc As.toArray) free :=
  va_runS cx.1 hM ⟨callB_of k cx.1.2.2.2.2 (gw_all w1) rfl hrc hrs (cx.1.2.2.2.2 _ w5) (cx.1.2.2.2.2 _ w2) hd hR, cx.1.2.2.2.2 _ w3⟩ (g_preS hP cx) rfl hn hl.1 rfl (lv_room hst) hdg hcs
theorem g_callv {n' : Nat} {post : (Nat → Option va_E) → Prop} {st0 : List Value} {av : Array Value} {mc ms : Nat} (hr : va_Run p l e R s m args below meth c H locs cells slots mc ms (F0 m pc ls st0) rest (gQv D b n' post av) (fun q => b ≤ q)) (hS : gS b H0 H locs)
    (kk : ∀ (w1 : Nat → Option va_E) (H1 : Heap) (locs1 : List Loc), post w1 → gP D b n' w1 H1 → gS b H0 H1 locs1 → W p l e R s m args below meth c H1 locs1 (cells + mc) (slots + ms) Q (F0 m (pc + 3) ls rest)) : W p l e R s m args below meth c H locs cells slots Q (F0 m pc ls st0) :=
  va_callv hr hS (fun _ _ h => h) (fun _ h => h) (fun u t H1 locs1 ht _ hp hB _ _ hS' => kk u H1 locs1 hp (by rw [← ht]; exact hB) hS')
theorem g_calli {n' : Nat} {w1 : Nat → Option va_E} {r : Int32} {st0 : List Value} {av : Array Value} {mc ms : Nat} (hr : va_Run p l e R s m args below meth c H locs cells slots mc ms (F0 m pc ls st0) rest (gQi D b n' w1 r av) (fun q => b ≤ q)) (hS : gS b H0 H locs)
    (kk : ∀ (H1 : Heap) (locs1 : List Loc), gP D b n' w1 H1 → gS b H0 H1 locs1 → W p l e R s m args below meth c H1 locs1 (cells + mc) (slots + ms) Q (F0 m (pc + 3) ls (.int r :: rest))) : W p l e R s m args below meth c H locs cells slots Q (F0 m pc ls st0) :=
  va_calli hr hS (fun _ _ h => h) (fun _ h => h) (fun v _ t H1 locs1 ht _ hp hB _ _ hS' => by subst hp; exact kk H1 locs1 (by rw [← ht]; exact hB) hS')
theorem g_callq {n' a' : Nat} {post : (Nat → Option va_E) → Prop} {st0 : List Value} {av : Array Value} {mc ms : Nat} (hr : va_Run p l e R s m args below meth c H locs cells slots mc ms (F0 m pc ls st0) rest (gQq D b n' a' post av) (fun q => b ≤ q)) (hS : gS b H0 H locs)
    (kk : ∀ (w1 : Nat → Option va_E) (H1 : Heap) (locs1 : List Loc), post w1 → gP D b n' w1 H1 → gS b H0 H1 locs1 → W p l e R s m args below meth c H1 locs1 (cells + mc) (slots + ms) Q (F0 m (pc + 3) ls (.ref a' :: rest))) : W p l e R s m args below meth c H locs cells slots Q (F0 m pc ls st0) :=
  va_callq hr hS (fun _ _ h => h) (fun _ h => h) (fun v u t H1 locs1 ht _ hp hB _ _ hS' => by obtain ⟨rfl, hp⟩ := hp; exact kk u H1 locs1 hp (by rw [← ht]; exact hB) hS')
theorem g_vret {post : (Nat → Option va_E) → Prop} (cx : gX own cc nL p c s m args D g) (hr : meth.sig.returnType = none) (hlocks : meth.locks = false) (hP : gP D b n w H) (hS : gS b s.heap H locs) (h2 : post w) (hdg : decode cc pc = .ok (.return_, 1)) :
    W p l e R s m args below meth c H locs cells slots (MQ below (gQv D b n post) args s cells slots (fun q => b ≤ q)) (F0 m pc ls []) :=
  W.vret cx.1.1 cx.1.2.1 hr (fun t ht hW => ⟨⟨w, rfl, h2, by show gP D b n w t.heap; rw [ht]; exact hP⟩, hS.F ht⟩) hS.2.2 hdg
theorem g_iret {v r : Int32} (cx : gX own cc nL p c s m args D g) (hr : meth.sig.returnType = some .int) (hlocks : meth.locks = false) (hP : gP D b n w H) (hS : gS b s.heap H locs) (h1 : v = r) (hdg : decode cc pc = .ok (.ireturn, 1)) :
    W p l e R s m args below meth c H locs cells slots (MQ below (gQi D b n w r) args s cells slots (fun q => b ≤ q)) (F0 m pc ls [.int v]) := by
  subst h1
  exact W.iret cx.1.1 cx.1.2.1 hr (fun t ht hW => ⟨⟨_, (), rfl, rfl, by show gP D b n w t.heap; rw [ht]; exact hP⟩, hS.F ht⟩) hS.2.2 hdg
theorem g_qret {a' : Nat} {rt : FieldType} {post : (Nat → Option va_E) → Prop} (cx : gX own cc nL p c s m args D g) (hr : meth.sig.returnType = some (.array rt)) (hlocks : meth.locks = false) (hP : gP D b n w H) (hS : gS b s.heap H locs) (h2 : post w) (hdg : decode cc pc = .ok (.areturn, 1)) :
    W p l e R s m args below meth c H locs cells slots (MQ below (gQq D b n a' post) args s cells slots (fun q => b ≤ q)) (F0 m pc ls [.ref a']) :=
  W.aret cx.1.1 cx.1.2.1 hr (Or.inr ⟨rt, rfl⟩) (Or.inr ⟨a', rfl⟩) (fun t ht hW => ⟨⟨some a', w, rfl, ⟨rfl, h2⟩, by show gP D b n w t.heap; rw [ht]; exact hP⟩, hS.F ht⟩) hS.2.2 hdg
end GR
