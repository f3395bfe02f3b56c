-- what the tables say at the law's entry; the law's helper `cell`
theorem ary_i {ty : FieldType} {args : Array Value} {s : State} (h : (Cond.arrayClass ty).before args s = true) : ∃ cA, ArrOfT s cA ty ∧ s.vm.findClass ("[" ++ ty.toString) = some cA := by
  obtain ⟨c, k, comp, h1, h2, h3⟩ := Cond.arrayClass_spec h
  exact ⟨c, fun N z => ⟨(fun k h => by cases h), k, h2, comp, h3⟩, h1⟩
theorem ary_o {C : String} {args : Array Value} {s : State} (h : (Cond.arrayOver (.object C)).before args s = true) : ∃ cA, ArrOfT s cA (.object C) ∧ va_RA s cA (.object C) := by
  obtain ⟨comp, c, k, h1, h2, h3, h4, h5⟩ := Cond.arrayOver_spec h
  exact ⟨c, fun N z => ⟨(fun k h => by cases h), k, h3, comp, h4⟩, k, comp, h3, h4, h1, h5⟩
def pick {α : Type} (a0 a1 a2 a3 a4 a5 a6 : α) : Nat → α
  | 0 => a0
  | 1 => a1
  | 2 => a2
  | 3 => a3
  | 4 => a4
  | 5 => a5
  | _ => a6
theorem lw_known {s : State} {args : Array Value} (hts : ∀ w ∈ lw_tbl, w.before args s = true) : ∃ (D : va_G) (g : Nat → ClassId), va_K D cls_all (gt g) s ∧ gE s := by
  have hg : ∀ w ∈ gw_tbl, w.before args s = true := fun w h => hts w (gw_sub h)
  obtain ⟨c0, i0, k0⟩ := u_known hg wf_C (hg _ is_C)
  obtain ⟨c1, i1, k1⟩ := u_known hg wf_K (hg _ is_K)
  obtain ⟨c2, i2, k2⟩ := u_known hg wf_L (hg _ is_L)
  obtain ⟨c3, i3, k3⟩ := u_known hg wf_R (hg _ is_R)
  obtain ⟨c4, i4, k4⟩ := u_known hg wf_S (hg _ is_S)
  obtain ⟨c5, i5, k5⟩ := u_known hg wf_X (hg _ is_X)
  obtain ⟨c6, i6, k6⟩ := u_known hg wf_M (hg _ is_M)
  obtain ⟨g0, a0, b0⟩ := ary_i (hg _ ac_int)
  obtain ⟨g1, a1, b1⟩ := ary_i (hg _ ac_long)
  obtain ⟨g2, a2, b2⟩ := ary_i (hg _ ac_boolean)
  obtain ⟨g3, a3, b3⟩ := ary_o (hts _ ao_C)
  obtain ⟨g4, a4, b4⟩ := ary_o (hts _ ao_S)
  obtain ⟨g5, a5, b5⟩ := ary_o (hts _ ao_R)
  obtain ⟨g6, a6, b6⟩ := ary_o (hts _ ao_L)
  refine ⟨(pick c0 c1 c2 c3 c4 c5 c6, pick i0 i1 i2 i3 i4 i5 i6), pick g0 g1 g2 g3 g4 g5 g6, ⟨fun c q hc => ?_, fun k q hk => ?_⟩, va_AO.of (hts _ ao_C), va_AO.of (hts _ ao_S), va_AO.of (hts _ ao_R), va_AO.of (hts _ ao_L), hts _ mq_X_R_init⟩
  · match c, hc with
    | 0, hc => cases Option.some.inj hc; exact k0
    | 1, hc => cases Option.some.inj hc; exact k1
    | 2, hc => cases Option.some.inj hc; exact k2
    | 3, hc => cases Option.some.inj hc; exact k3
    | 4, hc => cases Option.some.inj hc; exact k4
    | 5, hc => cases Option.some.inj hc; exact k5
    | 6, hc => cases Option.some.inj hc; exact k6
    | n + 7, hc => simp at hc
  · match k, hk with
    | 0, hk => cases Option.some.inj hk; exact ⟨a0, b0⟩
    | 1, hk => cases Option.some.inj hk; exact ⟨a1, b1⟩
    | 2, hk => cases Option.some.inj hk; exact ⟨a2, b2⟩
    | 3, hk => cases Option.some.inj hk; exact ⟨a3, b3⟩
    | 4, hk => cases Option.some.inj hk; exact ⟨a4, b4⟩
    | 5, hk => cases Option.some.inj hk; exact ⟨a5, b5⟩
    | 6, hk => cases Option.some.inj hk; exact ⟨a6, b6⟩
    | n + 7, hk => simp at hk
abbrev sPc (D : va_G) (g : Nat → ClassId) (b n : Nat) (w : Nat → Option va_E) (z0 L : Nat) (ys : Nat → Int32) (av : List Value) : Array Value → State → Prop := va_Pc av (fun U => gP D b n w U.heap ∧ va_K D cls_all (gt g) U ∧ gE U ∧ va_X z0 L ys U U.heap)
def scv (L : Nat) (ys : Nat → Int32) (j : Nat) : Int32 := if j < L then ys j else 0
section SC
variable {l : Launch} {D : va_G} {g : Nat → ClassId} {b n z0 L : Nat} {w : Nat → Option va_E} {ys : Nat → Int32}
theorem s_met {y : MethodName} {bytes : ByteArray} {maxL : Nat} {ret : Option FieldType} {rm : Room} {av : List Value} {Qc : Array Value → State → Outcome → State → Prop} {mc ms : Nat} {free : Addr → Prop} (hy : plainName y.cls = true) (hlen : (lg_sl av).length ≤ maxL)
    (body : ∀ (p : Program) (e : Env) (s : State) (m : MethodId) (below : List Frame) (meth : Method) (c : Code), gX y.cls bytes maxL p c s m av.toArray D g → meth.sig.returnType = ret → meth.locks = false → gP D b n w s.heap → va_X z0 L ys s s.heap → gS b s.heap s.heap [] → ∀ ls : Array Slot, lv_has ls maxL (lv_args 0 av) →
      W p l e rm s m av.toArray below meth c s.heap [] 0 0 (MQ below Qc av.toArray s mc ms free) (F0 m 0 ls [])) : Met l y (gw_ws y bytes maxL ret) rm (sPc D g b n w z0 L ys av) Qc mc ms free := by
  refine Met.ofW (cc := bytes) (maxL := maxL) (ret := ret) hy rfl ?_
  intro p e s m args below meth c s₁ B hml hv
  obtain ⟨rfl, hP, hK, hE, hX⟩ := hv
  rw [lg_entry_eq]
  exact body p e s m below meth c ⟨⟨B.exec, B.bytes, hml, findClass_of_methodNamed B.named, fun w h => atoms_spec (ws := gw_ws y bytes maxL ret) B.pre w (List.mem_cons_of_mem _ h)⟩, hK, hE⟩ B.returns B.notSynchronized hP hX va_S.rf _ (lv_entry av hlen)
set_option maxHeartbeats 4000000 in
set_option maxRecDepth 100000 in
theorem ct_W_cell (j : Nat) (hj : j < 3) (hL : L ≤ 2051) (hz : z0 < b) : Met l mn_W_cell (gw_ws mn_W_cell cb_W_cell 2 (some .int)) ({ frames := 0, cells := 0, slots := 0, locals := 0 } : Room) (sPc D g b n w z0 L ys [.ref z0, .int (nI j)]) (gQi D b n w (scv L ys j)) 0 0 (fun q => b ≤ q) := by
  refine s_met (by decide) (Nat.le_of_ble_eq_true rfl) ?_
  intro p e s m below meth c0 cx hr hlocks hP hX hS ls hl
  have cx : gX rn_W cb_W_cell 2 p c0 s m [.ref z0, .int (nI j)].toArray D g := cx
  have hx := cx.1.1
  have hb := cx.1.2.1
  have hl : lv_has ls 2 [(0, .ref z0), (1, .int (nI j))] := hl
  have hbA : ¬ b ≤ z0 := by omega
  have hbl : z0 < s.heap.size := by have := hP.1; have := hP.2.1; omega
  refine lv_iload_n (pc := 0) hx hb dd_W_cell_0 rfl (lv_at hl 1 rfl) ?_
  refine lv_aload_n (pc := 1) hx hb dd_W_cell_1 rfl (lv_at hl 0 rfl) ?_
  refine va_slen (pc := 2) hx hb hX hbl hbA hS dd_W_cell_2 ?_
  refine lv_icmp_ge (pc := 3) (tgt := 12) hx hb dd_W_cell_3 (by decide) (fun h3 => ?_) (fun h3 => ?_)
  · have h3 : nI L ≤ nI j := h3
    have h4 := (nI_leI (by omega) (by omega)).mp h3
    refine lv_iconst (pc := 12) (v := 0) hx hb dd_W_cell_12 (by decide) ?_
    exact g_iret (pc := 13) cx hr hlocks hP hS (by unfold scv; rw [if_neg (by omega)]) dd_W_cell_13
  · have h3 : ¬ nI L ≤ nI j := h3
    have h4 : j < L := by
      by_cases q : j < L
      · exact q
      · exact absurd ((nI_leI (by omega) (by omega)).mpr (by omega)) h3
    refine lv_aload_n (pc := 6) hx hb dd_W_cell_6 rfl (lv_at hl 0 rfl) ?_
    refine lv_iload_n (pc := 7) hx hb dd_W_cell_7 rfl (lv_at hl 1 rfl) ?_
    refine va_sld (pc := 8) hx hb hX hbl hbA hS (nI_in h4 (by omega)) dd_W_cell_8 ?_
    refine lv_goto (pc := 9) (tgt := 13) hx hb dd_W_cell_9 (by decide) ?_
    exact g_iret (pc := 13) cx hr hlocks hP hS (by unfold scv; rw [if_pos h4, nI_clamp (by omega)]) dd_W_cell_13
end SC
section SR
variable {p : Program} {l : Launch} {e : Env} {R : Room} {s : State} {m : MethodId} {args : Array Value} {below : List Frame} {meth : Method} {c : Code} {H : Heap} {locs : List Loc} {cells slots : Nat} {Q : State → Prop}
variable {cc : ByteArray} {pc : Nat} {ls : Array Slot} {rest : List Value} {own : String} {nL : Nat} {D : va_G} {g : Nat → ClassId} {b n z0 L : Nat} {w : Nat → Option va_E} {ys : Nat → Int32}
theorem s_preS {av : List Value} (hP : gP D b n w H) (hX : va_X z0 L ys s H) (cx : gX own cc nL p c s m args D g) : PreS s H (sPc D g b n w z0 L ys av) av :=
  ⟨fun a U f mk q => ⟨q.1, q.2.1, va_K.moved (u := U) (U := U.calling f mk a) (Vm.Alike.refl U.vm) q.2.2.1, gE.same rfl q.2.2.2.1, va_X.moved (u := U) (U := U.calling f mk a) (Vm.Alike.refl U.vm) q.2.2.2.2⟩, fun U hU hW => ⟨rfl, by rw [hU]; exact hP, va_K.moved hW.alike cx.2.1, cx.2.2.warm hW, by rw [hU]; exact va_X.moved hW.alike hX⟩⟩
/-- a call of `cell` in the law -/
theorem k_cell {lv : List (Nat × Value)} {j : Nat} (cx : gX rn_W cc nL p c s m args D g) (hl : lv_has ls nL lv) (hP : gP D b n w H) (hS : gS b s.heap H locs) (hX : va_X z0 L ys s s.heap) (hz : z0 < b) (hbl : z0 < s.heap.size) (hL : L ≤ 2051) (hj : j < 3) (hR : 1 ≤ R.frames ∧ 8 + (2 + 11) + 0 ≤ R.locals) (hcs : cells + 0 ≤ R.cells ∧ slots + 0 ≤ R.slots) (hst : (rest.map fun v => v.category).sum ≤ 8) (hd : decode cc pc = .ok (.invokestatic 9, 3))
    (kk : ∀ (H1 : Heap) (locs1 : List Loc), gP D b n w H1 → gS b s.heap H1 locs1 → W p l e R s m args below meth c H1 locs1 (cells + 0) (slots + 0) Q (F0 m (pc + 3) ls (.int (scv L ys j) :: rest))) : W p l e R s m args below meth c H locs cells slots Q (F0 m pc ls (.int (nI j) :: .ref z0 :: rest)) :=
  g_calli (va_runS cx.1 (ct_W_cell (l := l) (D := D) (g := g) (b := b) (n := n) (w := w) (z0 := z0) (L := L) (ys := ys) j hj hL hz) ⟨callB_of 2 cx.1.2.2.2.2 (gw_all co_W_cell) rfl rfl rfl (cx.1.2.2.2.2 _ in_W) (cx.1.2.2.2.2 _ ml_W_W_cell) (by decide +kernel) hR, cx.1.2.2.2.2 _ st_W_cell⟩ (s_preS hP (hX.kept (hS.2.1 z0 hbl (by omega))) cx) rfl rfl hl.1 rfl (lv_room hst) hd hcs) hS kk
end SR
