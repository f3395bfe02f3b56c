-- printed by wip/whole/gen/c_law.py: the operations of the law
theorem lcmp_self (r : Int64) : lg_cmp r r = 0 := by unfold lg_cmp; simp
section LW
variable {p : Program} {l : Launch} {e : Env} {s : State} {m : MethodId} {args : Array Value} {below : List Frame} {meth : Method} {c : Code} {H : Heap} {locs : List Loc} {cells slots : Nat} {Q : State → Prop}
variable {pc : Nat} {ls : Array Slot} {rest : List Value} {x : fy} {S : fm} {H0 : Heap} {n : Nat}
theorem sc_in {i d L : Nat} (hi : i + 3 < L) (hL : L ≤ 2051) (hd : d ≤ 3) : vp_in (nI i + nI d) L := by
  rw [nI_add]
  unfold vp_in
  intro q
  rcases q with q | q
  · exact nI_pos (by omega) q
  · rw [nI_clamp (by omega)] at q
    omega
theorem kp_write {z : Int32} {w : Int64} {lv : List (Nat × Value)} (cx : fX rn_W cb_W_law 4 p c s m args x) (hl : lv_has ls 4 lv) (hP : fP x S H) (hS : fS x H0 H locs) (hO : fO x) (hL : fL x) (hM : fM x) (hn : n + 2 ≤ 100000) (hs : SIM x n S) (hc : cells + 7 ≤ 652497) (hsl : slots + 42 ≤ 7144758) (hst : (rest.map fun v => v.category).sum ≤ 8) (hd : decode cb_W_law pc = .ok (.invokevirtual 23, 3)) (kk : ∀ (r : Int32) (S1 S2 : fm) (H1 : Heap) (locs1 : List Loc), fP x S1 H1 → fS x H0 H1 locs1 → Met l mn_M_write (gw_ws mn_M_write cb_M_write 5 (some .int)) ({ frames := 3, cells := 0, slots := 0, locals := 70 } : Room) (fPc x S1 [.ref (xa x 16 0), .int z, .long w]) (fQi x S2 r) 0 0 (fun q => xs x ≤ q) → SIM x (n + 2) S2 → W p l e room_1 s m args below meth c H1 locs1 (cells + 7) (slots + 42) Q (F0 m (pc + 3) ls (.int r :: rest))) : W p l e room_1 s m args below meth c H locs cells slots Q (F0 m pc ls (.long w :: .int z :: .ref (xa x 0 0) :: rest)) := by
  obtain ⟨r, S1, S2, a, b, d⟩ := pr_write l hO hL hM hn hs z w
  exact k_W_X_write cx hl hP hS hL.1 a ⟨⟨rfl, rfl⟩, ⟨(Nat.le_of_ble_eq_true rfl), (Nat.le_of_ble_eq_true rfl)⟩, hc, hsl⟩ hst hd (fun H1 locs1 h1 h2 => kk r S1 S2 H1 locs1 h1 h2 b d)
set_option maxHeartbeats 4000000 in
set_option maxRecDepth 100000 in
theorem lo_write {b L i : Nat} {ys : Nat → Int32} (cx : fX rn_W cb_W_law 4 p c s m args x) (hO : fO x) (hL : fL x) (hM : fM x) (hX : va_X b L ys s H0) (hbl : b < H0.size) (hbA : ¬ xs x ≤ b) (hi : i + 3 < L) (hLL : L ≤ 2051) (hn : n + 2 ≤ 100000) (hs : SIM x n S) (hl : lv_has ls 4 [(3, .int (nI i)), (2, .ref (xa x 16 0)), (1, .ref (xa x 0 0)), (0, .ref b)]) (hP : fP x S H) (hS : fS x H0 H locs) (hc : cells + 7 ≤ 652497) (hsl : slots + 42 ≤ 7144758) (kk : ∀ (S2 : fm) (H1 : Heap) (locs1 : List Loc) (c1 s1 : Nat), fP x S2 H1 → fS x H0 H1 locs1 → SIM x (n + 2) S2 → c1 ≤ cells + 7 → s1 ≤ slots + 42 → W p l e room_1 s m args below meth c H1 locs1 c1 s1 Q (F0 m 710 ls [])) : W p l e room_1 s m args below meth c H locs cells slots Q (F0 m 152 ls []) := by
  have hx := cx.1.1
  have hb := cx.1.2.1
  refine lv_aload_n (pc := 152) hx hb dd_W_law_152 rfl (lv_at hl 2 rfl) ?_
  refine lv_aload_n (pc := 153) hx hb dd_W_law_153 rfl (lv_at hl 3 rfl) ?_
  refine lv_iload_n (pc := 154) hx hb dd_W_law_154 rfl (lv_at hl 0 rfl) ?_
  refine lv_iconst (pc := 155) (v := nI 1) hx hb dd_W_law_155 (by decide) ?_
  refine lv_iadd (pc := 156) hx hb dd_W_law_156 ?_
  refine va_sld (pc := 157) hx hb hX hbl hbA hS (sc_in (d := 1) hi hLL (by decide)) dd_W_law_157 ?_
  refine lv_aload_n (pc := 158) hx hb dd_W_law_158 rfl (lv_at hl 3 rfl) ?_
  refine lv_iload_n (pc := 159) hx hb dd_W_law_159 rfl (lv_at hl 0 rfl) ?_
  refine lv_iconst (pc := 160) (v := nI 2) hx hb dd_W_law_160 (by decide) ?_
  refine lv_iadd (pc := 161) hx hb dd_W_law_161 ?_
  refine va_sld (pc := 162) hx hb hX hbl hbA hS (sc_in (d := 2) hi hLL (by decide)) dd_W_law_162 ?_
  refine lv_i2l (pc := 163) hx hb dd_W_law_163 rfl ?_
  refine lv_bipush (pc := 164) (v := 32) hx hb dd_W_law_164 (by decide) ?_
  refine lv_lshl (pc := 166) hx hb dd_W_law_166 rfl ?_
  refine lv_aload_n (pc := 167) hx hb dd_W_law_167 rfl (lv_at hl 3 rfl) ?_
  refine lv_iload_n (pc := 168) hx hb dd_W_law_168 rfl (lv_at hl 0 rfl) ?_
  refine lv_iconst (pc := 169) (v := nI 3) hx hb dd_W_law_169 (by decide) ?_
  refine lv_iadd (pc := 170) hx hb dd_W_law_170 ?_
  refine va_sld (pc := 171) hx hb hX hbl hbA hS (sc_in (d := 3) hi hLL (by decide)) dd_W_law_171 ?_
  refine lv_i2l (pc := 172) hx hb dd_W_law_172 rfl ?_
  refine lv_ldc2 (pc := 173) hx hb cx.1.2.2.2.1 (cx.1.2.2.2.2 _ cl_W_21) dd_W_law_173 ?_
  refine lv_land (pc := 176) hx hb dd_W_law_176 ?_
  refine lv_lor (pc := 177) hx hb dd_W_law_177 ?_
  refine kp_write (pc := 178) cx hl hP hS hO hL hM hn hs (by omega) (by omega) (Nat.le_of_ble_eq_true rfl) dd_W_law_178 (fun r S1 S2 H locs hP hS hM1 hs2 => ?_)
  refine lv_aload_n (pc := 181) hx hb dd_W_law_181 rfl (lv_at hl 1 rfl) ?_
  refine lv_aload_n (pc := 182) hx hb dd_W_law_182 rfl (lv_at hl 3 rfl) ?_
  refine lv_iload_n (pc := 183) hx hb dd_W_law_183 rfl (lv_at hl 0 rfl) ?_
  refine lv_iconst (pc := 184) (v := nI 1) hx hb dd_W_law_184 (by decide) ?_
  refine lv_iadd (pc := 185) hx hb dd_W_law_185 ?_
  refine va_sld (pc := 186) hx hb hX hbl hbA hS (sc_in (d := 1) hi hLL (by decide)) dd_W_law_186 ?_
  refine lv_aload_n (pc := 187) hx hb dd_W_law_187 rfl (lv_at hl 3 rfl) ?_
  refine lv_iload_n (pc := 188) hx hb dd_W_law_188 rfl (lv_at hl 0 rfl) ?_
  refine lv_iconst (pc := 189) (v := nI 2) hx hb dd_W_law_189 (by decide) ?_
  refine lv_iadd (pc := 190) hx hb dd_W_law_190 ?_
  refine va_sld (pc := 191) hx hb hX hbl hbA hS (sc_in (d := 2) hi hLL (by decide)) dd_W_law_191 ?_
  refine lv_i2l (pc := 192) hx hb dd_W_law_192 rfl ?_
  refine lv_bipush (pc := 193) (v := 32) hx hb dd_W_law_193 (by decide) ?_
  refine lv_lshl (pc := 195) hx hb dd_W_law_195 rfl ?_
  refine lv_aload_n (pc := 196) hx hb dd_W_law_196 rfl (lv_at hl 3 rfl) ?_
  refine lv_iload_n (pc := 197) hx hb dd_W_law_197 rfl (lv_at hl 0 rfl) ?_
  refine lv_iconst (pc := 198) (v := nI 3) hx hb dd_W_law_198 (by decide) ?_
  refine lv_iadd (pc := 199) hx hb dd_W_law_199 ?_
  refine va_sld (pc := 200) hx hb hX hbl hbA hS (sc_in (d := 3) hi hLL (by decide)) dd_W_law_200 ?_
  refine lv_i2l (pc := 201) hx hb dd_W_law_201 rfl ?_
  refine lv_ldc2 (pc := 202) hx hb cx.1.2.2.2.1 (cx.1.2.2.2.2 _ cl_W_21) dd_W_law_202 ?_
  refine lv_land (pc := 205) hx hb dd_W_law_205 ?_
  refine lv_lor (pc := 206) hx hb dd_W_law_206 ?_
  refine k_W_M_write (pc := 207) cx hl hP hS hM.1 hM1 ⟨⟨rfl, rfl⟩, ⟨(Nat.le_of_ble_eq_true rfl), (Nat.le_of_ble_eq_true rfl)⟩, (show _ ≤ 652497 by omega), (show _ ≤ 7144758 by omega)⟩ (Nat.le_of_ble_eq_true rfl) dd_W_law_207 (fun H locs hP hS => ?_)
  refine lv_icmp_eq (pc := 210) (tgt := 710) hx hb dd_W_law_210 (by decide) (fun h0 => ?_) (fun h0 => ?_)
  · exact kk S2 H locs _ _ hP hS hs2 (by omega) (by omega)
  · exact absurd rfl h0
theorem kp_read {z : Int32} {lv : List (Nat × Value)} (cx : fX rn_W cb_W_law 4 p c s m args x) (hl : lv_has ls 4 lv) (hP : fP x S H) (hS : fS x H0 H locs) (hO : fO x) (hL : fL x) (hM : fM x) (hn : n + 2 ≤ 100000) (hs : SIM x n S) (hc : cells + 7 ≤ 652497) (hsl : slots + 42 ≤ 7144758) (hst : (rest.map fun v => v.category).sum ≤ 8) (hd : decode cb_W_law pc = .ok (.invokevirtual 28, 3)) (kk : ∀ (r : Int32) (S1 S2 : fm) (H1 : Heap) (locs1 : List Loc), fP x S1 H1 → fS x H0 H1 locs1 → Met l mn_M_read (gw_ws mn_M_read cb_M_read 3 (some .int)) ({ frames := 3, cells := 0, slots := 0, locals := 70 } : Room) (fPc x S1 [.ref (xa x 16 0), .int z]) (fQi x S2 r) 0 0 (fun q => xs x ≤ q) → SIM x (n + 2) S2 → W p l e room_1 s m args below meth c H1 locs1 (cells + 7) (slots + 42) Q (F0 m (pc + 3) ls (.int r :: rest))) : W p l e room_1 s m args below meth c H locs cells slots Q (F0 m pc ls (.int z :: .ref (xa x 0 0) :: rest)) := by
  obtain ⟨r, S1, S2, a, b, d⟩ := pr_read l hO hL hM hn hs z
  exact k_W_X_read cx hl hP hS hL.1 a ⟨⟨rfl, rfl⟩, ⟨(Nat.le_of_ble_eq_true rfl), (Nat.le_of_ble_eq_true rfl)⟩, hc, hsl⟩ hst hd (fun H1 locs1 h1 h2 => kk r S1 S2 H1 locs1 h1 h2 b d)
set_option maxHeartbeats 4000000 in
set_option maxRecDepth 100000 in
theorem lo_read {b L i : Nat} {ys : Nat → Int32} (cx : fX rn_W cb_W_law 4 p c s m args x) (hO : fO x) (hL : fL x) (hM : fM x) (hX : va_X b L ys s H0) (hbl : b < H0.size) (hbA : ¬ xs x ≤ b) (hi : i + 3 < L) (hLL : L ≤ 2051) (hn : n + 2 ≤ 100000) (hs : SIM x n S) (hl : lv_has ls 4 [(3, .int (nI i)), (2, .ref (xa x 16 0)), (1, .ref (xa x 0 0)), (0, .ref b)]) (hP : fP x S H) (hS : fS x H0 H locs) (hc : cells + 7 ≤ 652497) (hsl : slots + 42 ≤ 7144758) (kk : ∀ (S2 : fm) (H1 : Heap) (locs1 : List Loc) (c1 s1 : Nat), fP x S2 H1 → fS x H0 H1 locs1 → SIM x (n + 2) S2 → c1 ≤ cells + 7 → s1 ≤ slots + 42 → W p l e room_1 s m args below meth c H1 locs1 c1 s1 Q (F0 m 710 ls [])) : W p l e room_1 s m args below meth c H locs cells slots Q (F0 m 215 ls []) := by
  have hx := cx.1.1
  have hb := cx.1.2.1
  refine lv_aload_n (pc := 215) hx hb dd_W_law_215 rfl (lv_at hl 2 rfl) ?_
  refine lv_aload_n (pc := 216) hx hb dd_W_law_216 rfl (lv_at hl 3 rfl) ?_
  refine lv_iload_n (pc := 217) hx hb dd_W_law_217 rfl (lv_at hl 0 rfl) ?_
  refine lv_iconst (pc := 218) (v := nI 1) hx hb dd_W_law_218 (by decide) ?_
  refine lv_iadd (pc := 219) hx hb dd_W_law_219 ?_
  refine va_sld (pc := 220) hx hb hX hbl hbA hS (sc_in (d := 1) hi hLL (by decide)) dd_W_law_220 ?_
  refine kp_read (pc := 221) cx hl hP hS hO hL hM hn hs (by omega) (by omega) (Nat.le_of_ble_eq_true rfl) dd_W_law_221 (fun r S1 S2 H locs hP hS hM1 hs2 => ?_)
  refine lv_aload_n (pc := 224) hx hb dd_W_law_224 rfl (lv_at hl 1 rfl) ?_
  refine lv_aload_n (pc := 225) hx hb dd_W_law_225 rfl (lv_at hl 3 rfl) ?_
  refine lv_iload_n (pc := 226) hx hb dd_W_law_226 rfl (lv_at hl 0 rfl) ?_
  refine lv_iconst (pc := 227) (v := nI 1) hx hb dd_W_law_227 (by decide) ?_
  refine lv_iadd (pc := 228) hx hb dd_W_law_228 ?_
  refine va_sld (pc := 229) hx hb hX hbl hbA hS (sc_in (d := 1) hi hLL (by decide)) dd_W_law_229 ?_
  refine k_W_M_read (pc := 230) cx hl hP hS hM.1 hM1 ⟨⟨rfl, rfl⟩, ⟨(Nat.le_of_ble_eq_true rfl), (Nat.le_of_ble_eq_true rfl)⟩, (show _ ≤ 652497 by omega), (show _ ≤ 7144758 by omega)⟩ (Nat.le_of_ble_eq_true rfl) dd_W_law_230 (fun H locs hP hS => ?_)
  refine lv_icmp_eq (pc := 233) (tgt := 710) hx hb dd_W_law_233 (by decide) (fun h0 => ?_) (fun h0 => ?_)
  · exact kk S2 H locs _ _ hP hS hs2 (by omega) (by omega)
  · exact absurd rfl h0
theorem kp_again {z : Int32} {lv : List (Nat × Value)} (cx : fX rn_W cb_W_law 4 p c s m args x) (hl : lv_has ls 4 lv) (hP : fP x S H) (hS : fS x H0 H locs) (hO : fO x) (hL : fL x) (hM : fM x) (hn : n + 2 ≤ 100000) (hs : SIM x n S) (hc : cells + 7 ≤ 652497) (hsl : slots + 42 ≤ 7144758) (hst : (rest.map fun v => v.category).sum ≤ 8) (hd : decode cb_W_law pc = .ok (.invokevirtual 33, 3)) (kk : ∀ (r : Int32) (S1 S2 : fm) (H1 : Heap) (locs1 : List Loc), fP x S1 H1 → fS x H0 H1 locs1 → Met l mn_M_again (gw_ws mn_M_again cb_M_again 2 (some .int)) ({ frames := 2, cells := 0, slots := 0, locals := 49 } : Room) (fPc x S1 [.ref (xa x 16 0), .int z]) (fQi x S2 r) 0 0 (fun q => xs x ≤ q) → SIM x (n + 2) S2 → W p l e room_1 s m args below meth c H1 locs1 (cells + 7) (slots + 42) Q (F0 m (pc + 3) ls (.int r :: rest))) : W p l e room_1 s m args below meth c H locs cells slots Q (F0 m pc ls (.int z :: .ref (xa x 0 0) :: rest)) := by
  obtain ⟨r, S1, S2, a, b, d⟩ := pr_again l hO hL hM hn hs z
  exact k_W_X_again cx hl hP hS hL.1 a ⟨⟨rfl, rfl⟩, ⟨(Nat.le_of_ble_eq_true rfl), (Nat.le_of_ble_eq_true rfl)⟩, hc, hsl⟩ hst hd (fun H1 locs1 h1 h2 => kk r S1 S2 H1 locs1 h1 h2 b d)
set_option maxHeartbeats 4000000 in
set_option maxRecDepth 100000 in
theorem lo_again {b L i : Nat} {ys : Nat → Int32} (cx : fX rn_W cb_W_law 4 p c s m args x) (hO : fO x) (hL : fL x) (hM : fM x) (hX : va_X b L ys s H0) (hbl : b < H0.size) (hbA : ¬ xs x ≤ b) (hi : i + 3 < L) (hLL : L ≤ 2051) (hn : n + 2 ≤ 100000) (hs : SIM x n S) (hl : lv_has ls 4 [(3, .int (nI i)), (2, .ref (xa x 16 0)), (1, .ref (xa x 0 0)), (0, .ref b)]) (hP : fP x S H) (hS : fS x H0 H locs) (hc : cells + 7 ≤ 652497) (hsl : slots + 42 ≤ 7144758) (kk : ∀ (S2 : fm) (H1 : Heap) (locs1 : List Loc) (c1 s1 : Nat), fP x S2 H1 → fS x H0 H1 locs1 → SIM x (n + 2) S2 → c1 ≤ cells + 7 → s1 ≤ slots + 42 → W p l e room_1 s m args below meth c H1 locs1 c1 s1 Q (F0 m 710 ls [])) : W p l e room_1 s m args below meth c H locs cells slots Q (F0 m 238 ls []) := by
  have hx := cx.1.1
  have hb := cx.1.2.1
  refine lv_aload_n (pc := 238) hx hb dd_W_law_238 rfl (lv_at hl 2 rfl) ?_
  refine lv_aload_n (pc := 239) hx hb dd_W_law_239 rfl (lv_at hl 3 rfl) ?_
  refine lv_iload_n (pc := 240) hx hb dd_W_law_240 rfl (lv_at hl 0 rfl) ?_
  refine lv_iconst (pc := 241) (v := nI 1) hx hb dd_W_law_241 (by decide) ?_
  refine lv_iadd (pc := 242) hx hb dd_W_law_242 ?_
  refine va_sld (pc := 243) hx hb hX hbl hbA hS (sc_in (d := 1) hi hLL (by decide)) dd_W_law_243 ?_
  refine kp_again (pc := 244) cx hl hP hS hO hL hM hn hs (by omega) (by omega) (Nat.le_of_ble_eq_true rfl) dd_W_law_244 (fun r S1 S2 H locs hP hS hM1 hs2 => ?_)
  refine lv_aload_n (pc := 247) hx hb dd_W_law_247 rfl (lv_at hl 1 rfl) ?_
  refine lv_aload_n (pc := 248) hx hb dd_W_law_248 rfl (lv_at hl 3 rfl) ?_
  refine lv_iload_n (pc := 249) hx hb dd_W_law_249 rfl (lv_at hl 0 rfl) ?_
  refine lv_iconst (pc := 250) (v := nI 1) hx hb dd_W_law_250 (by decide) ?_
  refine lv_iadd (pc := 251) hx hb dd_W_law_251 ?_
  refine va_sld (pc := 252) hx hb hX hbl hbA hS (sc_in (d := 1) hi hLL (by decide)) dd_W_law_252 ?_
  refine k_W_M_again (pc := 253) cx hl hP hS hM.1 hM1 ⟨⟨rfl, rfl⟩, ⟨(Nat.le_of_ble_eq_true rfl), (Nat.le_of_ble_eq_true rfl)⟩, (show _ ≤ 652497 by omega), (show _ ≤ 7144758 by omega)⟩ (Nat.le_of_ble_eq_true rfl) dd_W_law_253 (fun H locs hP hS => ?_)
  refine lv_icmp_eq (pc := 256) (tgt := 710) hx hb dd_W_law_256 (by decide) (fun h0 => ?_) (fun h0 => ?_)
  · exact kk S2 H locs _ _ hP hS hs2 (by omega) (by omega)
  · exact absurd rfl h0
theorem kp_deliver {z : Int32} {y : Int32} {j : Int32} {lv : List (Nat × Value)} (cx : fX rn_W cb_W_law 4 p c s m args x) (hl : lv_has ls 4 lv) (hP : fP x S H) (hS : fS x H0 H locs) (hO : fO x) (hL : fL x) (hM : fM x) (hn : n + 2 ≤ 100000) (hs : SIM x n S) (hc : cells + 0 ≤ 652497) (hsl : slots + 0 ≤ 7144758) (hst : (rest.map fun v => v.category).sum ≤ 8) (hd : decode cb_W_law pc = .ok (.invokevirtual 37, 3)) (kk : ∀ (r : Int32) (S1 S2 : fm) (H1 : Heap) (locs1 : List Loc), fP x S1 H1 → fS x H0 H1 locs1 → Met l mn_M_deliver (gw_ws mn_M_deliver cb_M_deliver 11 (some .int)) ({ frames := 2, cells := 0, slots := 0, locals := 50 } : Room) (fPc x S1 [.ref (xa x 16 0), .int z, .int y, .int j]) (fQi x S2 r) 0 0 (fun q => xs x ≤ q) → SIM x (n + 2) S2 → W p l e room_1 s m args below meth c H1 locs1 (cells + 0) (slots + 0) Q (F0 m (pc + 3) ls (.int r :: rest))) : W p l e room_1 s m args below meth c H locs cells slots Q (F0 m pc ls (.int j :: .int y :: .int z :: .ref (xa x 0 0) :: rest)) := by
  obtain ⟨r, S1, S2, a, b, d⟩ := pr_deliver l hO hL hM hn hs z y j
  exact k_W_X_deliver cx hl hP hS hL.1 a ⟨⟨rfl, rfl⟩, ⟨(Nat.le_of_ble_eq_true rfl), (Nat.le_of_ble_eq_true rfl)⟩, hc, hsl⟩ hst hd (fun H1 locs1 h1 h2 => kk r S1 S2 H1 locs1 h1 h2 b d)
set_option maxHeartbeats 4000000 in
set_option maxRecDepth 100000 in
theorem lo_deliver {b L i : Nat} {ys : Nat → Int32} (cx : fX rn_W cb_W_law 4 p c s m args x) (hO : fO x) (hL : fL x) (hM : fM x) (hX : va_X b L ys s H0) (hbl : b < H0.size) (hbA : ¬ xs x ≤ b) (hi : i + 3 < L) (hLL : L ≤ 2051) (hn : n + 2 ≤ 100000) (hs : SIM x n S) (hl : lv_has ls 4 [(3, .int (nI i)), (2, .ref (xa x 16 0)), (1, .ref (xa x 0 0)), (0, .ref b)]) (hP : fP x S H) (hS : fS x H0 H locs) (hc : cells + 7 ≤ 652497) (hsl : slots + 42 ≤ 7144758) (kk : ∀ (S2 : fm) (H1 : Heap) (locs1 : List Loc) (c1 s1 : Nat), fP x S2 H1 → fS x H0 H1 locs1 → SIM x (n + 2) S2 → c1 ≤ cells + 7 → s1 ≤ slots + 42 → W p l e room_1 s m args below meth c H1 locs1 c1 s1 Q (F0 m 710 ls [])) : W p l e room_1 s m args below meth c H locs cells slots Q (F0 m 261 ls []) := by
  have hx := cx.1.1
  have hb := cx.1.2.1
  refine lv_aload_n (pc := 261) hx hb dd_W_law_261 rfl (lv_at hl 2 rfl) ?_
  refine lv_aload_n (pc := 262) hx hb dd_W_law_262 rfl (lv_at hl 3 rfl) ?_
  refine lv_iload_n (pc := 263) hx hb dd_W_law_263 rfl (lv_at hl 0 rfl) ?_
  refine lv_iconst (pc := 264) (v := nI 1) hx hb dd_W_law_264 (by decide) ?_
  refine lv_iadd (pc := 265) hx hb dd_W_law_265 ?_
  refine va_sld (pc := 266) hx hb hX hbl hbA hS (sc_in (d := 1) hi hLL (by decide)) dd_W_law_266 ?_
  refine lv_aload_n (pc := 267) hx hb dd_W_law_267 rfl (lv_at hl 3 rfl) ?_
  refine lv_iload_n (pc := 268) hx hb dd_W_law_268 rfl (lv_at hl 0 rfl) ?_
  refine lv_iconst (pc := 269) (v := nI 2) hx hb dd_W_law_269 (by decide) ?_
  refine lv_iadd (pc := 270) hx hb dd_W_law_270 ?_
  refine va_sld (pc := 271) hx hb hX hbl hbA hS (sc_in (d := 2) hi hLL (by decide)) dd_W_law_271 ?_
  refine lv_aload_n (pc := 272) hx hb dd_W_law_272 rfl (lv_at hl 3 rfl) ?_
  refine lv_iload_n (pc := 273) hx hb dd_W_law_273 rfl (lv_at hl 0 rfl) ?_
  refine lv_iconst (pc := 274) (v := nI 3) hx hb dd_W_law_274 (by decide) ?_
  refine lv_iadd (pc := 275) hx hb dd_W_law_275 ?_
  refine va_sld (pc := 276) hx hb hX hbl hbA hS (sc_in (d := 3) hi hLL (by decide)) dd_W_law_276 ?_
  refine kp_deliver (pc := 277) cx hl hP hS hO hL hM hn hs (by omega) (by omega) (Nat.le_of_ble_eq_true rfl) dd_W_law_277 (fun r S1 S2 H locs hP hS hM1 hs2 => ?_)
  refine lv_aload_n (pc := 280) hx hb dd_W_law_280 rfl (lv_at hl 1 rfl) ?_
  refine lv_aload_n (pc := 281) hx hb dd_W_law_281 rfl (lv_at hl 3 rfl) ?_
  refine lv_iload_n (pc := 282) hx hb dd_W_law_282 rfl (lv_at hl 0 rfl) ?_
  refine lv_iconst (pc := 283) (v := nI 1) hx hb dd_W_law_283 (by decide) ?_
  refine lv_iadd (pc := 284) hx hb dd_W_law_284 ?_
  refine va_sld (pc := 285) hx hb hX hbl hbA hS (sc_in (d := 1) hi hLL (by decide)) dd_W_law_285 ?_
  refine lv_aload_n (pc := 286) hx hb dd_W_law_286 rfl (lv_at hl 3 rfl) ?_
  refine lv_iload_n (pc := 287) hx hb dd_W_law_287 rfl (lv_at hl 0 rfl) ?_
  refine lv_iconst (pc := 288) (v := nI 2) hx hb dd_W_law_288 (by decide) ?_
  refine lv_iadd (pc := 289) hx hb dd_W_law_289 ?_
  refine va_sld (pc := 290) hx hb hX hbl hbA hS (sc_in (d := 2) hi hLL (by decide)) dd_W_law_290 ?_
  refine lv_aload_n (pc := 291) hx hb dd_W_law_291 rfl (lv_at hl 3 rfl) ?_
  refine lv_iload_n (pc := 292) hx hb dd_W_law_292 rfl (lv_at hl 0 rfl) ?_
  refine lv_iconst (pc := 293) (v := nI 3) hx hb dd_W_law_293 (by decide) ?_
  refine lv_iadd (pc := 294) hx hb dd_W_law_294 ?_
  refine va_sld (pc := 295) hx hb hX hbl hbA hS (sc_in (d := 3) hi hLL (by decide)) dd_W_law_295 ?_
  refine k_W_M_deliver (pc := 296) cx hl hP hS hM.1 hM1 ⟨⟨rfl, rfl⟩, ⟨(Nat.le_of_ble_eq_true rfl), (Nat.le_of_ble_eq_true rfl)⟩, (show _ ≤ 652497 by omega), (show _ ≤ 7144758 by omega)⟩ (Nat.le_of_ble_eq_true rfl) dd_W_law_296 (fun H locs hP hS => ?_)
  refine lv_icmp_eq (pc := 299) (tgt := 710) hx hb dd_W_law_299 (by decide) (fun h0 => ?_) (fun h0 => ?_)
  · exact kk S2 H locs _ _ hP hS hs2 (by omega) (by omega)
  · exact absurd rfl h0
theorem kp_hear {z : Int32} {y : Int32} {j : Int32} {lv : List (Nat × Value)} (cx : fX rn_W cb_W_law 4 p c s m args x) (hl : lv_has ls 4 lv) (hP : fP x S H) (hS : fS x H0 H locs) (hO : fO x) (hL : fL x) (hM : fM x) (hn : n + 2 ≤ 100000) (hs : SIM x n S) (hc : cells + 7 ≤ 652497) (hsl : slots + 42 ≤ 7144758) (hst : (rest.map fun v => v.category).sum ≤ 8) (hd : decode cb_W_law pc = .ok (.invokevirtual 42, 3)) (kk : ∀ (r : Int32) (S1 S2 : fm) (H1 : Heap) (locs1 : List Loc), fP x S1 H1 → fS x H0 H1 locs1 → Met l mn_M_hear (gw_ws mn_M_hear cb_M_hear 10 (some .int)) ({ frames := 3, cells := 0, slots := 0, locals := 70 } : Room) (fPc x S1 [.ref (xa x 16 0), .int z, .int y, .int j]) (fQi x S2 r) 0 0 (fun q => xs x ≤ q) → SIM x (n + 2) S2 → W p l e room_1 s m args below meth c H1 locs1 (cells + 7) (slots + 42) Q (F0 m (pc + 3) ls (.int r :: rest))) : W p l e room_1 s m args below meth c H locs cells slots Q (F0 m pc ls (.int j :: .int y :: .int z :: .ref (xa x 0 0) :: rest)) := by
  obtain ⟨r, S1, S2, a, b, d⟩ := pr_hear l hO hL hM hn hs z y j
  exact k_W_X_hear cx hl hP hS hL.1 a ⟨⟨rfl, rfl⟩, ⟨(Nat.le_of_ble_eq_true rfl), (Nat.le_of_ble_eq_true rfl)⟩, hc, hsl⟩ hst hd (fun H1 locs1 h1 h2 => kk r S1 S2 H1 locs1 h1 h2 b d)
set_option maxHeartbeats 4000000 in
set_option maxRecDepth 100000 in
theorem lo_hear {b L i : Nat} {ys : Nat → Int32} (cx : fX rn_W cb_W_law 4 p c s m args x) (hO : fO x) (hL : fL x) (hM : fM x) (hX : va_X b L ys s H0) (hbl : b < H0.size) (hbA : ¬ xs x ≤ b) (hi : i + 3 < L) (hLL : L ≤ 2051) (hn : n + 2 ≤ 100000) (hs : SIM x n S) (hl : lv_has ls 4 [(3, .int (nI i)), (2, .ref (xa x 16 0)), (1, .ref (xa x 0 0)), (0, .ref b)]) (hP : fP x S H) (hS : fS x H0 H locs) (hc : cells + 7 ≤ 652497) (hsl : slots + 42 ≤ 7144758) (kk : ∀ (S2 : fm) (H1 : Heap) (locs1 : List Loc) (c1 s1 : Nat), fP x S2 H1 → fS x H0 H1 locs1 → SIM x (n + 2) S2 → c1 ≤ cells + 7 → s1 ≤ slots + 42 → W p l e room_1 s m args below meth c H1 locs1 c1 s1 Q (F0 m 710 ls [])) : W p l e room_1 s m args below meth c H locs cells slots Q (F0 m 304 ls []) := by
  have hx := cx.1.1
  have hb := cx.1.2.1
  refine lv_aload_n (pc := 304) hx hb dd_W_law_304 rfl (lv_at hl 2 rfl) ?_
  refine lv_aload_n (pc := 305) hx hb dd_W_law_305 rfl (lv_at hl 3 rfl) ?_
  refine lv_iload_n (pc := 306) hx hb dd_W_law_306 rfl (lv_at hl 0 rfl) ?_
  refine lv_iconst (pc := 307) (v := nI 1) hx hb dd_W_law_307 (by decide) ?_
  refine lv_iadd (pc := 308) hx hb dd_W_law_308 ?_
  refine va_sld (pc := 309) hx hb hX hbl hbA hS (sc_in (d := 1) hi hLL (by decide)) dd_W_law_309 ?_
  refine lv_aload_n (pc := 310) hx hb dd_W_law_310 rfl (lv_at hl 3 rfl) ?_
  refine lv_iload_n (pc := 311) hx hb dd_W_law_311 rfl (lv_at hl 0 rfl) ?_
  refine lv_iconst (pc := 312) (v := nI 2) hx hb dd_W_law_312 (by decide) ?_
  refine lv_iadd (pc := 313) hx hb dd_W_law_313 ?_
  refine va_sld (pc := 314) hx hb hX hbl hbA hS (sc_in (d := 2) hi hLL (by decide)) dd_W_law_314 ?_
  refine lv_aload_n (pc := 315) hx hb dd_W_law_315 rfl (lv_at hl 3 rfl) ?_
  refine lv_iload_n (pc := 316) hx hb dd_W_law_316 rfl (lv_at hl 0 rfl) ?_
  refine lv_iconst (pc := 317) (v := nI 3) hx hb dd_W_law_317 (by decide) ?_
  refine lv_iadd (pc := 318) hx hb dd_W_law_318 ?_
  refine va_sld (pc := 319) hx hb hX hbl hbA hS (sc_in (d := 3) hi hLL (by decide)) dd_W_law_319 ?_
  refine kp_hear (pc := 320) cx hl hP hS hO hL hM hn hs (by omega) (by omega) (Nat.le_of_ble_eq_true rfl) dd_W_law_320 (fun r S1 S2 H locs hP hS hM1 hs2 => ?_)
  refine lv_aload_n (pc := 323) hx hb dd_W_law_323 rfl (lv_at hl 1 rfl) ?_
  refine lv_aload_n (pc := 324) hx hb dd_W_law_324 rfl (lv_at hl 3 rfl) ?_
  refine lv_iload_n (pc := 325) hx hb dd_W_law_325 rfl (lv_at hl 0 rfl) ?_
  refine lv_iconst (pc := 326) (v := nI 1) hx hb dd_W_law_326 (by decide) ?_
  refine lv_iadd (pc := 327) hx hb dd_W_law_327 ?_
  refine va_sld (pc := 328) hx hb hX hbl hbA hS (sc_in (d := 1) hi hLL (by decide)) dd_W_law_328 ?_
  refine lv_aload_n (pc := 329) hx hb dd_W_law_329 rfl (lv_at hl 3 rfl) ?_
  refine lv_iload_n (pc := 330) hx hb dd_W_law_330 rfl (lv_at hl 0 rfl) ?_
  refine lv_iconst (pc := 331) (v := nI 2) hx hb dd_W_law_331 (by decide) ?_
  refine lv_iadd (pc := 332) hx hb dd_W_law_332 ?_
  refine va_sld (pc := 333) hx hb hX hbl hbA hS (sc_in (d := 2) hi hLL (by decide)) dd_W_law_333 ?_
  refine lv_aload_n (pc := 334) hx hb dd_W_law_334 rfl (lv_at hl 3 rfl) ?_
  refine lv_iload_n (pc := 335) hx hb dd_W_law_335 rfl (lv_at hl 0 rfl) ?_
  refine lv_iconst (pc := 336) (v := nI 3) hx hb dd_W_law_336 (by decide) ?_
  refine lv_iadd (pc := 337) hx hb dd_W_law_337 ?_
  refine va_sld (pc := 338) hx hb hX hbl hbA hS (sc_in (d := 3) hi hLL (by decide)) dd_W_law_338 ?_
  refine k_W_M_hear (pc := 339) cx hl hP hS hM.1 hM1 ⟨⟨rfl, rfl⟩, ⟨(Nat.le_of_ble_eq_true rfl), (Nat.le_of_ble_eq_true rfl)⟩, (show _ ≤ 652497 by omega), (show _ ≤ 7144758 by omega)⟩ (Nat.le_of_ble_eq_true rfl) dd_W_law_339 (fun H locs hP hS => ?_)
  refine lv_icmp_eq (pc := 342) (tgt := 710) hx hb dd_W_law_342 (by decide) (fun h0 => ?_) (fun h0 => ?_)
  · exact kk S2 H locs _ _ hP hS hs2 (by omega) (by omega)
  · exact absurd rfl h0
theorem kp_crash {z : Int32} {lv : List (Nat × Value)} (cx : fX rn_W cb_W_law 4 p c s m args x) (hl : lv_has ls 4 lv) (hP : fP x S H) (hS : fS x H0 H locs) (hO : fO x) (hL : fL x) (hM : fM x) (hn : n + 2 ≤ 100000) (hs : SIM x n S) (hc : cells + 0 ≤ 652497) (hsl : slots + 0 ≤ 7144758) (hst : (rest.map fun v => v.category).sum ≤ 8) (hd : decode cb_W_law pc = .ok (.invokevirtual 46, 3)) (kk : ∀ (r : Int32) (S1 S2 : fm) (H1 : Heap) (locs1 : List Loc), fP x S1 H1 → fS x H0 H1 locs1 → Met l mn_M_crash (gw_ws mn_M_crash cb_M_crash 4 (some .boolean)) ({ frames := 1, cells := 0, slots := 0, locals := 22 } : Room) (fPc x S1 [.ref (xa x 16 0), .int z]) (fQi x S2 r) 0 0 (fun q => xs x ≤ q) → SIM x (n + 2) S2 → W p l e room_1 s m args below meth c H1 locs1 (cells + 0) (slots + 0) Q (F0 m (pc + 3) ls (.int r :: rest))) : W p l e room_1 s m args below meth c H locs cells slots Q (F0 m pc ls (.int z :: .ref (xa x 0 0) :: rest)) := by
  obtain ⟨r, S1, S2, a, b, d⟩ := pr_crash l hO hL hM hn hs z
  exact k_W_X_crash cx hl hP hS hL.1 a ⟨⟨rfl, rfl⟩, ⟨(Nat.le_of_ble_eq_true rfl), (Nat.le_of_ble_eq_true rfl)⟩, hc, hsl⟩ hst hd (fun H1 locs1 h1 h2 => kk r S1 S2 H1 locs1 h1 h2 b d)
set_option maxHeartbeats 4000000 in
set_option maxRecDepth 100000 in
theorem lo_crash {b L i : Nat} {ys : Nat → Int32} (cx : fX rn_W cb_W_law 4 p c s m args x) (hO : fO x) (hL : fL x) (hM : fM x) (hX : va_X b L ys s H0) (hbl : b < H0.size) (hbA : ¬ xs x ≤ b) (hi : i + 3 < L) (hLL : L ≤ 2051) (hn : n + 2 ≤ 100000) (hs : SIM x n S) (hl : lv_has ls 4 [(3, .int (nI i)), (2, .ref (xa x 16 0)), (1, .ref (xa x 0 0)), (0, .ref b)]) (hP : fP x S H) (hS : fS x H0 H locs) (hc : cells + 7 ≤ 652497) (hsl : slots + 42 ≤ 7144758) (kk : ∀ (S2 : fm) (H1 : Heap) (locs1 : List Loc) (c1 s1 : Nat), fP x S2 H1 → fS x H0 H1 locs1 → SIM x (n + 2) S2 → c1 ≤ cells + 7 → s1 ≤ slots + 42 → W p l e room_1 s m args below meth c H1 locs1 c1 s1 Q (F0 m 710 ls [])) : W p l e room_1 s m args below meth c H locs cells slots Q (F0 m 347 ls []) := by
  have hx := cx.1.1
  have hb := cx.1.2.1
  refine lv_aload_n (pc := 347) hx hb dd_W_law_347 rfl (lv_at hl 2 rfl) ?_
  refine lv_aload_n (pc := 348) hx hb dd_W_law_348 rfl (lv_at hl 3 rfl) ?_
  refine lv_iload_n (pc := 349) hx hb dd_W_law_349 rfl (lv_at hl 0 rfl) ?_
  refine lv_iconst (pc := 350) (v := nI 1) hx hb dd_W_law_350 (by decide) ?_
  refine lv_iadd (pc := 351) hx hb dd_W_law_351 ?_
  refine va_sld (pc := 352) hx hb hX hbl hbA hS (sc_in (d := 1) hi hLL (by decide)) dd_W_law_352 ?_
  refine kp_crash (pc := 353) cx hl hP hS hO hL hM hn hs (by omega) (by omega) (Nat.le_of_ble_eq_true rfl) dd_W_law_353 (fun r S1 S2 H locs hP hS hM1 hs2 => ?_)
  refine lv_aload_n (pc := 356) hx hb dd_W_law_356 rfl (lv_at hl 1 rfl) ?_
  refine lv_aload_n (pc := 357) hx hb dd_W_law_357 rfl (lv_at hl 3 rfl) ?_
  refine lv_iload_n (pc := 358) hx hb dd_W_law_358 rfl (lv_at hl 0 rfl) ?_
  refine lv_iconst (pc := 359) (v := nI 1) hx hb dd_W_law_359 (by decide) ?_
  refine lv_iadd (pc := 360) hx hb dd_W_law_360 ?_
  refine va_sld (pc := 361) hx hb hX hbl hbA hS (sc_in (d := 1) hi hLL (by decide)) dd_W_law_361 ?_
  refine k_W_M_crash (pc := 362) cx hl hP hS hM.1 hM1 ⟨⟨rfl, rfl⟩, ⟨(Nat.le_of_ble_eq_true rfl), (Nat.le_of_ble_eq_true rfl)⟩, (show _ ≤ 652497 by omega), (show _ ≤ 7144758 by omega)⟩ (Nat.le_of_ble_eq_true rfl) dd_W_law_362 (fun H locs hP hS => ?_)
  refine lv_icmp_eq (pc := 365) (tgt := 710) hx hb dd_W_law_365 (by decide) (fun h0 => ?_) (fun h0 => ?_)
  · exact kk S2 H locs _ _ hP hS hs2 (by omega) (by omega)
  · exact absurd rfl h0
theorem kp_stop {z : Int32} {lv : List (Nat × Value)} (cx : fX rn_W cb_W_law 4 p c s m args x) (hl : lv_has ls 4 lv) (hP : fP x S H) (hS : fS x H0 H locs) (hO : fO x) (hL : fL x) (hM : fM x) (hn : n + 2 ≤ 100000) (hs : SIM x n S) (hc : cells + 0 ≤ 652497) (hsl : slots + 0 ≤ 7144758) (hst : (rest.map fun v => v.category).sum ≤ 8) (hd : decode cb_W_law pc = .ok (.invokevirtual 51, 3)) (kk : ∀ (r : Int32) (S1 S2 : fm) (H1 : Heap) (locs1 : List Loc), fP x S1 H1 → fS x H0 H1 locs1 → Met l mn_M_stop (gw_ws mn_M_stop cb_M_stop 2 (some .boolean)) ({ frames := 1, cells := 0, slots := 0, locals := 21 } : Room) (fPc x S1 [.ref (xa x 16 0), .int z]) (fQi x S2 r) 0 0 (fun q => xs x ≤ q) → SIM x (n + 2) S2 → W p l e room_1 s m args below meth c H1 locs1 (cells + 0) (slots + 0) Q (F0 m (pc + 3) ls (.int r :: rest))) : W p l e room_1 s m args below meth c H locs cells slots Q (F0 m pc ls (.int z :: .ref (xa x 0 0) :: rest)) := by
  obtain ⟨r, S1, S2, a, b, d⟩ := pr_stop l hO hL hM hn hs z
  exact k_W_X_stop cx hl hP hS hL.1 a ⟨⟨rfl, rfl⟩, ⟨(Nat.le_of_ble_eq_true rfl), (Nat.le_of_ble_eq_true rfl)⟩, hc, hsl⟩ hst hd (fun H1 locs1 h1 h2 => kk r S1 S2 H1 locs1 h1 h2 b d)
set_option maxHeartbeats 4000000 in
set_option maxRecDepth 100000 in
theorem lo_stop {b L i : Nat} {ys : Nat → Int32} (cx : fX rn_W cb_W_law 4 p c s m args x) (hO : fO x) (hL : fL x) (hM : fM x) (hX : va_X b L ys s H0) (hbl : b < H0.size) (hbA : ¬ xs x ≤ b) (hi : i + 3 < L) (hLL : L ≤ 2051) (hn : n + 2 ≤ 100000) (hs : SIM x n S) (hl : lv_has ls 4 [(3, .int (nI i)), (2, .ref (xa x 16 0)), (1, .ref (xa x 0 0)), (0, .ref b)]) (hP : fP x S H) (hS : fS x H0 H locs) (hc : cells + 7 ≤ 652497) (hsl : slots + 42 ≤ 7144758) (kk : ∀ (S2 : fm) (H1 : Heap) (locs1 : List Loc) (c1 s1 : Nat), fP x S2 H1 → fS x H0 H1 locs1 → SIM x (n + 2) S2 → c1 ≤ cells + 7 → s1 ≤ slots + 42 → W p l e room_1 s m args below meth c H1 locs1 c1 s1 Q (F0 m 710 ls [])) : W p l e room_1 s m args below meth c H locs cells slots Q (F0 m 370 ls []) := by
  have hx := cx.1.1
  have hb := cx.1.2.1
  refine lv_aload_n (pc := 370) hx hb dd_W_law_370 rfl (lv_at hl 2 rfl) ?_
  refine lv_aload_n (pc := 371) hx hb dd_W_law_371 rfl (lv_at hl 3 rfl) ?_
  refine lv_iload_n (pc := 372) hx hb dd_W_law_372 rfl (lv_at hl 0 rfl) ?_
  refine lv_iconst (pc := 373) (v := nI 1) hx hb dd_W_law_373 (by decide) ?_
  refine lv_iadd (pc := 374) hx hb dd_W_law_374 ?_
  refine va_sld (pc := 375) hx hb hX hbl hbA hS (sc_in (d := 1) hi hLL (by decide)) dd_W_law_375 ?_
  refine kp_stop (pc := 376) cx hl hP hS hO hL hM hn hs (by omega) (by omega) (Nat.le_of_ble_eq_true rfl) dd_W_law_376 (fun r S1 S2 H locs hP hS hM1 hs2 => ?_)
  refine lv_aload_n (pc := 379) hx hb dd_W_law_379 rfl (lv_at hl 1 rfl) ?_
  refine lv_aload_n (pc := 380) hx hb dd_W_law_380 rfl (lv_at hl 3 rfl) ?_
  refine lv_iload_n (pc := 381) hx hb dd_W_law_381 rfl (lv_at hl 0 rfl) ?_
  refine lv_iconst (pc := 382) (v := nI 1) hx hb dd_W_law_382 (by decide) ?_
  refine lv_iadd (pc := 383) hx hb dd_W_law_383 ?_
  refine va_sld (pc := 384) hx hb hX hbl hbA hS (sc_in (d := 1) hi hLL (by decide)) dd_W_law_384 ?_
  refine k_W_M_stop (pc := 385) cx hl hP hS hM.1 hM1 ⟨⟨rfl, rfl⟩, ⟨(Nat.le_of_ble_eq_true rfl), (Nat.le_of_ble_eq_true rfl)⟩, (show _ ≤ 652497 by omega), (show _ ≤ 7144758 by omega)⟩ (Nat.le_of_ble_eq_true rfl) dd_W_law_385 (fun H locs hP hS => ?_)
  refine lv_icmp_eq (pc := 388) (tgt := 710) hx hb dd_W_law_388 (by decide) (fun h0 => ?_) (fun h0 => ?_)
  · exact kk S2 H locs _ _ hP hS hs2 (by omega) (by omega)
  · exact absurd rfl h0
theorem kp_phase {z : Int32} {lv : List (Nat × Value)} (cx : fX rn_W cb_W_law 4 p c s m args x) (hl : lv_has ls 4 lv) (hP : fP x S H) (hS : fS x H0 H locs) (hO : fO x) (hL : fL x) (hM : fM x) (hn : n + 2 ≤ 100000) (hs : SIM x n S) (hc : cells + 0 ≤ 652497) (hsl : slots + 0 ≤ 7144758) (hst : (rest.map fun v => v.category).sum ≤ 8) (hd : decode cb_W_law pc = .ok (.invokevirtual 55, 3)) (kk : ∀ (r : Int32) (S1 S2 : fm) (H1 : Heap) (locs1 : List Loc), fP x S1 H1 → fS x H0 H1 locs1 → Met l mn_M_phase (gw_ws mn_M_phase cb_M_phase 2 (some .int)) ({ frames := 1, cells := 0, slots := 0, locals := 21 } : Room) (fPc x S1 [.ref (xa x 16 0), .int z]) (fQi x S2 r) 0 0 (fun q => xs x ≤ q) → SIM x (n + 2) S2 → W p l e room_1 s m args below meth c H1 locs1 (cells + 0) (slots + 0) Q (F0 m (pc + 3) ls (.int r :: rest))) : W p l e room_1 s m args below meth c H locs cells slots Q (F0 m pc ls (.int z :: .ref (xa x 0 0) :: rest)) := by
  obtain ⟨r, S1, S2, a, b, d⟩ := pr_phase l hO hL hM hn hs z
  exact k_W_X_phase cx hl hP hS hL.1 a ⟨⟨rfl, rfl⟩, ⟨(Nat.le_of_ble_eq_true rfl), (Nat.le_of_ble_eq_true rfl)⟩, hc, hsl⟩ hst hd (fun H1 locs1 h1 h2 => kk r S1 S2 H1 locs1 h1 h2 b d)
set_option maxHeartbeats 4000000 in
set_option maxRecDepth 100000 in
theorem lo_phase {b L i : Nat} {ys : Nat → Int32} (cx : fX rn_W cb_W_law 4 p c s m args x) (hO : fO x) (hL : fL x) (hM : fM x) (hX : va_X b L ys s H0) (hbl : b < H0.size) (hbA : ¬ xs x ≤ b) (hi : i + 3 < L) (hLL : L ≤ 2051) (hn : n + 2 ≤ 100000) (hs : SIM x n S) (hl : lv_has ls 4 [(3, .int (nI i)), (2, .ref (xa x 16 0)), (1, .ref (xa x 0 0)), (0, .ref b)]) (hP : fP x S H) (hS : fS x H0 H locs) (hc : cells + 7 ≤ 652497) (hsl : slots + 42 ≤ 7144758) (kk : ∀ (S2 : fm) (H1 : Heap) (locs1 : List Loc) (c1 s1 : Nat), fP x S2 H1 → fS x H0 H1 locs1 → SIM x (n + 2) S2 → c1 ≤ cells + 7 → s1 ≤ slots + 42 → W p l e room_1 s m args below meth c H1 locs1 c1 s1 Q (F0 m 710 ls [])) : W p l e room_1 s m args below meth c H locs cells slots Q (F0 m 393 ls []) := by
  have hx := cx.1.1
  have hb := cx.1.2.1
  refine lv_aload_n (pc := 393) hx hb dd_W_law_393 rfl (lv_at hl 2 rfl) ?_
  refine lv_aload_n (pc := 394) hx hb dd_W_law_394 rfl (lv_at hl 3 rfl) ?_
  refine lv_iload_n (pc := 395) hx hb dd_W_law_395 rfl (lv_at hl 0 rfl) ?_
  refine lv_iconst (pc := 396) (v := nI 1) hx hb dd_W_law_396 (by decide) ?_
  refine lv_iadd (pc := 397) hx hb dd_W_law_397 ?_
  refine va_sld (pc := 398) hx hb hX hbl hbA hS (sc_in (d := 1) hi hLL (by decide)) dd_W_law_398 ?_
  refine kp_phase (pc := 399) cx hl hP hS hO hL hM hn hs (by omega) (by omega) (Nat.le_of_ble_eq_true rfl) dd_W_law_399 (fun r S1 S2 H locs hP hS hM1 hs2 => ?_)
  refine lv_aload_n (pc := 402) hx hb dd_W_law_402 rfl (lv_at hl 1 rfl) ?_
  refine lv_aload_n (pc := 403) hx hb dd_W_law_403 rfl (lv_at hl 3 rfl) ?_
  refine lv_iload_n (pc := 404) hx hb dd_W_law_404 rfl (lv_at hl 0 rfl) ?_
  refine lv_iconst (pc := 405) (v := nI 1) hx hb dd_W_law_405 (by decide) ?_
  refine lv_iadd (pc := 406) hx hb dd_W_law_406 ?_
  refine va_sld (pc := 407) hx hb hX hbl hbA hS (sc_in (d := 1) hi hLL (by decide)) dd_W_law_407 ?_
  refine k_W_M_phase (pc := 408) cx hl hP hS hM.1 hM1 ⟨⟨rfl, rfl⟩, ⟨(Nat.le_of_ble_eq_true rfl), (Nat.le_of_ble_eq_true rfl)⟩, (show _ ≤ 652497 by omega), (show _ ≤ 7144758 by omega)⟩ (Nat.le_of_ble_eq_true rfl) dd_W_law_408 (fun H locs hP hS => ?_)
  refine lv_icmp_eq (pc := 411) (tgt := 710) hx hb dd_W_law_411 (by decide) (fun h0 => ?_) (fun h0 => ?_)
  · exact kk S2 H locs _ _ hP hS hs2 (by omega) (by omega)
  · exact absurd rfl h0
theorem kp_heard {z : Int32} {lv : List (Nat × Value)} (cx : fX rn_W cb_W_law 4 p c s m args x) (hl : lv_has ls 4 lv) (hP : fP x S H) (hS : fS x H0 H locs) (hO : fO x) (hL : fL x) (hM : fM x) (hn : n + 2 ≤ 100000) (hs : SIM x n S) (hc : cells + 0 ≤ 652497) (hsl : slots + 0 ≤ 7144758) (hst : (rest.map fun v => v.category).sum ≤ 8) (hd : decode cb_W_law pc = .ok (.invokevirtual 59, 3)) (kk : ∀ (r : Int32) (S1 S2 : fm) (H1 : Heap) (locs1 : List Loc), fP x S1 H1 → fS x H0 H1 locs1 → Met l mn_M_heard (gw_ws mn_M_heard cb_M_heard 2 (some .int)) ({ frames := 1, cells := 0, slots := 0, locals := 21 } : Room) (fPc x S1 [.ref (xa x 16 0), .int z]) (fQi x S2 r) 0 0 (fun q => xs x ≤ q) → SIM x (n + 2) S2 → W p l e room_1 s m args below meth c H1 locs1 (cells + 0) (slots + 0) Q (F0 m (pc + 3) ls (.int r :: rest))) : W p l e room_1 s m args below meth c H locs cells slots Q (F0 m pc ls (.int z :: .ref (xa x 0 0) :: rest)) := by
  obtain ⟨r, S1, S2, a, b, d⟩ := pr_heard l hO hL hM hn hs z
  exact k_W_X_heard cx hl hP hS hL.1 a ⟨⟨rfl, rfl⟩, ⟨(Nat.le_of_ble_eq_true rfl), (Nat.le_of_ble_eq_true rfl)⟩, hc, hsl⟩ hst hd (fun H1 locs1 h1 h2 => kk r S1 S2 H1 locs1 h1 h2 b d)
set_option maxHeartbeats 4000000 in
set_option maxRecDepth 100000 in
theorem lo_heard {b L i : Nat} {ys : Nat → Int32} (cx : fX rn_W cb_W_law 4 p c s m args x) (hO : fO x) (hL : fL x) (hM : fM x) (hX : va_X b L ys s H0) (hbl : b < H0.size) (hbA : ¬ xs x ≤ b) (hi : i + 3 < L) (hLL : L ≤ 2051) (hn : n + 2 ≤ 100000) (hs : SIM x n S) (hl : lv_has ls 4 [(3, .int (nI i)), (2, .ref (xa x 16 0)), (1, .ref (xa x 0 0)), (0, .ref b)]) (hP : fP x S H) (hS : fS x H0 H locs) (hc : cells + 7 ≤ 652497) (hsl : slots + 42 ≤ 7144758) (kk : ∀ (S2 : fm) (H1 : Heap) (locs1 : List Loc) (c1 s1 : Nat), fP x S2 H1 → fS x H0 H1 locs1 → SIM x (n + 2) S2 → c1 ≤ cells + 7 → s1 ≤ slots + 42 → W p l e room_1 s m args below meth c H1 locs1 c1 s1 Q (F0 m 710 ls [])) : W p l e room_1 s m args below meth c H locs cells slots Q (F0 m 416 ls []) := by
  have hx := cx.1.1
  have hb := cx.1.2.1
  refine lv_aload_n (pc := 416) hx hb dd_W_law_416 rfl (lv_at hl 2 rfl) ?_
  refine lv_aload_n (pc := 417) hx hb dd_W_law_417 rfl (lv_at hl 3 rfl) ?_
  refine lv_iload_n (pc := 418) hx hb dd_W_law_418 rfl (lv_at hl 0 rfl) ?_
  refine lv_iconst (pc := 419) (v := nI 1) hx hb dd_W_law_419 (by decide) ?_
  refine lv_iadd (pc := 420) hx hb dd_W_law_420 ?_
  refine va_sld (pc := 421) hx hb hX hbl hbA hS (sc_in (d := 1) hi hLL (by decide)) dd_W_law_421 ?_
  refine kp_heard (pc := 422) cx hl hP hS hO hL hM hn hs (by omega) (by omega) (Nat.le_of_ble_eq_true rfl) dd_W_law_422 (fun r S1 S2 H locs hP hS hM1 hs2 => ?_)
  refine lv_aload_n (pc := 425) hx hb dd_W_law_425 rfl (lv_at hl 1 rfl) ?_
  refine lv_aload_n (pc := 426) hx hb dd_W_law_426 rfl (lv_at hl 3 rfl) ?_
  refine lv_iload_n (pc := 427) hx hb dd_W_law_427 rfl (lv_at hl 0 rfl) ?_
  refine lv_iconst (pc := 428) (v := nI 1) hx hb dd_W_law_428 (by decide) ?_
  refine lv_iadd (pc := 429) hx hb dd_W_law_429 ?_
  refine va_sld (pc := 430) hx hb hX hbl hbA hS (sc_in (d := 1) hi hLL (by decide)) dd_W_law_430 ?_
  refine k_W_M_heard (pc := 431) cx hl hP hS hM.1 hM1 ⟨⟨rfl, rfl⟩, ⟨(Nat.le_of_ble_eq_true rfl), (Nat.le_of_ble_eq_true rfl)⟩, (show _ ≤ 652497 by omega), (show _ ≤ 7144758 by omega)⟩ (Nat.le_of_ble_eq_true rfl) dd_W_law_431 (fun H locs hP hS => ?_)
  refine lv_icmp_eq (pc := 434) (tgt := 710) hx hb dd_W_law_434 (by decide) (fun h0 => ?_) (fun h0 => ?_)
  · exact kk S2 H locs _ _ hP hS hs2 (by omega) (by omega)
  · exact absurd rfl h0
theorem kp_tag {z : Int32} {lv : List (Nat × Value)} (cx : fX rn_W cb_W_law 4 p c s m args x) (hl : lv_has ls 4 lv) (hP : fP x S H) (hS : fS x H0 H locs) (hO : fO x) (hL : fL x) (hM : fM x) (hn : n + 2 ≤ 100000) (hs : SIM x n S) (hc : cells + 0 ≤ 652497) (hsl : slots + 0 ≤ 7144758) (hst : (rest.map fun v => v.category).sum ≤ 8) (hd : decode cb_W_law pc = .ok (.invokevirtual 63, 3)) (kk : ∀ (r : Int32) (S1 S2 : fm) (H1 : Heap) (locs1 : List Loc), fP x S1 H1 → fS x H0 H1 locs1 → Met l mn_M_tag (gw_ws mn_M_tag cb_M_tag 2 (some .int)) ({ frames := 1, cells := 0, slots := 0, locals := 21 } : Room) (fPc x S1 [.ref (xa x 16 0), .int z]) (fQi x S2 r) 0 0 (fun q => xs x ≤ q) → SIM x (n + 2) S2 → W p l e room_1 s m args below meth c H1 locs1 (cells + 0) (slots + 0) Q (F0 m (pc + 3) ls (.int r :: rest))) : W p l e room_1 s m args below meth c H locs cells slots Q (F0 m pc ls (.int z :: .ref (xa x 0 0) :: rest)) := by
  obtain ⟨r, S1, S2, a, b, d⟩ := pr_tag l hO hL hM hn hs z
  exact k_W_X_tag cx hl hP hS hL.1 a ⟨⟨rfl, rfl⟩, ⟨(Nat.le_of_ble_eq_true rfl), (Nat.le_of_ble_eq_true rfl)⟩, hc, hsl⟩ hst hd (fun H1 locs1 h1 h2 => kk r S1 S2 H1 locs1 h1 h2 b d)
set_option maxHeartbeats 4000000 in
set_option maxRecDepth 100000 in
theorem lo_tag {b L i : Nat} {ys : Nat → Int32} (cx : fX rn_W cb_W_law 4 p c s m args x) (hO : fO x) (hL : fL x) (hM : fM x) (hX : va_X b L ys s H0) (hbl : b < H0.size) (hbA : ¬ xs x ≤ b) (hi : i + 3 < L) (hLL : L ≤ 2051) (hn : n + 2 ≤ 100000) (hs : SIM x n S) (hl : lv_has ls 4 [(3, .int (nI i)), (2, .ref (xa x 16 0)), (1, .ref (xa x 0 0)), (0, .ref b)]) (hP : fP x S H) (hS : fS x H0 H locs) (hc : cells + 7 ≤ 652497) (hsl : slots + 42 ≤ 7144758) (kk : ∀ (S2 : fm) (H1 : Heap) (locs1 : List Loc) (c1 s1 : Nat), fP x S2 H1 → fS x H0 H1 locs1 → SIM x (n + 2) S2 → c1 ≤ cells + 7 → s1 ≤ slots + 42 → W p l e room_1 s m args below meth c H1 locs1 c1 s1 Q (F0 m 710 ls [])) : W p l e room_1 s m args below meth c H locs cells slots Q (F0 m 439 ls []) := by
  have hx := cx.1.1
  have hb := cx.1.2.1
  refine lv_aload_n (pc := 439) hx hb dd_W_law_439 rfl (lv_at hl 2 rfl) ?_
  refine lv_aload_n (pc := 440) hx hb dd_W_law_440 rfl (lv_at hl 3 rfl) ?_
  refine lv_iload_n (pc := 441) hx hb dd_W_law_441 rfl (lv_at hl 0 rfl) ?_
  refine lv_iconst (pc := 442) (v := nI 1) hx hb dd_W_law_442 (by decide) ?_
  refine lv_iadd (pc := 443) hx hb dd_W_law_443 ?_
  refine va_sld (pc := 444) hx hb hX hbl hbA hS (sc_in (d := 1) hi hLL (by decide)) dd_W_law_444 ?_
  refine kp_tag (pc := 445) cx hl hP hS hO hL hM hn hs (by omega) (by omega) (Nat.le_of_ble_eq_true rfl) dd_W_law_445 (fun r S1 S2 H locs hP hS hM1 hs2 => ?_)
  refine lv_aload_n (pc := 448) hx hb dd_W_law_448 rfl (lv_at hl 1 rfl) ?_
  refine lv_aload_n (pc := 449) hx hb dd_W_law_449 rfl (lv_at hl 3 rfl) ?_
  refine lv_iload_n (pc := 450) hx hb dd_W_law_450 rfl (lv_at hl 0 rfl) ?_
  refine lv_iconst (pc := 451) (v := nI 1) hx hb dd_W_law_451 (by decide) ?_
  refine lv_iadd (pc := 452) hx hb dd_W_law_452 ?_
  refine va_sld (pc := 453) hx hb hX hbl hbA hS (sc_in (d := 1) hi hLL (by decide)) dd_W_law_453 ?_
  refine k_W_M_tag (pc := 454) cx hl hP hS hM.1 hM1 ⟨⟨rfl, rfl⟩, ⟨(Nat.le_of_ble_eq_true rfl), (Nat.le_of_ble_eq_true rfl)⟩, (show _ ≤ 652497 by omega), (show _ ≤ 7144758 by omega)⟩ (Nat.le_of_ble_eq_true rfl) dd_W_law_454 (fun H locs hP hS => ?_)
  refine lv_icmp_eq (pc := 457) (tgt := 710) hx hb dd_W_law_457 (by decide) (fun h0 => ?_) (fun h0 => ?_)
  · exact kk S2 H locs _ _ hP hS hs2 (by omega) (by omega)
  · exact absurd rfl h0
theorem kp_result {z : Int32} {lv : List (Nat × Value)} (cx : fX rn_W cb_W_law 4 p c s m args x) (hl : lv_has ls 4 lv) (hP : fP x S H) (hS : fS x H0 H locs) (hO : fO x) (hL : fL x) (hM : fM x) (hn : n + 2 ≤ 100000) (hs : SIM x n S) (hc : cells + 0 ≤ 652497) (hsl : slots + 0 ≤ 7144758) (hst : (rest.map fun v => v.category).sum ≤ 8) (hd : decode cb_W_law pc = .ok (.invokevirtual 67, 3)) (kk : ∀ (r : Int64) (S1 S2 : fm) (H1 : Heap) (locs1 : List Loc), fP x S1 H1 → fS x H0 H1 locs1 → Met l mn_M_result (gw_ws mn_M_result cb_M_result 2 (some .long)) ({ frames := 1, cells := 0, slots := 0, locals := 21 } : Room) (fPc x S1 [.ref (xa x 16 0), .int z]) (fQl x S2 r) 0 0 (fun q => xs x ≤ q) → SIM x (n + 2) S2 → W p l e room_1 s m args below meth c H1 locs1 (cells + 0) (slots + 0) Q (F0 m (pc + 3) ls (.long r :: rest))) : W p l e room_1 s m args below meth c H locs cells slots Q (F0 m pc ls (.int z :: .ref (xa x 0 0) :: rest)) := by
  obtain ⟨r, S1, S2, a, b, d⟩ := pr_result l hO hL hM hn hs z
  exact k_W_X_result cx hl hP hS hL.1 a ⟨⟨rfl, rfl⟩, ⟨(Nat.le_of_ble_eq_true rfl), (Nat.le_of_ble_eq_true rfl)⟩, hc, hsl⟩ hst hd (fun H1 locs1 h1 h2 => kk r S1 S2 H1 locs1 h1 h2 b d)
set_option maxHeartbeats 4000000 in
set_option maxRecDepth 100000 in
theorem lo_result {b L i : Nat} {ys : Nat → Int32} (cx : fX rn_W cb_W_law 4 p c s m args x) (hO : fO x) (hL : fL x) (hM : fM x) (hX : va_X b L ys s H0) (hbl : b < H0.size) (hbA : ¬ xs x ≤ b) (hi : i + 3 < L) (hLL : L ≤ 2051) (hn : n + 2 ≤ 100000) (hs : SIM x n S) (hl : lv_has ls 4 [(3, .int (nI i)), (2, .ref (xa x 16 0)), (1, .ref (xa x 0 0)), (0, .ref b)]) (hP : fP x S H) (hS : fS x H0 H locs) (hc : cells + 7 ≤ 652497) (hsl : slots + 42 ≤ 7144758) (kk : ∀ (S2 : fm) (H1 : Heap) (locs1 : List Loc) (c1 s1 : Nat), fP x S2 H1 → fS x H0 H1 locs1 → SIM x (n + 2) S2 → c1 ≤ cells + 7 → s1 ≤ slots + 42 → W p l e room_1 s m args below meth c H1 locs1 c1 s1 Q (F0 m 710 ls [])) : W p l e room_1 s m args below meth c H locs cells slots Q (F0 m 462 ls []) := by
  have hx := cx.1.1
  have hb := cx.1.2.1
  refine lv_aload_n (pc := 462) hx hb dd_W_law_462 rfl (lv_at hl 2 rfl) ?_
  refine lv_aload_n (pc := 463) hx hb dd_W_law_463 rfl (lv_at hl 3 rfl) ?_
  refine lv_iload_n (pc := 464) hx hb dd_W_law_464 rfl (lv_at hl 0 rfl) ?_
  refine lv_iconst (pc := 465) (v := nI 1) hx hb dd_W_law_465 (by decide) ?_
  refine lv_iadd (pc := 466) hx hb dd_W_law_466 ?_
  refine va_sld (pc := 467) hx hb hX hbl hbA hS (sc_in (d := 1) hi hLL (by decide)) dd_W_law_467 ?_
  refine kp_result (pc := 468) cx hl hP hS hO hL hM hn hs (by omega) (by omega) (Nat.le_of_ble_eq_true rfl) dd_W_law_468 (fun r S1 S2 H locs hP hS hM1 hs2 => ?_)
  refine lv_aload_n (pc := 471) hx hb dd_W_law_471 rfl (lv_at hl 1 rfl) ?_
  refine lv_aload_n (pc := 472) hx hb dd_W_law_472 rfl (lv_at hl 3 rfl) ?_
  refine lv_iload_n (pc := 473) hx hb dd_W_law_473 rfl (lv_at hl 0 rfl) ?_
  refine lv_iconst (pc := 474) (v := nI 1) hx hb dd_W_law_474 (by decide) ?_
  refine lv_iadd (pc := 475) hx hb dd_W_law_475 ?_
  refine va_sld (pc := 476) hx hb hX hbl hbA hS (sc_in (d := 1) hi hLL (by decide)) dd_W_law_476 ?_
  refine k_W_M_result (pc := 477) cx hl hP hS hM.1 hM1 ⟨⟨rfl, rfl⟩, ⟨(Nat.le_of_ble_eq_true rfl), (Nat.le_of_ble_eq_true rfl)⟩, (show _ ≤ 652497 by omega), (show _ ≤ 7144758 by omega)⟩ (Nat.le_of_ble_eq_true rfl) dd_W_law_477 (fun H locs hP hS => ?_)
  refine W.lcmp (pc := 480) hx hb dd_W_law_480 ?_
  refine f_topi (lcmp_self r) ?_
  refine lv_if_eq (pc := 481) (tgt := 710) hx hb dd_W_law_481 (by decide) (fun h0 => ?_) (fun h0 => ?_)
  · exact kk S2 H locs _ _ hP hS hs2 (by omega) (by omega)
  · exact absurd rfl h0
theorem kp_finished {z : Int32} {lv : List (Nat × Value)} (cx : fX rn_W cb_W_law 4 p c s m args x) (hl : lv_has ls 4 lv) (hP : fP x S H) (hS : fS x H0 H locs) (hO : fO x) (hL : fL x) (hM : fM x) (hn : n + 2 ≤ 100000) (hs : SIM x n S) (hc : cells + 0 ≤ 652497) (hsl : slots + 0 ≤ 7144758) (hst : (rest.map fun v => v.category).sum ≤ 8) (hd : decode cb_W_law pc = .ok (.invokevirtual 72, 3)) (kk : ∀ (r : Int32) (S1 S2 : fm) (H1 : Heap) (locs1 : List Loc), fP x S1 H1 → fS x H0 H1 locs1 → Met l mn_M_finished (gw_ws mn_M_finished cb_M_finished 2 (some .int)) ({ frames := 1, cells := 0, slots := 0, locals := 21 } : Room) (fPc x S1 [.ref (xa x 16 0), .int z]) (fQi x S2 r) 0 0 (fun q => xs x ≤ q) → SIM x (n + 2) S2 → W p l e room_1 s m args below meth c H1 locs1 (cells + 0) (slots + 0) Q (F0 m (pc + 3) ls (.int r :: rest))) : W p l e room_1 s m args below meth c H locs cells slots Q (F0 m pc ls (.int z :: .ref (xa x 0 0) :: rest)) := by
  obtain ⟨r, S1, S2, a, b, d⟩ := pr_finished l hO hL hM hn hs z
  exact k_W_X_finished cx hl hP hS hL.1 a ⟨⟨rfl, rfl⟩, ⟨(Nat.le_of_ble_eq_true rfl), (Nat.le_of_ble_eq_true rfl)⟩, hc, hsl⟩ hst hd (fun H1 locs1 h1 h2 => kk r S1 S2 H1 locs1 h1 h2 b d)
set_option maxHeartbeats 4000000 in
set_option maxRecDepth 100000 in
theorem lo_finished {b L i : Nat} {ys : Nat → Int32} (cx : fX rn_W cb_W_law 4 p c s m args x) (hO : fO x) (hL : fL x) (hM : fM x) (hX : va_X b L ys s H0) (hbl : b < H0.size) (hbA : ¬ xs x ≤ b) (hi : i + 3 < L) (hLL : L ≤ 2051) (hn : n + 2 ≤ 100000) (hs : SIM x n S) (hl : lv_has ls 4 [(3, .int (nI i)), (2, .ref (xa x 16 0)), (1, .ref (xa x 0 0)), (0, .ref b)]) (hP : fP x S H) (hS : fS x H0 H locs) (hc : cells + 7 ≤ 652497) (hsl : slots + 42 ≤ 7144758) (kk : ∀ (S2 : fm) (H1 : Heap) (locs1 : List Loc) (c1 s1 : Nat), fP x S2 H1 → fS x H0 H1 locs1 → SIM x (n + 2) S2 → c1 ≤ cells + 7 → s1 ≤ slots + 42 → W p l e room_1 s m args below meth c H1 locs1 c1 s1 Q (F0 m 710 ls [])) : W p l e room_1 s m args below meth c H locs cells slots Q (F0 m 486 ls []) := by
  have hx := cx.1.1
  have hb := cx.1.2.1
  refine lv_aload_n (pc := 486) hx hb dd_W_law_486 rfl (lv_at hl 2 rfl) ?_
  refine lv_aload_n (pc := 487) hx hb dd_W_law_487 rfl (lv_at hl 3 rfl) ?_
  refine lv_iload_n (pc := 488) hx hb dd_W_law_488 rfl (lv_at hl 0 rfl) ?_
  refine lv_iconst (pc := 489) (v := nI 1) hx hb dd_W_law_489 (by decide) ?_
  refine lv_iadd (pc := 490) hx hb dd_W_law_490 ?_
  refine va_sld (pc := 491) hx hb hX hbl hbA hS (sc_in (d := 1) hi hLL (by decide)) dd_W_law_491 ?_
  refine kp_finished (pc := 492) cx hl hP hS hO hL hM hn hs (by omega) (by omega) (Nat.le_of_ble_eq_true rfl) dd_W_law_492 (fun r S1 S2 H locs hP hS hM1 hs2 => ?_)
  refine lv_aload_n (pc := 495) hx hb dd_W_law_495 rfl (lv_at hl 1 rfl) ?_
  refine lv_aload_n (pc := 496) hx hb dd_W_law_496 rfl (lv_at hl 3 rfl) ?_
  refine lv_iload_n (pc := 497) hx hb dd_W_law_497 rfl (lv_at hl 0 rfl) ?_
  refine lv_iconst (pc := 498) (v := nI 1) hx hb dd_W_law_498 (by decide) ?_
  refine lv_iadd (pc := 499) hx hb dd_W_law_499 ?_
  refine va_sld (pc := 500) hx hb hX hbl hbA hS (sc_in (d := 1) hi hLL (by decide)) dd_W_law_500 ?_
  refine k_W_M_finished (pc := 501) cx hl hP hS hM.1 hM1 ⟨⟨rfl, rfl⟩, ⟨(Nat.le_of_ble_eq_true rfl), (Nat.le_of_ble_eq_true rfl)⟩, (show _ ≤ 652497 by omega), (show _ ≤ 7144758 by omega)⟩ (Nat.le_of_ble_eq_true rfl) dd_W_law_501 (fun H locs hP hS => ?_)
  refine lv_icmp_eq (pc := 504) (tgt := 710) hx hb dd_W_law_504 (by decide) (fun h0 => ?_) (fun h0 => ?_)
  · exact kk S2 H locs _ _ hP hS hs2 (by omega) (by omega)
  · exact absurd rfl h0
theorem kp_held {z : Int32} {lv : List (Nat × Value)} (cx : fX rn_W cb_W_law 4 p c s m args x) (hl : lv_has ls 4 lv) (hP : fP x S H) (hS : fS x H0 H locs) (hO : fO x) (hL : fL x) (hM : fM x) (hn : n + 2 ≤ 100000) (hs : SIM x n S) (hc : cells + 0 ≤ 652497) (hsl : slots + 0 ≤ 7144758) (hst : (rest.map fun v => v.category).sum ≤ 8) (hd : decode cb_W_law pc = .ok (.invokevirtual 76, 3)) (kk : ∀ (r : Int32) (S1 S2 : fm) (H1 : Heap) (locs1 : List Loc), fP x S1 H1 → fS x H0 H1 locs1 → Met l mn_M_held (gw_ws mn_M_held cb_M_held 2 (some .int)) ({ frames := 1, cells := 0, slots := 0, locals := 21 } : Room) (fPc x S1 [.ref (xa x 16 0), .int z]) (fQi x S2 r) 0 0 (fun q => xs x ≤ q) → SIM x (n + 2) S2 → W p l e room_1 s m args below meth c H1 locs1 (cells + 0) (slots + 0) Q (F0 m (pc + 3) ls (.int r :: rest))) : W p l e room_1 s m args below meth c H locs cells slots Q (F0 m pc ls (.int z :: .ref (xa x 0 0) :: rest)) := by
  obtain ⟨r, S1, S2, a, b, d⟩ := pr_held l hO hL hM hn hs z
  exact k_W_X_held cx hl hP hS hL.1 a ⟨⟨rfl, rfl⟩, ⟨(Nat.le_of_ble_eq_true rfl), (Nat.le_of_ble_eq_true rfl)⟩, hc, hsl⟩ hst hd (fun H1 locs1 h1 h2 => kk r S1 S2 H1 locs1 h1 h2 b d)
set_option maxHeartbeats 4000000 in
set_option maxRecDepth 100000 in
theorem lo_held {b L i : Nat} {ys : Nat → Int32} (cx : fX rn_W cb_W_law 4 p c s m args x) (hO : fO x) (hL : fL x) (hM : fM x) (hX : va_X b L ys s H0) (hbl : b < H0.size) (hbA : ¬ xs x ≤ b) (hi : i + 3 < L) (hLL : L ≤ 2051) (hn : n + 2 ≤ 100000) (hs : SIM x n S) (hl : lv_has ls 4 [(3, .int (nI i)), (2, .ref (xa x 16 0)), (1, .ref (xa x 0 0)), (0, .ref b)]) (hP : fP x S H) (hS : fS x H0 H locs) (hc : cells + 7 ≤ 652497) (hsl : slots + 42 ≤ 7144758) (kk : ∀ (S2 : fm) (H1 : Heap) (locs1 : List Loc) (c1 s1 : Nat), fP x S2 H1 → fS x H0 H1 locs1 → SIM x (n + 2) S2 → c1 ≤ cells + 7 → s1 ≤ slots + 42 → W p l e room_1 s m args below meth c H1 locs1 c1 s1 Q (F0 m 710 ls [])) : W p l e room_1 s m args below meth c H locs cells slots Q (F0 m 509 ls []) := by
  have hx := cx.1.1
  have hb := cx.1.2.1
  refine lv_aload_n (pc := 509) hx hb dd_W_law_509 rfl (lv_at hl 2 rfl) ?_
  refine lv_aload_n (pc := 510) hx hb dd_W_law_510 rfl (lv_at hl 3 rfl) ?_
  refine lv_iload_n (pc := 511) hx hb dd_W_law_511 rfl (lv_at hl 0 rfl) ?_
  refine lv_iconst (pc := 512) (v := nI 1) hx hb dd_W_law_512 (by decide) ?_
  refine lv_iadd (pc := 513) hx hb dd_W_law_513 ?_
  refine va_sld (pc := 514) hx hb hX hbl hbA hS (sc_in (d := 1) hi hLL (by decide)) dd_W_law_514 ?_
  refine kp_held (pc := 515) cx hl hP hS hO hL hM hn hs (by omega) (by omega) (Nat.le_of_ble_eq_true rfl) dd_W_law_515 (fun r S1 S2 H locs hP hS hM1 hs2 => ?_)
  refine lv_aload_n (pc := 518) hx hb dd_W_law_518 rfl (lv_at hl 1 rfl) ?_
  refine lv_aload_n (pc := 519) hx hb dd_W_law_519 rfl (lv_at hl 3 rfl) ?_
  refine lv_iload_n (pc := 520) hx hb dd_W_law_520 rfl (lv_at hl 0 rfl) ?_
  refine lv_iconst (pc := 521) (v := nI 1) hx hb dd_W_law_521 (by decide) ?_
  refine lv_iadd (pc := 522) hx hb dd_W_law_522 ?_
  refine va_sld (pc := 523) hx hb hX hbl hbA hS (sc_in (d := 1) hi hLL (by decide)) dd_W_law_523 ?_
  refine k_W_M_held (pc := 524) cx hl hP hS hM.1 hM1 ⟨⟨rfl, rfl⟩, ⟨(Nat.le_of_ble_eq_true rfl), (Nat.le_of_ble_eq_true rfl)⟩, (show _ ≤ 652497 by omega), (show _ ≤ 7144758 by omega)⟩ (Nat.le_of_ble_eq_true rfl) dd_W_law_524 (fun H locs hP hS => ?_)
  refine lv_icmp_eq (pc := 527) (tgt := 710) hx hb dd_W_law_527 (by decide) (fun h0 => ?_) (fun h0 => ?_)
  · exact kk S2 H locs _ _ hP hS hs2 (by omega) (by omega)
  · exact absurd rfl h0
theorem kp_heldTag {z : Int32} {i : Int32} {lv : List (Nat × Value)} (cx : fX rn_W cb_W_law 4 p c s m args x) (hl : lv_has ls 4 lv) (hP : fP x S H) (hS : fS x H0 H locs) (hO : fO x) (hL : fL x) (hM : fM x) (hn : n + 2 ≤ 100000) (hs : SIM x n S) (hc : cells + 0 ≤ 652497) (hsl : slots + 0 ≤ 7144758) (hst : (rest.map fun v => v.category).sum ≤ 8) (hd : decode cb_W_law pc = .ok (.invokevirtual 80, 3)) (kk : ∀ (r : Int32) (S1 S2 : fm) (H1 : Heap) (locs1 : List Loc), fP x S1 H1 → fS x H0 H1 locs1 → Met l mn_M_heldTag (gw_ws mn_M_heldTag cb_M_heldTag 6 (some .int)) ({ frames := 1, cells := 0, slots := 0, locals := 21 } : Room) (fPc x S1 [.ref (xa x 16 0), .int z, .int i]) (fQi x S2 r) 0 0 (fun q => xs x ≤ q) → SIM x (n + 2) S2 → W p l e room_1 s m args below meth c H1 locs1 (cells + 0) (slots + 0) Q (F0 m (pc + 3) ls (.int r :: rest))) : W p l e room_1 s m args below meth c H locs cells slots Q (F0 m pc ls (.int i :: .int z :: .ref (xa x 0 0) :: rest)) := by
  obtain ⟨r, S1, S2, a, b, d⟩ := pr_heldTag l hO hL hM hn hs z i
  exact k_W_X_heldTag cx hl hP hS hL.1 a ⟨⟨rfl, rfl⟩, ⟨(Nat.le_of_ble_eq_true rfl), (Nat.le_of_ble_eq_true rfl)⟩, hc, hsl⟩ hst hd (fun H1 locs1 h1 h2 => kk r S1 S2 H1 locs1 h1 h2 b d)
set_option maxHeartbeats 4000000 in
set_option maxRecDepth 100000 in
theorem lo_heldTag {b L i : Nat} {ys : Nat → Int32} (cx : fX rn_W cb_W_law 4 p c s m args x) (hO : fO x) (hL : fL x) (hM : fM x) (hX : va_X b L ys s H0) (hbl : b < H0.size) (hbA : ¬ xs x ≤ b) (hi : i + 3 < L) (hLL : L ≤ 2051) (hn : n + 2 ≤ 100000) (hs : SIM x n S) (hl : lv_has ls 4 [(3, .int (nI i)), (2, .ref (xa x 16 0)), (1, .ref (xa x 0 0)), (0, .ref b)]) (hP : fP x S H) (hS : fS x H0 H locs) (hc : cells + 7 ≤ 652497) (hsl : slots + 42 ≤ 7144758) (kk : ∀ (S2 : fm) (H1 : Heap) (locs1 : List Loc) (c1 s1 : Nat), fP x S2 H1 → fS x H0 H1 locs1 → SIM x (n + 2) S2 → c1 ≤ cells + 7 → s1 ≤ slots + 42 → W p l e room_1 s m args below meth c H1 locs1 c1 s1 Q (F0 m 710 ls [])) : W p l e room_1 s m args below meth c H locs cells slots Q (F0 m 532 ls []) := by
  have hx := cx.1.1
  have hb := cx.1.2.1
  refine lv_aload_n (pc := 532) hx hb dd_W_law_532 rfl (lv_at hl 2 rfl) ?_
  refine lv_aload_n (pc := 533) hx hb dd_W_law_533 rfl (lv_at hl 3 rfl) ?_
  refine lv_iload_n (pc := 534) hx hb dd_W_law_534 rfl (lv_at hl 0 rfl) ?_
  refine lv_iconst (pc := 535) (v := nI 1) hx hb dd_W_law_535 (by decide) ?_
  refine lv_iadd (pc := 536) hx hb dd_W_law_536 ?_
  refine va_sld (pc := 537) hx hb hX hbl hbA hS (sc_in (d := 1) hi hLL (by decide)) dd_W_law_537 ?_
  refine lv_aload_n (pc := 538) hx hb dd_W_law_538 rfl (lv_at hl 3 rfl) ?_
  refine lv_iload_n (pc := 539) hx hb dd_W_law_539 rfl (lv_at hl 0 rfl) ?_
  refine lv_iconst (pc := 540) (v := nI 2) hx hb dd_W_law_540 (by decide) ?_
  refine lv_iadd (pc := 541) hx hb dd_W_law_541 ?_
  refine va_sld (pc := 542) hx hb hX hbl hbA hS (sc_in (d := 2) hi hLL (by decide)) dd_W_law_542 ?_
  refine kp_heldTag (pc := 543) cx hl hP hS hO hL hM hn hs (by omega) (by omega) (Nat.le_of_ble_eq_true rfl) dd_W_law_543 (fun r S1 S2 H locs hP hS hM1 hs2 => ?_)
  refine lv_aload_n (pc := 546) hx hb dd_W_law_546 rfl (lv_at hl 1 rfl) ?_
  refine lv_aload_n (pc := 547) hx hb dd_W_law_547 rfl (lv_at hl 3 rfl) ?_
  refine lv_iload_n (pc := 548) hx hb dd_W_law_548 rfl (lv_at hl 0 rfl) ?_
  refine lv_iconst (pc := 549) (v := nI 1) hx hb dd_W_law_549 (by decide) ?_
  refine lv_iadd (pc := 550) hx hb dd_W_law_550 ?_
  refine va_sld (pc := 551) hx hb hX hbl hbA hS (sc_in (d := 1) hi hLL (by decide)) dd_W_law_551 ?_
  refine lv_aload_n (pc := 552) hx hb dd_W_law_552 rfl (lv_at hl 3 rfl) ?_
  refine lv_iload_n (pc := 553) hx hb dd_W_law_553 rfl (lv_at hl 0 rfl) ?_
  refine lv_iconst (pc := 554) (v := nI 2) hx hb dd_W_law_554 (by decide) ?_
  refine lv_iadd (pc := 555) hx hb dd_W_law_555 ?_
  refine va_sld (pc := 556) hx hb hX hbl hbA hS (sc_in (d := 2) hi hLL (by decide)) dd_W_law_556 ?_
  refine k_W_M_heldTag (pc := 557) cx hl hP hS hM.1 hM1 ⟨⟨rfl, rfl⟩, ⟨(Nat.le_of_ble_eq_true rfl), (Nat.le_of_ble_eq_true rfl)⟩, (show _ ≤ 652497 by omega), (show _ ≤ 7144758 by omega)⟩ (Nat.le_of_ble_eq_true rfl) dd_W_law_557 (fun H locs hP hS => ?_)
  refine lv_icmp_eq (pc := 560) (tgt := 710) hx hb dd_W_law_560 (by decide) (fun h0 => ?_) (fun h0 => ?_)
  · exact kk S2 H locs _ _ hP hS hs2 (by omega) (by omega)
  · exact absurd rfl h0
theorem kp_fragment {z : Int32} {t : Int32} {i : Int32} {lv : List (Nat × Value)} (cx : fX rn_W cb_W_law 4 p c s m args x) (hl : lv_has ls 4 lv) (hP : fP x S H) (hS : fS x H0 H locs) (hO : fO x) (hL : fL x) (hM : fM x) (hn : n + 2 ≤ 100000) (hs : SIM x n S) (hc : cells + 0 ≤ 652497) (hsl : slots + 0 ≤ 7144758) (hst : (rest.map fun v => v.category).sum ≤ 8) (hd : decode cb_W_law pc = .ok (.invokevirtual 85, 3)) (kk : ∀ (r : Int32) (S1 S2 : fm) (H1 : Heap) (locs1 : List Loc), fP x S1 H1 → fS x H0 H1 locs1 → Met l mn_M_fragment (gw_ws mn_M_fragment cb_M_fragment 10 (some .int)) ({ frames := 1, cells := 0, slots := 0, locals := 24 } : Room) (fPc x S1 [.ref (xa x 16 0), .int z, .int t, .int i]) (fQi x S2 r) 0 0 (fun q => xs x ≤ q) → SIM x (n + 2) S2 → W p l e room_1 s m args below meth c H1 locs1 (cells + 0) (slots + 0) Q (F0 m (pc + 3) ls (.int r :: rest))) : W p l e room_1 s m args below meth c H locs cells slots Q (F0 m pc ls (.int i :: .int t :: .int z :: .ref (xa x 0 0) :: rest)) := by
  obtain ⟨r, S1, S2, a, b, d⟩ := pr_fragment l hO hL hM hn hs z t i
  exact k_W_X_fragment cx hl hP hS hL.1 a ⟨⟨rfl, rfl⟩, ⟨(Nat.le_of_ble_eq_true rfl), (Nat.le_of_ble_eq_true rfl)⟩, hc, hsl⟩ hst hd (fun H1 locs1 h1 h2 => kk r S1 S2 H1 locs1 h1 h2 b d)
set_option maxHeartbeats 4000000 in
set_option maxRecDepth 100000 in
theorem lo_fragment {b L i : Nat} {ys : Nat → Int32} (cx : fX rn_W cb_W_law 4 p c s m args x) (hO : fO x) (hL : fL x) (hM : fM x) (hX : va_X b L ys s H0) (hbl : b < H0.size) (hbA : ¬ xs x ≤ b) (hi : i + 3 < L) (hLL : L ≤ 2051) (hn : n + 2 ≤ 100000) (hs : SIM x n S) (hl : lv_has ls 4 [(3, .int (nI i)), (2, .ref (xa x 16 0)), (1, .ref (xa x 0 0)), (0, .ref b)]) (hP : fP x S H) (hS : fS x H0 H locs) (hc : cells + 7 ≤ 652497) (hsl : slots + 42 ≤ 7144758) (kk : ∀ (S2 : fm) (H1 : Heap) (locs1 : List Loc) (c1 s1 : Nat), fP x S2 H1 → fS x H0 H1 locs1 → SIM x (n + 2) S2 → c1 ≤ cells + 7 → s1 ≤ slots + 42 → W p l e room_1 s m args below meth c H1 locs1 c1 s1 Q (F0 m 710 ls [])) : W p l e room_1 s m args below meth c H locs cells slots Q (F0 m 565 ls []) := by
  have hx := cx.1.1
  have hb := cx.1.2.1
  refine lv_aload_n (pc := 565) hx hb dd_W_law_565 rfl (lv_at hl 2 rfl) ?_
  refine lv_aload_n (pc := 566) hx hb dd_W_law_566 rfl (lv_at hl 3 rfl) ?_
  refine lv_iload_n (pc := 567) hx hb dd_W_law_567 rfl (lv_at hl 0 rfl) ?_
  refine lv_iconst (pc := 568) (v := nI 1) hx hb dd_W_law_568 (by decide) ?_
  refine lv_iadd (pc := 569) hx hb dd_W_law_569 ?_
  refine va_sld (pc := 570) hx hb hX hbl hbA hS (sc_in (d := 1) hi hLL (by decide)) dd_W_law_570 ?_
  refine lv_aload_n (pc := 571) hx hb dd_W_law_571 rfl (lv_at hl 3 rfl) ?_
  refine lv_iload_n (pc := 572) hx hb dd_W_law_572 rfl (lv_at hl 0 rfl) ?_
  refine lv_iconst (pc := 573) (v := nI 2) hx hb dd_W_law_573 (by decide) ?_
  refine lv_iadd (pc := 574) hx hb dd_W_law_574 ?_
  refine va_sld (pc := 575) hx hb hX hbl hbA hS (sc_in (d := 2) hi hLL (by decide)) dd_W_law_575 ?_
  refine lv_aload_n (pc := 576) hx hb dd_W_law_576 rfl (lv_at hl 3 rfl) ?_
  refine lv_iload_n (pc := 577) hx hb dd_W_law_577 rfl (lv_at hl 0 rfl) ?_
  refine lv_iconst (pc := 578) (v := nI 3) hx hb dd_W_law_578 (by decide) ?_
  refine lv_iadd (pc := 579) hx hb dd_W_law_579 ?_
  refine va_sld (pc := 580) hx hb hX hbl hbA hS (sc_in (d := 3) hi hLL (by decide)) dd_W_law_580 ?_
  refine kp_fragment (pc := 581) cx hl hP hS hO hL hM hn hs (by omega) (by omega) (Nat.le_of_ble_eq_true rfl) dd_W_law_581 (fun r S1 S2 H locs hP hS hM1 hs2 => ?_)
  refine lv_aload_n (pc := 584) hx hb dd_W_law_584 rfl (lv_at hl 1 rfl) ?_
  refine lv_aload_n (pc := 585) hx hb dd_W_law_585 rfl (lv_at hl 3 rfl) ?_
  refine lv_iload_n (pc := 586) hx hb dd_W_law_586 rfl (lv_at hl 0 rfl) ?_
  refine lv_iconst (pc := 587) (v := nI 1) hx hb dd_W_law_587 (by decide) ?_
  refine lv_iadd (pc := 588) hx hb dd_W_law_588 ?_
  refine va_sld (pc := 589) hx hb hX hbl hbA hS (sc_in (d := 1) hi hLL (by decide)) dd_W_law_589 ?_
  refine lv_aload_n (pc := 590) hx hb dd_W_law_590 rfl (lv_at hl 3 rfl) ?_
  refine lv_iload_n (pc := 591) hx hb dd_W_law_591 rfl (lv_at hl 0 rfl) ?_
  refine lv_iconst (pc := 592) (v := nI 2) hx hb dd_W_law_592 (by decide) ?_
  refine lv_iadd (pc := 593) hx hb dd_W_law_593 ?_
  refine va_sld (pc := 594) hx hb hX hbl hbA hS (sc_in (d := 2) hi hLL (by decide)) dd_W_law_594 ?_
  refine lv_aload_n (pc := 595) hx hb dd_W_law_595 rfl (lv_at hl 3 rfl) ?_
  refine lv_iload_n (pc := 596) hx hb dd_W_law_596 rfl (lv_at hl 0 rfl) ?_
  refine lv_iconst (pc := 597) (v := nI 3) hx hb dd_W_law_597 (by decide) ?_
  refine lv_iadd (pc := 598) hx hb dd_W_law_598 ?_
  refine va_sld (pc := 599) hx hb hX hbl hbA hS (sc_in (d := 3) hi hLL (by decide)) dd_W_law_599 ?_
  refine k_W_M_fragment (pc := 600) cx hl hP hS hM.1 hM1 ⟨⟨rfl, rfl⟩, ⟨(Nat.le_of_ble_eq_true rfl), (Nat.le_of_ble_eq_true rfl)⟩, (show _ ≤ 652497 by omega), (show _ ≤ 7144758 by omega)⟩ (Nat.le_of_ble_eq_true rfl) dd_W_law_600 (fun H locs hP hS => ?_)
  refine lv_icmp_eq (pc := 603) (tgt := 710) hx hb dd_W_law_603 (by decide) (fun h0 => ?_) (fun h0 => ?_)
  · exact kk S2 H locs _ _ hP hS hs2 (by omega) (by omega)
  · exact absurd rfl h0
theorem kp_seal {z : Int32} {lv : List (Nat × Value)} (cx : fX rn_W cb_W_law 4 p c s m args x) (hl : lv_has ls 4 lv) (hP : fP x S H) (hS : fS x H0 H locs) (hO : fO x) (hL : fL x) (hM : fM x) (hn : n + 2 ≤ 100000) (hs : SIM x n S) (hc : cells + 0 ≤ 652497) (hsl : slots + 0 ≤ 7144758) (hst : (rest.map fun v => v.category).sum ≤ 8) (hd : decode cb_W_law pc = .ok (.invokevirtual 89, 3)) (kk : ∀ (r : Int32) (S1 S2 : fm) (H1 : Heap) (locs1 : List Loc), fP x S1 H1 → fS x H0 H1 locs1 → Met l mn_M_seal (gw_ws mn_M_seal cb_M_seal 2 (some .int)) ({ frames := 1, cells := 0, slots := 0, locals := 21 } : Room) (fPc x S1 [.ref (xa x 16 0), .int z]) (fQi x S2 r) 0 0 (fun q => xs x ≤ q) → SIM x (n + 2) S2 → W p l e room_1 s m args below meth c H1 locs1 (cells + 0) (slots + 0) Q (F0 m (pc + 3) ls (.int r :: rest))) : W p l e room_1 s m args below meth c H locs cells slots Q (F0 m pc ls (.int z :: .ref (xa x 0 0) :: rest)) := by
  obtain ⟨r, S1, S2, a, b, d⟩ := pr_seal l hO hL hM hn hs z
  exact k_W_X_seal cx hl hP hS hL.1 a ⟨⟨rfl, rfl⟩, ⟨(Nat.le_of_ble_eq_true rfl), (Nat.le_of_ble_eq_true rfl)⟩, hc, hsl⟩ hst hd (fun H1 locs1 h1 h2 => kk r S1 S2 H1 locs1 h1 h2 b d)
set_option maxHeartbeats 4000000 in
set_option maxRecDepth 100000 in
theorem lo_seal {b L i : Nat} {ys : Nat → Int32} (cx : fX rn_W cb_W_law 4 p c s m args x) (hO : fO x) (hL : fL x) (hM : fM x) (hX : va_X b L ys s H0) (hbl : b < H0.size) (hbA : ¬ xs x ≤ b) (hi : i + 3 < L) (hLL : L ≤ 2051) (hn : n + 2 ≤ 100000) (hs : SIM x n S) (hl : lv_has ls 4 [(3, .int (nI i)), (2, .ref (xa x 16 0)), (1, .ref (xa x 0 0)), (0, .ref b)]) (hP : fP x S H) (hS : fS x H0 H locs) (hc : cells + 7 ≤ 652497) (hsl : slots + 42 ≤ 7144758) (kk : ∀ (S2 : fm) (H1 : Heap) (locs1 : List Loc) (c1 s1 : Nat), fP x S2 H1 → fS x H0 H1 locs1 → SIM x (n + 2) S2 → c1 ≤ cells + 7 → s1 ≤ slots + 42 → W p l e room_1 s m args below meth c H1 locs1 c1 s1 Q (F0 m 710 ls [])) : W p l e room_1 s m args below meth c H locs cells slots Q (F0 m 608 ls []) := by
  have hx := cx.1.1
  have hb := cx.1.2.1
  refine lv_aload_n (pc := 608) hx hb dd_W_law_608 rfl (lv_at hl 2 rfl) ?_
  refine lv_aload_n (pc := 609) hx hb dd_W_law_609 rfl (lv_at hl 3 rfl) ?_
  refine lv_iload_n (pc := 610) hx hb dd_W_law_610 rfl (lv_at hl 0 rfl) ?_
  refine lv_iconst (pc := 611) (v := nI 1) hx hb dd_W_law_611 (by decide) ?_
  refine lv_iadd (pc := 612) hx hb dd_W_law_612 ?_
  refine va_sld (pc := 613) hx hb hX hbl hbA hS (sc_in (d := 1) hi hLL (by decide)) dd_W_law_613 ?_
  refine kp_seal (pc := 614) cx hl hP hS hO hL hM hn hs (by omega) (by omega) (Nat.le_of_ble_eq_true rfl) dd_W_law_614 (fun r S1 S2 H locs hP hS hM1 hs2 => ?_)
  refine lv_aload_n (pc := 617) hx hb dd_W_law_617 rfl (lv_at hl 1 rfl) ?_
  refine lv_aload_n (pc := 618) hx hb dd_W_law_618 rfl (lv_at hl 3 rfl) ?_
  refine lv_iload_n (pc := 619) hx hb dd_W_law_619 rfl (lv_at hl 0 rfl) ?_
  refine lv_iconst (pc := 620) (v := nI 1) hx hb dd_W_law_620 (by decide) ?_
  refine lv_iadd (pc := 621) hx hb dd_W_law_621 ?_
  refine va_sld (pc := 622) hx hb hX hbl hbA hS (sc_in (d := 1) hi hLL (by decide)) dd_W_law_622 ?_
  refine k_W_M_seal (pc := 623) cx hl hP hS hM.1 hM1 ⟨⟨rfl, rfl⟩, ⟨(Nat.le_of_ble_eq_true rfl), (Nat.le_of_ble_eq_true rfl)⟩, (show _ ≤ 652497 by omega), (show _ ≤ 7144758 by omega)⟩ (Nat.le_of_ble_eq_true rfl) dd_W_law_623 (fun H locs hP hS => ?_)
  refine lv_icmp_eq (pc := 626) (tgt := 710) hx hb dd_W_law_626 (by decide) (fun h0 => ?_) (fun h0 => ?_)
  · exact kk S2 H locs _ _ hP hS hs2 (by omega) (by omega)
  · exact absurd rfl h0
theorem kp_requests {z : Int32} {y : Int32} {lv : List (Nat × Value)} (cx : fX rn_W cb_W_law 4 p c s m args x) (hl : lv_has ls 4 lv) (hP : fP x S H) (hS : fS x H0 H locs) (hO : fO x) (hL : fL x) (hM : fM x) (hn : n + 2 ≤ 100000) (hs : SIM x n S) (hc : cells + 0 ≤ 652497) (hsl : slots + 0 ≤ 7144758) (hst : (rest.map fun v => v.category).sum ≤ 8) (hd : decode cb_W_law pc = .ok (.invokevirtual 93, 3)) (kk : ∀ (r : Int32) (S1 S2 : fm) (H1 : Heap) (locs1 : List Loc), fP x S1 H1 → fS x H0 H1 locs1 → Met l mn_M_requests (gw_ws mn_M_requests cb_M_requests 3 (some .int)) ({ frames := 1, cells := 0, slots := 0, locals := 25 } : Room) (fPc x S1 [.ref (xa x 16 0), .int z, .int y]) (fQi x S2 r) 0 0 (fun q => xs x ≤ q) → SIM x (n + 2) S2 → W p l e room_1 s m args below meth c H1 locs1 (cells + 0) (slots + 0) Q (F0 m (pc + 3) ls (.int r :: rest))) : W p l e room_1 s m args below meth c H locs cells slots Q (F0 m pc ls (.int y :: .int z :: .ref (xa x 0 0) :: rest)) := by
  obtain ⟨r, S1, S2, a, b, d⟩ := pr_requests l hO hL hM hn hs z y
  exact k_W_X_requests cx hl hP hS hL.1 a ⟨⟨rfl, rfl⟩, ⟨(Nat.le_of_ble_eq_true rfl), (Nat.le_of_ble_eq_true rfl)⟩, hc, hsl⟩ hst hd (fun H1 locs1 h1 h2 => kk r S1 S2 H1 locs1 h1 h2 b d)
set_option maxHeartbeats 4000000 in
set_option maxRecDepth 100000 in
theorem lo_requests {b L i : Nat} {ys : Nat → Int32} (cx : fX rn_W cb_W_law 4 p c s m args x) (hO : fO x) (hL : fL x) (hM : fM x) (hX : va_X b L ys s H0) (hbl : b < H0.size) (hbA : ¬ xs x ≤ b) (hi : i + 3 < L) (hLL : L ≤ 2051) (hn : n + 2 ≤ 100000) (hs : SIM x n S) (hl : lv_has ls 4 [(3, .int (nI i)), (2, .ref (xa x 16 0)), (1, .ref (xa x 0 0)), (0, .ref b)]) (hP : fP x S H) (hS : fS x H0 H locs) (hc : cells + 7 ≤ 652497) (hsl : slots + 42 ≤ 7144758) (kk : ∀ (S2 : fm) (H1 : Heap) (locs1 : List Loc) (c1 s1 : Nat), fP x S2 H1 → fS x H0 H1 locs1 → SIM x (n + 2) S2 → c1 ≤ cells + 7 → s1 ≤ slots + 42 → W p l e room_1 s m args below meth c H1 locs1 c1 s1 Q (F0 m 710 ls [])) : W p l e room_1 s m args below meth c H locs cells slots Q (F0 m 631 ls []) := by
  have hx := cx.1.1
  have hb := cx.1.2.1
  refine lv_aload_n (pc := 631) hx hb dd_W_law_631 rfl (lv_at hl 2 rfl) ?_
  refine lv_aload_n (pc := 632) hx hb dd_W_law_632 rfl (lv_at hl 3 rfl) ?_
  refine lv_iload_n (pc := 633) hx hb dd_W_law_633 rfl (lv_at hl 0 rfl) ?_
  refine lv_iconst (pc := 634) (v := nI 1) hx hb dd_W_law_634 (by decide) ?_
  refine lv_iadd (pc := 635) hx hb dd_W_law_635 ?_
  refine va_sld (pc := 636) hx hb hX hbl hbA hS (sc_in (d := 1) hi hLL (by decide)) dd_W_law_636 ?_
  refine lv_aload_n (pc := 637) hx hb dd_W_law_637 rfl (lv_at hl 3 rfl) ?_
  refine lv_iload_n (pc := 638) hx hb dd_W_law_638 rfl (lv_at hl 0 rfl) ?_
  refine lv_iconst (pc := 639) (v := nI 2) hx hb dd_W_law_639 (by decide) ?_
  refine lv_iadd (pc := 640) hx hb dd_W_law_640 ?_
  refine va_sld (pc := 641) hx hb hX hbl hbA hS (sc_in (d := 2) hi hLL (by decide)) dd_W_law_641 ?_
  refine kp_requests (pc := 642) cx hl hP hS hO hL hM hn hs (by omega) (by omega) (Nat.le_of_ble_eq_true rfl) dd_W_law_642 (fun r S1 S2 H locs hP hS hM1 hs2 => ?_)
  refine lv_aload_n (pc := 645) hx hb dd_W_law_645 rfl (lv_at hl 1 rfl) ?_
  refine lv_aload_n (pc := 646) hx hb dd_W_law_646 rfl (lv_at hl 3 rfl) ?_
  refine lv_iload_n (pc := 647) hx hb dd_W_law_647 rfl (lv_at hl 0 rfl) ?_
  refine lv_iconst (pc := 648) (v := nI 1) hx hb dd_W_law_648 (by decide) ?_
  refine lv_iadd (pc := 649) hx hb dd_W_law_649 ?_
  refine va_sld (pc := 650) hx hb hX hbl hbA hS (sc_in (d := 1) hi hLL (by decide)) dd_W_law_650 ?_
  refine lv_aload_n (pc := 651) hx hb dd_W_law_651 rfl (lv_at hl 3 rfl) ?_
  refine lv_iload_n (pc := 652) hx hb dd_W_law_652 rfl (lv_at hl 0 rfl) ?_
  refine lv_iconst (pc := 653) (v := nI 2) hx hb dd_W_law_653 (by decide) ?_
  refine lv_iadd (pc := 654) hx hb dd_W_law_654 ?_
  refine va_sld (pc := 655) hx hb hX hbl hbA hS (sc_in (d := 2) hi hLL (by decide)) dd_W_law_655 ?_
  refine k_W_M_requests (pc := 656) cx hl hP hS hM.1 hM1 ⟨⟨rfl, rfl⟩, ⟨(Nat.le_of_ble_eq_true rfl), (Nat.le_of_ble_eq_true rfl)⟩, (show _ ≤ 652497 by omega), (show _ ≤ 7144758 by omega)⟩ (Nat.le_of_ble_eq_true rfl) dd_W_law_656 (fun H locs hP hS => ?_)
  refine lv_icmp_eq (pc := 659) (tgt := 710) hx hb dd_W_law_659 (by decide) (fun h0 => ?_) (fun h0 => ?_)
  · exact kk S2 H locs _ _ hP hS hs2 (by omega) (by omega)
  · exact absurd rfl h0
theorem kp_replies {z : Int32} {y : Int32} {lv : List (Nat × Value)} (cx : fX rn_W cb_W_law 4 p c s m args x) (hl : lv_has ls 4 lv) (hP : fP x S H) (hS : fS x H0 H locs) (hO : fO x) (hL : fL x) (hM : fM x) (hn : n + 2 ≤ 100000) (hs : SIM x n S) (hc : cells + 0 ≤ 652497) (hsl : slots + 0 ≤ 7144758) (hst : (rest.map fun v => v.category).sum ≤ 8) (hd : decode cb_W_law pc = .ok (.invokevirtual 97, 3)) (kk : ∀ (r : Int32) (S1 S2 : fm) (H1 : Heap) (locs1 : List Loc), fP x S1 H1 → fS x H0 H1 locs1 → Met l mn_M_replies (gw_ws mn_M_replies cb_M_replies 3 (some .int)) ({ frames := 1, cells := 0, slots := 0, locals := 25 } : Room) (fPc x S1 [.ref (xa x 16 0), .int z, .int y]) (fQi x S2 r) 0 0 (fun q => xs x ≤ q) → SIM x (n + 2) S2 → W p l e room_1 s m args below meth c H1 locs1 (cells + 0) (slots + 0) Q (F0 m (pc + 3) ls (.int r :: rest))) : W p l e room_1 s m args below meth c H locs cells slots Q (F0 m pc ls (.int y :: .int z :: .ref (xa x 0 0) :: rest)) := by
  obtain ⟨r, S1, S2, a, b, d⟩ := pr_replies l hO hL hM hn hs z y
  exact k_W_X_replies cx hl hP hS hL.1 a ⟨⟨rfl, rfl⟩, ⟨(Nat.le_of_ble_eq_true rfl), (Nat.le_of_ble_eq_true rfl)⟩, hc, hsl⟩ hst hd (fun H1 locs1 h1 h2 => kk r S1 S2 H1 locs1 h1 h2 b d)
set_option maxHeartbeats 4000000 in
set_option maxRecDepth 100000 in
theorem lo_replies {b L i : Nat} {ys : Nat → Int32} (cx : fX rn_W cb_W_law 4 p c s m args x) (hO : fO x) (hL : fL x) (hM : fM x) (hX : va_X b L ys s H0) (hbl : b < H0.size) (hbA : ¬ xs x ≤ b) (hi : i + 3 < L) (hLL : L ≤ 2051) (hn : n + 2 ≤ 100000) (hs : SIM x n S) (hl : lv_has ls 4 [(3, .int (nI i)), (2, .ref (xa x 16 0)), (1, .ref (xa x 0 0)), (0, .ref b)]) (hP : fP x S H) (hS : fS x H0 H locs) (hc : cells + 7 ≤ 652497) (hsl : slots + 42 ≤ 7144758) (kk : ∀ (S2 : fm) (H1 : Heap) (locs1 : List Loc) (c1 s1 : Nat), fP x S2 H1 → fS x H0 H1 locs1 → SIM x (n + 2) S2 → c1 ≤ cells + 7 → s1 ≤ slots + 42 → W p l e room_1 s m args below meth c H1 locs1 c1 s1 Q (F0 m 710 ls [])) : W p l e room_1 s m args below meth c H locs cells slots Q (F0 m 664 ls []) := by
  have hx := cx.1.1
  have hb := cx.1.2.1
  refine lv_aload_n (pc := 664) hx hb dd_W_law_664 rfl (lv_at hl 2 rfl) ?_
  refine lv_aload_n (pc := 665) hx hb dd_W_law_665 rfl (lv_at hl 3 rfl) ?_
  refine lv_iload_n (pc := 666) hx hb dd_W_law_666 rfl (lv_at hl 0 rfl) ?_
  refine lv_iconst (pc := 667) (v := nI 1) hx hb dd_W_law_667 (by decide) ?_
  refine lv_iadd (pc := 668) hx hb dd_W_law_668 ?_
  refine va_sld (pc := 669) hx hb hX hbl hbA hS (sc_in (d := 1) hi hLL (by decide)) dd_W_law_669 ?_
  refine lv_aload_n (pc := 670) hx hb dd_W_law_670 rfl (lv_at hl 3 rfl) ?_
  refine lv_iload_n (pc := 671) hx hb dd_W_law_671 rfl (lv_at hl 0 rfl) ?_
  refine lv_iconst (pc := 672) (v := nI 2) hx hb dd_W_law_672 (by decide) ?_
  refine lv_iadd (pc := 673) hx hb dd_W_law_673 ?_
  refine va_sld (pc := 674) hx hb hX hbl hbA hS (sc_in (d := 2) hi hLL (by decide)) dd_W_law_674 ?_
  refine kp_replies (pc := 675) cx hl hP hS hO hL hM hn hs (by omega) (by omega) (Nat.le_of_ble_eq_true rfl) dd_W_law_675 (fun r S1 S2 H locs hP hS hM1 hs2 => ?_)
  refine lv_aload_n (pc := 678) hx hb dd_W_law_678 rfl (lv_at hl 1 rfl) ?_
  refine lv_aload_n (pc := 679) hx hb dd_W_law_679 rfl (lv_at hl 3 rfl) ?_
  refine lv_iload_n (pc := 680) hx hb dd_W_law_680 rfl (lv_at hl 0 rfl) ?_
  refine lv_iconst (pc := 681) (v := nI 1) hx hb dd_W_law_681 (by decide) ?_
  refine lv_iadd (pc := 682) hx hb dd_W_law_682 ?_
  refine va_sld (pc := 683) hx hb hX hbl hbA hS (sc_in (d := 1) hi hLL (by decide)) dd_W_law_683 ?_
  refine lv_aload_n (pc := 684) hx hb dd_W_law_684 rfl (lv_at hl 3 rfl) ?_
  refine lv_iload_n (pc := 685) hx hb dd_W_law_685 rfl (lv_at hl 0 rfl) ?_
  refine lv_iconst (pc := 686) (v := nI 2) hx hb dd_W_law_686 (by decide) ?_
  refine lv_iadd (pc := 687) hx hb dd_W_law_687 ?_
  refine va_sld (pc := 688) hx hb hX hbl hbA hS (sc_in (d := 2) hi hLL (by decide)) dd_W_law_688 ?_
  refine k_W_M_replies (pc := 689) cx hl hP hS hM.1 hM1 ⟨⟨rfl, rfl⟩, ⟨(Nat.le_of_ble_eq_true rfl), (Nat.le_of_ble_eq_true rfl)⟩, (show _ ≤ 652497 by omega), (show _ ≤ 7144758 by omega)⟩ (Nat.le_of_ble_eq_true rfl) dd_W_law_689 (fun H locs hP hS => ?_)
  refine lv_icmp_eq (pc := 692) (tgt := 710) hx hb dd_W_law_692 (by decide) (fun h0 => ?_) (fun h0 => ?_)
  · exact kk S2 H locs _ _ hP hS hs2 (by omega) (by omega)
  · exact absurd rfl h0
theorem kp_quorum  {lv : List (Nat × Value)} (cx : fX rn_W cb_W_law 4 p c s m args x) (hl : lv_has ls 4 lv) (hP : fP x S H) (hS : fS x H0 H locs) (hO : fO x) (hL : fL x) (hM : fM x) (hn : n + 2 ≤ 100000) (hs : SIM x n S) (hc : cells + 0 ≤ 652497) (hsl : slots + 0 ≤ 7144758) (hst : (rest.map fun v => v.category).sum ≤ 8) (hd : decode cb_W_law pc = .ok (.invokevirtual 101, 3)) (kk : ∀ (r : Int32) (S1 S2 : fm) (H1 : Heap) (locs1 : List Loc), fP x S1 H1 → fS x H0 H1 locs1 → Met l mn_M_quorum (gw_ws mn_M_quorum cb_M_quorum 1 (some .int)) ({ frames := 0, cells := 0, slots := 0, locals := 0 } : Room) (fPc x S1 [.ref (xa x 16 0)]) (fQi x S2 r) 0 0 (fun q => xs x ≤ q) → SIM x (n + 2) S2 → W p l e room_1 s m args below meth c H1 locs1 (cells + 0) (slots + 0) Q (F0 m (pc + 3) ls (.int r :: rest))) : W p l e room_1 s m args below meth c H locs cells slots Q (F0 m pc ls (.ref (xa x 0 0) :: rest)) := by
  obtain ⟨r, S1, S2, a, b, d⟩ := pr_quorum l hO hL hM hn hs 
  exact k_W_X_quorum cx hl hP hS hL.1 a ⟨⟨rfl, rfl⟩, ⟨(Nat.le_of_ble_eq_true rfl), (Nat.le_of_ble_eq_true rfl)⟩, hc, hsl⟩ hst hd (fun H1 locs1 h1 h2 => kk r S1 S2 H1 locs1 h1 h2 b d)
set_option maxHeartbeats 4000000 in
set_option maxRecDepth 100000 in
theorem lo_quorum {b L i : Nat} {ys : Nat → Int32} (cx : fX rn_W cb_W_law 4 p c s m args x) (hO : fO x) (hL : fL x) (hM : fM x) (hX : va_X b L ys s H0) (hbl : b < H0.size) (hbA : ¬ xs x ≤ b) (hi : i + 3 < L) (hLL : L ≤ 2051) (hn : n + 2 ≤ 100000) (hs : SIM x n S) (hl : lv_has ls 4 [(3, .int (nI i)), (2, .ref (xa x 16 0)), (1, .ref (xa x 0 0)), (0, .ref b)]) (hP : fP x S H) (hS : fS x H0 H locs) (hc : cells + 7 ≤ 652497) (hsl : slots + 42 ≤ 7144758) (kk : ∀ (S2 : fm) (H1 : Heap) (locs1 : List Loc) (c1 s1 : Nat), fP x S2 H1 → fS x H0 H1 locs1 → SIM x (n + 2) S2 → c1 ≤ cells + 7 → s1 ≤ slots + 42 → W p l e room_1 s m args below meth c H1 locs1 c1 s1 Q (F0 m 710 ls [])) : W p l e room_1 s m args below meth c H locs cells slots Q (F0 m 697 ls []) := by
  have hx := cx.1.1
  have hb := cx.1.2.1
  refine lv_aload_n (pc := 697) hx hb dd_W_law_697 rfl (lv_at hl 2 rfl) ?_
  refine kp_quorum (pc := 698) cx hl hP hS hO hL hM hn hs (by omega) (by omega) (Nat.le_of_ble_eq_true rfl) dd_W_law_698 (fun r S1 S2 H locs hP hS hM1 hs2 => ?_)
  refine lv_aload_n (pc := 701) hx hb dd_W_law_701 rfl (lv_at hl 1 rfl) ?_
  refine k_W_M_quorum (pc := 702) cx hl hP hS hM.1 hM1 ⟨⟨rfl, rfl⟩, ⟨(Nat.le_of_ble_eq_true rfl), (Nat.le_of_ble_eq_true rfl)⟩, (show _ ≤ 652497 by omega), (show _ ≤ 7144758 by omega)⟩ (Nat.le_of_ble_eq_true rfl) dd_W_law_702 (fun H locs hP hS => ?_)
  refine lv_icmp_eq (pc := 705) (tgt := 710) hx hb dd_W_law_705 (by decide) (fun h0 => ?_) (fun h0 => ?_)
  · exact kk S2 H locs _ _ hP hS hs2 (by omega) (by omega)
  · exact absurd rfl h0
end LW
