section
/-- a private method of a class that the tables say can be made, by its rows of tables_1 -/
def lw_okq (q : MethodName × Nat) : Prop := (q.1.cls ≠ "java/lang/invoke/MethodHandle" ∧ q.1.cls ≠ "java/lang/invoke/VarHandle") ∧ Cond.instantiable q.1.cls q.2 ∈ tables_1 ∧ Cond.privateMethod q.1 ∈ tables_1 ∧ Cond.instanceMethod q.1 ∈ tables_1
theorem lw_p0 : lw_okq (⟨"SealedFragmentRegister", "refusalToBegin", "(I)I"⟩, 8) := ⟨⟨by decide +kernel, by decide +kernel⟩, List.mem_of_getElem? (i := 10) (by decide +kernel), List.mem_of_getElem? (i := 181) (by decide +kernel), List.mem_of_getElem? (i := 182) (by decide +kernel)⟩
theorem lw_p1 : lw_okq (⟨"SealedFragmentRegister", "isClient", "(I)Z"⟩, 8) := ⟨⟨by decide +kernel, by decide +kernel⟩, List.mem_of_getElem? (i := 10) (by decide +kernel), List.mem_of_getElem? (i := 185) (by decide +kernel), List.mem_of_getElem? (i := 186) (by decide +kernel)⟩
theorem lw_p2 : lw_okq (⟨"SealedFragmentRegister", "isCrowded", "(I)Z"⟩, 8) := ⟨⟨by decide +kernel, by decide +kernel⟩, List.mem_of_getElem? (i := 10) (by decide +kernel), List.mem_of_getElem? (i := 193) (by decide +kernel), List.mem_of_getElem? (i := 194) (by decide +kernel)⟩
theorem lw_p3 : lw_okq (⟨"SealedFragmentRegister", "rowOf", "(II)I"⟩, 8) := ⟨⟨by decide +kernel, by decide +kernel⟩, List.mem_of_getElem? (i := 10) (by decide +kernel), List.mem_of_getElem? (i := 197) (by decide +kernel), List.mem_of_getElem? (i := 198) (by decide +kernel)⟩
theorem lw_p4 : lw_okq (⟨"SealedFragmentRegister", "beginPhase", "(LSealedFragmentRegister$Client;I)V"⟩, 8) := ⟨⟨by decide +kernel, by decide +kernel⟩, List.mem_of_getElem? (i := 10) (by decide +kernel), List.mem_of_getElem? (i := 201) (by decide +kernel), List.mem_of_getElem? (i := 202) (by decide +kernel)⟩
theorem lw_p5 : lw_okq (⟨"SealedFragmentRegister", "requestTo", "(ILSealedFragmentRegister$Client;)LSealedFragmentRegister$Letter;"⟩, 8) := ⟨⟨by decide +kernel, by decide +kernel⟩, List.mem_of_getElem? (i := 10) (by decide +kernel), List.mem_of_getElem? (i := 209) (by decide +kernel), List.mem_of_getElem? (i := 210) (by decide +kernel)⟩
theorem lw_p6 : lw_okq (⟨"SealedFragmentRegister", "isServer", "(I)Z"⟩, 8) := ⟨⟨by decide +kernel, by decide +kernel⟩, List.mem_of_getElem? (i := 10) (by decide +kernel), List.mem_of_getElem? (i := 278) (by decide +kernel), List.mem_of_getElem? (i := 279) (by decide +kernel)⟩
theorem lw_p7 : lw_okq (⟨"SealedFragmentRegister", "hasHeardEnough", "(LSealedFragmentRegister$Client;)Z"⟩, 8) := ⟨⟨by decide +kernel, by decide +kernel⟩, List.mem_of_getElem? (i := 10) (by decide +kernel), List.mem_of_getElem? (i := 322) (by decide +kernel), List.mem_of_getElem? (i := 323) (by decide +kernel)⟩
theorem lw_p8 : lw_okq (⟨"SealedFragmentRegister", "endPhase", "(LSealedFragmentRegister$Client;)I"⟩, 8) := ⟨⟨by decide +kernel, by decide +kernel⟩, List.mem_of_getElem? (i := 10) (by decide +kernel), List.mem_of_getElem? (i := 330) (by decide +kernel), List.mem_of_getElem? (i := 331) (by decide +kernel)⟩
theorem lw_p9 : lw_okq (⟨"SealedFragmentRegisterModel", "noClient", "(I)Z"⟩, 27) := ⟨⟨by decide +kernel, by decide +kernel⟩, List.mem_of_getElem? (i := 414) (by decide +kernel), List.mem_of_getElem? (i := 511) (by decide +kernel), List.mem_of_getElem? (i := 512) (by decide +kernel)⟩
theorem lw_p10 : lw_okq (⟨"SealedFragmentRegisterModel", "noServer", "(I)Z"⟩, 27) := ⟨⟨by decide +kernel, by decide +kernel⟩, List.mem_of_getElem? (i := 414) (by decide +kernel), List.mem_of_getElem? (i := 515) (by decide +kernel), List.mem_of_getElem? (i := 516) (by decide +kernel)⟩
theorem lw_p11 : lw_okq (⟨"SealedFragmentRegisterModel", "count", "(ZII)I"⟩, 27) := ⟨⟨by decide +kernel, by decide +kernel⟩, List.mem_of_getElem? (i := 414) (by decide +kernel), List.mem_of_getElem? (i := 519) (by decide +kernel), List.mem_of_getElem? (i := 520) (by decide +kernel)⟩
theorem lw_p12 : lw_okq (⟨"SealedFragmentRegisterModel", "refusal", "(I)I"⟩, 27) := ⟨⟨by decide +kernel, by decide +kernel⟩, List.mem_of_getElem? (i := 414) (by decide +kernel), List.mem_of_getElem? (i := 531) (by decide +kernel), List.mem_of_getElem? (i := 532) (by decide +kernel)⟩
theorem lw_p13 : lw_okq (⟨"SealedFragmentRegisterModel", "crowded", "(I)Z"⟩, 27) := ⟨⟨by decide +kernel, by decide +kernel⟩, List.mem_of_getElem? (i := 414) (by decide +kernel), List.mem_of_getElem? (i := 535) (by decide +kernel), List.mem_of_getElem? (i := 536) (by decide +kernel)⟩
theorem lw_p14 : lw_okq (⟨"SealedFragmentRegisterModel", "begin", "(II)V"⟩, 27) := ⟨⟨by decide +kernel, by decide +kernel⟩, List.mem_of_getElem? (i := 414) (by decide +kernel), List.mem_of_getElem? (i := 539) (by decide +kernel), List.mem_of_getElem? (i := 540) (by decide +kernel)⟩
theorem lw_p15 : lw_okq (⟨"SealedFragmentRegisterModel", "send", "(ZIIII)V"⟩, 27) := ⟨⟨by decide +kernel, by decide +kernel⟩, List.mem_of_getElem? (i := 414) (by decide +kernel), List.mem_of_getElem? (i := 543) (by decide +kernel), List.mem_of_getElem? (i := 544) (by decide +kernel)⟩
def lw_privs_1 : List (MethodName × Nat) := [(⟨"SealedFragmentRegister", "refusalToBegin", "(I)I"⟩, 8), (⟨"SealedFragmentRegister", "isClient", "(I)Z"⟩, 8), (⟨"SealedFragmentRegister", "isCrowded", "(I)Z"⟩, 8), (⟨"SealedFragmentRegister", "rowOf", "(II)I"⟩, 8), (⟨"SealedFragmentRegister", "beginPhase", "(LSealedFragmentRegister$Client;I)V"⟩, 8), (⟨"SealedFragmentRegister", "requestTo", "(ILSealedFragmentRegister$Client;)LSealedFragmentRegister$Letter;"⟩, 8), (⟨"SealedFragmentRegister", "isServer", "(I)Z"⟩, 8), (⟨"SealedFragmentRegister", "hasHeardEnough", "(LSealedFragmentRegister$Client;)Z"⟩, 8), (⟨"SealedFragmentRegister", "endPhase", "(LSealedFragmentRegister$Client;)I"⟩, 8), (⟨"SealedFragmentRegisterModel", "noClient", "(I)Z"⟩, 27), (⟨"SealedFragmentRegisterModel", "noServer", "(I)Z"⟩, 27), (⟨"SealedFragmentRegisterModel", "count", "(ZII)I"⟩, 27), (⟨"SealedFragmentRegisterModel", "refusal", "(I)I"⟩, 27), (⟨"SealedFragmentRegisterModel", "crowded", "(I)Z"⟩, 27), (⟨"SealedFragmentRegisterModel", "begin", "(II)V"⟩, 27), (⟨"SealedFragmentRegisterModel", "send", "(ZIIII)V"⟩, 27)]
theorem lw_r1 : ∀ q ∈ lw_privs_1, lw_okq q := List.forall_mem_cons.mpr ⟨lw_p0, List.forall_mem_cons.mpr ⟨lw_p1, List.forall_mem_cons.mpr ⟨lw_p2, List.forall_mem_cons.mpr ⟨lw_p3, List.forall_mem_cons.mpr ⟨lw_p4, List.forall_mem_cons.mpr ⟨lw_p5, List.forall_mem_cons.mpr ⟨lw_p6, List.forall_mem_cons.mpr ⟨lw_p7, List.forall_mem_cons.mpr ⟨lw_p8, List.forall_mem_cons.mpr ⟨lw_p9, List.forall_mem_cons.mpr ⟨lw_p10, List.forall_mem_cons.mpr ⟨lw_p11, List.forall_mem_cons.mpr ⟨lw_p12, List.forall_mem_cons.mpr ⟨lw_p13, List.forall_mem_cons.mpr ⟨lw_p14, List.forall_mem_cons.mpr ⟨lw_p15, fun _ h => absurd h List.not_mem_nil⟩⟩⟩⟩⟩⟩⟩⟩⟩⟩⟩⟩⟩⟩⟩⟩
theorem lw_p16 : lw_okq (⟨"SealedFragmentRegisterModel", "seek", "(ZIII)I"⟩, 27) := ⟨⟨by decide +kernel, by decide +kernel⟩, List.mem_of_getElem? (i := 414) (by decide +kernel), List.mem_of_getElem? (i := 560) (by decide +kernel), List.mem_of_getElem? (i := 561) (by decide +kernel)⟩
theorem lw_p17 : lw_okq (⟨"SealedFragmentRegisterModel", "lose", "(I)V"⟩, 27) := ⟨⟨by decide +kernel, by decide +kernel⟩, List.mem_of_getElem? (i := 414) (by decide +kernel), List.mem_of_getElem? (i := 564) (by decide +kernel), List.mem_of_getElem? (i := 565) (by decide +kernel)⟩
theorem lw_p18 : lw_okq (⟨"SealedFragmentRegisterModel", "store", "(IIJ)V"⟩, 27) := ⟨⟨by decide +kernel, by decide +kernel⟩, List.mem_of_getElem? (i := 414) (by decide +kernel), List.mem_of_getElem? (i := 568) (by decide +kernel), List.mem_of_getElem? (i := 569) (by decide +kernel)⟩
theorem lw_p19 : lw_okq (⟨"SealedFragmentRegisterModel", "place", "(II)I"⟩, 27) := ⟨⟨by decide +kernel, by decide +kernel⟩, List.mem_of_getElem? (i := 414) (by decide +kernel), List.mem_of_getElem? (i := 572) (by decide +kernel), List.mem_of_getElem? (i := 573) (by decide +kernel)⟩
theorem lw_p20 : lw_okq (⟨"SealedFragmentRegisterModel", "onwards", "(I)I"⟩, 27) := ⟨⟨by decide +kernel, by decide +kernel⟩, List.mem_of_getElem? (i := 414) (by decide +kernel), List.mem_of_getElem? (i := 580) (by decide +kernel), List.mem_of_getElem? (i := 581) (by decide +kernel)⟩
theorem lw_p21 : lw_okq (⟨"SealedFragmentRegisterModel", "product", "(II)I"⟩, 27) := ⟨⟨by decide +kernel, by decide +kernel⟩, List.mem_of_getElem? (i := 414) (by decide +kernel), List.mem_of_getElem? (i := 625) (by decide +kernel), List.mem_of_getElem? (i := 626) (by decide +kernel)⟩
def lw_privs_2 : List (MethodName × Nat) := [(⟨"SealedFragmentRegisterModel", "seek", "(ZIII)I"⟩, 27), (⟨"SealedFragmentRegisterModel", "lose", "(I)V"⟩, 27), (⟨"SealedFragmentRegisterModel", "store", "(IIJ)V"⟩, 27), (⟨"SealedFragmentRegisterModel", "place", "(II)I"⟩, 27), (⟨"SealedFragmentRegisterModel", "onwards", "(I)I"⟩, 27), (⟨"SealedFragmentRegisterModel", "product", "(II)I"⟩, 27)]
theorem lw_r2 : ∀ q ∈ lw_privs_2, lw_okq q := List.forall_mem_cons.mpr ⟨lw_p16, List.forall_mem_cons.mpr ⟨lw_p17, List.forall_mem_cons.mpr ⟨lw_p18, List.forall_mem_cons.mpr ⟨lw_p19, List.forall_mem_cons.mpr ⟨lw_p20, List.forall_mem_cons.mpr ⟨lw_p21, fun _ h => absurd h List.not_mem_nil⟩⟩⟩⟩⟩⟩
def lw_privs : List (MethodName × Nat) := lw_privs_1 ++ (lw_privs_2)
def lw_tbl : List Cond := k2_sels lw_privs ++ tables_1
theorem lw_privs_ok : ∀ q ∈ lw_privs, lw_okq q := by
  show ∀ q ∈ lw_privs_1 ++ (lw_privs_2), lw_okq q
  exact List.forall_mem_append.mpr ⟨lw_r1, lw_r2⟩
end
section
-- printed by wip/whole/gen/names.py: names, fields, methods, the words of the tables by name
def rn_C : String := "SealedFragmentRegister$Client"
def rn_K : String := "SealedFragmentRegister$Code"
def rn_L : String := "SealedFragmentRegister$Letter"
def rn_R : String := "SealedFragmentRegister$Row"
def rn_S : String := "SealedFragmentRegister$Server"
def rn_X : String := "SealedFragmentRegister"
def rn_M : String := "SealedFragmentRegisterModel"
def rn_W : String := "SealedFragmentRegisterLaw"
def rn_J : String := "java/lang/Math"
def tf_C : u_T := fun k => match k with
  | 0 => ("SealedFragmentRegister$Client", "number", "I", true)
  | 1 => ("SealedFragmentRegister$Client", "sources", "[I", true)
  | 2 => ("SealedFragmentRegister$Client", "fragments", "[J", true)
  | 3 => ("SealedFragmentRegister$Client", "fragmentCount", "I", false)
  | 4 => ("SealedFragmentRegister$Client", "crashed", "Z", false)
  | 5 => ("SealedFragmentRegister$Client", "phase", "I", false)
  | 6 => ("SealedFragmentRegister$Client", "beginning", "I", false)
  | 7 => ("SealedFragmentRegister$Client", "heard", "I", false)
  | 8 => ("SealedFragmentRegister$Client", "highestSeal", "I", false)
  | 9 => ("SealedFragmentRegister$Client", "tag", "I", false)
  | 10 => ("SealedFragmentRegister$Client", "block", "J", false)
  | 11 => ("SealedFragmentRegister$Client", "result", "J", false)
  | _ => ("SealedFragmentRegister$Client", "finished", "I", false)
def ty_C : Nat → FieldType := fun k => match k with
  | 0 => .int
  | 1 => .array .int
  | 2 => .array .long
  | 3 => .int
  | 4 => .boolean
  | 5 => .int
  | 6 => .int
  | 7 => .int
  | 8 => .int
  | 9 => .int
  | 10 => .long
  | 11 => .long
  | _ => .int
theorem nm_C : ∀ a, a < 13 → ∀ b, b < 13 → a ≠ b → (tf_C a).2.1 ≠ (tf_C b).2.1 := by decide +kernel
theorem tk_C : ∀ k, k < 13 → parseFieldDescriptor (tf_C k).2.2.1 = some (ty_C k) := by decide +kernel
def tf_K : u_T := fun k => match k with
  | 0 => ("SealedFragmentRegister$Code", "needed", "I", true)
  | 1 => ("SealedFragmentRegister$Code", "length", "I", true)
  | _ => ("SealedFragmentRegister$Code", "column", "[I", true)
def ty_K : Nat → FieldType := fun k => match k with
  | 0 => .int
  | 1 => .int
  | _ => .array .int
theorem nm_K : ∀ a, a < 3 → ∀ b, b < 3 → a ≠ b → (tf_K a).2.1 ≠ (tf_K b).2.1 := by decide +kernel
theorem tk_K : ∀ k, k < 3 → parseFieldDescriptor (tf_K k).2.2.1 = some (ty_K k) := by decide +kernel
def tf_L : u_T := fun k => match k with
  | 0 => ("SealedFragmentRegister$Letter", "phase", "I", true)
  | 1 => ("SealedFragmentRegister$Letter", "beginning", "I", true)
  | 2 => ("SealedFragmentRegister$Letter", "tag", "I", true)
  | 3 => ("SealedFragmentRegister$Letter", "fragment", "J", false)
  | 4 => ("SealedFragmentRegister$Letter", "seal", "I", false)
  | _ => ("SealedFragmentRegister$Letter", "bearsFragment", "Z", false)
def ty_L : Nat → FieldType := fun k => match k with
  | 0 => .int
  | 1 => .int
  | 2 => .int
  | 3 => .long
  | 4 => .int
  | _ => .boolean
theorem nm_L : ∀ a, a < 6 → ∀ b, b < 6 → a ≠ b → (tf_L a).2.1 ≠ (tf_L b).2.1 := by decide +kernel
theorem tk_L : ∀ k, k < 6 → parseFieldDescriptor (tf_L k).2.2.1 = some (ty_L k) := by decide +kernel
def tf_R : u_T := fun k => match k with
  | 0 => ("SealedFragmentRegister$Row", "letters", "[LSealedFragmentRegister$Letter;", true)
  | _ => ("SealedFragmentRegister$Row", "size", "I", false)
def ty_R : Nat → FieldType := fun k => match k with
  | 0 => .array (.object "SealedFragmentRegister$Letter")
  | _ => .int
theorem nm_R : ∀ a, a < 2 → ∀ b, b < 2 → a ≠ b → (tf_R a).2.1 ≠ (tf_R b).2.1 := by decide +kernel
theorem tk_R : ∀ k, k < 2 → parseFieldDescriptor (tf_R k).2.2.1 = some (ty_R k) := by decide +kernel
def tf_S : u_T := fun k => match k with
  | 0 => ("SealedFragmentRegister$Server", "mostTags", "I", true)
  | 1 => ("SealedFragmentRegister$Server", "tags", "[I", true)
  | 2 => ("SealedFragmentRegister$Server", "fragments", "[J", true)
  | 3 => ("SealedFragmentRegister$Server", "count", "I", false)
  | 4 => ("SealedFragmentRegister$Server", "seal", "I", false)
  | _ => ("SealedFragmentRegister$Server", "crashed", "Z", false)
def ty_S : Nat → FieldType := fun k => match k with
  | 0 => .int
  | 1 => .array .int
  | 2 => .array .long
  | 3 => .int
  | 4 => .int
  | _ => .boolean
theorem nm_S : ∀ a, a < 6 → ∀ b, b < 6 → a ≠ b → (tf_S a).2.1 ≠ (tf_S b).2.1 := by decide +kernel
theorem tk_S : ∀ k, k < 6 → parseFieldDescriptor (tf_S k).2.2.1 = some (ty_S k) := by decide +kernel
def tf_X : u_T := fun k => match k with
  | 0 => ("SealedFragmentRegister", "quorumSize", "I", true)
  | 1 => ("SealedFragmentRegister", "mostCrashes", "I", true)
  | 2 => ("SealedFragmentRegister", "code", "LSealedFragmentRegister$Code;", true)
  | 3 => ("SealedFragmentRegister", "clients", "[LSealedFragmentRegister$Client;", true)
  | 4 => ("SealedFragmentRegister", "servers", "[LSealedFragmentRegister$Server;", true)
  | 5 => ("SealedFragmentRegister", "requestRows", "[LSealedFragmentRegister$Row;", true)
  | 6 => ("SealedFragmentRegister", "replyRows", "[LSealedFragmentRegister$Row;", true)
  | _ => ("SealedFragmentRegister", "crashes", "I", false)
def ty_X : Nat → FieldType := fun k => match k with
  | 0 => .int
  | 1 => .int
  | 2 => .object "SealedFragmentRegister$Code"
  | 3 => .array (.object "SealedFragmentRegister$Client")
  | 4 => .array (.object "SealedFragmentRegister$Server")
  | 5 => .array (.object "SealedFragmentRegister$Row")
  | 6 => .array (.object "SealedFragmentRegister$Row")
  | _ => .int
theorem nm_X : ∀ a, a < 8 → ∀ b, b < 8 → a ≠ b → (tf_X a).2.1 ≠ (tf_X b).2.1 := by decide +kernel
theorem tk_X : ∀ k, k < 8 → parseFieldDescriptor (tf_X k).2.2.1 = some (ty_X k) := by decide +kernel
def tf_M : u_T := fun k => match k with
  | 0 => ("SealedFragmentRegisterModel", "n", "I", false)
  | 1 => ("SealedFragmentRegisterModel", "k", "I", false)
  | 2 => ("SealedFragmentRegisterModel", "d", "I", false)
  | 3 => ("SealedFragmentRegisterModel", "phase", "[I", false)
  | 4 => ("SealedFragmentRegisterModel", "age", "[I", false)
  | 5 => ("SealedFragmentRegisterModel", "counted", "[I", false)
  | 6 => ("SealedFragmentRegisterModel", "bearing", "[I", false)
  | 7 => ("SealedFragmentRegisterModel", "best", "[I", false)
  | 8 => ("SealedFragmentRegisterModel", "tags", "[I", false)
  | 9 => ("SealedFragmentRegisterModel", "ends", "[I", false)
  | 10 => ("SealedFragmentRegisterModel", "block", "[J", false)
  | 11 => ("SealedFragmentRegisterModel", "seen", "[J", false)
  | 12 => ("SealedFragmentRegisterModel", "results", "[J", false)
  | 13 => ("SealedFragmentRegisterModel", "down", "[Z", false)
  | 14 => ("SealedFragmentRegisterModel", "seals", "[I", false)
  | 15 => ("SealedFragmentRegisterModel", "many", "[I", false)
  | 16 => ("SealedFragmentRegisterModel", "hasTag", "[I", false)
  | 17 => ("SealedFragmentRegisterModel", "hasBlock", "[J", false)
  | 18 => ("SealedFragmentRegisterModel", "letters", "I", false)
  | 19 => ("SealedFragmentRegisterModel", "reply", "[Z", false)
  | 20 => ("SealedFragmentRegisterModel", "full", "[Z", false)
  | 21 => ("SealedFragmentRegisterModel", "client", "[I", false)
  | 22 => ("SealedFragmentRegisterModel", "server", "[I", false)
  | 23 => ("SealedFragmentRegisterModel", "sent", "[I", false)
  | 24 => ("SealedFragmentRegisterModel", "kind", "[I", false)
  | 25 => ("SealedFragmentRegisterModel", "what", "[I", false)
  | _ => ("SealedFragmentRegisterModel", "load", "[J", false)
def ty_M : Nat → FieldType := fun k => match k with
  | 0 => .int
  | 1 => .int
  | 2 => .int
  | 3 => .array .int
  | 4 => .array .int
  | 5 => .array .int
  | 6 => .array .int
  | 7 => .array .int
  | 8 => .array .int
  | 9 => .array .int
  | 10 => .array .long
  | 11 => .array .long
  | 12 => .array .long
  | 13 => .array .boolean
  | 14 => .array .int
  | 15 => .array .int
  | 16 => .array .int
  | 17 => .array .long
  | 18 => .int
  | 19 => .array .boolean
  | 20 => .array .boolean
  | 21 => .array .int
  | 22 => .array .int
  | 23 => .array .int
  | 24 => .array .int
  | 25 => .array .int
  | _ => .array .long
theorem nm_M : ∀ a, a < 27 → ∀ b, b < 27 → a ≠ b → (tf_M a).2.1 ≠ (tf_M b).2.1 := by decide +kernel
theorem tk_M : ∀ k, k < 27 → parseFieldDescriptor (tf_M k).2.2.1 = some (ty_M k) := by decide +kernel
abbrev cls_all : List vw_C := [(rn_C, tf_C, 13), (rn_K, tf_K, 3), (rn_L, tf_L, 6), (rn_R, tf_R, 2), (rn_S, tf_S, 6), (rn_X, tf_X, 8), (rn_M, tf_M, 27)]
abbrev cb_X_init : ByteArray := prog_1_method_1_code
def mn_X_init : MethodName := ⟨rn_X, "<init>", "(III)V"⟩
abbrev cb_X_between : ByteArray := prog_1_method_21_code
def mn_X_between : MethodName := ⟨rn_X, "between", "(III)I"⟩
abbrev cb_J_min : ByteArray := prog_9_method_69_code
def mn_J_min : MethodName := ⟨rn_J, "min", "(II)I"⟩
abbrev cb_J_max : ByteArray := prog_9_method_65_code
def mn_J_max : MethodName := ⟨rn_J, "max", "(II)I"⟩
abbrev cb_K_init : ByteArray := prog_3_method_1_code
def mn_K_init : MethodName := ⟨rn_K, "<init>", "(I)V"⟩
abbrev cb_C_init : ByteArray := prog_2_method_1_code
def mn_C_init : MethodName := ⟨rn_C, "<init>", "(II)V"⟩
abbrev cb_S_init : ByteArray := prog_6_method_1_code
def mn_S_init : MethodName := ⟨rn_S, "<init>", "(I)V"⟩
abbrev cb_X_emptyRows : ByteArray := prog_1_method_22_code
def mn_X_emptyRows : MethodName := ⟨rn_X, "emptyRows", "(I)[LSealedFragmentRegister$Row;"⟩
abbrev cb_R_init : ByteArray := prog_5_method_1_code
def mn_R_init : MethodName := ⟨rn_R, "<init>", "()V"⟩
abbrev cb_X_write : ByteArray := prog_1_method_2_code
def mn_X_write : MethodName := ⟨rn_X, "write", "(IJ)I"⟩
abbrev cb_X_refusalToBegin : ByteArray := prog_1_method_26_code
def mn_X_refusalToBegin : MethodName := ⟨rn_X, "refusalToBegin", "(I)I"⟩
abbrev cb_X_isClient : ByteArray := prog_1_method_23_code
def mn_X_isClient : MethodName := ⟨rn_X, "isClient", "(I)Z"⟩
abbrev cb_C_isAtWork : ByteArray := prog_2_method_2_code
def mn_C_isAtWork : MethodName := ⟨rn_C, "isAtWork", "()Z"⟩
abbrev cb_X_isCrowded : ByteArray := prog_1_method_27_code
def mn_X_isCrowded : MethodName := ⟨rn_X, "isCrowded", "(I)Z"⟩
abbrev cb_X_rowOf : ByteArray := prog_1_method_25_code
def mn_X_rowOf : MethodName := ⟨rn_X, "rowOf", "(II)I"⟩
abbrev cb_X_beginPhase : ByteArray := prog_1_method_28_code
def mn_X_beginPhase : MethodName := ⟨rn_X, "beginPhase", "(LSealedFragmentRegister$Client;I)V"⟩
abbrev cb_C_enter : ByteArray := prog_2_method_3_code
def mn_C_enter : MethodName := ⟨rn_C, "enter", "(I)V"⟩
abbrev cb_X_requestTo : ByteArray := prog_1_method_29_code
def mn_X_requestTo : MethodName := ⟨rn_X, "requestTo", "(ILSealedFragmentRegister$Client;)LSealedFragmentRegister$Letter;"⟩
abbrev cb_L_init : ByteArray := prog_4_method_1_code
def mn_L_init : MethodName := ⟨rn_L, "<init>", "(III)V"⟩
abbrev cb_K_encode : ByteArray := prog_3_method_2_code
def mn_K_encode : MethodName := ⟨rn_K, "encode", "(JI)J"⟩
abbrev cb_K_pointOf : ByteArray := prog_3_method_5_code
def mn_K_pointOf : MethodName := ⟨rn_K, "pointOf", "(I)I"⟩
abbrev cb_K_times : ByteArray := prog_3_method_8_code
def mn_K_times : MethodName := ⟨rn_K, "times", "(II)I"⟩
abbrev cb_K_byteAt : ByteArray := prog_3_method_6_code
def mn_K_byteAt : MethodName := ⟨rn_K, "byteAt", "(JI)I"⟩
abbrev cb_K_placed : ByteArray := prog_3_method_7_code
def mn_K_placed : MethodName := ⟨rn_K, "placed", "(II)J"⟩
abbrev cb_R_append : ByteArray := prog_5_method_2_code
def mn_R_append : MethodName := ⟨rn_R, "append", "(LSealedFragmentRegister$Letter;)V"⟩
abbrev cb_X_read : ByteArray := prog_1_method_3_code
def mn_X_read : MethodName := ⟨rn_X, "read", "(I)I"⟩
abbrev cb_X_again : ByteArray := prog_1_method_4_code
def mn_X_again : MethodName := ⟨rn_X, "again", "(I)I"⟩
abbrev cb_X_deliver : ByteArray := prog_1_method_5_code
def mn_X_deliver : MethodName := ⟨rn_X, "deliver", "(III)I"⟩
abbrev cb_X_isServer : ByteArray := prog_1_method_24_code
def mn_X_isServer : MethodName := ⟨rn_X, "isServer", "(I)Z"⟩
abbrev cb_R_take : ByteArray := prog_5_method_3_code
def mn_R_take : MethodName := ⟨rn_R, "take", "(I)LSealedFragmentRegister$Letter;"⟩
abbrev cb_S_answer : ByteArray := prog_6_method_2_code
def mn_S_answer : MethodName := ⟨rn_S, "answer", "(LSealedFragmentRegister$Letter;)V"⟩
abbrev cb_S_store : ByteArray := prog_6_method_3_code
def mn_S_store : MethodName := ⟨rn_S, "store", "(IJ)V"⟩
abbrev cb_S_raiseSeal : ByteArray := prog_6_method_4_code
def mn_S_raiseSeal : MethodName := ⟨rn_S, "raiseSeal", "(I)V"⟩
abbrev cb_S_enclose : ByteArray := prog_6_method_5_code
def mn_S_enclose : MethodName := ⟨rn_S, "enclose", "(LSealedFragmentRegister$Letter;)V"⟩
abbrev cb_S_placeOf : ByteArray := prog_6_method_6_code
def mn_S_placeOf : MethodName := ⟨rn_S, "placeOf", "(I)I"⟩
abbrev cb_X_hear : ByteArray := prog_1_method_6_code
def mn_X_hear : MethodName := ⟨rn_X, "hear", "(III)I"⟩
abbrev cb_C_counts : ByteArray := prog_2_method_4_code
def mn_C_counts : MethodName := ⟨rn_C, "counts", "(LSealedFragmentRegister$Letter;)Z"⟩
abbrev cb_C_take : ByteArray := prog_2_method_5_code
def mn_C_take : MethodName := ⟨rn_C, "take", "(LSealedFragmentRegister$Letter;I)V"⟩
abbrev cb_X_hasHeardEnough : ByteArray := prog_1_method_30_code
def mn_X_hasHeardEnough : MethodName := ⟨rn_X, "hasHeardEnough", "(LSealedFragmentRegister$Client;)Z"⟩
abbrev cb_C_hasAllFragments : ByteArray := prog_2_method_6_code
def mn_C_hasAllFragments : MethodName := ⟨rn_C, "hasAllFragments", "()Z"⟩
abbrev cb_X_endPhase : ByteArray := prog_1_method_31_code
def mn_X_endPhase : MethodName := ⟨rn_X, "endPhase", "(LSealedFragmentRegister$Client;)I"⟩
abbrev cb_K_decode : ByteArray := prog_3_method_3_code
def mn_K_decode : MethodName := ⟨rn_K, "decode", "([I[J)J"⟩
abbrev cb_K_interpolate : ByteArray := prog_3_method_4_code
def mn_K_interpolate : MethodName := ⟨rn_K, "interpolate", "([I)V"⟩
abbrev cb_K_inverse : ByteArray := prog_3_method_9_code
def mn_K_inverse : MethodName := ⟨rn_K, "inverse", "(I)I"⟩
abbrev cb_C_finish : ByteArray := prog_2_method_7_code
def mn_C_finish : MethodName := ⟨rn_C, "finish", "()V"⟩
abbrev cb_X_crash : ByteArray := prog_1_method_7_code
def mn_X_crash : MethodName := ⟨rn_X, "crash", "(I)Z"⟩
abbrev cb_R_lose : ByteArray := prog_5_method_4_code
def mn_R_lose : MethodName := ⟨rn_R, "lose", "()V"⟩
abbrev cb_X_stop : ByteArray := prog_1_method_8_code
def mn_X_stop : MethodName := ⟨rn_X, "stop", "(I)Z"⟩
abbrev cb_X_phase : ByteArray := prog_1_method_9_code
def mn_X_phase : MethodName := ⟨rn_X, "phase", "(I)I"⟩
abbrev cb_X_heard : ByteArray := prog_1_method_10_code
def mn_X_heard : MethodName := ⟨rn_X, "heard", "(I)I"⟩
abbrev cb_X_tag : ByteArray := prog_1_method_11_code
def mn_X_tag : MethodName := ⟨rn_X, "tag", "(I)I"⟩
abbrev cb_X_result : ByteArray := prog_1_method_12_code
def mn_X_result : MethodName := ⟨rn_X, "result", "(I)J"⟩
abbrev cb_X_finished : ByteArray := prog_1_method_13_code
def mn_X_finished : MethodName := ⟨rn_X, "finished", "(I)I"⟩
abbrev cb_X_held : ByteArray := prog_1_method_14_code
def mn_X_held : MethodName := ⟨rn_X, "held", "(I)I"⟩
abbrev cb_X_heldTag : ByteArray := prog_1_method_15_code
def mn_X_heldTag : MethodName := ⟨rn_X, "heldTag", "(II)I"⟩
abbrev cb_X_fragment : ByteArray := prog_1_method_16_code
def mn_X_fragment : MethodName := ⟨rn_X, "fragment", "(III)I"⟩
abbrev cb_X_seal : ByteArray := prog_1_method_17_code
def mn_X_seal : MethodName := ⟨rn_X, "seal", "(I)I"⟩
abbrev cb_X_requests : ByteArray := prog_1_method_18_code
def mn_X_requests : MethodName := ⟨rn_X, "requests", "(II)I"⟩
abbrev cb_X_replies : ByteArray := prog_1_method_19_code
def mn_X_replies : MethodName := ⟨rn_X, "replies", "(II)I"⟩
abbrev cb_X_quorum : ByteArray := prog_1_method_20_code
def mn_X_quorum : MethodName := ⟨rn_X, "quorum", "()I"⟩
abbrev cb_W_cell : ByteArray := method_2_code
def mn_W_cell : MethodName := ⟨rn_W, "cell", "([II)I"⟩
abbrev cb_M_init : ByteArray := prog_8_method_1_code
def mn_M_init : MethodName := ⟨rn_M, "<init>", "(III)V"⟩
abbrev cb_M_quorum : ByteArray := prog_8_method_4_code
def mn_M_quorum : MethodName := ⟨rn_M, "quorum", "()I"⟩
abbrev cb_M_requests : ByteArray := prog_8_method_9_code
def mn_M_requests : MethodName := ⟨rn_M, "requests", "(II)I"⟩
abbrev cb_M_noClient : ByteArray := prog_8_method_2_code
def mn_M_noClient : MethodName := ⟨rn_M, "noClient", "(I)Z"⟩
abbrev cb_M_noServer : ByteArray := prog_8_method_3_code
def mn_M_noServer : MethodName := ⟨rn_M, "noServer", "(I)Z"⟩
abbrev cb_M_count : ByteArray := prog_8_method_7_code
def mn_M_count : MethodName := ⟨rn_M, "count", "(ZII)I"⟩
abbrev cb_M_replies : ByteArray := prog_8_method_10_code
def mn_M_replies : MethodName := ⟨rn_M, "replies", "(II)I"⟩
abbrev cb_M_write : ByteArray := prog_8_method_14_code
def mn_M_write : MethodName := ⟨rn_M, "write", "(IJ)I"⟩
abbrev cb_M_refusal : ByteArray := prog_8_method_13_code
def mn_M_refusal : MethodName := ⟨rn_M, "refusal", "(I)I"⟩
abbrev cb_M_crowded : ByteArray := prog_8_method_11_code
def mn_M_crowded : MethodName := ⟨rn_M, "crowded", "(I)Z"⟩
abbrev cb_M_begin : ByteArray := prog_8_method_12_code
def mn_M_begin : MethodName := ⟨rn_M, "begin", "(II)V"⟩
abbrev cb_M_send : ByteArray := prog_8_method_5_code
def mn_M_send : MethodName := ⟨rn_M, "send", "(ZIIII)V"⟩
abbrev cb_M_read : ByteArray := prog_8_method_15_code
def mn_M_read : MethodName := ⟨rn_M, "read", "(I)I"⟩
abbrev cb_M_again : ByteArray := prog_8_method_16_code
def mn_M_again : MethodName := ⟨rn_M, "again", "(I)I"⟩
abbrev cb_M_deliver : ByteArray := prog_8_method_19_code
def mn_M_deliver : MethodName := ⟨rn_M, "deliver", "(III)I"⟩
abbrev cb_M_seek : ByteArray := prog_8_method_8_code
def mn_M_seek : MethodName := ⟨rn_M, "seek", "(ZIII)I"⟩
abbrev cb_M_lose : ByteArray := prog_8_method_6_code
def mn_M_lose : MethodName := ⟨rn_M, "lose", "(I)V"⟩
abbrev cb_M_store : ByteArray := prog_8_method_18_code
def mn_M_store : MethodName := ⟨rn_M, "store", "(IIJ)V"⟩
abbrev cb_M_place : ByteArray := prog_8_method_17_code
def mn_M_place : MethodName := ⟨rn_M, "place", "(II)I"⟩
abbrev cb_M_hear : ByteArray := prog_8_method_20_code
def mn_M_hear : MethodName := ⟨rn_M, "hear", "(III)I"⟩
abbrev cb_M_onwards : ByteArray := prog_8_method_21_code
def mn_M_onwards : MethodName := ⟨rn_M, "onwards", "(I)I"⟩
abbrev cb_M_crash : ByteArray := prog_8_method_22_code
def mn_M_crash : MethodName := ⟨rn_M, "crash", "(I)Z"⟩
abbrev cb_M_stop : ByteArray := prog_8_method_23_code
def mn_M_stop : MethodName := ⟨rn_M, "stop", "(I)Z"⟩
abbrev cb_M_phase : ByteArray := prog_8_method_24_code
def mn_M_phase : MethodName := ⟨rn_M, "phase", "(I)I"⟩
abbrev cb_M_heard : ByteArray := prog_8_method_25_code
def mn_M_heard : MethodName := ⟨rn_M, "heard", "(I)I"⟩
abbrev cb_M_tag : ByteArray := prog_8_method_26_code
def mn_M_tag : MethodName := ⟨rn_M, "tag", "(I)I"⟩
abbrev cb_M_result : ByteArray := prog_8_method_27_code
def mn_M_result : MethodName := ⟨rn_M, "result", "(I)J"⟩
abbrev cb_M_finished : ByteArray := prog_8_method_28_code
def mn_M_finished : MethodName := ⟨rn_M, "finished", "(I)I"⟩
abbrev cb_M_held : ByteArray := prog_8_method_29_code
def mn_M_held : MethodName := ⟨rn_M, "held", "(I)I"⟩
abbrev cb_M_heldTag : ByteArray := prog_8_method_30_code
def mn_M_heldTag : MethodName := ⟨rn_M, "heldTag", "(II)I"⟩
abbrev cb_M_fragment : ByteArray := prog_8_method_32_code
def mn_M_fragment : MethodName := ⟨rn_M, "fragment", "(III)I"⟩
abbrev cb_M_product : ByteArray := prog_8_method_31_code
def mn_M_product : MethodName := ⟨rn_M, "product", "(II)I"⟩
abbrev cb_M_seal : ByteArray := prog_8_method_33_code
def mn_M_seal : MethodName := ⟨rn_M, "seal", "(I)I"⟩
abbrev cb_W_law : ByteArray := code
def gw_tbl : List Cond := lw_tbl.filter goodWord
theorem gw_in {w : Cond} (i : Nat) (h : lw_tbl[i]? = some w) (hg : goodWord w = true) : w ∈ gw_tbl := List.mem_filter.mpr ⟨List.mem_of_getElem? h, hg⟩
theorem gw_good {w : Cond} (h : w ∈ gw_tbl) : (w.onTables && w.keeps) = true ∨ ∃ ty, w = .arrayClass ty := good_of_word (List.mem_filter.mp h).2
theorem gw_sub {w : Cond} (h : w ∈ gw_tbl) : w ∈ lw_tbl := (List.mem_filter.mp h).1
/-- a method's words: its code, then the whole table -/
abbrev gw_ws (y : MethodName) (cb : ByteArray) (n : Nat) (r : Option FieldType) : List Cond := .code y cb n r :: gw_tbl
theorem gw_all {y : MethodName} {cb : ByteArray} {n : Nat} {r : Option FieldType} (h : Cond.code y cb n r ∈ gw_tbl) : GoodIn gw_tbl (gw_ws y cb n r) := fun w hw => (List.mem_cons.mp hw).elim (fun e => by rw [e]; exact ⟨h, gw_good h⟩) (fun h => ⟨h, gw_good h⟩)
theorem se_X_refusalToBegin : Cond.selects rn_X mn_X_refusalToBegin mn_X_refusalToBegin ∈ gw_tbl := gw_in 0 (by decide +kernel) (by decide +kernel)
theorem se_X_isClient : Cond.selects rn_X mn_X_isClient mn_X_isClient ∈ gw_tbl := gw_in 1 (by decide +kernel) (by decide +kernel)
theorem se_X_isCrowded : Cond.selects rn_X mn_X_isCrowded mn_X_isCrowded ∈ gw_tbl := gw_in 2 (by decide +kernel) (by decide +kernel)
theorem se_X_rowOf : Cond.selects rn_X mn_X_rowOf mn_X_rowOf ∈ gw_tbl := gw_in 3 (by decide +kernel) (by decide +kernel)
theorem se_X_beginPhase : Cond.selects rn_X mn_X_beginPhase mn_X_beginPhase ∈ gw_tbl := gw_in 4 (by decide +kernel) (by decide +kernel)
theorem se_X_requestTo : Cond.selects rn_X mn_X_requestTo mn_X_requestTo ∈ gw_tbl := gw_in 5 (by decide +kernel) (by decide +kernel)
theorem se_X_isServer : Cond.selects rn_X mn_X_isServer mn_X_isServer ∈ gw_tbl := gw_in 6 (by decide +kernel) (by decide +kernel)
theorem se_X_hasHeardEnough : Cond.selects rn_X mn_X_hasHeardEnough mn_X_hasHeardEnough ∈ gw_tbl := gw_in 7 (by decide +kernel) (by decide +kernel)
theorem se_X_endPhase : Cond.selects rn_X mn_X_endPhase mn_X_endPhase ∈ gw_tbl := gw_in 8 (by decide +kernel) (by decide +kernel)
theorem se_M_noClient : Cond.selects rn_M mn_M_noClient mn_M_noClient ∈ gw_tbl := gw_in 9 (by decide +kernel) (by decide +kernel)
theorem se_M_noServer : Cond.selects rn_M mn_M_noServer mn_M_noServer ∈ gw_tbl := gw_in 10 (by decide +kernel) (by decide +kernel)
theorem se_M_count : Cond.selects rn_M mn_M_count mn_M_count ∈ gw_tbl := gw_in 11 (by decide +kernel) (by decide +kernel)
theorem se_M_refusal : Cond.selects rn_M mn_M_refusal mn_M_refusal ∈ gw_tbl := gw_in 12 (by decide +kernel) (by decide +kernel)
theorem se_M_crowded : Cond.selects rn_M mn_M_crowded mn_M_crowded ∈ gw_tbl := gw_in 13 (by decide +kernel) (by decide +kernel)
theorem se_M_begin : Cond.selects rn_M mn_M_begin mn_M_begin ∈ gw_tbl := gw_in 14 (by decide +kernel) (by decide +kernel)
theorem se_M_send : Cond.selects rn_M mn_M_send mn_M_send ∈ gw_tbl := gw_in 15 (by decide +kernel) (by decide +kernel)
theorem se_M_seek : Cond.selects rn_M mn_M_seek mn_M_seek ∈ gw_tbl := gw_in 16 (by decide +kernel) (by decide +kernel)
theorem se_M_lose : Cond.selects rn_M mn_M_lose mn_M_lose ∈ gw_tbl := gw_in 17 (by decide +kernel) (by decide +kernel)
theorem se_M_store : Cond.selects rn_M mn_M_store mn_M_store ∈ gw_tbl := gw_in 18 (by decide +kernel) (by decide +kernel)
theorem se_M_place : Cond.selects rn_M mn_M_place mn_M_place ∈ gw_tbl := gw_in 19 (by decide +kernel) (by decide +kernel)
theorem se_M_onwards : Cond.selects rn_M mn_M_onwards mn_M_onwards ∈ gw_tbl := gw_in 20 (by decide +kernel) (by decide +kernel)
theorem se_M_product : Cond.selects rn_M mn_M_product mn_M_product ∈ gw_tbl := gw_in 21 (by decide +kernel) (by decide +kernel)
theorem in_W : Cond.initialized rn_W ∈ gw_tbl := gw_in 22 (by decide +kernel) (by decide +kernel)
theorem in_X : Cond.initialized rn_X ∈ gw_tbl := gw_in 23 (by decide +kernel) (by decide +kernel)
theorem in_J : Cond.initialized rn_J ∈ gw_tbl := gw_in 24 (by decide +kernel) (by decide +kernel)
theorem in_K : Cond.initialized rn_K ∈ gw_tbl := gw_in 25 (by decide +kernel) (by decide +kernel)
theorem in_C : Cond.initialized rn_C ∈ gw_tbl := gw_in 26 (by decide +kernel) (by decide +kernel)
theorem in_S : Cond.initialized rn_S ∈ gw_tbl := gw_in 27 (by decide +kernel) (by decide +kernel)
theorem in_R : Cond.initialized rn_R ∈ gw_tbl := gw_in 28 (by decide +kernel) (by decide +kernel)
theorem in_M : Cond.initialized rn_M ∈ gw_tbl := gw_in 29 (by decide +kernel) (by decide +kernel)
theorem in_L : Cond.initialized rn_L ∈ gw_tbl := gw_in 30 (by decide +kernel) (by decide +kernel)
theorem kl_W_X : Cond.classLink rn_W 7 rn_X ∈ gw_tbl := gw_in 31 (by decide +kernel) (by decide +kernel)
theorem is_X : Cond.instantiable rn_X 8 ∈ gw_tbl := gw_in 32 (by decide +kernel) (by decide +kernel)
theorem ml_W_X_init : Cond.methodLink rn_W 15 mn_X_init ∈ gw_tbl := gw_in 33 (by decide +kernel) (by decide +kernel)
theorem im_X_init : Cond.instanceMethod mn_X_init ∈ gw_tbl := gw_in 34 (by decide +kernel) (by decide +kernel)
theorem co_X_init : Cond.code mn_X_init cb_X_init 8 none ∈ gw_tbl := gw_in 35 (by decide +kernel) (by decide +kernel)
theorem ml_X_O_init : Cond.methodLink rn_X 3 objectInit ∈ gw_tbl := gw_in 36 (by decide +kernel) (by decide +kernel)
theorem im_O_init : Cond.instanceMethod objectInit ∈ gw_tbl := gw_in 37 (by decide +kernel) (by decide +kernel)
theorem co_O_init : Cond.code objectInit ⟨#[0xb1]⟩ 1 none ∈ gw_tbl := gw_in 38 (by decide +kernel) (by decide +kernel)
theorem ml_X_X_between : Cond.methodLink rn_X 9 mn_X_between ∈ gw_tbl := gw_in 39 (by decide +kernel) (by decide +kernel)
theorem st_X_between : Cond.static mn_X_between ∈ gw_tbl := gw_in 40 (by decide +kernel) (by decide +kernel)
theorem co_X_between : Cond.code mn_X_between cb_X_between 3 (some .int) ∈ gw_tbl := gw_in 41 (by decide +kernel) (by decide +kernel)
theorem ml_X_J_min : Cond.methodLink rn_X 170 Lib.Math.min.name ∈ gw_tbl := gw_in 42 (by decide +kernel) (by decide +kernel)
theorem st_J_min : Cond.static Lib.Math.min.name ∈ gw_tbl := gw_in 43 (by decide +kernel) (by decide +kernel)
theorem co_J_min : Cond.code Lib.Math.min.name Lib.Math.min.code 2 (some .int) ∈ gw_tbl := gw_in 44 (by decide +kernel) (by decide +kernel)
theorem ml_X_J_max : Cond.methodLink rn_X 175 Lib.Math.max.name ∈ gw_tbl := gw_in 45 (by decide +kernel) (by decide +kernel)
theorem st_J_max : Cond.static Lib.Math.max.name ∈ gw_tbl := gw_in 46 (by decide +kernel) (by decide +kernel)
theorem co_J_max : Cond.code Lib.Math.max.name Lib.Math.max.code 2 (some .int) ∈ gw_tbl := gw_in 47 (by decide +kernel) (by decide +kernel)
theorem kl_X_K : Cond.classLink rn_X 20 rn_K ∈ gw_tbl := gw_in 48 (by decide +kernel) (by decide +kernel)
theorem is_K : Cond.instantiable rn_K 3 ∈ gw_tbl := gw_in 49 (by decide +kernel) (by decide +kernel)
theorem ml_X_K_init : Cond.methodLink rn_X 22 mn_K_init ∈ gw_tbl := gw_in 50 (by decide +kernel) (by decide +kernel)
theorem im_K_init : Cond.instanceMethod mn_K_init ∈ gw_tbl := gw_in 51 (by decide +kernel) (by decide +kernel)
theorem co_K_init : Cond.code mn_K_init cb_K_init 2 none ∈ gw_tbl := gw_in 52 (by decide +kernel) (by decide +kernel)
theorem ml_K_O_init : Cond.methodLink rn_K 3 objectInit ∈ gw_tbl := gw_in 53 (by decide +kernel) (by decide +kernel)
theorem fl_K_K_needed : Cond.fieldLink rn_K 9 rn_K "needed" "I" ∈ gw_tbl := gw_in 54 (by decide +kernel) (by decide +kernel)
theorem fl_K_K_length : Cond.fieldLink rn_K 15 rn_K "length" "I" ∈ gw_tbl := gw_in 55 (by decide +kernel) (by decide +kernel)
theorem fl_X_K_length : Cond.fieldLink rn_X 150 rn_K "length" "I" ∈ gw_tbl := gw_in 56 (by decide +kernel) (by decide +kernel)
theorem fl_K_K_column : Cond.fieldLink rn_K 18 rn_K "column" "[I" ∈ gw_tbl := gw_in 57 (by decide +kernel) (by decide +kernel)
theorem ac_int : Cond.arrayClass .int ∈ gw_tbl := gw_in 65 (by decide +kernel) (by decide +kernel)
theorem kl_X_C : Cond.classLink rn_X 29 rn_C ∈ gw_tbl := gw_in 66 (by decide +kernel) (by decide +kernel)
theorem ao_C : Cond.arrayOver (.object rn_C) ∈ lw_tbl := List.mem_of_getElem? (i := 67) (by decide +kernel)
theorem is_C : Cond.instantiable rn_C 13 ∈ gw_tbl := gw_in 68 (by decide +kernel) (by decide +kernel)
theorem ml_X_C_init : Cond.methodLink rn_X 35 mn_C_init ∈ gw_tbl := gw_in 69 (by decide +kernel) (by decide +kernel)
theorem im_C_init : Cond.instanceMethod mn_C_init ∈ gw_tbl := gw_in 70 (by decide +kernel) (by decide +kernel)
theorem co_C_init : Cond.code mn_C_init cb_C_init 3 none ∈ gw_tbl := gw_in 71 (by decide +kernel) (by decide +kernel)
theorem ml_C_O_init : Cond.methodLink rn_C 3 objectInit ∈ gw_tbl := gw_in 72 (by decide +kernel) (by decide +kernel)
theorem fl_C_C_number : Cond.fieldLink rn_C 15 rn_C "number" "I" ∈ gw_tbl := gw_in 73 (by decide +kernel) (by decide +kernel)
theorem fl_X_C_number : Cond.fieldLink rn_X 182 rn_C "number" "I" ∈ gw_tbl := gw_in 74 (by decide +kernel) (by decide +kernel)
theorem fl_C_C_sources : Cond.fieldLink rn_C 18 rn_C "sources" "[I" ∈ gw_tbl := gw_in 75 (by decide +kernel) (by decide +kernel)
theorem fl_X_C_sources : Cond.fieldLink rn_X 208 rn_C "sources" "[I" ∈ gw_tbl := gw_in 76 (by decide +kernel) (by decide +kernel)
theorem fl_C_C_fragments : Cond.fieldLink rn_C 22 rn_C "fragments" "[J" ∈ gw_tbl := gw_in 77 (by decide +kernel) (by decide +kernel)
theorem fl_X_C_fragments : Cond.fieldLink rn_X 211 rn_C "fragments" "[J" ∈ gw_tbl := gw_in 78 (by decide +kernel) (by decide +kernel)
theorem fl_C_C_fragmentCount : Cond.fieldLink rn_C 39 rn_C "fragmentCount" "I" ∈ gw_tbl := gw_in 79 (by decide +kernel) (by decide +kernel)
theorem fl_C_C_crashed : Cond.fieldLink rn_C 26 rn_C "crashed" "Z" ∈ gw_tbl := gw_in 80 (by decide +kernel) (by decide +kernel)
theorem fl_X_C_crashed : Cond.fieldLink rn_X 72 rn_C "crashed" "Z" ∈ gw_tbl := gw_in 81 (by decide +kernel) (by decide +kernel)
theorem fl_C_C_phase : Cond.fieldLink rn_C 9 rn_C "phase" "I" ∈ gw_tbl := gw_in 82 (by decide +kernel) (by decide +kernel)
theorem fl_X_C_phase : Cond.fieldLink rn_X 76 rn_C "phase" "I" ∈ gw_tbl := gw_in 83 (by decide +kernel) (by decide +kernel)
theorem fl_C_C_beginning : Cond.fieldLink rn_C 30 rn_C "beginning" "I" ∈ gw_tbl := gw_in 84 (by decide +kernel) (by decide +kernel)
theorem fl_X_C_beginning : Cond.fieldLink rn_X 189 rn_C "beginning" "I" ∈ gw_tbl := gw_in 85 (by decide +kernel) (by decide +kernel)
theorem fl_C_C_heard : Cond.fieldLink rn_C 33 rn_C "heard" "I" ∈ gw_tbl := gw_in 86 (by decide +kernel) (by decide +kernel)
theorem fl_X_C_heard : Cond.fieldLink rn_X 79 rn_C "heard" "I" ∈ gw_tbl := gw_in 87 (by decide +kernel) (by decide +kernel)
theorem fl_C_C_highestSeal : Cond.fieldLink rn_C 36 rn_C "highestSeal" "I" ∈ gw_tbl := gw_in 88 (by decide +kernel) (by decide +kernel)
theorem fl_X_C_highestSeal : Cond.fieldLink rn_X 205 rn_C "highestSeal" "I" ∈ gw_tbl := gw_in 89 (by decide +kernel) (by decide +kernel)
theorem fl_X_C_tag : Cond.fieldLink rn_X 134 rn_C "tag" "I" ∈ gw_tbl := gw_in 90 (by decide +kernel) (by decide +kernel)
theorem fl_X_C_block : Cond.fieldLink rn_X 60 rn_C "block" "J" ∈ gw_tbl := gw_in 91 (by decide +kernel) (by decide +kernel)
theorem fl_X_C_result : Cond.fieldLink rn_X 137 rn_C "result" "J" ∈ gw_tbl := gw_in 92 (by decide +kernel) (by decide +kernel)
theorem fl_C_C_finished : Cond.fieldLink rn_C 65 rn_C "finished" "I" ∈ gw_tbl := gw_in 93 (by decide +kernel) (by decide +kernel)
theorem fl_X_C_finished : Cond.fieldLink rn_X 140 rn_C "finished" "I" ∈ gw_tbl := gw_in 94 (by decide +kernel) (by decide +kernel)
theorem ac_long : Cond.arrayClass .long ∈ gw_tbl := gw_in 122 (by decide +kernel) (by decide +kernel)
theorem kl_X_S : Cond.classLink rn_X 38 rn_S ∈ gw_tbl := gw_in 123 (by decide +kernel) (by decide +kernel)
theorem ao_S : Cond.arrayOver (.object rn_S) ∈ lw_tbl := List.mem_of_getElem? (i := 124) (by decide +kernel)
theorem is_S : Cond.instantiable rn_S 6 ∈ gw_tbl := gw_in 125 (by decide +kernel) (by decide +kernel)
theorem ml_X_S_init : Cond.methodLink rn_X 44 mn_S_init ∈ gw_tbl := gw_in 126 (by decide +kernel) (by decide +kernel)
theorem im_S_init : Cond.instanceMethod mn_S_init ∈ gw_tbl := gw_in 127 (by decide +kernel) (by decide +kernel)
theorem co_S_init : Cond.code mn_S_init cb_S_init 2 none ∈ gw_tbl := gw_in 128 (by decide +kernel) (by decide +kernel)
theorem ml_S_O_init : Cond.methodLink rn_S 3 objectInit ∈ gw_tbl := gw_in 129 (by decide +kernel) (by decide +kernel)
theorem fl_S_S_mostTags : Cond.fieldLink rn_S 15 rn_S "mostTags" "I" ∈ gw_tbl := gw_in 130 (by decide +kernel) (by decide +kernel)
theorem fl_S_S_tags : Cond.fieldLink rn_S 18 rn_S "tags" "[I" ∈ gw_tbl := gw_in 131 (by decide +kernel) (by decide +kernel)
theorem fl_X_S_tags : Cond.fieldLink rn_X 146 rn_S "tags" "[I" ∈ gw_tbl := gw_in 132 (by decide +kernel) (by decide +kernel)
theorem fl_S_S_fragments : Cond.fieldLink rn_S 22 rn_S "fragments" "[J" ∈ gw_tbl := gw_in 133 (by decide +kernel) (by decide +kernel)
theorem fl_X_S_fragments : Cond.fieldLink rn_X 156 rn_S "fragments" "[J" ∈ gw_tbl := gw_in 134 (by decide +kernel) (by decide +kernel)
theorem fl_S_S_count : Cond.fieldLink rn_S 9 rn_S "count" "I" ∈ gw_tbl := gw_in 135 (by decide +kernel) (by decide +kernel)
theorem fl_X_S_count : Cond.fieldLink rn_X 143 rn_S "count" "I" ∈ gw_tbl := gw_in 136 (by decide +kernel) (by decide +kernel)
theorem fl_S_S_seal : Cond.fieldLink rn_S 50 rn_S "seal" "I" ∈ gw_tbl := gw_in 137 (by decide +kernel) (by decide +kernel)
theorem fl_X_S_seal : Cond.fieldLink rn_X 164 rn_S "seal" "I" ∈ gw_tbl := gw_in 138 (by decide +kernel) (by decide +kernel)
theorem fl_X_S_crashed : Cond.fieldLink rn_X 123 rn_S "crashed" "Z" ∈ gw_tbl := gw_in 139 (by decide +kernel) (by decide +kernel)
theorem ml_X_X_emptyRows : Cond.methodLink rn_X 45 mn_X_emptyRows ∈ gw_tbl := gw_in 153 (by decide +kernel) (by decide +kernel)
theorem st_X_emptyRows : Cond.static mn_X_emptyRows ∈ gw_tbl := gw_in 154 (by decide +kernel) (by decide +kernel)
theorem co_X_emptyRows : Cond.code mn_X_emptyRows cb_X_emptyRows 3 (some (.array (.object "SealedFragmentRegister$Row"))) ∈ gw_tbl := gw_in 155 (by decide +kernel) (by decide +kernel)
theorem kl_X_R : Cond.classLink rn_X 93 rn_R ∈ gw_tbl := gw_in 156 (by decide +kernel) (by decide +kernel)
theorem ao_R : Cond.arrayOver (.object rn_R) ∈ lw_tbl := List.mem_of_getElem? (i := 157) (by decide +kernel)
theorem is_R : Cond.instantiable rn_R 2 ∈ gw_tbl := gw_in 158 (by decide +kernel) (by decide +kernel)
theorem mq_X_R_init : Cond.methodLinkNest rn_X 178 mn_R_init rn_X ∈ lw_tbl := List.mem_of_getElem? (i := 159) (by decide +kernel)
theorem im_R_init : Cond.instanceMethod mn_R_init ∈ gw_tbl := gw_in 160 (by decide +kernel) (by decide +kernel)
theorem co_R_init : Cond.code mn_R_init cb_R_init 1 none ∈ gw_tbl := gw_in 161 (by decide +kernel) (by decide +kernel)
theorem ml_R_O_init : Cond.methodLink rn_R 3 objectInit ∈ gw_tbl := gw_in 162 (by decide +kernel) (by decide +kernel)
theorem kl_R_L : Cond.classLink rn_R 9 rn_L ∈ gw_tbl := gw_in 163 (by decide +kernel) (by decide +kernel)
theorem ao_L : Cond.arrayOver (.object rn_L) ∈ lw_tbl := List.mem_of_getElem? (i := 164) (by decide +kernel)
theorem fl_R_R_letters : Cond.fieldLink rn_R 11 rn_R "letters" "[LSealedFragmentRegister$Letter;" ∈ gw_tbl := gw_in 165 (by decide +kernel) (by decide +kernel)
theorem fl_R_R_size : Cond.fieldLink rn_R 17 rn_R "size" "I" ∈ gw_tbl := gw_in 166 (by decide +kernel) (by decide +kernel)
theorem fl_X_R_size : Cond.fieldLink rn_X 167 rn_R "size" "I" ∈ gw_tbl := gw_in 167 (by decide +kernel) (by decide +kernel)
theorem fl_X_X_quorumSize : Cond.fieldLink rn_X 17 rn_X "quorumSize" "I" ∈ gw_tbl := gw_in 173 (by decide +kernel) (by decide +kernel)
theorem fl_X_X_mostCrashes : Cond.fieldLink rn_X 13 rn_X "mostCrashes" "I" ∈ gw_tbl := gw_in 174 (by decide +kernel) (by decide +kernel)
theorem fl_X_X_code : Cond.fieldLink rn_X 25 rn_X "code" "LSealedFragmentRegister$Code;" ∈ gw_tbl := gw_in 175 (by decide +kernel) (by decide +kernel)
theorem fl_X_X_clients : Cond.fieldLink rn_X 31 rn_X "clients" "[LSealedFragmentRegister$Client;" ∈ gw_tbl := gw_in 176 (by decide +kernel) (by decide +kernel)
theorem fl_X_X_servers : Cond.fieldLink rn_X 40 rn_X "servers" "[LSealedFragmentRegister$Server;" ∈ gw_tbl := gw_in 177 (by decide +kernel) (by decide +kernel)
theorem fl_X_X_requestRows : Cond.fieldLink rn_X 49 rn_X "requestRows" "[LSealedFragmentRegister$Row;" ∈ gw_tbl := gw_in 178 (by decide +kernel) (by decide +kernel)
theorem fl_X_X_replyRows : Cond.fieldLink rn_X 53 rn_X "replyRows" "[LSealedFragmentRegister$Row;" ∈ gw_tbl := gw_in 179 (by decide +kernel) (by decide +kernel)
theorem fl_X_X_crashes : Cond.fieldLink rn_X 124 rn_X "crashes" "I" ∈ gw_tbl := gw_in 180 (by decide +kernel) (by decide +kernel)
theorem ml_W_X_write : Cond.methodLink rn_W 23 mn_X_write ∈ gw_tbl := gw_in 198 (by decide +kernel) (by decide +kernel)
theorem im_X_write : Cond.instanceMethod mn_X_write ∈ gw_tbl := gw_in 199 (by decide +kernel) (by decide +kernel)
theorem se_X_write : Cond.selects rn_X mn_X_write mn_X_write ∈ gw_tbl := gw_in 200 (by decide +kernel) (by decide +kernel)
theorem co_X_write : Cond.code mn_X_write cb_X_write 5 (some .int) ∈ gw_tbl := gw_in 201 (by decide +kernel) (by decide +kernel)
theorem ml_X_X_refusalToBegin : Cond.methodLink rn_X 56 mn_X_refusalToBegin ∈ gw_tbl := gw_in 202 (by decide +kernel) (by decide +kernel)
theorem im_X_refusalToBegin : Cond.instanceMethod mn_X_refusalToBegin ∈ gw_tbl := gw_in 204 (by decide +kernel) (by decide +kernel)
theorem co_X_refusalToBegin : Cond.code mn_X_refusalToBegin cb_X_refusalToBegin 2 (some .int) ∈ gw_tbl := gw_in 205 (by decide +kernel) (by decide +kernel)
theorem ml_X_X_isClient : Cond.methodLink rn_X 68 mn_X_isClient ∈ gw_tbl := gw_in 206 (by decide +kernel) (by decide +kernel)
theorem im_X_isClient : Cond.instanceMethod mn_X_isClient ∈ gw_tbl := gw_in 208 (by decide +kernel) (by decide +kernel)
theorem co_X_isClient : Cond.code mn_X_isClient cb_X_isClient 2 (some .boolean) ∈ gw_tbl := gw_in 209 (by decide +kernel) (by decide +kernel)
theorem ml_X_C_isAtWork : Cond.methodLink rn_X 130 mn_C_isAtWork ∈ gw_tbl := gw_in 210 (by decide +kernel) (by decide +kernel)
theorem im_C_isAtWork : Cond.instanceMethod mn_C_isAtWork ∈ gw_tbl := gw_in 211 (by decide +kernel) (by decide +kernel)
theorem se_C_isAtWork : Cond.selects rn_C mn_C_isAtWork mn_C_isAtWork ∈ gw_tbl := gw_in 212 (by decide +kernel) (by decide +kernel)
theorem co_C_isAtWork : Cond.code mn_C_isAtWork cb_C_isAtWork 1 (some .boolean) ∈ gw_tbl := gw_in 213 (by decide +kernel) (by decide +kernel)
theorem ml_X_X_isCrowded : Cond.methodLink rn_X 82 mn_X_isCrowded ∈ gw_tbl := gw_in 214 (by decide +kernel) (by decide +kernel)
theorem im_X_isCrowded : Cond.instanceMethod mn_X_isCrowded ∈ gw_tbl := gw_in 216 (by decide +kernel) (by decide +kernel)
theorem co_X_isCrowded : Cond.code mn_X_isCrowded cb_X_isCrowded 4 (some .boolean) ∈ gw_tbl := gw_in 217 (by decide +kernel) (by decide +kernel)
theorem ml_X_X_rowOf : Cond.methodLink rn_X 88 mn_X_rowOf ∈ gw_tbl := gw_in 218 (by decide +kernel) (by decide +kernel)
theorem im_X_rowOf : Cond.instanceMethod mn_X_rowOf ∈ gw_tbl := gw_in 220 (by decide +kernel) (by decide +kernel)
theorem co_X_rowOf : Cond.code mn_X_rowOf cb_X_rowOf 3 (some .int) ∈ gw_tbl := gw_in 221 (by decide +kernel) (by decide +kernel)
theorem ml_X_X_beginPhase : Cond.methodLink rn_X 64 mn_X_beginPhase ∈ gw_tbl := gw_in 222 (by decide +kernel) (by decide +kernel)
theorem im_X_beginPhase : Cond.instanceMethod mn_X_beginPhase ∈ gw_tbl := gw_in 224 (by decide +kernel) (by decide +kernel)
theorem co_X_beginPhase : Cond.code mn_X_beginPhase cb_X_beginPhase 4 none ∈ gw_tbl := gw_in 225 (by decide +kernel) (by decide +kernel)
theorem ml_X_C_enter : Cond.methodLink rn_X 179 mn_C_enter ∈ gw_tbl := gw_in 226 (by decide +kernel) (by decide +kernel)
theorem im_C_enter : Cond.instanceMethod mn_C_enter ∈ gw_tbl := gw_in 227 (by decide +kernel) (by decide +kernel)
theorem se_C_enter : Cond.selects rn_C mn_C_enter mn_C_enter ∈ gw_tbl := gw_in 228 (by decide +kernel) (by decide +kernel)
theorem co_C_enter : Cond.code mn_C_enter cb_C_enter 2 none ∈ gw_tbl := gw_in 229 (by decide +kernel) (by decide +kernel)
theorem ml_X_X_requestTo : Cond.methodLink rn_X 185 mn_X_requestTo ∈ gw_tbl := gw_in 230 (by decide +kernel) (by decide +kernel)
theorem im_X_requestTo : Cond.instanceMethod mn_X_requestTo ∈ gw_tbl := gw_in 232 (by decide +kernel) (by decide +kernel)
theorem co_X_requestTo : Cond.code mn_X_requestTo cb_X_requestTo 4 (some (.object "SealedFragmentRegister$Letter")) ∈ gw_tbl := gw_in 233 (by decide +kernel) (by decide +kernel)
theorem kl_X_L : Cond.classLink rn_X 106 rn_L ∈ gw_tbl := gw_in 234 (by decide +kernel) (by decide +kernel)
theorem is_L : Cond.instantiable rn_L 6 ∈ gw_tbl := gw_in 235 (by decide +kernel) (by decide +kernel)
theorem ml_X_L_init : Cond.methodLink rn_X 192 mn_L_init ∈ gw_tbl := gw_in 236 (by decide +kernel) (by decide +kernel)
theorem im_L_init : Cond.instanceMethod mn_L_init ∈ gw_tbl := gw_in 237 (by decide +kernel) (by decide +kernel)
theorem co_L_init : Cond.code mn_L_init cb_L_init 4 none ∈ gw_tbl := gw_in 238 (by decide +kernel) (by decide +kernel)
theorem ml_L_O_init : Cond.methodLink rn_L 1 objectInit ∈ gw_tbl := gw_in 239 (by decide +kernel) (by decide +kernel)
theorem fl_L_L_phase : Cond.fieldLink rn_L 7 rn_L "phase" "I" ∈ gw_tbl := gw_in 240 (by decide +kernel) (by decide +kernel)
theorem fl_S_L_phase : Cond.fieldLink rn_S 26 rn_L "phase" "I" ∈ gw_tbl := gw_in 241 (by decide +kernel) (by decide +kernel)
theorem fl_X_L_phase : Cond.fieldLink rn_X 105 rn_L "phase" "I" ∈ gw_tbl := gw_in 242 (by decide +kernel) (by decide +kernel)
theorem fl_L_L_beginning : Cond.fieldLink rn_L 13 rn_L "beginning" "I" ∈ gw_tbl := gw_in 243 (by decide +kernel) (by decide +kernel)
theorem fl_C_L_beginning : Cond.fieldLink rn_C 46 rn_L "beginning" "I" ∈ gw_tbl := gw_in 244 (by decide +kernel) (by decide +kernel)
theorem fl_L_L_tag : Cond.fieldLink rn_L 16 rn_L "tag" "I" ∈ gw_tbl := gw_in 245 (by decide +kernel) (by decide +kernel)
theorem fl_S_L_tag : Cond.fieldLink rn_S 31 rn_L "tag" "I" ∈ gw_tbl := gw_in 246 (by decide +kernel) (by decide +kernel)
theorem fl_S_L_fragment : Cond.fieldLink rn_S 34 rn_L "fragment" "J" ∈ gw_tbl := gw_in 247 (by decide +kernel) (by decide +kernel)
theorem fl_C_L_fragment : Cond.fieldLink rn_C 61 rn_L "fragment" "J" ∈ gw_tbl := gw_in 248 (by decide +kernel) (by decide +kernel)
theorem fl_X_L_fragment : Cond.fieldLink rn_X 199 rn_L "fragment" "J" ∈ gw_tbl := gw_in 249 (by decide +kernel) (by decide +kernel)
theorem fl_S_L_seal : Cond.fieldLink rn_S 53 rn_L "seal" "I" ∈ gw_tbl := gw_in 250 (by decide +kernel) (by decide +kernel)
theorem fl_C_L_seal : Cond.fieldLink rn_C 49 rn_L "seal" "I" ∈ gw_tbl := gw_in 251 (by decide +kernel) (by decide +kernel)
theorem fl_S_L_bearsFragment : Cond.fieldLink rn_S 67 rn_L "bearsFragment" "Z" ∈ gw_tbl := gw_in 252 (by decide +kernel) (by decide +kernel)
theorem fl_C_L_bearsFragment : Cond.fieldLink rn_C 58 rn_L "bearsFragment" "Z" ∈ gw_tbl := gw_in 253 (by decide +kernel) (by decide +kernel)
theorem ml_X_K_encode : Cond.methodLink rn_X 195 mn_K_encode ∈ gw_tbl := gw_in 267 (by decide +kernel) (by decide +kernel)
theorem im_K_encode : Cond.instanceMethod mn_K_encode ∈ gw_tbl := gw_in 268 (by decide +kernel) (by decide +kernel)
theorem se_K_encode : Cond.selects rn_K mn_K_encode mn_K_encode ∈ gw_tbl := gw_in 269 (by decide +kernel) (by decide +kernel)
theorem co_K_encode : Cond.code mn_K_encode cb_K_encode 9 (some .long) ∈ gw_tbl := gw_in 270 (by decide +kernel) (by decide +kernel)
theorem ml_K_K_pointOf : Cond.methodLink rn_K 22 mn_K_pointOf ∈ gw_tbl := gw_in 271 (by decide +kernel) (by decide +kernel)
theorem st_K_pointOf : Cond.static mn_K_pointOf ∈ gw_tbl := gw_in 272 (by decide +kernel) (by decide +kernel)
theorem co_K_pointOf : Cond.code mn_K_pointOf cb_K_pointOf 1 (some .int) ∈ gw_tbl := gw_in 273 (by decide +kernel) (by decide +kernel)
theorem ml_K_K_times : Cond.methodLink rn_K 26 mn_K_times ∈ gw_tbl := gw_in 274 (by decide +kernel) (by decide +kernel)
theorem st_K_times : Cond.static mn_K_times ∈ gw_tbl := gw_in 275 (by decide +kernel) (by decide +kernel)
theorem co_K_times : Cond.code mn_K_times cb_K_times 5 (some .int) ∈ gw_tbl := gw_in 276 (by decide +kernel) (by decide +kernel)
theorem ml_K_K_byteAt : Cond.methodLink rn_K 30 mn_K_byteAt ∈ gw_tbl := gw_in 277 (by decide +kernel) (by decide +kernel)
theorem st_K_byteAt : Cond.static mn_K_byteAt ∈ gw_tbl := gw_in 278 (by decide +kernel) (by decide +kernel)
theorem co_K_byteAt : Cond.code mn_K_byteAt cb_K_byteAt 3 (some .int) ∈ gw_tbl := gw_in 279 (by decide +kernel) (by decide +kernel)
theorem ml_K_K_placed : Cond.methodLink rn_K 34 mn_K_placed ∈ gw_tbl := gw_in 280 (by decide +kernel) (by decide +kernel)
theorem st_K_placed : Cond.static mn_K_placed ∈ gw_tbl := gw_in 281 (by decide +kernel) (by decide +kernel)
theorem co_K_placed : Cond.code mn_K_placed cb_K_placed 2 (some .long) ∈ gw_tbl := gw_in 282 (by decide +kernel) (by decide +kernel)
theorem ml_X_R_append : Cond.methodLink rn_X 102 mn_R_append ∈ gw_tbl := gw_in 283 (by decide +kernel) (by decide +kernel)
theorem im_R_append : Cond.instanceMethod mn_R_append ∈ gw_tbl := gw_in 284 (by decide +kernel) (by decide +kernel)
theorem se_R_append : Cond.selects rn_R mn_R_append mn_R_append ∈ gw_tbl := gw_in 285 (by decide +kernel) (by decide +kernel)
theorem co_R_append : Cond.code mn_R_append cb_R_append 2 none ∈ gw_tbl := gw_in 286 (by decide +kernel) (by decide +kernel)
theorem ml_W_X_read : Cond.methodLink rn_W 28 mn_X_read ∈ gw_tbl := gw_in 287 (by decide +kernel) (by decide +kernel)
theorem im_X_read : Cond.instanceMethod mn_X_read ∈ gw_tbl := gw_in 288 (by decide +kernel) (by decide +kernel)
theorem se_X_read : Cond.selects rn_X mn_X_read mn_X_read ∈ gw_tbl := gw_in 289 (by decide +kernel) (by decide +kernel)
theorem co_X_read : Cond.code mn_X_read cb_X_read 3 (some .int) ∈ gw_tbl := gw_in 290 (by decide +kernel) (by decide +kernel)
theorem ml_W_X_again : Cond.methodLink rn_W 33 mn_X_again ∈ gw_tbl := gw_in 291 (by decide +kernel) (by decide +kernel)
theorem im_X_again : Cond.instanceMethod mn_X_again ∈ gw_tbl := gw_in 292 (by decide +kernel) (by decide +kernel)
theorem se_X_again : Cond.selects rn_X mn_X_again mn_X_again ∈ gw_tbl := gw_in 293 (by decide +kernel) (by decide +kernel)
theorem co_X_again : Cond.code mn_X_again cb_X_again 3 (some .int) ∈ gw_tbl := gw_in 294 (by decide +kernel) (by decide +kernel)
theorem ml_W_X_deliver : Cond.methodLink rn_W 37 mn_X_deliver ∈ gw_tbl := gw_in 295 (by decide +kernel) (by decide +kernel)
theorem im_X_deliver : Cond.instanceMethod mn_X_deliver ∈ gw_tbl := gw_in 296 (by decide +kernel) (by decide +kernel)
theorem se_X_deliver : Cond.selects rn_X mn_X_deliver mn_X_deliver ∈ gw_tbl := gw_in 297 (by decide +kernel) (by decide +kernel)
theorem co_X_deliver : Cond.code mn_X_deliver cb_X_deliver 5 (some .int) ∈ gw_tbl := gw_in 298 (by decide +kernel) (by decide +kernel)
theorem ml_X_X_isServer : Cond.methodLink rn_X 85 mn_X_isServer ∈ gw_tbl := gw_in 299 (by decide +kernel) (by decide +kernel)
theorem im_X_isServer : Cond.instanceMethod mn_X_isServer ∈ gw_tbl := gw_in 301 (by decide +kernel) (by decide +kernel)
theorem co_X_isServer : Cond.code mn_X_isServer cb_X_isServer 2 (some .boolean) ∈ gw_tbl := gw_in 302 (by decide +kernel) (by decide +kernel)
theorem ml_X_R_take : Cond.methodLink rn_X 92 mn_R_take ∈ gw_tbl := gw_in 303 (by decide +kernel) (by decide +kernel)
theorem im_R_take : Cond.instanceMethod mn_R_take ∈ gw_tbl := gw_in 304 (by decide +kernel) (by decide +kernel)
theorem se_R_take : Cond.selects rn_R mn_R_take mn_R_take ∈ gw_tbl := gw_in 305 (by decide +kernel) (by decide +kernel)
theorem co_R_take : Cond.code mn_R_take cb_R_take 4 (some (.object "SealedFragmentRegister$Letter")) ∈ gw_tbl := gw_in 306 (by decide +kernel) (by decide +kernel)
theorem ml_X_S_answer : Cond.methodLink rn_X 98 mn_S_answer ∈ gw_tbl := gw_in 307 (by decide +kernel) (by decide +kernel)
theorem im_S_answer : Cond.instanceMethod mn_S_answer ∈ gw_tbl := gw_in 308 (by decide +kernel) (by decide +kernel)
theorem se_S_answer : Cond.selects rn_S mn_S_answer mn_S_answer ∈ gw_tbl := gw_in 309 (by decide +kernel) (by decide +kernel)
theorem co_S_answer : Cond.code mn_S_answer cb_S_answer 2 none ∈ gw_tbl := gw_in 310 (by decide +kernel) (by decide +kernel)
theorem ml_S_S_store : Cond.methodLink rn_S 38 mn_S_store ∈ gw_tbl := gw_in 311 (by decide +kernel) (by decide +kernel)
theorem im_S_store : Cond.instanceMethod mn_S_store ∈ gw_tbl := gw_in 312 (by decide +kernel) (by decide +kernel)
theorem se_S_store : Cond.selects rn_S mn_S_store mn_S_store ∈ gw_tbl := gw_in 313 (by decide +kernel) (by decide +kernel)
theorem co_S_store : Cond.code mn_S_store cb_S_store 5 none ∈ gw_tbl := gw_in 314 (by decide +kernel) (by decide +kernel)
theorem ml_S_J_min : Cond.methodLink rn_S 54 Lib.Math.min.name ∈ gw_tbl := gw_in 315 (by decide +kernel) (by decide +kernel)
theorem ml_S_S_raiseSeal : Cond.methodLink rn_S 42 mn_S_raiseSeal ∈ gw_tbl := gw_in 316 (by decide +kernel) (by decide +kernel)
theorem im_S_raiseSeal : Cond.instanceMethod mn_S_raiseSeal ∈ gw_tbl := gw_in 317 (by decide +kernel) (by decide +kernel)
theorem se_S_raiseSeal : Cond.selects rn_S mn_S_raiseSeal mn_S_raiseSeal ∈ gw_tbl := gw_in 318 (by decide +kernel) (by decide +kernel)
theorem co_S_raiseSeal : Cond.code mn_S_raiseSeal cb_S_raiseSeal 2 none ∈ gw_tbl := gw_in 319 (by decide +kernel) (by decide +kernel)
theorem ml_S_J_max : Cond.methodLink rn_S 60 Lib.Math.max.name ∈ gw_tbl := gw_in 320 (by decide +kernel) (by decide +kernel)
theorem ml_S_S_enclose : Cond.methodLink rn_S 46 mn_S_enclose ∈ gw_tbl := gw_in 321 (by decide +kernel) (by decide +kernel)
theorem im_S_enclose : Cond.instanceMethod mn_S_enclose ∈ gw_tbl := gw_in 322 (by decide +kernel) (by decide +kernel)
theorem se_S_enclose : Cond.selects rn_S mn_S_enclose mn_S_enclose ∈ gw_tbl := gw_in 323 (by decide +kernel) (by decide +kernel)
theorem co_S_enclose : Cond.code mn_S_enclose cb_S_enclose 3 none ∈ gw_tbl := gw_in 324 (by decide +kernel) (by decide +kernel)
theorem ml_S_S_placeOf : Cond.methodLink rn_S 63 mn_S_placeOf ∈ gw_tbl := gw_in 325 (by decide +kernel) (by decide +kernel)
theorem im_S_placeOf : Cond.instanceMethod mn_S_placeOf ∈ gw_tbl := gw_in 326 (by decide +kernel) (by decide +kernel)
theorem se_S_placeOf : Cond.selects rn_S mn_S_placeOf mn_S_placeOf ∈ gw_tbl := gw_in 327 (by decide +kernel) (by decide +kernel)
theorem co_S_placeOf : Cond.code mn_S_placeOf cb_S_placeOf 3 (some .int) ∈ gw_tbl := gw_in 328 (by decide +kernel) (by decide +kernel)
theorem ml_W_X_hear : Cond.methodLink rn_W 42 mn_X_hear ∈ gw_tbl := gw_in 329 (by decide +kernel) (by decide +kernel)
theorem im_X_hear : Cond.instanceMethod mn_X_hear ∈ gw_tbl := gw_in 330 (by decide +kernel) (by decide +kernel)
theorem se_X_hear : Cond.selects rn_X mn_X_hear mn_X_hear ∈ gw_tbl := gw_in 331 (by decide +kernel) (by decide +kernel)
theorem co_X_hear : Cond.code mn_X_hear cb_X_hear 6 (some .int) ∈ gw_tbl := gw_in 332 (by decide +kernel) (by decide +kernel)
theorem ml_X_C_counts : Cond.methodLink rn_X 108 mn_C_counts ∈ gw_tbl := gw_in 333 (by decide +kernel) (by decide +kernel)
theorem im_C_counts : Cond.instanceMethod mn_C_counts ∈ gw_tbl := gw_in 334 (by decide +kernel) (by decide +kernel)
theorem se_C_counts : Cond.selects rn_C mn_C_counts mn_C_counts ∈ gw_tbl := gw_in 335 (by decide +kernel) (by decide +kernel)
theorem co_C_counts : Cond.code mn_C_counts cb_C_counts 2 (some .boolean) ∈ gw_tbl := gw_in 336 (by decide +kernel) (by decide +kernel)
theorem ml_C_C_isAtWork : Cond.methodLink rn_C 42 mn_C_isAtWork ∈ gw_tbl := gw_in 337 (by decide +kernel) (by decide +kernel)
theorem ml_X_C_take : Cond.methodLink rn_X 112 mn_C_take ∈ gw_tbl := gw_in 338 (by decide +kernel) (by decide +kernel)
theorem im_C_take : Cond.instanceMethod mn_C_take ∈ gw_tbl := gw_in 339 (by decide +kernel) (by decide +kernel)
theorem se_C_take : Cond.selects rn_C mn_C_take mn_C_take ∈ gw_tbl := gw_in 340 (by decide +kernel) (by decide +kernel)
theorem co_C_take : Cond.code mn_C_take cb_C_take 3 none ∈ gw_tbl := gw_in 341 (by decide +kernel) (by decide +kernel)
theorem ml_C_J_max : Cond.methodLink rn_C 52 Lib.Math.max.name ∈ gw_tbl := gw_in 342 (by decide +kernel) (by decide +kernel)
theorem ml_X_X_hasHeardEnough : Cond.methodLink rn_X 115 mn_X_hasHeardEnough ∈ gw_tbl := gw_in 343 (by decide +kernel) (by decide +kernel)
theorem im_X_hasHeardEnough : Cond.instanceMethod mn_X_hasHeardEnough ∈ gw_tbl := gw_in 345 (by decide +kernel) (by decide +kernel)
theorem co_X_hasHeardEnough : Cond.code mn_X_hasHeardEnough cb_X_hasHeardEnough 2 (some .boolean) ∈ gw_tbl := gw_in 346 (by decide +kernel) (by decide +kernel)
theorem ml_X_C_hasAllFragments : Cond.methodLink rn_X 202 mn_C_hasAllFragments ∈ gw_tbl := gw_in 347 (by decide +kernel) (by decide +kernel)
theorem im_C_hasAllFragments : Cond.instanceMethod mn_C_hasAllFragments ∈ gw_tbl := gw_in 348 (by decide +kernel) (by decide +kernel)
theorem se_C_hasAllFragments : Cond.selects rn_C mn_C_hasAllFragments mn_C_hasAllFragments ∈ gw_tbl := gw_in 349 (by decide +kernel) (by decide +kernel)
theorem co_C_hasAllFragments : Cond.code mn_C_hasAllFragments cb_C_hasAllFragments 1 (some .boolean) ∈ gw_tbl := gw_in 350 (by decide +kernel) (by decide +kernel)
theorem ml_X_X_endPhase : Cond.methodLink rn_X 119 mn_X_endPhase ∈ gw_tbl := gw_in 351 (by decide +kernel) (by decide +kernel)
theorem im_X_endPhase : Cond.instanceMethod mn_X_endPhase ∈ gw_tbl := gw_in 353 (by decide +kernel) (by decide +kernel)
theorem co_X_endPhase : Cond.code mn_X_endPhase cb_X_endPhase 3 (some .int) ∈ gw_tbl := gw_in 354 (by decide +kernel) (by decide +kernel)
theorem ml_X_K_decode : Cond.methodLink rn_X 212 mn_K_decode ∈ gw_tbl := gw_in 355 (by decide +kernel) (by decide +kernel)
theorem im_K_decode : Cond.instanceMethod mn_K_decode ∈ gw_tbl := gw_in 356 (by decide +kernel) (by decide +kernel)
theorem se_K_decode : Cond.selects rn_K mn_K_decode mn_K_decode ∈ gw_tbl := gw_in 357 (by decide +kernel) (by decide +kernel)
theorem co_K_decode : Cond.code mn_K_decode cb_K_decode 7 (some .long) ∈ gw_tbl := gw_in 358 (by decide +kernel) (by decide +kernel)
theorem ml_K_K_interpolate : Cond.methodLink rn_K 38 mn_K_interpolate ∈ gw_tbl := gw_in 359 (by decide +kernel) (by decide +kernel)
theorem im_K_interpolate : Cond.instanceMethod mn_K_interpolate ∈ gw_tbl := gw_in 360 (by decide +kernel) (by decide +kernel)
theorem se_K_interpolate : Cond.selects rn_K mn_K_interpolate mn_K_interpolate ∈ gw_tbl := gw_in 361 (by decide +kernel) (by decide +kernel)
theorem co_K_interpolate : Cond.code mn_K_interpolate cb_K_interpolate 5 none ∈ gw_tbl := gw_in 362 (by decide +kernel) (by decide +kernel)
theorem ml_K_K_inverse : Cond.methodLink rn_K 42 mn_K_inverse ∈ gw_tbl := gw_in 363 (by decide +kernel) (by decide +kernel)
theorem st_K_inverse : Cond.static mn_K_inverse ∈ gw_tbl := gw_in 364 (by decide +kernel) (by decide +kernel)
theorem co_K_inverse : Cond.code mn_K_inverse cb_K_inverse 4 (some .int) ∈ gw_tbl := gw_in 365 (by decide +kernel) (by decide +kernel)
theorem ml_X_C_finish : Cond.methodLink rn_X 216 mn_C_finish ∈ gw_tbl := gw_in 366 (by decide +kernel) (by decide +kernel)
theorem im_C_finish : Cond.instanceMethod mn_C_finish ∈ gw_tbl := gw_in 367 (by decide +kernel) (by decide +kernel)
theorem se_C_finish : Cond.selects rn_C mn_C_finish mn_C_finish ∈ gw_tbl := gw_in 368 (by decide +kernel) (by decide +kernel)
theorem co_C_finish : Cond.code mn_C_finish cb_C_finish 1 none ∈ gw_tbl := gw_in 369 (by decide +kernel) (by decide +kernel)
theorem ml_W_X_crash : Cond.methodLink rn_W 46 mn_X_crash ∈ gw_tbl := gw_in 370 (by decide +kernel) (by decide +kernel)
theorem im_X_crash : Cond.instanceMethod mn_X_crash ∈ gw_tbl := gw_in 371 (by decide +kernel) (by decide +kernel)
theorem se_X_crash : Cond.selects rn_X mn_X_crash mn_X_crash ∈ gw_tbl := gw_in 372 (by decide +kernel) (by decide +kernel)
theorem co_X_crash : Cond.code mn_X_crash cb_X_crash 3 (some .boolean) ∈ gw_tbl := gw_in 373 (by decide +kernel) (by decide +kernel)
theorem ml_X_R_lose : Cond.methodLink rn_X 127 mn_R_lose ∈ gw_tbl := gw_in 374 (by decide +kernel) (by decide +kernel)
theorem im_R_lose : Cond.instanceMethod mn_R_lose ∈ gw_tbl := gw_in 375 (by decide +kernel) (by decide +kernel)
theorem se_R_lose : Cond.selects rn_R mn_R_lose mn_R_lose ∈ gw_tbl := gw_in 376 (by decide +kernel) (by decide +kernel)
theorem co_R_lose : Cond.code mn_R_lose cb_R_lose 2 none ∈ gw_tbl := gw_in 377 (by decide +kernel) (by decide +kernel)
theorem ml_W_X_stop : Cond.methodLink rn_W 51 mn_X_stop ∈ gw_tbl := gw_in 378 (by decide +kernel) (by decide +kernel)
theorem im_X_stop : Cond.instanceMethod mn_X_stop ∈ gw_tbl := gw_in 379 (by decide +kernel) (by decide +kernel)
theorem se_X_stop : Cond.selects rn_X mn_X_stop mn_X_stop ∈ gw_tbl := gw_in 380 (by decide +kernel) (by decide +kernel)
theorem co_X_stop : Cond.code mn_X_stop cb_X_stop 2 (some .boolean) ∈ gw_tbl := gw_in 381 (by decide +kernel) (by decide +kernel)
theorem ml_W_X_phase : Cond.methodLink rn_W 55 mn_X_phase ∈ gw_tbl := gw_in 382 (by decide +kernel) (by decide +kernel)
theorem im_X_phase : Cond.instanceMethod mn_X_phase ∈ gw_tbl := gw_in 383 (by decide +kernel) (by decide +kernel)
theorem se_X_phase : Cond.selects rn_X mn_X_phase mn_X_phase ∈ gw_tbl := gw_in 384 (by decide +kernel) (by decide +kernel)
theorem co_X_phase : Cond.code mn_X_phase cb_X_phase 2 (some .int) ∈ gw_tbl := gw_in 385 (by decide +kernel) (by decide +kernel)
theorem ml_W_X_heard : Cond.methodLink rn_W 59 mn_X_heard ∈ gw_tbl := gw_in 386 (by decide +kernel) (by decide +kernel)
theorem im_X_heard : Cond.instanceMethod mn_X_heard ∈ gw_tbl := gw_in 387 (by decide +kernel) (by decide +kernel)
theorem se_X_heard : Cond.selects rn_X mn_X_heard mn_X_heard ∈ gw_tbl := gw_in 388 (by decide +kernel) (by decide +kernel)
theorem co_X_heard : Cond.code mn_X_heard cb_X_heard 2 (some .int) ∈ gw_tbl := gw_in 389 (by decide +kernel) (by decide +kernel)
theorem ml_W_X_tag : Cond.methodLink rn_W 63 mn_X_tag ∈ gw_tbl := gw_in 390 (by decide +kernel) (by decide +kernel)
theorem im_X_tag : Cond.instanceMethod mn_X_tag ∈ gw_tbl := gw_in 391 (by decide +kernel) (by decide +kernel)
theorem se_X_tag : Cond.selects rn_X mn_X_tag mn_X_tag ∈ gw_tbl := gw_in 392 (by decide +kernel) (by decide +kernel)
theorem co_X_tag : Cond.code mn_X_tag cb_X_tag 2 (some .int) ∈ gw_tbl := gw_in 393 (by decide +kernel) (by decide +kernel)
theorem ml_W_X_result : Cond.methodLink rn_W 67 mn_X_result ∈ gw_tbl := gw_in 394 (by decide +kernel) (by decide +kernel)
theorem im_X_result : Cond.instanceMethod mn_X_result ∈ gw_tbl := gw_in 395 (by decide +kernel) (by decide +kernel)
theorem se_X_result : Cond.selects rn_X mn_X_result mn_X_result ∈ gw_tbl := gw_in 396 (by decide +kernel) (by decide +kernel)
theorem co_X_result : Cond.code mn_X_result cb_X_result 2 (some .long) ∈ gw_tbl := gw_in 397 (by decide +kernel) (by decide +kernel)
theorem ml_W_X_finished : Cond.methodLink rn_W 72 mn_X_finished ∈ gw_tbl := gw_in 398 (by decide +kernel) (by decide +kernel)
theorem im_X_finished : Cond.instanceMethod mn_X_finished ∈ gw_tbl := gw_in 399 (by decide +kernel) (by decide +kernel)
theorem se_X_finished : Cond.selects rn_X mn_X_finished mn_X_finished ∈ gw_tbl := gw_in 400 (by decide +kernel) (by decide +kernel)
theorem co_X_finished : Cond.code mn_X_finished cb_X_finished 2 (some .int) ∈ gw_tbl := gw_in 401 (by decide +kernel) (by decide +kernel)
theorem ml_W_X_held : Cond.methodLink rn_W 76 mn_X_held ∈ gw_tbl := gw_in 402 (by decide +kernel) (by decide +kernel)
theorem im_X_held : Cond.instanceMethod mn_X_held ∈ gw_tbl := gw_in 403 (by decide +kernel) (by decide +kernel)
theorem se_X_held : Cond.selects rn_X mn_X_held mn_X_held ∈ gw_tbl := gw_in 404 (by decide +kernel) (by decide +kernel)
theorem co_X_held : Cond.code mn_X_held cb_X_held 2 (some .int) ∈ gw_tbl := gw_in 405 (by decide +kernel) (by decide +kernel)
theorem ml_W_X_heldTag : Cond.methodLink rn_W 80 mn_X_heldTag ∈ gw_tbl := gw_in 406 (by decide +kernel) (by decide +kernel)
theorem im_X_heldTag : Cond.instanceMethod mn_X_heldTag ∈ gw_tbl := gw_in 407 (by decide +kernel) (by decide +kernel)
theorem se_X_heldTag : Cond.selects rn_X mn_X_heldTag mn_X_heldTag ∈ gw_tbl := gw_in 408 (by decide +kernel) (by decide +kernel)
theorem co_X_heldTag : Cond.code mn_X_heldTag cb_X_heldTag 3 (some .int) ∈ gw_tbl := gw_in 409 (by decide +kernel) (by decide +kernel)
theorem ml_W_X_fragment : Cond.methodLink rn_W 85 mn_X_fragment ∈ gw_tbl := gw_in 410 (by decide +kernel) (by decide +kernel)
theorem im_X_fragment : Cond.instanceMethod mn_X_fragment ∈ gw_tbl := gw_in 411 (by decide +kernel) (by decide +kernel)
theorem se_X_fragment : Cond.selects rn_X mn_X_fragment mn_X_fragment ∈ gw_tbl := gw_in 412 (by decide +kernel) (by decide +kernel)
theorem co_X_fragment : Cond.code mn_X_fragment cb_X_fragment 5 (some .int) ∈ gw_tbl := gw_in 413 (by decide +kernel) (by decide +kernel)
theorem ml_X_S_placeOf : Cond.methodLink rn_X 153 mn_S_placeOf ∈ gw_tbl := gw_in 414 (by decide +kernel) (by decide +kernel)
theorem ml_X_K_byteAt : Cond.methodLink rn_X 160 mn_K_byteAt ∈ gw_tbl := gw_in 415 (by decide +kernel) (by decide +kernel)
theorem ml_W_X_seal : Cond.methodLink rn_W 89 mn_X_seal ∈ gw_tbl := gw_in 416 (by decide +kernel) (by decide +kernel)
theorem im_X_seal : Cond.instanceMethod mn_X_seal ∈ gw_tbl := gw_in 417 (by decide +kernel) (by decide +kernel)
theorem se_X_seal : Cond.selects rn_X mn_X_seal mn_X_seal ∈ gw_tbl := gw_in 418 (by decide +kernel) (by decide +kernel)
theorem co_X_seal : Cond.code mn_X_seal cb_X_seal 2 (some .int) ∈ gw_tbl := gw_in 419 (by decide +kernel) (by decide +kernel)
theorem ml_W_X_requests : Cond.methodLink rn_W 93 mn_X_requests ∈ gw_tbl := gw_in 420 (by decide +kernel) (by decide +kernel)
theorem im_X_requests : Cond.instanceMethod mn_X_requests ∈ gw_tbl := gw_in 421 (by decide +kernel) (by decide +kernel)
theorem se_X_requests : Cond.selects rn_X mn_X_requests mn_X_requests ∈ gw_tbl := gw_in 422 (by decide +kernel) (by decide +kernel)
theorem co_X_requests : Cond.code mn_X_requests cb_X_requests 3 (some .int) ∈ gw_tbl := gw_in 423 (by decide +kernel) (by decide +kernel)
theorem ml_W_X_replies : Cond.methodLink rn_W 97 mn_X_replies ∈ gw_tbl := gw_in 424 (by decide +kernel) (by decide +kernel)
theorem im_X_replies : Cond.instanceMethod mn_X_replies ∈ gw_tbl := gw_in 425 (by decide +kernel) (by decide +kernel)
theorem se_X_replies : Cond.selects rn_X mn_X_replies mn_X_replies ∈ gw_tbl := gw_in 426 (by decide +kernel) (by decide +kernel)
theorem co_X_replies : Cond.code mn_X_replies cb_X_replies 3 (some .int) ∈ gw_tbl := gw_in 427 (by decide +kernel) (by decide +kernel)
theorem ml_W_X_quorum : Cond.methodLink rn_W 101 mn_X_quorum ∈ gw_tbl := gw_in 428 (by decide +kernel) (by decide +kernel)
theorem im_X_quorum : Cond.instanceMethod mn_X_quorum ∈ gw_tbl := gw_in 429 (by decide +kernel) (by decide +kernel)
theorem se_X_quorum : Cond.selects rn_X mn_X_quorum mn_X_quorum ∈ gw_tbl := gw_in 430 (by decide +kernel) (by decide +kernel)
theorem co_X_quorum : Cond.code mn_X_quorum cb_X_quorum 1 (some .int) ∈ gw_tbl := gw_in 431 (by decide +kernel) (by decide +kernel)
theorem ml_W_W_cell : Cond.methodLink rn_W 9 mn_W_cell ∈ gw_tbl := gw_in 432 (by decide +kernel) (by decide +kernel)
theorem st_W_cell : Cond.static mn_W_cell ∈ gw_tbl := gw_in 433 (by decide +kernel) (by decide +kernel)
theorem co_W_cell : Cond.code mn_W_cell cb_W_cell 2 (some .int) ∈ gw_tbl := gw_in 434 (by decide +kernel) (by decide +kernel)
theorem kl_W_M : Cond.classLink rn_W 18 rn_M ∈ gw_tbl := gw_in 435 (by decide +kernel) (by decide +kernel)
theorem is_M : Cond.instantiable rn_M 27 ∈ gw_tbl := gw_in 436 (by decide +kernel) (by decide +kernel)
theorem ml_W_M_init : Cond.methodLink rn_W 20 mn_M_init ∈ gw_tbl := gw_in 437 (by decide +kernel) (by decide +kernel)
theorem im_M_init : Cond.instanceMethod mn_M_init ∈ gw_tbl := gw_in 438 (by decide +kernel) (by decide +kernel)
theorem co_M_init : Cond.code mn_M_init cb_M_init 5 none ∈ gw_tbl := gw_in 439 (by decide +kernel) (by decide +kernel)
theorem ml_M_O_init : Cond.methodLink rn_M 1 objectInit ∈ gw_tbl := gw_in 440 (by decide +kernel) (by decide +kernel)
theorem fl_M_M_n : Cond.fieldLink rn_M 81 rn_M "n" "I" ∈ gw_tbl := gw_in 441 (by decide +kernel) (by decide +kernel)
theorem fl_M_M_k : Cond.fieldLink rn_M 85 rn_M "k" "I" ∈ gw_tbl := gw_in 442 (by decide +kernel) (by decide +kernel)
theorem fl_M_M_d : Cond.fieldLink rn_M 88 rn_M "d" "I" ∈ gw_tbl := gw_in 443 (by decide +kernel) (by decide +kernel)
theorem fl_M_M_phase : Cond.fieldLink rn_M 7 rn_M "phase" "[I" ∈ gw_tbl := gw_in 444 (by decide +kernel) (by decide +kernel)
theorem fl_M_M_age : Cond.fieldLink rn_M 13 rn_M "age" "[I" ∈ gw_tbl := gw_in 445 (by decide +kernel) (by decide +kernel)
theorem fl_M_M_counted : Cond.fieldLink rn_M 16 rn_M "counted" "[I" ∈ gw_tbl := gw_in 446 (by decide +kernel) (by decide +kernel)
theorem fl_M_M_bearing : Cond.fieldLink rn_M 19 rn_M "bearing" "[I" ∈ gw_tbl := gw_in 447 (by decide +kernel) (by decide +kernel)
theorem fl_M_M_best : Cond.fieldLink rn_M 22 rn_M "best" "[I" ∈ gw_tbl := gw_in 448 (by decide +kernel) (by decide +kernel)
theorem fl_M_M_tags : Cond.fieldLink rn_M 25 rn_M "tags" "[I" ∈ gw_tbl := gw_in 449 (by decide +kernel) (by decide +kernel)
theorem fl_M_M_ends : Cond.fieldLink rn_M 28 rn_M "ends" "[I" ∈ gw_tbl := gw_in 450 (by decide +kernel) (by decide +kernel)
theorem fl_M_M_block : Cond.fieldLink rn_M 31 rn_M "block" "[J" ∈ gw_tbl := gw_in 451 (by decide +kernel) (by decide +kernel)
theorem fl_M_M_seen : Cond.fieldLink rn_M 35 rn_M "seen" "[J" ∈ gw_tbl := gw_in 452 (by decide +kernel) (by decide +kernel)
theorem fl_M_M_results : Cond.fieldLink rn_M 38 rn_M "results" "[J" ∈ gw_tbl := gw_in 453 (by decide +kernel) (by decide +kernel)
theorem fl_M_M_down : Cond.fieldLink rn_M 41 rn_M "down" "[Z" ∈ gw_tbl := gw_in 454 (by decide +kernel) (by decide +kernel)
theorem fl_M_M_seals : Cond.fieldLink rn_M 45 rn_M "seals" "[I" ∈ gw_tbl := gw_in 455 (by decide +kernel) (by decide +kernel)
theorem fl_M_M_many : Cond.fieldLink rn_M 48 rn_M "many" "[I" ∈ gw_tbl := gw_in 456 (by decide +kernel) (by decide +kernel)
theorem fl_M_M_hasTag : Cond.fieldLink rn_M 51 rn_M "hasTag" "[I" ∈ gw_tbl := gw_in 457 (by decide +kernel) (by decide +kernel)
theorem fl_M_M_hasBlock : Cond.fieldLink rn_M 54 rn_M "hasBlock" "[J" ∈ gw_tbl := gw_in 458 (by decide +kernel) (by decide +kernel)
theorem fl_M_M_letters : Cond.fieldLink rn_M 91 rn_M "letters" "I" ∈ gw_tbl := gw_in 459 (by decide +kernel) (by decide +kernel)
theorem fl_M_M_reply : Cond.fieldLink rn_M 57 rn_M "reply" "[Z" ∈ gw_tbl := gw_in 460 (by decide +kernel) (by decide +kernel)
theorem fl_M_M_full : Cond.fieldLink rn_M 60 rn_M "full" "[Z" ∈ gw_tbl := gw_in 461 (by decide +kernel) (by decide +kernel)
theorem fl_M_M_client : Cond.fieldLink rn_M 63 rn_M "client" "[I" ∈ gw_tbl := gw_in 462 (by decide +kernel) (by decide +kernel)
theorem fl_M_M_server : Cond.fieldLink rn_M 66 rn_M "server" "[I" ∈ gw_tbl := gw_in 463 (by decide +kernel) (by decide +kernel)
theorem fl_M_M_sent : Cond.fieldLink rn_M 69 rn_M "sent" "[I" ∈ gw_tbl := gw_in 464 (by decide +kernel) (by decide +kernel)
theorem fl_M_M_kind : Cond.fieldLink rn_M 72 rn_M "kind" "[I" ∈ gw_tbl := gw_in 465 (by decide +kernel) (by decide +kernel)
theorem fl_M_M_what : Cond.fieldLink rn_M 75 rn_M "what" "[I" ∈ gw_tbl := gw_in 466 (by decide +kernel) (by decide +kernel)
theorem fl_M_M_load : Cond.fieldLink rn_M 78 rn_M "load" "[J" ∈ gw_tbl := gw_in 467 (by decide +kernel) (by decide +kernel)
theorem ac_boolean : Cond.arrayClass .boolean ∈ gw_tbl := gw_in 523 (by decide +kernel) (by decide +kernel)
theorem ml_W_M_quorum : Cond.methodLink rn_W 105 mn_M_quorum ∈ gw_tbl := gw_in 524 (by decide +kernel) (by decide +kernel)
theorem im_M_quorum : Cond.instanceMethod mn_M_quorum ∈ gw_tbl := gw_in 525 (by decide +kernel) (by decide +kernel)
theorem se_M_quorum : Cond.selects rn_M mn_M_quorum mn_M_quorum ∈ gw_tbl := gw_in 526 (by decide +kernel) (by decide +kernel)
theorem co_M_quorum : Cond.code mn_M_quorum cb_M_quorum 1 (some .int) ∈ gw_tbl := gw_in 527 (by decide +kernel) (by decide +kernel)
theorem ml_W_M_requests : Cond.methodLink rn_W 96 mn_M_requests ∈ gw_tbl := gw_in 528 (by decide +kernel) (by decide +kernel)
theorem im_M_requests : Cond.instanceMethod mn_M_requests ∈ gw_tbl := gw_in 529 (by decide +kernel) (by decide +kernel)
theorem se_M_requests : Cond.selects rn_M mn_M_requests mn_M_requests ∈ gw_tbl := gw_in 530 (by decide +kernel) (by decide +kernel)
theorem co_M_requests : Cond.code mn_M_requests cb_M_requests 3 (some .int) ∈ gw_tbl := gw_in 531 (by decide +kernel) (by decide +kernel)
theorem ml_M_M_noClient : Cond.methodLink rn_M 94 mn_M_noClient ∈ gw_tbl := gw_in 532 (by decide +kernel) (by decide +kernel)
theorem im_M_noClient : Cond.instanceMethod mn_M_noClient ∈ gw_tbl := gw_in 534 (by decide +kernel) (by decide +kernel)
theorem co_M_noClient : Cond.code mn_M_noClient cb_M_noClient 2 (some .boolean) ∈ gw_tbl := gw_in 535 (by decide +kernel) (by decide +kernel)
theorem ml_M_M_noServer : Cond.methodLink rn_M 98 mn_M_noServer ∈ gw_tbl := gw_in 536 (by decide +kernel) (by decide +kernel)
theorem im_M_noServer : Cond.instanceMethod mn_M_noServer ∈ gw_tbl := gw_in 538 (by decide +kernel) (by decide +kernel)
theorem co_M_noServer : Cond.code mn_M_noServer cb_M_noServer 2 (some .boolean) ∈ gw_tbl := gw_in 539 (by decide +kernel) (by decide +kernel)
theorem ml_M_M_count : Cond.methodLink rn_M 101 mn_M_count ∈ gw_tbl := gw_in 540 (by decide +kernel) (by decide +kernel)
theorem im_M_count : Cond.instanceMethod mn_M_count ∈ gw_tbl := gw_in 542 (by decide +kernel) (by decide +kernel)
theorem co_M_count : Cond.code mn_M_count cb_M_count 6 (some .int) ∈ gw_tbl := gw_in 543 (by decide +kernel) (by decide +kernel)
theorem ml_W_M_replies : Cond.methodLink rn_W 100 mn_M_replies ∈ gw_tbl := gw_in 544 (by decide +kernel) (by decide +kernel)
theorem im_M_replies : Cond.instanceMethod mn_M_replies ∈ gw_tbl := gw_in 545 (by decide +kernel) (by decide +kernel)
theorem se_M_replies : Cond.selects rn_M mn_M_replies mn_M_replies ∈ gw_tbl := gw_in 546 (by decide +kernel) (by decide +kernel)
theorem co_M_replies : Cond.code mn_M_replies cb_M_replies 3 (some .int) ∈ gw_tbl := gw_in 547 (by decide +kernel) (by decide +kernel)
theorem ml_W_M_write : Cond.methodLink rn_W 27 mn_M_write ∈ gw_tbl := gw_in 548 (by decide +kernel) (by decide +kernel)
theorem im_M_write : Cond.instanceMethod mn_M_write ∈ gw_tbl := gw_in 549 (by decide +kernel) (by decide +kernel)
theorem se_M_write : Cond.selects rn_M mn_M_write mn_M_write ∈ gw_tbl := gw_in 550 (by decide +kernel) (by decide +kernel)
theorem co_M_write : Cond.code mn_M_write cb_M_write 5 (some .int) ∈ gw_tbl := gw_in 551 (by decide +kernel) (by decide +kernel)
theorem ml_M_M_refusal : Cond.methodLink rn_M 112 mn_M_refusal ∈ gw_tbl := gw_in 552 (by decide +kernel) (by decide +kernel)
theorem im_M_refusal : Cond.instanceMethod mn_M_refusal ∈ gw_tbl := gw_in 554 (by decide +kernel) (by decide +kernel)
theorem co_M_refusal : Cond.code mn_M_refusal cb_M_refusal 2 (some .int) ∈ gw_tbl := gw_in 555 (by decide +kernel) (by decide +kernel)
theorem ml_M_M_crowded : Cond.methodLink rn_M 109 mn_M_crowded ∈ gw_tbl := gw_in 556 (by decide +kernel) (by decide +kernel)
theorem im_M_crowded : Cond.instanceMethod mn_M_crowded ∈ gw_tbl := gw_in 558 (by decide +kernel) (by decide +kernel)
theorem co_M_crowded : Cond.code mn_M_crowded cb_M_crowded 5 (some .boolean) ∈ gw_tbl := gw_in 559 (by decide +kernel) (by decide +kernel)
theorem ml_M_M_begin : Cond.methodLink rn_M 116 mn_M_begin ∈ gw_tbl := gw_in 560 (by decide +kernel) (by decide +kernel)
theorem im_M_begin : Cond.instanceMethod mn_M_begin ∈ gw_tbl := gw_in 562 (by decide +kernel) (by decide +kernel)
theorem co_M_begin : Cond.code mn_M_begin cb_M_begin 4 none ∈ gw_tbl := gw_in 563 (by decide +kernel) (by decide +kernel)
theorem ml_M_M_send : Cond.methodLink rn_M 105 mn_M_send ∈ gw_tbl := gw_in 564 (by decide +kernel) (by decide +kernel)
theorem im_M_send : Cond.instanceMethod mn_M_send ∈ gw_tbl := gw_in 566 (by decide +kernel) (by decide +kernel)
theorem co_M_send : Cond.code mn_M_send cb_M_send 6 none ∈ gw_tbl := gw_in 567 (by decide +kernel) (by decide +kernel)
theorem ml_W_M_read : Cond.methodLink rn_W 32 mn_M_read ∈ gw_tbl := gw_in 568 (by decide +kernel) (by decide +kernel)
theorem im_M_read : Cond.instanceMethod mn_M_read ∈ gw_tbl := gw_in 569 (by decide +kernel) (by decide +kernel)
theorem se_M_read : Cond.selects rn_M mn_M_read mn_M_read ∈ gw_tbl := gw_in 570 (by decide +kernel) (by decide +kernel)
theorem co_M_read : Cond.code mn_M_read cb_M_read 3 (some .int) ∈ gw_tbl := gw_in 571 (by decide +kernel) (by decide +kernel)
theorem ml_W_M_again : Cond.methodLink rn_W 36 mn_M_again ∈ gw_tbl := gw_in 572 (by decide +kernel) (by decide +kernel)
theorem im_M_again : Cond.instanceMethod mn_M_again ∈ gw_tbl := gw_in 573 (by decide +kernel) (by decide +kernel)
theorem se_M_again : Cond.selects rn_M mn_M_again mn_M_again ∈ gw_tbl := gw_in 574 (by decide +kernel) (by decide +kernel)
theorem co_M_again : Cond.code mn_M_again cb_M_again 2 (some .int) ∈ gw_tbl := gw_in 575 (by decide +kernel) (by decide +kernel)
theorem ml_M_M_quorum : Cond.methodLink rn_M 120 mn_M_quorum ∈ gw_tbl := gw_in 576 (by decide +kernel) (by decide +kernel)
theorem ml_W_M_deliver : Cond.methodLink rn_W 41 mn_M_deliver ∈ gw_tbl := gw_in 577 (by decide +kernel) (by decide +kernel)
theorem im_M_deliver : Cond.instanceMethod mn_M_deliver ∈ gw_tbl := gw_in 578 (by decide +kernel) (by decide +kernel)
theorem se_M_deliver : Cond.selects rn_M mn_M_deliver mn_M_deliver ∈ gw_tbl := gw_in 579 (by decide +kernel) (by decide +kernel)
theorem co_M_deliver : Cond.code mn_M_deliver cb_M_deliver 11 (some .int) ∈ gw_tbl := gw_in 580 (by decide +kernel) (by decide +kernel)
theorem ml_M_M_seek : Cond.methodLink rn_M 128 mn_M_seek ∈ gw_tbl := gw_in 581 (by decide +kernel) (by decide +kernel)
theorem im_M_seek : Cond.instanceMethod mn_M_seek ∈ gw_tbl := gw_in 583 (by decide +kernel) (by decide +kernel)
theorem co_M_seek : Cond.code mn_M_seek cb_M_seek 7 (some .int) ∈ gw_tbl := gw_in 584 (by decide +kernel) (by decide +kernel)
theorem ml_M_M_lose : Cond.methodLink rn_M 132 mn_M_lose ∈ gw_tbl := gw_in 585 (by decide +kernel) (by decide +kernel)
theorem im_M_lose : Cond.instanceMethod mn_M_lose ∈ gw_tbl := gw_in 587 (by decide +kernel) (by decide +kernel)
theorem co_M_lose : Cond.code mn_M_lose cb_M_lose 3 none ∈ gw_tbl := gw_in 588 (by decide +kernel) (by decide +kernel)
theorem ml_M_M_store : Cond.methodLink rn_M 136 mn_M_store ∈ gw_tbl := gw_in 589 (by decide +kernel) (by decide +kernel)
theorem im_M_store : Cond.instanceMethod mn_M_store ∈ gw_tbl := gw_in 591 (by decide +kernel) (by decide +kernel)
theorem co_M_store : Cond.code mn_M_store cb_M_store 8 none ∈ gw_tbl := gw_in 592 (by decide +kernel) (by decide +kernel)
theorem ml_M_M_place : Cond.methodLink rn_M 124 mn_M_place ∈ gw_tbl := gw_in 593 (by decide +kernel) (by decide +kernel)
theorem im_M_place : Cond.instanceMethod mn_M_place ∈ gw_tbl := gw_in 595 (by decide +kernel) (by decide +kernel)
theorem co_M_place : Cond.code mn_M_place cb_M_place 4 (some .int) ∈ gw_tbl := gw_in 596 (by decide +kernel) (by decide +kernel)
theorem ml_W_M_hear : Cond.methodLink rn_W 45 mn_M_hear ∈ gw_tbl := gw_in 597 (by decide +kernel) (by decide +kernel)
theorem im_M_hear : Cond.instanceMethod mn_M_hear ∈ gw_tbl := gw_in 598 (by decide +kernel) (by decide +kernel)
theorem se_M_hear : Cond.selects rn_M mn_M_hear mn_M_hear ∈ gw_tbl := gw_in 599 (by decide +kernel) (by decide +kernel)
theorem co_M_hear : Cond.code mn_M_hear cb_M_hear 10 (some .int) ∈ gw_tbl := gw_in 600 (by decide +kernel) (by decide +kernel)
theorem ml_M_M_onwards : Cond.methodLink rn_M 140 mn_M_onwards ∈ gw_tbl := gw_in 601 (by decide +kernel) (by decide +kernel)
theorem im_M_onwards : Cond.instanceMethod mn_M_onwards ∈ gw_tbl := gw_in 603 (by decide +kernel) (by decide +kernel)
theorem co_M_onwards : Cond.code mn_M_onwards cb_M_onwards 3 (some .int) ∈ gw_tbl := gw_in 604 (by decide +kernel) (by decide +kernel)
theorem ml_W_M_crash : Cond.methodLink rn_W 50 mn_M_crash ∈ gw_tbl := gw_in 605 (by decide +kernel) (by decide +kernel)
theorem im_M_crash : Cond.instanceMethod mn_M_crash ∈ gw_tbl := gw_in 606 (by decide +kernel) (by decide +kernel)
theorem se_M_crash : Cond.selects rn_M mn_M_crash mn_M_crash ∈ gw_tbl := gw_in 607 (by decide +kernel) (by decide +kernel)
theorem co_M_crash : Cond.code mn_M_crash cb_M_crash 4 (some .boolean) ∈ gw_tbl := gw_in 608 (by decide +kernel) (by decide +kernel)
theorem ml_W_M_stop : Cond.methodLink rn_W 54 mn_M_stop ∈ gw_tbl := gw_in 609 (by decide +kernel) (by decide +kernel)
theorem im_M_stop : Cond.instanceMethod mn_M_stop ∈ gw_tbl := gw_in 610 (by decide +kernel) (by decide +kernel)
theorem se_M_stop : Cond.selects rn_M mn_M_stop mn_M_stop ∈ gw_tbl := gw_in 611 (by decide +kernel) (by decide +kernel)
theorem co_M_stop : Cond.code mn_M_stop cb_M_stop 2 (some .boolean) ∈ gw_tbl := gw_in 612 (by decide +kernel) (by decide +kernel)
theorem ml_W_M_phase : Cond.methodLink rn_W 58 mn_M_phase ∈ gw_tbl := gw_in 613 (by decide +kernel) (by decide +kernel)
theorem im_M_phase : Cond.instanceMethod mn_M_phase ∈ gw_tbl := gw_in 614 (by decide +kernel) (by decide +kernel)
theorem se_M_phase : Cond.selects rn_M mn_M_phase mn_M_phase ∈ gw_tbl := gw_in 615 (by decide +kernel) (by decide +kernel)
theorem co_M_phase : Cond.code mn_M_phase cb_M_phase 2 (some .int) ∈ gw_tbl := gw_in 616 (by decide +kernel) (by decide +kernel)
theorem ml_W_M_heard : Cond.methodLink rn_W 62 mn_M_heard ∈ gw_tbl := gw_in 617 (by decide +kernel) (by decide +kernel)
theorem im_M_heard : Cond.instanceMethod mn_M_heard ∈ gw_tbl := gw_in 618 (by decide +kernel) (by decide +kernel)
theorem se_M_heard : Cond.selects rn_M mn_M_heard mn_M_heard ∈ gw_tbl := gw_in 619 (by decide +kernel) (by decide +kernel)
theorem co_M_heard : Cond.code mn_M_heard cb_M_heard 2 (some .int) ∈ gw_tbl := gw_in 620 (by decide +kernel) (by decide +kernel)
theorem ml_W_M_tag : Cond.methodLink rn_W 66 mn_M_tag ∈ gw_tbl := gw_in 621 (by decide +kernel) (by decide +kernel)
theorem im_M_tag : Cond.instanceMethod mn_M_tag ∈ gw_tbl := gw_in 622 (by decide +kernel) (by decide +kernel)
theorem se_M_tag : Cond.selects rn_M mn_M_tag mn_M_tag ∈ gw_tbl := gw_in 623 (by decide +kernel) (by decide +kernel)
theorem co_M_tag : Cond.code mn_M_tag cb_M_tag 2 (some .int) ∈ gw_tbl := gw_in 624 (by decide +kernel) (by decide +kernel)
theorem ml_W_M_result : Cond.methodLink rn_W 71 mn_M_result ∈ gw_tbl := gw_in 625 (by decide +kernel) (by decide +kernel)
theorem im_M_result : Cond.instanceMethod mn_M_result ∈ gw_tbl := gw_in 626 (by decide +kernel) (by decide +kernel)
theorem se_M_result : Cond.selects rn_M mn_M_result mn_M_result ∈ gw_tbl := gw_in 627 (by decide +kernel) (by decide +kernel)
theorem co_M_result : Cond.code mn_M_result cb_M_result 2 (some .long) ∈ gw_tbl := gw_in 628 (by decide +kernel) (by decide +kernel)
theorem ml_W_M_finished : Cond.methodLink rn_W 75 mn_M_finished ∈ gw_tbl := gw_in 629 (by decide +kernel) (by decide +kernel)
theorem im_M_finished : Cond.instanceMethod mn_M_finished ∈ gw_tbl := gw_in 630 (by decide +kernel) (by decide +kernel)
theorem se_M_finished : Cond.selects rn_M mn_M_finished mn_M_finished ∈ gw_tbl := gw_in 631 (by decide +kernel) (by decide +kernel)
theorem co_M_finished : Cond.code mn_M_finished cb_M_finished 2 (some .int) ∈ gw_tbl := gw_in 632 (by decide +kernel) (by decide +kernel)
theorem ml_W_M_held : Cond.methodLink rn_W 79 mn_M_held ∈ gw_tbl := gw_in 633 (by decide +kernel) (by decide +kernel)
theorem im_M_held : Cond.instanceMethod mn_M_held ∈ gw_tbl := gw_in 634 (by decide +kernel) (by decide +kernel)
theorem se_M_held : Cond.selects rn_M mn_M_held mn_M_held ∈ gw_tbl := gw_in 635 (by decide +kernel) (by decide +kernel)
theorem co_M_held : Cond.code mn_M_held cb_M_held 2 (some .int) ∈ gw_tbl := gw_in 636 (by decide +kernel) (by decide +kernel)
theorem ml_W_M_heldTag : Cond.methodLink rn_W 84 mn_M_heldTag ∈ gw_tbl := gw_in 637 (by decide +kernel) (by decide +kernel)
theorem im_M_heldTag : Cond.instanceMethod mn_M_heldTag ∈ gw_tbl := gw_in 638 (by decide +kernel) (by decide +kernel)
theorem se_M_heldTag : Cond.selects rn_M mn_M_heldTag mn_M_heldTag ∈ gw_tbl := gw_in 639 (by decide +kernel) (by decide +kernel)
theorem co_M_heldTag : Cond.code mn_M_heldTag cb_M_heldTag 6 (some .int) ∈ gw_tbl := gw_in 640 (by decide +kernel) (by decide +kernel)
theorem ml_W_M_fragment : Cond.methodLink rn_W 88 mn_M_fragment ∈ gw_tbl := gw_in 641 (by decide +kernel) (by decide +kernel)
theorem im_M_fragment : Cond.instanceMethod mn_M_fragment ∈ gw_tbl := gw_in 642 (by decide +kernel) (by decide +kernel)
theorem se_M_fragment : Cond.selects rn_M mn_M_fragment mn_M_fragment ∈ gw_tbl := gw_in 643 (by decide +kernel) (by decide +kernel)
theorem co_M_fragment : Cond.code mn_M_fragment cb_M_fragment 10 (some .int) ∈ gw_tbl := gw_in 644 (by decide +kernel) (by decide +kernel)
theorem cl_M_143 : Cond.constantLong rn_M 143 (255 : Int64) ∈ gw_tbl := gw_in 645 (by decide +kernel) (by decide +kernel)
theorem ml_M_M_product : Cond.methodLink rn_M 145 mn_M_product ∈ gw_tbl := gw_in 646 (by decide +kernel) (by decide +kernel)
theorem im_M_product : Cond.instanceMethod mn_M_product ∈ gw_tbl := gw_in 648 (by decide +kernel) (by decide +kernel)
theorem co_M_product : Cond.code mn_M_product cb_M_product 5 (some .int) ∈ gw_tbl := gw_in 649 (by decide +kernel) (by decide +kernel)
theorem ml_W_M_seal : Cond.methodLink rn_W 92 mn_M_seal ∈ gw_tbl := gw_in 650 (by decide +kernel) (by decide +kernel)
theorem im_M_seal : Cond.instanceMethod mn_M_seal ∈ gw_tbl := gw_in 651 (by decide +kernel) (by decide +kernel)
theorem se_M_seal : Cond.selects rn_M mn_M_seal mn_M_seal ∈ gw_tbl := gw_in 652 (by decide +kernel) (by decide +kernel)
theorem co_M_seal : Cond.code mn_M_seal cb_M_seal 2 (some .int) ∈ gw_tbl := gw_in 653 (by decide +kernel) (by decide +kernel)
theorem cl_W_21 : Cond.constantLong rn_W 21 (4294967295 : Int64) ∈ gw_tbl := gw_in 654 (by decide +kernel) (by decide +kernel)
theorem wf_C : ∀ w ∈ u_ws rn_C tf_C 13, w ∈ gw_tbl := by
  intro w hw
  obtain ⟨k, hk, rfl⟩ := List.mem_map.mp hw
  have hk := List.mem_range.mp hk
  match k, hk with
  | 0, _ => exact gw_in 95 (by decide +kernel) (by decide +kernel)
  | 1, _ => exact gw_in 97 (by decide +kernel) (by decide +kernel)
  | 2, _ => exact gw_in 99 (by decide +kernel) (by decide +kernel)
  | 3, _ => exact gw_in 101 (by decide +kernel) (by decide +kernel)
  | 4, _ => exact gw_in 103 (by decide +kernel) (by decide +kernel)
  | 5, _ => exact gw_in 105 (by decide +kernel) (by decide +kernel)
  | 6, _ => exact gw_in 107 (by decide +kernel) (by decide +kernel)
  | 7, _ => exact gw_in 109 (by decide +kernel) (by decide +kernel)
  | 8, _ => exact gw_in 111 (by decide +kernel) (by decide +kernel)
  | 9, _ => exact gw_in 113 (by decide +kernel) (by decide +kernel)
  | 10, _ => exact gw_in 115 (by decide +kernel) (by decide +kernel)
  | 11, _ => exact gw_in 117 (by decide +kernel) (by decide +kernel)
  | 12, _ => exact gw_in 119 (by decide +kernel) (by decide +kernel)
  | n + 13, hk => exact absurd hk (by omega)
theorem wf_K : ∀ w ∈ u_ws rn_K tf_K 3, w ∈ gw_tbl := by
  intro w hw
  obtain ⟨k, hk, rfl⟩ := List.mem_map.mp hw
  have hk := List.mem_range.mp hk
  match k, hk with
  | 0, _ => exact gw_in 58 (by decide +kernel) (by decide +kernel)
  | 1, _ => exact gw_in 60 (by decide +kernel) (by decide +kernel)
  | 2, _ => exact gw_in 62 (by decide +kernel) (by decide +kernel)
  | n + 3, hk => exact absurd hk (by omega)
theorem wf_L : ∀ w ∈ u_ws rn_L tf_L 6, w ∈ gw_tbl := by
  intro w hw
  obtain ⟨k, hk, rfl⟩ := List.mem_map.mp hw
  have hk := List.mem_range.mp hk
  match k, hk with
  | 0, _ => exact gw_in 254 (by decide +kernel) (by decide +kernel)
  | 1, _ => exact gw_in 256 (by decide +kernel) (by decide +kernel)
  | 2, _ => exact gw_in 258 (by decide +kernel) (by decide +kernel)
  | 3, _ => exact gw_in 260 (by decide +kernel) (by decide +kernel)
  | 4, _ => exact gw_in 262 (by decide +kernel) (by decide +kernel)
  | 5, _ => exact gw_in 264 (by decide +kernel) (by decide +kernel)
  | n + 6, hk => exact absurd hk (by omega)
theorem wf_R : ∀ w ∈ u_ws rn_R tf_R 2, w ∈ gw_tbl := by
  intro w hw
  obtain ⟨k, hk, rfl⟩ := List.mem_map.mp hw
  have hk := List.mem_range.mp hk
  match k, hk with
  | 0, _ => exact gw_in 168 (by decide +kernel) (by decide +kernel)
  | 1, _ => exact gw_in 170 (by decide +kernel) (by decide +kernel)
  | n + 2, hk => exact absurd hk (by omega)
theorem wf_S : ∀ w ∈ u_ws rn_S tf_S 6, w ∈ gw_tbl := by
  intro w hw
  obtain ⟨k, hk, rfl⟩ := List.mem_map.mp hw
  have hk := List.mem_range.mp hk
  match k, hk with
  | 0, _ => exact gw_in 140 (by decide +kernel) (by decide +kernel)
  | 1, _ => exact gw_in 142 (by decide +kernel) (by decide +kernel)
  | 2, _ => exact gw_in 144 (by decide +kernel) (by decide +kernel)
  | 3, _ => exact gw_in 146 (by decide +kernel) (by decide +kernel)
  | 4, _ => exact gw_in 148 (by decide +kernel) (by decide +kernel)
  | 5, _ => exact gw_in 150 (by decide +kernel) (by decide +kernel)
  | n + 6, hk => exact absurd hk (by omega)
theorem wf_X : ∀ w ∈ u_ws rn_X tf_X 8, w ∈ gw_tbl := by
  intro w hw
  obtain ⟨k, hk, rfl⟩ := List.mem_map.mp hw
  have hk := List.mem_range.mp hk
  match k, hk with
  | 0, _ => exact gw_in 181 (by decide +kernel) (by decide +kernel)
  | 1, _ => exact gw_in 183 (by decide +kernel) (by decide +kernel)
  | 2, _ => exact gw_in 185 (by decide +kernel) (by decide +kernel)
  | 3, _ => exact gw_in 187 (by decide +kernel) (by decide +kernel)
  | 4, _ => exact gw_in 189 (by decide +kernel) (by decide +kernel)
  | 5, _ => exact gw_in 191 (by decide +kernel) (by decide +kernel)
  | 6, _ => exact gw_in 193 (by decide +kernel) (by decide +kernel)
  | 7, _ => exact gw_in 195 (by decide +kernel) (by decide +kernel)
  | n + 8, hk => exact absurd hk (by omega)
theorem wf_M : ∀ w ∈ u_ws rn_M tf_M 27, w ∈ gw_tbl := by
  intro w hw
  obtain ⟨k, hk, rfl⟩ := List.mem_map.mp hw
  have hk := List.mem_range.mp hk
  match k, hk with
  | 0, _ => exact gw_in 468 (by decide +kernel) (by decide +kernel)
  | 1, _ => exact gw_in 470 (by decide +kernel) (by decide +kernel)
  | 2, _ => exact gw_in 472 (by decide +kernel) (by decide +kernel)
  | 3, _ => exact gw_in 474 (by decide +kernel) (by decide +kernel)
  | 4, _ => exact gw_in 476 (by decide +kernel) (by decide +kernel)
  | 5, _ => exact gw_in 478 (by decide +kernel) (by decide +kernel)
  | 6, _ => exact gw_in 480 (by decide +kernel) (by decide +kernel)
  | 7, _ => exact gw_in 482 (by decide +kernel) (by decide +kernel)
  | 8, _ => exact gw_in 484 (by decide +kernel) (by decide +kernel)
  | 9, _ => exact gw_in 486 (by decide +kernel) (by decide +kernel)
  | 10, _ => exact gw_in 488 (by decide +kernel) (by decide +kernel)
  | 11, _ => exact gw_in 490 (by decide +kernel) (by decide +kernel)
  | 12, _ => exact gw_in 492 (by decide +kernel) (by decide +kernel)
  | 13, _ => exact gw_in 494 (by decide +kernel) (by decide +kernel)
  | 14, _ => exact gw_in 496 (by decide +kernel) (by decide +kernel)
  | 15, _ => exact gw_in 498 (by decide +kernel) (by decide +kernel)
  | 16, _ => exact gw_in 500 (by decide +kernel) (by decide +kernel)
  | 17, _ => exact gw_in 502 (by decide +kernel) (by decide +kernel)
  | 18, _ => exact gw_in 504 (by decide +kernel) (by decide +kernel)
  | 19, _ => exact gw_in 506 (by decide +kernel) (by decide +kernel)
  | 20, _ => exact gw_in 508 (by decide +kernel) (by decide +kernel)
  | 21, _ => exact gw_in 510 (by decide +kernel) (by decide +kernel)
  | 22, _ => exact gw_in 512 (by decide +kernel) (by decide +kernel)
  | 23, _ => exact gw_in 514 (by decide +kernel) (by decide +kernel)
  | 24, _ => exact gw_in 516 (by decide +kernel) (by decide +kernel)
  | 25, _ => exact gw_in 518 (by decide +kernel) (by decide +kernel)
  | 26, _ => exact gw_in 520 (by decide +kernel) (by decide +kernel)
  | n + 27, hk => exact absurd hk (by omega)
end
section
-- printed by wip/whole/gen/mem.py: the typed memory of program and reference, the layout of addresses, the cells, the world
abbrev fm : Type := (Nat → Nat → Nat → Int32) × (Nat → Nat → Nat → Int64) × (Nat → Nat → Nat → Bool) × (Nat → Nat → Nat → Option Nat) × (Nat → Nat → Nat → Nat) × Nat
def mI (S : fm) : Nat → Nat → Nat → Int32 := S.1
def mJ (S : fm) : Nat → Nat → Nat → Int64 := S.2.1
def mB (S : fm) : Nat → Nat → Nat → Bool := S.2.2.1
def mA (S : fm) : Nat → Nat → Nat → Option Nat := S.2.2.2.1
def mU (S : fm) : Nat → Nat → Nat → Nat := S.2.2.2.2.1
def mZ (S : fm) : Nat := S.2.2.2.2.2
def u2 {α : Type} (f : Nat → Nat → Nat → α) (k i : Nat) (r : Nat → α) : Nat → Nat → Nat → α := fun a b => if a = k ∧ b = i then r else f a b
theorem u2_s {α : Type} {f : Nat → Nat → Nat → α} {k i : Nat} {r : Nat → α} : u2 f k i r k i = r := if_pos ⟨rfl, rfl⟩
theorem u2_n {α : Type} {f : Nat → Nat → Nat → α} {k i a b : Nat} {r : Nat → α} (h : ¬ (a = k ∧ b = i)) : u2 f k i r a b = f a b := if_neg h
def rI (S : fm) (k i : Nat) (r : Nat → Int32) : fm := (u2 S.1 k i r, S.2.1, S.2.2.1, S.2.2.2.1, S.2.2.2.2.1, S.2.2.2.2.2)
def rJ (S : fm) (k i : Nat) (r : Nat → Int64) : fm := (S.1, u2 S.2.1 k i r, S.2.2.1, S.2.2.2.1, S.2.2.2.2.1, S.2.2.2.2.2)
def rB (S : fm) (k i : Nat) (r : Nat → Bool) : fm := (S.1, S.2.1, u2 S.2.2.1 k i r, S.2.2.2.1, S.2.2.2.2.1, S.2.2.2.2.2)
def rA (S : fm) (k i : Nat) (r : Nat → Option Nat) : fm := (S.1, S.2.1, S.2.2.1, u2 S.2.2.2.1 k i r, S.2.2.2.2.1, S.2.2.2.2.2)
def rU (S : fm) (k i : Nat) (r : Nat → Nat) : fm := (S.1, S.2.1, S.2.2.1, S.2.2.2.1, u2 S.2.2.2.2.1 k i r, S.2.2.2.2.2)
def rZ (S : fm) (n : Nat) : fm := (S.1, S.2.1, S.2.2.1, S.2.2.2.1, S.2.2.2.2.1, n)
def sI (S : fm) (k i j : Nat) (v : Int32) : fm := rI S k i (va_up (mI S k i) j v)
def sJ (S : fm) (k i j : Nat) (v : Int64) : fm := rJ S k i (va_up (mJ S k i) j v)
def sB (S : fm) (k i j : Nat) (v : Bool) : fm := rB S k i (va_up (mB S k i) j v)
def sA (S : fm) (k i j : Nat) (v : Option Nat) : fm := rA S k i (va_up (mA S k i) j v)
def sU (S : fm) (k i j : Nat) (v : Nat) : fm := rU S k i (va_up (mU S k i) j v)
theorem mI_rI (S : fm) (k i : Nat) (r : Nat → Int32) (a b : Nat) : mI (rI S k i r) a b = if a = k ∧ b = i then r else mI S a b := rfl
theorem mI_sI (S : fm) (k i j : Nat) (v : Int32) (a b d : Nat) : mI (sI S k i j v) a b d = if a = k ∧ b = i ∧ d = j then v else mI S a b d := by
  show (if a = k ∧ b = i then va_up (mI S k i) j v else mI S a b) d = _
  by_cases h : a = k ∧ b = i
  · obtain ⟨rfl, rfl⟩ := h
    by_cases hj : d = j <;> simp [va_up, hj]
  · rw [if_neg h, if_neg (fun q => h ⟨q.1, q.2.1⟩)]
theorem mI_rJ (S : fm) (k i : Nat) (r : Nat → Int64) : mI (rJ S k i r) = mI S := rfl
theorem mI_sJ (S : fm) (k i j : Nat) (v : Int64) : mI (sJ S k i j v) = mI S := rfl
theorem mI_rB (S : fm) (k i : Nat) (r : Nat → Bool) : mI (rB S k i r) = mI S := rfl
theorem mI_sB (S : fm) (k i j : Nat) (v : Bool) : mI (sB S k i j v) = mI S := rfl
theorem mI_rA (S : fm) (k i : Nat) (r : Nat → Option Nat) : mI (rA S k i r) = mI S := rfl
theorem mI_sA (S : fm) (k i j : Nat) (v : Option Nat) : mI (sA S k i j v) = mI S := rfl
theorem mI_rU (S : fm) (k i : Nat) (r : Nat → Nat) : mI (rU S k i r) = mI S := rfl
theorem mI_sU (S : fm) (k i j : Nat) (v : Nat) : mI (sU S k i j v) = mI S := rfl
theorem mI_rZ (S : fm) (n : Nat) : mI (rZ S n) = mI S := rfl
theorem mJ_rI (S : fm) (k i : Nat) (r : Nat → Int32) : mJ (rI S k i r) = mJ S := rfl
theorem mJ_sI (S : fm) (k i j : Nat) (v : Int32) : mJ (sI S k i j v) = mJ S := rfl
theorem mJ_rJ (S : fm) (k i : Nat) (r : Nat → Int64) (a b : Nat) : mJ (rJ S k i r) a b = if a = k ∧ b = i then r else mJ S a b := rfl
theorem mJ_sJ (S : fm) (k i j : Nat) (v : Int64) (a b d : Nat) : mJ (sJ S k i j v) a b d = if a = k ∧ b = i ∧ d = j then v else mJ S a b d := by
  show (if a = k ∧ b = i then va_up (mJ S k i) j v else mJ S a b) d = _
  by_cases h : a = k ∧ b = i
  · obtain ⟨rfl, rfl⟩ := h
    by_cases hj : d = j <;> simp [va_up, hj]
  · rw [if_neg h, if_neg (fun q => h ⟨q.1, q.2.1⟩)]
theorem mJ_rB (S : fm) (k i : Nat) (r : Nat → Bool) : mJ (rB S k i r) = mJ S := rfl
theorem mJ_sB (S : fm) (k i j : Nat) (v : Bool) : mJ (sB S k i j v) = mJ S := rfl
theorem mJ_rA (S : fm) (k i : Nat) (r : Nat → Option Nat) : mJ (rA S k i r) = mJ S := rfl
theorem mJ_sA (S : fm) (k i j : Nat) (v : Option Nat) : mJ (sA S k i j v) = mJ S := rfl
theorem mJ_rU (S : fm) (k i : Nat) (r : Nat → Nat) : mJ (rU S k i r) = mJ S := rfl
theorem mJ_sU (S : fm) (k i j : Nat) (v : Nat) : mJ (sU S k i j v) = mJ S := rfl
theorem mJ_rZ (S : fm) (n : Nat) : mJ (rZ S n) = mJ S := rfl
theorem mB_rI (S : fm) (k i : Nat) (r : Nat → Int32) : mB (rI S k i r) = mB S := rfl
theorem mB_sI (S : fm) (k i j : Nat) (v : Int32) : mB (sI S k i j v) = mB S := rfl
theorem mB_rJ (S : fm) (k i : Nat) (r : Nat → Int64) : mB (rJ S k i r) = mB S := rfl
theorem mB_sJ (S : fm) (k i j : Nat) (v : Int64) : mB (sJ S k i j v) = mB S := rfl
theorem mB_rB (S : fm) (k i : Nat) (r : Nat → Bool) (a b : Nat) : mB (rB S k i r) a b = if a = k ∧ b = i then r else mB S a b := rfl
theorem mB_sB (S : fm) (k i j : Nat) (v : Bool) (a b d : Nat) : mB (sB S k i j v) a b d = if a = k ∧ b = i ∧ d = j then v else mB S a b d := by
  show (if a = k ∧ b = i then va_up (mB S k i) j v else mB S a b) d = _
  by_cases h : a = k ∧ b = i
  · obtain ⟨rfl, rfl⟩ := h
    by_cases hj : d = j <;> simp [va_up, hj]
  · rw [if_neg h, if_neg (fun q => h ⟨q.1, q.2.1⟩)]
theorem mB_rA (S : fm) (k i : Nat) (r : Nat → Option Nat) : mB (rA S k i r) = mB S := rfl
theorem mB_sA (S : fm) (k i j : Nat) (v : Option Nat) : mB (sA S k i j v) = mB S := rfl
theorem mB_rU (S : fm) (k i : Nat) (r : Nat → Nat) : mB (rU S k i r) = mB S := rfl
theorem mB_sU (S : fm) (k i j : Nat) (v : Nat) : mB (sU S k i j v) = mB S := rfl
theorem mB_rZ (S : fm) (n : Nat) : mB (rZ S n) = mB S := rfl
theorem mA_rI (S : fm) (k i : Nat) (r : Nat → Int32) : mA (rI S k i r) = mA S := rfl
theorem mA_sI (S : fm) (k i j : Nat) (v : Int32) : mA (sI S k i j v) = mA S := rfl
theorem mA_rJ (S : fm) (k i : Nat) (r : Nat → Int64) : mA (rJ S k i r) = mA S := rfl
theorem mA_sJ (S : fm) (k i j : Nat) (v : Int64) : mA (sJ S k i j v) = mA S := rfl
theorem mA_rB (S : fm) (k i : Nat) (r : Nat → Bool) : mA (rB S k i r) = mA S := rfl
theorem mA_sB (S : fm) (k i j : Nat) (v : Bool) : mA (sB S k i j v) = mA S := rfl
theorem mA_rA (S : fm) (k i : Nat) (r : Nat → Option Nat) (a b : Nat) : mA (rA S k i r) a b = if a = k ∧ b = i then r else mA S a b := rfl
theorem mA_sA (S : fm) (k i j : Nat) (v : Option Nat) (a b d : Nat) : mA (sA S k i j v) a b d = if a = k ∧ b = i ∧ d = j then v else mA S a b d := by
  show (if a = k ∧ b = i then va_up (mA S k i) j v else mA S a b) d = _
  by_cases h : a = k ∧ b = i
  · obtain ⟨rfl, rfl⟩ := h
    by_cases hj : d = j <;> simp [va_up, hj]
  · rw [if_neg h, if_neg (fun q => h ⟨q.1, q.2.1⟩)]
theorem mA_rU (S : fm) (k i : Nat) (r : Nat → Nat) : mA (rU S k i r) = mA S := rfl
theorem mA_sU (S : fm) (k i j : Nat) (v : Nat) : mA (sU S k i j v) = mA S := rfl
theorem mA_rZ (S : fm) (n : Nat) : mA (rZ S n) = mA S := rfl
theorem mU_rI (S : fm) (k i : Nat) (r : Nat → Int32) : mU (rI S k i r) = mU S := rfl
theorem mU_sI (S : fm) (k i j : Nat) (v : Int32) : mU (sI S k i j v) = mU S := rfl
theorem mU_rJ (S : fm) (k i : Nat) (r : Nat → Int64) : mU (rJ S k i r) = mU S := rfl
theorem mU_sJ (S : fm) (k i j : Nat) (v : Int64) : mU (sJ S k i j v) = mU S := rfl
theorem mU_rB (S : fm) (k i : Nat) (r : Nat → Bool) : mU (rB S k i r) = mU S := rfl
theorem mU_sB (S : fm) (k i j : Nat) (v : Bool) : mU (sB S k i j v) = mU S := rfl
theorem mU_rA (S : fm) (k i : Nat) (r : Nat → Option Nat) : mU (rA S k i r) = mU S := rfl
theorem mU_sA (S : fm) (k i j : Nat) (v : Option Nat) : mU (sA S k i j v) = mU S := rfl
theorem mU_rU (S : fm) (k i : Nat) (r : Nat → Nat) (a b : Nat) : mU (rU S k i r) a b = if a = k ∧ b = i then r else mU S a b := rfl
theorem mU_sU (S : fm) (k i j : Nat) (v : Nat) (a b d : Nat) : mU (sU S k i j v) a b d = if a = k ∧ b = i ∧ d = j then v else mU S a b d := by
  show (if a = k ∧ b = i then va_up (mU S k i) j v else mU S a b) d = _
  by_cases h : a = k ∧ b = i
  · obtain ⟨rfl, rfl⟩ := h
    by_cases hj : d = j <;> simp [va_up, hj]
  · rw [if_neg h, if_neg (fun q => h ⟨q.1, q.2.1⟩)]
theorem mU_rZ (S : fm) (n : Nat) : mU (rZ S n) = mU S := rfl
theorem mZ_rI (S : fm) (k i : Nat) (r : Nat → Int32) : mZ (rI S k i r) = mZ S := rfl
theorem mZ_sI (S : fm) (k i j : Nat) (v : Int32) : mZ (sI S k i j v) = mZ S := rfl
theorem mZ_rJ (S : fm) (k i : Nat) (r : Nat → Int64) : mZ (rJ S k i r) = mZ S := rfl
theorem mZ_sJ (S : fm) (k i j : Nat) (v : Int64) : mZ (sJ S k i j v) = mZ S := rfl
theorem mZ_rB (S : fm) (k i : Nat) (r : Nat → Bool) : mZ (rB S k i r) = mZ S := rfl
theorem mZ_sB (S : fm) (k i j : Nat) (v : Bool) : mZ (sB S k i j v) = mZ S := rfl
theorem mZ_rA (S : fm) (k i : Nat) (r : Nat → Option Nat) : mZ (rA S k i r) = mZ S := rfl
theorem mZ_sA (S : fm) (k i j : Nat) (v : Option Nat) : mZ (sA S k i j v) = mZ S := rfl
theorem mZ_rU (S : fm) (k i : Nat) (r : Nat → Nat) : mZ (rU S k i r) = mZ S := rfl
theorem mZ_sU (S : fm) (k i j : Nat) (v : Nat) : mZ (sU S k i j v) = mZ S := rfl
theorem mZ_rZ (S : fm) (n : Nat) : mZ (rZ S n) = n := rfl
theorem rI_rI (S : fm) (k i : Nat) (f g : Nat → Int32) : rI (rI S k i f) k i g = rI S k i g := by
  have h : u2 (u2 S.1 k i f) k i g = u2 S.1 k i g := by funext a b; unfold u2; split <;> rfl
  show (u2 (u2 S.1 k i f) k i g, S.2.1, S.2.2.1, S.2.2.2.1, S.2.2.2.2.1, S.2.2.2.2.2) = _
  rw [h]; rfl
theorem sI_rI (S : fm) (k i j : Nat) (f : Nat → Int32) (v : Int32) : sI (rI S k i f) k i j v = rI S k i (va_up f j v) := by
  unfold sI; rw [rI_rI, show mI (rI S k i f) k i = f from u2_s]
theorem rJ_rJ (S : fm) (k i : Nat) (f g : Nat → Int64) : rJ (rJ S k i f) k i g = rJ S k i g := by
  have h : u2 (u2 S.2.1 k i f) k i g = u2 S.2.1 k i g := by funext a b; unfold u2; split <;> rfl
  show (S.1, u2 (u2 S.2.1 k i f) k i g, S.2.2.1, S.2.2.2.1, S.2.2.2.2.1, S.2.2.2.2.2) = _
  rw [h]; rfl
theorem sJ_rJ (S : fm) (k i j : Nat) (f : Nat → Int64) (v : Int64) : sJ (rJ S k i f) k i j v = rJ S k i (va_up f j v) := by
  unfold sJ; rw [rJ_rJ, show mJ (rJ S k i f) k i = f from u2_s]
theorem rB_rB (S : fm) (k i : Nat) (f g : Nat → Bool) : rB (rB S k i f) k i g = rB S k i g := by
  have h : u2 (u2 S.2.2.1 k i f) k i g = u2 S.2.2.1 k i g := by funext a b; unfold u2; split <;> rfl
  show (S.1, S.2.1, u2 (u2 S.2.2.1 k i f) k i g, S.2.2.2.1, S.2.2.2.2.1, S.2.2.2.2.2) = _
  rw [h]; rfl
theorem sB_rB (S : fm) (k i j : Nat) (f : Nat → Bool) (v : Bool) : sB (rB S k i f) k i j v = rB S k i (va_up f j v) := by
  unfold sB; rw [rB_rB, show mB (rB S k i f) k i = f from u2_s]
theorem rA_rA (S : fm) (k i : Nat) (f g : Nat → Option Nat) : rA (rA S k i f) k i g = rA S k i g := by
  have h : u2 (u2 S.2.2.2.1 k i f) k i g = u2 S.2.2.2.1 k i g := by funext a b; unfold u2; split <;> rfl
  show (S.1, S.2.1, S.2.2.1, u2 (u2 S.2.2.2.1 k i f) k i g, S.2.2.2.2.1, S.2.2.2.2.2) = _
  rw [h]; rfl
theorem sA_rA (S : fm) (k i j : Nat) (f : Nat → Option Nat) (v : Option Nat) : sA (rA S k i f) k i j v = rA S k i (va_up f j v) := by
  unfold sA; rw [rA_rA, show mA (rA S k i f) k i = f from u2_s]
theorem rU_rU (S : fm) (k i : Nat) (f g : Nat → Nat) : rU (rU S k i f) k i g = rU S k i g := by
  have h : u2 (u2 S.2.2.2.2.1 k i f) k i g = u2 S.2.2.2.2.1 k i g := by funext a b; unfold u2; split <;> rfl
  show (S.1, S.2.1, S.2.2.1, S.2.2.2.1, u2 (u2 S.2.2.2.2.1 k i f) k i g, S.2.2.2.2.2) = _
  rw [h]; rfl
theorem sU_rU (S : fm) (k i j : Nat) (f : Nat → Nat) (v : Nat) : sU (rU S k i f) k i j v = rU S k i (va_up f j v) := by
  unfold sU; rw [rU_rU, show mU (rU S k i f) k i = f from u2_s]
theorem rI_self (S : fm) (k i : Nat) : rI S k i (mI S k i) = S := by
  have h : u2 S.1 k i (mI S k i) = S.1 := by
    funext a b
    unfold u2
    by_cases h : a = k ∧ b = i
    · rw [if_pos h, h.1, h.2]; rfl
    · rw [if_neg h]
  show (u2 S.1 k i (mI S k i), S.2.1, S.2.2.1, S.2.2.2.1, S.2.2.2.2.1, S.2.2.2.2.2) = _
  rw [h]
theorem sI_rJ (S : fm) (k i a b j : Nat) (f : Nat → Int64) (v : Int32) : sI (rJ S k i f) a b j v = rJ (sI S a b j v) k i f := rfl
theorem sI_rB (S : fm) (k i a b j : Nat) (f : Nat → Bool) (v : Int32) : sI (rB S k i f) a b j v = rB (sI S a b j v) k i f := rfl
theorem sI_rA (S : fm) (k i a b j : Nat) (f : Nat → Option Nat) (v : Int32) : sI (rA S k i f) a b j v = rA (sI S a b j v) k i f := rfl
theorem sI_rU (S : fm) (k i a b j : Nat) (f : Nat → Nat) (v : Int32) : sI (rU S k i f) a b j v = rU (sI S a b j v) k i f := rfl
theorem rJ_self (S : fm) (k i : Nat) : rJ S k i (mJ S k i) = S := by
  have h : u2 S.2.1 k i (mJ S k i) = S.2.1 := by
    funext a b
    unfold u2
    by_cases h : a = k ∧ b = i
    · rw [if_pos h, h.1, h.2]; rfl
    · rw [if_neg h]
  show (S.1, u2 S.2.1 k i (mJ S k i), S.2.2.1, S.2.2.2.1, S.2.2.2.2.1, S.2.2.2.2.2) = _
  rw [h]
theorem sJ_rI (S : fm) (k i a b j : Nat) (f : Nat → Int32) (v : Int64) : sJ (rI S k i f) a b j v = rI (sJ S a b j v) k i f := rfl
theorem sJ_rB (S : fm) (k i a b j : Nat) (f : Nat → Bool) (v : Int64) : sJ (rB S k i f) a b j v = rB (sJ S a b j v) k i f := rfl
theorem sJ_rA (S : fm) (k i a b j : Nat) (f : Nat → Option Nat) (v : Int64) : sJ (rA S k i f) a b j v = rA (sJ S a b j v) k i f := rfl
theorem sJ_rU (S : fm) (k i a b j : Nat) (f : Nat → Nat) (v : Int64) : sJ (rU S k i f) a b j v = rU (sJ S a b j v) k i f := rfl
theorem rB_self (S : fm) (k i : Nat) : rB S k i (mB S k i) = S := by
  have h : u2 S.2.2.1 k i (mB S k i) = S.2.2.1 := by
    funext a b
    unfold u2
    by_cases h : a = k ∧ b = i
    · rw [if_pos h, h.1, h.2]; rfl
    · rw [if_neg h]
  show (S.1, S.2.1, u2 S.2.2.1 k i (mB S k i), S.2.2.2.1, S.2.2.2.2.1, S.2.2.2.2.2) = _
  rw [h]
theorem sB_rI (S : fm) (k i a b j : Nat) (f : Nat → Int32) (v : Bool) : sB (rI S k i f) a b j v = rI (sB S a b j v) k i f := rfl
theorem sB_rJ (S : fm) (k i a b j : Nat) (f : Nat → Int64) (v : Bool) : sB (rJ S k i f) a b j v = rJ (sB S a b j v) k i f := rfl
theorem sB_rA (S : fm) (k i a b j : Nat) (f : Nat → Option Nat) (v : Bool) : sB (rA S k i f) a b j v = rA (sB S a b j v) k i f := rfl
theorem sB_rU (S : fm) (k i a b j : Nat) (f : Nat → Nat) (v : Bool) : sB (rU S k i f) a b j v = rU (sB S a b j v) k i f := rfl
theorem rA_self (S : fm) (k i : Nat) : rA S k i (mA S k i) = S := by
  have h : u2 S.2.2.2.1 k i (mA S k i) = S.2.2.2.1 := by
    funext a b
    unfold u2
    by_cases h : a = k ∧ b = i
    · rw [if_pos h, h.1, h.2]; rfl
    · rw [if_neg h]
  show (S.1, S.2.1, S.2.2.1, u2 S.2.2.2.1 k i (mA S k i), S.2.2.2.2.1, S.2.2.2.2.2) = _
  rw [h]
theorem sA_rI (S : fm) (k i a b j : Nat) (f : Nat → Int32) (v : Option Nat) : sA (rI S k i f) a b j v = rI (sA S a b j v) k i f := rfl
theorem sA_rJ (S : fm) (k i a b j : Nat) (f : Nat → Int64) (v : Option Nat) : sA (rJ S k i f) a b j v = rJ (sA S a b j v) k i f := rfl
theorem sA_rB (S : fm) (k i a b j : Nat) (f : Nat → Bool) (v : Option Nat) : sA (rB S k i f) a b j v = rB (sA S a b j v) k i f := rfl
theorem sA_rU (S : fm) (k i a b j : Nat) (f : Nat → Nat) (v : Option Nat) : sA (rU S k i f) a b j v = rU (sA S a b j v) k i f := rfl
theorem rU_self (S : fm) (k i : Nat) : rU S k i (mU S k i) = S := by
  have h : u2 S.2.2.2.2.1 k i (mU S k i) = S.2.2.2.2.1 := by
    funext a b
    unfold u2
    by_cases h : a = k ∧ b = i
    · rw [if_pos h, h.1, h.2]; rfl
    · rw [if_neg h]
  show (S.1, S.2.1, S.2.2.1, S.2.2.2.1, u2 S.2.2.2.2.1 k i (mU S k i), S.2.2.2.2.2) = _
  rw [h]
theorem sU_rI (S : fm) (k i a b j : Nat) (f : Nat → Int32) (v : Nat) : sU (rI S k i f) a b j v = rI (sU S a b j v) k i f := rfl
theorem sU_rJ (S : fm) (k i a b j : Nat) (f : Nat → Int64) (v : Nat) : sU (rJ S k i f) a b j v = rJ (sU S a b j v) k i f := rfl
theorem sU_rB (S : fm) (k i a b j : Nat) (f : Nat → Bool) (v : Nat) : sU (rB S k i f) a b j v = rB (sU S a b j v) k i f := rfl
theorem sU_rA (S : fm) (k i a b j : Nat) (f : Nat → Option Nat) (v : Nat) : sU (rA S k i f) a b j v = rA (sU S a b j v) k i f := rfl
def bI (v : BitVec 8) : Int32 := nI v.toNat
def b2 (b : Bool) : Int32 := if b then 1 else 0
theorem b2_0 (b : Bool) : b2 b = 0 ↔ b = false := by cases b <;> decide
theorem b2_nar (b : Bool) : narrow .boolean (.int (b2 b)) = .int (b2 b) := by cases b <;> rfl
theorem b2_fit (b : Bool) : fits .boolean (.int (b2 b)) = true := by cases b <;> rfl
/-- the layout: the address of an object or array by its kind and number, the label at an address, the arrays' tables, the tables, N, K, D, where all begins, where the letters begin -/
abbrev fy : Type := (Nat → Nat → Nat) × (Nat → Option (Nat × Nat)) × (Nat → ClassId) × va_G × Nat × Nat × Nat × Nat × Nat
def xa (x : fy) : Nat → Nat → Nat := x.1
def xl (x : fy) : Nat → Option (Nat × Nat) := x.2.1
def xg (x : fy) : Nat → ClassId := x.2.2.1
def xd (x : fy) : va_G := x.2.2.2.1
def xN (x : fy) : Nat := x.2.2.2.2.1
def xK (x : fy) : Nat := x.2.2.2.2.2.1
def xD (x : fy) : Nat := x.2.2.2.2.2.2.1
def xs (x : fy) : Nat := x.2.2.2.2.2.2.2.1
def xb (x : fy) : Nat := x.2.2.2.2.2.2.2.2
def xM (x : fy) : Nat := (xN x - xK x) / 2
def xQ (x : fy) : Nat := xN x - xM x
def xR (x : fy) : Nat := (8 + xK x - 1) / xK x
abbrev xt (x : fy) : List (ClassId × FieldType) := [(xg x 0, .int), (xg x 1, .long), (xg x 2, .boolean), (xg x 3, .object rn_C), (xg x 4, .object rn_S), (xg x 5, .object rn_R), (xg x 6, .object rn_L)]
abbrev qa (f : Nat → Option Nat) : (Nat → Int32) ⊕ (Nat → Int64) ⊕ (Nat → UInt32) ⊕ (Nat → UInt64) ⊕ (Nat → Option Nat) := .inr (.inr (.inr (.inr f)))
abbrev ja (f : Nat → Int64) : (Nat → Int32) ⊕ (Nat → Int64) ⊕ (Nat → UInt32) ⊕ (Nat → UInt64) ⊕ (Nat → Option Nat) := .inr (.inl f)
/-- the cell of kind k, number i, out of its own row of the memory -/
def fcr (x : fy) (k i : Nat) (I : Nat → Int32) (J : Nat → Int64) (B : Nat → Bool) (A : Nat → Option Nat) (U : Nat → Nat) : va_E := match k with
  | 0 => .inr (5, [.int (nI (xQ x)), .int (nI (xM x)), .ref (xa x 1 0), .ref (xa x 3 0), .ref (xa x 4 0), .ref (xa x 5 0), .ref (xa x 6 0), .int (I 7)])
  | 1 => .inr (1, [.int (nI (xK x)), .int (nI (xR x)), .ref (xa x 2 0)])
  | 2 => .inl (xg x 0, xK x, .inl (fun j => bI (BitVec.ofNat 8 (U j))))
  | 3 => .inl (xg x 3, 5, qa (fun j => some (xa x 7 j)))
  | 4 => .inl (xg x 4, xN x, qa (fun j => some (xa x 10 j)))
  | 5 => .inl (xg x 5, 5 * xN x, qa (fun j => some (xa x 13 j)))
  | 6 => .inl (xg x 5, 5 * xN x, qa (fun j => some (xa x 13 (100 + j))))
  | 7 => .inr (0, [.int (nI i), .ref (xa x 8 i), .ref (xa x 9 i), .int (nI (U 3)), .int (b2 (B 4)), .int (I 5), .int (I 6), .int (I 7), .int (I 8), .int (I 9), .long (J 10), .long (J 11), .int (I 12)])
  | 8 => .inl (xg x 0, xK x, .inl (fun j => nI (U j)))
  | 9 => .inl (xg x 1, xK x, ja J)
  | 10 => .inr (4, [.int (nI (xD x + 1)), .ref (xa x 11 i), .ref (xa x 12 i), .int (nI (U 3)), .int (I 4), .int (b2 (B 5))])
  | 11 => .inl (xg x 0, xD x + 2, .inl I)
  | 12 => .inl (xg x 1, xD x + 2, ja J)
  | 13 => .inr (3, [.ref (xa x 14 i), .int (nI (U 1))])
  | 14 => .inl (xg x 6, 7, qa A)
  | 15 => .inr (2, [.int (I 0), .int (I 1), .int (I 2), .long (J 3), .int (I 4), .int (b2 (B 5))])
  | 16 => .inr (6, [.int (nI (xN x)), .int (nI (xK x)), .int (nI (xD x)), .ref (xa x 23 0), .ref (xa x 24 0), .ref (xa x 25 0), .ref (xa x 26 0), .ref (xa x 27 0), .ref (xa x 28 0), .ref (xa x 29 0), .ref (xa x 30 0), .ref (xa x 31 0), .ref (xa x 32 0), .ref (xa x 33 0), .ref (xa x 34 0), .ref (xa x 35 0), .ref (xa x 36 0), .ref (xa x 37 0), .int (nI (U 18)), .ref (xa x 39 0), .ref (xa x 40 0), .ref (xa x 41 0), .ref (xa x 42 0), .ref (xa x 43 0), .ref (xa x 44 0), .ref (xa x 45 0), .ref (xa x 46 0)])
  | 23 => .inl (xg x 0, 5, .inl I)
  | 24 => .inl (xg x 0, 5, .inl I)
  | 25 => .inl (xg x 0, 5, .inl I)
  | 26 => .inl (xg x 0, 5, .inl I)
  | 27 => .inl (xg x 0, 5, .inl I)
  | 28 => .inl (xg x 0, 5, .inl I)
  | 29 => .inl (xg x 0, 5, .inl I)
  | 30 => .inl (xg x 1, 5, ja J)
  | 31 => .inl (xg x 1, 5, ja J)
  | 32 => .inl (xg x 1, 5, ja J)
  | 33 => .inl (xg x 2, 7, .inl (fun j => b2 (B j)))
  | 34 => .inl (xg x 0, 7, .inl I)
  | 35 => .inl (xg x 0, 7, .inl (fun j => nI (U j)))
  | 36 => .inl (xg x 0, 35, .inl I)
  | 37 => .inl (xg x 1, 35, ja J)
  | 39 => .inl (xg x 2, 256, .inl (fun j => b2 (B j)))
  | 40 => .inl (xg x 2, 256, .inl (fun j => b2 (B j)))
  | 41 => .inl (xg x 0, 256, .inl I)
  | 42 => .inl (xg x 0, 256, .inl I)
  | 43 => .inl (xg x 0, 256, .inl I)
  | 44 => .inl (xg x 0, 256, .inl I)
  | 45 => .inl (xg x 0, 256, .inl I)
  | 46 => .inl (xg x 1, 256, ja J)
  | _ => .inl (xg x 0, 0, .inl I)
def fc (x : fy) (S : fm) (k i : Nat) : va_E := fcr x k i (mI S k i) (mJ S k i) (mB S k i) (mA S k i) (mU S k i)
def wd (x : fy) (S : fm) (a : Nat) : Option va_E := match xl x a with
  | some q => some (fc x S q.1 q.2)
  | none => if xb x ≤ a ∧ a < mZ S then some (fc x S 15 a) else none
/-- the layout is sound -/
def fO (x : fy) : Prop := (∀ a k i, xl x a = some (k, i) → a = xa x k i ∧ xs x ≤ a ∧ a < xb x ∧ k ≠ 15) ∧ xs x ≤ xb x ∧ 3 ≤ xN x ∧ xN x ≤ 7 ∧ 1 ≤ xK x ∧ xK x ≤ xN x ∧ xD x ≤ 3
/-- the heap holds the memory -/
def fP (x : fy) (S : fm) (H : Heap) : Prop := fO x ∧ xb x ≤ mZ S ∧ H.size = mZ S ∧ ∀ a e, wd x S a = some e → va_at (xd x) cls_all (a, e) H
def fat (x : fy) (S : fm) (a k i : Nat) : Prop := xl x a = some (k, i) ∨ (xl x a = none ∧ xb x ≤ a ∧ a < mZ S ∧ k = 15 ∧ i = a)
def fv (x : fy) (k i : Nat) : Prop := xl x (xa x k i) = some (k, i)
def fvL (x : fy) (S : fm) (a : Nat) : Prop := xl x a = none ∧ xb x ≤ a ∧ a < mZ S
theorem fv.at {x : fy} {k i : Nat} (h : fv x k i) (S : fm) : fat x S (xa x k i) k i := Or.inl h
theorem fvL.at {x : fy} {S : fm} {a : Nat} (h : fvL x S a) : fat x S a 15 a := Or.inr ⟨h.1, h.2.1, h.2.2, rfl, rfl⟩
theorem fat.cell {x : fy} {S : fm} {a k i : Nat} (h : fat x S a k i) : wd x S a = some (fc x S k i) := by
  unfold wd
  rcases h with h | ⟨h, h1, h2, rfl, rfl⟩
  · rw [h]
  · rw [h]
    exact if_pos ⟨h1, h2⟩
theorem fat.lo {x : fy} {S : fm} {a k i : Nat} (hO : fO x) (h : fat x S a k i) : xs x ≤ a := by
  rcases h with h | ⟨h, h1, h2, rfl, rfl⟩
  · exact (hO.1 _ _ _ h).2.1
  · exact Nat.le_trans hO.2.1 h1
/-- one label, one address -/
theorem fat.uniq {x : fy} {S : fm} {a b k i : Nat} (hO : fO x) (h : fat x S a k i) (h' : fat x S b k i) : a = b := by
  rcases h with h | ⟨h, h1, h2, h3, h4⟩ <;> rcases h' with h' | ⟨h', h1', h2', h3', h4'⟩
  · rw [(hO.1 _ _ _ h).1, ← (hO.1 _ _ _ h').1]
  · exact absurd h3' (hO.1 _ _ _ h).2.2.2
  · exact absurd h3 (hO.1 _ _ _ h').2.2.2
  · rw [← h4, ← h4']
theorem wd.at {x : fy} {S : fm} {a : Nat} {e : va_E} (h : wd x S a = some e) : ∃ k i, fat x S a k i ∧ e = fc x S k i := by
  unfold wd at h
  split at h
  next q hq => exact ⟨q.1, q.2, Or.inl hq, (Option.some.inj h).symm⟩
  next hq =>
    split at h
    next h1 => exact ⟨15, a, Or.inr ⟨hq, h1.1, h1.2, rfl, rfl⟩, (Option.some.inj h).symm⟩
    next => cases h
theorem fP.one {x : fy} {S : fm} {H : Heap} {a k i : Nat} (hP : fP x S H) (h : fat x S a k i) : va_P (xd x) cls_all [(a, fc x S k i)] H := by
  intro n q hn
  have hz : n < 1 := (List.getElem?_eq_some_iff.mp hn).1
  rw [show n = 0 by omega] at hn
  cases hn
  exact hP.2.2.2 _ _ h.cell
theorem fP.set {x : fy} {S S' : fm} {H H1 : Heap} {a k i : Nat} (hP : fP x S H) (h : fat x S a k i) (h3 : ∀ b d, ¬ (b = k ∧ d = i) → fc x S' b d = fc x S b d) (hz : mZ S' = mZ S) (hn : va_at (xd x) cls_all (a, fc x S' k i) H1) (z : H1.size = H.size) (oq : ∀ q : Nat, q ≠ a → H1[q]? = H[q]?) : fP x S' H1 := by
  refine ⟨hP.1, by rw [hz]; exact hP.2.1, by rw [z, hz]; exact hP.2.2.1, fun q e he => ?_⟩
  obtain ⟨k', i', hq, rfl⟩ := wd.at he
  have hq' : fat x S q k' i' := by
    rcases hq with hq | ⟨h1, h2, h4, h5⟩
    · exact Or.inl hq
    · exact Or.inr ⟨h1, h2, by rw [← hz]; exact h4, h5⟩
  by_cases hki : k' = k ∧ i' = i
  · obtain ⟨rfl, rfl⟩ := hki
    rw [hq'.uniq hP.1 h]
    exact hn
  · rw [h3 _ _ hki]
    by_cases hqa : q = a
    · subst hqa
      exfalso
      rcases h with h | ⟨g, g1, g2, g3, g4⟩ <;> rcases hq' with h' | ⟨g', g1', g2', g3', g4'⟩
      · rw [h] at h'
        exact hki ⟨(Prod.mk.inj (Option.some.inj h')).1.symm, (Prod.mk.inj (Option.some.inj h')).2.symm⟩
      · rw [h] at g'
        cases g'
      · rw [g] at h'
        cases h'
      · exact hki ⟨g3'.trans g3.symm, g4'.trans g4.symm⟩
    · exact (hP.2.2.2 _ _ hq'.cell).kept (oq q hqa)
theorem fc_sI {x : fy} {S : fm} {k i j : Nat} {v : Int32} : ∀ b d, ¬ (b = k ∧ d = i) → fc x (sI S k i j v) b d = fc x S b d := by
  intro b d h
  show fcr x b d (mI (sI S k i j v) b d) (mJ (sI S k i j v) b d) (mB (sI S k i j v) b d) (mA (sI S k i j v) b d) (mU (sI S k i j v) b d) = _
  rw [show mI (sI S k i j v) b d = mI S b d from u2_n h]
  rfl
theorem mI_row {S : fm} {k i j : Nat} {v : Int32} : mI (sI S k i j v) k i = va_up (mI S k i) j v := u2_s
theorem fc_sJ {x : fy} {S : fm} {k i j : Nat} {v : Int64} : ∀ b d, ¬ (b = k ∧ d = i) → fc x (sJ S k i j v) b d = fc x S b d := by
  intro b d h
  show fcr x b d (mI (sJ S k i j v) b d) (mJ (sJ S k i j v) b d) (mB (sJ S k i j v) b d) (mA (sJ S k i j v) b d) (mU (sJ S k i j v) b d) = _
  rw [show mJ (sJ S k i j v) b d = mJ S b d from u2_n h]
  rfl
theorem mJ_row {S : fm} {k i j : Nat} {v : Int64} : mJ (sJ S k i j v) k i = va_up (mJ S k i) j v := u2_s
theorem fc_sB {x : fy} {S : fm} {k i j : Nat} {v : Bool} : ∀ b d, ¬ (b = k ∧ d = i) → fc x (sB S k i j v) b d = fc x S b d := by
  intro b d h
  show fcr x b d (mI (sB S k i j v) b d) (mJ (sB S k i j v) b d) (mB (sB S k i j v) b d) (mA (sB S k i j v) b d) (mU (sB S k i j v) b d) = _
  rw [show mB (sB S k i j v) b d = mB S b d from u2_n h]
  rfl
theorem mB_row {S : fm} {k i j : Nat} {v : Bool} : mB (sB S k i j v) k i = va_up (mB S k i) j v := u2_s
theorem fc_sA {x : fy} {S : fm} {k i j : Nat} {v : Option Nat} : ∀ b d, ¬ (b = k ∧ d = i) → fc x (sA S k i j v) b d = fc x S b d := by
  intro b d h
  show fcr x b d (mI (sA S k i j v) b d) (mJ (sA S k i j v) b d) (mB (sA S k i j v) b d) (mA (sA S k i j v) b d) (mU (sA S k i j v) b d) = _
  rw [show mA (sA S k i j v) b d = mA S b d from u2_n h]
  rfl
theorem mA_row {S : fm} {k i j : Nat} {v : Option Nat} : mA (sA S k i j v) k i = va_up (mA S k i) j v := u2_s
theorem fc_sU {x : fy} {S : fm} {k i j : Nat} {v : Nat} : ∀ b d, ¬ (b = k ∧ d = i) → fc x (sU S k i j v) b d = fc x S b d := by
  intro b d h
  show fcr x b d (mI (sU S k i j v) b d) (mJ (sU S k i j v) b d) (mB (sU S k i j v) b d) (mA (sU S k i j v) b d) (mU (sU S k i j v) b d) = _
  rw [show mU (sU S k i j v) b d = mU S b d from u2_n h]
  rfl
theorem mU_row {S : fm} {k i j : Nat} {v : Nat} : mU (sU S k i j v) k i = va_up (mU S k i) j v := u2_s
theorem f_len {x : fy} {k i : Nat} {I : Nat → Int32} {J : Nat → Int64} {B : Nat → Bool} {A : Nat → Option Nat} {U : Nat → Nat} {cA : ClassId} {n : Nat} {d : (Nat → Int32) ⊕ (Nat → Int64) ⊕ (Nat → UInt32) ⊕ (Nat → UInt64) ⊕ (Nat → Option Nat)} (hO : fO x) (h : fcr x k i I J B A U = .inl (cA, n, d)) : n < 2 ^ 31 := by
  obtain ⟨-, -, h1, h2, h3, h4, h5⟩ := hO
  unfold fcr at h
  split at h <;> first | (cases h; done) | (cases h; omega)
end
section
-- the kit's rows, said of the typed memory
abbrev fS (x : fy) (H0 H : Heap) (locs : List Loc) : Prop := va_S (fun q => xs x ≤ q) H0 H locs
def fX (own : String) (cc : ByteArray) (nL : Nat) (p : Program) (c : Code) (s : State) (m : MethodId) (args : Array Value) (x : fy) : Prop := CallFix p m c cc nL s args gw_tbl own ∧ va_K (xd x) cls_all (xt x) s
abbrev fPc (x : fy) (S : fm) (av : List Value) : Array Value → State → Prop := va_Pc av (fun U => fP x S U.heap ∧ va_K (xd x) cls_all (xt x) U)
abbrev fQi (x : fy) (S' : fm) (r : Int32) : Array Value → State → Outcome → State → Prop := va_Qi (fun (v : Int32) (_ : Unit) => v = r) (fun _ t => fP x S' t.heap) (fun q => xs x ≤ q)
abbrev fQl (x : fy) (S' : fm) (r : Int64) : Array Value → State → Outcome → State → Prop := va_Ql (fun (v : Int64) (_ : Unit) => v = r) (fun _ t => fP x S' t.heap) (fun q => xs x ≤ q)
abbrev fQv (x : fy) (S' : fm) : Array Value → State → Outcome → State → Prop := va_Qv (fun (_ : Unit) => True) (fun _ t => fP x S' t.heap) (fun q => xs x ≤ q)
abbrev fQq (x : fy) (S' : fm) (r : Option Nat) : Array Value → State → Outcome → State → Prop := va_Qq (fun (v : Option Nat) (_ : Unit) => v = r) (fun _ t => fP x S' t.heap) (fun q => xs x ≤ q)
section FR
variable {p : Program} {l : Launch} {e : Env} {R : Room} {s : State} {m : MethodId} {args : Array Value} {below : List Frame} {meth : Method} {c : Code} {H : Heap} {locs : List Loc} {cells slots : Nat} {Q : State → Prop}
variable {cc : ByteArray} {pc : Nat} {ls : Array Slot} {rest : List Value} {own : String} {nL : Nat} {x : fy} {S : fm} {a k i : Nat} {H0 : Heap}
/-- a contract begins: one row for all that every contract needs -/
theorem f_met {y : MethodName} {bytes : ByteArray} {maxL : Nat} {ret : Option FieldType} {rm : Room} {av : List Value} {Qc : Array Value → State → Outcome → State → Prop} {mc ms : Nat} {free : Addr → Prop} (hy : plainName y.cls = true) (hlen : (lg_sl av).length ≤ maxL)
    (body : ∀ (p : Program) (e : Env) (s : State) (m : MethodId) (below : List Frame) (meth : Method) (c : Code), fX y.cls bytes maxL p c s m av.toArray x → meth.sig.returnType = ret → meth.locks = false → meth.name = y.name → fP x S s.heap → fS x s.heap s.heap [] → ∀ ls : Array Slot, lv_has ls maxL (lv_args 0 av) →
      W p l e rm s m av.toArray below meth c s.heap [] 0 0 (MQ below Qc av.toArray s mc ms free) (F0 m 0 ls [])) : Met l y (gw_ws y bytes maxL ret) rm (fPc x S av) Qc mc ms free := by
  refine Met.ofW (cc := bytes) (maxL := maxL) (ret := ret) hy rfl ?_
  intro p e s m args below meth c s₁ B hml hv
  obtain ⟨rfl, hP, hK⟩ := hv
  rw [lg_entry_eq]
  exact body p e s m below meth c ⟨⟨B.exec, B.bytes, hml, findClass_of_methodNamed B.named, fun w h => atoms_spec (ws := gw_ws y bytes maxL ret) B.pre w (List.mem_cons_of_mem _ h)⟩, hK⟩ B.returns B.notSynchronized (name_of_methodNamed B.named B.method).1 hP va_S.rf _ (lv_entry av hlen)
theorem f_get (cx : fX own cc nL p c s m args x) (hP : fP x S H) (ha : fat x S a k i) {C ref : String} {T : u_T} {N ci index : Nat} {fs : List Value} (hf : fc x S k i = .inr (ci, fs)) (hc : cls_all[ci]? = some (C, T, N)) (hin : ∀ w ∈ u_ws C T N, w ∈ gw_tbl) (q : Nat) (hq : q < N) (hlink : Cond.fieldLink own index ref (T q).2.1 (T q).2.2.1 ∈ gw_tbl) (hsame : ∀ z, s.fieldFound? (T q).1 (T q).2.1 (T q).2.2.1 = some z → s.fieldFound? ref (T q).2.1 (T q).2.2.1 = some z) {v : Value} (hv : fs[q]? = some v) (hdg : decode cc pc = .ok (.getfield index, 3))
    (kk : W p l e R s m args below meth c H locs cells slots Q (F0 m (pc + 3) ls (v :: rest))) : W p l e R s m args below meth c H locs cells slots Q (F0 m pc ls (.ref a :: rest)) := by
  have h1 := hP.one ha
  rw [hf] at h1
  exact va_get cx.1.1 cx.1.2.1 cx.1.2.2.2.2 hin cx.1.2.2.2.1 cx.2 h1 0 rfl hc q hq (cx.1.2.2.2.2 _ hlink) hsame hv hdg kk
theorem f_put (cx : fX own cc nL p c s m args x) (hP : fP x S H) (hS0 : fS x H0 H locs) (ha : fat x S a k i) {C ref : String} {T : u_T} {N ci index : Nat} {fs : List Value} (hf : fc x S k i = .inr (ci, fs)) (hc : cls_all[ci]? = some (C, T, N)) (hin : ∀ w ∈ u_ws C T N, w ∈ gw_tbl) (ty0 : Nat → FieldType) (hty : ∀ k, k < N → parseFieldDescriptor (T k).2.2.1 = some (ty0 k)) (hnm : ∀ a, a < N → ∀ b, b < N → a ≠ b → (T a).2.1 ≠ (T b).2.1) (q : Nat) (hq : q < N) (hlink : Cond.fieldLink own index ref (T q).2.1 (T q).2.2.1 ∈ gw_tbl) (hsame : ∀ z, s.fieldFound? (T q).1 (T q).2.1 (T q).2.2.1 = some z → s.fieldFound? ref (T q).2.1 (T q).2.2.1 = some z) (hfin : (T q).2.2.2 = false) {ty : FieldType} {v : Value} (hd : parseFieldDescriptor (T q).2.2.1 = some ty) (hn : narrow ty v = v) (hfit : fits ty v = true) (hl : q < fs.length)
    {S' : fm} (h2 : fc x S' k i = .inr (ci, fs.set q v)) (h3 : ∀ b d, ¬ (b = k ∧ d = i) → fc x S' b d = fc x S b d) (hz : mZ S' = mZ S) (hdg : decode cc pc = .ok (.putfield index, 3))
    (kk : ∀ (H1 : Heap) (locs1 : List Loc), fP x S' H1 → fS x H0 H1 locs1 → W p l e R s m args below meth c H1 locs1 cells slots Q (F0 m (pc + 3) ls rest)) : W p l e R s m args below meth c H locs cells slots Q (F0 m pc ls (v :: .ref a :: rest)) := by
  obtain ⟨⟨hexec, hb, -, hown, hts⟩, hK⟩ := cx
  have hap := va_apart (own := own) hts hin ty0 hty hnm hK hc
  have h1 := hP.2.2.2 _ _ ha.cell
  rw [hf] at h1
  obtain ⟨r, h1, cell, q1, q2, q3, q4⟩ := h1
  have hr : r = (C, T, N) := Option.some.inj (h1.symm.trans hc)
  subst hr
  obtain ⟨hS, hfc, kC, hkC, hkind⟩ := hK.1 ci _ hc
  obtain ⟨cf, kf, fi, f, hi, hsl⟩ := hS q hq
  have hlay := hts _ (hin _ (u_in_lay hq))
  unfold u_lay at hlay
  rw [if_neg (by rw [hfin]; decide)] at hlay
  have hst := (u_facts hfc hkC (u_lays hts hin hq) hi).1
  have h6 := u_store hfc hkC hkind hlay hi hd hn hfit
  refine W.putK hexec hb (f := f) ⟨hown, hts _ hlink, ⟨_, _, _, hsame _ hi⟩, hst⟩ (by rw [q2]; exact h6) q1 q3 (by rw [hsl]; exact k2_hasslot (q4 q hq)) rfl rfl hdg fun H' e1 e2 e3 => ?_
  rw [hsl] at e1 ⊢
  refine kk H' _ (hP.set ha h3 hz ?_ e2 e3) (hS0.put e2 e3 (ha.lo hP.1))
  rw [h2]
  exact ⟨_, hc, t_OB.to (V := updV (vp_V fs) q v) ⟨_, e1, q2, q3, t_set q4 hap hq v⟩ (fun j _ => vp_updV_set hl v j)⟩
theorem f_putF (cx : fX own cc nL p c s m args x) (hin2 : meth.name = "<init>") (hP : fP x S H) (hS0 : fS x H0 H locs) (ha : fat x S a k i) {C ref : String} {T : u_T} {N ci index : Nat} {fs : List Value} (hf : fc x S k i = .inr (ci, fs)) (hc : cls_all[ci]? = some (C, T, N)) (hin : ∀ w ∈ u_ws C T N, w ∈ gw_tbl) (ty0 : Nat → FieldType) (hty : ∀ k, k < N → parseFieldDescriptor (T k).2.2.1 = some (ty0 k)) (hnm : ∀ a, a < N → ∀ b, b < N → a ≠ b → (T a).2.1 ≠ (T b).2.1) (q : Nat) (hq : q < N) (hlink : Cond.fieldLink own index ref (T q).2.1 (T q).2.2.1 ∈ gw_tbl) (hsame : ∀ z, s.fieldFound? (T q).1 (T q).2.1 (T q).2.2.1 = some z → s.fieldFound? ref (T q).2.1 (T q).2.2.1 = some z) (hfin : (T q).2.2.2 = true) (hdecl : (T q).1 = own) {ty : FieldType} {v : Value} (hd : parseFieldDescriptor (T q).2.2.1 = some ty) (hn : narrow ty v = v) (hfit : fits ty v = true) (hl : q < fs.length)
    {S' : fm} (h2 : fc x S' k i = .inr (ci, fs.set q v)) (h3 : ∀ b d, ¬ (b = k ∧ d = i) → fc x S' b d = fc x S b d) (hz : mZ S' = mZ S) (hdg : decode cc pc = .ok (.putfield index, 3))
    (kk : ∀ (H1 : Heap) (locs1 : List Loc), fP x S' H1 → fS x H0 H1 locs1 → W p l e R s m args below meth c H1 locs1 cells slots Q (F0 m (pc + 3) ls rest)) : W p l e R s m args below meth c H locs cells slots Q (F0 m pc ls (v :: .ref a :: rest)) := by
  obtain ⟨⟨hexec, hb, -, hown, hts⟩, hK⟩ := cx
  have hap := va_apart (own := own) hts hin ty0 hty hnm hK hc
  have h1 := hP.2.2.2 _ _ ha.cell
  rw [hf] at h1
  obtain ⟨r, h1, cell, q1, q2, q3, q4⟩ := h1
  have hr : r = (C, T, N) := Option.some.inj (h1.symm.trans hc)
  subst hr
  obtain ⟨hS, hfc, kC, hkC, hkind⟩ := hK.1 ci _ hc
  obtain ⟨cf, kf, fi, f, hi, hsl⟩ := hS q hq
  have hlay := hts _ (hin _ (u_in_lay hq))
  unfold u_lay at hlay
  rw [if_pos hfin] at hlay
  have hst := (u_facts hfc hkC (u_lays hts hin hq) hi).1
  have hcf : m.cls = cf := by
    obtain ⟨_, _, c', _, _, _, -, -, hf', -, -, -, hown2, -⟩ := Cond.laysFinal_spec hlay
    have e1 : c' = cf := by have := hi.symm.trans hf'; simp at this; exact this.1.symm
    rw [hdecl] at hown2
    rw [← e1]; exact Option.some.inj (hown.symm.trans hown2)
  have h6 := u_fits hfc hkC hkind (Or.inr hlay) hi hd hn hfit
  refine W.putFinK hexec hb hown (hts _ hlink) (hsame _ hi) hst hcf hin2 (by rw [q2]; exact h6) q1 q3 (by rw [hsl]; exact k2_hasslot (q4 q hq)) rfl rfl hdg fun H' e1 e2 e3 => ?_
  rw [hsl] at e1 ⊢
  refine kk H' _ (hP.set ha h3 hz ?_ e2 e3) (hS0.put e2 e3 (ha.lo hP.1))
  rw [h2]
  exact ⟨_, hc, t_OB.to (V := updV (vp_V fs) q v) ⟨_, e1, q2, q3, t_set q4 hap hq v⟩ (fun j _ => vp_updV_set hl v j)⟩
theorem f_clamp {j n : Nat} (hj : j < n) (hn : n < 2 ^ 31) : vp_in (nI j) n ∧ (nI j).toNatClampNeg = j := ⟨vp_in_nI hj hn, nI_clamp (by omega)⟩
theorem f_iald (cx : fX own cc nL p c s m args x) (hP : fP x S H) (ha : fat x S a k i) {n : Nat} {f : Nat → Int32} (hf : fc x S k i = .inl (xg x 0, n, .inl f)) {z : Int32} {j : Nat} (hz : z = nI j) (hj : j < n) (hdg : decode cc pc = .ok (.iaload, 1))
    (kk : W p l e R s m args below meth c H locs cells slots Q (F0 m (pc + 1) ls (.int (f j) :: rest))) : W p l e R s m args below meth c H locs cells slots Q (F0 m pc ls (.int z :: .ref a :: rest)) := by
  subst hz
  have h1 := hP.one ha
  rw [hf] at h1
  have hc := f_clamp hj (f_len hP.1 hf)
  exact va_iald cx.1.1 cx.1.2.1 cx.2 h1 0 0 rfl rfl hc.1 hdg (by rw [hc.2]; exact kk)
theorem f_lald (cx : fX own cc nL p c s m args x) (hP : fP x S H) (ha : fat x S a k i) {n : Nat} {f : Nat → Int64} (hf : fc x S k i = .inl (xg x 1, n, ja f)) {z : Int32} {j : Nat} (hz : z = nI j) (hj : j < n) (hdg : decode cc pc = .ok (.laload, 1))
    (kk : W p l e R s m args below meth c H locs cells slots Q (F0 m (pc + 1) ls (.long (f j) :: rest))) : W p l e R s m args below meth c H locs cells slots Q (F0 m pc ls (.int z :: .ref a :: rest)) := by
  subst hz
  have h1 := hP.one ha
  rw [hf] at h1
  have hc := f_clamp hj (f_len hP.1 hf)
  exact va_lald cx.1.1 cx.1.2.1 cx.2 h1 0 1 rfl rfl hc.1 hdg (by rw [hc.2]; exact kk)
theorem f_zald (cx : fX own cc nL p c s m args x) (hP : fP x S H) (ha : fat x S a k i) {n : Nat} {f : Nat → Int32} (hf : fc x S k i = .inl (xg x 2, n, .inl f)) {z : Int32} {j : Nat} (hz : z = nI j) (hj : j < n) (hdg : decode cc pc = .ok (.baload, 1))
    (kk : W p l e R s m args below meth c H locs cells slots Q (F0 m (pc + 1) ls (.int (f j) :: rest))) : W p l e R s m args below meth c H locs cells slots Q (F0 m pc ls (.int z :: .ref a :: rest)) := by
  subst hz
  have h1 := hP.one ha
  rw [hf] at h1
  have hc := f_clamp hj (f_len hP.1 hf)
  exact va_zald cx.1.1 cx.1.2.1 cx.2 h1 0 2 rfl rfl hc.1 hdg (by rw [hc.2]; exact kk)
theorem f_aald (t0 : Nat) (cx : fX own cc nL p c s m args x) (hP : fP x S H) (ha : fat x S a k i) {C : String} {n : Nat} {f : Nat → Option Nat} (hf : fc x S k i = .inl (xg x t0, n, qa f)) (ht : (xt x)[t0]? = some (xg x t0, .object C)) {z : Int32} {j : Nat} (hz : z = nI j) (hj : j < n) (hdg : decode cc pc = .ok (.aaload, 1))
    (kk : W p l e R s m args below meth c H locs cells slots Q (F0 m (pc + 1) ls (va_rf (f j) :: rest))) : W p l e R s m args below meth c H locs cells slots Q (F0 m pc ls (.int z :: .ref a :: rest)) := by
  subst hz
  have h1 := hP.one ha
  rw [hf] at h1
  have hc := f_clamp hj (f_len hP.1 hf)
  exact va_aldq cx.1.1 cx.1.2.1 cx.2 h1 0 t0 rfl ht hc.1 hdg (by rw [hc.2]; exact kk)
/-- a place of an array of references that holds one -/
theorem f_aalds (t0 : Nat) (cx : fX own cc nL p c s m args x) (hP : fP x S H) (ha : fat x S a k i) {C : String} {n : Nat} {f : Nat → Option Nat} (hf : fc x S k i = .inl (xg x t0, n, qa f)) (ht : (xt x)[t0]? = some (xg x t0, .object C)) {z : Int32} {j : Nat} (hz : z = nI j) (hj : j < n) {b : Nat} (hb : f j = some b) (hdg : decode cc pc = .ok (.aaload, 1))
    (kk : W p l e R s m args below meth c H locs cells slots Q (F0 m (pc + 1) ls (.ref b :: rest))) : W p l e R s m args below meth c H locs cells slots Q (F0 m pc ls (.int z :: .ref a :: rest)) :=
  f_aald t0 cx hP ha hf ht hz hj hdg (by rw [hb]; exact kk)
theorem f_alen (t0 : Nat) (cx : fX own cc nL p c s m args x) (hP : fP x S H) (ha : fat x S a k i) {ty : FieldType} {n : Nat} {d : (Nat → Int32) ⊕ (Nat → Int64) ⊕ (Nat → UInt32) ⊕ (Nat → UInt64) ⊕ (Nat → Option Nat)} (hf : fc x S k i = .inl (xg x t0, n, d)) (ht : (xt x)[t0]? = some (xg x t0, ty)) (hdg : decode cc pc = .ok (.arraylength, 1))
    (kk : W p l e R s m args below meth c H locs cells slots Q (F0 m (pc + 1) ls (.int (nI n) :: rest))) : W p l e R s m args below meth c H locs cells slots Q (F0 m pc ls (.ref a :: rest)) := by
  have h1 := hP.one ha
  rw [hf] at h1
  exact va_alen cx.1.1 cx.1.2.1 cx.2 h1 0 t0 rfl ht rfl hdg kk
theorem f_iast (cx : fX own cc nL p c s m args x) (hP : fP x S H) (hS0 : fS x H0 H locs) (ha : fat x S a k i) {n : Nat} (hf : ∀ I, fcr x k i I (mJ S k i) (mB S k i) (mA S k i) (mU S k i) = .inl (xg x 0, n, .inl I)) {z v : Int32} {j : Nat} (hz : z = nI j) (hj : j < n) (hdg : decode cc pc = .ok (.iastore, 1))
    (kk : ∀ (H1 : Heap) (locs1 : List Loc), fP x (sI S k i j v) H1 → fS x H0 H1 locs1 → W p l e R s m args below meth c H1 locs1 cells slots Q (F0 m (pc + 1) ls rest)) : W p l e R s m args below meth c H locs cells slots Q (F0 m pc ls (.int v :: .int z :: .ref a :: rest)) := by
  subst hz
  have h1 := hP.2.2.2 _ _ ha.cell
  rw [show fc x S k i = _ from hf _] at h1
  have hc := f_clamp hj (f_len hP.1 (hf (mI S k i)))
  refine W.iast cx.1.1 cx.1.2.1 h1 ((cx.2.2 0 _ rfl).1 n (fun j => .int (mI S k i j))) (fun q => by cases q) (by show ¬ (nI j < 0 ∨ (arrV _ _ _).slots.size ≤ _); rw [arrV_size]; exact hc.1) rfl rfl hdg fun H1 e z oq => ?_
  refine kk H1 _ (hP.set ha fc_sI rfl ?_ z oq) (hS0.put z oq (ha.lo hP.1))
  rw [show fc x (sI S k i j v) k i = .inl (xg x 0, n, .inl (va_up (mI S k i) j v)) by show fcr x k i (mI (sI S k i j v) k i) _ _ _ _ = _; rw [mI_row]; exact hf _]
  show H1[a]? = some (vp_cell _ _)
  rw [e, vp_cell_i, vp_cell_i, arrV_store, hc.2]
  congr 2
  funext q
  by_cases hq : q = j <;> simp [updV, va_up, hq]
theorem f_iastU (cx : fX own cc nL p c s m args x) (hP : fP x S H) (hS0 : fS x H0 H locs) (ha : fat x S a k i) {n : Nat} (hf : ∀ U, fcr x k i (mI S k i) (mJ S k i) (mB S k i) (mA S k i) U = .inl (xg x 0, n, .inl (fun j => nI (U j)))) {z w : Int32} {j v : Nat} (hw : w = nI v) (hz : z = nI j) (hj : j < n) (hdg : decode cc pc = .ok (.iastore, 1))
    (kk : ∀ (H1 : Heap) (locs1 : List Loc), fP x (sU S k i j v) H1 → fS x H0 H1 locs1 → W p l e R s m args below meth c H1 locs1 cells slots Q (F0 m (pc + 1) ls rest)) : W p l e R s m args below meth c H locs cells slots Q (F0 m pc ls (.int w :: .int z :: .ref a :: rest)) := by
  subst hz; subst hw
  have h1 := hP.2.2.2 _ _ ha.cell
  rw [show fc x S k i = _ from hf _] at h1
  have hc := f_clamp hj (f_len hP.1 (hf (mU S k i)))
  refine W.iast cx.1.1 cx.1.2.1 h1 ((cx.2.2 0 _ rfl).1 n (fun j => .int (nI (mU S k i j)))) (fun q => by cases q) (by show ¬ (nI j < 0 ∨ (arrV _ _ _).slots.size ≤ _); rw [arrV_size]; exact hc.1) rfl rfl hdg fun H1 e z oq => ?_
  refine kk H1 _ (hP.set ha fc_sU rfl ?_ z oq) (hS0.put z oq (ha.lo hP.1))
  rw [show fc x (sU S k i j v) k i = .inl (xg x 0, n, .inl (fun q => nI (va_up (mU S k i) j v q))) by show fcr x k i _ _ _ _ (mU (sU S k i j v) k i) = _; rw [mU_row]; exact hf _]
  show H1[a]? = some (vp_cell _ _)
  rw [e, vp_cell_i, vp_cell_i, arrV_store, hc.2]
  congr 2
  funext q
  by_cases hq : q = j <;> simp [updV, va_up, hq]
theorem f_iastY (cx : fX own cc nL p c s m args x) (hP : fP x S H) (hS0 : fS x H0 H locs) (ha : fat x S a k i) {n : Nat} (hf : ∀ U, fcr x k i (mI S k i) (mJ S k i) (mB S k i) (mA S k i) U = .inl (xg x 0, n, .inl (fun j => bI (BitVec.ofNat 8 (U j))))) {z w : Int32} {j : Nat} {v : BitVec 8} (hw : w = bI v) (hz : z = nI j) (hj : j < n) (hdg : decode cc pc = .ok (.iastore, 1))
    (kk : ∀ (H1 : Heap) (locs1 : List Loc), fP x (sU S k i j v.toNat) H1 → fS x H0 H1 locs1 → W p l e R s m args below meth c H1 locs1 cells slots Q (F0 m (pc + 1) ls rest)) : W p l e R s m args below meth c H locs cells slots Q (F0 m pc ls (.int w :: .int z :: .ref a :: rest)) := by
  subst hz; subst hw
  have h1 := hP.2.2.2 _ _ ha.cell
  rw [show fc x S k i = _ from hf _] at h1
  have hc := f_clamp hj (f_len hP.1 (hf (mU S k i)))
  refine W.iast cx.1.1 cx.1.2.1 h1 ((cx.2.2 0 _ rfl).1 n (fun j => .int (bI (BitVec.ofNat 8 (mU S k i j))))) (fun q => by cases q) (by show ¬ (nI j < 0 ∨ (arrV _ _ _).slots.size ≤ _); rw [arrV_size]; exact hc.1) rfl rfl hdg fun H1 e z oq => ?_
  refine kk H1 _ (hP.set ha fc_sU rfl ?_ z oq) (hS0.put z oq (ha.lo hP.1))
  rw [show fc x (sU S k i j v.toNat) k i = .inl (xg x 0, n, .inl (fun q => bI (BitVec.ofNat 8 (va_up (mU S k i) j v.toNat q)))) by show fcr x k i _ _ _ _ (mU (sU S k i j v.toNat) k i) = _; rw [mU_row]; exact hf _]
  show H1[a]? = some (vp_cell _ _)
  rw [e, vp_cell_i, vp_cell_i, arrV_store, hc.2]
  congr 2
  funext q
  by_cases hq : q = j <;> simp [updV, va_up, hq]
theorem f_last (cx : fX own cc nL p c s m args x) (hP : fP x S H) (hS0 : fS x H0 H locs) (ha : fat x S a k i) {n : Nat} (hf : ∀ J, fcr x k i (mI S k i) J (mB S k i) (mA S k i) (mU S k i) = .inl (xg x 1, n, ja J)) {z : Int32} {v : Int64} {j : Nat} (hz : z = nI j) (hj : j < n) (hdg : decode cc pc = .ok (.lastore, 1))
    (kk : ∀ (H1 : Heap) (locs1 : List Loc), fP x (sJ S k i j v) H1 → fS x H0 H1 locs1 → W p l e R s m args below meth c H1 locs1 cells slots Q (F0 m (pc + 1) ls rest)) : W p l e R s m args below meth c H locs cells slots Q (F0 m pc ls (.long v :: .int z :: .ref a :: rest)) := by
  subst hz
  have h1 := hP.2.2.2 _ _ ha.cell
  rw [show fc x S k i = _ from hf _] at h1
  have hc := f_clamp hj (f_len hP.1 (hf (mJ S k i)))
  refine W.last cx.1.1 cx.1.2.1 h1 ((cx.2.2 1 _ rfl).1 n (fun j => .long (mJ S k i j))) (fun q => by cases q) (by show ¬ (nI j < 0 ∨ (arrV _ _ _).slots.size ≤ _); rw [arrV_size]; exact hc.1) rfl rfl hdg fun H1 e z oq => ?_
  refine kk H1 _ (hP.set ha fc_sJ rfl ?_ z oq) (hS0.put z oq (ha.lo hP.1))
  rw [show fc x (sJ S k i j v) k i = .inl (xg x 1, n, ja (va_up (mJ S k i) j v)) by show fcr x k i _ (mJ (sJ S k i j v) k i) _ _ _ = _; rw [mJ_row]; exact hf _]
  show H1[a]? = some (vp_cell _ _)
  rw [e, vp_cell_l, vp_cell_l, arrV_store, hc.2]
  congr 2
  funext q
  by_cases hq : q = j <;> simp [updV, va_up, hq]
theorem f_zast (cx : fX own cc nL p c s m args x) (hP : fP x S H) (hS0 : fS x H0 H locs) (ha : fat x S a k i) {n : Nat} (hf : ∀ B, fcr x k i (mI S k i) (mJ S k i) B (mA S k i) (mU S k i) = .inl (xg x 2, n, .inl (fun j => b2 (B j)))) {z w : Int32} {v : Bool} {j : Nat} (hw : w = b2 v) (hz : z = nI j) (hj : j < n) (hdg : decode cc pc = .ok (.bastore, 1))
    (kk : ∀ (H1 : Heap) (locs1 : List Loc), fP x (sB S k i j v) H1 → fS x H0 H1 locs1 → W p l e R s m args below meth c H1 locs1 cells slots Q (F0 m (pc + 1) ls rest)) : W p l e R s m args below meth c H locs cells slots Q (F0 m pc ls (.int w :: .int z :: .ref a :: rest)) := by
  subst hz; subst hw
  have h1 := hP.2.2.2 _ _ ha.cell
  rw [show fc x S k i = _ from hf _] at h1
  have hc := f_clamp hj (f_len hP.1 (hf (mB S k i)))
  refine W.zast cx.1.1 cx.1.2.1 h1 ((cx.2.2 2 _ rfl).1 n (fun j => .int (b2 (mB S k i j)))) (fun q => by cases q) (by show ¬ (nI j < 0 ∨ (arrV _ _ _).slots.size ≤ _); rw [arrV_size]; exact hc.1) rfl rfl hdg fun H1 e z oq => ?_
  refine kk H1 _ (hP.set ha fc_sB rfl ?_ z oq) (hS0.put z oq (ha.lo hP.1))
  rw [show fc x (sB S k i j v) k i = .inl (xg x 2, n, .inl (fun q => b2 (va_up (mB S k i) j v q))) by show fcr x k i _ _ (mB (sB S k i j v) k i) _ _ = _; rw [mB_row]; exact hf _]
  show H1[a]? = some (vp_cell _ _)
  rw [e, b2_nar, vp_cell_i, vp_cell_i, arrV_store, hc.2]
  congr 2
  funext q
  by_cases hq : q = j <;> simp [updV, va_up, hq]
/-- a letter is put into a row -/
theorem f_aast (cx : fX own cc nL p c s m args x) (hP : fP x S H) (hS0 : fS x H0 H locs) (ha : fat x S a k i) {n v : Nat} (hv : fvL x S v) (hf : ∀ A, fcr x k i (mI S k i) (mJ S k i) (mB S k i) A (mU S k i) = .inl (xg x 6, n, qa A)) {z : Int32} {j : Nat} (hz : z = nI j) (hj : j < n) (hdg : decode cc pc = .ok (.aastore, 1))
    (kk : ∀ (H1 : Heap) (locs1 : List Loc), fP x (sA S k i j (some v)) H1 → fS x H0 H1 locs1 → W p l e R s m args below meth c H1 locs1 cells slots Q (F0 m (pc + 1) ls rest)) : W p l e R s m args below meth c H locs cells slots Q (F0 m pc ls (.ref v :: .int z :: .ref a :: rest)) := by
  subst hz
  have h1 := hP.2.2.2 _ _ ha.cell
  rw [show fc x S k i = _ from hf _] at h1
  have hc := f_clamp hj (f_len hP.1 (hf (mA S k i)))
  obtain ⟨r', hr', cellV, g1, g2, g3, -⟩ := hP.2.2.2 _ _ hv.at.cell
  have hcls := (cx.2.1 2 _ rfl).2
  obtain ⟨kA, comp, k1, k2, k3, -⟩ := (cx.2.2 6 _ rfl).2
  have hcomp : comp = (xd x).1 2 := Option.some.inj (k3.symm.trans hcls.1)
  subst hcomp
  obtain ⟨kC, hkC, -⟩ := hcls.2
  refine W.aast cx.1.1 cx.1.2.1 h1 (fun q h => by cases h) (fun h => by cases h) k1 k2 rfl hkC ⟨fun q => hc.1 (Or.inl q), by show _ < (arrV _ _ _).slots.size; rw [arrV_size, hc.2]; exact hj⟩ g1 (fun q h => by rw [g3] at h; cases h) (by rw [g2]; exact hkC) (by rw [g2]; exact va_assign hcls) rfl rfl hdg fun H1 e z oq => ?_
  refine kk H1 _ (hP.set ha fc_sA rfl ?_ z oq) (hS0.put z oq (ha.lo hP.1))
  rw [show fc x (sA S k i j (some v)) k i = .inl (xg x 6, n, qa (va_up (mA S k i) j (some v))) by show fcr x k i _ _ _ (mA (sA S k i j (some v)) k i) _ = _; rw [mA_row]; exact hf _]
  show H1[a]? = some (vp_cell _ _)
  rw [e, vp_cell_q, vp_cell_q, arrV_store, hc.2]
  congr 2
  funext q
  by_cases hq : q = j <;> simp [updV, va_up, va_rf, hq]
theorem f_aastN (cx : fX own cc nL p c s m args x) (hP : fP x S H) (hS0 : fS x H0 H locs) (ha : fat x S a k i) {n : Nat} (hf : ∀ A, fcr x k i (mI S k i) (mJ S k i) (mB S k i) A (mU S k i) = .inl (xg x 6, n, qa A)) {z : Int32} {j : Nat} (hz : z = nI j) (hj : j < n) (hdg : decode cc pc = .ok (.aastore, 1))
    (kk : ∀ (H1 : Heap) (locs1 : List Loc), fP x (sA S k i j none) H1 → fS x H0 H1 locs1 → W p l e R s m args below meth c H1 locs1 cells slots Q (F0 m (pc + 1) ls rest)) : W p l e R s m args below meth c H locs cells slots Q (F0 m pc ls (.null :: .int z :: .ref a :: rest)) := by
  subst hz
  have h1 := hP.2.2.2 _ _ ha.cell
  rw [show fc x S k i = _ from hf _] at h1
  have hc := f_clamp hj (f_len hP.1 (hf (mA S k i)))
  refine va_WaastN (C := rn_L) cx.1.1 cx.1.2.1 h1 ((cx.2.2 6 _ rfl).1 n (fun j => va_rf (mA S k i j))) (fun h => by cases h) (by show ¬ (nI j < 0 ∨ (arrV _ _ _).slots.size ≤ _); rw [arrV_size]; exact hc.1) rfl rfl hdg fun H1 e z oq => ?_
  refine kk H1 _ (hP.set ha fc_sA rfl ?_ z oq) (hS0.put z oq (ha.lo hP.1))
  rw [show fc x (sA S k i j none) k i = .inl (xg x 6, n, qa (va_up (mA S k i) j none)) by show fcr x k i _ _ _ (mA (sA S k i j none) k i) _ = _; rw [mA_row]; exact hf _]
  show H1[a]? = some (vp_cell _ _)
  rw [e, vp_cell_q, vp_cell_q, arrV_store, hc.2]
  congr 2
  funext q
  by_cases hq : q = j <;> simp [updV, va_up, va_rf, hq]
theorem f_aastO (cx : fX own cc nL p c s m args x) (hP : fP x S H) (hS0 : fS x H0 H locs) (ha : fat x S a k i) {n : Nat} {v : Option Nat} (hv : ∀ b, v = some b → fvL x S b) (hf : ∀ A, fcr x k i (mI S k i) (mJ S k i) (mB S k i) A (mU S k i) = .inl (xg x 6, n, qa A)) {z : Int32} {j : Nat} (hz : z = nI j) (hj : j < n) (hdg : decode cc pc = .ok (.aastore, 1))
    (kk : ∀ (H1 : Heap) (locs1 : List Loc), fP x (sA S k i j v) H1 → fS x H0 H1 locs1 → W p l e R s m args below meth c H1 locs1 cells slots Q (F0 m (pc + 1) ls rest)) : W p l e R s m args below meth c H locs cells slots Q (F0 m pc ls (va_rf v :: .int z :: .ref a :: rest)) := by
  cases v with
  | none => exact f_aastN cx hP hS0 ha hf hz hj hdg kk
  | some b => exact f_aast cx hP hS0 ha (hv b rfl) hf hz hj hdg kk
-- names for the top of the stack
theorem f_eqS {T T' : fm} (h : fP x T H) (e : T = T') : fP x T' H := e ▸ h
theorem f_topi {z w : Int32} (h : z = w) (kk : W p l e R s m args below meth c H locs cells slots Q (F0 m pc ls (.int w :: rest))) : W p l e R s m args below meth c H locs cells slots Q (F0 m pc ls (.int z :: rest)) := by
  subst h; exact kk
theorem f_topl {z w : Int64} (h : z = w) (kk : W p l e R s m args below meth c H locs cells slots Q (F0 m pc ls (.long w :: rest))) : W p l e R s m args below meth c H locs cells slots Q (F0 m pc ls (.long z :: rest)) := by
  subst h; exact kk
theorem f_st {z w : List Value} (h : z = w) (kk : W p l e R s m args below meth c H locs cells slots Q (F0 m pc ls w)) : W p l e R s m args below meth c H locs cells slots Q (F0 m pc ls z) := by
  subst h; exact kk
theorem f_inc1 (a : Nat) : nI a + Int32.ofInt 1 = nI (a + 1) := nI_1 a
theorem f_pred {n : Nat} (h : 0 < n) : nI n - 1 = nI (n - 1) := by
  obtain ⟨k, rfl⟩ : ∃ k, n = k + 1 := ⟨n - 1, by omega⟩
  rw [nI_pred]; rfl
theorem f_dec1 (a : Nat) : nI (a + 1) + Int32.ofInt (-1) = nI a := pk_m1 a
-- branches on a boolean
theorem f_eqB (cx : fX own cc nL p c s m args x) {b : Bool} {off : Int} {tgt : Nat} (hdg : decode cc pc = .ok (.ifCond .eq off, 3)) (ht : (pc : Int) + off = (tgt : Int))
    (kt : b = false → W p l e R s m args below meth c H locs cells slots Q (F0 m tgt ls rest)) (kf : b = true → W p l e R s m args below meth c H locs cells slots Q (F0 m (pc + 3) ls rest)) : W p l e R s m args below meth c H locs cells slots Q (F0 m pc ls (.int (b2 b) :: rest)) :=
  lv_if_eq cx.1.1 cx.1.2.1 hdg ht (fun h => kt ((b2_0 b).mp h)) (fun h => kf (by cases b with | true => rfl | false => exact absurd rfl h))
theorem f_neB (cx : fX own cc nL p c s m args x) {b : Bool} {off : Int} {tgt : Nat} (hdg : decode cc pc = .ok (.ifCond .ne off, 3)) (ht : (pc : Int) + off = (tgt : Int))
    (kt : b = true → W p l e R s m args below meth c H locs cells slots Q (F0 m tgt ls rest)) (kf : b = false → W p l e R s m args below meth c H locs cells slots Q (F0 m (pc + 3) ls rest)) : W p l e R s m args below meth c H locs cells slots Q (F0 m pc ls (.int (b2 b) :: rest)) :=
  lv_if_ne cx.1.1 cx.1.2.1 hdg ht (fun h => kt (by cases b with | true => rfl | false => exact absurd rfl h)) (fun h => kf ((b2_0 b).mp h))
-- calls
theorem f_preS {av : List Value} (hP : fP x S H) (hK : va_K (xd x) cls_all (xt x) s) : PreS s H (fPc x S av) av :=
  ⟨fun a U g mk q => ⟨q.1, q.2.1, va_K.moved (u := U) (U := U.calling g mk a) (Vm.Alike.refl U.vm) q.2.2⟩, fun U hU hW => ⟨rfl, by rw [hU]; exact hP, va_K.moved hW.alike hK⟩⟩
theorem f_preV {As : List Value} {ci : Nat} {q : vw_C} {fs : List Value} (hP : fP x S H) (hK : va_K (xd x) cls_all (xt x) s) (ha : fat x S a k i) (hf : fc x S k i = .inr (ci, fs)) (hc : cls_all[ci]? = some q) : PreV s H q.1 a (fPc x S (.ref a :: As)) As := by
  have h1 := hP.one ha
  rw [hf] at h1
  exact ⟨(f_preS (av := .ref a :: As) hP hK).1, va_recv (q0 := 0) hK h1 hc rfl, (f_preS (av := .ref a :: As) hP hK).2⟩
theorem f_runV {y : MethodName} {bytes : ByteArray} {maxL mc ms n index ci : Nat} {ret : Option FieldType} {rm : Room} {Qc : Array Value → State → Outcome → State → Prop} {free : Addr → Prop} {As : List Value} {q : vw_C} {fs : List Value} {lv : List (Nat × Value)} (w1 : Cond.code y bytes maxL ret ∈ gw_tbl) (w2 : Cond.methodLink own index y ∈ gw_tbl) (w3 : Cond.instanceMethod y ∈ gw_tbl) (w4 : Cond.selects q.1 y y ∈ gw_tbl) (w5 : Cond.initialized y.cls ∈ gw_tbl) (hd : y.cls ≠ "java/lang/invoke/MethodHandle" ∧ y.cls ≠ "java/lang/invoke/VarHandle" ∧ (parseMethodDescriptor y.desc).map (fun d => d.parameters.length) = some n) (hn : As.length = n) (hc : cls_all[ci]? = some q)
    (cx : fX own cc nL p c s m args x) (hl : lv_has ls nL lv) (hP : fP x S H) (ha : fat x S a k i) (hf : fc x S k i = .inr (ci, fs)) (hM : Met l y (gw_ws y bytes maxL ret) rm (fPc x S (.ref a :: As)) Qc mc ms free) (hrc : rm.cells = mc) (hrs : rm.slots = ms) (hR : rm.frames + 1 ≤ R.frames ∧ 8 + (maxL + 11) + rm.locals ≤ R.locals) (hcs : cells + mc ≤ R.cells ∧ slots + ms ≤ R.slots) (hst : (rest.map fun v => v.category).sum ≤ 8) (hdg : decode cc pc = .ok (.invokevirtual index, 3)) :
    va_Run p l e R s m args below meth c H locs cells slots mc ms (F0 m pc ls (As.reverse ++ .ref a :: rest)) rest (Qc (Value.ref a :: As).toArray) free :=
  va_runV (C := q.1) cx.1 hM ⟨callB_of n cx.1.2.2.2.2 (gw_all w1) rfl hrc hrs (cx.1.2.2.2.2 _ w5) (cx.1.2.2.2.2 _ w2) hd hR, cx.1.2.2.2.2 _ w3, cx.1.2.2.2.2 _ w4⟩ (f_preV hP cx.2 ha hf hc) rfl hn hl.1 rfl (lv_room hst) hdg hcs
theorem f_runS {y : MethodName} {bytes : ByteArray} {maxL mc ms n index : Nat} {ret : Option FieldType} {rm : Room} {Qc : Array Value → State → Outcome → State → Prop} {free : Addr → Prop} {As : List Value} {lv : List (Nat × Value)} (w1 : Cond.code y bytes maxL ret ∈ gw_tbl) (w2 : Cond.methodLink own index y ∈ gw_tbl) (w3 : Cond.static y ∈ gw_tbl) (w5 : Cond.initialized y.cls ∈ gw_tbl) (hd : y.cls ≠ "java/lang/invoke/MethodHandle" ∧ y.cls ≠ "java/lang/invoke/VarHandle" ∧ (parseMethodDescriptor y.desc).map (fun d => d.parameters.length) = some n) (hn : As.length = n)
    (cx : fX own cc nL p c s m args x) (hl : lv_has ls nL lv) (hP : fP x S H) (hM : Met l y (gw_ws y bytes maxL ret) rm (fPc x S As) Qc mc ms free) (hrc : rm.cells = mc) (hrs : rm.slots = ms) (hR : rm.frames + 1 ≤ R.frames ∧ 8 + (maxL + 11) + rm.locals ≤ R.locals) (hcs : cells + mc ≤ R.cells ∧ slots + ms ≤ R.slots) (hst : (rest.map fun v => v.category).sum ≤ 8) (hdg : decode cc pc = .ok (.invokestatic index, 3)) :
    va_Run p l e R s m args below meth c H locs cells slots mc ms (F0 m pc ls (As.reverse ++ rest)) rest (Qc As.toArray) free :=
  va_runS cx.1 hM ⟨callB_of n cx.1.2.2.2.2 (gw_all w1) rfl hrc hrs (cx.1.2.2.2.2 _ w5) (cx.1.2.2.2.2 _ w2) hd hR, cx.1.2.2.2.2 _ w3⟩ (f_preS hP cx.2) rfl hn hl.1 rfl (lv_room hst) hdg hcs
theorem f_runI {y : MethodName} {bytes : ByteArray} {maxL mc ms n index : Nat} {rm : Room} {Qc : Array Value → State → Outcome → State → Prop} {free : Addr → Prop} {As : List Value} {lv : List (Nat × Value)} (w1 : Cond.code y bytes maxL none ∈ gw_tbl) (w2 : Cond.methodLink own index y ∈ gw_tbl) (w3 : Cond.instanceMethod y ∈ gw_tbl) (w5 : Cond.initialized y.cls ∈ gw_tbl) (hy : y.name = "<init>") (hd : y.cls ≠ "java/lang/invoke/MethodHandle" ∧ y.cls ≠ "java/lang/invoke/VarHandle" ∧ (parseMethodDescriptor y.desc).map (fun d => d.parameters.length) = some n) (hn : As.length = n)
    (cx : fX own cc nL p c s m args x) (hl : lv_has ls nL lv) (hP : fP x S H) (hM : Met l y (gw_ws y bytes maxL none) rm (fPc x S (.ref a :: As)) Qc mc ms free) (hrc : rm.cells = mc) (hrs : rm.slots = ms) (hR : rm.frames + 1 ≤ R.frames ∧ 8 + (maxL + 11) + rm.locals ≤ R.locals) (hcs : cells + mc ≤ R.cells ∧ slots + ms ≤ R.slots) (hst : (rest.map fun v => v.category).sum ≤ 8) (hdg : decode cc pc = .ok (.invokespecial index, 3)) :
    va_Run p l e R s m args below meth c H locs cells slots mc ms (F0 m pc ls (As.reverse ++ .ref a :: rest)) rest (Qc (Value.ref a :: As).toArray) free :=
  va_runI cx.1 hM ⟨callB_of n cx.1.2.2.2.2 (gw_all w1) rfl hrc hrs (cx.1.2.2.2.2 _ w5) (cx.1.2.2.2.2 _ w2) hd hR, hy, cx.1.2.2.2.2 _ w3⟩ (f_preS hP cx.2) rfl hn hl.1 rfl (lv_room hst) hdg hcs
theorem f_calli {S' : fm} {r : Int32} {st0 : List Value} {av : Array Value} {mc ms : Nat} (hr : va_Run p l e R s m args below meth c H locs cells slots mc ms (F0 m pc ls st0) rest (fQi x S' r av) (fun q => xs x ≤ q)) (hS : fS x H0 H locs)
    (kk : ∀ (H1 : Heap) (locs1 : List Loc), fP x S' H1 → fS x H0 H1 locs1 → W p l e R s m args below meth c H1 locs1 (cells + mc) (slots + ms) Q (F0 m (pc + 3) ls (.int r :: rest))) : W p l e R s m args below meth c H locs cells slots Q (F0 m pc ls st0) :=
  va_calli hr hS (fun _ _ h => h) (fun _ h => h) (fun v _ t H1 locs1 ht _ hp hB _ _ hS' => by subst hp; exact kk H1 locs1 (by rw [← ht]; exact hB) hS')
theorem f_calll {S' : fm} {r : Int64} {st0 : List Value} {av : Array Value} {mc ms : Nat} (hr : va_Run p l e R s m args below meth c H locs cells slots mc ms (F0 m pc ls st0) rest (fQl x S' r av) (fun q => xs x ≤ q)) (hS : fS x H0 H locs)
    (kk : ∀ (H1 : Heap) (locs1 : List Loc), fP x S' H1 → fS x H0 H1 locs1 → W p l e R s m args below meth c H1 locs1 (cells + mc) (slots + ms) Q (F0 m (pc + 3) ls (.long r :: rest))) : W p l e R s m args below meth c H locs cells slots Q (F0 m pc ls st0) :=
  va_calll hr hS (fun _ _ h => h) (fun _ h => h) (fun v _ t H1 locs1 ht _ hp hB _ _ hS' => by subst hp; exact kk H1 locs1 (by rw [← ht]; exact hB) hS')
theorem f_callv {S' : fm} {st0 : List Value} {av : Array Value} {mc ms : Nat} (hr : va_Run p l e R s m args below meth c H locs cells slots mc ms (F0 m pc ls st0) rest (fQv x S' av) (fun q => xs x ≤ q)) (hS : fS x H0 H locs)
    (kk : ∀ (H1 : Heap) (locs1 : List Loc), fP x S' H1 → fS x H0 H1 locs1 → W p l e R s m args below meth c H1 locs1 (cells + mc) (slots + ms) Q (F0 m (pc + 3) ls rest)) : W p l e R s m args below meth c H locs cells slots Q (F0 m pc ls st0) :=
  va_callv hr hS (fun _ _ h => h) (fun _ h => h) (fun _ t H1 locs1 ht _ _ hB _ _ hS' => kk H1 locs1 (by rw [← ht]; exact hB) hS')
theorem f_callq {S' : fm} {r : Option Nat} {st0 : List Value} {av : Array Value} {mc ms : Nat} (hr : va_Run p l e R s m args below meth c H locs cells slots mc ms (F0 m pc ls st0) rest (fQq x S' r av) (fun q => xs x ≤ q)) (hS : fS x H0 H locs)
    (kk : ∀ (H1 : Heap) (locs1 : List Loc), fP x S' H1 → fS x H0 H1 locs1 → W p l e R s m args below meth c H1 locs1 (cells + mc) (slots + ms) Q (F0 m (pc + 3) ls (va_rf r :: rest))) : W p l e R s m args below meth c H locs cells slots Q (F0 m pc ls st0) :=
  va_callq hr hS (fun _ _ h => h) (fun _ h => h) (fun v _ t H1 locs1 ht _ hp hB _ _ hS' => by subst hp; exact kk H1 locs1 (by rw [← ht]; exact hB) hS')
-- returns
theorem f_iret {S1 S' : fm} {v r : Int32} (cx : fX own cc nL p c s m args x) (hr : meth.sig.returnType = some .int) (hlocks : meth.locks = false) (hP : fP x S1 H) (hS : fS x s.heap H locs) (h1 : v = r) (h2 : S1 = S') (hdg : decode cc pc = .ok (.ireturn, 1)) :
    W p l e R s m args below meth c H locs cells slots (MQ below (fQi x S' r) args s cells slots (fun q => xs x ≤ q)) (F0 m pc ls [.int v]) := by
  subst h1; subst h2
  exact W.iret cx.1.1 cx.1.2.1 hr (fun t ht hW => ⟨⟨_, (), rfl, rfl, by show fP x _ t.heap; rw [ht]; exact hP⟩, hS.F ht⟩) hS.2.2 hdg
theorem f_zret {S1 S' : fm} {v : Int32} {r : Bool} (cx : fX own cc nL p c s m args x) (hr : meth.sig.returnType = some .boolean) (hlocks : meth.locks = false) (hP : fP x S1 H) (hS : fS x s.heap H locs) (h1 : v = b2 r) (h2 : S1 = S') (hdg : decode cc pc = .ok (.ireturn, 1)) :
    W p l e R s m args below meth c H locs cells slots (MQ below (fQi x S' (b2 r)) args s cells slots (fun q => xs x ≤ q)) (F0 m pc ls [.int v]) := by
  subst h1; subst h2
  exact W.zret cx.1.1 cx.1.2.1 hr (b2_nar r) (fun t ht hW => ⟨⟨_, (), rfl, rfl, by show fP x _ t.heap; rw [ht]; exact hP⟩, hS.F ht⟩) hS.2.2 hdg
theorem f_lret {S1 S' : fm} {v r : Int64} (cx : fX own cc nL p c s m args x) (hr : meth.sig.returnType = some .long) (hlocks : meth.locks = false) (hP : fP x S1 H) (hS : fS x s.heap H locs) (h1 : v = r) (h2 : S1 = S') (hdg : decode cc pc = .ok (.lreturn, 1)) :
    W p l e R s m args below meth c H locs cells slots (MQ below (fQl x S' r) args s cells slots (fun q => xs x ≤ q)) (F0 m pc ls [.long v]) := by
  subst h1; subst h2
  exact W.lret cx.1.1 cx.1.2.1 hr (fun t ht hW => ⟨⟨_, (), rfl, rfl, by show fP x _ t.heap; rw [ht]; exact hP⟩, hS.F ht⟩) hS.2.2 hdg
theorem f_vret {S1 S' : fm} (cx : fX own cc nL p c s m args x) (hr : meth.sig.returnType = none) (hlocks : meth.locks = false) (hP : fP x S1 H) (hS : fS x s.heap H locs) (h2 : S1 = S') (hdg : decode cc pc = .ok (.return_, 1)) :
    W p l e R s m args below meth c H locs cells slots (MQ below (fQv x S') args s cells slots (fun q => xs x ≤ q)) (F0 m pc ls []) := by
  subst h2
  exact W.vret cx.1.1 cx.1.2.1 hr (fun t ht hW => ⟨⟨(), rfl, trivial, by show fP x _ t.heap; rw [ht]; exact hP⟩, hS.F ht⟩) hS.2.2 hdg
theorem f_qret {S1 S' : fm} {v : Value} {r : Option Nat} {C : String} (cx : fX own cc nL p c s m args x) (hr : meth.sig.returnType = some (.object C)) (hlocks : meth.locks = false) (hP : fP x S1 H) (hS : fS x s.heap H locs) (h1 : v = va_rf r) (h2 : S1 = S') (hdg : decode cc pc = .ok (.areturn, 1)) :
    W p l e R s m args below meth c H locs cells slots (MQ below (fQq x S' r) args s cells slots (fun q => xs x ≤ q)) (F0 m pc ls [v]) := by
  subst h1; subst h2
  exact W.aret cx.1.1 cx.1.2.1 hr (Or.inl ⟨C, rfl⟩) (by cases r with | none => exact Or.inl rfl | some b => exact Or.inr ⟨b, rfl⟩) (fun t ht hW => ⟨⟨_, (), rfl, rfl, by show fP x _ t.heap; rw [ht]; exact hP⟩, hS.F ht⟩) hS.2.2 hdg
end FR
end
section
-- printed by wip/whole/gen/fields.py: a row for each field that is read or written
section FF
variable {p : Program} {l : Launch} {e : Env} {R : Room} {s : State} {m : MethodId} {args : Array Value} {below : List Frame} {meth : Method} {c : Code} {H : Heap} {locs : List Loc} {cells slots : Nat} {Q : State → Prop}
variable {cc : ByteArray} {pc : Nat} {ls : Array Slot} {rest : List Value} {nL : Nat} {x : fy} {S : fm} {a i : Nat} {H0 : Heap}
theorem g_C_C_beginning (cx : fX rn_C cc nL p c s m args x) (hP : fP x S H) (hv : fv x 7 i) (hd : decode cc pc = .ok (.getfield 30, 3)) (kk : W p l e R s m args below meth c H locs cells slots Q (F0 m (pc + 3) ls (.int (mI S 7 i 6) :: rest))) : W p l e R s m args below meth c H locs cells slots Q (F0 m pc ls (.ref (xa x 7 i) :: rest)) := f_get cx hP (hv.at S) rfl rfl wf_C 6 (by decide) fl_C_C_beginning (fun _ h => h) rfl hd kk
theorem g_C_C_crashed (cx : fX rn_C cc nL p c s m args x) (hP : fP x S H) (hv : fv x 7 i) (hd : decode cc pc = .ok (.getfield 26, 3)) (kk : W p l e R s m args below meth c H locs cells slots Q (F0 m (pc + 3) ls (.int (b2 (mB S 7 i 4)) :: rest))) : W p l e R s m args below meth c H locs cells slots Q (F0 m pc ls (.ref (xa x 7 i) :: rest)) := f_get cx hP (hv.at S) rfl rfl wf_C 4 (by decide) fl_C_C_crashed (fun _ h => h) rfl hd kk
theorem g_C_C_finished (cx : fX rn_C cc nL p c s m args x) (hP : fP x S H) (hv : fv x 7 i) (hd : decode cc pc = .ok (.getfield 65, 3)) (kk : W p l e R s m args below meth c H locs cells slots Q (F0 m (pc + 3) ls (.int (mI S 7 i 12) :: rest))) : W p l e R s m args below meth c H locs cells slots Q (F0 m pc ls (.ref (xa x 7 i) :: rest)) := f_get cx hP (hv.at S) rfl rfl wf_C 12 (by decide) fl_C_C_finished (fun _ h => h) rfl hd kk
theorem g_C_C_fragmentCount (cx : fX rn_C cc nL p c s m args x) (hP : fP x S H) (hv : fv x 7 i) (hd : decode cc pc = .ok (.getfield 39, 3)) (kk : W p l e R s m args below meth c H locs cells slots Q (F0 m (pc + 3) ls (.int (nI (mU S 7 i 3)) :: rest))) : W p l e R s m args below meth c H locs cells slots Q (F0 m pc ls (.ref (xa x 7 i) :: rest)) := f_get cx hP (hv.at S) rfl rfl wf_C 3 (by decide) fl_C_C_fragmentCount (fun _ h => h) rfl hd kk
theorem g_C_C_fragments (cx : fX rn_C cc nL p c s m args x) (hP : fP x S H) (hv : fv x 7 i) (hd : decode cc pc = .ok (.getfield 22, 3)) (kk : W p l e R s m args below meth c H locs cells slots Q (F0 m (pc + 3) ls (.ref (xa x 9 i) :: rest))) : W p l e R s m args below meth c H locs cells slots Q (F0 m pc ls (.ref (xa x 7 i) :: rest)) := f_get cx hP (hv.at S) rfl rfl wf_C 2 (by decide) fl_C_C_fragments (fun _ h => h) rfl hd kk
theorem g_C_C_heard (cx : fX rn_C cc nL p c s m args x) (hP : fP x S H) (hv : fv x 7 i) (hd : decode cc pc = .ok (.getfield 33, 3)) (kk : W p l e R s m args below meth c H locs cells slots Q (F0 m (pc + 3) ls (.int (mI S 7 i 7) :: rest))) : W p l e R s m args below meth c H locs cells slots Q (F0 m pc ls (.ref (xa x 7 i) :: rest)) := f_get cx hP (hv.at S) rfl rfl wf_C 7 (by decide) fl_C_C_heard (fun _ h => h) rfl hd kk
theorem g_C_C_highestSeal (cx : fX rn_C cc nL p c s m args x) (hP : fP x S H) (hv : fv x 7 i) (hd : decode cc pc = .ok (.getfield 36, 3)) (kk : W p l e R s m args below meth c H locs cells slots Q (F0 m (pc + 3) ls (.int (mI S 7 i 8) :: rest))) : W p l e R s m args below meth c H locs cells slots Q (F0 m pc ls (.ref (xa x 7 i) :: rest)) := f_get cx hP (hv.at S) rfl rfl wf_C 8 (by decide) fl_C_C_highestSeal (fun _ h => h) rfl hd kk
theorem g_C_C_phase (cx : fX rn_C cc nL p c s m args x) (hP : fP x S H) (hv : fv x 7 i) (hd : decode cc pc = .ok (.getfield 9, 3)) (kk : W p l e R s m args below meth c H locs cells slots Q (F0 m (pc + 3) ls (.int (mI S 7 i 5) :: rest))) : W p l e R s m args below meth c H locs cells slots Q (F0 m pc ls (.ref (xa x 7 i) :: rest)) := f_get cx hP (hv.at S) rfl rfl wf_C 5 (by decide) fl_C_C_phase (fun _ h => h) rfl hd kk
theorem g_C_C_sources (cx : fX rn_C cc nL p c s m args x) (hP : fP x S H) (hv : fv x 7 i) (hd : decode cc pc = .ok (.getfield 18, 3)) (kk : W p l e R s m args below meth c H locs cells slots Q (F0 m (pc + 3) ls (.ref (xa x 8 i) :: rest))) : W p l e R s m args below meth c H locs cells slots Q (F0 m pc ls (.ref (xa x 7 i) :: rest)) := f_get cx hP (hv.at S) rfl rfl wf_C 1 (by decide) fl_C_C_sources (fun _ h => h) rfl hd kk
theorem g_C_L_bearsFragment (cx : fX rn_C cc nL p c s m args x) (hP : fP x S H) (hv : fvL x S a) (hd : decode cc pc = .ok (.getfield 58, 3)) (kk : W p l e R s m args below meth c H locs cells slots Q (F0 m (pc + 3) ls (.int (b2 (mB S 15 a 5)) :: rest))) : W p l e R s m args below meth c H locs cells slots Q (F0 m pc ls (.ref a :: rest)) := f_get cx hP hv.at rfl rfl wf_L 5 (by decide) fl_C_L_bearsFragment (fun _ h => h) rfl hd kk
theorem g_C_L_beginning (cx : fX rn_C cc nL p c s m args x) (hP : fP x S H) (hv : fvL x S a) (hd : decode cc pc = .ok (.getfield 46, 3)) (kk : W p l e R s m args below meth c H locs cells slots Q (F0 m (pc + 3) ls (.int (mI S 15 a 1) :: rest))) : W p l e R s m args below meth c H locs cells slots Q (F0 m pc ls (.ref a :: rest)) := f_get cx hP hv.at rfl rfl wf_L 1 (by decide) fl_C_L_beginning (fun _ h => h) rfl hd kk
theorem g_C_L_fragment (cx : fX rn_C cc nL p c s m args x) (hP : fP x S H) (hv : fvL x S a) (hd : decode cc pc = .ok (.getfield 61, 3)) (kk : W p l e R s m args below meth c H locs cells slots Q (F0 m (pc + 3) ls (.long (mJ S 15 a 3) :: rest))) : W p l e R s m args below meth c H locs cells slots Q (F0 m pc ls (.ref a :: rest)) := f_get cx hP hv.at rfl rfl wf_L 3 (by decide) fl_C_L_fragment (fun _ h => h) rfl hd kk
theorem g_C_L_seal (cx : fX rn_C cc nL p c s m args x) (hP : fP x S H) (hv : fvL x S a) (hd : decode cc pc = .ok (.getfield 49, 3)) (kk : W p l e R s m args below meth c H locs cells slots Q (F0 m (pc + 3) ls (.int (mI S 15 a 4) :: rest))) : W p l e R s m args below meth c H locs cells slots Q (F0 m pc ls (.ref a :: rest)) := f_get cx hP hv.at rfl rfl wf_L 4 (by decide) fl_C_L_seal (fun _ h => h) rfl hd kk
theorem g_K_K_column (cx : fX rn_K cc nL p c s m args x) (hP : fP x S H) (hv : fv x 1 0) (hd : decode cc pc = .ok (.getfield 18, 3)) (kk : W p l e R s m args below meth c H locs cells slots Q (F0 m (pc + 3) ls (.ref (xa x 2 0) :: rest))) : W p l e R s m args below meth c H locs cells slots Q (F0 m pc ls (.ref (xa x 1 0) :: rest)) := f_get cx hP (hv.at S) rfl rfl wf_K 2 (by decide) fl_K_K_column (fun _ h => h) rfl hd kk
theorem g_K_K_length (cx : fX rn_K cc nL p c s m args x) (hP : fP x S H) (hv : fv x 1 0) (hd : decode cc pc = .ok (.getfield 15, 3)) (kk : W p l e R s m args below meth c H locs cells slots Q (F0 m (pc + 3) ls (.int (nI (xR x)) :: rest))) : W p l e R s m args below meth c H locs cells slots Q (F0 m pc ls (.ref (xa x 1 0) :: rest)) := f_get cx hP (hv.at S) rfl rfl wf_K 1 (by decide) fl_K_K_length (fun _ h => h) rfl hd kk
theorem g_K_K_needed (cx : fX rn_K cc nL p c s m args x) (hP : fP x S H) (hv : fv x 1 0) (hd : decode cc pc = .ok (.getfield 9, 3)) (kk : W p l e R s m args below meth c H locs cells slots Q (F0 m (pc + 3) ls (.int (nI (xK x)) :: rest))) : W p l e R s m args below meth c H locs cells slots Q (F0 m pc ls (.ref (xa x 1 0) :: rest)) := f_get cx hP (hv.at S) rfl rfl wf_K 0 (by decide) fl_K_K_needed (fun _ h => h) rfl hd kk
theorem g_M_M_age (cx : fX rn_M cc nL p c s m args x) (hP : fP x S H) (hv : fv x 16 0) (hd : decode cc pc = .ok (.getfield 13, 3)) (kk : W p l e R s m args below meth c H locs cells slots Q (F0 m (pc + 3) ls (.ref (xa x 24 0) :: rest))) : W p l e R s m args below meth c H locs cells slots Q (F0 m pc ls (.ref (xa x 16 0) :: rest)) := f_get cx hP (hv.at S) rfl rfl wf_M 4 (by decide) fl_M_M_age (fun _ h => h) rfl hd kk
theorem g_M_M_bearing (cx : fX rn_M cc nL p c s m args x) (hP : fP x S H) (hv : fv x 16 0) (hd : decode cc pc = .ok (.getfield 19, 3)) (kk : W p l e R s m args below meth c H locs cells slots Q (F0 m (pc + 3) ls (.ref (xa x 26 0) :: rest))) : W p l e R s m args below meth c H locs cells slots Q (F0 m pc ls (.ref (xa x 16 0) :: rest)) := f_get cx hP (hv.at S) rfl rfl wf_M 6 (by decide) fl_M_M_bearing (fun _ h => h) rfl hd kk
theorem g_M_M_best (cx : fX rn_M cc nL p c s m args x) (hP : fP x S H) (hv : fv x 16 0) (hd : decode cc pc = .ok (.getfield 22, 3)) (kk : W p l e R s m args below meth c H locs cells slots Q (F0 m (pc + 3) ls (.ref (xa x 27 0) :: rest))) : W p l e R s m args below meth c H locs cells slots Q (F0 m pc ls (.ref (xa x 16 0) :: rest)) := f_get cx hP (hv.at S) rfl rfl wf_M 7 (by decide) fl_M_M_best (fun _ h => h) rfl hd kk
theorem g_M_M_block (cx : fX rn_M cc nL p c s m args x) (hP : fP x S H) (hv : fv x 16 0) (hd : decode cc pc = .ok (.getfield 31, 3)) (kk : W p l e R s m args below meth c H locs cells slots Q (F0 m (pc + 3) ls (.ref (xa x 30 0) :: rest))) : W p l e R s m args below meth c H locs cells slots Q (F0 m pc ls (.ref (xa x 16 0) :: rest)) := f_get cx hP (hv.at S) rfl rfl wf_M 10 (by decide) fl_M_M_block (fun _ h => h) rfl hd kk
theorem g_M_M_client (cx : fX rn_M cc nL p c s m args x) (hP : fP x S H) (hv : fv x 16 0) (hd : decode cc pc = .ok (.getfield 63, 3)) (kk : W p l e R s m args below meth c H locs cells slots Q (F0 m (pc + 3) ls (.ref (xa x 41 0) :: rest))) : W p l e R s m args below meth c H locs cells slots Q (F0 m pc ls (.ref (xa x 16 0) :: rest)) := f_get cx hP (hv.at S) rfl rfl wf_M 21 (by decide) fl_M_M_client (fun _ h => h) rfl hd kk
theorem g_M_M_counted (cx : fX rn_M cc nL p c s m args x) (hP : fP x S H) (hv : fv x 16 0) (hd : decode cc pc = .ok (.getfield 16, 3)) (kk : W p l e R s m args below meth c H locs cells slots Q (F0 m (pc + 3) ls (.ref (xa x 25 0) :: rest))) : W p l e R s m args below meth c H locs cells slots Q (F0 m pc ls (.ref (xa x 16 0) :: rest)) := f_get cx hP (hv.at S) rfl rfl wf_M 5 (by decide) fl_M_M_counted (fun _ h => h) rfl hd kk
theorem g_M_M_d (cx : fX rn_M cc nL p c s m args x) (hP : fP x S H) (hv : fv x 16 0) (hd : decode cc pc = .ok (.getfield 88, 3)) (kk : W p l e R s m args below meth c H locs cells slots Q (F0 m (pc + 3) ls (.int (nI (xD x)) :: rest))) : W p l e R s m args below meth c H locs cells slots Q (F0 m pc ls (.ref (xa x 16 0) :: rest)) := f_get cx hP (hv.at S) rfl rfl wf_M 2 (by decide) fl_M_M_d (fun _ h => h) rfl hd kk
theorem g_M_M_down (cx : fX rn_M cc nL p c s m args x) (hP : fP x S H) (hv : fv x 16 0) (hd : decode cc pc = .ok (.getfield 41, 3)) (kk : W p l e R s m args below meth c H locs cells slots Q (F0 m (pc + 3) ls (.ref (xa x 33 0) :: rest))) : W p l e R s m args below meth c H locs cells slots Q (F0 m pc ls (.ref (xa x 16 0) :: rest)) := f_get cx hP (hv.at S) rfl rfl wf_M 13 (by decide) fl_M_M_down (fun _ h => h) rfl hd kk
theorem g_M_M_ends (cx : fX rn_M cc nL p c s m args x) (hP : fP x S H) (hv : fv x 16 0) (hd : decode cc pc = .ok (.getfield 28, 3)) (kk : W p l e R s m args below meth c H locs cells slots Q (F0 m (pc + 3) ls (.ref (xa x 29 0) :: rest))) : W p l e R s m args below meth c H locs cells slots Q (F0 m pc ls (.ref (xa x 16 0) :: rest)) := f_get cx hP (hv.at S) rfl rfl wf_M 9 (by decide) fl_M_M_ends (fun _ h => h) rfl hd kk
theorem g_M_M_full (cx : fX rn_M cc nL p c s m args x) (hP : fP x S H) (hv : fv x 16 0) (hd : decode cc pc = .ok (.getfield 60, 3)) (kk : W p l e R s m args below meth c H locs cells slots Q (F0 m (pc + 3) ls (.ref (xa x 40 0) :: rest))) : W p l e R s m args below meth c H locs cells slots Q (F0 m pc ls (.ref (xa x 16 0) :: rest)) := f_get cx hP (hv.at S) rfl rfl wf_M 20 (by decide) fl_M_M_full (fun _ h => h) rfl hd kk
theorem g_M_M_hasBlock (cx : fX rn_M cc nL p c s m args x) (hP : fP x S H) (hv : fv x 16 0) (hd : decode cc pc = .ok (.getfield 54, 3)) (kk : W p l e R s m args below meth c H locs cells slots Q (F0 m (pc + 3) ls (.ref (xa x 37 0) :: rest))) : W p l e R s m args below meth c H locs cells slots Q (F0 m pc ls (.ref (xa x 16 0) :: rest)) := f_get cx hP (hv.at S) rfl rfl wf_M 17 (by decide) fl_M_M_hasBlock (fun _ h => h) rfl hd kk
theorem g_M_M_hasTag (cx : fX rn_M cc nL p c s m args x) (hP : fP x S H) (hv : fv x 16 0) (hd : decode cc pc = .ok (.getfield 51, 3)) (kk : W p l e R s m args below meth c H locs cells slots Q (F0 m (pc + 3) ls (.ref (xa x 36 0) :: rest))) : W p l e R s m args below meth c H locs cells slots Q (F0 m pc ls (.ref (xa x 16 0) :: rest)) := f_get cx hP (hv.at S) rfl rfl wf_M 16 (by decide) fl_M_M_hasTag (fun _ h => h) rfl hd kk
theorem g_M_M_k (cx : fX rn_M cc nL p c s m args x) (hP : fP x S H) (hv : fv x 16 0) (hd : decode cc pc = .ok (.getfield 85, 3)) (kk : W p l e R s m args below meth c H locs cells slots Q (F0 m (pc + 3) ls (.int (nI (xK x)) :: rest))) : W p l e R s m args below meth c H locs cells slots Q (F0 m pc ls (.ref (xa x 16 0) :: rest)) := f_get cx hP (hv.at S) rfl rfl wf_M 1 (by decide) fl_M_M_k (fun _ h => h) rfl hd kk
theorem g_M_M_kind (cx : fX rn_M cc nL p c s m args x) (hP : fP x S H) (hv : fv x 16 0) (hd : decode cc pc = .ok (.getfield 72, 3)) (kk : W p l e R s m args below meth c H locs cells slots Q (F0 m (pc + 3) ls (.ref (xa x 44 0) :: rest))) : W p l e R s m args below meth c H locs cells slots Q (F0 m pc ls (.ref (xa x 16 0) :: rest)) := f_get cx hP (hv.at S) rfl rfl wf_M 24 (by decide) fl_M_M_kind (fun _ h => h) rfl hd kk
theorem g_M_M_letters (cx : fX rn_M cc nL p c s m args x) (hP : fP x S H) (hv : fv x 16 0) (hd : decode cc pc = .ok (.getfield 91, 3)) (kk : W p l e R s m args below meth c H locs cells slots Q (F0 m (pc + 3) ls (.int (nI (mU S 16 0 18)) :: rest))) : W p l e R s m args below meth c H locs cells slots Q (F0 m pc ls (.ref (xa x 16 0) :: rest)) := f_get cx hP (hv.at S) rfl rfl wf_M 18 (by decide) fl_M_M_letters (fun _ h => h) rfl hd kk
theorem g_M_M_load (cx : fX rn_M cc nL p c s m args x) (hP : fP x S H) (hv : fv x 16 0) (hd : decode cc pc = .ok (.getfield 78, 3)) (kk : W p l e R s m args below meth c H locs cells slots Q (F0 m (pc + 3) ls (.ref (xa x 46 0) :: rest))) : W p l e R s m args below meth c H locs cells slots Q (F0 m pc ls (.ref (xa x 16 0) :: rest)) := f_get cx hP (hv.at S) rfl rfl wf_M 26 (by decide) fl_M_M_load (fun _ h => h) rfl hd kk
theorem g_M_M_many (cx : fX rn_M cc nL p c s m args x) (hP : fP x S H) (hv : fv x 16 0) (hd : decode cc pc = .ok (.getfield 48, 3)) (kk : W p l e R s m args below meth c H locs cells slots Q (F0 m (pc + 3) ls (.ref (xa x 35 0) :: rest))) : W p l e R s m args below meth c H locs cells slots Q (F0 m pc ls (.ref (xa x 16 0) :: rest)) := f_get cx hP (hv.at S) rfl rfl wf_M 15 (by decide) fl_M_M_many (fun _ h => h) rfl hd kk
theorem g_M_M_n (cx : fX rn_M cc nL p c s m args x) (hP : fP x S H) (hv : fv x 16 0) (hd : decode cc pc = .ok (.getfield 81, 3)) (kk : W p l e R s m args below meth c H locs cells slots Q (F0 m (pc + 3) ls (.int (nI (xN x)) :: rest))) : W p l e R s m args below meth c H locs cells slots Q (F0 m pc ls (.ref (xa x 16 0) :: rest)) := f_get cx hP (hv.at S) rfl rfl wf_M 0 (by decide) fl_M_M_n (fun _ h => h) rfl hd kk
theorem g_M_M_phase (cx : fX rn_M cc nL p c s m args x) (hP : fP x S H) (hv : fv x 16 0) (hd : decode cc pc = .ok (.getfield 7, 3)) (kk : W p l e R s m args below meth c H locs cells slots Q (F0 m (pc + 3) ls (.ref (xa x 23 0) :: rest))) : W p l e R s m args below meth c H locs cells slots Q (F0 m pc ls (.ref (xa x 16 0) :: rest)) := f_get cx hP (hv.at S) rfl rfl wf_M 3 (by decide) fl_M_M_phase (fun _ h => h) rfl hd kk
theorem g_M_M_reply (cx : fX rn_M cc nL p c s m args x) (hP : fP x S H) (hv : fv x 16 0) (hd : decode cc pc = .ok (.getfield 57, 3)) (kk : W p l e R s m args below meth c H locs cells slots Q (F0 m (pc + 3) ls (.ref (xa x 39 0) :: rest))) : W p l e R s m args below meth c H locs cells slots Q (F0 m pc ls (.ref (xa x 16 0) :: rest)) := f_get cx hP (hv.at S) rfl rfl wf_M 19 (by decide) fl_M_M_reply (fun _ h => h) rfl hd kk
theorem g_M_M_results (cx : fX rn_M cc nL p c s m args x) (hP : fP x S H) (hv : fv x 16 0) (hd : decode cc pc = .ok (.getfield 38, 3)) (kk : W p l e R s m args below meth c H locs cells slots Q (F0 m (pc + 3) ls (.ref (xa x 32 0) :: rest))) : W p l e R s m args below meth c H locs cells slots Q (F0 m pc ls (.ref (xa x 16 0) :: rest)) := f_get cx hP (hv.at S) rfl rfl wf_M 12 (by decide) fl_M_M_results (fun _ h => h) rfl hd kk
theorem g_M_M_seals (cx : fX rn_M cc nL p c s m args x) (hP : fP x S H) (hv : fv x 16 0) (hd : decode cc pc = .ok (.getfield 45, 3)) (kk : W p l e R s m args below meth c H locs cells slots Q (F0 m (pc + 3) ls (.ref (xa x 34 0) :: rest))) : W p l e R s m args below meth c H locs cells slots Q (F0 m pc ls (.ref (xa x 16 0) :: rest)) := f_get cx hP (hv.at S) rfl rfl wf_M 14 (by decide) fl_M_M_seals (fun _ h => h) rfl hd kk
theorem g_M_M_seen (cx : fX rn_M cc nL p c s m args x) (hP : fP x S H) (hv : fv x 16 0) (hd : decode cc pc = .ok (.getfield 35, 3)) (kk : W p l e R s m args below meth c H locs cells slots Q (F0 m (pc + 3) ls (.ref (xa x 31 0) :: rest))) : W p l e R s m args below meth c H locs cells slots Q (F0 m pc ls (.ref (xa x 16 0) :: rest)) := f_get cx hP (hv.at S) rfl rfl wf_M 11 (by decide) fl_M_M_seen (fun _ h => h) rfl hd kk
theorem g_M_M_sent (cx : fX rn_M cc nL p c s m args x) (hP : fP x S H) (hv : fv x 16 0) (hd : decode cc pc = .ok (.getfield 69, 3)) (kk : W p l e R s m args below meth c H locs cells slots Q (F0 m (pc + 3) ls (.ref (xa x 43 0) :: rest))) : W p l e R s m args below meth c H locs cells slots Q (F0 m pc ls (.ref (xa x 16 0) :: rest)) := f_get cx hP (hv.at S) rfl rfl wf_M 23 (by decide) fl_M_M_sent (fun _ h => h) rfl hd kk
theorem g_M_M_server (cx : fX rn_M cc nL p c s m args x) (hP : fP x S H) (hv : fv x 16 0) (hd : decode cc pc = .ok (.getfield 66, 3)) (kk : W p l e R s m args below meth c H locs cells slots Q (F0 m (pc + 3) ls (.ref (xa x 42 0) :: rest))) : W p l e R s m args below meth c H locs cells slots Q (F0 m pc ls (.ref (xa x 16 0) :: rest)) := f_get cx hP (hv.at S) rfl rfl wf_M 22 (by decide) fl_M_M_server (fun _ h => h) rfl hd kk
theorem g_M_M_tags (cx : fX rn_M cc nL p c s m args x) (hP : fP x S H) (hv : fv x 16 0) (hd : decode cc pc = .ok (.getfield 25, 3)) (kk : W p l e R s m args below meth c H locs cells slots Q (F0 m (pc + 3) ls (.ref (xa x 28 0) :: rest))) : W p l e R s m args below meth c H locs cells slots Q (F0 m pc ls (.ref (xa x 16 0) :: rest)) := f_get cx hP (hv.at S) rfl rfl wf_M 8 (by decide) fl_M_M_tags (fun _ h => h) rfl hd kk
theorem g_M_M_what (cx : fX rn_M cc nL p c s m args x) (hP : fP x S H) (hv : fv x 16 0) (hd : decode cc pc = .ok (.getfield 75, 3)) (kk : W p l e R s m args below meth c H locs cells slots Q (F0 m (pc + 3) ls (.ref (xa x 45 0) :: rest))) : W p l e R s m args below meth c H locs cells slots Q (F0 m pc ls (.ref (xa x 16 0) :: rest)) := f_get cx hP (hv.at S) rfl rfl wf_M 25 (by decide) fl_M_M_what (fun _ h => h) rfl hd kk
theorem g_R_R_letters (cx : fX rn_R cc nL p c s m args x) (hP : fP x S H) (hv : fv x 13 i) (hd : decode cc pc = .ok (.getfield 11, 3)) (kk : W p l e R s m args below meth c H locs cells slots Q (F0 m (pc + 3) ls (.ref (xa x 14 i) :: rest))) : W p l e R s m args below meth c H locs cells slots Q (F0 m pc ls (.ref (xa x 13 i) :: rest)) := f_get cx hP (hv.at S) rfl rfl wf_R 0 (by decide) fl_R_R_letters (fun _ h => h) rfl hd kk
theorem g_R_R_size (cx : fX rn_R cc nL p c s m args x) (hP : fP x S H) (hv : fv x 13 i) (hd : decode cc pc = .ok (.getfield 17, 3)) (kk : W p l e R s m args below meth c H locs cells slots Q (F0 m (pc + 3) ls (.int (nI (mU S 13 i 1)) :: rest))) : W p l e R s m args below meth c H locs cells slots Q (F0 m pc ls (.ref (xa x 13 i) :: rest)) := f_get cx hP (hv.at S) rfl rfl wf_R 1 (by decide) fl_R_R_size (fun _ h => h) rfl hd kk
theorem g_S_L_fragment (cx : fX rn_S cc nL p c s m args x) (hP : fP x S H) (hv : fvL x S a) (hd : decode cc pc = .ok (.getfield 34, 3)) (kk : W p l e R s m args below meth c H locs cells slots Q (F0 m (pc + 3) ls (.long (mJ S 15 a 3) :: rest))) : W p l e R s m args below meth c H locs cells slots Q (F0 m pc ls (.ref a :: rest)) := f_get cx hP hv.at rfl rfl wf_L 3 (by decide) fl_S_L_fragment (fun _ h => h) rfl hd kk
theorem g_S_L_phase (cx : fX rn_S cc nL p c s m args x) (hP : fP x S H) (hv : fvL x S a) (hd : decode cc pc = .ok (.getfield 26, 3)) (kk : W p l e R s m args below meth c H locs cells slots Q (F0 m (pc + 3) ls (.int (mI S 15 a 0) :: rest))) : W p l e R s m args below meth c H locs cells slots Q (F0 m pc ls (.ref a :: rest)) := f_get cx hP hv.at rfl rfl wf_L 0 (by decide) fl_S_L_phase (fun _ h => h) rfl hd kk
theorem g_S_L_tag (cx : fX rn_S cc nL p c s m args x) (hP : fP x S H) (hv : fvL x S a) (hd : decode cc pc = .ok (.getfield 31, 3)) (kk : W p l e R s m args below meth c H locs cells slots Q (F0 m (pc + 3) ls (.int (mI S 15 a 2) :: rest))) : W p l e R s m args below meth c H locs cells slots Q (F0 m pc ls (.ref a :: rest)) := f_get cx hP hv.at rfl rfl wf_L 2 (by decide) fl_S_L_tag (fun _ h => h) rfl hd kk
theorem g_S_S_count (cx : fX rn_S cc nL p c s m args x) (hP : fP x S H) (hv : fv x 10 i) (hd : decode cc pc = .ok (.getfield 9, 3)) (kk : W p l e R s m args below meth c H locs cells slots Q (F0 m (pc + 3) ls (.int (nI (mU S 10 i 3)) :: rest))) : W p l e R s m args below meth c H locs cells slots Q (F0 m pc ls (.ref (xa x 10 i) :: rest)) := f_get cx hP (hv.at S) rfl rfl wf_S 3 (by decide) fl_S_S_count (fun _ h => h) rfl hd kk
theorem g_S_S_fragments (cx : fX rn_S cc nL p c s m args x) (hP : fP x S H) (hv : fv x 10 i) (hd : decode cc pc = .ok (.getfield 22, 3)) (kk : W p l e R s m args below meth c H locs cells slots Q (F0 m (pc + 3) ls (.ref (xa x 12 i) :: rest))) : W p l e R s m args below meth c H locs cells slots Q (F0 m pc ls (.ref (xa x 10 i) :: rest)) := f_get cx hP (hv.at S) rfl rfl wf_S 2 (by decide) fl_S_S_fragments (fun _ h => h) rfl hd kk
theorem g_S_S_mostTags (cx : fX rn_S cc nL p c s m args x) (hP : fP x S H) (hv : fv x 10 i) (hd : decode cc pc = .ok (.getfield 15, 3)) (kk : W p l e R s m args below meth c H locs cells slots Q (F0 m (pc + 3) ls (.int (nI (xD x + 1)) :: rest))) : W p l e R s m args below meth c H locs cells slots Q (F0 m pc ls (.ref (xa x 10 i) :: rest)) := f_get cx hP (hv.at S) rfl rfl wf_S 0 (by decide) fl_S_S_mostTags (fun _ h => h) rfl hd kk
theorem g_S_S_seal (cx : fX rn_S cc nL p c s m args x) (hP : fP x S H) (hv : fv x 10 i) (hd : decode cc pc = .ok (.getfield 50, 3)) (kk : W p l e R s m args below meth c H locs cells slots Q (F0 m (pc + 3) ls (.int (mI S 10 i 4) :: rest))) : W p l e R s m args below meth c H locs cells slots Q (F0 m pc ls (.ref (xa x 10 i) :: rest)) := f_get cx hP (hv.at S) rfl rfl wf_S 4 (by decide) fl_S_S_seal (fun _ h => h) rfl hd kk
theorem g_S_S_tags (cx : fX rn_S cc nL p c s m args x) (hP : fP x S H) (hv : fv x 10 i) (hd : decode cc pc = .ok (.getfield 18, 3)) (kk : W p l e R s m args below meth c H locs cells slots Q (F0 m (pc + 3) ls (.ref (xa x 11 i) :: rest))) : W p l e R s m args below meth c H locs cells slots Q (F0 m pc ls (.ref (xa x 10 i) :: rest)) := f_get cx hP (hv.at S) rfl rfl wf_S 1 (by decide) fl_S_S_tags (fun _ h => h) rfl hd kk
theorem g_X_C_beginning (cx : fX rn_X cc nL p c s m args x) (hP : fP x S H) (hv : fv x 7 i) (hd : decode cc pc = .ok (.getfield 189, 3)) (kk : W p l e R s m args below meth c H locs cells slots Q (F0 m (pc + 3) ls (.int (mI S 7 i 6) :: rest))) : W p l e R s m args below meth c H locs cells slots Q (F0 m pc ls (.ref (xa x 7 i) :: rest)) := f_get cx hP (hv.at S) rfl rfl wf_C 6 (by decide) fl_X_C_beginning (fun _ h => h) rfl hd kk
theorem g_X_C_block (cx : fX rn_X cc nL p c s m args x) (hP : fP x S H) (hv : fv x 7 i) (hd : decode cc pc = .ok (.getfield 60, 3)) (kk : W p l e R s m args below meth c H locs cells slots Q (F0 m (pc + 3) ls (.long (mJ S 7 i 10) :: rest))) : W p l e R s m args below meth c H locs cells slots Q (F0 m pc ls (.ref (xa x 7 i) :: rest)) := f_get cx hP (hv.at S) rfl rfl wf_C 10 (by decide) fl_X_C_block (fun _ h => h) rfl hd kk
theorem g_X_C_crashed (cx : fX rn_X cc nL p c s m args x) (hP : fP x S H) (hv : fv x 7 i) (hd : decode cc pc = .ok (.getfield 72, 3)) (kk : W p l e R s m args below meth c H locs cells slots Q (F0 m (pc + 3) ls (.int (b2 (mB S 7 i 4)) :: rest))) : W p l e R s m args below meth c H locs cells slots Q (F0 m pc ls (.ref (xa x 7 i) :: rest)) := f_get cx hP (hv.at S) rfl rfl wf_C 4 (by decide) fl_X_C_crashed (fun _ h => h) rfl hd kk
theorem g_X_C_finished (cx : fX rn_X cc nL p c s m args x) (hP : fP x S H) (hv : fv x 7 i) (hd : decode cc pc = .ok (.getfield 140, 3)) (kk : W p l e R s m args below meth c H locs cells slots Q (F0 m (pc + 3) ls (.int (mI S 7 i 12) :: rest))) : W p l e R s m args below meth c H locs cells slots Q (F0 m pc ls (.ref (xa x 7 i) :: rest)) := f_get cx hP (hv.at S) rfl rfl wf_C 12 (by decide) fl_X_C_finished (fun _ h => h) rfl hd kk
theorem g_X_C_fragments (cx : fX rn_X cc nL p c s m args x) (hP : fP x S H) (hv : fv x 7 i) (hd : decode cc pc = .ok (.getfield 211, 3)) (kk : W p l e R s m args below meth c H locs cells slots Q (F0 m (pc + 3) ls (.ref (xa x 9 i) :: rest))) : W p l e R s m args below meth c H locs cells slots Q (F0 m pc ls (.ref (xa x 7 i) :: rest)) := f_get cx hP (hv.at S) rfl rfl wf_C 2 (by decide) fl_X_C_fragments (fun _ h => h) rfl hd kk
theorem g_X_C_heard (cx : fX rn_X cc nL p c s m args x) (hP : fP x S H) (hv : fv x 7 i) (hd : decode cc pc = .ok (.getfield 79, 3)) (kk : W p l e R s m args below meth c H locs cells slots Q (F0 m (pc + 3) ls (.int (mI S 7 i 7) :: rest))) : W p l e R s m args below meth c H locs cells slots Q (F0 m pc ls (.ref (xa x 7 i) :: rest)) := f_get cx hP (hv.at S) rfl rfl wf_C 7 (by decide) fl_X_C_heard (fun _ h => h) rfl hd kk
theorem g_X_C_highestSeal (cx : fX rn_X cc nL p c s m args x) (hP : fP x S H) (hv : fv x 7 i) (hd : decode cc pc = .ok (.getfield 205, 3)) (kk : W p l e R s m args below meth c H locs cells slots Q (F0 m (pc + 3) ls (.int (mI S 7 i 8) :: rest))) : W p l e R s m args below meth c H locs cells slots Q (F0 m pc ls (.ref (xa x 7 i) :: rest)) := f_get cx hP (hv.at S) rfl rfl wf_C 8 (by decide) fl_X_C_highestSeal (fun _ h => h) rfl hd kk
theorem g_X_C_number (cx : fX rn_X cc nL p c s m args x) (hP : fP x S H) (hv : fv x 7 i) (hd : decode cc pc = .ok (.getfield 182, 3)) (kk : W p l e R s m args below meth c H locs cells slots Q (F0 m (pc + 3) ls (.int (nI i) :: rest))) : W p l e R s m args below meth c H locs cells slots Q (F0 m pc ls (.ref (xa x 7 i) :: rest)) := f_get cx hP (hv.at S) rfl rfl wf_C 0 (by decide) fl_X_C_number (fun _ h => h) rfl hd kk
theorem g_X_C_phase (cx : fX rn_X cc nL p c s m args x) (hP : fP x S H) (hv : fv x 7 i) (hd : decode cc pc = .ok (.getfield 76, 3)) (kk : W p l e R s m args below meth c H locs cells slots Q (F0 m (pc + 3) ls (.int (mI S 7 i 5) :: rest))) : W p l e R s m args below meth c H locs cells slots Q (F0 m pc ls (.ref (xa x 7 i) :: rest)) := f_get cx hP (hv.at S) rfl rfl wf_C 5 (by decide) fl_X_C_phase (fun _ h => h) rfl hd kk
theorem g_X_C_result (cx : fX rn_X cc nL p c s m args x) (hP : fP x S H) (hv : fv x 7 i) (hd : decode cc pc = .ok (.getfield 137, 3)) (kk : W p l e R s m args below meth c H locs cells slots Q (F0 m (pc + 3) ls (.long (mJ S 7 i 11) :: rest))) : W p l e R s m args below meth c H locs cells slots Q (F0 m pc ls (.ref (xa x 7 i) :: rest)) := f_get cx hP (hv.at S) rfl rfl wf_C 11 (by decide) fl_X_C_result (fun _ h => h) rfl hd kk
theorem g_X_C_sources (cx : fX rn_X cc nL p c s m args x) (hP : fP x S H) (hv : fv x 7 i) (hd : decode cc pc = .ok (.getfield 208, 3)) (kk : W p l e R s m args below meth c H locs cells slots Q (F0 m (pc + 3) ls (.ref (xa x 8 i) :: rest))) : W p l e R s m args below meth c H locs cells slots Q (F0 m pc ls (.ref (xa x 7 i) :: rest)) := f_get cx hP (hv.at S) rfl rfl wf_C 1 (by decide) fl_X_C_sources (fun _ h => h) rfl hd kk
theorem g_X_C_tag (cx : fX rn_X cc nL p c s m args x) (hP : fP x S H) (hv : fv x 7 i) (hd : decode cc pc = .ok (.getfield 134, 3)) (kk : W p l e R s m args below meth c H locs cells slots Q (F0 m (pc + 3) ls (.int (mI S 7 i 9) :: rest))) : W p l e R s m args below meth c H locs cells slots Q (F0 m pc ls (.ref (xa x 7 i) :: rest)) := f_get cx hP (hv.at S) rfl rfl wf_C 9 (by decide) fl_X_C_tag (fun _ h => h) rfl hd kk
theorem g_X_K_length (cx : fX rn_X cc nL p c s m args x) (hP : fP x S H) (hv : fv x 1 0) (hd : decode cc pc = .ok (.getfield 150, 3)) (kk : W p l e R s m args below meth c H locs cells slots Q (F0 m (pc + 3) ls (.int (nI (xR x)) :: rest))) : W p l e R s m args below meth c H locs cells slots Q (F0 m pc ls (.ref (xa x 1 0) :: rest)) := f_get cx hP (hv.at S) rfl rfl wf_K 1 (by decide) fl_X_K_length (fun _ h => h) rfl hd kk
theorem g_X_L_phase (cx : fX rn_X cc nL p c s m args x) (hP : fP x S H) (hv : fvL x S a) (hd : decode cc pc = .ok (.getfield 105, 3)) (kk : W p l e R s m args below meth c H locs cells slots Q (F0 m (pc + 3) ls (.int (mI S 15 a 0) :: rest))) : W p l e R s m args below meth c H locs cells slots Q (F0 m pc ls (.ref a :: rest)) := f_get cx hP hv.at rfl rfl wf_L 0 (by decide) fl_X_L_phase (fun _ h => h) rfl hd kk
theorem g_X_R_size (cx : fX rn_X cc nL p c s m args x) (hP : fP x S H) (hv : fv x 13 i) (hd : decode cc pc = .ok (.getfield 167, 3)) (kk : W p l e R s m args below meth c H locs cells slots Q (F0 m (pc + 3) ls (.int (nI (mU S 13 i 1)) :: rest))) : W p l e R s m args below meth c H locs cells slots Q (F0 m pc ls (.ref (xa x 13 i) :: rest)) := f_get cx hP (hv.at S) rfl rfl wf_R 1 (by decide) fl_X_R_size (fun _ h => h) rfl hd kk
theorem g_X_S_count (cx : fX rn_X cc nL p c s m args x) (hP : fP x S H) (hv : fv x 10 i) (hd : decode cc pc = .ok (.getfield 143, 3)) (kk : W p l e R s m args below meth c H locs cells slots Q (F0 m (pc + 3) ls (.int (nI (mU S 10 i 3)) :: rest))) : W p l e R s m args below meth c H locs cells slots Q (F0 m pc ls (.ref (xa x 10 i) :: rest)) := f_get cx hP (hv.at S) rfl rfl wf_S 3 (by decide) fl_X_S_count (fun _ h => h) rfl hd kk
theorem g_X_S_crashed (cx : fX rn_X cc nL p c s m args x) (hP : fP x S H) (hv : fv x 10 i) (hd : decode cc pc = .ok (.getfield 123, 3)) (kk : W p l e R s m args below meth c H locs cells slots Q (F0 m (pc + 3) ls (.int (b2 (mB S 10 i 5)) :: rest))) : W p l e R s m args below meth c H locs cells slots Q (F0 m pc ls (.ref (xa x 10 i) :: rest)) := f_get cx hP (hv.at S) rfl rfl wf_S 5 (by decide) fl_X_S_crashed (fun _ h => h) rfl hd kk
theorem g_X_S_fragments (cx : fX rn_X cc nL p c s m args x) (hP : fP x S H) (hv : fv x 10 i) (hd : decode cc pc = .ok (.getfield 156, 3)) (kk : W p l e R s m args below meth c H locs cells slots Q (F0 m (pc + 3) ls (.ref (xa x 12 i) :: rest))) : W p l e R s m args below meth c H locs cells slots Q (F0 m pc ls (.ref (xa x 10 i) :: rest)) := f_get cx hP (hv.at S) rfl rfl wf_S 2 (by decide) fl_X_S_fragments (fun _ h => h) rfl hd kk
theorem g_X_S_seal (cx : fX rn_X cc nL p c s m args x) (hP : fP x S H) (hv : fv x 10 i) (hd : decode cc pc = .ok (.getfield 164, 3)) (kk : W p l e R s m args below meth c H locs cells slots Q (F0 m (pc + 3) ls (.int (mI S 10 i 4) :: rest))) : W p l e R s m args below meth c H locs cells slots Q (F0 m pc ls (.ref (xa x 10 i) :: rest)) := f_get cx hP (hv.at S) rfl rfl wf_S 4 (by decide) fl_X_S_seal (fun _ h => h) rfl hd kk
theorem g_X_S_tags (cx : fX rn_X cc nL p c s m args x) (hP : fP x S H) (hv : fv x 10 i) (hd : decode cc pc = .ok (.getfield 146, 3)) (kk : W p l e R s m args below meth c H locs cells slots Q (F0 m (pc + 3) ls (.ref (xa x 11 i) :: rest))) : W p l e R s m args below meth c H locs cells slots Q (F0 m pc ls (.ref (xa x 10 i) :: rest)) := f_get cx hP (hv.at S) rfl rfl wf_S 1 (by decide) fl_X_S_tags (fun _ h => h) rfl hd kk
theorem g_X_X_clients (cx : fX rn_X cc nL p c s m args x) (hP : fP x S H) (hv : fv x 0 0) (hd : decode cc pc = .ok (.getfield 31, 3)) (kk : W p l e R s m args below meth c H locs cells slots Q (F0 m (pc + 3) ls (.ref (xa x 3 0) :: rest))) : W p l e R s m args below meth c H locs cells slots Q (F0 m pc ls (.ref (xa x 0 0) :: rest)) := f_get cx hP (hv.at S) rfl rfl wf_X 3 (by decide) fl_X_X_clients (fun _ h => h) rfl hd kk
theorem g_X_X_code (cx : fX rn_X cc nL p c s m args x) (hP : fP x S H) (hv : fv x 0 0) (hd : decode cc pc = .ok (.getfield 25, 3)) (kk : W p l e R s m args below meth c H locs cells slots Q (F0 m (pc + 3) ls (.ref (xa x 1 0) :: rest))) : W p l e R s m args below meth c H locs cells slots Q (F0 m pc ls (.ref (xa x 0 0) :: rest)) := f_get cx hP (hv.at S) rfl rfl wf_X 2 (by decide) fl_X_X_code (fun _ h => h) rfl hd kk
theorem g_X_X_crashes (cx : fX rn_X cc nL p c s m args x) (hP : fP x S H) (hv : fv x 0 0) (hd : decode cc pc = .ok (.getfield 124, 3)) (kk : W p l e R s m args below meth c H locs cells slots Q (F0 m (pc + 3) ls (.int (mI S 0 0 7) :: rest))) : W p l e R s m args below meth c H locs cells slots Q (F0 m pc ls (.ref (xa x 0 0) :: rest)) := f_get cx hP (hv.at S) rfl rfl wf_X 7 (by decide) fl_X_X_crashes (fun _ h => h) rfl hd kk
theorem g_X_X_mostCrashes (cx : fX rn_X cc nL p c s m args x) (hP : fP x S H) (hv : fv x 0 0) (hd : decode cc pc = .ok (.getfield 13, 3)) (kk : W p l e R s m args below meth c H locs cells slots Q (F0 m (pc + 3) ls (.int (nI (xM x)) :: rest))) : W p l e R s m args below meth c H locs cells slots Q (F0 m pc ls (.ref (xa x 0 0) :: rest)) := f_get cx hP (hv.at S) rfl rfl wf_X 1 (by decide) fl_X_X_mostCrashes (fun _ h => h) rfl hd kk
theorem g_X_X_quorumSize (cx : fX rn_X cc nL p c s m args x) (hP : fP x S H) (hv : fv x 0 0) (hd : decode cc pc = .ok (.getfield 17, 3)) (kk : W p l e R s m args below meth c H locs cells slots Q (F0 m (pc + 3) ls (.int (nI (xQ x)) :: rest))) : W p l e R s m args below meth c H locs cells slots Q (F0 m pc ls (.ref (xa x 0 0) :: rest)) := f_get cx hP (hv.at S) rfl rfl wf_X 0 (by decide) fl_X_X_quorumSize (fun _ h => h) rfl hd kk
theorem g_X_X_replyRows (cx : fX rn_X cc nL p c s m args x) (hP : fP x S H) (hv : fv x 0 0) (hd : decode cc pc = .ok (.getfield 53, 3)) (kk : W p l e R s m args below meth c H locs cells slots Q (F0 m (pc + 3) ls (.ref (xa x 6 0) :: rest))) : W p l e R s m args below meth c H locs cells slots Q (F0 m pc ls (.ref (xa x 0 0) :: rest)) := f_get cx hP (hv.at S) rfl rfl wf_X 6 (by decide) fl_X_X_replyRows (fun _ h => h) rfl hd kk
theorem g_X_X_requestRows (cx : fX rn_X cc nL p c s m args x) (hP : fP x S H) (hv : fv x 0 0) (hd : decode cc pc = .ok (.getfield 49, 3)) (kk : W p l e R s m args below meth c H locs cells slots Q (F0 m (pc + 3) ls (.ref (xa x 5 0) :: rest))) : W p l e R s m args below meth c H locs cells slots Q (F0 m pc ls (.ref (xa x 0 0) :: rest)) := f_get cx hP (hv.at S) rfl rfl wf_X 5 (by decide) fl_X_X_requestRows (fun _ h => h) rfl hd kk
theorem g_X_X_servers (cx : fX rn_X cc nL p c s m args x) (hP : fP x S H) (hv : fv x 0 0) (hd : decode cc pc = .ok (.getfield 40, 3)) (kk : W p l e R s m args below meth c H locs cells slots Q (F0 m (pc + 3) ls (.ref (xa x 4 0) :: rest))) : W p l e R s m args below meth c H locs cells slots Q (F0 m pc ls (.ref (xa x 0 0) :: rest)) := f_get cx hP (hv.at S) rfl rfl wf_X 4 (by decide) fl_X_X_servers (fun _ h => h) rfl hd kk
theorem p_C_C_beginning {v : Int32} (cx : fX rn_C cc nL p c s m args x) (hP : fP x S H) (hS : fS x H0 H locs) (hv : fv x 7 i) (hd : decode cc pc = .ok (.putfield 30, 3)) (kk : ∀ (H1 : Heap) (locs1 : List Loc), fP x (sI S 7 i 6 v) H1 → fS x H0 H1 locs1 → W p l e R s m args below meth c H1 locs1 cells slots Q (F0 m (pc + 3) ls rest)) : W p l e R s m args below meth c H locs cells slots Q (F0 m pc ls (.int v :: .ref (xa x 7 i) :: rest)) := f_put cx hP hS (hv.at S) rfl rfl wf_C ty_C tk_C nm_C 6 (by decide) fl_C_C_beginning (fun _ h => h) rfl (ty := .int) (by decide +kernel) rfl rfl (Nat.le_of_ble_eq_true rfl) (by show fcr x 7 i (mI (sI S 7 i 6 v) 7 i) (mJ S 7 i) (mB S 7 i) (mA S 7 i) (mU S 7 i) = _; rw [mI_row]; rfl) fc_sI rfl hd kk
theorem p_C_C_finished {v : Int32} (cx : fX rn_C cc nL p c s m args x) (hP : fP x S H) (hS : fS x H0 H locs) (hv : fv x 7 i) (hd : decode cc pc = .ok (.putfield 65, 3)) (kk : ∀ (H1 : Heap) (locs1 : List Loc), fP x (sI S 7 i 12 v) H1 → fS x H0 H1 locs1 → W p l e R s m args below meth c H1 locs1 cells slots Q (F0 m (pc + 3) ls rest)) : W p l e R s m args below meth c H locs cells slots Q (F0 m pc ls (.int v :: .ref (xa x 7 i) :: rest)) := f_put cx hP hS (hv.at S) rfl rfl wf_C ty_C tk_C nm_C 12 (by decide) fl_C_C_finished (fun _ h => h) rfl (ty := .int) (by decide +kernel) rfl rfl (Nat.le_of_ble_eq_true rfl) (by show fcr x 7 i (mI (sI S 7 i 12 v) 7 i) (mJ S 7 i) (mB S 7 i) (mA S 7 i) (mU S 7 i) = _; rw [mI_row]; rfl) fc_sI rfl hd kk
theorem p_C_C_fragmentCount {v : Nat} {w : Int32} (cx : fX rn_C cc nL p c s m args x) (hP : fP x S H) (hS : fS x H0 H locs) (hv : fv x 7 i) (hw : w = nI v) (hd : decode cc pc = .ok (.putfield 39, 3)) (kk : ∀ (H1 : Heap) (locs1 : List Loc), fP x (sU S 7 i 3 v) H1 → fS x H0 H1 locs1 → W p l e R s m args below meth c H1 locs1 cells slots Q (F0 m (pc + 3) ls rest)) : W p l e R s m args below meth c H locs cells slots Q (F0 m pc ls (.int w :: .ref (xa x 7 i) :: rest)) := by subst hw; exact f_put cx hP hS (hv.at S) rfl rfl wf_C ty_C tk_C nm_C 3 (by decide) fl_C_C_fragmentCount (fun _ h => h) rfl (ty := .int) (by decide +kernel) rfl rfl (Nat.le_of_ble_eq_true rfl) (by show fcr x 7 i (mI S 7 i) (mJ S 7 i) (mB S 7 i) (mA S 7 i) (mU (sU S 7 i 3 v) 7 i) = _; rw [mU_row]; rfl) fc_sU rfl hd kk
theorem p_C_C_heard {v : Int32} (cx : fX rn_C cc nL p c s m args x) (hP : fP x S H) (hS : fS x H0 H locs) (hv : fv x 7 i) (hd : decode cc pc = .ok (.putfield 33, 3)) (kk : ∀ (H1 : Heap) (locs1 : List Loc), fP x (sI S 7 i 7 v) H1 → fS x H0 H1 locs1 → W p l e R s m args below meth c H1 locs1 cells slots Q (F0 m (pc + 3) ls rest)) : W p l e R s m args below meth c H locs cells slots Q (F0 m pc ls (.int v :: .ref (xa x 7 i) :: rest)) := f_put cx hP hS (hv.at S) rfl rfl wf_C ty_C tk_C nm_C 7 (by decide) fl_C_C_heard (fun _ h => h) rfl (ty := .int) (by decide +kernel) rfl rfl (Nat.le_of_ble_eq_true rfl) (by show fcr x 7 i (mI (sI S 7 i 7 v) 7 i) (mJ S 7 i) (mB S 7 i) (mA S 7 i) (mU S 7 i) = _; rw [mI_row]; rfl) fc_sI rfl hd kk
theorem p_C_C_highestSeal {v : Int32} (cx : fX rn_C cc nL p c s m args x) (hP : fP x S H) (hS : fS x H0 H locs) (hv : fv x 7 i) (hd : decode cc pc = .ok (.putfield 36, 3)) (kk : ∀ (H1 : Heap) (locs1 : List Loc), fP x (sI S 7 i 8 v) H1 → fS x H0 H1 locs1 → W p l e R s m args below meth c H1 locs1 cells slots Q (F0 m (pc + 3) ls rest)) : W p l e R s m args below meth c H locs cells slots Q (F0 m pc ls (.int v :: .ref (xa x 7 i) :: rest)) := f_put cx hP hS (hv.at S) rfl rfl wf_C ty_C tk_C nm_C 8 (by decide) fl_C_C_highestSeal (fun _ h => h) rfl (ty := .int) (by decide +kernel) rfl rfl (Nat.le_of_ble_eq_true rfl) (by show fcr x 7 i (mI (sI S 7 i 8 v) 7 i) (mJ S 7 i) (mB S 7 i) (mA S 7 i) (mU S 7 i) = _; rw [mI_row]; rfl) fc_sI rfl hd kk
theorem p_C_C_phase {v : Int32} (cx : fX rn_C cc nL p c s m args x) (hP : fP x S H) (hS : fS x H0 H locs) (hv : fv x 7 i) (hd : decode cc pc = .ok (.putfield 9, 3)) (kk : ∀ (H1 : Heap) (locs1 : List Loc), fP x (sI S 7 i 5 v) H1 → fS x H0 H1 locs1 → W p l e R s m args below meth c H1 locs1 cells slots Q (F0 m (pc + 3) ls rest)) : W p l e R s m args below meth c H locs cells slots Q (F0 m pc ls (.int v :: .ref (xa x 7 i) :: rest)) := f_put cx hP hS (hv.at S) rfl rfl wf_C ty_C tk_C nm_C 5 (by decide) fl_C_C_phase (fun _ h => h) rfl (ty := .int) (by decide +kernel) rfl rfl (Nat.le_of_ble_eq_true rfl) (by show fcr x 7 i (mI (sI S 7 i 5 v) 7 i) (mJ S 7 i) (mB S 7 i) (mA S 7 i) (mU S 7 i) = _; rw [mI_row]; rfl) fc_sI rfl hd kk
theorem p_L_L_beginning {v : Int32} (cx : fX rn_L cc nL p c s m args x) (hin : meth.name = "<init>") (hP : fP x S H) (hS : fS x H0 H locs) (hv : fvL x S a) (hd : decode cc pc = .ok (.putfield 13, 3)) (kk : ∀ (H1 : Heap) (locs1 : List Loc), fP x (sI S 15 a 1 v) H1 → fS x H0 H1 locs1 → W p l e R s m args below meth c H1 locs1 cells slots Q (F0 m (pc + 3) ls rest)) : W p l e R s m args below meth c H locs cells slots Q (F0 m pc ls (.int v :: .ref a :: rest)) := f_putF cx hin hP hS hv.at rfl rfl wf_L ty_L tk_L nm_L 1 (by decide) fl_L_L_beginning (fun _ h => h) rfl rfl (ty := .int) (by decide +kernel) rfl rfl (Nat.le_of_ble_eq_true rfl) (by show fcr x 15 a (mI (sI S 15 a 1 v) 15 a) (mJ S 15 a) (mB S 15 a) (mA S 15 a) (mU S 15 a) = _; rw [mI_row]; rfl) fc_sI rfl hd kk
theorem p_L_L_phase {v : Int32} (cx : fX rn_L cc nL p c s m args x) (hin : meth.name = "<init>") (hP : fP x S H) (hS : fS x H0 H locs) (hv : fvL x S a) (hd : decode cc pc = .ok (.putfield 7, 3)) (kk : ∀ (H1 : Heap) (locs1 : List Loc), fP x (sI S 15 a 0 v) H1 → fS x H0 H1 locs1 → W p l e R s m args below meth c H1 locs1 cells slots Q (F0 m (pc + 3) ls rest)) : W p l e R s m args below meth c H locs cells slots Q (F0 m pc ls (.int v :: .ref a :: rest)) := f_putF cx hin hP hS hv.at rfl rfl wf_L ty_L tk_L nm_L 0 (by decide) fl_L_L_phase (fun _ h => h) rfl rfl (ty := .int) (by decide +kernel) rfl rfl (Nat.le_of_ble_eq_true rfl) (by show fcr x 15 a (mI (sI S 15 a 0 v) 15 a) (mJ S 15 a) (mB S 15 a) (mA S 15 a) (mU S 15 a) = _; rw [mI_row]; rfl) fc_sI rfl hd kk
theorem p_L_L_tag {v : Int32} (cx : fX rn_L cc nL p c s m args x) (hin : meth.name = "<init>") (hP : fP x S H) (hS : fS x H0 H locs) (hv : fvL x S a) (hd : decode cc pc = .ok (.putfield 16, 3)) (kk : ∀ (H1 : Heap) (locs1 : List Loc), fP x (sI S 15 a 2 v) H1 → fS x H0 H1 locs1 → W p l e R s m args below meth c H1 locs1 cells slots Q (F0 m (pc + 3) ls rest)) : W p l e R s m args below meth c H locs cells slots Q (F0 m pc ls (.int v :: .ref a :: rest)) := f_putF cx hin hP hS hv.at rfl rfl wf_L ty_L tk_L nm_L 2 (by decide) fl_L_L_tag (fun _ h => h) rfl rfl (ty := .int) (by decide +kernel) rfl rfl (Nat.le_of_ble_eq_true rfl) (by show fcr x 15 a (mI (sI S 15 a 2 v) 15 a) (mJ S 15 a) (mB S 15 a) (mA S 15 a) (mU S 15 a) = _; rw [mI_row]; rfl) fc_sI rfl hd kk
theorem p_M_M_letters {v : Nat} {w : Int32} (cx : fX rn_M cc nL p c s m args x) (hP : fP x S H) (hS : fS x H0 H locs) (hv : fv x 16 0) (hw : w = nI v) (hd : decode cc pc = .ok (.putfield 91, 3)) (kk : ∀ (H1 : Heap) (locs1 : List Loc), fP x (sU S 16 0 18 v) H1 → fS x H0 H1 locs1 → W p l e R s m args below meth c H1 locs1 cells slots Q (F0 m (pc + 3) ls rest)) : W p l e R s m args below meth c H locs cells slots Q (F0 m pc ls (.int w :: .ref (xa x 16 0) :: rest)) := by subst hw; exact f_put cx hP hS (hv.at S) rfl rfl wf_M ty_M tk_M nm_M 18 (by decide) fl_M_M_letters (fun _ h => h) rfl (ty := .int) (by decide +kernel) rfl rfl (Nat.le_of_ble_eq_true rfl) (by show fcr x 16 0 (mI S 16 0) (mJ S 16 0) (mB S 16 0) (mA S 16 0) (mU (sU S 16 0 18 v) 16 0) = _; rw [mU_row]; rfl) fc_sU rfl hd kk
theorem p_R_R_size {v : Nat} {w : Int32} (cx : fX rn_R cc nL p c s m args x) (hP : fP x S H) (hS : fS x H0 H locs) (hv : fv x 13 i) (hw : w = nI v) (hd : decode cc pc = .ok (.putfield 17, 3)) (kk : ∀ (H1 : Heap) (locs1 : List Loc), fP x (sU S 13 i 1 v) H1 → fS x H0 H1 locs1 → W p l e R s m args below meth c H1 locs1 cells slots Q (F0 m (pc + 3) ls rest)) : W p l e R s m args below meth c H locs cells slots Q (F0 m pc ls (.int w :: .ref (xa x 13 i) :: rest)) := by subst hw; exact f_put cx hP hS (hv.at S) rfl rfl wf_R ty_R tk_R nm_R 1 (by decide) fl_R_R_size (fun _ h => h) rfl (ty := .int) (by decide +kernel) rfl rfl (Nat.le_of_ble_eq_true rfl) (by show fcr x 13 i (mI S 13 i) (mJ S 13 i) (mB S 13 i) (mA S 13 i) (mU (sU S 13 i 1 v) 13 i) = _; rw [mU_row]; rfl) fc_sU rfl hd kk
theorem p_S_L_bearsFragment {v : Bool} {w : Int32} (cx : fX rn_S cc nL p c s m args x) (hP : fP x S H) (hS : fS x H0 H locs) (hv : fvL x S a) (hw : w = b2 v) (hd : decode cc pc = .ok (.putfield 67, 3)) (kk : ∀ (H1 : Heap) (locs1 : List Loc), fP x (sB S 15 a 5 v) H1 → fS x H0 H1 locs1 → W p l e R s m args below meth c H1 locs1 cells slots Q (F0 m (pc + 3) ls rest)) : W p l e R s m args below meth c H locs cells slots Q (F0 m pc ls (.int w :: .ref a :: rest)) := by subst hw; exact f_put cx hP hS hv.at rfl rfl wf_L ty_L tk_L nm_L 5 (by decide) fl_S_L_bearsFragment (fun _ h => h) rfl (ty := .boolean) (by decide +kernel) (b2_nar v) (b2_fit v) (Nat.le_of_ble_eq_true rfl) (by show fcr x 15 a (mI S 15 a) (mJ S 15 a) (mB (sB S 15 a 5 v) 15 a) (mA S 15 a) (mU S 15 a) = _; rw [mB_row]; rfl) fc_sB rfl hd kk
theorem p_S_L_fragment {v : Int64} (cx : fX rn_S cc nL p c s m args x) (hP : fP x S H) (hS : fS x H0 H locs) (hv : fvL x S a) (hd : decode cc pc = .ok (.putfield 34, 3)) (kk : ∀ (H1 : Heap) (locs1 : List Loc), fP x (sJ S 15 a 3 v) H1 → fS x H0 H1 locs1 → W p l e R s m args below meth c H1 locs1 cells slots Q (F0 m (pc + 3) ls rest)) : W p l e R s m args below meth c H locs cells slots Q (F0 m pc ls (.long v :: .ref a :: rest)) := f_put cx hP hS hv.at rfl rfl wf_L ty_L tk_L nm_L 3 (by decide) fl_S_L_fragment (fun _ h => h) rfl (ty := .long) (by decide +kernel) rfl rfl (Nat.le_of_ble_eq_true rfl) (by show fcr x 15 a (mI S 15 a) (mJ (sJ S 15 a 3 v) 15 a) (mB S 15 a) (mA S 15 a) (mU S 15 a) = _; rw [mJ_row]; rfl) fc_sJ rfl hd kk
theorem p_S_L_seal {v : Int32} (cx : fX rn_S cc nL p c s m args x) (hP : fP x S H) (hS : fS x H0 H locs) (hv : fvL x S a) (hd : decode cc pc = .ok (.putfield 53, 3)) (kk : ∀ (H1 : Heap) (locs1 : List Loc), fP x (sI S 15 a 4 v) H1 → fS x H0 H1 locs1 → W p l e R s m args below meth c H1 locs1 cells slots Q (F0 m (pc + 3) ls rest)) : W p l e R s m args below meth c H locs cells slots Q (F0 m pc ls (.int v :: .ref a :: rest)) := f_put cx hP hS hv.at rfl rfl wf_L ty_L tk_L nm_L 4 (by decide) fl_S_L_seal (fun _ h => h) rfl (ty := .int) (by decide +kernel) rfl rfl (Nat.le_of_ble_eq_true rfl) (by show fcr x 15 a (mI (sI S 15 a 4 v) 15 a) (mJ S 15 a) (mB S 15 a) (mA S 15 a) (mU S 15 a) = _; rw [mI_row]; rfl) fc_sI rfl hd kk
theorem p_S_S_count {v : Nat} {w : Int32} (cx : fX rn_S cc nL p c s m args x) (hP : fP x S H) (hS : fS x H0 H locs) (hv : fv x 10 i) (hw : w = nI v) (hd : decode cc pc = .ok (.putfield 9, 3)) (kk : ∀ (H1 : Heap) (locs1 : List Loc), fP x (sU S 10 i 3 v) H1 → fS x H0 H1 locs1 → W p l e R s m args below meth c H1 locs1 cells slots Q (F0 m (pc + 3) ls rest)) : W p l e R s m args below meth c H locs cells slots Q (F0 m pc ls (.int w :: .ref (xa x 10 i) :: rest)) := by subst hw; exact f_put cx hP hS (hv.at S) rfl rfl wf_S ty_S tk_S nm_S 3 (by decide) fl_S_S_count (fun _ h => h) rfl (ty := .int) (by decide +kernel) rfl rfl (Nat.le_of_ble_eq_true rfl) (by show fcr x 10 i (mI S 10 i) (mJ S 10 i) (mB S 10 i) (mA S 10 i) (mU (sU S 10 i 3 v) 10 i) = _; rw [mU_row]; rfl) fc_sU rfl hd kk
theorem p_S_S_seal {v : Int32} (cx : fX rn_S cc nL p c s m args x) (hP : fP x S H) (hS : fS x H0 H locs) (hv : fv x 10 i) (hd : decode cc pc = .ok (.putfield 50, 3)) (kk : ∀ (H1 : Heap) (locs1 : List Loc), fP x (sI S 10 i 4 v) H1 → fS x H0 H1 locs1 → W p l e R s m args below meth c H1 locs1 cells slots Q (F0 m (pc + 3) ls rest)) : W p l e R s m args below meth c H locs cells slots Q (F0 m pc ls (.int v :: .ref (xa x 10 i) :: rest)) := f_put cx hP hS (hv.at S) rfl rfl wf_S ty_S tk_S nm_S 4 (by decide) fl_S_S_seal (fun _ h => h) rfl (ty := .int) (by decide +kernel) rfl rfl (Nat.le_of_ble_eq_true rfl) (by show fcr x 10 i (mI (sI S 10 i 4 v) 10 i) (mJ S 10 i) (mB S 10 i) (mA S 10 i) (mU S 10 i) = _; rw [mI_row]; rfl) fc_sI rfl hd kk
theorem p_X_C_block {v : Int64} (cx : fX rn_X cc nL p c s m args x) (hP : fP x S H) (hS : fS x H0 H locs) (hv : fv x 7 i) (hd : decode cc pc = .ok (.putfield 60, 3)) (kk : ∀ (H1 : Heap) (locs1 : List Loc), fP x (sJ S 7 i 10 v) H1 → fS x H0 H1 locs1 → W p l e R s m args below meth c H1 locs1 cells slots Q (F0 m (pc + 3) ls rest)) : W p l e R s m args below meth c H locs cells slots Q (F0 m pc ls (.long v :: .ref (xa x 7 i) :: rest)) := f_put cx hP hS (hv.at S) rfl rfl wf_C ty_C tk_C nm_C 10 (by decide) fl_X_C_block (fun _ h => h) rfl (ty := .long) (by decide +kernel) rfl rfl (Nat.le_of_ble_eq_true rfl) (by show fcr x 7 i (mI S 7 i) (mJ (sJ S 7 i 10 v) 7 i) (mB S 7 i) (mA S 7 i) (mU S 7 i) = _; rw [mJ_row]; rfl) fc_sJ rfl hd kk
theorem p_X_C_crashed {v : Bool} {w : Int32} (cx : fX rn_X cc nL p c s m args x) (hP : fP x S H) (hS : fS x H0 H locs) (hv : fv x 7 i) (hw : w = b2 v) (hd : decode cc pc = .ok (.putfield 72, 3)) (kk : ∀ (H1 : Heap) (locs1 : List Loc), fP x (sB S 7 i 4 v) H1 → fS x H0 H1 locs1 → W p l e R s m args below meth c H1 locs1 cells slots Q (F0 m (pc + 3) ls rest)) : W p l e R s m args below meth c H locs cells slots Q (F0 m pc ls (.int w :: .ref (xa x 7 i) :: rest)) := by subst hw; exact f_put cx hP hS (hv.at S) rfl rfl wf_C ty_C tk_C nm_C 4 (by decide) fl_X_C_crashed (fun _ h => h) rfl (ty := .boolean) (by decide +kernel) (b2_nar v) (b2_fit v) (Nat.le_of_ble_eq_true rfl) (by show fcr x 7 i (mI S 7 i) (mJ S 7 i) (mB (sB S 7 i 4 v) 7 i) (mA S 7 i) (mU S 7 i) = _; rw [mB_row]; rfl) fc_sB rfl hd kk
theorem p_X_C_result {v : Int64} (cx : fX rn_X cc nL p c s m args x) (hP : fP x S H) (hS : fS x H0 H locs) (hv : fv x 7 i) (hd : decode cc pc = .ok (.putfield 137, 3)) (kk : ∀ (H1 : Heap) (locs1 : List Loc), fP x (sJ S 7 i 11 v) H1 → fS x H0 H1 locs1 → W p l e R s m args below meth c H1 locs1 cells slots Q (F0 m (pc + 3) ls rest)) : W p l e R s m args below meth c H locs cells slots Q (F0 m pc ls (.long v :: .ref (xa x 7 i) :: rest)) := f_put cx hP hS (hv.at S) rfl rfl wf_C ty_C tk_C nm_C 11 (by decide) fl_X_C_result (fun _ h => h) rfl (ty := .long) (by decide +kernel) rfl rfl (Nat.le_of_ble_eq_true rfl) (by show fcr x 7 i (mI S 7 i) (mJ (sJ S 7 i 11 v) 7 i) (mB S 7 i) (mA S 7 i) (mU S 7 i) = _; rw [mJ_row]; rfl) fc_sJ rfl hd kk
theorem p_X_C_tag {v : Int32} (cx : fX rn_X cc nL p c s m args x) (hP : fP x S H) (hS : fS x H0 H locs) (hv : fv x 7 i) (hd : decode cc pc = .ok (.putfield 134, 3)) (kk : ∀ (H1 : Heap) (locs1 : List Loc), fP x (sI S 7 i 9 v) H1 → fS x H0 H1 locs1 → W p l e R s m args below meth c H1 locs1 cells slots Q (F0 m (pc + 3) ls rest)) : W p l e R s m args below meth c H locs cells slots Q (F0 m pc ls (.int v :: .ref (xa x 7 i) :: rest)) := f_put cx hP hS (hv.at S) rfl rfl wf_C ty_C tk_C nm_C 9 (by decide) fl_X_C_tag (fun _ h => h) rfl (ty := .int) (by decide +kernel) rfl rfl (Nat.le_of_ble_eq_true rfl) (by show fcr x 7 i (mI (sI S 7 i 9 v) 7 i) (mJ S 7 i) (mB S 7 i) (mA S 7 i) (mU S 7 i) = _; rw [mI_row]; rfl) fc_sI rfl hd kk
theorem p_X_L_fragment {v : Int64} (cx : fX rn_X cc nL p c s m args x) (hP : fP x S H) (hS : fS x H0 H locs) (hv : fvL x S a) (hd : decode cc pc = .ok (.putfield 199, 3)) (kk : ∀ (H1 : Heap) (locs1 : List Loc), fP x (sJ S 15 a 3 v) H1 → fS x H0 H1 locs1 → W p l e R s m args below meth c H1 locs1 cells slots Q (F0 m (pc + 3) ls rest)) : W p l e R s m args below meth c H locs cells slots Q (F0 m pc ls (.long v :: .ref a :: rest)) := f_put cx hP hS hv.at rfl rfl wf_L ty_L tk_L nm_L 3 (by decide) fl_X_L_fragment (fun _ h => h) rfl (ty := .long) (by decide +kernel) rfl rfl (Nat.le_of_ble_eq_true rfl) (by show fcr x 15 a (mI S 15 a) (mJ (sJ S 15 a 3 v) 15 a) (mB S 15 a) (mA S 15 a) (mU S 15 a) = _; rw [mJ_row]; rfl) fc_sJ rfl hd kk
theorem p_X_S_crashed {v : Bool} {w : Int32} (cx : fX rn_X cc nL p c s m args x) (hP : fP x S H) (hS : fS x H0 H locs) (hv : fv x 10 i) (hw : w = b2 v) (hd : decode cc pc = .ok (.putfield 123, 3)) (kk : ∀ (H1 : Heap) (locs1 : List Loc), fP x (sB S 10 i 5 v) H1 → fS x H0 H1 locs1 → W p l e R s m args below meth c H1 locs1 cells slots Q (F0 m (pc + 3) ls rest)) : W p l e R s m args below meth c H locs cells slots Q (F0 m pc ls (.int w :: .ref (xa x 10 i) :: rest)) := by subst hw; exact f_put cx hP hS (hv.at S) rfl rfl wf_S ty_S tk_S nm_S 5 (by decide) fl_X_S_crashed (fun _ h => h) rfl (ty := .boolean) (by decide +kernel) (b2_nar v) (b2_fit v) (Nat.le_of_ble_eq_true rfl) (by show fcr x 10 i (mI S 10 i) (mJ S 10 i) (mB (sB S 10 i 5 v) 10 i) (mA S 10 i) (mU S 10 i) = _; rw [mB_row]; rfl) fc_sB rfl hd kk
theorem p_X_X_crashes {v : Int32} (cx : fX rn_X cc nL p c s m args x) (hP : fP x S H) (hS : fS x H0 H locs) (hv : fv x 0 0) (hd : decode cc pc = .ok (.putfield 124, 3)) (kk : ∀ (H1 : Heap) (locs1 : List Loc), fP x (sI S 0 0 7 v) H1 → fS x H0 H1 locs1 → W p l e R s m args below meth c H1 locs1 cells slots Q (F0 m (pc + 3) ls rest)) : W p l e R s m args below meth c H locs cells slots Q (F0 m pc ls (.int v :: .ref (xa x 0 0) :: rest)) := f_put cx hP hS (hv.at S) rfl rfl wf_X ty_X tk_X nm_X 7 (by decide) fl_X_X_crashes (fun _ h => h) rfl (ty := .int) (by decide +kernel) rfl rfl (Nat.le_of_ble_eq_true rfl) (by show fcr x 0 0 (mI (sI S 0 0 7 v) 0 0) (mJ S 0 0) (mB S 0 0) (mA S 0 0) (mU S 0 0) = _; rw [mI_row]; rfl) fc_sI rfl hd kk
end FF
end
section
-- printed by wip/whole/gen/fields.py: a row for each call
section FC
variable {p : Program} {l : Launch} {e : Env} {R : Room} {s : State} {m : MethodId} {args : Array Value} {below : List Frame} {meth : Method} {c : Code} {H : Heap} {locs : List Loc} {cells slots : Nat} {Q : State → Prop}
variable {cc : ByteArray} {pc : Nat} {ls : Array Slot} {rest : List Value} {nL : Nat} {x : fy} {S : fm} {a i : Nat} {H0 : Heap}
theorem k_C_C_isAtWork {lv : List (Nat × Value)}  {r : Int32} {S' : fm} {rm : Room} {mc ms : Nat} (cx : fX rn_C cc nL p c s m args x) (hl : lv_has ls nL lv) (hP : fP x S H) (hS : fS x H0 H locs) (hv : fv x 7 i) (hM : Met l mn_C_isAtWork (gw_ws mn_C_isAtWork cb_C_isAtWork 1 (some .boolean)) rm (fPc x S [.ref (xa x 7 i)]) (fQi x S' r) mc ms (fun q => xs x ≤ q)) (hR : (rm.cells = mc ∧ rm.slots = ms) ∧ (rm.frames + 1 ≤ R.frames ∧ 8 + (1 + 11) + rm.locals ≤ R.locals) ∧ cells + mc ≤ R.cells ∧ slots + ms ≤ R.slots) (hst : (rest.map fun v => v.category).sum ≤ 8) (hd : decode cc pc = .ok (.invokevirtual 42, 3)) (kk : ∀ (H1 : Heap) (locs1 : List Loc), fP x S' H1 → fS x H0 H1 locs1 → W p l e R s m args below meth c H1 locs1 (cells + mc) (slots + ms) Q (F0 m (pc + 3) ls (.int r :: rest))) : W p l e R s m args below meth c H locs cells slots Q (F0 m pc ls (.ref (xa x 7 i) :: rest)) := f_calli (f_runV (n := 0) (ci := 0) (As := []) co_C_isAtWork ml_C_C_isAtWork im_C_isAtWork se_C_isAtWork in_C (by decide +kernel) rfl rfl cx hl hP (hv.at S) rfl hM hR.1.1 hR.1.2 hR.2.1 hR.2.2 hst hd) hS kk
theorem k_C_J_max {lv : List (Nat × Value)} {y z : Int32} (cx : fX rn_C cc nL p c s m args x) (hl : lv_has ls nL lv) (hR : 1 ≤ R.frames ∧ (rest.map fun v => v.category).sum + 13 ≤ R.locals ∧ cells ≤ R.cells ∧ slots ≤ R.slots) (hd : decode cc pc = .ok (.invokestatic 52, 3)) (kk : W p l e R s m args below meth c H locs cells slots Q (F0 m (pc + 3) ls (.int (if z < y then y else z) :: rest))) : W p l e R s m args below meth c H locs cells slots Q (F0 m pc ls (.int y :: .int z :: rest)) := va_mmax cx.1.1 cx.1.2.1 (by rw [cx.1.2.2.1]; exact hl.1.symm) cx.1.2.2.2.1 (cx.1.2.2.2.2 _ ml_C_J_max) (cx.1.2.2.2.2 _ st_J_max) (cx.1.2.2.2.2 _ in_J) (cx.1.2.2.2.2 _ co_J_max) hR.1 hR.2.1 hR.2.2.1 hR.2.2.2 hd kk
theorem k_K_K_byteAt {lv : List (Nat × Value)} {v0 : Int64} {v1 : Int32} {r : Int32} {S' : fm} {rm : Room} {mc ms : Nat} (cx : fX rn_K cc nL p c s m args x) (hl : lv_has ls nL lv) (hP : fP x S H) (hS : fS x H0 H locs)  (hM : Met l mn_K_byteAt (gw_ws mn_K_byteAt cb_K_byteAt 3 (some .int)) rm (fPc x S [.long v0, .int v1]) (fQi x S' r) mc ms (fun q => xs x ≤ q)) (hR : (rm.cells = mc ∧ rm.slots = ms) ∧ (rm.frames + 1 ≤ R.frames ∧ 8 + (3 + 11) + rm.locals ≤ R.locals) ∧ cells + mc ≤ R.cells ∧ slots + ms ≤ R.slots) (hst : (rest.map fun v => v.category).sum ≤ 8) (hd : decode cc pc = .ok (.invokestatic 30, 3)) (kk : ∀ (H1 : Heap) (locs1 : List Loc), fP x S' H1 → fS x H0 H1 locs1 → W p l e R s m args below meth c H1 locs1 (cells + mc) (slots + ms) Q (F0 m (pc + 3) ls (.int r :: rest))) : W p l e R s m args below meth c H locs cells slots Q (F0 m pc ls (.int v1 :: .long v0 :: rest)) := f_calli (f_runS (n := 2) (As := [.long v0, .int v1]) co_K_byteAt ml_K_K_byteAt st_K_byteAt in_K (by decide +kernel) rfl cx hl hP hM hR.1.1 hR.1.2 hR.2.1 hR.2.2 hst hd) hS kk
theorem k_K_K_interpolate {lv : List (Nat × Value)} {v0 : Nat} {S' : fm} {rm : Room} {mc ms : Nat} (cx : fX rn_K cc nL p c s m args x) (hl : lv_has ls nL lv) (hP : fP x S H) (hS : fS x H0 H locs) (hv : fv x 1 0) (hM : Met l mn_K_interpolate (gw_ws mn_K_interpolate cb_K_interpolate 5 none) rm (fPc x S [.ref (xa x 1 0), .ref v0]) (fQv x S') mc ms (fun q => xs x ≤ q)) (hR : (rm.cells = mc ∧ rm.slots = ms) ∧ (rm.frames + 1 ≤ R.frames ∧ 8 + (5 + 11) + rm.locals ≤ R.locals) ∧ cells + mc ≤ R.cells ∧ slots + ms ≤ R.slots) (hst : (rest.map fun v => v.category).sum ≤ 8) (hd : decode cc pc = .ok (.invokevirtual 38, 3)) (kk : ∀ (H1 : Heap) (locs1 : List Loc), fP x S' H1 → fS x H0 H1 locs1 → W p l e R s m args below meth c H1 locs1 (cells + mc) (slots + ms) Q (F0 m (pc + 3) ls (rest))) : W p l e R s m args below meth c H locs cells slots Q (F0 m pc ls (.ref v0 :: .ref (xa x 1 0) :: rest)) := f_callv (f_runV (n := 1) (ci := 1) (As := [.ref v0]) co_K_interpolate ml_K_K_interpolate im_K_interpolate se_K_interpolate in_K (by decide +kernel) rfl rfl cx hl hP (hv.at S) rfl hM hR.1.1 hR.1.2 hR.2.1 hR.2.2 hst hd) hS kk
theorem k_K_K_inverse {lv : List (Nat × Value)} {v0 : Int32} {r : Int32} {S' : fm} {rm : Room} {mc ms : Nat} (cx : fX rn_K cc nL p c s m args x) (hl : lv_has ls nL lv) (hP : fP x S H) (hS : fS x H0 H locs)  (hM : Met l mn_K_inverse (gw_ws mn_K_inverse cb_K_inverse 4 (some .int)) rm (fPc x S [.int v0]) (fQi x S' r) mc ms (fun q => xs x ≤ q)) (hR : (rm.cells = mc ∧ rm.slots = ms) ∧ (rm.frames + 1 ≤ R.frames ∧ 8 + (4 + 11) + rm.locals ≤ R.locals) ∧ cells + mc ≤ R.cells ∧ slots + ms ≤ R.slots) (hst : (rest.map fun v => v.category).sum ≤ 8) (hd : decode cc pc = .ok (.invokestatic 42, 3)) (kk : ∀ (H1 : Heap) (locs1 : List Loc), fP x S' H1 → fS x H0 H1 locs1 → W p l e R s m args below meth c H1 locs1 (cells + mc) (slots + ms) Q (F0 m (pc + 3) ls (.int r :: rest))) : W p l e R s m args below meth c H locs cells slots Q (F0 m pc ls (.int v0 :: rest)) := f_calli (f_runS (n := 1) (As := [.int v0]) co_K_inverse ml_K_K_inverse st_K_inverse in_K (by decide +kernel) rfl cx hl hP hM hR.1.1 hR.1.2 hR.2.1 hR.2.2 hst hd) hS kk
theorem k_K_K_placed {lv : List (Nat × Value)} {v0 : Int32} {v1 : Int32} {r : Int64} {S' : fm} {rm : Room} {mc ms : Nat} (cx : fX rn_K cc nL p c s m args x) (hl : lv_has ls nL lv) (hP : fP x S H) (hS : fS x H0 H locs)  (hM : Met l mn_K_placed (gw_ws mn_K_placed cb_K_placed 2 (some .long)) rm (fPc x S [.int v0, .int v1]) (fQl x S' r) mc ms (fun q => xs x ≤ q)) (hR : (rm.cells = mc ∧ rm.slots = ms) ∧ (rm.frames + 1 ≤ R.frames ∧ 8 + (2 + 11) + rm.locals ≤ R.locals) ∧ cells + mc ≤ R.cells ∧ slots + ms ≤ R.slots) (hst : (rest.map fun v => v.category).sum ≤ 8) (hd : decode cc pc = .ok (.invokestatic 34, 3)) (kk : ∀ (H1 : Heap) (locs1 : List Loc), fP x S' H1 → fS x H0 H1 locs1 → W p l e R s m args below meth c H1 locs1 (cells + mc) (slots + ms) Q (F0 m (pc + 3) ls (.long r :: rest))) : W p l e R s m args below meth c H locs cells slots Q (F0 m pc ls (.int v1 :: .int v0 :: rest)) := f_calll (f_runS (n := 2) (As := [.int v0, .int v1]) co_K_placed ml_K_K_placed st_K_placed in_K (by decide +kernel) rfl cx hl hP hM hR.1.1 hR.1.2 hR.2.1 hR.2.2 hst hd) hS kk
theorem k_K_K_pointOf {lv : List (Nat × Value)} {v0 : Int32} {r : Int32} {S' : fm} {rm : Room} {mc ms : Nat} (cx : fX rn_K cc nL p c s m args x) (hl : lv_has ls nL lv) (hP : fP x S H) (hS : fS x H0 H locs)  (hM : Met l mn_K_pointOf (gw_ws mn_K_pointOf cb_K_pointOf 1 (some .int)) rm (fPc x S [.int v0]) (fQi x S' r) mc ms (fun q => xs x ≤ q)) (hR : (rm.cells = mc ∧ rm.slots = ms) ∧ (rm.frames + 1 ≤ R.frames ∧ 8 + (1 + 11) + rm.locals ≤ R.locals) ∧ cells + mc ≤ R.cells ∧ slots + ms ≤ R.slots) (hst : (rest.map fun v => v.category).sum ≤ 8) (hd : decode cc pc = .ok (.invokestatic 22, 3)) (kk : ∀ (H1 : Heap) (locs1 : List Loc), fP x S' H1 → fS x H0 H1 locs1 → W p l e R s m args below meth c H1 locs1 (cells + mc) (slots + ms) Q (F0 m (pc + 3) ls (.int r :: rest))) : W p l e R s m args below meth c H locs cells slots Q (F0 m pc ls (.int v0 :: rest)) := f_calli (f_runS (n := 1) (As := [.int v0]) co_K_pointOf ml_K_K_pointOf st_K_pointOf in_K (by decide +kernel) rfl cx hl hP hM hR.1.1 hR.1.2 hR.2.1 hR.2.2 hst hd) hS kk
theorem k_K_K_times {lv : List (Nat × Value)} {v0 : Int32} {v1 : Int32} {r : Int32} {S' : fm} {rm : Room} {mc ms : Nat} (cx : fX rn_K cc nL p c s m args x) (hl : lv_has ls nL lv) (hP : fP x S H) (hS : fS x H0 H locs)  (hM : Met l mn_K_times (gw_ws mn_K_times cb_K_times 5 (some .int)) rm (fPc x S [.int v0, .int v1]) (fQi x S' r) mc ms (fun q => xs x ≤ q)) (hR : (rm.cells = mc ∧ rm.slots = ms) ∧ (rm.frames + 1 ≤ R.frames ∧ 8 + (5 + 11) + rm.locals ≤ R.locals) ∧ cells + mc ≤ R.cells ∧ slots + ms ≤ R.slots) (hst : (rest.map fun v => v.category).sum ≤ 8) (hd : decode cc pc = .ok (.invokestatic 26, 3)) (kk : ∀ (H1 : Heap) (locs1 : List Loc), fP x S' H1 → fS x H0 H1 locs1 → W p l e R s m args below meth c H1 locs1 (cells + mc) (slots + ms) Q (F0 m (pc + 3) ls (.int r :: rest))) : W p l e R s m args below meth c H locs cells slots Q (F0 m pc ls (.int v1 :: .int v0 :: rest)) := f_calli (f_runS (n := 2) (As := [.int v0, .int v1]) co_K_times ml_K_K_times st_K_times in_K (by decide +kernel) rfl cx hl hP hM hR.1.1 hR.1.2 hR.2.1 hR.2.2 hst hd) hS kk
theorem k_M_M_begin {lv : List (Nat × Value)} {v0 : Int32} {v1 : Int32} {S' : fm} {rm : Room} {mc ms : Nat} (cx : fX rn_M cc nL p c s m args x) (hl : lv_has ls nL lv) (hP : fP x S H) (hS : fS x H0 H locs) (hv : fv x 16 0) (hM : Met l mn_M_begin (gw_ws mn_M_begin cb_M_begin 4 none) rm (fPc x S [.ref (xa x 16 0), .int v0, .int v1]) (fQv x S') mc ms (fun q => xs x ≤ q)) (hR : (rm.cells = mc ∧ rm.slots = ms) ∧ (rm.frames + 1 ≤ R.frames ∧ 8 + (4 + 11) + rm.locals ≤ R.locals) ∧ cells + mc ≤ R.cells ∧ slots + ms ≤ R.slots) (hst : (rest.map fun v => v.category).sum ≤ 8) (hd : decode cc pc = .ok (.invokevirtual 116, 3)) (kk : ∀ (H1 : Heap) (locs1 : List Loc), fP x S' H1 → fS x H0 H1 locs1 → W p l e R s m args below meth c H1 locs1 (cells + mc) (slots + ms) Q (F0 m (pc + 3) ls (rest))) : W p l e R s m args below meth c H locs cells slots Q (F0 m pc ls (.int v1 :: .int v0 :: .ref (xa x 16 0) :: rest)) := f_callv (f_runV (n := 2) (ci := 6) (As := [.int v0, .int v1]) co_M_begin ml_M_M_begin im_M_begin se_M_begin in_M (by decide +kernel) rfl rfl cx hl hP (hv.at S) rfl hM hR.1.1 hR.1.2 hR.2.1 hR.2.2 hst hd) hS kk
theorem k_M_M_count {lv : List (Nat × Value)} {v0 : Int32} {v1 : Int32} {v2 : Int32} {r : Int32} {S' : fm} {rm : Room} {mc ms : Nat} (cx : fX rn_M cc nL p c s m args x) (hl : lv_has ls nL lv) (hP : fP x S H) (hS : fS x H0 H locs) (hv : fv x 16 0) (hM : Met l mn_M_count (gw_ws mn_M_count cb_M_count 6 (some .int)) rm (fPc x S [.ref (xa x 16 0), .int v0, .int v1, .int v2]) (fQi x S' r) mc ms (fun q => xs x ≤ q)) (hR : (rm.cells = mc ∧ rm.slots = ms) ∧ (rm.frames + 1 ≤ R.frames ∧ 8 + (6 + 11) + rm.locals ≤ R.locals) ∧ cells + mc ≤ R.cells ∧ slots + ms ≤ R.slots) (hst : (rest.map fun v => v.category).sum ≤ 8) (hd : decode cc pc = .ok (.invokevirtual 101, 3)) (kk : ∀ (H1 : Heap) (locs1 : List Loc), fP x S' H1 → fS x H0 H1 locs1 → W p l e R s m args below meth c H1 locs1 (cells + mc) (slots + ms) Q (F0 m (pc + 3) ls (.int r :: rest))) : W p l e R s m args below meth c H locs cells slots Q (F0 m pc ls (.int v2 :: .int v1 :: .int v0 :: .ref (xa x 16 0) :: rest)) := f_calli (f_runV (n := 3) (ci := 6) (As := [.int v0, .int v1, .int v2]) co_M_count ml_M_M_count im_M_count se_M_count in_M (by decide +kernel) rfl rfl cx hl hP (hv.at S) rfl hM hR.1.1 hR.1.2 hR.2.1 hR.2.2 hst hd) hS kk
theorem k_M_M_crowded {lv : List (Nat × Value)} {v0 : Int32} {r : Int32} {S' : fm} {rm : Room} {mc ms : Nat} (cx : fX rn_M cc nL p c s m args x) (hl : lv_has ls nL lv) (hP : fP x S H) (hS : fS x H0 H locs) (hv : fv x 16 0) (hM : Met l mn_M_crowded (gw_ws mn_M_crowded cb_M_crowded 5 (some .boolean)) rm (fPc x S [.ref (xa x 16 0), .int v0]) (fQi x S' r) mc ms (fun q => xs x ≤ q)) (hR : (rm.cells = mc ∧ rm.slots = ms) ∧ (rm.frames + 1 ≤ R.frames ∧ 8 + (5 + 11) + rm.locals ≤ R.locals) ∧ cells + mc ≤ R.cells ∧ slots + ms ≤ R.slots) (hst : (rest.map fun v => v.category).sum ≤ 8) (hd : decode cc pc = .ok (.invokevirtual 109, 3)) (kk : ∀ (H1 : Heap) (locs1 : List Loc), fP x S' H1 → fS x H0 H1 locs1 → W p l e R s m args below meth c H1 locs1 (cells + mc) (slots + ms) Q (F0 m (pc + 3) ls (.int r :: rest))) : W p l e R s m args below meth c H locs cells slots Q (F0 m pc ls (.int v0 :: .ref (xa x 16 0) :: rest)) := f_calli (f_runV (n := 1) (ci := 6) (As := [.int v0]) co_M_crowded ml_M_M_crowded im_M_crowded se_M_crowded in_M (by decide +kernel) rfl rfl cx hl hP (hv.at S) rfl hM hR.1.1 hR.1.2 hR.2.1 hR.2.2 hst hd) hS kk
theorem k_M_M_lose {lv : List (Nat × Value)} {v0 : Int32} {S' : fm} {rm : Room} {mc ms : Nat} (cx : fX rn_M cc nL p c s m args x) (hl : lv_has ls nL lv) (hP : fP x S H) (hS : fS x H0 H locs) (hv : fv x 16 0) (hM : Met l mn_M_lose (gw_ws mn_M_lose cb_M_lose 3 none) rm (fPc x S [.ref (xa x 16 0), .int v0]) (fQv x S') mc ms (fun q => xs x ≤ q)) (hR : (rm.cells = mc ∧ rm.slots = ms) ∧ (rm.frames + 1 ≤ R.frames ∧ 8 + (3 + 11) + rm.locals ≤ R.locals) ∧ cells + mc ≤ R.cells ∧ slots + ms ≤ R.slots) (hst : (rest.map fun v => v.category).sum ≤ 8) (hd : decode cc pc = .ok (.invokevirtual 132, 3)) (kk : ∀ (H1 : Heap) (locs1 : List Loc), fP x S' H1 → fS x H0 H1 locs1 → W p l e R s m args below meth c H1 locs1 (cells + mc) (slots + ms) Q (F0 m (pc + 3) ls (rest))) : W p l e R s m args below meth c H locs cells slots Q (F0 m pc ls (.int v0 :: .ref (xa x 16 0) :: rest)) := f_callv (f_runV (n := 1) (ci := 6) (As := [.int v0]) co_M_lose ml_M_M_lose im_M_lose se_M_lose in_M (by decide +kernel) rfl rfl cx hl hP (hv.at S) rfl hM hR.1.1 hR.1.2 hR.2.1 hR.2.2 hst hd) hS kk
theorem k_M_M_noClient {lv : List (Nat × Value)} {v0 : Int32} {r : Int32} {S' : fm} {rm : Room} {mc ms : Nat} (cx : fX rn_M cc nL p c s m args x) (hl : lv_has ls nL lv) (hP : fP x S H) (hS : fS x H0 H locs) (hv : fv x 16 0) (hM : Met l mn_M_noClient (gw_ws mn_M_noClient cb_M_noClient 2 (some .boolean)) rm (fPc x S [.ref (xa x 16 0), .int v0]) (fQi x S' r) mc ms (fun q => xs x ≤ q)) (hR : (rm.cells = mc ∧ rm.slots = ms) ∧ (rm.frames + 1 ≤ R.frames ∧ 8 + (2 + 11) + rm.locals ≤ R.locals) ∧ cells + mc ≤ R.cells ∧ slots + ms ≤ R.slots) (hst : (rest.map fun v => v.category).sum ≤ 8) (hd : decode cc pc = .ok (.invokevirtual 94, 3)) (kk : ∀ (H1 : Heap) (locs1 : List Loc), fP x S' H1 → fS x H0 H1 locs1 → W p l e R s m args below meth c H1 locs1 (cells + mc) (slots + ms) Q (F0 m (pc + 3) ls (.int r :: rest))) : W p l e R s m args below meth c H locs cells slots Q (F0 m pc ls (.int v0 :: .ref (xa x 16 0) :: rest)) := f_calli (f_runV (n := 1) (ci := 6) (As := [.int v0]) co_M_noClient ml_M_M_noClient im_M_noClient se_M_noClient in_M (by decide +kernel) rfl rfl cx hl hP (hv.at S) rfl hM hR.1.1 hR.1.2 hR.2.1 hR.2.2 hst hd) hS kk
theorem k_M_M_noServer {lv : List (Nat × Value)} {v0 : Int32} {r : Int32} {S' : fm} {rm : Room} {mc ms : Nat} (cx : fX rn_M cc nL p c s m args x) (hl : lv_has ls nL lv) (hP : fP x S H) (hS : fS x H0 H locs) (hv : fv x 16 0) (hM : Met l mn_M_noServer (gw_ws mn_M_noServer cb_M_noServer 2 (some .boolean)) rm (fPc x S [.ref (xa x 16 0), .int v0]) (fQi x S' r) mc ms (fun q => xs x ≤ q)) (hR : (rm.cells = mc ∧ rm.slots = ms) ∧ (rm.frames + 1 ≤ R.frames ∧ 8 + (2 + 11) + rm.locals ≤ R.locals) ∧ cells + mc ≤ R.cells ∧ slots + ms ≤ R.slots) (hst : (rest.map fun v => v.category).sum ≤ 8) (hd : decode cc pc = .ok (.invokevirtual 98, 3)) (kk : ∀ (H1 : Heap) (locs1 : List Loc), fP x S' H1 → fS x H0 H1 locs1 → W p l e R s m args below meth c H1 locs1 (cells + mc) (slots + ms) Q (F0 m (pc + 3) ls (.int r :: rest))) : W p l e R s m args below meth c H locs cells slots Q (F0 m pc ls (.int v0 :: .ref (xa x 16 0) :: rest)) := f_calli (f_runV (n := 1) (ci := 6) (As := [.int v0]) co_M_noServer ml_M_M_noServer im_M_noServer se_M_noServer in_M (by decide +kernel) rfl rfl cx hl hP (hv.at S) rfl hM hR.1.1 hR.1.2 hR.2.1 hR.2.2 hst hd) hS kk
theorem k_M_M_onwards {lv : List (Nat × Value)} {v0 : Int32} {r : Int32} {S' : fm} {rm : Room} {mc ms : Nat} (cx : fX rn_M cc nL p c s m args x) (hl : lv_has ls nL lv) (hP : fP x S H) (hS : fS x H0 H locs) (hv : fv x 16 0) (hM : Met l mn_M_onwards (gw_ws mn_M_onwards cb_M_onwards 3 (some .int)) rm (fPc x S [.ref (xa x 16 0), .int v0]) (fQi x S' r) mc ms (fun q => xs x ≤ q)) (hR : (rm.cells = mc ∧ rm.slots = ms) ∧ (rm.frames + 1 ≤ R.frames ∧ 8 + (3 + 11) + rm.locals ≤ R.locals) ∧ cells + mc ≤ R.cells ∧ slots + ms ≤ R.slots) (hst : (rest.map fun v => v.category).sum ≤ 8) (hd : decode cc pc = .ok (.invokevirtual 140, 3)) (kk : ∀ (H1 : Heap) (locs1 : List Loc), fP x S' H1 → fS x H0 H1 locs1 → W p l e R s m args below meth c H1 locs1 (cells + mc) (slots + ms) Q (F0 m (pc + 3) ls (.int r :: rest))) : W p l e R s m args below meth c H locs cells slots Q (F0 m pc ls (.int v0 :: .ref (xa x 16 0) :: rest)) := f_calli (f_runV (n := 1) (ci := 6) (As := [.int v0]) co_M_onwards ml_M_M_onwards im_M_onwards se_M_onwards in_M (by decide +kernel) rfl rfl cx hl hP (hv.at S) rfl hM hR.1.1 hR.1.2 hR.2.1 hR.2.2 hst hd) hS kk
theorem k_M_M_place {lv : List (Nat × Value)} {v0 : Int32} {v1 : Int32} {r : Int32} {S' : fm} {rm : Room} {mc ms : Nat} (cx : fX rn_M cc nL p c s m args x) (hl : lv_has ls nL lv) (hP : fP x S H) (hS : fS x H0 H locs) (hv : fv x 16 0) (hM : Met l mn_M_place (gw_ws mn_M_place cb_M_place 4 (some .int)) rm (fPc x S [.ref (xa x 16 0), .int v0, .int v1]) (fQi x S' r) mc ms (fun q => xs x ≤ q)) (hR : (rm.cells = mc ∧ rm.slots = ms) ∧ (rm.frames + 1 ≤ R.frames ∧ 8 + (4 + 11) + rm.locals ≤ R.locals) ∧ cells + mc ≤ R.cells ∧ slots + ms ≤ R.slots) (hst : (rest.map fun v => v.category).sum ≤ 8) (hd : decode cc pc = .ok (.invokevirtual 124, 3)) (kk : ∀ (H1 : Heap) (locs1 : List Loc), fP x S' H1 → fS x H0 H1 locs1 → W p l e R s m args below meth c H1 locs1 (cells + mc) (slots + ms) Q (F0 m (pc + 3) ls (.int r :: rest))) : W p l e R s m args below meth c H locs cells slots Q (F0 m pc ls (.int v1 :: .int v0 :: .ref (xa x 16 0) :: rest)) := f_calli (f_runV (n := 2) (ci := 6) (As := [.int v0, .int v1]) co_M_place ml_M_M_place im_M_place se_M_place in_M (by decide +kernel) rfl rfl cx hl hP (hv.at S) rfl hM hR.1.1 hR.1.2 hR.2.1 hR.2.2 hst hd) hS kk
theorem k_M_M_product {lv : List (Nat × Value)} {v0 : Int32} {v1 : Int32} {r : Int32} {S' : fm} {rm : Room} {mc ms : Nat} (cx : fX rn_M cc nL p c s m args x) (hl : lv_has ls nL lv) (hP : fP x S H) (hS : fS x H0 H locs) (hv : fv x 16 0) (hM : Met l mn_M_product (gw_ws mn_M_product cb_M_product 5 (some .int)) rm (fPc x S [.ref (xa x 16 0), .int v0, .int v1]) (fQi x S' r) mc ms (fun q => xs x ≤ q)) (hR : (rm.cells = mc ∧ rm.slots = ms) ∧ (rm.frames + 1 ≤ R.frames ∧ 8 + (5 + 11) + rm.locals ≤ R.locals) ∧ cells + mc ≤ R.cells ∧ slots + ms ≤ R.slots) (hst : (rest.map fun v => v.category).sum ≤ 8) (hd : decode cc pc = .ok (.invokevirtual 145, 3)) (kk : ∀ (H1 : Heap) (locs1 : List Loc), fP x S' H1 → fS x H0 H1 locs1 → W p l e R s m args below meth c H1 locs1 (cells + mc) (slots + ms) Q (F0 m (pc + 3) ls (.int r :: rest))) : W p l e R s m args below meth c H locs cells slots Q (F0 m pc ls (.int v1 :: .int v0 :: .ref (xa x 16 0) :: rest)) := f_calli (f_runV (n := 2) (ci := 6) (As := [.int v0, .int v1]) co_M_product ml_M_M_product im_M_product se_M_product in_M (by decide +kernel) rfl rfl cx hl hP (hv.at S) rfl hM hR.1.1 hR.1.2 hR.2.1 hR.2.2 hst hd) hS kk
theorem k_M_M_quorum {lv : List (Nat × Value)}  {r : Int32} {S' : fm} {rm : Room} {mc ms : Nat} (cx : fX rn_M cc nL p c s m args x) (hl : lv_has ls nL lv) (hP : fP x S H) (hS : fS x H0 H locs) (hv : fv x 16 0) (hM : Met l mn_M_quorum (gw_ws mn_M_quorum cb_M_quorum 1 (some .int)) rm (fPc x S [.ref (xa x 16 0)]) (fQi x S' r) mc ms (fun q => xs x ≤ q)) (hR : (rm.cells = mc ∧ rm.slots = ms) ∧ (rm.frames + 1 ≤ R.frames ∧ 8 + (1 + 11) + rm.locals ≤ R.locals) ∧ cells + mc ≤ R.cells ∧ slots + ms ≤ R.slots) (hst : (rest.map fun v => v.category).sum ≤ 8) (hd : decode cc pc = .ok (.invokevirtual 120, 3)) (kk : ∀ (H1 : Heap) (locs1 : List Loc), fP x S' H1 → fS x H0 H1 locs1 → W p l e R s m args below meth c H1 locs1 (cells + mc) (slots + ms) Q (F0 m (pc + 3) ls (.int r :: rest))) : W p l e R s m args below meth c H locs cells slots Q (F0 m pc ls (.ref (xa x 16 0) :: rest)) := f_calli (f_runV (n := 0) (ci := 6) (As := []) co_M_quorum ml_M_M_quorum im_M_quorum se_M_quorum in_M (by decide +kernel) rfl rfl cx hl hP (hv.at S) rfl hM hR.1.1 hR.1.2 hR.2.1 hR.2.2 hst hd) hS kk
theorem k_M_M_refusal {lv : List (Nat × Value)} {v0 : Int32} {r : Int32} {S' : fm} {rm : Room} {mc ms : Nat} (cx : fX rn_M cc nL p c s m args x) (hl : lv_has ls nL lv) (hP : fP x S H) (hS : fS x H0 H locs) (hv : fv x 16 0) (hM : Met l mn_M_refusal (gw_ws mn_M_refusal cb_M_refusal 2 (some .int)) rm (fPc x S [.ref (xa x 16 0), .int v0]) (fQi x S' r) mc ms (fun q => xs x ≤ q)) (hR : (rm.cells = mc ∧ rm.slots = ms) ∧ (rm.frames + 1 ≤ R.frames ∧ 8 + (2 + 11) + rm.locals ≤ R.locals) ∧ cells + mc ≤ R.cells ∧ slots + ms ≤ R.slots) (hst : (rest.map fun v => v.category).sum ≤ 8) (hd : decode cc pc = .ok (.invokevirtual 112, 3)) (kk : ∀ (H1 : Heap) (locs1 : List Loc), fP x S' H1 → fS x H0 H1 locs1 → W p l e R s m args below meth c H1 locs1 (cells + mc) (slots + ms) Q (F0 m (pc + 3) ls (.int r :: rest))) : W p l e R s m args below meth c H locs cells slots Q (F0 m pc ls (.int v0 :: .ref (xa x 16 0) :: rest)) := f_calli (f_runV (n := 1) (ci := 6) (As := [.int v0]) co_M_refusal ml_M_M_refusal im_M_refusal se_M_refusal in_M (by decide +kernel) rfl rfl cx hl hP (hv.at S) rfl hM hR.1.1 hR.1.2 hR.2.1 hR.2.2 hst hd) hS kk
theorem k_M_M_seek {lv : List (Nat × Value)} {v0 : Int32} {v1 : Int32} {v2 : Int32} {v3 : Int32} {r : Int32} {S' : fm} {rm : Room} {mc ms : Nat} (cx : fX rn_M cc nL p c s m args x) (hl : lv_has ls nL lv) (hP : fP x S H) (hS : fS x H0 H locs) (hv : fv x 16 0) (hM : Met l mn_M_seek (gw_ws mn_M_seek cb_M_seek 7 (some .int)) rm (fPc x S [.ref (xa x 16 0), .int v0, .int v1, .int v2, .int v3]) (fQi x S' r) mc ms (fun q => xs x ≤ q)) (hR : (rm.cells = mc ∧ rm.slots = ms) ∧ (rm.frames + 1 ≤ R.frames ∧ 8 + (7 + 11) + rm.locals ≤ R.locals) ∧ cells + mc ≤ R.cells ∧ slots + ms ≤ R.slots) (hst : (rest.map fun v => v.category).sum ≤ 8) (hd : decode cc pc = .ok (.invokevirtual 128, 3)) (kk : ∀ (H1 : Heap) (locs1 : List Loc), fP x S' H1 → fS x H0 H1 locs1 → W p l e R s m args below meth c H1 locs1 (cells + mc) (slots + ms) Q (F0 m (pc + 3) ls (.int r :: rest))) : W p l e R s m args below meth c H locs cells slots Q (F0 m pc ls (.int v3 :: .int v2 :: .int v1 :: .int v0 :: .ref (xa x 16 0) :: rest)) := f_calli (f_runV (n := 4) (ci := 6) (As := [.int v0, .int v1, .int v2, .int v3]) co_M_seek ml_M_M_seek im_M_seek se_M_seek in_M (by decide +kernel) rfl rfl cx hl hP (hv.at S) rfl hM hR.1.1 hR.1.2 hR.2.1 hR.2.2 hst hd) hS kk
theorem k_M_M_send {lv : List (Nat × Value)} {v0 : Int32} {v1 : Int32} {v2 : Int32} {v3 : Int32} {v4 : Int32} {S' : fm} {rm : Room} {mc ms : Nat} (cx : fX rn_M cc nL p c s m args x) (hl : lv_has ls nL lv) (hP : fP x S H) (hS : fS x H0 H locs) (hv : fv x 16 0) (hM : Met l mn_M_send (gw_ws mn_M_send cb_M_send 6 none) rm (fPc x S [.ref (xa x 16 0), .int v0, .int v1, .int v2, .int v3, .int v4]) (fQv x S') mc ms (fun q => xs x ≤ q)) (hR : (rm.cells = mc ∧ rm.slots = ms) ∧ (rm.frames + 1 ≤ R.frames ∧ 8 + (6 + 11) + rm.locals ≤ R.locals) ∧ cells + mc ≤ R.cells ∧ slots + ms ≤ R.slots) (hst : (rest.map fun v => v.category).sum ≤ 8) (hd : decode cc pc = .ok (.invokevirtual 105, 3)) (kk : ∀ (H1 : Heap) (locs1 : List Loc), fP x S' H1 → fS x H0 H1 locs1 → W p l e R s m args below meth c H1 locs1 (cells + mc) (slots + ms) Q (F0 m (pc + 3) ls (rest))) : W p l e R s m args below meth c H locs cells slots Q (F0 m pc ls (.int v4 :: .int v3 :: .int v2 :: .int v1 :: .int v0 :: .ref (xa x 16 0) :: rest)) := f_callv (f_runV (n := 5) (ci := 6) (As := [.int v0, .int v1, .int v2, .int v3, .int v4]) co_M_send ml_M_M_send im_M_send se_M_send in_M (by decide +kernel) rfl rfl cx hl hP (hv.at S) rfl hM hR.1.1 hR.1.2 hR.2.1 hR.2.2 hst hd) hS kk
theorem k_M_M_store {lv : List (Nat × Value)} {v0 : Int32} {v1 : Int32} {v2 : Int64} {S' : fm} {rm : Room} {mc ms : Nat} (cx : fX rn_M cc nL p c s m args x) (hl : lv_has ls nL lv) (hP : fP x S H) (hS : fS x H0 H locs) (hv : fv x 16 0) (hM : Met l mn_M_store (gw_ws mn_M_store cb_M_store 8 none) rm (fPc x S [.ref (xa x 16 0), .int v0, .int v1, .long v2]) (fQv x S') mc ms (fun q => xs x ≤ q)) (hR : (rm.cells = mc ∧ rm.slots = ms) ∧ (rm.frames + 1 ≤ R.frames ∧ 8 + (8 + 11) + rm.locals ≤ R.locals) ∧ cells + mc ≤ R.cells ∧ slots + ms ≤ R.slots) (hst : (rest.map fun v => v.category).sum ≤ 8) (hd : decode cc pc = .ok (.invokevirtual 136, 3)) (kk : ∀ (H1 : Heap) (locs1 : List Loc), fP x S' H1 → fS x H0 H1 locs1 → W p l e R s m args below meth c H1 locs1 (cells + mc) (slots + ms) Q (F0 m (pc + 3) ls (rest))) : W p l e R s m args below meth c H locs cells slots Q (F0 m pc ls (.long v2 :: .int v1 :: .int v0 :: .ref (xa x 16 0) :: rest)) := f_callv (f_runV (n := 3) (ci := 6) (As := [.int v0, .int v1, .long v2]) co_M_store ml_M_M_store im_M_store se_M_store in_M (by decide +kernel) rfl rfl cx hl hP (hv.at S) rfl hM hR.1.1 hR.1.2 hR.2.1 hR.2.2 hst hd) hS kk
theorem k_S_J_max {lv : List (Nat × Value)} {y z : Int32} (cx : fX rn_S cc nL p c s m args x) (hl : lv_has ls nL lv) (hR : 1 ≤ R.frames ∧ (rest.map fun v => v.category).sum + 13 ≤ R.locals ∧ cells ≤ R.cells ∧ slots ≤ R.slots) (hd : decode cc pc = .ok (.invokestatic 60, 3)) (kk : W p l e R s m args below meth c H locs cells slots Q (F0 m (pc + 3) ls (.int (if z < y then y else z) :: rest))) : W p l e R s m args below meth c H locs cells slots Q (F0 m pc ls (.int y :: .int z :: rest)) := va_mmax cx.1.1 cx.1.2.1 (by rw [cx.1.2.2.1]; exact hl.1.symm) cx.1.2.2.2.1 (cx.1.2.2.2.2 _ ml_S_J_max) (cx.1.2.2.2.2 _ st_J_max) (cx.1.2.2.2.2 _ in_J) (cx.1.2.2.2.2 _ co_J_max) hR.1 hR.2.1 hR.2.2.1 hR.2.2.2 hd kk
theorem k_S_J_min {lv : List (Nat × Value)} {y z : Int32} (cx : fX rn_S cc nL p c s m args x) (hl : lv_has ls nL lv) (hR : 1 ≤ R.frames ∧ (rest.map fun v => v.category).sum + 13 ≤ R.locals ∧ cells ≤ R.cells ∧ slots ≤ R.slots) (hd : decode cc pc = .ok (.invokestatic 54, 3)) (kk : W p l e R s m args below meth c H locs cells slots Q (F0 m (pc + 3) ls (.int (if y < z then y else z) :: rest))) : W p l e R s m args below meth c H locs cells slots Q (F0 m pc ls (.int y :: .int z :: rest)) := va_mmin cx.1.1 cx.1.2.1 (by rw [cx.1.2.2.1]; exact hl.1.symm) cx.1.2.2.2.1 (cx.1.2.2.2.2 _ ml_S_J_min) (cx.1.2.2.2.2 _ st_J_min) (cx.1.2.2.2.2 _ in_J) (cx.1.2.2.2.2 _ co_J_min) hR.1 hR.2.1 hR.2.2.1 hR.2.2.2 hd kk
theorem k_S_S_enclose {lv : List (Nat × Value)} {v0 : Nat} {S' : fm} {rm : Room} {mc ms : Nat} (cx : fX rn_S cc nL p c s m args x) (hl : lv_has ls nL lv) (hP : fP x S H) (hS : fS x H0 H locs) (hv : fv x 10 i) (hM : Met l mn_S_enclose (gw_ws mn_S_enclose cb_S_enclose 3 none) rm (fPc x S [.ref (xa x 10 i), .ref v0]) (fQv x S') mc ms (fun q => xs x ≤ q)) (hR : (rm.cells = mc ∧ rm.slots = ms) ∧ (rm.frames + 1 ≤ R.frames ∧ 8 + (3 + 11) + rm.locals ≤ R.locals) ∧ cells + mc ≤ R.cells ∧ slots + ms ≤ R.slots) (hst : (rest.map fun v => v.category).sum ≤ 8) (hd : decode cc pc = .ok (.invokevirtual 46, 3)) (kk : ∀ (H1 : Heap) (locs1 : List Loc), fP x S' H1 → fS x H0 H1 locs1 → W p l e R s m args below meth c H1 locs1 (cells + mc) (slots + ms) Q (F0 m (pc + 3) ls (rest))) : W p l e R s m args below meth c H locs cells slots Q (F0 m pc ls (.ref v0 :: .ref (xa x 10 i) :: rest)) := f_callv (f_runV (n := 1) (ci := 4) (As := [.ref v0]) co_S_enclose ml_S_S_enclose im_S_enclose se_S_enclose in_S (by decide +kernel) rfl rfl cx hl hP (hv.at S) rfl hM hR.1.1 hR.1.2 hR.2.1 hR.2.2 hst hd) hS kk
theorem k_S_S_placeOf {lv : List (Nat × Value)} {v0 : Int32} {r : Int32} {S' : fm} {rm : Room} {mc ms : Nat} (cx : fX rn_S cc nL p c s m args x) (hl : lv_has ls nL lv) (hP : fP x S H) (hS : fS x H0 H locs) (hv : fv x 10 i) (hM : Met l mn_S_placeOf (gw_ws mn_S_placeOf cb_S_placeOf 3 (some .int)) rm (fPc x S [.ref (xa x 10 i), .int v0]) (fQi x S' r) mc ms (fun q => xs x ≤ q)) (hR : (rm.cells = mc ∧ rm.slots = ms) ∧ (rm.frames + 1 ≤ R.frames ∧ 8 + (3 + 11) + rm.locals ≤ R.locals) ∧ cells + mc ≤ R.cells ∧ slots + ms ≤ R.slots) (hst : (rest.map fun v => v.category).sum ≤ 8) (hd : decode cc pc = .ok (.invokevirtual 63, 3)) (kk : ∀ (H1 : Heap) (locs1 : List Loc), fP x S' H1 → fS x H0 H1 locs1 → W p l e R s m args below meth c H1 locs1 (cells + mc) (slots + ms) Q (F0 m (pc + 3) ls (.int r :: rest))) : W p l e R s m args below meth c H locs cells slots Q (F0 m pc ls (.int v0 :: .ref (xa x 10 i) :: rest)) := f_calli (f_runV (n := 1) (ci := 4) (As := [.int v0]) co_S_placeOf ml_S_S_placeOf im_S_placeOf se_S_placeOf in_S (by decide +kernel) rfl rfl cx hl hP (hv.at S) rfl hM hR.1.1 hR.1.2 hR.2.1 hR.2.2 hst hd) hS kk
theorem k_S_S_raiseSeal {lv : List (Nat × Value)} {v0 : Int32} {S' : fm} {rm : Room} {mc ms : Nat} (cx : fX rn_S cc nL p c s m args x) (hl : lv_has ls nL lv) (hP : fP x S H) (hS : fS x H0 H locs) (hv : fv x 10 i) (hM : Met l mn_S_raiseSeal (gw_ws mn_S_raiseSeal cb_S_raiseSeal 2 none) rm (fPc x S [.ref (xa x 10 i), .int v0]) (fQv x S') mc ms (fun q => xs x ≤ q)) (hR : (rm.cells = mc ∧ rm.slots = ms) ∧ (rm.frames + 1 ≤ R.frames ∧ 8 + (2 + 11) + rm.locals ≤ R.locals) ∧ cells + mc ≤ R.cells ∧ slots + ms ≤ R.slots) (hst : (rest.map fun v => v.category).sum ≤ 8) (hd : decode cc pc = .ok (.invokevirtual 42, 3)) (kk : ∀ (H1 : Heap) (locs1 : List Loc), fP x S' H1 → fS x H0 H1 locs1 → W p l e R s m args below meth c H1 locs1 (cells + mc) (slots + ms) Q (F0 m (pc + 3) ls (rest))) : W p l e R s m args below meth c H locs cells slots Q (F0 m pc ls (.int v0 :: .ref (xa x 10 i) :: rest)) := f_callv (f_runV (n := 1) (ci := 4) (As := [.int v0]) co_S_raiseSeal ml_S_S_raiseSeal im_S_raiseSeal se_S_raiseSeal in_S (by decide +kernel) rfl rfl cx hl hP (hv.at S) rfl hM hR.1.1 hR.1.2 hR.2.1 hR.2.2 hst hd) hS kk
theorem k_S_S_store {lv : List (Nat × Value)} {v0 : Int32} {v1 : Int64} {S' : fm} {rm : Room} {mc ms : Nat} (cx : fX rn_S cc nL p c s m args x) (hl : lv_has ls nL lv) (hP : fP x S H) (hS : fS x H0 H locs) (hv : fv x 10 i) (hM : Met l mn_S_store (gw_ws mn_S_store cb_S_store 5 none) rm (fPc x S [.ref (xa x 10 i), .int v0, .long v1]) (fQv x S') mc ms (fun q => xs x ≤ q)) (hR : (rm.cells = mc ∧ rm.slots = ms) ∧ (rm.frames + 1 ≤ R.frames ∧ 8 + (5 + 11) + rm.locals ≤ R.locals) ∧ cells + mc ≤ R.cells ∧ slots + ms ≤ R.slots) (hst : (rest.map fun v => v.category).sum ≤ 8) (hd : decode cc pc = .ok (.invokevirtual 38, 3)) (kk : ∀ (H1 : Heap) (locs1 : List Loc), fP x S' H1 → fS x H0 H1 locs1 → W p l e R s m args below meth c H1 locs1 (cells + mc) (slots + ms) Q (F0 m (pc + 3) ls (rest))) : W p l e R s m args below meth c H locs cells slots Q (F0 m pc ls (.long v1 :: .int v0 :: .ref (xa x 10 i) :: rest)) := f_callv (f_runV (n := 2) (ci := 4) (As := [.int v0, .long v1]) co_S_store ml_S_S_store im_S_store se_S_store in_S (by decide +kernel) rfl rfl cx hl hP (hv.at S) rfl hM hR.1.1 hR.1.2 hR.2.1 hR.2.2 hst hd) hS kk
theorem k_W_M_again {lv : List (Nat × Value)} {v0 : Int32} {r : Int32} {S' : fm} {rm : Room} {mc ms : Nat} (cx : fX rn_W cc nL p c s m args x) (hl : lv_has ls nL lv) (hP : fP x S H) (hS : fS x H0 H locs) (hv : fv x 16 0) (hM : Met l mn_M_again (gw_ws mn_M_again cb_M_again 2 (some .int)) rm (fPc x S [.ref (xa x 16 0), .int v0]) (fQi x S' r) mc ms (fun q => xs x ≤ q)) (hR : (rm.cells = mc ∧ rm.slots = ms) ∧ (rm.frames + 1 ≤ R.frames ∧ 8 + (2 + 11) + rm.locals ≤ R.locals) ∧ cells + mc ≤ R.cells ∧ slots + ms ≤ R.slots) (hst : (rest.map fun v => v.category).sum ≤ 8) (hd : decode cc pc = .ok (.invokevirtual 36, 3)) (kk : ∀ (H1 : Heap) (locs1 : List Loc), fP x S' H1 → fS x H0 H1 locs1 → W p l e R s m args below meth c H1 locs1 (cells + mc) (slots + ms) Q (F0 m (pc + 3) ls (.int r :: rest))) : W p l e R s m args below meth c H locs cells slots Q (F0 m pc ls (.int v0 :: .ref (xa x 16 0) :: rest)) := f_calli (f_runV (n := 1) (ci := 6) (As := [.int v0]) co_M_again ml_W_M_again im_M_again se_M_again in_M (by decide +kernel) rfl rfl cx hl hP (hv.at S) rfl hM hR.1.1 hR.1.2 hR.2.1 hR.2.2 hst hd) hS kk
theorem k_W_M_crash {lv : List (Nat × Value)} {v0 : Int32} {r : Int32} {S' : fm} {rm : Room} {mc ms : Nat} (cx : fX rn_W cc nL p c s m args x) (hl : lv_has ls nL lv) (hP : fP x S H) (hS : fS x H0 H locs) (hv : fv x 16 0) (hM : Met l mn_M_crash (gw_ws mn_M_crash cb_M_crash 4 (some .boolean)) rm (fPc x S [.ref (xa x 16 0), .int v0]) (fQi x S' r) mc ms (fun q => xs x ≤ q)) (hR : (rm.cells = mc ∧ rm.slots = ms) ∧ (rm.frames + 1 ≤ R.frames ∧ 8 + (4 + 11) + rm.locals ≤ R.locals) ∧ cells + mc ≤ R.cells ∧ slots + ms ≤ R.slots) (hst : (rest.map fun v => v.category).sum ≤ 8) (hd : decode cc pc = .ok (.invokevirtual 50, 3)) (kk : ∀ (H1 : Heap) (locs1 : List Loc), fP x S' H1 → fS x H0 H1 locs1 → W p l e R s m args below meth c H1 locs1 (cells + mc) (slots + ms) Q (F0 m (pc + 3) ls (.int r :: rest))) : W p l e R s m args below meth c H locs cells slots Q (F0 m pc ls (.int v0 :: .ref (xa x 16 0) :: rest)) := f_calli (f_runV (n := 1) (ci := 6) (As := [.int v0]) co_M_crash ml_W_M_crash im_M_crash se_M_crash in_M (by decide +kernel) rfl rfl cx hl hP (hv.at S) rfl hM hR.1.1 hR.1.2 hR.2.1 hR.2.2 hst hd) hS kk
theorem k_W_M_deliver {lv : List (Nat × Value)} {v0 : Int32} {v1 : Int32} {v2 : Int32} {r : Int32} {S' : fm} {rm : Room} {mc ms : Nat} (cx : fX rn_W cc nL p c s m args x) (hl : lv_has ls nL lv) (hP : fP x S H) (hS : fS x H0 H locs) (hv : fv x 16 0) (hM : Met l mn_M_deliver (gw_ws mn_M_deliver cb_M_deliver 11 (some .int)) rm (fPc x S [.ref (xa x 16 0), .int v0, .int v1, .int v2]) (fQi x S' r) mc ms (fun q => xs x ≤ q)) (hR : (rm.cells = mc ∧ rm.slots = ms) ∧ (rm.frames + 1 ≤ R.frames ∧ 8 + (11 + 11) + rm.locals ≤ R.locals) ∧ cells + mc ≤ R.cells ∧ slots + ms ≤ R.slots) (hst : (rest.map fun v => v.category).sum ≤ 8) (hd : decode cc pc = .ok (.invokevirtual 41, 3)) (kk : ∀ (H1 : Heap) (locs1 : List Loc), fP x S' H1 → fS x H0 H1 locs1 → W p l e R s m args below meth c H1 locs1 (cells + mc) (slots + ms) Q (F0 m (pc + 3) ls (.int r :: rest))) : W p l e R s m args below meth c H locs cells slots Q (F0 m pc ls (.int v2 :: .int v1 :: .int v0 :: .ref (xa x 16 0) :: rest)) := f_calli (f_runV (n := 3) (ci := 6) (As := [.int v0, .int v1, .int v2]) co_M_deliver ml_W_M_deliver im_M_deliver se_M_deliver in_M (by decide +kernel) rfl rfl cx hl hP (hv.at S) rfl hM hR.1.1 hR.1.2 hR.2.1 hR.2.2 hst hd) hS kk
theorem k_W_M_finished {lv : List (Nat × Value)} {v0 : Int32} {r : Int32} {S' : fm} {rm : Room} {mc ms : Nat} (cx : fX rn_W cc nL p c s m args x) (hl : lv_has ls nL lv) (hP : fP x S H) (hS : fS x H0 H locs) (hv : fv x 16 0) (hM : Met l mn_M_finished (gw_ws mn_M_finished cb_M_finished 2 (some .int)) rm (fPc x S [.ref (xa x 16 0), .int v0]) (fQi x S' r) mc ms (fun q => xs x ≤ q)) (hR : (rm.cells = mc ∧ rm.slots = ms) ∧ (rm.frames + 1 ≤ R.frames ∧ 8 + (2 + 11) + rm.locals ≤ R.locals) ∧ cells + mc ≤ R.cells ∧ slots + ms ≤ R.slots) (hst : (rest.map fun v => v.category).sum ≤ 8) (hd : decode cc pc = .ok (.invokevirtual 75, 3)) (kk : ∀ (H1 : Heap) (locs1 : List Loc), fP x S' H1 → fS x H0 H1 locs1 → W p l e R s m args below meth c H1 locs1 (cells + mc) (slots + ms) Q (F0 m (pc + 3) ls (.int r :: rest))) : W p l e R s m args below meth c H locs cells slots Q (F0 m pc ls (.int v0 :: .ref (xa x 16 0) :: rest)) := f_calli (f_runV (n := 1) (ci := 6) (As := [.int v0]) co_M_finished ml_W_M_finished im_M_finished se_M_finished in_M (by decide +kernel) rfl rfl cx hl hP (hv.at S) rfl hM hR.1.1 hR.1.2 hR.2.1 hR.2.2 hst hd) hS kk
theorem k_W_M_fragment {lv : List (Nat × Value)} {v0 : Int32} {v1 : Int32} {v2 : Int32} {r : Int32} {S' : fm} {rm : Room} {mc ms : Nat} (cx : fX rn_W cc nL p c s m args x) (hl : lv_has ls nL lv) (hP : fP x S H) (hS : fS x H0 H locs) (hv : fv x 16 0) (hM : Met l mn_M_fragment (gw_ws mn_M_fragment cb_M_fragment 10 (some .int)) rm (fPc x S [.ref (xa x 16 0), .int v0, .int v1, .int v2]) (fQi x S' r) mc ms (fun q => xs x ≤ q)) (hR : (rm.cells = mc ∧ rm.slots = ms) ∧ (rm.frames + 1 ≤ R.frames ∧ 8 + (10 + 11) + rm.locals ≤ R.locals) ∧ cells + mc ≤ R.cells ∧ slots + ms ≤ R.slots) (hst : (rest.map fun v => v.category).sum ≤ 8) (hd : decode cc pc = .ok (.invokevirtual 88, 3)) (kk : ∀ (H1 : Heap) (locs1 : List Loc), fP x S' H1 → fS x H0 H1 locs1 → W p l e R s m args below meth c H1 locs1 (cells + mc) (slots + ms) Q (F0 m (pc + 3) ls (.int r :: rest))) : W p l e R s m args below meth c H locs cells slots Q (F0 m pc ls (.int v2 :: .int v1 :: .int v0 :: .ref (xa x 16 0) :: rest)) := f_calli (f_runV (n := 3) (ci := 6) (As := [.int v0, .int v1, .int v2]) co_M_fragment ml_W_M_fragment im_M_fragment se_M_fragment in_M (by decide +kernel) rfl rfl cx hl hP (hv.at S) rfl hM hR.1.1 hR.1.2 hR.2.1 hR.2.2 hst hd) hS kk
theorem k_W_M_hear {lv : List (Nat × Value)} {v0 : Int32} {v1 : Int32} {v2 : Int32} {r : Int32} {S' : fm} {rm : Room} {mc ms : Nat} (cx : fX rn_W cc nL p c s m args x) (hl : lv_has ls nL lv) (hP : fP x S H) (hS : fS x H0 H locs) (hv : fv x 16 0) (hM : Met l mn_M_hear (gw_ws mn_M_hear cb_M_hear 10 (some .int)) rm (fPc x S [.ref (xa x 16 0), .int v0, .int v1, .int v2]) (fQi x S' r) mc ms (fun q => xs x ≤ q)) (hR : (rm.cells = mc ∧ rm.slots = ms) ∧ (rm.frames + 1 ≤ R.frames ∧ 8 + (10 + 11) + rm.locals ≤ R.locals) ∧ cells + mc ≤ R.cells ∧ slots + ms ≤ R.slots) (hst : (rest.map fun v => v.category).sum ≤ 8) (hd : decode cc pc = .ok (.invokevirtual 45, 3)) (kk : ∀ (H1 : Heap) (locs1 : List Loc), fP x S' H1 → fS x H0 H1 locs1 → W p l e R s m args below meth c H1 locs1 (cells + mc) (slots + ms) Q (F0 m (pc + 3) ls (.int r :: rest))) : W p l e R s m args below meth c H locs cells slots Q (F0 m pc ls (.int v2 :: .int v1 :: .int v0 :: .ref (xa x 16 0) :: rest)) := f_calli (f_runV (n := 3) (ci := 6) (As := [.int v0, .int v1, .int v2]) co_M_hear ml_W_M_hear im_M_hear se_M_hear in_M (by decide +kernel) rfl rfl cx hl hP (hv.at S) rfl hM hR.1.1 hR.1.2 hR.2.1 hR.2.2 hst hd) hS kk
theorem k_W_M_heard {lv : List (Nat × Value)} {v0 : Int32} {r : Int32} {S' : fm} {rm : Room} {mc ms : Nat} (cx : fX rn_W cc nL p c s m args x) (hl : lv_has ls nL lv) (hP : fP x S H) (hS : fS x H0 H locs) (hv : fv x 16 0) (hM : Met l mn_M_heard (gw_ws mn_M_heard cb_M_heard 2 (some .int)) rm (fPc x S [.ref (xa x 16 0), .int v0]) (fQi x S' r) mc ms (fun q => xs x ≤ q)) (hR : (rm.cells = mc ∧ rm.slots = ms) ∧ (rm.frames + 1 ≤ R.frames ∧ 8 + (2 + 11) + rm.locals ≤ R.locals) ∧ cells + mc ≤ R.cells ∧ slots + ms ≤ R.slots) (hst : (rest.map fun v => v.category).sum ≤ 8) (hd : decode cc pc = .ok (.invokevirtual 62, 3)) (kk : ∀ (H1 : Heap) (locs1 : List Loc), fP x S' H1 → fS x H0 H1 locs1 → W p l e R s m args below meth c H1 locs1 (cells + mc) (slots + ms) Q (F0 m (pc + 3) ls (.int r :: rest))) : W p l e R s m args below meth c H locs cells slots Q (F0 m pc ls (.int v0 :: .ref (xa x 16 0) :: rest)) := f_calli (f_runV (n := 1) (ci := 6) (As := [.int v0]) co_M_heard ml_W_M_heard im_M_heard se_M_heard in_M (by decide +kernel) rfl rfl cx hl hP (hv.at S) rfl hM hR.1.1 hR.1.2 hR.2.1 hR.2.2 hst hd) hS kk
theorem k_W_M_held {lv : List (Nat × Value)} {v0 : Int32} {r : Int32} {S' : fm} {rm : Room} {mc ms : Nat} (cx : fX rn_W cc nL p c s m args x) (hl : lv_has ls nL lv) (hP : fP x S H) (hS : fS x H0 H locs) (hv : fv x 16 0) (hM : Met l mn_M_held (gw_ws mn_M_held cb_M_held 2 (some .int)) rm (fPc x S [.ref (xa x 16 0), .int v0]) (fQi x S' r) mc ms (fun q => xs x ≤ q)) (hR : (rm.cells = mc ∧ rm.slots = ms) ∧ (rm.frames + 1 ≤ R.frames ∧ 8 + (2 + 11) + rm.locals ≤ R.locals) ∧ cells + mc ≤ R.cells ∧ slots + ms ≤ R.slots) (hst : (rest.map fun v => v.category).sum ≤ 8) (hd : decode cc pc = .ok (.invokevirtual 79, 3)) (kk : ∀ (H1 : Heap) (locs1 : List Loc), fP x S' H1 → fS x H0 H1 locs1 → W p l e R s m args below meth c H1 locs1 (cells + mc) (slots + ms) Q (F0 m (pc + 3) ls (.int r :: rest))) : W p l e R s m args below meth c H locs cells slots Q (F0 m pc ls (.int v0 :: .ref (xa x 16 0) :: rest)) := f_calli (f_runV (n := 1) (ci := 6) (As := [.int v0]) co_M_held ml_W_M_held im_M_held se_M_held in_M (by decide +kernel) rfl rfl cx hl hP (hv.at S) rfl hM hR.1.1 hR.1.2 hR.2.1 hR.2.2 hst hd) hS kk
theorem k_W_M_heldTag {lv : List (Nat × Value)} {v0 : Int32} {v1 : Int32} {r : Int32} {S' : fm} {rm : Room} {mc ms : Nat} (cx : fX rn_W cc nL p c s m args x) (hl : lv_has ls nL lv) (hP : fP x S H) (hS : fS x H0 H locs) (hv : fv x 16 0) (hM : Met l mn_M_heldTag (gw_ws mn_M_heldTag cb_M_heldTag 6 (some .int)) rm (fPc x S [.ref (xa x 16 0), .int v0, .int v1]) (fQi x S' r) mc ms (fun q => xs x ≤ q)) (hR : (rm.cells = mc ∧ rm.slots = ms) ∧ (rm.frames + 1 ≤ R.frames ∧ 8 + (6 + 11) + rm.locals ≤ R.locals) ∧ cells + mc ≤ R.cells ∧ slots + ms ≤ R.slots) (hst : (rest.map fun v => v.category).sum ≤ 8) (hd : decode cc pc = .ok (.invokevirtual 84, 3)) (kk : ∀ (H1 : Heap) (locs1 : List Loc), fP x S' H1 → fS x H0 H1 locs1 → W p l e R s m args below meth c H1 locs1 (cells + mc) (slots + ms) Q (F0 m (pc + 3) ls (.int r :: rest))) : W p l e R s m args below meth c H locs cells slots Q (F0 m pc ls (.int v1 :: .int v0 :: .ref (xa x 16 0) :: rest)) := f_calli (f_runV (n := 2) (ci := 6) (As := [.int v0, .int v1]) co_M_heldTag ml_W_M_heldTag im_M_heldTag se_M_heldTag in_M (by decide +kernel) rfl rfl cx hl hP (hv.at S) rfl hM hR.1.1 hR.1.2 hR.2.1 hR.2.2 hst hd) hS kk
theorem k_W_M_phase {lv : List (Nat × Value)} {v0 : Int32} {r : Int32} {S' : fm} {rm : Room} {mc ms : Nat} (cx : fX rn_W cc nL p c s m args x) (hl : lv_has ls nL lv) (hP : fP x S H) (hS : fS x H0 H locs) (hv : fv x 16 0) (hM : Met l mn_M_phase (gw_ws mn_M_phase cb_M_phase 2 (some .int)) rm (fPc x S [.ref (xa x 16 0), .int v0]) (fQi x S' r) mc ms (fun q => xs x ≤ q)) (hR : (rm.cells = mc ∧ rm.slots = ms) ∧ (rm.frames + 1 ≤ R.frames ∧ 8 + (2 + 11) + rm.locals ≤ R.locals) ∧ cells + mc ≤ R.cells ∧ slots + ms ≤ R.slots) (hst : (rest.map fun v => v.category).sum ≤ 8) (hd : decode cc pc = .ok (.invokevirtual 58, 3)) (kk : ∀ (H1 : Heap) (locs1 : List Loc), fP x S' H1 → fS x H0 H1 locs1 → W p l e R s m args below meth c H1 locs1 (cells + mc) (slots + ms) Q (F0 m (pc + 3) ls (.int r :: rest))) : W p l e R s m args below meth c H locs cells slots Q (F0 m pc ls (.int v0 :: .ref (xa x 16 0) :: rest)) := f_calli (f_runV (n := 1) (ci := 6) (As := [.int v0]) co_M_phase ml_W_M_phase im_M_phase se_M_phase in_M (by decide +kernel) rfl rfl cx hl hP (hv.at S) rfl hM hR.1.1 hR.1.2 hR.2.1 hR.2.2 hst hd) hS kk
theorem k_W_M_quorum {lv : List (Nat × Value)}  {r : Int32} {S' : fm} {rm : Room} {mc ms : Nat} (cx : fX rn_W cc nL p c s m args x) (hl : lv_has ls nL lv) (hP : fP x S H) (hS : fS x H0 H locs) (hv : fv x 16 0) (hM : Met l mn_M_quorum (gw_ws mn_M_quorum cb_M_quorum 1 (some .int)) rm (fPc x S [.ref (xa x 16 0)]) (fQi x S' r) mc ms (fun q => xs x ≤ q)) (hR : (rm.cells = mc ∧ rm.slots = ms) ∧ (rm.frames + 1 ≤ R.frames ∧ 8 + (1 + 11) + rm.locals ≤ R.locals) ∧ cells + mc ≤ R.cells ∧ slots + ms ≤ R.slots) (hst : (rest.map fun v => v.category).sum ≤ 8) (hd : decode cc pc = .ok (.invokevirtual 105, 3)) (kk : ∀ (H1 : Heap) (locs1 : List Loc), fP x S' H1 → fS x H0 H1 locs1 → W p l e R s m args below meth c H1 locs1 (cells + mc) (slots + ms) Q (F0 m (pc + 3) ls (.int r :: rest))) : W p l e R s m args below meth c H locs cells slots Q (F0 m pc ls (.ref (xa x 16 0) :: rest)) := f_calli (f_runV (n := 0) (ci := 6) (As := []) co_M_quorum ml_W_M_quorum im_M_quorum se_M_quorum in_M (by decide +kernel) rfl rfl cx hl hP (hv.at S) rfl hM hR.1.1 hR.1.2 hR.2.1 hR.2.2 hst hd) hS kk
theorem k_W_M_read {lv : List (Nat × Value)} {v0 : Int32} {r : Int32} {S' : fm} {rm : Room} {mc ms : Nat} (cx : fX rn_W cc nL p c s m args x) (hl : lv_has ls nL lv) (hP : fP x S H) (hS : fS x H0 H locs) (hv : fv x 16 0) (hM : Met l mn_M_read (gw_ws mn_M_read cb_M_read 3 (some .int)) rm (fPc x S [.ref (xa x 16 0), .int v0]) (fQi x S' r) mc ms (fun q => xs x ≤ q)) (hR : (rm.cells = mc ∧ rm.slots = ms) ∧ (rm.frames + 1 ≤ R.frames ∧ 8 + (3 + 11) + rm.locals ≤ R.locals) ∧ cells + mc ≤ R.cells ∧ slots + ms ≤ R.slots) (hst : (rest.map fun v => v.category).sum ≤ 8) (hd : decode cc pc = .ok (.invokevirtual 32, 3)) (kk : ∀ (H1 : Heap) (locs1 : List Loc), fP x S' H1 → fS x H0 H1 locs1 → W p l e R s m args below meth c H1 locs1 (cells + mc) (slots + ms) Q (F0 m (pc + 3) ls (.int r :: rest))) : W p l e R s m args below meth c H locs cells slots Q (F0 m pc ls (.int v0 :: .ref (xa x 16 0) :: rest)) := f_calli (f_runV (n := 1) (ci := 6) (As := [.int v0]) co_M_read ml_W_M_read im_M_read se_M_read in_M (by decide +kernel) rfl rfl cx hl hP (hv.at S) rfl hM hR.1.1 hR.1.2 hR.2.1 hR.2.2 hst hd) hS kk
theorem k_W_M_replies {lv : List (Nat × Value)} {v0 : Int32} {v1 : Int32} {r : Int32} {S' : fm} {rm : Room} {mc ms : Nat} (cx : fX rn_W cc nL p c s m args x) (hl : lv_has ls nL lv) (hP : fP x S H) (hS : fS x H0 H locs) (hv : fv x 16 0) (hM : Met l mn_M_replies (gw_ws mn_M_replies cb_M_replies 3 (some .int)) rm (fPc x S [.ref (xa x 16 0), .int v0, .int v1]) (fQi x S' r) mc ms (fun q => xs x ≤ q)) (hR : (rm.cells = mc ∧ rm.slots = ms) ∧ (rm.frames + 1 ≤ R.frames ∧ 8 + (3 + 11) + rm.locals ≤ R.locals) ∧ cells + mc ≤ R.cells ∧ slots + ms ≤ R.slots) (hst : (rest.map fun v => v.category).sum ≤ 8) (hd : decode cc pc = .ok (.invokevirtual 100, 3)) (kk : ∀ (H1 : Heap) (locs1 : List Loc), fP x S' H1 → fS x H0 H1 locs1 → W p l e R s m args below meth c H1 locs1 (cells + mc) (slots + ms) Q (F0 m (pc + 3) ls (.int r :: rest))) : W p l e R s m args below meth c H locs cells slots Q (F0 m pc ls (.int v1 :: .int v0 :: .ref (xa x 16 0) :: rest)) := f_calli (f_runV (n := 2) (ci := 6) (As := [.int v0, .int v1]) co_M_replies ml_W_M_replies im_M_replies se_M_replies in_M (by decide +kernel) rfl rfl cx hl hP (hv.at S) rfl hM hR.1.1 hR.1.2 hR.2.1 hR.2.2 hst hd) hS kk
theorem k_W_M_requests {lv : List (Nat × Value)} {v0 : Int32} {v1 : Int32} {r : Int32} {S' : fm} {rm : Room} {mc ms : Nat} (cx : fX rn_W cc nL p c s m args x) (hl : lv_has ls nL lv) (hP : fP x S H) (hS : fS x H0 H locs) (hv : fv x 16 0) (hM : Met l mn_M_requests (gw_ws mn_M_requests cb_M_requests 3 (some .int)) rm (fPc x S [.ref (xa x 16 0), .int v0, .int v1]) (fQi x S' r) mc ms (fun q => xs x ≤ q)) (hR : (rm.cells = mc ∧ rm.slots = ms) ∧ (rm.frames + 1 ≤ R.frames ∧ 8 + (3 + 11) + rm.locals ≤ R.locals) ∧ cells + mc ≤ R.cells ∧ slots + ms ≤ R.slots) (hst : (rest.map fun v => v.category).sum ≤ 8) (hd : decode cc pc = .ok (.invokevirtual 96, 3)) (kk : ∀ (H1 : Heap) (locs1 : List Loc), fP x S' H1 → fS x H0 H1 locs1 → W p l e R s m args below meth c H1 locs1 (cells + mc) (slots + ms) Q (F0 m (pc + 3) ls (.int r :: rest))) : W p l e R s m args below meth c H locs cells slots Q (F0 m pc ls (.int v1 :: .int v0 :: .ref (xa x 16 0) :: rest)) := f_calli (f_runV (n := 2) (ci := 6) (As := [.int v0, .int v1]) co_M_requests ml_W_M_requests im_M_requests se_M_requests in_M (by decide +kernel) rfl rfl cx hl hP (hv.at S) rfl hM hR.1.1 hR.1.2 hR.2.1 hR.2.2 hst hd) hS kk
theorem k_W_M_result {lv : List (Nat × Value)} {v0 : Int32} {r : Int64} {S' : fm} {rm : Room} {mc ms : Nat} (cx : fX rn_W cc nL p c s m args x) (hl : lv_has ls nL lv) (hP : fP x S H) (hS : fS x H0 H locs) (hv : fv x 16 0) (hM : Met l mn_M_result (gw_ws mn_M_result cb_M_result 2 (some .long)) rm (fPc x S [.ref (xa x 16 0), .int v0]) (fQl x S' r) mc ms (fun q => xs x ≤ q)) (hR : (rm.cells = mc ∧ rm.slots = ms) ∧ (rm.frames + 1 ≤ R.frames ∧ 8 + (2 + 11) + rm.locals ≤ R.locals) ∧ cells + mc ≤ R.cells ∧ slots + ms ≤ R.slots) (hst : (rest.map fun v => v.category).sum ≤ 8) (hd : decode cc pc = .ok (.invokevirtual 71, 3)) (kk : ∀ (H1 : Heap) (locs1 : List Loc), fP x S' H1 → fS x H0 H1 locs1 → W p l e R s m args below meth c H1 locs1 (cells + mc) (slots + ms) Q (F0 m (pc + 3) ls (.long r :: rest))) : W p l e R s m args below meth c H locs cells slots Q (F0 m pc ls (.int v0 :: .ref (xa x 16 0) :: rest)) := f_calll (f_runV (n := 1) (ci := 6) (As := [.int v0]) co_M_result ml_W_M_result im_M_result se_M_result in_M (by decide +kernel) rfl rfl cx hl hP (hv.at S) rfl hM hR.1.1 hR.1.2 hR.2.1 hR.2.2 hst hd) hS kk
theorem k_W_M_seal {lv : List (Nat × Value)} {v0 : Int32} {r : Int32} {S' : fm} {rm : Room} {mc ms : Nat} (cx : fX rn_W cc nL p c s m args x) (hl : lv_has ls nL lv) (hP : fP x S H) (hS : fS x H0 H locs) (hv : fv x 16 0) (hM : Met l mn_M_seal (gw_ws mn_M_seal cb_M_seal 2 (some .int)) rm (fPc x S [.ref (xa x 16 0), .int v0]) (fQi x S' r) mc ms (fun q => xs x ≤ q)) (hR : (rm.cells = mc ∧ rm.slots = ms) ∧ (rm.frames + 1 ≤ R.frames ∧ 8 + (2 + 11) + rm.locals ≤ R.locals) ∧ cells + mc ≤ R.cells ∧ slots + ms ≤ R.slots) (hst : (rest.map fun v => v.category).sum ≤ 8) (hd : decode cc pc = .ok (.invokevirtual 92, 3)) (kk : ∀ (H1 : Heap) (locs1 : List Loc), fP x S' H1 → fS x H0 H1 locs1 → W p l e R s m args below meth c H1 locs1 (cells + mc) (slots + ms) Q (F0 m (pc + 3) ls (.int r :: rest))) : W p l e R s m args below meth c H locs cells slots Q (F0 m pc ls (.int v0 :: .ref (xa x 16 0) :: rest)) := f_calli (f_runV (n := 1) (ci := 6) (As := [.int v0]) co_M_seal ml_W_M_seal im_M_seal se_M_seal in_M (by decide +kernel) rfl rfl cx hl hP (hv.at S) rfl hM hR.1.1 hR.1.2 hR.2.1 hR.2.2 hst hd) hS kk
theorem k_W_M_stop {lv : List (Nat × Value)} {v0 : Int32} {r : Int32} {S' : fm} {rm : Room} {mc ms : Nat} (cx : fX rn_W cc nL p c s m args x) (hl : lv_has ls nL lv) (hP : fP x S H) (hS : fS x H0 H locs) (hv : fv x 16 0) (hM : Met l mn_M_stop (gw_ws mn_M_stop cb_M_stop 2 (some .boolean)) rm (fPc x S [.ref (xa x 16 0), .int v0]) (fQi x S' r) mc ms (fun q => xs x ≤ q)) (hR : (rm.cells = mc ∧ rm.slots = ms) ∧ (rm.frames + 1 ≤ R.frames ∧ 8 + (2 + 11) + rm.locals ≤ R.locals) ∧ cells + mc ≤ R.cells ∧ slots + ms ≤ R.slots) (hst : (rest.map fun v => v.category).sum ≤ 8) (hd : decode cc pc = .ok (.invokevirtual 54, 3)) (kk : ∀ (H1 : Heap) (locs1 : List Loc), fP x S' H1 → fS x H0 H1 locs1 → W p l e R s m args below meth c H1 locs1 (cells + mc) (slots + ms) Q (F0 m (pc + 3) ls (.int r :: rest))) : W p l e R s m args below meth c H locs cells slots Q (F0 m pc ls (.int v0 :: .ref (xa x 16 0) :: rest)) := f_calli (f_runV (n := 1) (ci := 6) (As := [.int v0]) co_M_stop ml_W_M_stop im_M_stop se_M_stop in_M (by decide +kernel) rfl rfl cx hl hP (hv.at S) rfl hM hR.1.1 hR.1.2 hR.2.1 hR.2.2 hst hd) hS kk
theorem k_W_M_tag {lv : List (Nat × Value)} {v0 : Int32} {r : Int32} {S' : fm} {rm : Room} {mc ms : Nat} (cx : fX rn_W cc nL p c s m args x) (hl : lv_has ls nL lv) (hP : fP x S H) (hS : fS x H0 H locs) (hv : fv x 16 0) (hM : Met l mn_M_tag (gw_ws mn_M_tag cb_M_tag 2 (some .int)) rm (fPc x S [.ref (xa x 16 0), .int v0]) (fQi x S' r) mc ms (fun q => xs x ≤ q)) (hR : (rm.cells = mc ∧ rm.slots = ms) ∧ (rm.frames + 1 ≤ R.frames ∧ 8 + (2 + 11) + rm.locals ≤ R.locals) ∧ cells + mc ≤ R.cells ∧ slots + ms ≤ R.slots) (hst : (rest.map fun v => v.category).sum ≤ 8) (hd : decode cc pc = .ok (.invokevirtual 66, 3)) (kk : ∀ (H1 : Heap) (locs1 : List Loc), fP x S' H1 → fS x H0 H1 locs1 → W p l e R s m args below meth c H1 locs1 (cells + mc) (slots + ms) Q (F0 m (pc + 3) ls (.int r :: rest))) : W p l e R s m args below meth c H locs cells slots Q (F0 m pc ls (.int v0 :: .ref (xa x 16 0) :: rest)) := f_calli (f_runV (n := 1) (ci := 6) (As := [.int v0]) co_M_tag ml_W_M_tag im_M_tag se_M_tag in_M (by decide +kernel) rfl rfl cx hl hP (hv.at S) rfl hM hR.1.1 hR.1.2 hR.2.1 hR.2.2 hst hd) hS kk
theorem k_W_M_write {lv : List (Nat × Value)} {v0 : Int32} {v1 : Int64} {r : Int32} {S' : fm} {rm : Room} {mc ms : Nat} (cx : fX rn_W cc nL p c s m args x) (hl : lv_has ls nL lv) (hP : fP x S H) (hS : fS x H0 H locs) (hv : fv x 16 0) (hM : Met l mn_M_write (gw_ws mn_M_write cb_M_write 5 (some .int)) rm (fPc x S [.ref (xa x 16 0), .int v0, .long v1]) (fQi x S' r) mc ms (fun q => xs x ≤ q)) (hR : (rm.cells = mc ∧ rm.slots = ms) ∧ (rm.frames + 1 ≤ R.frames ∧ 8 + (5 + 11) + rm.locals ≤ R.locals) ∧ cells + mc ≤ R.cells ∧ slots + ms ≤ R.slots) (hst : (rest.map fun v => v.category).sum ≤ 8) (hd : decode cc pc = .ok (.invokevirtual 27, 3)) (kk : ∀ (H1 : Heap) (locs1 : List Loc), fP x S' H1 → fS x H0 H1 locs1 → W p l e R s m args below meth c H1 locs1 (cells + mc) (slots + ms) Q (F0 m (pc + 3) ls (.int r :: rest))) : W p l e R s m args below meth c H locs cells slots Q (F0 m pc ls (.long v1 :: .int v0 :: .ref (xa x 16 0) :: rest)) := f_calli (f_runV (n := 2) (ci := 6) (As := [.int v0, .long v1]) co_M_write ml_W_M_write im_M_write se_M_write in_M (by decide +kernel) rfl rfl cx hl hP (hv.at S) rfl hM hR.1.1 hR.1.2 hR.2.1 hR.2.2 hst hd) hS kk
theorem k_W_W_cell {lv : List (Nat × Value)} {v0 : Nat} {v1 : Int32} {r : Int32} {S' : fm} {rm : Room} {mc ms : Nat} (cx : fX rn_W cc nL p c s m args x) (hl : lv_has ls nL lv) (hP : fP x S H) (hS : fS x H0 H locs)  (hM : Met l mn_W_cell (gw_ws mn_W_cell cb_W_cell 2 (some .int)) rm (fPc x S [.ref v0, .int v1]) (fQi x S' r) mc ms (fun q => xs x ≤ q)) (hR : (rm.cells = mc ∧ rm.slots = ms) ∧ (rm.frames + 1 ≤ R.frames ∧ 8 + (2 + 11) + rm.locals ≤ R.locals) ∧ cells + mc ≤ R.cells ∧ slots + ms ≤ R.slots) (hst : (rest.map fun v => v.category).sum ≤ 8) (hd : decode cc pc = .ok (.invokestatic 9, 3)) (kk : ∀ (H1 : Heap) (locs1 : List Loc), fP x S' H1 → fS x H0 H1 locs1 → W p l e R s m args below meth c H1 locs1 (cells + mc) (slots + ms) Q (F0 m (pc + 3) ls (.int r :: rest))) : W p l e R s m args below meth c H locs cells slots Q (F0 m pc ls (.int v1 :: .ref v0 :: rest)) := f_calli (f_runS (n := 2) (As := [.ref v0, .int v1]) co_W_cell ml_W_W_cell st_W_cell in_W (by decide +kernel) rfl cx hl hP hM hR.1.1 hR.1.2 hR.2.1 hR.2.2 hst hd) hS kk
theorem k_W_X_again {lv : List (Nat × Value)} {v0 : Int32} {r : Int32} {S' : fm} {rm : Room} {mc ms : Nat} (cx : fX rn_W cc nL p c s m args x) (hl : lv_has ls nL lv) (hP : fP x S H) (hS : fS x H0 H locs) (hv : fv x 0 0) (hM : Met l mn_X_again (gw_ws mn_X_again cb_X_again 3 (some .int)) rm (fPc x S [.ref (xa x 0 0), .int v0]) (fQi x S' r) mc ms (fun q => xs x ≤ q)) (hR : (rm.cells = mc ∧ rm.slots = ms) ∧ (rm.frames + 1 ≤ R.frames ∧ 8 + (3 + 11) + rm.locals ≤ R.locals) ∧ cells + mc ≤ R.cells ∧ slots + ms ≤ R.slots) (hst : (rest.map fun v => v.category).sum ≤ 8) (hd : decode cc pc = .ok (.invokevirtual 33, 3)) (kk : ∀ (H1 : Heap) (locs1 : List Loc), fP x S' H1 → fS x H0 H1 locs1 → W p l e R s m args below meth c H1 locs1 (cells + mc) (slots + ms) Q (F0 m (pc + 3) ls (.int r :: rest))) : W p l e R s m args below meth c H locs cells slots Q (F0 m pc ls (.int v0 :: .ref (xa x 0 0) :: rest)) := f_calli (f_runV (n := 1) (ci := 5) (As := [.int v0]) co_X_again ml_W_X_again im_X_again se_X_again in_X (by decide +kernel) rfl rfl cx hl hP (hv.at S) rfl hM hR.1.1 hR.1.2 hR.2.1 hR.2.2 hst hd) hS kk
theorem k_W_X_crash {lv : List (Nat × Value)} {v0 : Int32} {r : Int32} {S' : fm} {rm : Room} {mc ms : Nat} (cx : fX rn_W cc nL p c s m args x) (hl : lv_has ls nL lv) (hP : fP x S H) (hS : fS x H0 H locs) (hv : fv x 0 0) (hM : Met l mn_X_crash (gw_ws mn_X_crash cb_X_crash 3 (some .boolean)) rm (fPc x S [.ref (xa x 0 0), .int v0]) (fQi x S' r) mc ms (fun q => xs x ≤ q)) (hR : (rm.cells = mc ∧ rm.slots = ms) ∧ (rm.frames + 1 ≤ R.frames ∧ 8 + (3 + 11) + rm.locals ≤ R.locals) ∧ cells + mc ≤ R.cells ∧ slots + ms ≤ R.slots) (hst : (rest.map fun v => v.category).sum ≤ 8) (hd : decode cc pc = .ok (.invokevirtual 46, 3)) (kk : ∀ (H1 : Heap) (locs1 : List Loc), fP x S' H1 → fS x H0 H1 locs1 → W p l e R s m args below meth c H1 locs1 (cells + mc) (slots + ms) Q (F0 m (pc + 3) ls (.int r :: rest))) : W p l e R s m args below meth c H locs cells slots Q (F0 m pc ls (.int v0 :: .ref (xa x 0 0) :: rest)) := f_calli (f_runV (n := 1) (ci := 5) (As := [.int v0]) co_X_crash ml_W_X_crash im_X_crash se_X_crash in_X (by decide +kernel) rfl rfl cx hl hP (hv.at S) rfl hM hR.1.1 hR.1.2 hR.2.1 hR.2.2 hst hd) hS kk
theorem k_W_X_deliver {lv : List (Nat × Value)} {v0 : Int32} {v1 : Int32} {v2 : Int32} {r : Int32} {S' : fm} {rm : Room} {mc ms : Nat} (cx : fX rn_W cc nL p c s m args x) (hl : lv_has ls nL lv) (hP : fP x S H) (hS : fS x H0 H locs) (hv : fv x 0 0) (hM : Met l mn_X_deliver (gw_ws mn_X_deliver cb_X_deliver 5 (some .int)) rm (fPc x S [.ref (xa x 0 0), .int v0, .int v1, .int v2]) (fQi x S' r) mc ms (fun q => xs x ≤ q)) (hR : (rm.cells = mc ∧ rm.slots = ms) ∧ (rm.frames + 1 ≤ R.frames ∧ 8 + (5 + 11) + rm.locals ≤ R.locals) ∧ cells + mc ≤ R.cells ∧ slots + ms ≤ R.slots) (hst : (rest.map fun v => v.category).sum ≤ 8) (hd : decode cc pc = .ok (.invokevirtual 37, 3)) (kk : ∀ (H1 : Heap) (locs1 : List Loc), fP x S' H1 → fS x H0 H1 locs1 → W p l e R s m args below meth c H1 locs1 (cells + mc) (slots + ms) Q (F0 m (pc + 3) ls (.int r :: rest))) : W p l e R s m args below meth c H locs cells slots Q (F0 m pc ls (.int v2 :: .int v1 :: .int v0 :: .ref (xa x 0 0) :: rest)) := f_calli (f_runV (n := 3) (ci := 5) (As := [.int v0, .int v1, .int v2]) co_X_deliver ml_W_X_deliver im_X_deliver se_X_deliver in_X (by decide +kernel) rfl rfl cx hl hP (hv.at S) rfl hM hR.1.1 hR.1.2 hR.2.1 hR.2.2 hst hd) hS kk
theorem k_W_X_finished {lv : List (Nat × Value)} {v0 : Int32} {r : Int32} {S' : fm} {rm : Room} {mc ms : Nat} (cx : fX rn_W cc nL p c s m args x) (hl : lv_has ls nL lv) (hP : fP x S H) (hS : fS x H0 H locs) (hv : fv x 0 0) (hM : Met l mn_X_finished (gw_ws mn_X_finished cb_X_finished 2 (some .int)) rm (fPc x S [.ref (xa x 0 0), .int v0]) (fQi x S' r) mc ms (fun q => xs x ≤ q)) (hR : (rm.cells = mc ∧ rm.slots = ms) ∧ (rm.frames + 1 ≤ R.frames ∧ 8 + (2 + 11) + rm.locals ≤ R.locals) ∧ cells + mc ≤ R.cells ∧ slots + ms ≤ R.slots) (hst : (rest.map fun v => v.category).sum ≤ 8) (hd : decode cc pc = .ok (.invokevirtual 72, 3)) (kk : ∀ (H1 : Heap) (locs1 : List Loc), fP x S' H1 → fS x H0 H1 locs1 → W p l e R s m args below meth c H1 locs1 (cells + mc) (slots + ms) Q (F0 m (pc + 3) ls (.int r :: rest))) : W p l e R s m args below meth c H locs cells slots Q (F0 m pc ls (.int v0 :: .ref (xa x 0 0) :: rest)) := f_calli (f_runV (n := 1) (ci := 5) (As := [.int v0]) co_X_finished ml_W_X_finished im_X_finished se_X_finished in_X (by decide +kernel) rfl rfl cx hl hP (hv.at S) rfl hM hR.1.1 hR.1.2 hR.2.1 hR.2.2 hst hd) hS kk
theorem k_W_X_fragment {lv : List (Nat × Value)} {v0 : Int32} {v1 : Int32} {v2 : Int32} {r : Int32} {S' : fm} {rm : Room} {mc ms : Nat} (cx : fX rn_W cc nL p c s m args x) (hl : lv_has ls nL lv) (hP : fP x S H) (hS : fS x H0 H locs) (hv : fv x 0 0) (hM : Met l mn_X_fragment (gw_ws mn_X_fragment cb_X_fragment 5 (some .int)) rm (fPc x S [.ref (xa x 0 0), .int v0, .int v1, .int v2]) (fQi x S' r) mc ms (fun q => xs x ≤ q)) (hR : (rm.cells = mc ∧ rm.slots = ms) ∧ (rm.frames + 1 ≤ R.frames ∧ 8 + (5 + 11) + rm.locals ≤ R.locals) ∧ cells + mc ≤ R.cells ∧ slots + ms ≤ R.slots) (hst : (rest.map fun v => v.category).sum ≤ 8) (hd : decode cc pc = .ok (.invokevirtual 85, 3)) (kk : ∀ (H1 : Heap) (locs1 : List Loc), fP x S' H1 → fS x H0 H1 locs1 → W p l e R s m args below meth c H1 locs1 (cells + mc) (slots + ms) Q (F0 m (pc + 3) ls (.int r :: rest))) : W p l e R s m args below meth c H locs cells slots Q (F0 m pc ls (.int v2 :: .int v1 :: .int v0 :: .ref (xa x 0 0) :: rest)) := f_calli (f_runV (n := 3) (ci := 5) (As := [.int v0, .int v1, .int v2]) co_X_fragment ml_W_X_fragment im_X_fragment se_X_fragment in_X (by decide +kernel) rfl rfl cx hl hP (hv.at S) rfl hM hR.1.1 hR.1.2 hR.2.1 hR.2.2 hst hd) hS kk
theorem k_W_X_hear {lv : List (Nat × Value)} {v0 : Int32} {v1 : Int32} {v2 : Int32} {r : Int32} {S' : fm} {rm : Room} {mc ms : Nat} (cx : fX rn_W cc nL p c s m args x) (hl : lv_has ls nL lv) (hP : fP x S H) (hS : fS x H0 H locs) (hv : fv x 0 0) (hM : Met l mn_X_hear (gw_ws mn_X_hear cb_X_hear 6 (some .int)) rm (fPc x S [.ref (xa x 0 0), .int v0, .int v1, .int v2]) (fQi x S' r) mc ms (fun q => xs x ≤ q)) (hR : (rm.cells = mc ∧ rm.slots = ms) ∧ (rm.frames + 1 ≤ R.frames ∧ 8 + (6 + 11) + rm.locals ≤ R.locals) ∧ cells + mc ≤ R.cells ∧ slots + ms ≤ R.slots) (hst : (rest.map fun v => v.category).sum ≤ 8) (hd : decode cc pc = .ok (.invokevirtual 42, 3)) (kk : ∀ (H1 : Heap) (locs1 : List Loc), fP x S' H1 → fS x H0 H1 locs1 → W p l e R s m args below meth c H1 locs1 (cells + mc) (slots + ms) Q (F0 m (pc + 3) ls (.int r :: rest))) : W p l e R s m args below meth c H locs cells slots Q (F0 m pc ls (.int v2 :: .int v1 :: .int v0 :: .ref (xa x 0 0) :: rest)) := f_calli (f_runV (n := 3) (ci := 5) (As := [.int v0, .int v1, .int v2]) co_X_hear ml_W_X_hear im_X_hear se_X_hear in_X (by decide +kernel) rfl rfl cx hl hP (hv.at S) rfl hM hR.1.1 hR.1.2 hR.2.1 hR.2.2 hst hd) hS kk
theorem k_W_X_heard {lv : List (Nat × Value)} {v0 : Int32} {r : Int32} {S' : fm} {rm : Room} {mc ms : Nat} (cx : fX rn_W cc nL p c s m args x) (hl : lv_has ls nL lv) (hP : fP x S H) (hS : fS x H0 H locs) (hv : fv x 0 0) (hM : Met l mn_X_heard (gw_ws mn_X_heard cb_X_heard 2 (some .int)) rm (fPc x S [.ref (xa x 0 0), .int v0]) (fQi x S' r) mc ms (fun q => xs x ≤ q)) (hR : (rm.cells = mc ∧ rm.slots = ms) ∧ (rm.frames + 1 ≤ R.frames ∧ 8 + (2 + 11) + rm.locals ≤ R.locals) ∧ cells + mc ≤ R.cells ∧ slots + ms ≤ R.slots) (hst : (rest.map fun v => v.category).sum ≤ 8) (hd : decode cc pc = .ok (.invokevirtual 59, 3)) (kk : ∀ (H1 : Heap) (locs1 : List Loc), fP x S' H1 → fS x H0 H1 locs1 → W p l e R s m args below meth c H1 locs1 (cells + mc) (slots + ms) Q (F0 m (pc + 3) ls (.int r :: rest))) : W p l e R s m args below meth c H locs cells slots Q (F0 m pc ls (.int v0 :: .ref (xa x 0 0) :: rest)) := f_calli (f_runV (n := 1) (ci := 5) (As := [.int v0]) co_X_heard ml_W_X_heard im_X_heard se_X_heard in_X (by decide +kernel) rfl rfl cx hl hP (hv.at S) rfl hM hR.1.1 hR.1.2 hR.2.1 hR.2.2 hst hd) hS kk
theorem k_W_X_held {lv : List (Nat × Value)} {v0 : Int32} {r : Int32} {S' : fm} {rm : Room} {mc ms : Nat} (cx : fX rn_W cc nL p c s m args x) (hl : lv_has ls nL lv) (hP : fP x S H) (hS : fS x H0 H locs) (hv : fv x 0 0) (hM : Met l mn_X_held (gw_ws mn_X_held cb_X_held 2 (some .int)) rm (fPc x S [.ref (xa x 0 0), .int v0]) (fQi x S' r) mc ms (fun q => xs x ≤ q)) (hR : (rm.cells = mc ∧ rm.slots = ms) ∧ (rm.frames + 1 ≤ R.frames ∧ 8 + (2 + 11) + rm.locals ≤ R.locals) ∧ cells + mc ≤ R.cells ∧ slots + ms ≤ R.slots) (hst : (rest.map fun v => v.category).sum ≤ 8) (hd : decode cc pc = .ok (.invokevirtual 76, 3)) (kk : ∀ (H1 : Heap) (locs1 : List Loc), fP x S' H1 → fS x H0 H1 locs1 → W p l e R s m args below meth c H1 locs1 (cells + mc) (slots + ms) Q (F0 m (pc + 3) ls (.int r :: rest))) : W p l e R s m args below meth c H locs cells slots Q (F0 m pc ls (.int v0 :: .ref (xa x 0 0) :: rest)) := f_calli (f_runV (n := 1) (ci := 5) (As := [.int v0]) co_X_held ml_W_X_held im_X_held se_X_held in_X (by decide +kernel) rfl rfl cx hl hP (hv.at S) rfl hM hR.1.1 hR.1.2 hR.2.1 hR.2.2 hst hd) hS kk
theorem k_W_X_heldTag {lv : List (Nat × Value)} {v0 : Int32} {v1 : Int32} {r : Int32} {S' : fm} {rm : Room} {mc ms : Nat} (cx : fX rn_W cc nL p c s m args x) (hl : lv_has ls nL lv) (hP : fP x S H) (hS : fS x H0 H locs) (hv : fv x 0 0) (hM : Met l mn_X_heldTag (gw_ws mn_X_heldTag cb_X_heldTag 3 (some .int)) rm (fPc x S [.ref (xa x 0 0), .int v0, .int v1]) (fQi x S' r) mc ms (fun q => xs x ≤ q)) (hR : (rm.cells = mc ∧ rm.slots = ms) ∧ (rm.frames + 1 ≤ R.frames ∧ 8 + (3 + 11) + rm.locals ≤ R.locals) ∧ cells + mc ≤ R.cells ∧ slots + ms ≤ R.slots) (hst : (rest.map fun v => v.category).sum ≤ 8) (hd : decode cc pc = .ok (.invokevirtual 80, 3)) (kk : ∀ (H1 : Heap) (locs1 : List Loc), fP x S' H1 → fS x H0 H1 locs1 → W p l e R s m args below meth c H1 locs1 (cells + mc) (slots + ms) Q (F0 m (pc + 3) ls (.int r :: rest))) : W p l e R s m args below meth c H locs cells slots Q (F0 m pc ls (.int v1 :: .int v0 :: .ref (xa x 0 0) :: rest)) := f_calli (f_runV (n := 2) (ci := 5) (As := [.int v0, .int v1]) co_X_heldTag ml_W_X_heldTag im_X_heldTag se_X_heldTag in_X (by decide +kernel) rfl rfl cx hl hP (hv.at S) rfl hM hR.1.1 hR.1.2 hR.2.1 hR.2.2 hst hd) hS kk
theorem k_W_X_phase {lv : List (Nat × Value)} {v0 : Int32} {r : Int32} {S' : fm} {rm : Room} {mc ms : Nat} (cx : fX rn_W cc nL p c s m args x) (hl : lv_has ls nL lv) (hP : fP x S H) (hS : fS x H0 H locs) (hv : fv x 0 0) (hM : Met l mn_X_phase (gw_ws mn_X_phase cb_X_phase 2 (some .int)) rm (fPc x S [.ref (xa x 0 0), .int v0]) (fQi x S' r) mc ms (fun q => xs x ≤ q)) (hR : (rm.cells = mc ∧ rm.slots = ms) ∧ (rm.frames + 1 ≤ R.frames ∧ 8 + (2 + 11) + rm.locals ≤ R.locals) ∧ cells + mc ≤ R.cells ∧ slots + ms ≤ R.slots) (hst : (rest.map fun v => v.category).sum ≤ 8) (hd : decode cc pc = .ok (.invokevirtual 55, 3)) (kk : ∀ (H1 : Heap) (locs1 : List Loc), fP x S' H1 → fS x H0 H1 locs1 → W p l e R s m args below meth c H1 locs1 (cells + mc) (slots + ms) Q (F0 m (pc + 3) ls (.int r :: rest))) : W p l e R s m args below meth c H locs cells slots Q (F0 m pc ls (.int v0 :: .ref (xa x 0 0) :: rest)) := f_calli (f_runV (n := 1) (ci := 5) (As := [.int v0]) co_X_phase ml_W_X_phase im_X_phase se_X_phase in_X (by decide +kernel) rfl rfl cx hl hP (hv.at S) rfl hM hR.1.1 hR.1.2 hR.2.1 hR.2.2 hst hd) hS kk
theorem k_W_X_quorum {lv : List (Nat × Value)}  {r : Int32} {S' : fm} {rm : Room} {mc ms : Nat} (cx : fX rn_W cc nL p c s m args x) (hl : lv_has ls nL lv) (hP : fP x S H) (hS : fS x H0 H locs) (hv : fv x 0 0) (hM : Met l mn_X_quorum (gw_ws mn_X_quorum cb_X_quorum 1 (some .int)) rm (fPc x S [.ref (xa x 0 0)]) (fQi x S' r) mc ms (fun q => xs x ≤ q)) (hR : (rm.cells = mc ∧ rm.slots = ms) ∧ (rm.frames + 1 ≤ R.frames ∧ 8 + (1 + 11) + rm.locals ≤ R.locals) ∧ cells + mc ≤ R.cells ∧ slots + ms ≤ R.slots) (hst : (rest.map fun v => v.category).sum ≤ 8) (hd : decode cc pc = .ok (.invokevirtual 101, 3)) (kk : ∀ (H1 : Heap) (locs1 : List Loc), fP x S' H1 → fS x H0 H1 locs1 → W p l e R s m args below meth c H1 locs1 (cells + mc) (slots + ms) Q (F0 m (pc + 3) ls (.int r :: rest))) : W p l e R s m args below meth c H locs cells slots Q (F0 m pc ls (.ref (xa x 0 0) :: rest)) := f_calli (f_runV (n := 0) (ci := 5) (As := []) co_X_quorum ml_W_X_quorum im_X_quorum se_X_quorum in_X (by decide +kernel) rfl rfl cx hl hP (hv.at S) rfl hM hR.1.1 hR.1.2 hR.2.1 hR.2.2 hst hd) hS kk
theorem k_W_X_read {lv : List (Nat × Value)} {v0 : Int32} {r : Int32} {S' : fm} {rm : Room} {mc ms : Nat} (cx : fX rn_W cc nL p c s m args x) (hl : lv_has ls nL lv) (hP : fP x S H) (hS : fS x H0 H locs) (hv : fv x 0 0) (hM : Met l mn_X_read (gw_ws mn_X_read cb_X_read 3 (some .int)) rm (fPc x S [.ref (xa x 0 0), .int v0]) (fQi x S' r) mc ms (fun q => xs x ≤ q)) (hR : (rm.cells = mc ∧ rm.slots = ms) ∧ (rm.frames + 1 ≤ R.frames ∧ 8 + (3 + 11) + rm.locals ≤ R.locals) ∧ cells + mc ≤ R.cells ∧ slots + ms ≤ R.slots) (hst : (rest.map fun v => v.category).sum ≤ 8) (hd : decode cc pc = .ok (.invokevirtual 28, 3)) (kk : ∀ (H1 : Heap) (locs1 : List Loc), fP x S' H1 → fS x H0 H1 locs1 → W p l e R s m args below meth c H1 locs1 (cells + mc) (slots + ms) Q (F0 m (pc + 3) ls (.int r :: rest))) : W p l e R s m args below meth c H locs cells slots Q (F0 m pc ls (.int v0 :: .ref (xa x 0 0) :: rest)) := f_calli (f_runV (n := 1) (ci := 5) (As := [.int v0]) co_X_read ml_W_X_read im_X_read se_X_read in_X (by decide +kernel) rfl rfl cx hl hP (hv.at S) rfl hM hR.1.1 hR.1.2 hR.2.1 hR.2.2 hst hd) hS kk
theorem k_W_X_replies {lv : List (Nat × Value)} {v0 : Int32} {v1 : Int32} {r : Int32} {S' : fm} {rm : Room} {mc ms : Nat} (cx : fX rn_W cc nL p c s m args x) (hl : lv_has ls nL lv) (hP : fP x S H) (hS : fS x H0 H locs) (hv : fv x 0 0) (hM : Met l mn_X_replies (gw_ws mn_X_replies cb_X_replies 3 (some .int)) rm (fPc x S [.ref (xa x 0 0), .int v0, .int v1]) (fQi x S' r) mc ms (fun q => xs x ≤ q)) (hR : (rm.cells = mc ∧ rm.slots = ms) ∧ (rm.frames + 1 ≤ R.frames ∧ 8 + (3 + 11) + rm.locals ≤ R.locals) ∧ cells + mc ≤ R.cells ∧ slots + ms ≤ R.slots) (hst : (rest.map fun v => v.category).sum ≤ 8) (hd : decode cc pc = .ok (.invokevirtual 97, 3)) (kk : ∀ (H1 : Heap) (locs1 : List Loc), fP x S' H1 → fS x H0 H1 locs1 → W p l e R s m args below meth c H1 locs1 (cells + mc) (slots + ms) Q (F0 m (pc + 3) ls (.int r :: rest))) : W p l e R s m args below meth c H locs cells slots Q (F0 m pc ls (.int v1 :: .int v0 :: .ref (xa x 0 0) :: rest)) := f_calli (f_runV (n := 2) (ci := 5) (As := [.int v0, .int v1]) co_X_replies ml_W_X_replies im_X_replies se_X_replies in_X (by decide +kernel) rfl rfl cx hl hP (hv.at S) rfl hM hR.1.1 hR.1.2 hR.2.1 hR.2.2 hst hd) hS kk
theorem k_W_X_requests {lv : List (Nat × Value)} {v0 : Int32} {v1 : Int32} {r : Int32} {S' : fm} {rm : Room} {mc ms : Nat} (cx : fX rn_W cc nL p c s m args x) (hl : lv_has ls nL lv) (hP : fP x S H) (hS : fS x H0 H locs) (hv : fv x 0 0) (hM : Met l mn_X_requests (gw_ws mn_X_requests cb_X_requests 3 (some .int)) rm (fPc x S [.ref (xa x 0 0), .int v0, .int v1]) (fQi x S' r) mc ms (fun q => xs x ≤ q)) (hR : (rm.cells = mc ∧ rm.slots = ms) ∧ (rm.frames + 1 ≤ R.frames ∧ 8 + (3 + 11) + rm.locals ≤ R.locals) ∧ cells + mc ≤ R.cells ∧ slots + ms ≤ R.slots) (hst : (rest.map fun v => v.category).sum ≤ 8) (hd : decode cc pc = .ok (.invokevirtual 93, 3)) (kk : ∀ (H1 : Heap) (locs1 : List Loc), fP x S' H1 → fS x H0 H1 locs1 → W p l e R s m args below meth c H1 locs1 (cells + mc) (slots + ms) Q (F0 m (pc + 3) ls (.int r :: rest))) : W p l e R s m args below meth c H locs cells slots Q (F0 m pc ls (.int v1 :: .int v0 :: .ref (xa x 0 0) :: rest)) := f_calli (f_runV (n := 2) (ci := 5) (As := [.int v0, .int v1]) co_X_requests ml_W_X_requests im_X_requests se_X_requests in_X (by decide +kernel) rfl rfl cx hl hP (hv.at S) rfl hM hR.1.1 hR.1.2 hR.2.1 hR.2.2 hst hd) hS kk
theorem k_W_X_result {lv : List (Nat × Value)} {v0 : Int32} {r : Int64} {S' : fm} {rm : Room} {mc ms : Nat} (cx : fX rn_W cc nL p c s m args x) (hl : lv_has ls nL lv) (hP : fP x S H) (hS : fS x H0 H locs) (hv : fv x 0 0) (hM : Met l mn_X_result (gw_ws mn_X_result cb_X_result 2 (some .long)) rm (fPc x S [.ref (xa x 0 0), .int v0]) (fQl x S' r) mc ms (fun q => xs x ≤ q)) (hR : (rm.cells = mc ∧ rm.slots = ms) ∧ (rm.frames + 1 ≤ R.frames ∧ 8 + (2 + 11) + rm.locals ≤ R.locals) ∧ cells + mc ≤ R.cells ∧ slots + ms ≤ R.slots) (hst : (rest.map fun v => v.category).sum ≤ 8) (hd : decode cc pc = .ok (.invokevirtual 67, 3)) (kk : ∀ (H1 : Heap) (locs1 : List Loc), fP x S' H1 → fS x H0 H1 locs1 → W p l e R s m args below meth c H1 locs1 (cells + mc) (slots + ms) Q (F0 m (pc + 3) ls (.long r :: rest))) : W p l e R s m args below meth c H locs cells slots Q (F0 m pc ls (.int v0 :: .ref (xa x 0 0) :: rest)) := f_calll (f_runV (n := 1) (ci := 5) (As := [.int v0]) co_X_result ml_W_X_result im_X_result se_X_result in_X (by decide +kernel) rfl rfl cx hl hP (hv.at S) rfl hM hR.1.1 hR.1.2 hR.2.1 hR.2.2 hst hd) hS kk
theorem k_W_X_seal {lv : List (Nat × Value)} {v0 : Int32} {r : Int32} {S' : fm} {rm : Room} {mc ms : Nat} (cx : fX rn_W cc nL p c s m args x) (hl : lv_has ls nL lv) (hP : fP x S H) (hS : fS x H0 H locs) (hv : fv x 0 0) (hM : Met l mn_X_seal (gw_ws mn_X_seal cb_X_seal 2 (some .int)) rm (fPc x S [.ref (xa x 0 0), .int v0]) (fQi x S' r) mc ms (fun q => xs x ≤ q)) (hR : (rm.cells = mc ∧ rm.slots = ms) ∧ (rm.frames + 1 ≤ R.frames ∧ 8 + (2 + 11) + rm.locals ≤ R.locals) ∧ cells + mc ≤ R.cells ∧ slots + ms ≤ R.slots) (hst : (rest.map fun v => v.category).sum ≤ 8) (hd : decode cc pc = .ok (.invokevirtual 89, 3)) (kk : ∀ (H1 : Heap) (locs1 : List Loc), fP x S' H1 → fS x H0 H1 locs1 → W p l e R s m args below meth c H1 locs1 (cells + mc) (slots + ms) Q (F0 m (pc + 3) ls (.int r :: rest))) : W p l e R s m args below meth c H locs cells slots Q (F0 m pc ls (.int v0 :: .ref (xa x 0 0) :: rest)) := f_calli (f_runV (n := 1) (ci := 5) (As := [.int v0]) co_X_seal ml_W_X_seal im_X_seal se_X_seal in_X (by decide +kernel) rfl rfl cx hl hP (hv.at S) rfl hM hR.1.1 hR.1.2 hR.2.1 hR.2.2 hst hd) hS kk
theorem k_W_X_stop {lv : List (Nat × Value)} {v0 : Int32} {r : Int32} {S' : fm} {rm : Room} {mc ms : Nat} (cx : fX rn_W cc nL p c s m args x) (hl : lv_has ls nL lv) (hP : fP x S H) (hS : fS x H0 H locs) (hv : fv x 0 0) (hM : Met l mn_X_stop (gw_ws mn_X_stop cb_X_stop 2 (some .boolean)) rm (fPc x S [.ref (xa x 0 0), .int v0]) (fQi x S' r) mc ms (fun q => xs x ≤ q)) (hR : (rm.cells = mc ∧ rm.slots = ms) ∧ (rm.frames + 1 ≤ R.frames ∧ 8 + (2 + 11) + rm.locals ≤ R.locals) ∧ cells + mc ≤ R.cells ∧ slots + ms ≤ R.slots) (hst : (rest.map fun v => v.category).sum ≤ 8) (hd : decode cc pc = .ok (.invokevirtual 51, 3)) (kk : ∀ (H1 : Heap) (locs1 : List Loc), fP x S' H1 → fS x H0 H1 locs1 → W p l e R s m args below meth c H1 locs1 (cells + mc) (slots + ms) Q (F0 m (pc + 3) ls (.int r :: rest))) : W p l e R s m args below meth c H locs cells slots Q (F0 m pc ls (.int v0 :: .ref (xa x 0 0) :: rest)) := f_calli (f_runV (n := 1) (ci := 5) (As := [.int v0]) co_X_stop ml_W_X_stop im_X_stop se_X_stop in_X (by decide +kernel) rfl rfl cx hl hP (hv.at S) rfl hM hR.1.1 hR.1.2 hR.2.1 hR.2.2 hst hd) hS kk
theorem k_W_X_tag {lv : List (Nat × Value)} {v0 : Int32} {r : Int32} {S' : fm} {rm : Room} {mc ms : Nat} (cx : fX rn_W cc nL p c s m args x) (hl : lv_has ls nL lv) (hP : fP x S H) (hS : fS x H0 H locs) (hv : fv x 0 0) (hM : Met l mn_X_tag (gw_ws mn_X_tag cb_X_tag 2 (some .int)) rm (fPc x S [.ref (xa x 0 0), .int v0]) (fQi x S' r) mc ms (fun q => xs x ≤ q)) (hR : (rm.cells = mc ∧ rm.slots = ms) ∧ (rm.frames + 1 ≤ R.frames ∧ 8 + (2 + 11) + rm.locals ≤ R.locals) ∧ cells + mc ≤ R.cells ∧ slots + ms ≤ R.slots) (hst : (rest.map fun v => v.category).sum ≤ 8) (hd : decode cc pc = .ok (.invokevirtual 63, 3)) (kk : ∀ (H1 : Heap) (locs1 : List Loc), fP x S' H1 → fS x H0 H1 locs1 → W p l e R s m args below meth c H1 locs1 (cells + mc) (slots + ms) Q (F0 m (pc + 3) ls (.int r :: rest))) : W p l e R s m args below meth c H locs cells slots Q (F0 m pc ls (.int v0 :: .ref (xa x 0 0) :: rest)) := f_calli (f_runV (n := 1) (ci := 5) (As := [.int v0]) co_X_tag ml_W_X_tag im_X_tag se_X_tag in_X (by decide +kernel) rfl rfl cx hl hP (hv.at S) rfl hM hR.1.1 hR.1.2 hR.2.1 hR.2.2 hst hd) hS kk
theorem k_W_X_write {lv : List (Nat × Value)} {v0 : Int32} {v1 : Int64} {r : Int32} {S' : fm} {rm : Room} {mc ms : Nat} (cx : fX rn_W cc nL p c s m args x) (hl : lv_has ls nL lv) (hP : fP x S H) (hS : fS x H0 H locs) (hv : fv x 0 0) (hM : Met l mn_X_write (gw_ws mn_X_write cb_X_write 5 (some .int)) rm (fPc x S [.ref (xa x 0 0), .int v0, .long v1]) (fQi x S' r) mc ms (fun q => xs x ≤ q)) (hR : (rm.cells = mc ∧ rm.slots = ms) ∧ (rm.frames + 1 ≤ R.frames ∧ 8 + (5 + 11) + rm.locals ≤ R.locals) ∧ cells + mc ≤ R.cells ∧ slots + ms ≤ R.slots) (hst : (rest.map fun v => v.category).sum ≤ 8) (hd : decode cc pc = .ok (.invokevirtual 23, 3)) (kk : ∀ (H1 : Heap) (locs1 : List Loc), fP x S' H1 → fS x H0 H1 locs1 → W p l e R s m args below meth c H1 locs1 (cells + mc) (slots + ms) Q (F0 m (pc + 3) ls (.int r :: rest))) : W p l e R s m args below meth c H locs cells slots Q (F0 m pc ls (.long v1 :: .int v0 :: .ref (xa x 0 0) :: rest)) := f_calli (f_runV (n := 2) (ci := 5) (As := [.int v0, .long v1]) co_X_write ml_W_X_write im_X_write se_X_write in_X (by decide +kernel) rfl rfl cx hl hP (hv.at S) rfl hM hR.1.1 hR.1.2 hR.2.1 hR.2.2 hst hd) hS kk
theorem k_X_C_counts {lv : List (Nat × Value)} {v0 : Nat} {r : Int32} {S' : fm} {rm : Room} {mc ms : Nat} (cx : fX rn_X cc nL p c s m args x) (hl : lv_has ls nL lv) (hP : fP x S H) (hS : fS x H0 H locs) (hv : fv x 7 i) (hM : Met l mn_C_counts (gw_ws mn_C_counts cb_C_counts 2 (some .boolean)) rm (fPc x S [.ref (xa x 7 i), .ref v0]) (fQi x S' r) mc ms (fun q => xs x ≤ q)) (hR : (rm.cells = mc ∧ rm.slots = ms) ∧ (rm.frames + 1 ≤ R.frames ∧ 8 + (2 + 11) + rm.locals ≤ R.locals) ∧ cells + mc ≤ R.cells ∧ slots + ms ≤ R.slots) (hst : (rest.map fun v => v.category).sum ≤ 8) (hd : decode cc pc = .ok (.invokevirtual 108, 3)) (kk : ∀ (H1 : Heap) (locs1 : List Loc), fP x S' H1 → fS x H0 H1 locs1 → W p l e R s m args below meth c H1 locs1 (cells + mc) (slots + ms) Q (F0 m (pc + 3) ls (.int r :: rest))) : W p l e R s m args below meth c H locs cells slots Q (F0 m pc ls (.ref v0 :: .ref (xa x 7 i) :: rest)) := f_calli (f_runV (n := 1) (ci := 0) (As := [.ref v0]) co_C_counts ml_X_C_counts im_C_counts se_C_counts in_C (by decide +kernel) rfl rfl cx hl hP (hv.at S) rfl hM hR.1.1 hR.1.2 hR.2.1 hR.2.2 hst hd) hS kk
theorem k_X_C_enter {lv : List (Nat × Value)} {v0 : Int32} {S' : fm} {rm : Room} {mc ms : Nat} (cx : fX rn_X cc nL p c s m args x) (hl : lv_has ls nL lv) (hP : fP x S H) (hS : fS x H0 H locs) (hv : fv x 7 i) (hM : Met l mn_C_enter (gw_ws mn_C_enter cb_C_enter 2 none) rm (fPc x S [.ref (xa x 7 i), .int v0]) (fQv x S') mc ms (fun q => xs x ≤ q)) (hR : (rm.cells = mc ∧ rm.slots = ms) ∧ (rm.frames + 1 ≤ R.frames ∧ 8 + (2 + 11) + rm.locals ≤ R.locals) ∧ cells + mc ≤ R.cells ∧ slots + ms ≤ R.slots) (hst : (rest.map fun v => v.category).sum ≤ 8) (hd : decode cc pc = .ok (.invokevirtual 179, 3)) (kk : ∀ (H1 : Heap) (locs1 : List Loc), fP x S' H1 → fS x H0 H1 locs1 → W p l e R s m args below meth c H1 locs1 (cells + mc) (slots + ms) Q (F0 m (pc + 3) ls (rest))) : W p l e R s m args below meth c H locs cells slots Q (F0 m pc ls (.int v0 :: .ref (xa x 7 i) :: rest)) := f_callv (f_runV (n := 1) (ci := 0) (As := [.int v0]) co_C_enter ml_X_C_enter im_C_enter se_C_enter in_C (by decide +kernel) rfl rfl cx hl hP (hv.at S) rfl hM hR.1.1 hR.1.2 hR.2.1 hR.2.2 hst hd) hS kk
theorem k_X_C_finish {lv : List (Nat × Value)}  {S' : fm} {rm : Room} {mc ms : Nat} (cx : fX rn_X cc nL p c s m args x) (hl : lv_has ls nL lv) (hP : fP x S H) (hS : fS x H0 H locs) (hv : fv x 7 i) (hM : Met l mn_C_finish (gw_ws mn_C_finish cb_C_finish 1 none) rm (fPc x S [.ref (xa x 7 i)]) (fQv x S') mc ms (fun q => xs x ≤ q)) (hR : (rm.cells = mc ∧ rm.slots = ms) ∧ (rm.frames + 1 ≤ R.frames ∧ 8 + (1 + 11) + rm.locals ≤ R.locals) ∧ cells + mc ≤ R.cells ∧ slots + ms ≤ R.slots) (hst : (rest.map fun v => v.category).sum ≤ 8) (hd : decode cc pc = .ok (.invokevirtual 216, 3)) (kk : ∀ (H1 : Heap) (locs1 : List Loc), fP x S' H1 → fS x H0 H1 locs1 → W p l e R s m args below meth c H1 locs1 (cells + mc) (slots + ms) Q (F0 m (pc + 3) ls (rest))) : W p l e R s m args below meth c H locs cells slots Q (F0 m pc ls (.ref (xa x 7 i) :: rest)) := f_callv (f_runV (n := 0) (ci := 0) (As := []) co_C_finish ml_X_C_finish im_C_finish se_C_finish in_C (by decide +kernel) rfl rfl cx hl hP (hv.at S) rfl hM hR.1.1 hR.1.2 hR.2.1 hR.2.2 hst hd) hS kk
theorem k_X_C_hasAllFragments {lv : List (Nat × Value)}  {r : Int32} {S' : fm} {rm : Room} {mc ms : Nat} (cx : fX rn_X cc nL p c s m args x) (hl : lv_has ls nL lv) (hP : fP x S H) (hS : fS x H0 H locs) (hv : fv x 7 i) (hM : Met l mn_C_hasAllFragments (gw_ws mn_C_hasAllFragments cb_C_hasAllFragments 1 (some .boolean)) rm (fPc x S [.ref (xa x 7 i)]) (fQi x S' r) mc ms (fun q => xs x ≤ q)) (hR : (rm.cells = mc ∧ rm.slots = ms) ∧ (rm.frames + 1 ≤ R.frames ∧ 8 + (1 + 11) + rm.locals ≤ R.locals) ∧ cells + mc ≤ R.cells ∧ slots + ms ≤ R.slots) (hst : (rest.map fun v => v.category).sum ≤ 8) (hd : decode cc pc = .ok (.invokevirtual 202, 3)) (kk : ∀ (H1 : Heap) (locs1 : List Loc), fP x S' H1 → fS x H0 H1 locs1 → W p l e R s m args below meth c H1 locs1 (cells + mc) (slots + ms) Q (F0 m (pc + 3) ls (.int r :: rest))) : W p l e R s m args below meth c H locs cells slots Q (F0 m pc ls (.ref (xa x 7 i) :: rest)) := f_calli (f_runV (n := 0) (ci := 0) (As := []) co_C_hasAllFragments ml_X_C_hasAllFragments im_C_hasAllFragments se_C_hasAllFragments in_C (by decide +kernel) rfl rfl cx hl hP (hv.at S) rfl hM hR.1.1 hR.1.2 hR.2.1 hR.2.2 hst hd) hS kk
theorem k_X_C_isAtWork {lv : List (Nat × Value)}  {r : Int32} {S' : fm} {rm : Room} {mc ms : Nat} (cx : fX rn_X cc nL p c s m args x) (hl : lv_has ls nL lv) (hP : fP x S H) (hS : fS x H0 H locs) (hv : fv x 7 i) (hM : Met l mn_C_isAtWork (gw_ws mn_C_isAtWork cb_C_isAtWork 1 (some .boolean)) rm (fPc x S [.ref (xa x 7 i)]) (fQi x S' r) mc ms (fun q => xs x ≤ q)) (hR : (rm.cells = mc ∧ rm.slots = ms) ∧ (rm.frames + 1 ≤ R.frames ∧ 8 + (1 + 11) + rm.locals ≤ R.locals) ∧ cells + mc ≤ R.cells ∧ slots + ms ≤ R.slots) (hst : (rest.map fun v => v.category).sum ≤ 8) (hd : decode cc pc = .ok (.invokevirtual 130, 3)) (kk : ∀ (H1 : Heap) (locs1 : List Loc), fP x S' H1 → fS x H0 H1 locs1 → W p l e R s m args below meth c H1 locs1 (cells + mc) (slots + ms) Q (F0 m (pc + 3) ls (.int r :: rest))) : W p l e R s m args below meth c H locs cells slots Q (F0 m pc ls (.ref (xa x 7 i) :: rest)) := f_calli (f_runV (n := 0) (ci := 0) (As := []) co_C_isAtWork ml_X_C_isAtWork im_C_isAtWork se_C_isAtWork in_C (by decide +kernel) rfl rfl cx hl hP (hv.at S) rfl hM hR.1.1 hR.1.2 hR.2.1 hR.2.2 hst hd) hS kk
theorem k_X_C_take {lv : List (Nat × Value)} {v0 : Nat} {v1 : Int32} {S' : fm} {rm : Room} {mc ms : Nat} (cx : fX rn_X cc nL p c s m args x) (hl : lv_has ls nL lv) (hP : fP x S H) (hS : fS x H0 H locs) (hv : fv x 7 i) (hM : Met l mn_C_take (gw_ws mn_C_take cb_C_take 3 none) rm (fPc x S [.ref (xa x 7 i), .ref v0, .int v1]) (fQv x S') mc ms (fun q => xs x ≤ q)) (hR : (rm.cells = mc ∧ rm.slots = ms) ∧ (rm.frames + 1 ≤ R.frames ∧ 8 + (3 + 11) + rm.locals ≤ R.locals) ∧ cells + mc ≤ R.cells ∧ slots + ms ≤ R.slots) (hst : (rest.map fun v => v.category).sum ≤ 8) (hd : decode cc pc = .ok (.invokevirtual 112, 3)) (kk : ∀ (H1 : Heap) (locs1 : List Loc), fP x S' H1 → fS x H0 H1 locs1 → W p l e R s m args below meth c H1 locs1 (cells + mc) (slots + ms) Q (F0 m (pc + 3) ls (rest))) : W p l e R s m args below meth c H locs cells slots Q (F0 m pc ls (.int v1 :: .ref v0 :: .ref (xa x 7 i) :: rest)) := f_callv (f_runV (n := 2) (ci := 0) (As := [.ref v0, .int v1]) co_C_take ml_X_C_take im_C_take se_C_take in_C (by decide +kernel) rfl rfl cx hl hP (hv.at S) rfl hM hR.1.1 hR.1.2 hR.2.1 hR.2.2 hst hd) hS kk
theorem k_X_J_max {lv : List (Nat × Value)} {y z : Int32} (cx : fX rn_X cc nL p c s m args x) (hl : lv_has ls nL lv) (hR : 1 ≤ R.frames ∧ (rest.map fun v => v.category).sum + 13 ≤ R.locals ∧ cells ≤ R.cells ∧ slots ≤ R.slots) (hd : decode cc pc = .ok (.invokestatic 175, 3)) (kk : W p l e R s m args below meth c H locs cells slots Q (F0 m (pc + 3) ls (.int (if z < y then y else z) :: rest))) : W p l e R s m args below meth c H locs cells slots Q (F0 m pc ls (.int y :: .int z :: rest)) := va_mmax cx.1.1 cx.1.2.1 (by rw [cx.1.2.2.1]; exact hl.1.symm) cx.1.2.2.2.1 (cx.1.2.2.2.2 _ ml_X_J_max) (cx.1.2.2.2.2 _ st_J_max) (cx.1.2.2.2.2 _ in_J) (cx.1.2.2.2.2 _ co_J_max) hR.1 hR.2.1 hR.2.2.1 hR.2.2.2 hd kk
theorem k_X_J_min {lv : List (Nat × Value)} {y z : Int32} (cx : fX rn_X cc nL p c s m args x) (hl : lv_has ls nL lv) (hR : 1 ≤ R.frames ∧ (rest.map fun v => v.category).sum + 13 ≤ R.locals ∧ cells ≤ R.cells ∧ slots ≤ R.slots) (hd : decode cc pc = .ok (.invokestatic 170, 3)) (kk : W p l e R s m args below meth c H locs cells slots Q (F0 m (pc + 3) ls (.int (if y < z then y else z) :: rest))) : W p l e R s m args below meth c H locs cells slots Q (F0 m pc ls (.int y :: .int z :: rest)) := va_mmin cx.1.1 cx.1.2.1 (by rw [cx.1.2.2.1]; exact hl.1.symm) cx.1.2.2.2.1 (cx.1.2.2.2.2 _ ml_X_J_min) (cx.1.2.2.2.2 _ st_J_min) (cx.1.2.2.2.2 _ in_J) (cx.1.2.2.2.2 _ co_J_min) hR.1 hR.2.1 hR.2.2.1 hR.2.2.2 hd kk
theorem k_X_K_byteAt {lv : List (Nat × Value)} {v0 : Int64} {v1 : Int32} {r : Int32} {S' : fm} {rm : Room} {mc ms : Nat} (cx : fX rn_X cc nL p c s m args x) (hl : lv_has ls nL lv) (hP : fP x S H) (hS : fS x H0 H locs)  (hM : Met l mn_K_byteAt (gw_ws mn_K_byteAt cb_K_byteAt 3 (some .int)) rm (fPc x S [.long v0, .int v1]) (fQi x S' r) mc ms (fun q => xs x ≤ q)) (hR : (rm.cells = mc ∧ rm.slots = ms) ∧ (rm.frames + 1 ≤ R.frames ∧ 8 + (3 + 11) + rm.locals ≤ R.locals) ∧ cells + mc ≤ R.cells ∧ slots + ms ≤ R.slots) (hst : (rest.map fun v => v.category).sum ≤ 8) (hd : decode cc pc = .ok (.invokestatic 160, 3)) (kk : ∀ (H1 : Heap) (locs1 : List Loc), fP x S' H1 → fS x H0 H1 locs1 → W p l e R s m args below meth c H1 locs1 (cells + mc) (slots + ms) Q (F0 m (pc + 3) ls (.int r :: rest))) : W p l e R s m args below meth c H locs cells slots Q (F0 m pc ls (.int v1 :: .long v0 :: rest)) := f_calli (f_runS (n := 2) (As := [.long v0, .int v1]) co_K_byteAt ml_X_K_byteAt st_K_byteAt in_K (by decide +kernel) rfl cx hl hP hM hR.1.1 hR.1.2 hR.2.1 hR.2.2 hst hd) hS kk
theorem k_X_K_decode {lv : List (Nat × Value)} {v0 : Nat} {v1 : Nat} {r : Int64} {S' : fm} {rm : Room} {mc ms : Nat} (cx : fX rn_X cc nL p c s m args x) (hl : lv_has ls nL lv) (hP : fP x S H) (hS : fS x H0 H locs) (hv : fv x 1 0) (hM : Met l mn_K_decode (gw_ws mn_K_decode cb_K_decode 7 (some .long)) rm (fPc x S [.ref (xa x 1 0), .ref v0, .ref v1]) (fQl x S' r) mc ms (fun q => xs x ≤ q)) (hR : (rm.cells = mc ∧ rm.slots = ms) ∧ (rm.frames + 1 ≤ R.frames ∧ 8 + (7 + 11) + rm.locals ≤ R.locals) ∧ cells + mc ≤ R.cells ∧ slots + ms ≤ R.slots) (hst : (rest.map fun v => v.category).sum ≤ 8) (hd : decode cc pc = .ok (.invokevirtual 212, 3)) (kk : ∀ (H1 : Heap) (locs1 : List Loc), fP x S' H1 → fS x H0 H1 locs1 → W p l e R s m args below meth c H1 locs1 (cells + mc) (slots + ms) Q (F0 m (pc + 3) ls (.long r :: rest))) : W p l e R s m args below meth c H locs cells slots Q (F0 m pc ls (.ref v1 :: .ref v0 :: .ref (xa x 1 0) :: rest)) := f_calll (f_runV (n := 2) (ci := 1) (As := [.ref v0, .ref v1]) co_K_decode ml_X_K_decode im_K_decode se_K_decode in_K (by decide +kernel) rfl rfl cx hl hP (hv.at S) rfl hM hR.1.1 hR.1.2 hR.2.1 hR.2.2 hst hd) hS kk
theorem k_X_K_encode {lv : List (Nat × Value)} {v0 : Int64} {v1 : Int32} {r : Int64} {S' : fm} {rm : Room} {mc ms : Nat} (cx : fX rn_X cc nL p c s m args x) (hl : lv_has ls nL lv) (hP : fP x S H) (hS : fS x H0 H locs) (hv : fv x 1 0) (hM : Met l mn_K_encode (gw_ws mn_K_encode cb_K_encode 9 (some .long)) rm (fPc x S [.ref (xa x 1 0), .long v0, .int v1]) (fQl x S' r) mc ms (fun q => xs x ≤ q)) (hR : (rm.cells = mc ∧ rm.slots = ms) ∧ (rm.frames + 1 ≤ R.frames ∧ 8 + (9 + 11) + rm.locals ≤ R.locals) ∧ cells + mc ≤ R.cells ∧ slots + ms ≤ R.slots) (hst : (rest.map fun v => v.category).sum ≤ 8) (hd : decode cc pc = .ok (.invokevirtual 195, 3)) (kk : ∀ (H1 : Heap) (locs1 : List Loc), fP x S' H1 → fS x H0 H1 locs1 → W p l e R s m args below meth c H1 locs1 (cells + mc) (slots + ms) Q (F0 m (pc + 3) ls (.long r :: rest))) : W p l e R s m args below meth c H locs cells slots Q (F0 m pc ls (.int v1 :: .long v0 :: .ref (xa x 1 0) :: rest)) := f_calll (f_runV (n := 2) (ci := 1) (As := [.long v0, .int v1]) co_K_encode ml_X_K_encode im_K_encode se_K_encode in_K (by decide +kernel) rfl rfl cx hl hP (hv.at S) rfl hM hR.1.1 hR.1.2 hR.2.1 hR.2.2 hst hd) hS kk
theorem k_X_L_init {lv : List (Nat × Value)} {v0 : Int32} {v1 : Int32} {v2 : Int32} {S' : fm} {rm : Room} {mc ms : Nat} (cx : fX rn_X cc nL p c s m args x) (hl : lv_has ls nL lv) (hP : fP x S H) (hS : fS x H0 H locs)  (hM : Met l mn_L_init (gw_ws mn_L_init cb_L_init 4 none) rm (fPc x S [.ref a, .int v0, .int v1, .int v2]) (fQv x S') mc ms (fun q => xs x ≤ q)) (hR : (rm.cells = mc ∧ rm.slots = ms) ∧ (rm.frames + 1 ≤ R.frames ∧ 8 + (4 + 11) + rm.locals ≤ R.locals) ∧ cells + mc ≤ R.cells ∧ slots + ms ≤ R.slots) (hst : (rest.map fun v => v.category).sum ≤ 8) (hd : decode cc pc = .ok (.invokespecial 192, 3)) (kk : ∀ (H1 : Heap) (locs1 : List Loc), fP x S' H1 → fS x H0 H1 locs1 → W p l e R s m args below meth c H1 locs1 (cells + mc) (slots + ms) Q (F0 m (pc + 3) ls (rest))) : W p l e R s m args below meth c H locs cells slots Q (F0 m pc ls (.int v2 :: .int v1 :: .int v0 :: .ref a :: rest)) := f_callv (f_runI (n := 3) (As := [.int v0, .int v1, .int v2]) co_L_init ml_X_L_init im_L_init in_L rfl (by decide +kernel) rfl cx hl hP hM hR.1.1 hR.1.2 hR.2.1 hR.2.2 hst hd) hS kk
theorem k_X_R_append {lv : List (Nat × Value)} {v0 : Nat} {S' : fm} {rm : Room} {mc ms : Nat} (cx : fX rn_X cc nL p c s m args x) (hl : lv_has ls nL lv) (hP : fP x S H) (hS : fS x H0 H locs) (hv : fv x 13 i) (hM : Met l mn_R_append (gw_ws mn_R_append cb_R_append 2 none) rm (fPc x S [.ref (xa x 13 i), .ref v0]) (fQv x S') mc ms (fun q => xs x ≤ q)) (hR : (rm.cells = mc ∧ rm.slots = ms) ∧ (rm.frames + 1 ≤ R.frames ∧ 8 + (2 + 11) + rm.locals ≤ R.locals) ∧ cells + mc ≤ R.cells ∧ slots + ms ≤ R.slots) (hst : (rest.map fun v => v.category).sum ≤ 8) (hd : decode cc pc = .ok (.invokevirtual 102, 3)) (kk : ∀ (H1 : Heap) (locs1 : List Loc), fP x S' H1 → fS x H0 H1 locs1 → W p l e R s m args below meth c H1 locs1 (cells + mc) (slots + ms) Q (F0 m (pc + 3) ls (rest))) : W p l e R s m args below meth c H locs cells slots Q (F0 m pc ls (.ref v0 :: .ref (xa x 13 i) :: rest)) := f_callv (f_runV (n := 1) (ci := 3) (As := [.ref v0]) co_R_append ml_X_R_append im_R_append se_R_append in_R (by decide +kernel) rfl rfl cx hl hP (hv.at S) rfl hM hR.1.1 hR.1.2 hR.2.1 hR.2.2 hst hd) hS kk
theorem k_X_R_lose {lv : List (Nat × Value)}  {S' : fm} {rm : Room} {mc ms : Nat} (cx : fX rn_X cc nL p c s m args x) (hl : lv_has ls nL lv) (hP : fP x S H) (hS : fS x H0 H locs) (hv : fv x 13 i) (hM : Met l mn_R_lose (gw_ws mn_R_lose cb_R_lose 2 none) rm (fPc x S [.ref (xa x 13 i)]) (fQv x S') mc ms (fun q => xs x ≤ q)) (hR : (rm.cells = mc ∧ rm.slots = ms) ∧ (rm.frames + 1 ≤ R.frames ∧ 8 + (2 + 11) + rm.locals ≤ R.locals) ∧ cells + mc ≤ R.cells ∧ slots + ms ≤ R.slots) (hst : (rest.map fun v => v.category).sum ≤ 8) (hd : decode cc pc = .ok (.invokevirtual 127, 3)) (kk : ∀ (H1 : Heap) (locs1 : List Loc), fP x S' H1 → fS x H0 H1 locs1 → W p l e R s m args below meth c H1 locs1 (cells + mc) (slots + ms) Q (F0 m (pc + 3) ls (rest))) : W p l e R s m args below meth c H locs cells slots Q (F0 m pc ls (.ref (xa x 13 i) :: rest)) := f_callv (f_runV (n := 0) (ci := 3) (As := []) co_R_lose ml_X_R_lose im_R_lose se_R_lose in_R (by decide +kernel) rfl rfl cx hl hP (hv.at S) rfl hM hR.1.1 hR.1.2 hR.2.1 hR.2.2 hst hd) hS kk
theorem k_X_R_take {lv : List (Nat × Value)} {v0 : Int32} {r : Option Nat} {S' : fm} {rm : Room} {mc ms : Nat} (cx : fX rn_X cc nL p c s m args x) (hl : lv_has ls nL lv) (hP : fP x S H) (hS : fS x H0 H locs) (hv : fv x 13 i) (hM : Met l mn_R_take (gw_ws mn_R_take cb_R_take 4 (some (.object "SealedFragmentRegister$Letter"))) rm (fPc x S [.ref (xa x 13 i), .int v0]) (fQq x S' r) mc ms (fun q => xs x ≤ q)) (hR : (rm.cells = mc ∧ rm.slots = ms) ∧ (rm.frames + 1 ≤ R.frames ∧ 8 + (4 + 11) + rm.locals ≤ R.locals) ∧ cells + mc ≤ R.cells ∧ slots + ms ≤ R.slots) (hst : (rest.map fun v => v.category).sum ≤ 8) (hd : decode cc pc = .ok (.invokevirtual 92, 3)) (kk : ∀ (H1 : Heap) (locs1 : List Loc), fP x S' H1 → fS x H0 H1 locs1 → W p l e R s m args below meth c H1 locs1 (cells + mc) (slots + ms) Q (F0 m (pc + 3) ls (va_rf r :: rest))) : W p l e R s m args below meth c H locs cells slots Q (F0 m pc ls (.int v0 :: .ref (xa x 13 i) :: rest)) := f_callq (f_runV (n := 1) (ci := 3) (As := [.int v0]) co_R_take ml_X_R_take im_R_take se_R_take in_R (by decide +kernel) rfl rfl cx hl hP (hv.at S) rfl hM hR.1.1 hR.1.2 hR.2.1 hR.2.2 hst hd) hS kk
theorem k_X_S_answer {lv : List (Nat × Value)} {v0 : Nat} {S' : fm} {rm : Room} {mc ms : Nat} (cx : fX rn_X cc nL p c s m args x) (hl : lv_has ls nL lv) (hP : fP x S H) (hS : fS x H0 H locs) (hv : fv x 10 i) (hM : Met l mn_S_answer (gw_ws mn_S_answer cb_S_answer 2 none) rm (fPc x S [.ref (xa x 10 i), .ref v0]) (fQv x S') mc ms (fun q => xs x ≤ q)) (hR : (rm.cells = mc ∧ rm.slots = ms) ∧ (rm.frames + 1 ≤ R.frames ∧ 8 + (2 + 11) + rm.locals ≤ R.locals) ∧ cells + mc ≤ R.cells ∧ slots + ms ≤ R.slots) (hst : (rest.map fun v => v.category).sum ≤ 8) (hd : decode cc pc = .ok (.invokevirtual 98, 3)) (kk : ∀ (H1 : Heap) (locs1 : List Loc), fP x S' H1 → fS x H0 H1 locs1 → W p l e R s m args below meth c H1 locs1 (cells + mc) (slots + ms) Q (F0 m (pc + 3) ls (rest))) : W p l e R s m args below meth c H locs cells slots Q (F0 m pc ls (.ref v0 :: .ref (xa x 10 i) :: rest)) := f_callv (f_runV (n := 1) (ci := 4) (As := [.ref v0]) co_S_answer ml_X_S_answer im_S_answer se_S_answer in_S (by decide +kernel) rfl rfl cx hl hP (hv.at S) rfl hM hR.1.1 hR.1.2 hR.2.1 hR.2.2 hst hd) hS kk
theorem k_X_S_placeOf {lv : List (Nat × Value)} {v0 : Int32} {r : Int32} {S' : fm} {rm : Room} {mc ms : Nat} (cx : fX rn_X cc nL p c s m args x) (hl : lv_has ls nL lv) (hP : fP x S H) (hS : fS x H0 H locs) (hv : fv x 10 i) (hM : Met l mn_S_placeOf (gw_ws mn_S_placeOf cb_S_placeOf 3 (some .int)) rm (fPc x S [.ref (xa x 10 i), .int v0]) (fQi x S' r) mc ms (fun q => xs x ≤ q)) (hR : (rm.cells = mc ∧ rm.slots = ms) ∧ (rm.frames + 1 ≤ R.frames ∧ 8 + (3 + 11) + rm.locals ≤ R.locals) ∧ cells + mc ≤ R.cells ∧ slots + ms ≤ R.slots) (hst : (rest.map fun v => v.category).sum ≤ 8) (hd : decode cc pc = .ok (.invokevirtual 153, 3)) (kk : ∀ (H1 : Heap) (locs1 : List Loc), fP x S' H1 → fS x H0 H1 locs1 → W p l e R s m args below meth c H1 locs1 (cells + mc) (slots + ms) Q (F0 m (pc + 3) ls (.int r :: rest))) : W p l e R s m args below meth c H locs cells slots Q (F0 m pc ls (.int v0 :: .ref (xa x 10 i) :: rest)) := f_calli (f_runV (n := 1) (ci := 4) (As := [.int v0]) co_S_placeOf ml_X_S_placeOf im_S_placeOf se_S_placeOf in_S (by decide +kernel) rfl rfl cx hl hP (hv.at S) rfl hM hR.1.1 hR.1.2 hR.2.1 hR.2.2 hst hd) hS kk
theorem k_X_X_beginPhase {lv : List (Nat × Value)} {v0 : Nat} {v1 : Int32} {S' : fm} {rm : Room} {mc ms : Nat} (cx : fX rn_X cc nL p c s m args x) (hl : lv_has ls nL lv) (hP : fP x S H) (hS : fS x H0 H locs) (hv : fv x 0 0) (hM : Met l mn_X_beginPhase (gw_ws mn_X_beginPhase cb_X_beginPhase 4 none) rm (fPc x S [.ref (xa x 0 0), .ref v0, .int v1]) (fQv x S') mc ms (fun q => xs x ≤ q)) (hR : (rm.cells = mc ∧ rm.slots = ms) ∧ (rm.frames + 1 ≤ R.frames ∧ 8 + (4 + 11) + rm.locals ≤ R.locals) ∧ cells + mc ≤ R.cells ∧ slots + ms ≤ R.slots) (hst : (rest.map fun v => v.category).sum ≤ 8) (hd : decode cc pc = .ok (.invokevirtual 64, 3)) (kk : ∀ (H1 : Heap) (locs1 : List Loc), fP x S' H1 → fS x H0 H1 locs1 → W p l e R s m args below meth c H1 locs1 (cells + mc) (slots + ms) Q (F0 m (pc + 3) ls (rest))) : W p l e R s m args below meth c H locs cells slots Q (F0 m pc ls (.int v1 :: .ref v0 :: .ref (xa x 0 0) :: rest)) := f_callv (f_runV (n := 2) (ci := 5) (As := [.ref v0, .int v1]) co_X_beginPhase ml_X_X_beginPhase im_X_beginPhase se_X_beginPhase in_X (by decide +kernel) rfl rfl cx hl hP (hv.at S) rfl hM hR.1.1 hR.1.2 hR.2.1 hR.2.2 hst hd) hS kk
theorem k_X_X_between {lv : List (Nat × Value)} {v0 : Int32} {v1 : Int32} {v2 : Int32} {r : Int32} {S' : fm} {rm : Room} {mc ms : Nat} (cx : fX rn_X cc nL p c s m args x) (hl : lv_has ls nL lv) (hP : fP x S H) (hS : fS x H0 H locs)  (hM : Met l mn_X_between (gw_ws mn_X_between cb_X_between 3 (some .int)) rm (fPc x S [.int v0, .int v1, .int v2]) (fQi x S' r) mc ms (fun q => xs x ≤ q)) (hR : (rm.cells = mc ∧ rm.slots = ms) ∧ (rm.frames + 1 ≤ R.frames ∧ 8 + (3 + 11) + rm.locals ≤ R.locals) ∧ cells + mc ≤ R.cells ∧ slots + ms ≤ R.slots) (hst : (rest.map fun v => v.category).sum ≤ 8) (hd : decode cc pc = .ok (.invokestatic 9, 3)) (kk : ∀ (H1 : Heap) (locs1 : List Loc), fP x S' H1 → fS x H0 H1 locs1 → W p l e R s m args below meth c H1 locs1 (cells + mc) (slots + ms) Q (F0 m (pc + 3) ls (.int r :: rest))) : W p l e R s m args below meth c H locs cells slots Q (F0 m pc ls (.int v2 :: .int v1 :: .int v0 :: rest)) := f_calli (f_runS (n := 3) (As := [.int v0, .int v1, .int v2]) co_X_between ml_X_X_between st_X_between in_X (by decide +kernel) rfl cx hl hP hM hR.1.1 hR.1.2 hR.2.1 hR.2.2 hst hd) hS kk
theorem k_X_X_endPhase {lv : List (Nat × Value)} {v0 : Nat} {r : Int32} {S' : fm} {rm : Room} {mc ms : Nat} (cx : fX rn_X cc nL p c s m args x) (hl : lv_has ls nL lv) (hP : fP x S H) (hS : fS x H0 H locs) (hv : fv x 0 0) (hM : Met l mn_X_endPhase (gw_ws mn_X_endPhase cb_X_endPhase 3 (some .int)) rm (fPc x S [.ref (xa x 0 0), .ref v0]) (fQi x S' r) mc ms (fun q => xs x ≤ q)) (hR : (rm.cells = mc ∧ rm.slots = ms) ∧ (rm.frames + 1 ≤ R.frames ∧ 8 + (3 + 11) + rm.locals ≤ R.locals) ∧ cells + mc ≤ R.cells ∧ slots + ms ≤ R.slots) (hst : (rest.map fun v => v.category).sum ≤ 8) (hd : decode cc pc = .ok (.invokevirtual 119, 3)) (kk : ∀ (H1 : Heap) (locs1 : List Loc), fP x S' H1 → fS x H0 H1 locs1 → W p l e R s m args below meth c H1 locs1 (cells + mc) (slots + ms) Q (F0 m (pc + 3) ls (.int r :: rest))) : W p l e R s m args below meth c H locs cells slots Q (F0 m pc ls (.ref v0 :: .ref (xa x 0 0) :: rest)) := f_calli (f_runV (n := 1) (ci := 5) (As := [.ref v0]) co_X_endPhase ml_X_X_endPhase im_X_endPhase se_X_endPhase in_X (by decide +kernel) rfl rfl cx hl hP (hv.at S) rfl hM hR.1.1 hR.1.2 hR.2.1 hR.2.2 hst hd) hS kk
theorem k_X_X_hasHeardEnough {lv : List (Nat × Value)} {v0 : Nat} {r : Int32} {S' : fm} {rm : Room} {mc ms : Nat} (cx : fX rn_X cc nL p c s m args x) (hl : lv_has ls nL lv) (hP : fP x S H) (hS : fS x H0 H locs) (hv : fv x 0 0) (hM : Met l mn_X_hasHeardEnough (gw_ws mn_X_hasHeardEnough cb_X_hasHeardEnough 2 (some .boolean)) rm (fPc x S [.ref (xa x 0 0), .ref v0]) (fQi x S' r) mc ms (fun q => xs x ≤ q)) (hR : (rm.cells = mc ∧ rm.slots = ms) ∧ (rm.frames + 1 ≤ R.frames ∧ 8 + (2 + 11) + rm.locals ≤ R.locals) ∧ cells + mc ≤ R.cells ∧ slots + ms ≤ R.slots) (hst : (rest.map fun v => v.category).sum ≤ 8) (hd : decode cc pc = .ok (.invokevirtual 115, 3)) (kk : ∀ (H1 : Heap) (locs1 : List Loc), fP x S' H1 → fS x H0 H1 locs1 → W p l e R s m args below meth c H1 locs1 (cells + mc) (slots + ms) Q (F0 m (pc + 3) ls (.int r :: rest))) : W p l e R s m args below meth c H locs cells slots Q (F0 m pc ls (.ref v0 :: .ref (xa x 0 0) :: rest)) := f_calli (f_runV (n := 1) (ci := 5) (As := [.ref v0]) co_X_hasHeardEnough ml_X_X_hasHeardEnough im_X_hasHeardEnough se_X_hasHeardEnough in_X (by decide +kernel) rfl rfl cx hl hP (hv.at S) rfl hM hR.1.1 hR.1.2 hR.2.1 hR.2.2 hst hd) hS kk
theorem k_X_X_isClient {lv : List (Nat × Value)} {v0 : Int32} {r : Int32} {S' : fm} {rm : Room} {mc ms : Nat} (cx : fX rn_X cc nL p c s m args x) (hl : lv_has ls nL lv) (hP : fP x S H) (hS : fS x H0 H locs) (hv : fv x 0 0) (hM : Met l mn_X_isClient (gw_ws mn_X_isClient cb_X_isClient 2 (some .boolean)) rm (fPc x S [.ref (xa x 0 0), .int v0]) (fQi x S' r) mc ms (fun q => xs x ≤ q)) (hR : (rm.cells = mc ∧ rm.slots = ms) ∧ (rm.frames + 1 ≤ R.frames ∧ 8 + (2 + 11) + rm.locals ≤ R.locals) ∧ cells + mc ≤ R.cells ∧ slots + ms ≤ R.slots) (hst : (rest.map fun v => v.category).sum ≤ 8) (hd : decode cc pc = .ok (.invokevirtual 68, 3)) (kk : ∀ (H1 : Heap) (locs1 : List Loc), fP x S' H1 → fS x H0 H1 locs1 → W p l e R s m args below meth c H1 locs1 (cells + mc) (slots + ms) Q (F0 m (pc + 3) ls (.int r :: rest))) : W p l e R s m args below meth c H locs cells slots Q (F0 m pc ls (.int v0 :: .ref (xa x 0 0) :: rest)) := f_calli (f_runV (n := 1) (ci := 5) (As := [.int v0]) co_X_isClient ml_X_X_isClient im_X_isClient se_X_isClient in_X (by decide +kernel) rfl rfl cx hl hP (hv.at S) rfl hM hR.1.1 hR.1.2 hR.2.1 hR.2.2 hst hd) hS kk
theorem k_X_X_isCrowded {lv : List (Nat × Value)} {v0 : Int32} {r : Int32} {S' : fm} {rm : Room} {mc ms : Nat} (cx : fX rn_X cc nL p c s m args x) (hl : lv_has ls nL lv) (hP : fP x S H) (hS : fS x H0 H locs) (hv : fv x 0 0) (hM : Met l mn_X_isCrowded (gw_ws mn_X_isCrowded cb_X_isCrowded 4 (some .boolean)) rm (fPc x S [.ref (xa x 0 0), .int v0]) (fQi x S' r) mc ms (fun q => xs x ≤ q)) (hR : (rm.cells = mc ∧ rm.slots = ms) ∧ (rm.frames + 1 ≤ R.frames ∧ 8 + (4 + 11) + rm.locals ≤ R.locals) ∧ cells + mc ≤ R.cells ∧ slots + ms ≤ R.slots) (hst : (rest.map fun v => v.category).sum ≤ 8) (hd : decode cc pc = .ok (.invokevirtual 82, 3)) (kk : ∀ (H1 : Heap) (locs1 : List Loc), fP x S' H1 → fS x H0 H1 locs1 → W p l e R s m args below meth c H1 locs1 (cells + mc) (slots + ms) Q (F0 m (pc + 3) ls (.int r :: rest))) : W p l e R s m args below meth c H locs cells slots Q (F0 m pc ls (.int v0 :: .ref (xa x 0 0) :: rest)) := f_calli (f_runV (n := 1) (ci := 5) (As := [.int v0]) co_X_isCrowded ml_X_X_isCrowded im_X_isCrowded se_X_isCrowded in_X (by decide +kernel) rfl rfl cx hl hP (hv.at S) rfl hM hR.1.1 hR.1.2 hR.2.1 hR.2.2 hst hd) hS kk
theorem k_X_X_isServer {lv : List (Nat × Value)} {v0 : Int32} {r : Int32} {S' : fm} {rm : Room} {mc ms : Nat} (cx : fX rn_X cc nL p c s m args x) (hl : lv_has ls nL lv) (hP : fP x S H) (hS : fS x H0 H locs) (hv : fv x 0 0) (hM : Met l mn_X_isServer (gw_ws mn_X_isServer cb_X_isServer 2 (some .boolean)) rm (fPc x S [.ref (xa x 0 0), .int v0]) (fQi x S' r) mc ms (fun q => xs x ≤ q)) (hR : (rm.cells = mc ∧ rm.slots = ms) ∧ (rm.frames + 1 ≤ R.frames ∧ 8 + (2 + 11) + rm.locals ≤ R.locals) ∧ cells + mc ≤ R.cells ∧ slots + ms ≤ R.slots) (hst : (rest.map fun v => v.category).sum ≤ 8) (hd : decode cc pc = .ok (.invokevirtual 85, 3)) (kk : ∀ (H1 : Heap) (locs1 : List Loc), fP x S' H1 → fS x H0 H1 locs1 → W p l e R s m args below meth c H1 locs1 (cells + mc) (slots + ms) Q (F0 m (pc + 3) ls (.int r :: rest))) : W p l e R s m args below meth c H locs cells slots Q (F0 m pc ls (.int v0 :: .ref (xa x 0 0) :: rest)) := f_calli (f_runV (n := 1) (ci := 5) (As := [.int v0]) co_X_isServer ml_X_X_isServer im_X_isServer se_X_isServer in_X (by decide +kernel) rfl rfl cx hl hP (hv.at S) rfl hM hR.1.1 hR.1.2 hR.2.1 hR.2.2 hst hd) hS kk
theorem k_X_X_refusalToBegin {lv : List (Nat × Value)} {v0 : Int32} {r : Int32} {S' : fm} {rm : Room} {mc ms : Nat} (cx : fX rn_X cc nL p c s m args x) (hl : lv_has ls nL lv) (hP : fP x S H) (hS : fS x H0 H locs) (hv : fv x 0 0) (hM : Met l mn_X_refusalToBegin (gw_ws mn_X_refusalToBegin cb_X_refusalToBegin 2 (some .int)) rm (fPc x S [.ref (xa x 0 0), .int v0]) (fQi x S' r) mc ms (fun q => xs x ≤ q)) (hR : (rm.cells = mc ∧ rm.slots = ms) ∧ (rm.frames + 1 ≤ R.frames ∧ 8 + (2 + 11) + rm.locals ≤ R.locals) ∧ cells + mc ≤ R.cells ∧ slots + ms ≤ R.slots) (hst : (rest.map fun v => v.category).sum ≤ 8) (hd : decode cc pc = .ok (.invokevirtual 56, 3)) (kk : ∀ (H1 : Heap) (locs1 : List Loc), fP x S' H1 → fS x H0 H1 locs1 → W p l e R s m args below meth c H1 locs1 (cells + mc) (slots + ms) Q (F0 m (pc + 3) ls (.int r :: rest))) : W p l e R s m args below meth c H locs cells slots Q (F0 m pc ls (.int v0 :: .ref (xa x 0 0) :: rest)) := f_calli (f_runV (n := 1) (ci := 5) (As := [.int v0]) co_X_refusalToBegin ml_X_X_refusalToBegin im_X_refusalToBegin se_X_refusalToBegin in_X (by decide +kernel) rfl rfl cx hl hP (hv.at S) rfl hM hR.1.1 hR.1.2 hR.2.1 hR.2.2 hst hd) hS kk
theorem k_X_X_requestTo {lv : List (Nat × Value)} {v0 : Int32} {v1 : Nat} {r : Option Nat} {S' : fm} {rm : Room} {mc ms : Nat} (cx : fX rn_X cc nL p c s m args x) (hl : lv_has ls nL lv) (hP : fP x S H) (hS : fS x H0 H locs) (hv : fv x 0 0) (hM : Met l mn_X_requestTo (gw_ws mn_X_requestTo cb_X_requestTo 4 (some (.object "SealedFragmentRegister$Letter"))) rm (fPc x S [.ref (xa x 0 0), .int v0, .ref v1]) (fQq x S' r) mc ms (fun q => xs x ≤ q)) (hR : (rm.cells = mc ∧ rm.slots = ms) ∧ (rm.frames + 1 ≤ R.frames ∧ 8 + (4 + 11) + rm.locals ≤ R.locals) ∧ cells + mc ≤ R.cells ∧ slots + ms ≤ R.slots) (hst : (rest.map fun v => v.category).sum ≤ 8) (hd : decode cc pc = .ok (.invokevirtual 185, 3)) (kk : ∀ (H1 : Heap) (locs1 : List Loc), fP x S' H1 → fS x H0 H1 locs1 → W p l e R s m args below meth c H1 locs1 (cells + mc) (slots + ms) Q (F0 m (pc + 3) ls (va_rf r :: rest))) : W p l e R s m args below meth c H locs cells slots Q (F0 m pc ls (.ref v1 :: .int v0 :: .ref (xa x 0 0) :: rest)) := f_callq (f_runV (n := 2) (ci := 5) (As := [.int v0, .ref v1]) co_X_requestTo ml_X_X_requestTo im_X_requestTo se_X_requestTo in_X (by decide +kernel) rfl rfl cx hl hP (hv.at S) rfl hM hR.1.1 hR.1.2 hR.2.1 hR.2.2 hst hd) hS kk
theorem k_X_X_rowOf {lv : List (Nat × Value)} {v0 : Int32} {v1 : Int32} {r : Int32} {S' : fm} {rm : Room} {mc ms : Nat} (cx : fX rn_X cc nL p c s m args x) (hl : lv_has ls nL lv) (hP : fP x S H) (hS : fS x H0 H locs) (hv : fv x 0 0) (hM : Met l mn_X_rowOf (gw_ws mn_X_rowOf cb_X_rowOf 3 (some .int)) rm (fPc x S [.ref (xa x 0 0), .int v0, .int v1]) (fQi x S' r) mc ms (fun q => xs x ≤ q)) (hR : (rm.cells = mc ∧ rm.slots = ms) ∧ (rm.frames + 1 ≤ R.frames ∧ 8 + (3 + 11) + rm.locals ≤ R.locals) ∧ cells + mc ≤ R.cells ∧ slots + ms ≤ R.slots) (hst : (rest.map fun v => v.category).sum ≤ 8) (hd : decode cc pc = .ok (.invokevirtual 88, 3)) (kk : ∀ (H1 : Heap) (locs1 : List Loc), fP x S' H1 → fS x H0 H1 locs1 → W p l e R s m args below meth c H1 locs1 (cells + mc) (slots + ms) Q (F0 m (pc + 3) ls (.int r :: rest))) : W p l e R s m args below meth c H locs cells slots Q (F0 m pc ls (.int v1 :: .int v0 :: .ref (xa x 0 0) :: rest)) := f_calli (f_runV (n := 2) (ci := 5) (As := [.int v0, .int v1]) co_X_rowOf ml_X_X_rowOf im_X_rowOf se_X_rowOf in_X (by decide +kernel) rfl rfl cx hl hP (hv.at S) rfl hM hR.1.1 hR.1.2 hR.2.1 hR.2.2 hst hd) hS kk
end FC
end
section
-- bytes as BitVec 8: the product, bilinear, commutative, associative; inverses; interpolation
def gf_x (a : BitVec 8) : BitVec 8 := (a <<< 1) ^^^ (if a.msb then 29#8 else 0#8)
def gf_p : Nat → BitVec 8 → BitVec 8
  | 0, a => a
  | n + 1, a => gf_x (gf_p n a)
/-- the first n bits of b: the sum of a, shifted -/
def gf_s : Nat → BitVec 8 → BitVec 8 → BitVec 8
  | 0, _, _ => 0#8
  | n + 1, a, b => gf_s n a b ^^^ (if b.getLsbD n then gf_p n a else 0#8)
def gf_m (a b : BitVec 8) : BitVec 8 := gf_s 8 a b
theorem gf_x4 (a b c d : BitVec 8) : (a ^^^ b) ^^^ (c ^^^ d) = (a ^^^ c) ^^^ (b ^^^ d) := by
  rw [BitVec.xor_assoc, BitVec.xor_assoc, ← BitVec.xor_assoc b c d, BitVec.xor_comm b c, BitVec.xor_assoc c b d]
theorem gf_xl : ∀ a b : BitVec 8, gf_x (a ^^^ b) = gf_x a ^^^ gf_x b := by
  intro a b
  unfold gf_x
  rw [BitVec.msb_xor, BitVec.shiftLeft_xor_distrib]
  rw [gf_x4 (a <<< 1) _ (b <<< 1)]
  congr 1
  cases a.msb <;> cases b.msb <;> decide
theorem gf_pl (n : Nat) (a b : BitVec 8) : gf_p n (a ^^^ b) = gf_p n a ^^^ gf_p n b := by
  induction n with
  | zero => rfl
  | succ n ih => show gf_x _ = _; rw [ih, gf_xl]; rfl
theorem gf_sl (n : Nat) (a a' b : BitVec 8) : gf_s n (a ^^^ a') b = gf_s n a b ^^^ gf_s n a' b := by
  induction n with
  | zero => simp [gf_s]
  | succ n ih =>
    show gf_s n _ b ^^^ _ = _
    rw [ih, gf_pl]
    cases h : b.getLsbD n <;> simp [gf_s, h, gf_x4]
theorem gf_sr (n : Nat) (a b b' : BitVec 8) : gf_s n a (b ^^^ b') = gf_s n a b ^^^ gf_s n a b' := by
  induction n with
  | zero => simp [gf_s]
  | succ n ih =>
    show gf_s n a _ ^^^ _ = (gf_s n a b ^^^ _) ^^^ (gf_s n a b' ^^^ _)
    rw [ih, gf_x4]
    congr 1
    rw [BitVec.getLsbD_xor]
    cases b.getLsbD n <;> cases b'.getLsbD n <;> simp
theorem gf_ml (a a' b : BitVec 8) : gf_m (a ^^^ a') b = gf_m a b ^^^ gf_m a' b := gf_sl 8 a a' b
theorem gf_mr (a b b' : BitVec 8) : gf_m a (b ^^^ b') = gf_m a b ^^^ gf_m a b' := gf_sr 8 a b b'
/-- a byte is the sum of its bits -/
def gf_e (i : Nat) : BitVec 8 := 1#8 <<< i
def gf_c (a : BitVec 8) (i : Nat) : BitVec 8 := if a.getLsbD i then gf_e i else 0#8
theorem gf_bits : ∀ a : BitVec 8, a = gf_c a 0 ^^^ (gf_c a 1 ^^^ (gf_c a 2 ^^^ (gf_c a 3 ^^^ (gf_c a 4 ^^^ (gf_c a 5 ^^^ (gf_c a 6 ^^^ gf_c a 7)))))) := by decide +kernel
theorem gf_lin {n : Nat} (f g : BitVec 8 → BitVec n) (hf : ∀ a b, f (a ^^^ b) = f a ^^^ f b) (hg : ∀ a b, g (a ^^^ b) = g a ^^^ g b) (h : ∀ i, i < 8 → f (gf_e i) = g (gf_e i)) (a : BitVec 8) : f a = g a := by
  have f0 : f 0#8 = 0#n := by have := hf 0#8 0#8; simpa using this
  have g0 : g 0#8 = 0#n := by have := hg 0#8 0#8; simpa using this
  have hc : ∀ i, i < 8 → f (gf_c a i) = g (gf_c a i) := by
    intro i hi
    unfold gf_c
    cases a.getLsbD i
    · simp [f0, g0]
    · simpa using h i hi
  rw [gf_bits a]
  simp only [hf, hg]
  rw [hc 0 (by decide), hc 1 (by decide), hc 2 (by decide), hc 3 (by decide), hc 4 (by decide), hc 5 (by decide), hc 6 (by decide), hc 7 (by decide)]
theorem gf_comm (a b : BitVec 8) : gf_m a b = gf_m b a := by
  refine gf_lin (fun a => gf_m a b) (fun a => gf_m b a) (fun x y => gf_ml x y b) (fun x y => gf_mr b x y) (fun i hi => ?_) a
  refine gf_lin (fun b => gf_m (gf_e i) b) (fun b => gf_m b (gf_e i)) (fun x y => gf_mr _ x y) (fun x y => gf_ml x y _) (fun j hj => ?_) b
  have : ∀ i, i < 8 → ∀ j, j < 8 → gf_m (gf_e i) (gf_e j) = gf_m (gf_e j) (gf_e i) := by decide +kernel
  exact this i hi j hj
theorem gf_assoc (a b d : BitVec 8) : gf_m (gf_m a b) d = gf_m a (gf_m b d) := by
  refine gf_lin (fun a => gf_m (gf_m a b) d) (fun a => gf_m a (gf_m b d)) (fun x y => by show gf_m (gf_m _ _) _ = _; rw [gf_ml, gf_ml]) (fun x y => gf_ml x y _) (fun i hi => ?_) a
  refine gf_lin (fun b => gf_m (gf_m (gf_e i) b) d) (fun b => gf_m (gf_e i) (gf_m b d)) (fun x y => by show gf_m (gf_m _ _) _ = _; rw [gf_mr, gf_ml]) (fun x y => by show gf_m _ (gf_m _ _) = _; rw [gf_ml, gf_mr]) (fun j hj => ?_) b
  refine gf_lin (fun d => gf_m (gf_m (gf_e i) (gf_e j)) d) (fun d => gf_m (gf_e i) (gf_m (gf_e j) d)) (fun x y => gf_mr _ x y) (fun x y => by show gf_m _ (gf_m _ _) = _; rw [gf_mr, gf_mr]) (fun k hk => ?_) d
  have : ∀ i, i < 8 → ∀ j, j < 8 → ∀ k, k < 8 → gf_m (gf_m (gf_e i) (gf_e j)) (gf_e k) = gf_m (gf_e i) (gf_m (gf_e j) (gf_e k)) := by decide +kernel
  exact this i hi j hj k hk
theorem gf_one (a : BitVec 8) : gf_m a 1#8 = a := by
  have : ∀ a : BitVec 8, gf_m a 1#8 = a := by decide +kernel
  exact this a
theorem gf_zero (a : BitVec 8) : gf_m a 0#8 = 0#8 := by
  have := gf_mr a 0#8 0#8
  simpa using this
theorem gf_zl (a : BitVec 8) : gf_m 0#8 a = 0#8 := by rw [gf_comm, gf_zero]
theorem gf_ol (a : BitVec 8) : gf_m 1#8 a = a := by rw [gf_comm, gf_one]
/-- the power 254 -/
def gf_q : Nat → BitVec 8 → BitVec 8
  | 0, a => a
  | n + 1, a => gf_m (gf_q n a) (gf_q n a)
def gf_r : Nat → BitVec 8 → BitVec 8
  | 0, _ => 1#8
  | n + 1, a => gf_m (gf_r n a) (gf_q (n + 1) a)
def gf_i (a : BitVec 8) : BitVec 8 := gf_r 7 a
theorem gf_inv : ∀ a : BitVec 8, a.toNat < 8 → a ≠ 0#8 → gf_m a (gf_i a) = 1#8 := by
  have : ∀ n : Fin 8, BitVec.ofNat 8 n.val ≠ 0#8 → gf_m (BitVec.ofNat 8 n.val) (gf_i (BitVec.ofNat 8 n.val)) = 1#8 := by decide +kernel
  intro a ha h0
  have h1 := this ⟨a.toNat, ha⟩
  simp only [BitVec.ofNat_toNat, BitVec.setWidth_eq] at h1
  exact h1 h0
-- the complete symmetric sums of the points X a .. X (a + l - 1)
def gf_h (X : Nat → BitVec 8) : Nat → Nat → Nat → BitVec 8
  | 0, _, _ => 1#8
  | _ + 1, _, 0 => 0#8
  | n + 1, a, l + 1 => gf_h X (n + 1) a l ^^^ gf_m (X (a + l)) (gf_h X n a (l + 1))
termination_by n _ l => (n, l)
theorem gf_h0 (X : Nat → BitVec 8) (a l : Nat) : gf_h X 0 a l = 1#8 := by simp [gf_h]
theorem gf_hz (X : Nat → BitVec 8) (n a : Nat) : gf_h X (n + 1) a 0 = 0#8 := by simp [gf_h]
theorem gf_hb (X : Nat → BitVec 8) (n a l : Nat) : gf_h X (n + 1) a (l + 1) = gf_h X (n + 1) a l ^^^ gf_m (X (a + l)) (gf_h X n a (l + 1)) := by rw [gf_h]
/-- from the front -/
theorem gf_hf (X : Nat → BitVec 8) : ∀ n l a, gf_h X (n + 1) a (l + 1) = gf_h X (n + 1) (a + 1) l ^^^ gf_m (X a) (gf_h X n a (l + 1)) := by
  intro n
  induction n with
  | zero =>
    intro l
    induction l with
    | zero => intro a; rw [gf_hb X 0 a 0, gf_hz, gf_hz, Nat.add_zero]
    | succ l ih =>
      intro a
      rw [gf_hb X 0 a (l + 1), ih a, gf_hb X 0 (a + 1) l, gf_h0, gf_h0, gf_h0, show a + 1 + l = a + (l + 1) by omega]
      rw [BitVec.xor_assoc, BitVec.xor_assoc, BitVec.xor_comm (gf_m (X a) 1#8)]
  | succ n ihn =>
    intro l
    induction l with
    | zero => intro a; rw [gf_hb X (n + 1) a 0, gf_hz, gf_hz, Nat.add_zero]
    | succ l ih =>
      intro a
      have t1 := gf_hb X n a (l + 1)
      have t2 := ihn (l + 1) a
      have hL : gf_m (X (a + (l + 1))) (gf_h X (n + 1) a (l + 1 + 1)) = gf_m (X (a + (l + 1))) (gf_h X (n + 1) (a + 1) (l + 1)) ^^^ gf_m (X (a + (l + 1))) (gf_m (X a) (gf_h X n a (l + 1 + 1))) := by rw [t2, gf_mr]
      have hR : gf_m (X a) (gf_h X (n + 1) a (l + 1 + 1)) = gf_m (X a) (gf_h X (n + 1) a (l + 1)) ^^^ gf_m (X a) (gf_m (X (a + (l + 1))) (gf_h X n a (l + 1 + 1))) := by rw [t1, gf_mr]
      have e1 : gf_m (X (a + (l + 1))) (gf_m (X a) (gf_h X n a (l + 1 + 1))) = gf_m (X a) (gf_m (X (a + (l + 1))) (gf_h X n a (l + 1 + 1))) := by rw [← gf_assoc, ← gf_assoc, gf_comm (X a)]
      rw [gf_hb X (n + 1) a (l + 1), ih a, gf_hb X (n + 1) (a + 1) l, show a + 1 + l = a + (l + 1) by omega, hL, hR, e1]
      exact gf_x4 _ _ _ _
/-- the divided difference of a power -/
theorem gf_hd (X : Nat → BitVec 8) (n a l : Nat) : gf_m (X (a + l) ^^^ X a) (gf_h X n a (l + 1)) = gf_h X (n + 1) (a + 1) l ^^^ gf_h X (n + 1) a l := by
  have h1 := gf_hb X n a l
  have h2 := gf_hf X n l a
  rw [gf_ml]
  rw [h1] at h2
  have h3 : ∀ p q r t : BitVec 8, p ^^^ q = r ^^^ t → q ^^^ t = r ^^^ p := by
    intro p q r t h
    have : q = p ^^^ (r ^^^ t) := by rw [← h, ← BitVec.xor_assoc, BitVec.xor_self, BitVec.zero_xor]
    rw [this, BitVec.xor_assoc, BitVec.xor_assoc, BitVec.xor_self, BitVec.xor_zero, BitVec.xor_comm]
  exact h3 _ _ _ _ h2
/-- sums -/
def gf_sum (f : Nat → BitVec 8) : Nat → BitVec 8
  | 0 => 0#8
  | n + 1 => gf_sum f n ^^^ f n
theorem gf_sum_x (f g : Nat → BitVec 8) (n : Nat) : gf_sum (fun m => f m ^^^ g m) n = gf_sum f n ^^^ gf_sum g n := by
  induction n with
  | zero => simp [gf_sum]
  | succ n ih => simp only [gf_sum]; rw [ih, gf_x4]
theorem gf_sum_m (y : BitVec 8) (f : Nat → BitVec 8) (n : Nat) : gf_sum (fun m => gf_m y (f m)) n = gf_m y (gf_sum f n) := by
  induction n with
  | zero => simp [gf_sum, gf_zero]
  | succ n ih => simp only [gf_sum]; rw [ih, gf_mr]
theorem gf_sum_c {f g : Nat → BitVec 8} {n : Nat} (h : ∀ m, m < n → f m = g m) : gf_sum f n = gf_sum g n := by
  induction n with
  | zero => rfl
  | succ n ih => simp only [gf_sum]; rw [ih (fun m hm => h m (by omega)), h n (by omega)]
theorem gf_sum_0 (n : Nat) : gf_sum (fun _ => 0#8) n = 0#8 := by
  induction n with
  | zero => rfl
  | succ n ih => simp [gf_sum, ih]
theorem gf_sum_1 {f : Nat → BitVec 8} {n k : Nat} (hk : k < n) (h : ∀ m, m ≠ k → f m = 0#8) : gf_sum f n = f k := by
  induction n with
  | zero => omega
  | succ n ih =>
    simp only [gf_sum]
    by_cases hn : n = k
    · subst hn
      rw [gf_sum_c (g := fun _ => 0#8) (fun m hm => h m (by omega)), gf_sum_0, BitVec.zero_xor]
    · rw [ih (by omega), h n hn, BitVec.xor_zero]
def gf_hm (X : Nat → BitVec 8) (m t a l : Nat) : BitVec 8 := if m < t then 0#8 else gf_h X (m - t) a l
/-- divided differences of the polynomial with the coefficients c: the entry t, i of Newton's scheme -/
def gf_D (c X : Nat → BitVec 8) (K t i : Nat) : BitVec 8 := gf_sum (fun m => gf_m (c m) (gf_hm X m t (i - t) (t + 1))) K
/-- the entries on the way back -/
def gf_E (c X : Nat → BitVec 8) (K s i : Nat) : BitVec 8 := gf_sum (fun m => gf_m (c m) (gf_hm X m i 0 s)) K
theorem gf_Dstep (c X : Nat → BitVec 8) (K t i : Nat) (hti : t + 1 ≤ i) (y : BitVec 8) (hy : gf_m (X i ^^^ X (i - (t + 1))) y = 1#8) : gf_m (gf_D c X K t i ^^^ gf_D c X K t (i - 1)) y = gf_D c X K (t + 1) i := by
  unfold gf_D
  rw [← gf_sum_x]
  have e : ∀ m, (gf_m (c m) (gf_hm X m t (i - t) (t + 1)) ^^^ gf_m (c m) (gf_hm X m t (i - 1 - t) (t + 1))) = gf_m (X i ^^^ X (i - (t + 1))) (gf_m (c m) (gf_hm X m (t + 1) (i - (t + 1)) (t + 1 + 1))) := by
    intro m
    rw [← gf_mr, ← gf_assoc, gf_comm (X i ^^^ X (i - (t + 1))), gf_assoc]
    congr 1
    unfold gf_hm
    by_cases h1 : m < t
    · rw [if_pos h1, if_pos h1, if_pos (by omega), gf_zero, BitVec.xor_self]
    · rw [if_neg h1, if_neg h1]
      by_cases h2 : m < t + 1
      · rw [if_pos h2, show m - t = 0 by omega, gf_h0, gf_h0, gf_zero, BitVec.xor_self]
      · rw [if_neg h2]
        have := gf_hd X (m - (t + 1)) (i - (t + 1)) (t + 1)
        rw [show i - (t + 1) + (t + 1) = i by omega, show m - (t + 1) + 1 = m - t by omega, show i - (t + 1) + 1 = i - t by omega] at this
        rw [this, show i - 1 - t = i - (t + 1) by omega]
  rw [show (fun m => gf_m (c m) (gf_hm X m t (i - t) (t + 1)) ^^^ gf_m (c m) (gf_hm X m t (i - 1 - t) (t + 1))) = fun m => gf_m (X i ^^^ X (i - (t + 1))) (gf_m (c m) (gf_hm X m (t + 1) (i - (t + 1)) (t + 1 + 1))) from funext e]
  rw [gf_sum_m, gf_comm, ← gf_assoc, gf_comm y, hy, gf_ol]
theorem gf_DE (c X : Nat → BitVec 8) (K i : Nat) : gf_D c X K i i = gf_E c X K (i + 1) i := by
  unfold gf_D gf_E
  rw [Nat.sub_self]
theorem gf_Estep (c X : Nat → BitVec 8) (K s i : Nat) : gf_E c X K (s + 1) i ^^^ gf_m (X s) (gf_E c X K (s + 1) (i + 1)) = gf_E c X K s i := by
  unfold gf_E
  rw [← gf_sum_m, ← gf_sum_x]
  congr 1
  funext m
  rw [← gf_assoc, gf_comm (X s), gf_assoc, ← gf_mr]
  congr 1
  unfold gf_hm
  by_cases h1 : m < i
  · rw [if_pos h1, if_pos h1, if_pos (by omega), gf_zero, BitVec.xor_self]
  · rw [if_neg h1, if_neg h1]
    by_cases h2 : m < i + 1
    · rw [if_pos h2, show m - i = 0 by omega, gf_h0, gf_h0, gf_zero, BitVec.xor_zero]
    · rw [if_neg h2]
      have := gf_hb X (m - (i + 1)) 0 s
      rw [show m - (i + 1) + 1 = m - i by omega, Nat.zero_add] at this
      rw [this, BitVec.xor_assoc, BitVec.xor_self, BitVec.xor_zero]
theorem gf_E0 (c X : Nat → BitVec 8) (K i : Nat) (hi : i < K) : gf_E c X K 0 i = c i := by
  unfold gf_E
  rw [gf_sum_1 hi]
  · unfold gf_hm
    rw [if_neg (by omega), Nat.sub_self, gf_h0, gf_one]
  · intro m hm
    unfold gf_hm
    by_cases h1 : m < i
    · rw [if_pos h1, gf_zero]
    · rw [if_neg h1, show m - i = (m - i - 1) + 1 by omega, gf_hz, gf_zero]
/-- the last entry never changes -/
theorem gf_Elast (c X : Nat → BitVec 8) (K s : Nat) (hK : 0 < K) : gf_E c X K s (K - 1) = c (K - 1) := by
  unfold gf_E
  have : ∀ m, m < K → gf_m (c m) (gf_hm X m (K - 1) 0 s) = gf_m (c m) (gf_hm X m (K - 1) 0 0) := by
    intro m hm
    unfold gf_hm
    by_cases h1 : m < K - 1
    · rw [if_pos h1, if_pos h1]
    · rw [if_neg h1, if_neg h1, show m - (K - 1) = 0 by omega, gf_h0, gf_h0]
  rw [gf_sum_c this]
  exact gf_E0 c X K (K - 1) (by omega)
/-- powers -/
def gf_w (x : BitVec 8) : Nat → BitVec 8
  | 0 => 1#8
  | n + 1 => gf_m (gf_w x n) x
theorem gf_hw (X : Nat → BitVec 8) (n i : Nat) : gf_h X n i 1 = gf_w (X i) n := by
  induction n with
  | zero => rw [gf_h0]; rfl
  | succ n ih => rw [gf_hb, gf_hz, BitVec.zero_xor, ih, gf_comm]; rfl
/-- Horner's sum of the upper n of K coefficients -/
def gf_o (c : Nat → BitVec 8) (x : BitVec 8) (K : Nat) : Nat → BitVec 8
  | 0 => 0#8
  | n + 1 => gf_m (gf_o c x K n) x ^^^ c (K - (n + 1))
def gf_v (c : Nat → BitVec 8) (x : BitVec 8) (K : Nat) : BitVec 8 := gf_sum (fun m => gf_m (c m) (gf_w x m)) K
theorem gf_v_front (c : Nat → BitVec 8) (x : BitVec 8) (n : Nat) : gf_v c x (n + 1) = gf_m (gf_v (fun m => c (m + 1)) x n) x ^^^ c 0 := by
  induction n with
  | zero => simp [gf_v, gf_sum, gf_w, gf_one, gf_zl]
  | succ n ih =>
    have e1 : gf_v c x (n + 1 + 1) = gf_v c x (n + 1) ^^^ gf_m (c (n + 1)) (gf_w x (n + 1)) := rfl
    have e2 : gf_v (fun m => c (m + 1)) x (n + 1) = gf_v (fun m => c (m + 1)) x n ^^^ gf_m (c (n + 1)) (gf_w x n) := rfl
    rw [e1, ih, e2, gf_ml, gf_assoc]
    show _ ^^^ gf_m (c (n + 1)) (gf_m (gf_w x n) x) = _
    rw [BitVec.xor_assoc, BitVec.xor_comm (c 0), ← BitVec.xor_assoc]
theorem gf_ov (c : Nat → BitVec 8) (x : BitVec 8) (K : Nat) : ∀ n, n ≤ K → gf_o c x K n = gf_v (fun m => c (K - n + m)) x n := by
  intro n
  induction n with
  | zero => intro _; rfl
  | succ n ih =>
    intro h
    rw [gf_v_front]
    show gf_m (gf_o c x K n) x ^^^ c (K - (n + 1)) = _
    rw [ih (by omega)]
    congr 3
    · funext m
      show c (K - n + m) = c (K - (n + 1) + (m + 1))
      rw [show K - (n + 1) + (m + 1) = K - n + m by omega]
theorem gf_horner (c : Nat → BitVec 8) (x : BitVec 8) (K : Nat) : gf_o c x K K = gf_v c x K := by
  rw [gf_ov c x K K (Nat.le_refl _)]
  congr 1
  funext m
  rw [Nat.sub_self, Nat.zero_add]
theorem gf_vD (c X : Nat → BitVec 8) (K i : Nat) : gf_v c (X i) K = gf_D c X K 0 i := by
  unfold gf_v gf_D
  congr 1
  funext m
  unfold gf_hm
  rw [if_neg (by omega), Nat.sub_zero, Nat.sub_zero, gf_hw]
end
section
-- Java's numbers and bytes
theorem by_256 {P : BitVec 8 → Prop} (h : ∀ n, n < 256 → P (BitVec.ofNat 8 n)) (v : BitVec 8) : P v := by
  have := h v.toNat v.isLt
  simpa using this
theorem bx_x (a b : Nat) : nI a ^^^ nI b = nI (a ^^^ b) := by
  apply Int32.toBitVec_inj.1
  show BitVec.ofNat 32 a ^^^ BitVec.ofNat 32 b = BitVec.ofNat 32 (a ^^^ b)
  apply BitVec.eq_of_getLsbD_eq
  intro i hi
  simp [hi]
theorem bI_xor (u v : BitVec 8) : bI u ^^^ bI v = bI (u ^^^ v) := by
  unfold bI
  rw [bx_x, BitVec.toNat_xor]
theorem bI_0 : bI 0#8 = 0 := by decide +kernel
theorem bI_1 : bI 1#8 = 1 := by decide +kernel
theorem bI_lt (v : BitVec 8) : v.toNat < 256 := v.isLt
theorem bI_inj {u v : BitVec 8} (h : bI u = bI v) : u = v := by
  unfold bI at h
  have hu := u.isLt
  have hv := v.isLt
  exact BitVec.eq_of_toNat_eq ((nI_eq (by omega) (by omega)).mp h)
theorem bI_of {n : Nat} (h : n < 256) : nI n = bI (BitVec.ofNat 8 n) := by
  unfold bI
  rw [BitVec.toNat_ofNat, Nat.mod_eq_of_lt h]
-- times: one bit on
theorem bt_sh0 : ∀ n, n < 256 → ((bI (BitVec.ofNat 8 n) <<< ((1 : Int32) &&& 31)) &&& 256 = 0 → bI (BitVec.ofNat 8 n) <<< ((1 : Int32) &&& 31) = bI (gf_x (BitVec.ofNat 8 n))) ∧ (¬ (bI (BitVec.ofNat 8 n) <<< ((1 : Int32) &&& 31)) &&& 256 = 0 → (bI (BitVec.ofNat 8 n) <<< ((1 : Int32) &&& 31)) ^^^ 285 = bI (gf_x (BitVec.ofNat 8 n))) := by decide +kernel
theorem bt_sh (v : BitVec 8) : ((bI v <<< ((1 : Int32) &&& 31)) &&& 256 = 0 → bI v <<< ((1 : Int32) &&& 31) = bI (gf_x v)) ∧ (¬ (bI v <<< ((1 : Int32) &&& 31)) &&& 256 = 0 → (bI v <<< ((1 : Int32) &&& 31)) ^^^ 285 = bI (gf_x v)) := by_256 (P := fun v => ((bI v <<< ((1 : Int32) &&& 31)) &&& 256 = 0 → bI v <<< ((1 : Int32) &&& 31) = bI (gf_x v)) ∧ (¬ (bI v <<< ((1 : Int32) &&& 31)) &&& 256 = 0 → (bI v <<< ((1 : Int32) &&& 31)) ^^^ 285 = bI (gf_x v))) bt_sh0 v
theorem bt_bit0 : ∀ n, n < 256 → ∀ i, i < 8 → ((bI (BitVec.ofNat 8 n) >>> (nI i &&& 31)) &&& 1 = 0 ↔ (BitVec.ofNat 8 n).getLsbD i = false) := by decide +kernel
theorem bt_bit (v : BitVec 8) {i : Nat} (hi : i < 8) : (bI v >>> (nI i &&& 31)) &&& 1 = 0 ↔ v.getLsbD i = false := by_256 (P := fun v => ∀ i, i < 8 → ((bI v >>> (nI i &&& 31)) &&& 1 = 0 ↔ v.getLsbD i = false)) bt_bit0 v i hi
theorem gf_s1 (i : Nat) (a b : BitVec 8) : gf_s (i + 1) a b = gf_s i a b ^^^ (if b.getLsbD i then gf_p i a else 0#8) := rfl
theorem gf_st {i : Nat} {a b : BitVec 8} (h : b.getLsbD i = true) : gf_s (i + 1) a b = gf_s i a b ^^^ gf_p i a := by rw [gf_s1, h]; rfl
theorem gf_sf {i : Nat} {a b : BitVec 8} (h : b.getLsbD i = false) : gf_s (i + 1) a b = gf_s i a b := by rw [gf_s1, h]; simp
-- bytes of a long
def by8 (w : Int64) (j : Nat) : BitVec 8 := (w.toBitVec >>> (8 * j)).setWidth 8
def pl8 (v : BitVec 8) (j : Nat) : Int64 := Int64.ofBitVec ((v.setWidth 64) <<< (8 * j))
theorem by8_bit (w : Int64) (j i : Nat) (hi : i < 8) : (by8 w j).getLsbD i = w.toBitVec.getLsbD (8 * j + i) := by
  unfold by8
  simp [hi]
theorem by8_big (w : Int64) {j : Nat} (hj : 8 ≤ j) : by8 w j = 0#8 := by
  apply BitVec.eq_of_getLsbD_eq
  intro i hi
  rw [by8_bit w j i hi, BitVec.getLsbD_of_ge _ _ (by omega)]
  simp
theorem by8_ext {a b : Int64} (h : ∀ j, j < 8 → by8 a j = by8 b j) : a = b := by
  apply Int64.toBitVec_inj.1
  apply BitVec.eq_of_getLsbD_eq
  intro i hi
  have h1 := congrArg (fun v => v.getLsbD (i % 8)) (h (i / 8) (by omega))
  simp only [by8_bit _ _ _ (Nat.mod_lt i (by decide : 8 > 0))] at h1
  rw [show 8 * (i / 8) + i % 8 = i by omega] at h1
  exact h1
theorem by8_or (a b : Int64) (j : Nat) : by8 (a ||| b) j = by8 a j ||| by8 b j := by
  apply BitVec.eq_of_getLsbD_eq
  intro i hi
  rw [by8_bit _ _ _ hi, BitVec.getLsbD_or, by8_bit _ _ _ hi, by8_bit _ _ _ hi, Int64.toBitVec_or, BitVec.getLsbD_or]
theorem by8_0 (j : Nat) : by8 0 j = 0#8 := by
  apply BitVec.eq_of_getLsbD_eq
  intro i hi
  rw [by8_bit _ _ _ hi]
  simp
theorem by8_pl (v : BitVec 8) {i j : Nat} (hj : j < 8) : by8 (pl8 v i) j = if i = j then v else 0#8 := by
  apply BitVec.eq_of_getLsbD_eq
  intro q hq
  rw [by8_bit _ _ _ hq]
  show ((v.setWidth 64) <<< (8 * i)).getLsbD (8 * j + q) = _
  rw [BitVec.getLsbD_shiftLeft]
  by_cases h : i = j
  · subst h
    rw [if_pos rfl]
    simp [show 8 * i + q < 64 by omega, show ¬ 8 * i + q < 8 * i by omega, show 8 * i + q - 8 * i = q by omega, show q < 64 by omega]
  · rw [if_neg h]
    by_cases h2 : 8 * j + q < 8 * i
    · simp [h2]
    · rw [BitVec.getLsbD_setWidth, BitVec.getLsbD_of_ge v _ (by omega)]
      simp
theorem by8_sh0 : ∀ j, j < 8 → ((8 : Int32) * nI j).toInt64.toUInt64 &&& Int64.toUInt64 63 = UInt64.ofNat (8 * j) := by decide +kernel
theorem by8_sh1 : ∀ j, j < 8 → ((8 : Int32) * nI j).toInt64 &&& 63 = lN (8 * j) := by decide +kernel
theorem by8_255 : ∀ i, i < 32 → (255 : Int32).toBitVec.getLsbD i = decide (i < 8) := by decide +kernel
theorem by8_255l : ∀ i, i < 64 → (255 : Int64).toBitVec.getLsbD i = decide (i < 8) := by decide +kernel
theorem bI_bit (v : BitVec 8) {i : Nat} (hi : i < 32) : (bI v).toBitVec.getLsbD i = v.getLsbD i := by
  show (BitVec.ofNat 32 v.toNat).getLsbD i = v.toNat.testBit i
  rw [BitVec.getLsbD_ofNat]
  simp [hi]
theorem by8_ushr (w : Int64) {k : Nat} (hk : k < 64) : (w.toUInt64 >>> UInt64.ofNat k).toInt64.toBitVec = w.toBitVec >>> k := by
  apply BitVec.eq_of_toNat_eq
  show (w.toUInt64 >>> UInt64.ofNat k).toNat = _
  have h1 : (UInt64.ofNat k).toNat = k := by
    show (BitVec.ofNat 64 k).toNat = k
    rw [BitVec.toNat_ofNat, Nat.mod_eq_of_lt (by omega)]
  rw [UInt64.toNat_shiftRight, h1, Nat.mod_eq_of_lt hk, BitVec.toNat_ushiftRight]
  rfl
/-- the program's byteAt -/
theorem by8_at (w : Int64) {j : Nat} (hj : j < 8) : (w.toUInt64 >>> (((8 : Int32) * nI j).toInt64.toUInt64 &&& Int64.toUInt64 63)).toInt64.toInt32 &&& 255 = bI (by8 w j) := by
  rw [by8_sh0 j hj]
  apply Int32.toBitVec_inj.1
  apply BitVec.eq_of_getLsbD_eq
  intro i hi
  rw [bI_bit _ hi, Int32.toBitVec_and, BitVec.getLsbD_and, by8_255 i hi, Int64.toBitVec_toInt32, by8_ushr w (by omega)]
  by_cases h8 : i < 8
  · rw [by8_bit w j i h8, BitVec.getLsbD_signExtend, BitVec.getLsbD_ushiftRight]
    simp [h8, hi, show i < 64 by omega]
  · rw [BitVec.getLsbD_of_ge (by8 w j) i (by omega)]
    simp [h8]
/-- the program's placed -/
theorem pl8_at (v : BitVec 8) {j : Nat} (hj : j < 8) : (bI v).toInt64 <<< (((8 : Int32) * nI j).toInt64 &&& 63) = pl8 v j := by
  rw [by8_sh1 j hj]
  apply Int64.toBitVec_inj.1
  rw [Int64.toBitVec_shiftLeft]
  have e1 : (bI v).toInt64.toBitVec = v.setWidth 64 := by
    have h : (bI v).toInt64 = lN v.toNat := nI_l (by have := v.isLt; omega)
    rw [h]
    show BitVec.ofNat 64 v.toNat = _
    apply BitVec.eq_of_toNat_eq
    rw [BitVec.toNat_ofNat, BitVec.toNat_setWidth]
  have e2 : ∀ j, j < 8 → ((lN (8 * j)).toBitVec.smod 64#64) = BitVec.ofNat 64 (8 * j) := by decide +kernel
  rw [e1]
  show (BitVec.setWidth 64 v) <<< ((lN (8 * j)).toBitVec.smod 64#64) = BitVec.setWidth 64 v <<< (8 * j)
  rw [e2 j hj]
  apply BitVec.eq_of_toNat_eq
  rw [BitVec.shiftLeft_eq', BitVec.toNat_ofNat, Nat.mod_eq_of_lt (show 8 * j < 2 ^ 64 by omega)]
/-- the reference's byte -/
theorem by8_mod (w : Int64) {j : Nat} (hj : j < 8) : ((w >>> (((8 : Int32) * nI j).toInt64 &&& 63)) &&& 255).toInt32 = bI (by8 w j) := by
  rw [by8_sh1 j hj]
  apply Int32.toBitVec_inj.1
  apply BitVec.eq_of_getLsbD_eq
  intro i hi
  have e2 : ∀ j, j < 8 → ((lN (8 * j)).toBitVec.smod 64#64).toNat = 8 * j := by decide +kernel
  rw [bI_bit _ hi, Int64.toBitVec_toInt32, Int64.toBitVec_and, Int64.toBitVec_shiftRight]
  by_cases h8 : i < 8
  · rw [by8_bit w j i h8]
    rw [BitVec.getLsbD_signExtend, BitVec.getLsbD_and, by8_255l i (by omega), BitVec.sshiftRight_eq']
    rw [show ((lN (8 * j)).toBitVec.smod 64).toNat = 8 * j from e2 j hj, BitVec.getLsbD_sshiftRight]
    simp [h8, hi, show i < 64 by omega, show 8 * j + i < 64 by omega, show ¬ 64 ≤ i by omega]
  · rw [BitVec.getLsbD_of_ge (by8 w j) i (by omega), BitVec.getLsbD_signExtend, BitVec.getLsbD_and, by8_255l i (by omega)]
    simp [h8, show i < 64 by omega]
theorem pl8_big (v : BitVec 8) {j : Nat} (hj : 8 ≤ j) : pl8 v j = 0 := by
  refine by8_ext (fun i hi => ?_)
  rw [by8_pl v hi, if_neg (by omega), by8_0]
end
section
-- what each method of the program does to the memory
def en8 (K : Nat) (w : Int64) (s r : Nat) : BitVec 8 := gf_o (fun i => by8 w (r * K + i)) (BitVec.ofNat 8 (s + 1)) K K
def enF (K : Nat) (w : Int64) (s : Nat) : Nat → Int64
  | 0 => 0
  | r + 1 => enF K w s r ||| pl8 (en8 K w s r) r
def enc (x : fy) (w : Int64) (s : Nat) : Int64 := enF (xK x) w s (xR x)
-- the column, as numbers: cb says its bytes
def cb (u : Nat → Nat) : Nat → BitVec 8 := fun j => BitVec.ofNat 8 (u j)
def ipA (X : Nat → BitVec 8) (t : Nat) : Nat → (Nat → Nat) → Nat → Nat
  | 0, u => u
  | n + 1, u => ipA X t n (va_up u (t + n) (gf_m (cb u (t + n) ^^^ cb u (t + n - 1)) (gf_i (X (t + n) ^^^ X n))).toNat)
def ipB (X : Nat → BitVec 8) (K : Nat) : Nat → (Nat → Nat) → Nat → Nat
  | 0, u => u
  | n + 1, u => ipB X K n (ipA X (K - (n + 1)) (n + 1) u)
def ipC (X : Nat → BitVec 8) (K st : Nat) : Nat → (Nat → Nat) → Nat → Nat
  | 0, u => u
  | m + 1, u => ipC X K st m (va_up u (K - 1 - (m + 1)) (cb u (K - 1 - (m + 1)) ^^^ gf_m (X st) (cb u (K - 1 - (m + 1) + 1))).toNat)
def ipD (X : Nat → BitVec 8) (K : Nat) : Nat → (Nat → Nat) → Nat → Nat
  | 0, u => u
  | n + 1, u => ipD X K n (ipC X K n (K - 1 - n) u)
def ipol (X : Nat → BitVec 8) (K : Nat) (u : Nat → Nat) : Nat → Nat := ipD X K (K - 1) (ipB X K (K - 1) u)
def pts (S : fm) (c : Nat) : Nat → BitVec 8 := fun j => BitVec.ofNat 8 (mU S 8 c j + 1)
/-- the column is filled: the first n places -/
def cfil (S : fm) (c r : Nat) : Nat → (Nat → Nat) → Nat → Nat
  | 0, u => u
  | n + 1, u => va_up (cfil S c r n u) n (by8 (mJ S 9 c n) r).toNat
def ccol (x : fy) (S : fm) (c r : Nat) (u : Nat → Nat) : Nat → Nat := ipol (pts S c) (xK x) (cfil S c r (xK x) u)
/-- the block, out of a column: the first n places -/
def dblk (K r : Nat) (u : Nat → Nat) : Nat → Int64 → Int64
  | 0, w => w
  | n + 1, w => dblk K r u n w ||| pl8 (cb u n) (r * K + n)
def decU (x : fy) (S : fm) (c : Nat) : Nat → (Nat → Nat)
  | 0 => mU S 2 0
  | r + 1 => ccol x S c r (decU x S c r)
def decW (x : fy) (S : fm) (c : Nat) : Nat → Int64
  | 0 => 0
  | r + 1 => dblk (xK x) r (decU x S c (r + 1)) (xK x) (decW x S c r)
-- rows of letters
def e_app (S : fm) (r a : Nat) : fm := if mU S 13 r 1 < 7 then sU (sA S 14 r (mU S 13 r 1) (some a)) 13 r 1 (mU S 13 r 1 + 1) else S
def tkA {α : Type} (f : Nat → α) (j n : Nat) : Nat → α := fun q => if j ≤ q ∧ q < n then f (q + 1) else f q
def e_take (S : fm) (r j : Nat) : fm := rA (sU S 13 r 1 (mU S 13 r 1 - 1)) 14 r (va_up (tkA (mA S 14 r) j (mU S 13 r 1 - 1)) (mU S 13 r 1 - 1) none)
def loA (f : Nat → Option Nat) (n : Nat) : Nat → Option Nat := fun q => if q < n then none else f q
def e_lose (S : fm) (r : Nat) : fm := sU (rA S 14 r (loA (mA S 14 r) 7)) 13 r 1 0
-- clients
def q_work (S : fm) (c : Nat) : Bool := !mB S 7 c 4 && decide (mI S 7 c 5 ≠ 0)
def e_enter (S : fm) (c : Nat) (ph : Int32) : fm := sU (sI (sI (sI (sI S 7 c 5 ph) 7 c 6 (mI S 7 c 6 + 1)) 7 c 7 0) 7 c 8 0) 7 c 3 0
def q_counts (S : fm) (c a : Nat) : Bool := q_work S c && decide (mI S 15 a 1 = mI S 7 c 6)
def jmax (a b : Int32) : Int32 := if a < b then b else a
def jmin (a b : Int32) : Int32 := if b < a then b else a
def e_hear1 (S : fm) (c a : Nat) : fm := sI (sI S 7 c 7 (mI S 7 c 7 + 1)) 7 c 8 (jmax (mI S 7 c 8) (mI S 15 a 4))
def e_hear2 (S : fm) (c a s : Nat) : fm := sU (sJ (sU S 8 c (mU S 7 c 3) s) 9 c (mU S 7 c 3) (mJ S 15 a 3)) 7 c 3 (mU S 7 c 3 + 1)
def e_hear (x : fy) (S : fm) (c a s : Nat) : fm := if mB S 15 a 5 = true ∧ mU S 7 c 3 < xK x then e_hear2 (e_hear1 S c a) c a s else e_hear1 S c a
def e_finish (S : fm) (c : Nat) : fm := sI (sI S 7 c 5 0) 7 c 12 (mI S 7 c 12 + 1)
-- servers
/-- where a tag goes: scanned from n down -/
def insp (f : Nat → Int32) (t : Int32) : Nat → Nat
  | 0 => 0
  | n + 1 => if f n < t then insp f t n else n + 1
def insA {α : Type} (f : Nat → α) (p n : Nat) (v : α) : Nat → α := fun q => if q = p then v else if p < q ∧ q ≤ n then f (q - 1) else f q
def e_store (x : fy) (S : fm) (s : Nat) (t : Int32) (w : Int64) : fm := sU (rJ (rI S 11 s (insA (mI S 11 s) (insp (mI S 11 s) t (mU S 10 s 3)) (mU S 10 s 3) t)) 12 s (insA (mJ S 12 s) (insp (mI S 11 s) t (mU S 10 s 3)) (mU S 10 s 3) w)) 10 s 3 (min (mU S 10 s 3 + 1) (xD x + 1))
def e_raise (S : fm) (s : Nat) (t : Int32) : fm := sI S 10 s 4 (jmax (mI S 10 s 4) t)
def q_place (S : fm) (s : Nat) (t : Int32) : Option Nat := (List.range (mU S 10 s 3)).find? (fun i => decide (mI S 11 s i = t))
def oI (o : Option Nat) : Int32 := match o with
  | some i => nI i
  | none => -1
def e_encl (S : fm) (s a : Nat) : fm := match q_place S s (mI S 15 a 2) with
  | some i => sJ (sB S 15 a 5 true) 15 a 3 (mJ S 12 s i)
  | none => S
def e_answer (x : fy) (S : fm) (s a : Nat) : fm :=
  if mI S 15 a 0 = 2 then e_store x S s (mI S 15 a 2) (mJ S 15 a 3)
  else if mI S 15 a 0 = 3 then e_raise S s (mI S 15 a 2)
  else if mI S 15 a 0 = 5 then e_encl (e_raise S s (mI S 15 a 2)) s a
  else sI S 15 a 4 (mI S 10 s 4)
-- the register
def q_crowd (x : fy) (S : fm) (c : Nat) : Bool := (List.range (xN x)).any (fun s => !mB S 10 s 5 && decide (4 < mU S 13 (c * xN x + s) 1 + mU S 13 (100 + (c * xN x + s)) 1))
/-- a new letter: an empty sheet at the heap's end -/
def e_newL (S : fm) : fm := rZ (rB (rJ (rI S 15 (mZ S) (fun _ => 0)) 15 (mZ S) (fun _ => 0)) 15 (mZ S) (fun _ => false)) (mZ S + 1)
def e_initL (S : fm) (a : Nat) (ph bg tg : Int32) : fm := sI (sI (sI S 15 a 0 ph) 15 a 1 bg) 15 a 2 tg
def e_req (x : fy) (S : fm) (c s : Nat) : fm :=
  if mI S 7 c 5 = 2 then sJ (e_initL (e_newL S) (mZ S) (mI S 7 c 5) (mI S 7 c 6) (mI S 7 c 9)) 15 (mZ S) 3 (enc x (mJ S 7 c 10) s)
  else e_initL (e_newL S) (mZ S) (mI S 7 c 5) (mI S 7 c 6) (mI S 7 c 9)
def e_bg1 (x : fy) (S : fm) (c s : Nat) : fm := if mB S 10 s 5 = true then S else e_app (e_req x S c s) (c * xN x + s) (mZ S)
def e_bgs (x : fy) (S : fm) (c : Nat) : Nat → fm
  | 0 => S
  | s + 1 => e_bg1 x (e_bgs x S c s) c s
def e_begin (x : fy) (S : fm) (c : Nat) (ph : Int32) : fm := e_bgs x (e_enter S c ph) c (xN x)
end
section
-- a new letter
section FN
variable {p : Program} {l : Launch} {e : Env} {R : Room} {s : State} {m : MethodId} {args : Array Value} {below : List Frame} {meth : Method} {c : Code} {H : Heap} {locs : List Loc} {cells slots : Nat} {Q : State → Prop}
variable {cc : ByteArray} {pc : Nat} {ls : Array Slot} {rest : List Value} {own : String} {nL : Nat} {x : fy} {S : fm} {a : Nat} {H0 : Heap}
theorem f_oi {idx : Nat} {lv : List (Nat × Value)} (w1 : Cond.methodLink own idx objectInit ∈ gw_tbl) (cx : fX own cc nL p c s m args x) (hl : lv_has ls nL lv) (hfr : 1 ≤ R.frames) (hlo : (rest.map fun v => v.category).sum + 12 ≤ R.locals) (hdg : decode cc pc = .ok (.invokespecial idx, 3)) (kk : W p l e R s m args below meth c H locs cells slots Q (F0 m (pc + 3) ls rest)) : W p l e R s m args below meth c H locs cells slots Q (F0 m pc ls (.ref a :: rest)) :=
  W.objInit cx.1.1 cx.1.2.1 cx.1.2.2.2.1 (cx.1.2.2.2.2 _ w1) (cx.1.2.2.2.2 _ im_O_init) (cx.1.2.2.2.2 _ co_O_init) rfl (by rw [cx.1.2.2.1]; exact hl.1) rfl hdg hfr (by show 2 * 0 + _ + 12 ≤ _; omega) kk
theorem fc_newL : fc x (e_newL S) 15 (mZ S) = .inr (2, [.int 0, .int 0, .int 0, .long 0, .int 0, .int (b2 false)]) := by
  show fcr x 15 (mZ S) (mI (e_newL S) 15 (mZ S)) (mJ (e_newL S) 15 (mZ S)) (mB (e_newL S) 15 (mZ S)) _ _ = _
  rw [show mI (e_newL S) 15 (mZ S) = fun _ => 0 from u2_s, show mJ (e_newL S) 15 (mZ S) = fun _ => 0 from u2_s, show mB (e_newL S) 15 (mZ S) = fun _ => false from u2_s]
  rfl
theorem fc_newL_n {k i : Nat} (h : ¬ (k = 15 ∧ i = mZ S)) : fc x (e_newL S) k i = fc x S k i := by
  show fcr x k i (mI (e_newL S) k i) (mJ (e_newL S) k i) (mB (e_newL S) k i) _ _ = _
  rw [show mI (e_newL S) k i = mI S k i from u2_n h, show mJ (e_newL S) k i = mJ S k i from u2_n h, show mB (e_newL S) k i = mB S k i from u2_n h]
  rfl
theorem fP_newL {H1 : Heap} (hP : fP x S H) (hn : va_at (xd x) cls_all (H.size, .inr (2, [.int 0, .int 0, .int 0, .long 0, .int 0, .int (b2 false)])) H1) (z : H1.size = H.size + 1) (o1 : ∀ q, q < H.size → H1[q]? = H[q]?) : fP x (e_newL S) H1 := by
  obtain ⟨hO, hb, hz, hw⟩ := hP
  have hZ : mZ (e_newL S) = mZ S + 1 := rfl
  refine ⟨hO, by omega, by omega, fun q e he => ?_⟩
  obtain ⟨k, i, hq, rfl⟩ := wd.at he
  by_cases hqz : q = mZ S
  · have : k = 15 ∧ i = mZ S := by
      rcases hq with hq | ⟨-, -, -, h5, h6⟩
      · have := (hO.1 _ _ _ hq).2.2.1
        omega
      · exact ⟨h5, h6.trans hqz⟩
    obtain ⟨rfl, rfl⟩ := this
    rw [fc_newL, hqz, ← hz]
    exact hn
  · have hq' : fat x S q k i := by
      rcases hq with hq | ⟨h1, h2, h4, h5⟩
      · exact Or.inl hq
      · exact Or.inr ⟨h1, h2, by omega, h5⟩
    have hki : ¬ (k = 15 ∧ i = mZ S) := by
      rintro ⟨h1, h2⟩
      rcases hq with hq | ⟨-, -, -, h5, h6⟩
      · exact (hO.1 _ _ _ hq).2.2.2 h1
      · omega
    rw [fc_newL_n hki]
    have h1 := hw _ _ hq'.cell
    exact h1.kept (o1 q h1.lt)
theorem fvL_new (hP : fP x S H) : fvL x (e_newL S) (mZ S) := by
  refine ⟨?_, hP.2.1, Nat.lt_succ_self _⟩
  cases h : xl x (mZ S) with
  | none => rfl
  | some q =>
    have := (hP.1.1 _ q.1 q.2 h).2.2.1
    have := hP.2.1
    omega
theorem f_newL {index : Nat} (w1 : Cond.classLink own index rn_L ∈ gw_tbl) (cx : fX own cc nL p c s m args x) (hP : fP x S H) (hS : fS x H0 H locs) (hcells : cells + 1 ≤ R.cells) (hslots : slots + 6 ≤ R.slots) (hdg : decode cc pc = .ok (.new index, 3))
    (kk : ∀ H1 : Heap, fP x (e_newL S) H1 → fS x H0 H1 locs → fvL x (e_newL S) (mZ S) → W p l e R s m args below meth c H1 locs (cells + 1) (slots + 6) Q (F0 m (pc + 3) ls (.ref (mZ S) :: rest))) : W p l e R s m args below meth c H locs cells slots Q (F0 m pc ls rest) := by
  have hts := cx.1.2.2.2.2
  have hKn := cx.2.1 2 _ rfl
  refine W.newcK cx.1.1 cx.1.2.1 cx.1.2.2.2.1 (hts _ w1) (hts _ is_L) (hts _ in_L) rfl hdg hcells hslots hKn.2.1 hP.2.2.1 fun H1 kC hkC e1 z1 o1 => ?_
  have hz := hP.2.2.1
  refine kk H1 (fP_newL hP ?_ (by omega) (fun q hq => o1 q (by omega))) ⟨Nat.le_trans hS.1 (by omega), fun q h1 h2 => (o1 q (by have := hS.1; omega)).trans (hS.2.1 q h1 h2), hS.2.2⟩ (fvL_new hP)
  rw [hz]
  refine ⟨_, rfl, (u_born ty_L hts wf_L hKn hkC e1 tk_L).to (fun j hj => ?_)⟩
  match j, hj with
  | 0, _ => rfl
  | 1, _ => rfl
  | 2, _ => rfl
  | 3, _ => rfl
  | 4, _ => rfl
  | 5, _ => rfl
  | n + 6, hj => exact absurd hj (by show ¬ n + 6 < 6; omega)
end FN
end
section
-- K fragments of one block, of different servers, give the block
theorem cb_up (u : Nat → Nat) (j : Nat) (v : BitVec 8) : cb (va_up u j v.toNat) = va_up (cb u) j v := by
  funext q
  unfold cb va_up
  by_cases h : q = j
  · rw [if_pos h, if_pos h]; simp
  · rw [if_neg h, if_neg h]
section DEC
variable {c X : Nat → BitVec 8} {K : Nat}
theorem dec_A (hX : ∀ i j, i < K → j < K → i ≠ j → gf_m (X i ^^^ X j) (gf_i (X i ^^^ X j)) = 1#8) (t : Nat) (ht : 1 ≤ t) : ∀ n u, t + n ≤ K → (∀ i, i < K → cb u i = if t + n ≤ i then gf_D c X K t i else if t ≤ i then gf_D c X K (t - 1) i else gf_D c X K i i) →
    ∀ i, i < K → cb (ipA X t n u) i = if t ≤ i then gf_D c X K t i else gf_D c X K i i := by
  intro n
  induction n with
  | zero =>
    intro u hn h i hi
    show cb u i = _
    rw [h i hi]
    by_cases h1 : t ≤ i
    · rw [if_pos (by omega), if_pos h1]
    · rw [if_neg (by omega), if_neg h1, if_neg h1]
  | succ n ih =>
    intro u hn h
    refine ih _ (by omega) (fun i hi => ?_)
    rw [cb_up]
    unfold va_up
    by_cases hit : i = t + n
    · subst hit
      rw [if_pos rfl, if_pos (Nat.le_refl _)]
      have e1 := h (t + n) hi
      rw [if_neg (by omega), if_pos (by omega)] at e1
      have e2 := h (t + n - 1) (by omega)
      rw [if_neg (by omega)] at e2
      have e3 : cb u (t + n - 1) = gf_D c X K (t - 1) (t + n - 1) := by
        rw [e2]
        by_cases h1 : t ≤ t + n - 1
        · rw [if_pos h1]
        · rw [if_neg h1, show t + n - 1 = t - 1 by omega]
      rw [e1, e3]
      have := gf_Dstep c X K (t - 1) (t + n) (by omega) (gf_i (X (t + n) ^^^ X n)) (by rw [show t + n - (t - 1 + 1) = n by omega]; exact hX _ _ hi (by omega) (by omega))
      rw [show t - 1 + 1 = t by omega] at this
      exact this
    · rw [if_neg hit, h i hi]
      by_cases h1 : t + n ≤ i
      · rw [if_pos h1, if_pos (by omega)]
      · rw [if_neg h1, if_neg (by omega)]
theorem dec_B (hX : ∀ i j, i < K → j < K → i ≠ j → gf_m (X i ^^^ X j) (gf_i (X i ^^^ X j)) = 1#8) : ∀ n u, n + 1 ≤ K → (∀ i, i < K → cb u i = if K - n - 1 ≤ i then gf_D c X K (K - n - 1) i else gf_D c X K i i) → ∀ i, i < K → cb (ipB X K n u) i = gf_D c X K i i := by
  intro n
  induction n with
  | zero =>
    intro u hn h i hi
    show cb u i = _
    rw [h i hi]
    by_cases h1 : K - 0 - 1 ≤ i
    · rw [if_pos h1, show K - 0 - 1 = i by omega]
    · rw [if_neg h1]
  | succ n ih =>
    intro u hn h
    refine ih _ (by omega) (fun i hi => ?_)
    rw [dec_A hX (K - (n + 1)) (by omega) (n + 1) u (by omega) (fun j hj => ?_) i hi]
    · rw [show K - n - 1 = K - (n + 1) by omega]
    · rw [if_neg (by omega), h j hj]
      by_cases h1 : K - (n + 1) ≤ j
      · rw [if_pos h1, if_pos (by omega), show K - (n + 1) - 1 = K - (n + 1) - 1 from rfl]
      · rw [if_neg h1]
        by_cases h2 : K - (n + 1) - 1 ≤ j
        · rw [if_pos h2, show K - (n + 1) - 1 = j by omega]
        · rw [if_neg h2]
theorem dec_C (st : Nat) (hst : st + 1 ≤ K) : ∀ m u, m ≤ K - 1 - st → (∀ i, i < K → cb u i = if i < st then gf_E c X K (i + 1) i else if i < K - 1 - m then gf_E c X K st i else gf_E c X K (st + 1) i) →
    ∀ i, i < K → cb (ipC X K st m u) i = if i < st then gf_E c X K (i + 1) i else gf_E c X K st i := by
  intro m
  induction m with
  | zero =>
    intro u hm h i hi
    show cb u i = _
    rw [h i hi]
    by_cases h1 : i < st
    · rw [if_pos h1, if_pos h1]
    · rw [if_neg h1, if_neg h1]
      by_cases h2 : i < K - 1 - 0
      · rw [if_pos h2]
      · rw [if_neg h2, show i = K - 1 by omega, gf_Elast c X K _ (by omega), gf_Elast c X K _ (by omega)]
  | succ m ih =>
    intro u hm h
    refine ih _ (by omega) (fun i hi => ?_)
    rw [cb_up]
    unfold va_up
    by_cases hit : i = K - 1 - (m + 1)
    · subst hit
      rw [if_pos rfl, if_neg (by omega), if_pos (by omega)]
      have e1 := h (K - 1 - (m + 1)) hi
      rw [if_neg (by omega), if_neg (by omega)] at e1
      have e2 := h (K - 1 - (m + 1) + 1) (by omega)
      rw [if_neg (by omega), if_neg (by omega)] at e2
      rw [e1, e2]
      exact gf_Estep c X K st _
    · rw [if_neg hit, h i hi]
      by_cases h1 : i < st
      · rw [if_pos h1, if_pos h1]
      · rw [if_neg h1, if_neg h1]
        by_cases h2 : i < K - 1 - (m + 1)
        · rw [if_pos h2, if_pos (by omega)]
        · rw [if_neg h2, if_neg (by omega)]
theorem dec_D : ∀ n u, n + 1 ≤ K → (∀ i, i < K → cb u i = if i < n then gf_E c X K (i + 1) i else gf_E c X K n i) → ∀ i, i < K → cb (ipD X K n u) i = c i := by
  intro n
  induction n with
  | zero =>
    intro u hn h i hi
    show cb u i = _
    rw [h i hi, if_neg (by omega), gf_E0 c X K i hi]
  | succ n ih =>
    intro u hn h
    refine ih _ (by omega) (fun i hi => ?_)
    rw [dec_C n (by omega) (K - 1 - n) u (Nat.le_refl _) (fun j hj => ?_) i hi]
    rw [h j hj]
    by_cases h1 : j < n
    · rw [if_pos (by omega), if_pos h1]
    · rw [if_neg h1, if_neg (show ¬ j < K - 1 - (K - 1 - n) by omega)]
      by_cases h2 : j < n + 1
      · rw [if_pos h2, show j = n by omega]
      · rw [if_neg h2]
theorem dec_ip (hK : 1 ≤ K) (hX : ∀ i j, i < K → j < K → i ≠ j → gf_m (X i ^^^ X j) (gf_i (X i ^^^ X j)) = 1#8) (u : Nat → Nat) (h : ∀ i, i < K → cb u i = gf_v c (X i) K) : ∀ i, i < K → cb (ipol X K u) i = c i := by
  unfold ipol
  refine dec_D (K - 1) _ (by omega) (fun i hi => ?_)
  rw [dec_B hX (c := c) (K - 1) u (by omega) (fun j hj => ?_) i hi]
  · rw [gf_DE]
    by_cases h1 : i < K - 1
    · rw [if_pos h1]
    · rw [if_neg h1, show i = K - 1 by omega, gf_Elast c X K _ (by omega), gf_Elast c X K _ (by omega)]
  · rw [if_pos (by omega), show K - (K - 1) - 1 = 0 by omega, h j hj, gf_vD]
end DEC
theorem by8_enF (K : Nat) (w : Int64) (s : Nat) : ∀ n j, j < 8 → by8 (enF K w s n) j = if j < n then en8 K w s j else 0#8 := by
  intro n
  induction n with
  | zero => intro j hj; rw [if_neg (by omega)]; exact by8_0 j
  | succ n ih =>
    intro j hj
    show by8 (enF K w s n ||| pl8 (en8 K w s n) n) j = _
    rw [by8_or, ih j hj, by8_pl _ hj]
    by_cases h1 : j < n
    · rw [if_pos h1, if_neg (by omega), if_pos (by omega)]; simp
    · rw [if_neg h1]
      by_cases h2 : n = j
      · subst h2; rw [if_pos rfl, if_pos (by omega)]; simp
      · rw [if_neg h2, if_neg (by omega)]; simp
theorem cb_cfil (S : fm) (c r : Nat) (u : Nat → Nat) : ∀ n j, j < n → cb (cfil S c r n u) j = by8 (mJ S 9 c j) r := by
  intro n
  induction n with
  | zero => intro j hj; omega
  | succ n ih =>
    intro j hj
    show cb (va_up (cfil S c r n u) n (by8 (mJ S 9 c n) r).toNat) j = _
    rw [cb_up]
    unfold va_up
    by_cases h : j = n
    · rw [if_pos h, h]
    · rw [if_neg h]; exact ih j (by omega)
theorem by8_dblk (K r : Nat) (u : Nat → Nat) (w : Int64) : ∀ n j, j < 8 → by8 (dblk K r u n w) j = by8 w j ||| (if r * K ≤ j ∧ j < r * K + n then cb u (j - r * K) else 0#8) := by
  intro n
  induction n with
  | zero => intro j hj; rw [if_neg (by omega)]; simp [dblk]
  | succ n ih =>
    intro j hj
    show by8 (dblk K r u n w ||| pl8 (cb u n) (r * K + n)) j = _
    rw [by8_or, ih j hj, by8_pl _ hj]
    by_cases h1 : r * K ≤ j ∧ j < r * K + n
    · rw [if_pos h1, if_neg (by omega), if_pos (by omega)]; simp
    · rw [if_neg h1]
      by_cases h2 : r * K + n = j
      · rw [if_pos h2, if_pos (by omega), show j - r * K = n by omega]; simp
      · rw [if_neg h2, if_neg (by omega)]; simp
theorem xR_facts (x : fy) (hO : fO x) : xR x ≤ 8 ∧ 8 ≤ xR x * xK x ∧ 1 ≤ xR x := by
  obtain ⟨-, -, h1, h2, h3, h4, -⟩ := hO
  unfold xR
  have h : xK x = 1 ∨ xK x = 2 ∨ xK x = 3 ∨ xK x = 4 ∨ xK x = 5 ∨ xK x = 6 ∨ xK x = 7 := by omega
  rcases h with h | h | h | h | h | h | h <;> rw [h] <;> decide
theorem pts_inv (S : fm) (c K : Nat) (h7 : ∀ j, j < K → mU S 8 c j < 7) (hd : ∀ i j, i < K → j < K → i ≠ j → mU S 8 c i ≠ mU S 8 c j) : ∀ i j, i < K → j < K → i ≠ j → gf_m (pts S c i ^^^ pts S c j) (gf_i (pts S c i ^^^ pts S c j)) = 1#8 := by
  intro i j hi hj hij
  have h1 := h7 i hi
  have h2 := h7 j hj
  have h3 := hd i j hi hj hij
  have key : ∀ a, a < 7 → ∀ b, b < 7 → a ≠ b → gf_m (BitVec.ofNat 8 (a + 1) ^^^ BitVec.ofNat 8 (b + 1)) (gf_i (BitVec.ofNat 8 (a + 1) ^^^ BitVec.ofNat 8 (b + 1))) = 1#8 := by decide +kernel
  exact key _ h1 _ h2 h3
theorem dec_ok (x : fy) (S : fm) (c : Nat) (w : Int64) (hO : fO x) (h7 : ∀ j, j < xK x → mU S 8 c j < 7) (hd : ∀ i j, i < xK x → j < xK x → i ≠ j → mU S 8 c i ≠ mU S 8 c j) (hf : ∀ j, j < xK x → mJ S 9 c j = enc x w (mU S 8 c j)) : decW x S c (xR x) = w := by
  obtain ⟨hR8, hRK, hR1⟩ := xR_facts x hO
  have hK1 : 1 ≤ xK x := hO.2.2.2.2.1
  have key : ∀ r, r ≤ xR x → ∀ j, j < 8 → by8 (decW x S c r) j = if j < r * xK x then by8 w j else 0#8 := by
    intro r
    induction r with
    | zero => intro _ j hj; rw [if_neg (by omega)]; exact by8_0 j
    | succ r ih =>
      intro hr j hj
      show by8 (dblk (xK x) r (decU x S c (r + 1)) (xK x) (decW x S c r)) j = _
      rw [by8_dblk _ _ _ _ _ j hj, ih (by omega) j hj, Nat.succ_mul]
      have hcol : ∀ i, i < xK x → cb (decU x S c (r + 1)) i = by8 w (r * xK x + i) := by
        show ∀ i, i < xK x → cb (ipol (pts S c) (xK x) (cfil S c r (xK x) (decU x S c r))) i = _
        refine dec_ip hK1 (pts_inv S c (xK x) h7 hd) _ (fun i hi => ?_)
        rw [cb_cfil S c r _ _ i hi, hf i hi]
        show by8 (enF (xK x) w (mU S 8 c i) (xR x)) r = _
        rw [by8_enF _ _ _ _ r (by omega), if_pos (by omega)]
        exact gf_horner _ _ _
      by_cases h1 : j < r * xK x
      · rw [if_pos h1, if_neg (by omega), if_pos (by omega)]; simp
      · rw [if_neg h1]
        by_cases h2 : j < r * xK x + xK x
        · rw [if_pos (by omega), if_pos h2, hcol _ (by omega), show r * xK x + (j - r * xK x) = j by omega]; simp
        · rw [if_neg (by omega), if_neg h2]; simp
  refine by8_ext (fun j hj => ?_)
  rw [key (xR x) (Nat.le_refl _) j hj, if_pos (by omega)]
end
section
-- what each method of the reference does to the memory
def mL (S : fm) : Nat := mU S 16 0 18
def n_send (S : fm) (b : Bool) (c s : Nat) (p w : Int32) : fm := sU (sJ (sI (sB (sI (sI (sI (sI (sB S 39 0 (mL S) b) 41 0 (mL S) (nI c)) 42 0 (mL S) (nI s)) 44 0 (mL S) p) 43 0 (mL S) w) 40 0 (mL S) false) 45 0 (mL S) (mI S 28 0 c)) 46 0 (mL S) (mJ S 30 0 c)) 16 0 18 (mL S + 1)
def n_shift (S : fm) (at_ n : Nat) : fm := rJ (rI (rI (rI (rI (rI (rB (rB S 39 0 (tkA (mB S 39 0) at_ n)) 40 0 (tkA (mB S 40 0) at_ n)) 41 0 (tkA (mI S 41 0) at_ n)) 42 0 (tkA (mI S 42 0) at_ n)) 43 0 (tkA (mI S 43 0) at_ n)) 44 0 (tkA (mI S 44 0) at_ n)) 45 0 (tkA (mI S 45 0) at_ n)) 46 0 (tkA (mJ S 46 0) at_ n)
def n_lose (S : fm) (at_ : Nat) : fm := n_shift (sU S 16 0 18 (mL S - 1)) at_ (mL S - 1)
def n_match (S : fm) (b : Bool) (c s : Nat) (i : Nat) : Bool := (mB S 39 0 i == b) && (decide (mI S 41 0 i = nI c) && decide (mI S 42 0 i = nI s))
def n_cnt (S : fm) (b : Bool) (c s : Nat) : Nat → Nat
  | 0 => 0
  | n + 1 => if n_match S b c s n = true then n_cnt S b c s n + 1 else n_cnt S b c s n
def n_seek (S : fm) (b : Bool) (c s : Nat) (j : Int32) : Option Nat := (List.range (mL S)).find? (fun i => n_match S b c s i && decide (nI (n_cnt S b c s i) = j))
def n_crowd (x : fy) (S : fm) (c : Nat) : Bool := (List.range (xN x)).any (fun s => !mB S 33 0 s && decide (4 < n_cnt S false c s (mL S) + n_cnt S true c s (mL S)))
def n_beg0 (S : fm) (c : Nat) (p : Int32) : fm := sI (sI (sI (sI (sI S 23 0 c p) 24 0 c (mI S 24 0 c + 1)) 25 0 c 0) 26 0 c 0) 27 0 c 0
def n_beg1 (S : fm) (c s : Nat) (p : Int32) : fm := if mB S 33 0 s = true then S else n_send S false c s p (mI S 24 0 c)
def n_begs (S : fm) (c : Nat) (p : Int32) : Nat → fm
  | 0 => S
  | s + 1 => n_beg1 (n_begs S c p s) c s p
def n_begin (x : fy) (S : fm) (c : Nat) (p : Int32) : fm := n_begs (n_beg0 S c p) c p (xN x)
def n_refuse (x : fy) (S : fm) (c : Nat) : Int32 := if mI S 23 0 c = 6 then -2 else if mI S 23 0 c ≠ 0 then -3 else if n_crowd x S c = true then -4 else 0
def n_write (x : fy) (S : fm) (c : Nat) (w : Int64) : fm := if n_refuse x S c = 0 then n_begin x (sJ S 30 0 c w) c 1 else S
def n_read (x : fy) (S : fm) (c : Nat) : fm := if n_refuse x S c = 0 then n_begin x S c 4 else S
def n_agr (x : fy) (S : fm) (c : Nat) : Int32 := if mI S 23 0 c = 6 then -2 else if mI S 23 0 c ≠ 5 ∨ mI S 25 0 c < nI (xQ x) then -3 else if n_crowd x S c = true then -4 else 0
def n_again (x : fy) (S : fm) (c : Nat) : fm := if n_agr x S c = 0 then n_begin x S c 4 else S
def n_place (S : fm) (s : Nat) (t : Int32) : Option Nat := ((List.range (mU S 35 0 s)).find? (fun q => decide (mI S 36 0 (5 * s + q) = t))).map (fun q => 5 * s + q)
/-- the lowest tag's place among the first n -/
def n_low (f : Nat → Int32) (b : Nat) : Nat → Nat
  | 0 => b
  | n + 1 => if f (b + n) < f (n_low f b n) then b + n else n_low f b n
def n_put (S : fm) (s : Nat) (t : Int32) (w : Int64) : fm := match n_place S s t with
  | some i => sJ (sI S 36 0 i t) 37 0 i w
  | none => sJ (sI (sU S 35 0 s (mU S 35 0 s + 1)) 36 0 (5 * s + mU S 35 0 s) t) 37 0 (5 * s + mU S 35 0 s) w
def n_drop (S : fm) (s : Nat) : fm := sJ (sI (sU S 35 0 s (mU S 35 0 s - 1)) 36 0 (n_low (mI S 36 0) (5 * s) (mU S 35 0 s)) (mI S 36 0 (5 * s + (mU S 35 0 s - 1)))) 37 0 (n_low (mI S 36 0) (5 * s) (mU S 35 0 s)) (mJ S 37 0 (5 * s + (mU S 35 0 s - 1)))
def n_store (x : fy) (S : fm) (s : Nat) (t : Int32) (w : Int64) : fm := if xD x + 1 < mU (n_put S s t w) 35 0 s then n_drop (n_put S s t w) s else n_put S s t w
def n_dlA (x : fy) (S : fm) (s : Nat) (p t : Int32) (w : Int64) : fm := if p = 2 then n_store x S s t w else S
def n_dlB (S : fm) (s : Nat) (p t : Int32) : fm := if (p = 3 ∨ p = 5) ∧ mI S 34 0 s < t then sI S 34 0 s t else S
def n_dlP (S : fm) (s : Nat) (p t : Int32) : Option Nat := if p = 5 then n_place S s t else none
def n_dlC (S : fm) (c s : Nat) (p w : Int32) (o : Option Nat) : fm := sJ (sB (sI (n_send S true c s p w) 45 0 (mL S) (mI S 34 0 s)) 40 0 (mL S) o.isSome) 46 0 (mL S) (match o with | some i => mJ S 37 0 i | none => 0)
def n_dl (x : fy) (S : fm) (c s at_ : Nat) : fm := n_dlC (n_dlB (n_dlA x (n_lose S at_) s (mI S 44 0 at_) (mI S 45 0 at_) (mJ S 46 0 at_)) s (mI S 44 0 at_) (mI S 45 0 at_)) c s (mI S 44 0 at_) (mI S 43 0 at_) (n_dlP (n_dlB (n_dlA x (n_lose S at_) s (mI S 44 0 at_) (mI S 45 0 at_) (mJ S 46 0 at_)) s (mI S 44 0 at_) (mI S 45 0 at_)) s (mI S 44 0 at_) (mI S 45 0 at_))
def n_counts (S : fm) (c at_ : Nat) : Bool := decide (mI S 23 0 c ≠ 0) && (decide (mI S 23 0 c ≠ 6) && decide (mI S 43 0 at_ = mI S 24 0 c))
def n_hr1 (S : fm) (c : Nat) (seal : Int32) : fm := sI (sI S 25 0 c (mI S 25 0 c + 1)) 27 0 c (jmax (mI S 27 0 c) seal)
def n_hr2 (S : fm) (c : Nat) (has : Bool) (w : Int64) : fm := if has = true then sJ (sI S 26 0 c (mI S 26 0 c + 1)) 31 0 c w else S
def n_more (x : fy) (S : fm) (c : Nat) : Prop := mI S 25 0 c < nI (xQ x) ∨ (mI S 23 0 c = 5 ∧ mI S 26 0 c < nI (xK x))
def n_endS (S : fm) (c : Nat) : fm := sI (sI (sJ S 32 0 c (if mI S 23 0 c = 5 then mJ S 31 0 c else mJ S 32 0 c)) 23 0 c 0) 29 0 c (mI S 29 0 c + 1)
def n_tagS (S : fm) (c : Nat) : fm := if mI S 23 0 c = 1 then sI S 28 0 c (8 * (mI S 27 0 c / 8 + 1) + nI c) else if mI S 23 0 c = 4 then sI S 28 0 c (mI S 27 0 c) else S
end
section
-- lists out of rows of the memory
def mk {α : Type} (f : Nat → α) (n : Nat) : List α := (List.range n).map f
theorem mk_len {α : Type} (f : Nat → α) (n : Nat) : (mk f n).length = n := by simp [mk]
theorem mk_get {α : Type} (f : Nat → α) (n j : Nat) : (mk f n)[j]? = if j < n then some (f j) else none := by
  unfold mk
  rw [List.getElem?_map]
  by_cases h : j < n
  · rw [if_pos h, List.getElem?_range h]; rfl
  · rw [if_neg h, List.getElem?_eq_none (by simp; omega)]; rfl
theorem mk_congr {α : Type} {f g : Nat → α} {n : Nat} (h : ∀ j, j < n → f j = g j) : mk f n = mk g n := by
  apply List.ext_getElem?
  intro j
  rw [mk_get, mk_get]
  by_cases hj : j < n
  · rw [if_pos hj, if_pos hj, h j hj]
  · rw [if_neg hj, if_neg hj]
theorem mk_succ {α : Type} (f : Nat → α) (n : Nat) : mk f (n + 1) = mk f n ++ [f n] := by simp [mk, List.range_succ]
theorem mk_snoc {α : Type} (f : Nat → α) (n : Nat) (v : α) : mk (va_up f n v) (n + 1) = mk f n ++ [v] := by
  rw [mk_succ, show va_up f n v n = v from if_pos rfl]
  congr 1
  exact mk_congr (fun j hj => if_neg (by omega))
theorem mk_erase {α : Type} (f : Nat → α) {n j : Nat} (hj : j < n) : mk (tkA f j (n - 1)) (n - 1) = (mk f n).eraseIdx j := by
  apply List.ext_getElem?
  intro i
  rw [mk_get, List.getElem?_eraseIdx, mk_get, mk_get]
  unfold tkA
  by_cases h1 : i < j
  · rw [if_pos h1, if_pos (by omega), if_pos (by omega), if_neg (by omega)]
  · rw [if_neg h1]
    by_cases h2 : i < n - 1
    · rw [if_pos h2, if_pos (by omega), if_pos (by omega)]
    · rw [if_neg h2, if_neg (by omega)]
theorem mk_mem {α : Type} {f : Nat → α} {n : Nat} {v : α} : v ∈ mk f n ↔ ∃ j, j < n ∧ f j = v := by
  unfold mk
  simp [List.mem_map, List.mem_range]
/-- an element that doesn't count is taken out -/
theorem fl_no {α : Type} (p : α → Bool) : ∀ (l : List α) (i : Nat) (v : α), l[i]? = some v → p v = false → (l.eraseIdx i).filter p = l.filter p := by
  intro l
  induction l with
  | nil => intro i v h; simp at h
  | cons a l ih =>
    intro i v h hp
    cases i with
    | zero =>
      simp at h
      subst h
      simp [hp]
    | succ i =>
      simp at h
      simp only [List.eraseIdx_cons_succ, List.filter_cons]
      rw [ih i v h hp]
/-- one that counts -/
theorem fl_yes {α : Type} (p : α → Bool) : ∀ (l : List α) (i : Nat) (v : α), l[i]? = some v → p v = true → (l.eraseIdx i).filter p = (l.filter p).eraseIdx ((l.take i).filter p).length ∧ (l.filter p)[((l.take i).filter p).length]? = some v := by
  intro l
  induction l with
  | nil => intro i v h; simp at h
  | cons a l ih =>
    intro i v h hp
    cases i with
    | zero =>
      simp at h
      subst h
      simp [hp]
    | succ i =>
      simp at h
      obtain ⟨h1, h2⟩ := ih i v h hp
      simp only [List.eraseIdx_cons_succ, List.filter_cons, List.take_succ_cons]
      by_cases ha : p a = true
      · simp [ha, h1, h2]
      · simp [ha, h1, h2]
/-- the j-th that counts is somewhere -/
theorem fl_find {α : Type} (p : α → Bool) : ∀ (l : List α) (j : Nat), j < (l.filter p).length → ∃ i v, l[i]? = some v ∧ p v = true ∧ ((l.take i).filter p).length = j := by
  intro l
  induction l with
  | nil => intro j h; simp at h
  | cons a l ih =>
    intro j h
    by_cases ha : p a = true
    · cases j with
      | zero => exact ⟨0, a, by simp, ha, by simp⟩
      | succ j =>
        simp [ha] at h
        obtain ⟨i, v, h1, h2, h3⟩ := ih j h
        exact ⟨i + 1, v, by simpa using h1, h2, by simp [ha, h3]⟩
    · simp [ha] at h
      obtain ⟨i, v, h1, h2, h3⟩ := ih j h
      exact ⟨i + 1, v, by simpa using h1, h2, by simp [ha, h3]⟩
theorem fl_le {α : Type} (p : α → Bool) (l : List α) (i : Nat) : ((l.take i).filter p).length ≤ (l.filter p).length := by
  have h : (l.take i ++ l.drop i).filter p = l.filter p := by rw [List.take_append_drop]
  rw [← h, List.filter_append, List.length_append]
  omega
theorem mk_take {α : Type} (f : Nat → α) {n i : Nat} (h : i ≤ n) : (mk f n).take i = mk f i := by
  apply List.ext_getElem?
  intro j
  rw [List.getElem?_take, mk_get, mk_get]
  by_cases hj : j < i
  · rw [if_pos hj, if_pos hj, if_pos (by omega)]
  · rw [if_neg hj, if_neg hj]
end
