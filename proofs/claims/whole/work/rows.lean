section
/-- a private method of a class that the tables say can be made, by its rows of tables_1 -/
def lw_okq (q : MethodName × Nat) : Prop := (q.1.cls ≠ "java/lang/invoke/MethodHandle" ∧ q.1.cls ≠ "java/lang/invoke/VarHandle") ∧ Cond.instantiable q.1.cls q.2 ∈ tables_1 ∧ Cond.privateMethod q.1 ∈ tables_1 ∧ Cond.instanceMethod q.1 ∈ tables_1
theorem lw_p0 : lw_okq (⟨"SealedFragmentRegister", "refusalToBegin", "(I)I"⟩, 8) := ⟨⟨by decide +kernel, by decide +kernel⟩, List.mem_of_getElem? (i := 10) (by decide +kernel), List.mem_of_getElem? (i := 181) (by decide +kernel), List.mem_of_getElem? (i := 182) (by decide +kernel)⟩
theorem lw_p1 : lw_okq (⟨"SealedFragmentRegister", "isClient", "(I)Z"⟩, 8) := ⟨⟨by decide +kernel, by decide +kernel⟩, List.mem_of_getElem? (i := 10) (by decide +kernel), List.mem_of_getElem? (i := 185) (by decide +kernel), List.mem_of_getElem? (i := 186) (by decide +kernel)⟩
theorem lw_p2 : lw_okq (⟨"SealedFragmentRegister", "isCrowded", "(I)Z"⟩, 8) := ⟨⟨by decide +kernel, by decide +kernel⟩, List.mem_of_getElem? (i := 10) (by decide +kernel), List.mem_of_getElem? (i := 193) (by decide +kernel), List.mem_of_getElem? (i := 194) (by decide +kernel)⟩
theorem lw_p3 : lw_okq (⟨"SealedFragmentRegister", "rowOf", "(II)I"⟩, 8) := ⟨⟨by decide +kernel, by decide +kernel⟩, List.mem_of_getElem? (i := 10) (by decide +kernel), List.mem_of_getElem? (i := 197) (by decide +kernel), List.mem_of_getElem? (i := 198) (by decide +kernel)⟩
theorem lw_p4 : lw_okq (⟨"SealedFragmentRegister", "beginPhase", "(LSealedFragmentRegister$Client;I)V"⟩, 8) := ⟨⟨by decide +kernel, by decide +kernel⟩, List.mem_of_getElem? (i := 10) (by decide +kernel), List.mem_of_getElem? (i := 201) (by decide +kernel), List.mem_of_getElem? (i := 202) (by decide +kernel)⟩
theorem lw_p5 : lw_okq (⟨"SealedFragmentRegister", "requestTo", "(ILSealedFragmentRegister$Client;)LSealedFragmentRegister$Letter;"⟩, 8) := ⟨⟨by decide +kernel, by decide +kernel⟩, List.mem_of_getElem? (i := 10) (by decide +kernel), List.mem_of_getElem? (i := 209) (by decide +kernel), List.mem_of_getElem? (i := 210) (by decide +kernel)⟩
theorem lw_p6 : lw_okq (⟨"SealedFragmentRegister", "isServer", "(I)Z"⟩, 8) := ⟨⟨by decide +kernel, by decide +kernel⟩, List.mem_of_getElem? (i := 10) (by decide +kernel), List.mem_of_getElem? (i := 278) (by decide +kernel), List.mem_of_getElem? (i := 279) (by decide +kernel)⟩
theorem lw_p7 : lw_okq (⟨"SealedFragmentRegister", "hasHeardEnough", "(LSealedFragmentRegister$Client;)Z"⟩, 8) := ⟨⟨by decide +kernel, by decide +kernel⟩, List.mem_of_getElem? (i := 10) (by decide +kernel), List.mem_of_getElem? (i := 322) (by decide +kernel), List.mem_of_getElem? (i := 323) (by decide +kernel)⟩
theorem lw_p8 : lw_okq (⟨"SealedFragmentRegister", "endPhase", "(LSealedFragmentRegister$Client;)I"⟩, 8) := ⟨⟨by decide +kernel, by decide +kernel⟩, List.mem_of_getElem? (i := 10) (by decide +kernel), List.mem_of_getElem? (i := 330) (by decide +kernel), List.mem_of_getElem? (i := 331) (by decide +kernel)⟩
theorem lw_p9 : lw_okq (⟨"SealedFragmentRegisterModel", "noClient", "(I)Z"⟩, 27) := ⟨⟨by decide +kernel, by decide +kernel⟩, List.mem_of_getElem? (i := 414) (by decide +kernel), List.mem_of_getElem? (i := 511) (by decide +kernel), List.mem_of_getElem? (i := 512) (by decide +kernel)⟩
theorem lw_p10 : lw_okq (⟨"SealedFragmentRegisterModel", "noServer", "(I)Z"⟩, 27) := ⟨⟨by decide +kernel, by decide +kernel⟩, List.mem_of_getElem? (i := 414) (by decide +kernel), List.mem_of_getElem? (i := 515) (by decide +kernel), List.mem_of_getElem? (i := 516) (by decide +kernel)⟩
theorem lw_p11 : lw_okq (⟨"SealedFragmentRegisterModel", "count", "(ZII)I"⟩, 27) := ⟨⟨by decide +kernel, by decide +kernel⟩, List.mem_of_getElem? (i := 414) (by decide +kernel), List.mem_of_getElem? (i := 519) (by decide +kernel), List.mem_of_getElem? (i := 520) (by decide +kernel)⟩
theorem lw_p12 : lw_okq (⟨"SealedFragmentRegisterModel", "refusal", "(I)I"⟩, 27) := ⟨⟨by decide +kernel, by decide +kernel⟩, List.mem_of_getElem? (i := 414) (by decide +kernel), List.mem_of_getElem? (i := 531) (by decide +kernel), List.mem_of_getElem? (i := 532) (by decide +kernel)⟩
theorem lw_p13 : lw_okq (⟨"SealedFragmentRegisterModel", "crowded", "(I)Z"⟩, 27) := ⟨⟨by decide +kernel, by decide +kernel⟩, List.mem_of_getElem? (i := 414) (by decide +kernel), List.mem_of_getElem? (i := 535) (by decide +kernel), List.mem_of_getElem? (i := 536) (by decide +kernel)⟩
theorem lw_p14 : lw_okq (⟨"SealedFragmentRegisterModel", "begin", "(II)V"⟩, 27) := ⟨⟨by decide +kernel, by decide +kernel⟩, List.mem_of_getElem? (i := 414) (by decide +kernel), List.mem_of_getElem? (i := 539) (by decide +kernel), List.mem_of_getElem? (i := 540) (by decide +kernel)⟩
theorem lw_p15 : lw_okq (⟨"SealedFragmentRegisterModel", "send", "(ZIIII)V"⟩, 27) := ⟨⟨by decide +kernel, by decide +kernel⟩, List.mem_of_getElem? (i := 414) (by decide +kernel), List.mem_of_getElem? (i := 543) (by decide +kernel), List.mem_of_getElem? (i := 544) (by decide +kernel)⟩
def lw_privs_1 : List (MethodName × Nat) := [(⟨"SealedFragmentRegister", "refusalToBegin", "(I)I"⟩, 8), (⟨"SealedFragmentRegister", "isClient", "(I)Z"⟩, 8), (⟨"SealedFragmentRegister", "isCrowded", "(I)Z"⟩, 8), (⟨"SealedFragmentRegister", "rowOf", "(II)I"⟩, 8), (⟨"SealedFragmentRegister", "beginPhase", "(LSealedFragmentRegister$Client;I)V"⟩, 8), (⟨"SealedFragmentRegister", "requestTo", "(ILSealedFragmentRegister$Client;)LSealedFragmentRegister$Letter;"⟩, 8), (⟨"SealedFragmentRegister", "isServer", "(I)Z"⟩, 8), (⟨"SealedFragmentRegister", "hasHeardEnough", "(LSealedFragmentRegister$Client;)Z"⟩, 8), (⟨"SealedFragmentRegister", "endPhase", "(LSealedFragmentRegister$Client;)I"⟩, 8), (⟨"SealedFragmentRegisterModel", "noClient", "(I)Z"⟩, 27), (⟨"SealedFragmentRegisterModel", "noServer", "(I)Z"⟩, 27), (⟨"SealedFragmentRegisterModel", "count", "(ZII)I"⟩, 27), (⟨"SealedFragmentRegisterModel", "refusal", "(I)I"⟩, 27), (⟨"SealedFragmentRegisterModel", "crowded", "(I)Z"⟩, 27), (⟨"SealedFragmentRegisterModel", "begin", "(II)V"⟩, 27), (⟨"SealedFragmentRegisterModel", "send", "(ZIIII)V"⟩, 27)]
theorem lw_r1 : ∀ q ∈ lw_privs_1, lw_okq q := List.forall_mem_cons.mpr ⟨lw_p0, List.forall_mem_cons.mpr ⟨lw_p1, List.forall_mem_cons.mpr ⟨lw_p2, List.forall_mem_cons.mpr ⟨lw_p3, List.forall_mem_cons.mpr ⟨lw_p4, List.forall_mem_cons.mpr ⟨lw_p5, List.forall_mem_cons.mpr ⟨lw_p6, List.forall_mem_cons.mpr ⟨lw_p7, List.forall_mem_cons.mpr ⟨lw_p8, List.forall_mem_cons.mpr ⟨lw_p9, List.forall_mem_cons.mpr ⟨lw_p10, List.forall_mem_cons.mpr ⟨lw_p11, List.forall_mem_cons.mpr ⟨lw_p12, List.forall_mem_cons.mpr ⟨lw_p13, List.forall_mem_cons.mpr ⟨lw_p14, List.forall_mem_cons.mpr ⟨lw_p15, fun _ h => absurd h List.not_mem_nil⟩⟩⟩⟩⟩⟩⟩⟩⟩⟩⟩⟩⟩⟩⟩⟩
theorem lw_p16 : lw_okq (⟨"SealedFragmentRegisterModel", "seek", "(ZIII)I"⟩, 27) := ⟨⟨by decide +kernel, by decide +kernel⟩, List.mem_of_getElem? (i := 414) (by decide +kernel), List.mem_of_getElem? (i := 560) (by decide +kernel), List.mem_of_getElem? (i := 561) (by decide +kernel)⟩
theorem lw_p17 : lw_okq (⟨"SealedFragmentRegisterModel", "lose", "(I)V"⟩, 27) := ⟨⟨by decide +kernel, by decide +kernel⟩, List.mem_of_getElem? (i := 414) (by decide +kernel), List.mem_of_getElem? (i := 564) (by decide +kernel), List.mem_of_getElem? (i := 565) (by decide +kernel)⟩
theorem lw_p18 : lw_okq (⟨"SealedFragmentRegisterModel", "store", "(IIJ)V"⟩, 27) := ⟨⟨by decide +kernel, by decide +kernel⟩, List.mem_of_getElem? (i := 414) (by decide +kernel), List.mem_of_getElem? (i := 568) (by decide +kernel), List.mem_of_getElem? (i := 569) (by decide +kernel)⟩
theorem lw_p19 : lw_okq (⟨"SealedFragmentRegisterModel", "place", "(II)I"⟩, 27) := ⟨⟨by decide +kernel, by decide +kernel⟩, List.mem_of_getElem? (i := 414) (by decide +kernel), List.mem_of_getElem? (i := 572) (by decide +kernel), List.mem_of_getElem? (i := 573) (by decide +kernel)⟩
theorem lw_p20 : lw_okq (⟨"SealedFragmentRegisterModel", "onwards", "(I)I"⟩, 27) := ⟨⟨by decide +kernel, by decide +kernel⟩, List.mem_of_getElem? (i := 414) (by decide +kernel), List.mem_of_getElem? (i := 580) (by decide +kernel), List.mem_of_getElem? (i := 581) (by decide +kernel)⟩
theorem lw_p21 : lw_okq (⟨"SealedFragmentRegisterModel", "product", "(II)I"⟩, 27) := ⟨⟨by decide +kernel, by decide +kernel⟩, List.mem_of_getElem? (i := 414) (by decide +kernel), List.mem_of_getElem? (i := 625) (by decide +kernel), List.mem_of_getElem? (i := 626) (by decide +kernel)⟩
def lw_privs_2 : List (MethodName × Nat) := [(⟨"SealedFragmentRegisterModel", "seek", "(ZIII)I"⟩, 27), (⟨"SealedFragmentRegisterModel", "lose", "(I)V"⟩, 27), (⟨"SealedFragmentRegisterModel", "store", "(IIJ)V"⟩, 27), (⟨"SealedFragmentRegisterModel", "place", "(II)I"⟩, 27), (⟨"SealedFragmentRegisterModel", "onwards", "(I)I"⟩, 27), (⟨"SealedFragmentRegisterModel", "product", "(II)I"⟩, 27)]
theorem lw_r2 : ∀ q ∈ lw_privs_2, lw_okq q := List.forall_mem_cons.mpr ⟨lw_p16, List.forall_mem_cons.mpr ⟨lw_p17, List.forall_mem_cons.mpr ⟨lw_p18, List.forall_mem_cons.mpr ⟨lw_p19, List.forall_mem_cons.mpr ⟨lw_p20, List.forall_mem_cons.mpr ⟨lw_p21, fun _ h => absurd h List.not_mem_nil⟩⟩⟩⟩⟩⟩
def lw_privs : List (MethodName × Nat) := lw_privs_1 ++ (lw_privs_2)
def lw_tbl : List Cond := k2_sels lw_privs ++ tables_1
theorem lw_privs_ok : ∀ q ∈ lw_privs, lw_okq q := by
  show ∀ q ∈ lw_privs_1 ++ (lw_privs_2), lw_okq q
  exact List.forall_mem_append.mpr ⟨lw_r1, lw_r2⟩
end
section
-- printed by wip/whole/gen/names.py: names, fields, methods, the words of the tables by name
def rn_C : String := "SealedFragmentRegister$Client"
def rn_K : String := "SealedFragmentRegister$Code"
def rn_L : String := "SealedFragmentRegister$Letter"
def rn_R : String := "SealedFragmentRegister$Row"
def rn_S : String := "SealedFragmentRegister$Server"
def rn_X : String := "SealedFragmentRegister"
def rn_M : String := "SealedFragmentRegisterModel"
def rn_W : String := "SealedFragmentRegisterLaw"
def rn_J : String := "java/lang/Math"
def tf_C : u_T := fun k => match k with
  | 0 => ("SealedFragmentRegister$Client", "number", "I", true)
  | 1 => ("SealedFragmentRegister$Client", "sources", "[I", true)
  | 2 => ("SealedFragmentRegister$Client", "fragments", "[J", true)
  | 3 => ("SealedFragmentRegister$Client", "fragmentCount", "I", false)
  | 4 => ("SealedFragmentRegister$Client", "crashed", "Z", false)
  | 5 => ("SealedFragmentRegister$Client", "phase", "I", false)
  | 6 => ("SealedFragmentRegister$Client", "beginning", "I", false)
  | 7 => ("SealedFragmentRegister$Client", "heard", "I", false)
  | 8 => ("SealedFragmentRegister$Client", "highestSeal", "I", false)
  | 9 => ("SealedFragmentRegister$Client", "tag", "I", false)
  | 10 => ("SealedFragmentRegister$Client", "block", "J", false)
  | 11 => ("SealedFragmentRegister$Client", "result", "J", false)
  | _ => ("SealedFragmentRegister$Client", "finished", "I", false)
def ty_C : Nat → FieldType := fun k => match k with
  | 0 => .int
  | 1 => .array .int
  | 2 => .array .long
  | 3 => .int
  | 4 => .boolean
  | 5 => .int
  | 6 => .int
  | 7 => .int
  | 8 => .int
  | 9 => .int
  | 10 => .long
  | 11 => .long
  | _ => .int
theorem nm_C : ∀ a, a < 13 → ∀ b, b < 13 → a ≠ b → (tf_C a).2.1 ≠ (tf_C b).2.1 := by decide +kernel
theorem tk_C : ∀ k, k < 13 → parseFieldDescriptor (tf_C k).2.2.1 = some (ty_C k) := by decide +kernel
def tf_K : u_T := fun k => match k with
  | 0 => ("SealedFragmentRegister$Code", "needed", "I", true)
  | 1 => ("SealedFragmentRegister$Code", "length", "I", true)
  | _ => ("SealedFragmentRegister$Code", "column", "[I", true)
def ty_K : Nat → FieldType := fun k => match k with
  | 0 => .int
  | 1 => .int
  | _ => .array .int
theorem nm_K : ∀ a, a < 3 → ∀ b, b < 3 → a ≠ b → (tf_K a).2.1 ≠ (tf_K b).2.1 := by decide +kernel
theorem tk_K : ∀ k, k < 3 → parseFieldDescriptor (tf_K k).2.2.1 = some (ty_K k) := by decide +kernel
def tf_L : u_T := fun k => match k with
  | 0 => ("SealedFragmentRegister$Letter", "phase", "I", true)
  | 1 => ("SealedFragmentRegister$Letter", "beginning", "I", true)
  | 2 => ("SealedFragmentRegister$Letter", "tag", "I", true)
  | 3 => ("SealedFragmentRegister$Letter", "fragment", "J", false)
  | 4 => ("SealedFragmentRegister$Letter", "seal", "I", false)
  | _ => ("SealedFragmentRegister$Letter", "bearsFragment", "Z", false)
def ty_L : Nat → FieldType := fun k => match k with
  | 0 => .int
  | 1 => .int
  | 2 => .int
  | 3 => .long
  | 4 => .int
  | _ => .boolean
theorem nm_L : ∀ a, a < 6 → ∀ b, b < 6 → a ≠ b → (tf_L a).2.1 ≠ (tf_L b).2.1 := by decide +kernel
theorem tk_L : ∀ k, k < 6 → parseFieldDescriptor (tf_L k).2.2.1 = some (ty_L k) := by decide +kernel
def tf_R : u_T := fun k => match k with
  | 0 => ("SealedFragmentRegister$Row", "letters", "[LSealedFragmentRegister$Letter;", true)
  | _ => ("SealedFragmentRegister$Row", "size", "I", false)
def ty_R : Nat → FieldType := fun k => match k with
  | 0 => .array (.object "SealedFragmentRegister$Letter")
  | _ => .int
theorem nm_R : ∀ a, a < 2 → ∀ b, b < 2 → a ≠ b → (tf_R a).2.1 ≠ (tf_R b).2.1 := by decide +kernel
theorem tk_R : ∀ k, k < 2 → parseFieldDescriptor (tf_R k).2.2.1 = some (ty_R k) := by decide +kernel
def tf_S : u_T := fun k => match k with
  | 0 => ("SealedFragmentRegister$Server", "mostTags", "I", true)
  | 1 => ("SealedFragmentRegister$Server", "tags", "[I", true)
  | 2 => ("SealedFragmentRegister$Server", "fragments", "[J", true)
  | 3 => ("SealedFragmentRegister$Server", "count", "I", false)
  | 4 => ("SealedFragmentRegister$Server", "seal", "I", false)
  | _ => ("SealedFragmentRegister$Server", "crashed", "Z", false)
def ty_S : Nat → FieldType := fun k => match k with
  | 0 => .int
  | 1 => .array .int
  | 2 => .array .long
  | 3 => .int
  | 4 => .int
  | _ => .boolean
theorem nm_S : ∀ a, a < 6 → ∀ b, b < 6 → a ≠ b → (tf_S a).2.1 ≠ (tf_S b).2.1 := by decide +kernel
theorem tk_S : ∀ k, k < 6 → parseFieldDescriptor (tf_S k).2.2.1 = some (ty_S k) := by decide +kernel
def tf_X : u_T := fun k => match k with
  | 0 => ("SealedFragmentRegister", "quorumSize", "I", true)
  | 1 => ("SealedFragmentRegister", "mostCrashes", "I", true)
  | 2 => ("SealedFragmentRegister", "code", "LSealedFragmentRegister$Code;", true)
  | 3 => ("SealedFragmentRegister", "clients", "[LSealedFragmentRegister$Client;", true)
  | 4 => ("SealedFragmentRegister", "servers", "[LSealedFragmentRegister$Server;", true)
  | 5 => ("SealedFragmentRegister", "requestRows", "[LSealedFragmentRegister$Row;", true)
  | 6 => ("SealedFragmentRegister", "replyRows", "[LSealedFragmentRegister$Row;", true)
  | _ => ("SealedFragmentRegister", "crashes", "I", false)
def ty_X : Nat → FieldType := fun k => match k with
  | 0 => .int
  | 1 => .int
  | 2 => .object "SealedFragmentRegister$Code"
  | 3 => .array (.object "SealedFragmentRegister$Client")
  | 4 => .array (.object "SealedFragmentRegister$Server")
  | 5 => .array (.object "SealedFragmentRegister$Row")
  | 6 => .array (.object "SealedFragmentRegister$Row")
  | _ => .int
theorem nm_X : ∀ a, a < 8 → ∀ b, b < 8 → a ≠ b → (tf_X a).2.1 ≠ (tf_X b).2.1 := by decide +kernel
theorem tk_X : ∀ k, k < 8 → parseFieldDescriptor (tf_X k).2.2.1 = some (ty_X k) := by decide +kernel
def tf_M : u_T := fun k => match k with
  | 0 => ("SealedFragmentRegisterModel", "n", "I", false)
  | 1 => ("SealedFragmentRegisterModel", "k", "I", false)
  | 2 => ("SealedFragmentRegisterModel", "d", "I", false)
  | 3 => ("SealedFragmentRegisterModel", "phase", "[I", false)
  | 4 => ("SealedFragmentRegisterModel", "age", "[I", false)
  | 5 => ("SealedFragmentRegisterModel", "counted", "[I", false)
  | 6 => ("SealedFragmentRegisterModel", "bearing", "[I", false)
  | 7 => ("SealedFragmentRegisterModel", "best", "[I", false)
  | 8 => ("SealedFragmentRegisterModel", "tags", "[I", false)
  | 9 => ("SealedFragmentRegisterModel", "ends", "[I", false)
  | 10 => ("SealedFragmentRegisterModel", "block", "[J", false)
  | 11 => ("SealedFragmentRegisterModel", "seen", "[J", false)
  | 12 => ("SealedFragmentRegisterModel", "results", "[J", false)
  | 13 => ("SealedFragmentRegisterModel", "down", "[Z", false)
  | 14 => ("SealedFragmentRegisterModel", "seals", "[I", false)
  | 15 => ("SealedFragmentRegisterModel", "many", "[I", false)
  | 16 => ("SealedFragmentRegisterModel", "hasTag", "[I", false)
  | 17 => ("SealedFragmentRegisterModel", "hasBlock", "[J", false)
  | 18 => ("SealedFragmentRegisterModel", "letters", "I", false)
  | 19 => ("SealedFragmentRegisterModel", "reply", "[Z", false)
  | 20 => ("SealedFragmentRegisterModel", "full", "[Z", false)
  | 21 => ("SealedFragmentRegisterModel", "client", "[I", false)
  | 22 => ("SealedFragmentRegisterModel", "server", "[I", false)
  | 23 => ("SealedFragmentRegisterModel", "sent", "[I", false)
  | 24 => ("SealedFragmentRegisterModel", "kind", "[I", false)
  | 25 => ("SealedFragmentRegisterModel", "what", "[I", false)
  | _ => ("SealedFragmentRegisterModel", "load", "[J", false)
def ty_M : Nat → FieldType := fun k => match k with
  | 0 => .int
  | 1 => .int
  | 2 => .int
  | 3 => .array .int
  | 4 => .array .int
  | 5 => .array .int
  | 6 => .array .int
  | 7 => .array .int
  | 8 => .array .int
  | 9 => .array .int
  | 10 => .array .long
  | 11 => .array .long
  | 12 => .array .long
  | 13 => .array .boolean
  | 14 => .array .int
  | 15 => .array .int
  | 16 => .array .int
  | 17 => .array .long
  | 18 => .int
  | 19 => .array .boolean
  | 20 => .array .boolean
  | 21 => .array .int
  | 22 => .array .int
  | 23 => .array .int
  | 24 => .array .int
  | 25 => .array .int
  | _ => .array .long
theorem nm_M : ∀ a, a < 27 → ∀ b, b < 27 → a ≠ b → (tf_M a).2.1 ≠ (tf_M b).2.1 := by decide +kernel
theorem tk_M : ∀ k, k < 27 → parseFieldDescriptor (tf_M k).2.2.1 = some (ty_M k) := by decide +kernel
abbrev cls_all : List vw_C := [(rn_C, tf_C, 13), (rn_K, tf_K, 3), (rn_L, tf_L, 6), (rn_R, tf_R, 2), (rn_S, tf_S, 6), (rn_X, tf_X, 8), (rn_M, tf_M, 27)]
abbrev cb_X_init : ByteArray := prog_1_method_1_code
def mn_X_init : MethodName := ⟨rn_X, "<init>", "(III)V"⟩
abbrev cb_X_between : ByteArray := prog_1_method_21_code
def mn_X_between : MethodName := ⟨rn_X, "between", "(III)I"⟩
abbrev cb_J_min : ByteArray := prog_9_method_69_code
def mn_J_min : MethodName := ⟨rn_J, "min", "(II)I"⟩
abbrev cb_J_max : ByteArray := prog_9_method_65_code
def mn_J_max : MethodName := ⟨rn_J, "max", "(II)I"⟩
abbrev cb_K_init : ByteArray := prog_3_method_1_code
def mn_K_init : MethodName := ⟨rn_K, "<init>", "(I)V"⟩
abbrev cb_C_init : ByteArray := prog_2_method_1_code
def mn_C_init : MethodName := ⟨rn_C, "<init>", "(II)V"⟩
abbrev cb_S_init : ByteArray := prog_6_method_1_code
def mn_S_init : MethodName := ⟨rn_S, "<init>", "(I)V"⟩
abbrev cb_X_emptyRows : ByteArray := prog_1_method_22_code
def mn_X_emptyRows : MethodName := ⟨rn_X, "emptyRows", "(I)[LSealedFragmentRegister$Row;"⟩
abbrev cb_R_init : ByteArray := prog_5_method_1_code
def mn_R_init : MethodName := ⟨rn_R, "<init>", "()V"⟩
abbrev cb_X_write : ByteArray := prog_1_method_2_code
def mn_X_write : MethodName := ⟨rn_X, "write", "(IJ)I"⟩
abbrev cb_X_refusalToBegin : ByteArray := prog_1_method_26_code
def mn_X_refusalToBegin : MethodName := ⟨rn_X, "refusalToBegin", "(I)I"⟩
abbrev cb_X_isClient : ByteArray := prog_1_method_23_code
def mn_X_isClient : MethodName := ⟨rn_X, "isClient", "(I)Z"⟩
abbrev cb_C_isAtWork : ByteArray := prog_2_method_2_code
def mn_C_isAtWork : MethodName := ⟨rn_C, "isAtWork", "()Z"⟩
abbrev cb_X_isCrowded : ByteArray := prog_1_method_27_code
def mn_X_isCrowded : MethodName := ⟨rn_X, "isCrowded", "(I)Z"⟩
abbrev cb_X_rowOf : ByteArray := prog_1_method_25_code
def mn_X_rowOf : MethodName := ⟨rn_X, "rowOf", "(II)I"⟩
abbrev cb_X_beginPhase : ByteArray := prog_1_method_28_code
def mn_X_beginPhase : MethodName := ⟨rn_X, "beginPhase", "(LSealedFragmentRegister$Client;I)V"⟩
abbrev cb_C_enter : ByteArray := prog_2_method_3_code
def mn_C_enter : MethodName := ⟨rn_C, "enter", "(I)V"⟩
abbrev cb_X_requestTo : ByteArray := prog_1_method_29_code
def mn_X_requestTo : MethodName := ⟨rn_X, "requestTo", "(ILSealedFragmentRegister$Client;)LSealedFragmentRegister$Letter;"⟩
abbrev cb_L_init : ByteArray := prog_4_method_1_code
def mn_L_init : MethodName := ⟨rn_L, "<init>", "(III)V"⟩
abbrev cb_K_encode : ByteArray := prog_3_method_2_code
def mn_K_encode : MethodName := ⟨rn_K, "encode", "(JI)J"⟩
abbrev cb_K_pointOf : ByteArray := prog_3_method_5_code
def mn_K_pointOf : MethodName := ⟨rn_K, "pointOf", "(I)I"⟩
abbrev cb_K_times : ByteArray := prog_3_method_8_code
def mn_K_times : MethodName := ⟨rn_K, "times", "(II)I"⟩
abbrev cb_K_byteAt : ByteArray := prog_3_method_6_code
def mn_K_byteAt : MethodName := ⟨rn_K, "byteAt", "(JI)I"⟩
abbrev cb_K_placed : ByteArray := prog_3_method_7_code
def mn_K_placed : MethodName := ⟨rn_K, "placed", "(II)J"⟩
abbrev cb_R_append : ByteArray := prog_5_method_2_code
def mn_R_append : MethodName := ⟨rn_R, "append", "(LSealedFragmentRegister$Letter;)V"⟩
abbrev cb_X_read : ByteArray := prog_1_method_3_code
def mn_X_read : MethodName := ⟨rn_X, "read", "(I)I"⟩
abbrev cb_X_again : ByteArray := prog_1_method_4_code
def mn_X_again : MethodName := ⟨rn_X, "again", "(I)I"⟩
abbrev cb_X_deliver : ByteArray := prog_1_method_5_code
def mn_X_deliver : MethodName := ⟨rn_X, "deliver", "(III)I"⟩
abbrev cb_X_isServer : ByteArray := prog_1_method_24_code
def mn_X_isServer : MethodName := ⟨rn_X, "isServer", "(I)Z"⟩
abbrev cb_R_take : ByteArray := prog_5_method_3_code
def mn_R_take : MethodName := ⟨rn_R, "take", "(I)LSealedFragmentRegister$Letter;"⟩
abbrev cb_S_answer : ByteArray := prog_6_method_2_code
def mn_S_answer : MethodName := ⟨rn_S, "answer", "(LSealedFragmentRegister$Letter;)V"⟩
abbrev cb_S_store : ByteArray := prog_6_method_3_code
def mn_S_store : MethodName := ⟨rn_S, "store", "(IJ)V"⟩
abbrev cb_S_raiseSeal : ByteArray := prog_6_method_4_code
def mn_S_raiseSeal : MethodName := ⟨rn_S, "raiseSeal", "(I)V"⟩
abbrev cb_S_enclose : ByteArray := prog_6_method_5_code
def mn_S_enclose : MethodName := ⟨rn_S, "enclose", "(LSealedFragmentRegister$Letter;)V"⟩
abbrev cb_S_placeOf : ByteArray := prog_6_method_6_code
def mn_S_placeOf : MethodName := ⟨rn_S, "placeOf", "(I)I"⟩
abbrev cb_X_hear : ByteArray := prog_1_method_6_code
def mn_X_hear : MethodName := ⟨rn_X, "hear", "(III)I"⟩
abbrev cb_C_counts : ByteArray := prog_2_method_4_code
def mn_C_counts : MethodName := ⟨rn_C, "counts", "(LSealedFragmentRegister$Letter;)Z"⟩
abbrev cb_C_take : ByteArray := prog_2_method_5_code
def mn_C_take : MethodName := ⟨rn_C, "take", "(LSealedFragmentRegister$Letter;I)V"⟩
abbrev cb_X_hasHeardEnough : ByteArray := prog_1_method_30_code
def mn_X_hasHeardEnough : MethodName := ⟨rn_X, "hasHeardEnough", "(LSealedFragmentRegister$Client;)Z"⟩
abbrev cb_C_hasAllFragments : ByteArray := prog_2_method_6_code
def mn_C_hasAllFragments : MethodName := ⟨rn_C, "hasAllFragments", "()Z"⟩
abbrev cb_X_endPhase : ByteArray := prog_1_method_31_code
def mn_X_endPhase : MethodName := ⟨rn_X, "endPhase", "(LSealedFragmentRegister$Client;)I"⟩
abbrev cb_K_decode : ByteArray := prog_3_method_3_code
def mn_K_decode : MethodName := ⟨rn_K, "decode", "([I[J)J"⟩
abbrev cb_K_interpolate : ByteArray := prog_3_method_4_code
def mn_K_interpolate : MethodName := ⟨rn_K, "interpolate", "([I)V"⟩
abbrev cb_K_inverse : ByteArray := prog_3_method_9_code
def mn_K_inverse : MethodName := ⟨rn_K, "inverse", "(I)I"⟩
abbrev cb_C_finish : ByteArray := prog_2_method_7_code
def mn_C_finish : MethodName := ⟨rn_C, "finish", "()V"⟩
abbrev cb_X_crash : ByteArray := prog_1_method_7_code
def mn_X_crash : MethodName := ⟨rn_X, "crash", "(I)Z"⟩
abbrev cb_R_lose : ByteArray := prog_5_method_4_code
def mn_R_lose : MethodName := ⟨rn_R, "lose", "()V"⟩
abbrev cb_X_stop : ByteArray := prog_1_method_8_code
def mn_X_stop : MethodName := ⟨rn_X, "stop", "(I)Z"⟩
abbrev cb_X_phase : ByteArray := prog_1_method_9_code
def mn_X_phase : MethodName := ⟨rn_X, "phase", "(I)I"⟩
abbrev cb_X_heard : ByteArray := prog_1_method_10_code
def mn_X_heard : MethodName := ⟨rn_X, "heard", "(I)I"⟩
abbrev cb_X_tag : ByteArray := prog_1_method_11_code
def mn_X_tag : MethodName := ⟨rn_X, "tag", "(I)I"⟩
abbrev cb_X_result : ByteArray := prog_1_method_12_code
def mn_X_result : MethodName := ⟨rn_X, "result", "(I)J"⟩
abbrev cb_X_finished : ByteArray := prog_1_method_13_code
def mn_X_finished : MethodName := ⟨rn_X, "finished", "(I)I"⟩
abbrev cb_X_held : ByteArray := prog_1_method_14_code
def mn_X_held : MethodName := ⟨rn_X, "held", "(I)I"⟩
abbrev cb_X_heldTag : ByteArray := prog_1_method_15_code
def mn_X_heldTag : MethodName := ⟨rn_X, "heldTag", "(II)I"⟩
abbrev cb_X_fragment : ByteArray := prog_1_method_16_code
def mn_X_fragment : MethodName := ⟨rn_X, "fragment", "(III)I"⟩
abbrev cb_X_seal : ByteArray := prog_1_method_17_code
def mn_X_seal : MethodName := ⟨rn_X, "seal", "(I)I"⟩
abbrev cb_X_requests : ByteArray := prog_1_method_18_code
def mn_X_requests : MethodName := ⟨rn_X, "requests", "(II)I"⟩
abbrev cb_X_replies : ByteArray := prog_1_method_19_code
def mn_X_replies : MethodName := ⟨rn_X, "replies", "(II)I"⟩
abbrev cb_X_quorum : ByteArray := prog_1_method_20_code
def mn_X_quorum : MethodName := ⟨rn_X, "quorum", "()I"⟩
abbrev cb_W_cell : ByteArray := method_2_code
def mn_W_cell : MethodName := ⟨rn_W, "cell", "([II)I"⟩
abbrev cb_M_init : ByteArray := prog_8_method_1_code
def mn_M_init : MethodName := ⟨rn_M, "<init>", "(III)V"⟩
abbrev cb_M_quorum : ByteArray := prog_8_method_4_code
def mn_M_quorum : MethodName := ⟨rn_M, "quorum", "()I"⟩
abbrev cb_M_requests : ByteArray := prog_8_method_9_code
def mn_M_requests : MethodName := ⟨rn_M, "requests", "(II)I"⟩
abbrev cb_M_noClient : ByteArray := prog_8_method_2_code
def mn_M_noClient : MethodName := ⟨rn_M, "noClient", "(I)Z"⟩
abbrev cb_M_noServer : ByteArray := prog_8_method_3_code
def mn_M_noServer : MethodName := ⟨rn_M, "noServer", "(I)Z"⟩
abbrev cb_M_count : ByteArray := prog_8_method_7_code
def mn_M_count : MethodName := ⟨rn_M, "count", "(ZII)I"⟩
abbrev cb_M_replies : ByteArray := prog_8_method_10_code
def mn_M_replies : MethodName := ⟨rn_M, "replies", "(II)I"⟩
abbrev cb_M_write : ByteArray := prog_8_method_14_code
def mn_M_write : MethodName := ⟨rn_M, "write", "(IJ)I"⟩
abbrev cb_M_refusal : ByteArray := prog_8_method_13_code
def mn_M_refusal : MethodName := ⟨rn_M, "refusal", "(I)I"⟩
abbrev cb_M_crowded : ByteArray := prog_8_method_11_code
def mn_M_crowded : MethodName := ⟨rn_M, "crowded", "(I)Z"⟩
abbrev cb_M_begin : ByteArray := prog_8_method_12_code
def mn_M_begin : MethodName := ⟨rn_M, "begin", "(II)V"⟩
abbrev cb_M_send : ByteArray := prog_8_method_5_code
def mn_M_send : MethodName := ⟨rn_M, "send", "(ZIIII)V"⟩
abbrev cb_M_read : ByteArray := prog_8_method_15_code
def mn_M_read : MethodName := ⟨rn_M, "read", "(I)I"⟩
abbrev cb_M_again : ByteArray := prog_8_method_16_code
def mn_M_again : MethodName := ⟨rn_M, "again", "(I)I"⟩
abbrev cb_M_deliver : ByteArray := prog_8_method_19_code
def mn_M_deliver : MethodName := ⟨rn_M, "deliver", "(III)I"⟩
abbrev cb_M_seek : ByteArray := prog_8_method_8_code
def mn_M_seek : MethodName := ⟨rn_M, "seek", "(ZIII)I"⟩
abbrev cb_M_lose : ByteArray := prog_8_method_6_code
def mn_M_lose : MethodName := ⟨rn_M, "lose", "(I)V"⟩
abbrev cb_M_store : ByteArray := prog_8_method_18_code
def mn_M_store : MethodName := ⟨rn_M, "store", "(IIJ)V"⟩
abbrev cb_M_place : ByteArray := prog_8_method_17_code
def mn_M_place : MethodName := ⟨rn_M, "place", "(II)I"⟩
abbrev cb_M_hear : ByteArray := prog_8_method_20_code
def mn_M_hear : MethodName := ⟨rn_M, "hear", "(III)I"⟩
abbrev cb_M_onwards : ByteArray := prog_8_method_21_code
def mn_M_onwards : MethodName := ⟨rn_M, "onwards", "(I)I"⟩
abbrev cb_M_crash : ByteArray := prog_8_method_22_code
def mn_M_crash : MethodName := ⟨rn_M, "crash", "(I)Z"⟩
abbrev cb_M_stop : ByteArray := prog_8_method_23_code
def mn_M_stop : MethodName := ⟨rn_M, "stop", "(I)Z"⟩
abbrev cb_M_phase : ByteArray := prog_8_method_24_code
def mn_M_phase : MethodName := ⟨rn_M, "phase", "(I)I"⟩
abbrev cb_M_heard : ByteArray := prog_8_method_25_code
def mn_M_heard : MethodName := ⟨rn_M, "heard", "(I)I"⟩
abbrev cb_M_tag : ByteArray := prog_8_method_26_code
def mn_M_tag : MethodName := ⟨rn_M, "tag", "(I)I"⟩
abbrev cb_M_result : ByteArray := prog_8_method_27_code
def mn_M_result : MethodName := ⟨rn_M, "result", "(I)J"⟩
abbrev cb_M_finished : ByteArray := prog_8_method_28_code
def mn_M_finished : MethodName := ⟨rn_M, "finished", "(I)I"⟩
abbrev cb_M_held : ByteArray := prog_8_method_29_code
def mn_M_held : MethodName := ⟨rn_M, "held", "(I)I"⟩
abbrev cb_M_heldTag : ByteArray := prog_8_method_30_code
def mn_M_heldTag : MethodName := ⟨rn_M, "heldTag", "(II)I"⟩
abbrev cb_M_fragment : ByteArray := prog_8_method_32_code
def mn_M_fragment : MethodName := ⟨rn_M, "fragment", "(III)I"⟩
abbrev cb_M_product : ByteArray := prog_8_method_31_code
def mn_M_product : MethodName := ⟨rn_M, "product", "(II)I"⟩
abbrev cb_M_seal : ByteArray := prog_8_method_33_code
def mn_M_seal : MethodName := ⟨rn_M, "seal", "(I)I"⟩
abbrev cb_W_law : ByteArray := code
def gw_tbl : List Cond := lw_tbl.filter goodWord
theorem gw_in {w : Cond} (i : Nat) (h : lw_tbl[i]? = some w) (hg : goodWord w = true) : w ∈ gw_tbl := List.mem_filter.mpr ⟨List.mem_of_getElem? h, hg⟩
theorem gw_good {w : Cond} (h : w ∈ gw_tbl) : (w.onTables && w.keeps) = true ∨ ∃ ty, w = .arrayClass ty := good_of_word (List.mem_filter.mp h).2
theorem gw_sub {w : Cond} (h : w ∈ gw_tbl) : w ∈ lw_tbl := (List.mem_filter.mp h).1
/-- a method's words: its code, then the whole table -/
abbrev gw_ws (y : MethodName) (cb : ByteArray) (n : Nat) (r : Option FieldType) : List Cond := .code y cb n r :: gw_tbl
theorem gw_all {y : MethodName} {cb : ByteArray} {n : Nat} {r : Option FieldType} (h : Cond.code y cb n r ∈ gw_tbl) : GoodIn gw_tbl (gw_ws y cb n r) := fun w hw => (List.mem_cons.mp hw).elim (fun e => by rw [e]; exact ⟨h, gw_good h⟩) (fun h => ⟨h, gw_good h⟩)
theorem se_X_refusalToBegin : Cond.selects rn_X mn_X_refusalToBegin mn_X_refusalToBegin ∈ gw_tbl := gw_in 0 (by decide +kernel) (by decide +kernel)
theorem se_X_isClient : Cond.selects rn_X mn_X_isClient mn_X_isClient ∈ gw_tbl := gw_in 1 (by decide +kernel) (by decide +kernel)
theorem se_X_isCrowded : Cond.selects rn_X mn_X_isCrowded mn_X_isCrowded ∈ gw_tbl := gw_in 2 (by decide +kernel) (by decide +kernel)
theorem se_X_rowOf : Cond.selects rn_X mn_X_rowOf mn_X_rowOf ∈ gw_tbl := gw_in 3 (by decide +kernel) (by decide +kernel)
theorem se_X_beginPhase : Cond.selects rn_X mn_X_beginPhase mn_X_beginPhase ∈ gw_tbl := gw_in 4 (by decide +kernel) (by decide +kernel)
theorem se_X_requestTo : Cond.selects rn_X mn_X_requestTo mn_X_requestTo ∈ gw_tbl := gw_in 5 (by decide +kernel) (by decide +kernel)
theorem se_X_isServer : Cond.selects rn_X mn_X_isServer mn_X_isServer ∈ gw_tbl := gw_in 6 (by decide +kernel) (by decide +kernel)
theorem se_X_hasHeardEnough : Cond.selects rn_X mn_X_hasHeardEnough mn_X_hasHeardEnough ∈ gw_tbl := gw_in 7 (by decide +kernel) (by decide +kernel)
theorem se_X_endPhase : Cond.selects rn_X mn_X_endPhase mn_X_endPhase ∈ gw_tbl := gw_in 8 (by decide +kernel) (by decide +kernel)
theorem se_M_noClient : Cond.selects rn_M mn_M_noClient mn_M_noClient ∈ gw_tbl := gw_in 9 (by decide +kernel) (by decide +kernel)
theorem se_M_noServer : Cond.selects rn_M mn_M_noServer mn_M_noServer ∈ gw_tbl := gw_in 10 (by decide +kernel) (by decide +kernel)
theorem se_M_count : Cond.selects rn_M mn_M_count mn_M_count ∈ gw_tbl := gw_in 11 (by decide +kernel) (by decide +kernel)
theorem se_M_refusal : Cond.selects rn_M mn_M_refusal mn_M_refusal ∈ gw_tbl := gw_in 12 (by decide +kernel) (by decide +kernel)
theorem se_M_crowded : Cond.selects rn_M mn_M_crowded mn_M_crowded ∈ gw_tbl := gw_in 13 (by decide +kernel) (by decide +kernel)
theorem se_M_begin : Cond.selects rn_M mn_M_begin mn_M_begin ∈ gw_tbl := gw_in 14 (by decide +kernel) (by decide +kernel)
theorem se_M_send : Cond.selects rn_M mn_M_send mn_M_send ∈ gw_tbl := gw_in 15 (by decide +kernel) (by decide +kernel)
theorem se_M_seek : Cond.selects rn_M mn_M_seek mn_M_seek ∈ gw_tbl := gw_in 16 (by decide +kernel) (by decide +kernel)
theorem se_M_lose : Cond.selects rn_M mn_M_lose mn_M_lose ∈ gw_tbl := gw_in 17 (by decide +kernel) (by decide +kernel)
theorem se_M_store : Cond.selects rn_M mn_M_store mn_M_store ∈ gw_tbl := gw_in 18 (by decide +kernel) (by decide +kernel)
theorem se_M_place : Cond.selects rn_M mn_M_place mn_M_place ∈ gw_tbl := gw_in 19 (by decide +kernel) (by decide +kernel)
theorem se_M_onwards : Cond.selects rn_M mn_M_onwards mn_M_onwards ∈ gw_tbl := gw_in 20 (by decide +kernel) (by decide +kernel)
theorem se_M_product : Cond.selects rn_M mn_M_product mn_M_product ∈ gw_tbl := gw_in 21 (by decide +kernel) (by decide +kernel)
theorem in_W : Cond.initialized rn_W ∈ gw_tbl := gw_in 22 (by decide +kernel) (by decide +kernel)
theorem in_X : Cond.initialized rn_X ∈ gw_tbl := gw_in 23 (by decide +kernel) (by decide +kernel)
theorem in_J : Cond.initialized rn_J ∈ gw_tbl := gw_in 24 (by decide +kernel) (by decide +kernel)
theorem in_K : Cond.initialized rn_K ∈ gw_tbl := gw_in 25 (by decide +kernel) (by decide +kernel)
theorem in_C : Cond.initialized rn_C ∈ gw_tbl := gw_in 26 (by decide +kernel) (by decide +kernel)
theorem in_S : Cond.initialized rn_S ∈ gw_tbl := gw_in 27 (by decide +kernel) (by decide +kernel)
theorem in_R : Cond.initialized rn_R ∈ gw_tbl := gw_in 28 (by decide +kernel) (by decide +kernel)
theorem in_M : Cond.initialized rn_M ∈ gw_tbl := gw_in 29 (by decide +kernel) (by decide +kernel)
theorem in_L : Cond.initialized rn_L ∈ gw_tbl := gw_in 30 (by decide +kernel) (by decide +kernel)
theorem kl_W_X : Cond.classLink rn_W 7 rn_X ∈ gw_tbl := gw_in 31 (by decide +kernel) (by decide +kernel)
theorem is_X : Cond.instantiable rn_X 8 ∈ gw_tbl := gw_in 32 (by decide +kernel) (by decide +kernel)
theorem ml_W_X_init : Cond.methodLink rn_W 15 mn_X_init ∈ gw_tbl := gw_in 33 (by decide +kernel) (by decide +kernel)
theorem im_X_init : Cond.instanceMethod mn_X_init ∈ gw_tbl := gw_in 34 (by decide +kernel) (by decide +kernel)
theorem co_X_init : Cond.code mn_X_init cb_X_init 8 none ∈ gw_tbl := gw_in 35 (by decide +kernel) (by decide +kernel)
theorem ml_X_O_init : Cond.methodLink rn_X 3 objectInit ∈ gw_tbl := gw_in 36 (by decide +kernel) (by decide +kernel)
theorem im_O_init : Cond.instanceMethod objectInit ∈ gw_tbl := gw_in 37 (by decide +kernel) (by decide +kernel)
theorem co_O_init : Cond.code objectInit ⟨#[0xb1]⟩ 1 none ∈ gw_tbl := gw_in 38 (by decide +kernel) (by decide +kernel)
theorem ml_X_X_between : Cond.methodLink rn_X 9 mn_X_between ∈ gw_tbl := gw_in 39 (by decide +kernel) (by decide +kernel)
theorem st_X_between : Cond.static mn_X_between ∈ gw_tbl := gw_in 40 (by decide +kernel) (by decide +kernel)
theorem co_X_between : Cond.code mn_X_between cb_X_between 3 (some .int) ∈ gw_tbl := gw_in 41 (by decide +kernel) (by decide +kernel)
theorem ml_X_J_min : Cond.methodLink rn_X 170 Lib.Math.min.name ∈ gw_tbl := gw_in 42 (by decide +kernel) (by decide +kernel)
theorem st_J_min : Cond.static Lib.Math.min.name ∈ gw_tbl := gw_in 43 (by decide +kernel) (by decide +kernel)
theorem co_J_min : Cond.code Lib.Math.min.name Lib.Math.min.code 2 (some .int) ∈ gw_tbl := gw_in 44 (by decide +kernel) (by decide +kernel)
theorem ml_X_J_max : Cond.methodLink rn_X 175 Lib.Math.max.name ∈ gw_tbl := gw_in 45 (by decide +kernel) (by decide +kernel)
theorem st_J_max : Cond.static Lib.Math.max.name ∈ gw_tbl := gw_in 46 (by decide +kernel) (by decide +kernel)
theorem co_J_max : Cond.code Lib.Math.max.name Lib.Math.max.code 2 (some .int) ∈ gw_tbl := gw_in 47 (by decide +kernel) (by decide +kernel)
theorem kl_X_K : Cond.classLink rn_X 20 rn_K ∈ gw_tbl := gw_in 48 (by decide +kernel) (by decide +kernel)
theorem is_K : Cond.instantiable rn_K 3 ∈ gw_tbl := gw_in 49 (by decide +kernel) (by decide +kernel)
theorem ml_X_K_init : Cond.methodLink rn_X 22 mn_K_init ∈ gw_tbl := gw_in 50 (by decide +kernel) (by decide +kernel)
theorem im_K_init : Cond.instanceMethod mn_K_init ∈ gw_tbl := gw_in 51 (by decide +kernel) (by decide +kernel)
theorem co_K_init : Cond.code mn_K_init cb_K_init 2 none ∈ gw_tbl := gw_in 52 (by decide +kernel) (by decide +kernel)
theorem ml_K_O_init : Cond.methodLink rn_K 3 objectInit ∈ gw_tbl := gw_in 53 (by decide +kernel) (by decide +kernel)
theorem fl_K_K_needed : Cond.fieldLink rn_K 9 rn_K "needed" "I" ∈ gw_tbl := gw_in 54 (by decide +kernel) (by decide +kernel)
theorem fl_K_K_length : Cond.fieldLink rn_K 15 rn_K "length" "I" ∈ gw_tbl := gw_in 55 (by decide +kernel) (by decide +kernel)
theorem fl_X_K_length : Cond.fieldLink rn_X 150 rn_K "length" "I" ∈ gw_tbl := gw_in 56 (by decide +kernel) (by decide +kernel)
theorem fl_K_K_column : Cond.fieldLink rn_K 18 rn_K "column" "[I" ∈ gw_tbl := gw_in 57 (by decide +kernel) (by decide +kernel)
theorem ac_int : Cond.arrayClass .int ∈ gw_tbl := gw_in 65 (by decide +kernel) (by decide +kernel)
theorem kl_X_C : Cond.classLink rn_X 29 rn_C ∈ gw_tbl := gw_in 66 (by decide +kernel) (by decide +kernel)
theorem ao_C : Cond.arrayOver (.object rn_C) ∈ lw_tbl := List.mem_of_getElem? (i := 67) (by decide +kernel)
theorem is_C : Cond.instantiable rn_C 13 ∈ gw_tbl := gw_in 68 (by decide +kernel) (by decide +kernel)
theorem ml_X_C_init : Cond.methodLink rn_X 35 mn_C_init ∈ gw_tbl := gw_in 69 (by decide +kernel) (by decide +kernel)
theorem im_C_init : Cond.instanceMethod mn_C_init ∈ gw_tbl := gw_in 70 (by decide +kernel) (by decide +kernel)
theorem co_C_init : Cond.code mn_C_init cb_C_init 3 none ∈ gw_tbl := gw_in 71 (by decide +kernel) (by decide +kernel)
theorem ml_C_O_init : Cond.methodLink rn_C 3 objectInit ∈ gw_tbl := gw_in 72 (by decide +kernel) (by decide +kernel)
theorem fl_C_C_number : Cond.fieldLink rn_C 15 rn_C "number" "I" ∈ gw_tbl := gw_in 73 (by decide +kernel) (by decide +kernel)
theorem fl_X_C_number : Cond.fieldLink rn_X 182 rn_C "number" "I" ∈ gw_tbl := gw_in 74 (by decide +kernel) (by decide +kernel)
theorem fl_C_C_sources : Cond.fieldLink rn_C 18 rn_C "sources" "[I" ∈ gw_tbl := gw_in 75 (by decide +kernel) (by decide +kernel)
theorem fl_X_C_sources : Cond.fieldLink rn_X 208 rn_C "sources" "[I" ∈ gw_tbl := gw_in 76 (by decide +kernel) (by decide +kernel)
theorem fl_C_C_fragments : Cond.fieldLink rn_C 22 rn_C "fragments" "[J" ∈ gw_tbl := gw_in 77 (by decide +kernel) (by decide +kernel)
theorem fl_X_C_fragments : Cond.fieldLink rn_X 211 rn_C "fragments" "[J" ∈ gw_tbl := gw_in 78 (by decide +kernel) (by decide +kernel)
theorem fl_C_C_fragmentCount : Cond.fieldLink rn_C 39 rn_C "fragmentCount" "I" ∈ gw_tbl := gw_in 79 (by decide +kernel) (by decide +kernel)
theorem fl_C_C_crashed : Cond.fieldLink rn_C 26 rn_C "crashed" "Z" ∈ gw_tbl := gw_in 80 (by decide +kernel) (by decide +kernel)
theorem fl_X_C_crashed : Cond.fieldLink rn_X 72 rn_C "crashed" "Z" ∈ gw_tbl := gw_in 81 (by decide +kernel) (by decide +kernel)
theorem fl_C_C_phase : Cond.fieldLink rn_C 9 rn_C "phase" "I" ∈ gw_tbl := gw_in 82 (by decide +kernel) (by decide +kernel)
theorem fl_X_C_phase : Cond.fieldLink rn_X 76 rn_C "phase" "I" ∈ gw_tbl := gw_in 83 (by decide +kernel) (by decide +kernel)
theorem fl_C_C_beginning : Cond.fieldLink rn_C 30 rn_C "beginning" "I" ∈ gw_tbl := gw_in 84 (by decide +kernel) (by decide +kernel)
theorem fl_X_C_beginning : Cond.fieldLink rn_X 189 rn_C "beginning" "I" ∈ gw_tbl := gw_in 85 (by decide +kernel) (by decide +kernel)
theorem fl_C_C_heard : Cond.fieldLink rn_C 33 rn_C "heard" "I" ∈ gw_tbl := gw_in 86 (by decide +kernel) (by decide +kernel)
theorem fl_X_C_heard : Cond.fieldLink rn_X 79 rn_C "heard" "I" ∈ gw_tbl := gw_in 87 (by decide +kernel) (by decide +kernel)
theorem fl_C_C_highestSeal : Cond.fieldLink rn_C 36 rn_C "highestSeal" "I" ∈ gw_tbl := gw_in 88 (by decide +kernel) (by decide +kernel)
theorem fl_X_C_highestSeal : Cond.fieldLink rn_X 205 rn_C "highestSeal" "I" ∈ gw_tbl := gw_in 89 (by decide +kernel) (by decide +kernel)
theorem fl_X_C_tag : Cond.fieldLink rn_X 134 rn_C "tag" "I" ∈ gw_tbl := gw_in 90 (by decide +kernel) (by decide +kernel)
theorem fl_X_C_block : Cond.fieldLink rn_X 60 rn_C "block" "J" ∈ gw_tbl := gw_in 91 (by decide +kernel) (by decide +kernel)
theorem fl_X_C_result : Cond.fieldLink rn_X 137 rn_C "result" "J" ∈ gw_tbl := gw_in 92 (by decide +kernel) (by decide +kernel)
theorem fl_C_C_finished : Cond.fieldLink rn_C 65 rn_C "finished" "I" ∈ gw_tbl := gw_in 93 (by decide +kernel) (by decide +kernel)
theorem fl_X_C_finished : Cond.fieldLink rn_X 140 rn_C "finished" "I" ∈ gw_tbl := gw_in 94 (by decide +kernel) (by decide +kernel)
theorem ac_long : Cond.arrayClass .long ∈ gw_tbl := gw_in 122 (by decide +kernel) (by decide +kernel)
theorem kl_X_S : Cond.classLink rn_X 38 rn_S ∈ gw_tbl := gw_in 123 (by decide +kernel) (by decide +kernel)
theorem ao_S : Cond.arrayOver (.object rn_S) ∈ lw_tbl := List.mem_of_getElem? (i := 124) (by decide +kernel)
theorem is_S : Cond.instantiable rn_S 6 ∈ gw_tbl := gw_in 125 (by decide +kernel) (by decide +kernel)
theorem ml_X_S_init : Cond.methodLink rn_X 44 mn_S_init ∈ gw_tbl := gw_in 126 (by decide +kernel) (by decide +kernel)
theorem im_S_init : Cond.instanceMethod mn_S_init ∈ gw_tbl := gw_in 127 (by decide +kernel) (by decide +kernel)
theorem co_S_init : Cond.code mn_S_init cb_S_init 2 none ∈ gw_tbl := gw_in 128 (by decide +kernel) (by decide +kernel)
theorem ml_S_O_init : Cond.methodLink rn_S 3 objectInit ∈ gw_tbl := gw_in 129 (by decide +kernel) (by decide +kernel)
theorem fl_S_S_mostTags : Cond.fieldLink rn_S 15 rn_S "mostTags" "I" ∈ gw_tbl := gw_in 130 (by decide +kernel) (by decide +kernel)
theorem fl_S_S_tags : Cond.fieldLink rn_S 18 rn_S "tags" "[I" ∈ gw_tbl := gw_in 131 (by decide +kernel) (by decide +kernel)
theorem fl_X_S_tags : Cond.fieldLink rn_X 146 rn_S "tags" "[I" ∈ gw_tbl := gw_in 132 (by decide +kernel) (by decide +kernel)
theorem fl_S_S_fragments : Cond.fieldLink rn_S 22 rn_S "fragments" "[J" ∈ gw_tbl := gw_in 133 (by decide +kernel) (by decide +kernel)
theorem fl_X_S_fragments : Cond.fieldLink rn_X 156 rn_S "fragments" "[J" ∈ gw_tbl := gw_in 134 (by decide +kernel) (by decide +kernel)
theorem fl_S_S_count : Cond.fieldLink rn_S 9 rn_S "count" "I" ∈ gw_tbl := gw_in 135 (by decide +kernel) (by decide +kernel)
theorem fl_X_S_count : Cond.fieldLink rn_X 143 rn_S "count" "I" ∈ gw_tbl := gw_in 136 (by decide +kernel) (by decide +kernel)
theorem fl_S_S_seal : Cond.fieldLink rn_S 50 rn_S "seal" "I" ∈ gw_tbl := gw_in 137 (by decide +kernel) (by decide +kernel)
theorem fl_X_S_seal : Cond.fieldLink rn_X 164 rn_S "seal" "I" ∈ gw_tbl := gw_in 138 (by decide +kernel) (by decide +kernel)
theorem fl_X_S_crashed : Cond.fieldLink rn_X 123 rn_S "crashed" "Z" ∈ gw_tbl := gw_in 139 (by decide +kernel) (by decide +kernel)
theorem ml_X_X_emptyRows : Cond.methodLink rn_X 45 mn_X_emptyRows ∈ gw_tbl := gw_in 153 (by decide +kernel) (by decide +kernel)
theorem st_X_emptyRows : Cond.static mn_X_emptyRows ∈ gw_tbl := gw_in 154 (by decide +kernel) (by decide +kernel)
theorem co_X_emptyRows : Cond.code mn_X_emptyRows cb_X_emptyRows 3 (some (.array (.object "SealedFragmentRegister$Row"))) ∈ gw_tbl := gw_in 155 (by decide +kernel) (by decide +kernel)
theorem kl_X_R : Cond.classLink rn_X 93 rn_R ∈ gw_tbl := gw_in 156 (by decide +kernel) (by decide +kernel)
theorem ao_R : Cond.arrayOver (.object rn_R) ∈ lw_tbl := List.mem_of_getElem? (i := 157) (by decide +kernel)
theorem is_R : Cond.instantiable rn_R 2 ∈ gw_tbl := gw_in 158 (by decide +kernel) (by decide +kernel)
theorem mq_X_R_init : Cond.methodLinkNest rn_X 178 mn_R_init rn_X ∈ lw_tbl := List.mem_of_getElem? (i := 159) (by decide +kernel)
theorem im_R_init : Cond.instanceMethod mn_R_init ∈ gw_tbl := gw_in 160 (by decide +kernel) (by decide +kernel)
theorem co_R_init : Cond.code mn_R_init cb_R_init 1 none ∈ gw_tbl := gw_in 161 (by decide +kernel) (by decide +kernel)
theorem ml_R_O_init : Cond.methodLink rn_R 3 objectInit ∈ gw_tbl := gw_in 162 (by decide +kernel) (by decide +kernel)
theorem kl_R_L : Cond.classLink rn_R 9 rn_L ∈ gw_tbl := gw_in 163 (by decide +kernel) (by decide +kernel)
theorem ao_L : Cond.arrayOver (.object rn_L) ∈ lw_tbl := List.mem_of_getElem? (i := 164) (by decide +kernel)
theorem fl_R_R_letters : Cond.fieldLink rn_R 11 rn_R "letters" "[LSealedFragmentRegister$Letter;" ∈ gw_tbl := gw_in 165 (by decide +kernel) (by decide +kernel)
theorem fl_R_R_size : Cond.fieldLink rn_R 17 rn_R "size" "I" ∈ gw_tbl := gw_in 166 (by decide +kernel) (by decide +kernel)
theorem fl_X_R_size : Cond.fieldLink rn_X 167 rn_R "size" "I" ∈ gw_tbl := gw_in 167 (by decide +kernel) (by decide +kernel)
theorem fl_X_X_quorumSize : Cond.fieldLink rn_X 17 rn_X "quorumSize" "I" ∈ gw_tbl := gw_in 173 (by decide +kernel) (by decide +kernel)
theorem fl_X_X_mostCrashes : Cond.fieldLink rn_X 13 rn_X "mostCrashes" "I" ∈ gw_tbl := gw_in 174 (by decide +kernel) (by decide +kernel)
theorem fl_X_X_code : Cond.fieldLink rn_X 25 rn_X "code" "LSealedFragmentRegister$Code;" ∈ gw_tbl := gw_in 175 (by decide +kernel) (by decide +kernel)
theorem fl_X_X_clients : Cond.fieldLink rn_X 31 rn_X "clients" "[LSealedFragmentRegister$Client;" ∈ gw_tbl := gw_in 176 (by decide +kernel) (by decide +kernel)
theorem fl_X_X_servers : Cond.fieldLink rn_X 40 rn_X "servers" "[LSealedFragmentRegister$Server;" ∈ gw_tbl := gw_in 177 (by decide +kernel) (by decide +kernel)
theorem fl_X_X_requestRows : Cond.fieldLink rn_X 49 rn_X "requestRows" "[LSealedFragmentRegister$Row;" ∈ gw_tbl := gw_in 178 (by decide +kernel) (by decide +kernel)
theorem fl_X_X_replyRows : Cond.fieldLink rn_X 53 rn_X "replyRows" "[LSealedFragmentRegister$Row;" ∈ gw_tbl := gw_in 179 (by decide +kernel) (by decide +kernel)
theorem fl_X_X_crashes : Cond.fieldLink rn_X 124 rn_X "crashes" "I" ∈ gw_tbl := gw_in 180 (by decide +kernel) (by decide +kernel)
theorem ml_W_X_write : Cond.methodLink rn_W 23 mn_X_write ∈ gw_tbl := gw_in 198 (by decide +kernel) (by decide +kernel)
theorem im_X_write : Cond.instanceMethod mn_X_write ∈ gw_tbl := gw_in 199 (by decide +kernel) (by decide +kernel)
theorem se_X_write : Cond.selects rn_X mn_X_write mn_X_write ∈ gw_tbl := gw_in 200 (by decide +kernel) (by decide +kernel)
theorem co_X_write : Cond.code mn_X_write cb_X_write 5 (some .int) ∈ gw_tbl := gw_in 201 (by decide +kernel) (by decide +kernel)
theorem ml_X_X_refusalToBegin : Cond.methodLink rn_X 56 mn_X_refusalToBegin ∈ gw_tbl := gw_in 202 (by decide +kernel) (by decide +kernel)
theorem im_X_refusalToBegin : Cond.instanceMethod mn_X_refusalToBegin ∈ gw_tbl := gw_in 204 (by decide +kernel) (by decide +kernel)
theorem co_X_refusalToBegin : Cond.code mn_X_refusalToBegin cb_X_refusalToBegin 2 (some .int) ∈ gw_tbl := gw_in 205 (by decide +kernel) (by decide +kernel)
theorem ml_X_X_isClient : Cond.methodLink rn_X 68 mn_X_isClient ∈ gw_tbl := gw_in 206 (by decide +kernel) (by decide +kernel)
theorem im_X_isClient : Cond.instanceMethod mn_X_isClient ∈ gw_tbl := gw_in 208 (by decide +kernel) (by decide +kernel)
theorem co_X_isClient : Cond.code mn_X_isClient cb_X_isClient 2 (some .boolean) ∈ gw_tbl := gw_in 209 (by decide +kernel) (by decide +kernel)
theorem ml_X_C_isAtWork : Cond.methodLink rn_X 130 mn_C_isAtWork ∈ gw_tbl := gw_in 210 (by decide +kernel) (by decide +kernel)
theorem im_C_isAtWork : Cond.instanceMethod mn_C_isAtWork ∈ gw_tbl := gw_in 211 (by decide +kernel) (by decide +kernel)
theorem se_C_isAtWork : Cond.selects rn_C mn_C_isAtWork mn_C_isAtWork ∈ gw_tbl := gw_in 212 (by decide +kernel) (by decide +kernel)
theorem co_C_isAtWork : Cond.code mn_C_isAtWork cb_C_isAtWork 1 (some .boolean) ∈ gw_tbl := gw_in 213 (by decide +kernel) (by decide +kernel)
theorem ml_X_X_isCrowded : Cond.methodLink rn_X 82 mn_X_isCrowded ∈ gw_tbl := gw_in 214 (by decide +kernel) (by decide +kernel)
theorem im_X_isCrowded : Cond.instanceMethod mn_X_isCrowded ∈ gw_tbl := gw_in 216 (by decide +kernel) (by decide +kernel)
theorem co_X_isCrowded : Cond.code mn_X_isCrowded cb_X_isCrowded 4 (some .boolean) ∈ gw_tbl := gw_in 217 (by decide +kernel) (by decide +kernel)
theorem ml_X_X_rowOf : Cond.methodLink rn_X 88 mn_X_rowOf ∈ gw_tbl := gw_in 218 (by decide +kernel) (by decide +kernel)
theorem im_X_rowOf : Cond.instanceMethod mn_X_rowOf ∈ gw_tbl := gw_in 220 (by decide +kernel) (by decide +kernel)
theorem co_X_rowOf : Cond.code mn_X_rowOf cb_X_rowOf 3 (some .int) ∈ gw_tbl := gw_in 221 (by decide +kernel) (by decide +kernel)
theorem ml_X_X_beginPhase : Cond.methodLink rn_X 64 mn_X_beginPhase ∈ gw_tbl := gw_in 222 (by decide +kernel) (by decide +kernel)
theorem im_X_beginPhase : Cond.instanceMethod mn_X_beginPhase ∈ gw_tbl := gw_in 224 (by decide +kernel) (by decide +kernel)
theorem co_X_beginPhase : Cond.code mn_X_beginPhase cb_X_beginPhase 4 none ∈ gw_tbl := gw_in 225 (by decide +kernel) (by decide +kernel)
theorem ml_X_C_enter : Cond.methodLink rn_X 179 mn_C_enter ∈ gw_tbl := gw_in 226 (by decide +kernel) (by decide +kernel)
theorem im_C_enter : Cond.instanceMethod mn_C_enter ∈ gw_tbl := gw_in 227 (by decide +kernel) (by decide +kernel)
theorem se_C_enter : Cond.selects rn_C mn_C_enter mn_C_enter ∈ gw_tbl := gw_in 228 (by decide +kernel) (by decide +kernel)
theorem co_C_enter : Cond.code mn_C_enter cb_C_enter 2 none ∈ gw_tbl := gw_in 229 (by decide +kernel) (by decide +kernel)
theorem ml_X_X_requestTo : Cond.methodLink rn_X 185 mn_X_requestTo ∈ gw_tbl := gw_in 230 (by decide +kernel) (by decide +kernel)
theorem im_X_requestTo : Cond.instanceMethod mn_X_requestTo ∈ gw_tbl := gw_in 232 (by decide +kernel) (by decide +kernel)
theorem co_X_requestTo : Cond.code mn_X_requestTo cb_X_requestTo 4 (some (.object "SealedFragmentRegister$Letter")) ∈ gw_tbl := gw_in 233 (by decide +kernel) (by decide +kernel)
theorem kl_X_L : Cond.classLink rn_X 106 rn_L ∈ gw_tbl := gw_in 234 (by decide +kernel) (by decide +kernel)
theorem is_L : Cond.instantiable rn_L 6 ∈ gw_tbl := gw_in 235 (by decide +kernel) (by decide +kernel)
theorem ml_X_L_init : Cond.methodLink rn_X 192 mn_L_init ∈ gw_tbl := gw_in 236 (by decide +kernel) (by decide +kernel)
theorem im_L_init : Cond.instanceMethod mn_L_init ∈ gw_tbl := gw_in 237 (by decide +kernel) (by decide +kernel)
theorem co_L_init : Cond.code mn_L_init cb_L_init 4 none ∈ gw_tbl := gw_in 238 (by decide +kernel) (by decide +kernel)
theorem ml_L_O_init : Cond.methodLink rn_L 1 objectInit ∈ gw_tbl := gw_in 239 (by decide +kernel) (by decide +kernel)
theorem fl_L_L_phase : Cond.fieldLink rn_L 7 rn_L "phase" "I" ∈ gw_tbl := gw_in 240 (by decide +kernel) (by decide +kernel)
theorem fl_S_L_phase : Cond.fieldLink rn_S 26 rn_L "phase" "I" ∈ gw_tbl := gw_in 241 (by decide +kernel) (by decide +kernel)
theorem fl_X_L_phase : Cond.fieldLink rn_X 105 rn_L "phase" "I" ∈ gw_tbl := gw_in 242 (by decide +kernel) (by decide +kernel)
theorem fl_L_L_beginning : Cond.fieldLink rn_L 13 rn_L "beginning" "I" ∈ gw_tbl := gw_in 243 (by decide +kernel) (by decide +kernel)
theorem fl_C_L_beginning : Cond.fieldLink rn_C 46 rn_L "beginning" "I" ∈ gw_tbl := gw_in 244 (by decide +kernel) (by decide +kernel)
theorem fl_L_L_tag : Cond.fieldLink rn_L 16 rn_L "tag" "I" ∈ gw_tbl := gw_in 245 (by decide +kernel) (by decide +kernel)
theorem fl_S_L_tag : Cond.fieldLink rn_S 31 rn_L "tag" "I" ∈ gw_tbl := gw_in 246 (by decide +kernel) (by decide +kernel)
theorem fl_S_L_fragment : Cond.fieldLink rn_S 34 rn_L "fragment" "J" ∈ gw_tbl := gw_in 247 (by decide +kernel) (by decide +kernel)
theorem fl_C_L_fragment : Cond.fieldLink rn_C 61 rn_L "fragment" "J" ∈ gw_tbl := gw_in 248 (by decide +kernel) (by decide +kernel)
theorem fl_X_L_fragment : Cond.fieldLink rn_X 199 rn_L "fragment" "J" ∈ gw_tbl := gw_in 249 (by decide +kernel) (by decide +kernel)
theorem fl_S_L_seal : Cond.fieldLink rn_S 53 rn_L "seal" "I" ∈ gw_tbl := gw_in 250 (by decide +kernel) (by decide +kernel)
theorem fl_C_L_seal : Cond.fieldLink rn_C 49 rn_L "seal" "I" ∈ gw_tbl := gw_in 251 (by decide +kernel) (by decide +kernel)
theorem fl_S_L_bearsFragment : Cond.fieldLink rn_S 67 rn_L "bearsFragment" "Z" ∈ gw_tbl := gw_in 252 (by decide +kernel) (by decide +kernel)
theorem fl_C_L_bearsFragment : Cond.fieldLink rn_C 58 rn_L "bearsFragment" "Z" ∈ gw_tbl := gw_in 253 (by decide +kernel) (by decide +kernel)
theorem ml_X_K_encode : Cond.methodLink rn_X 195 mn_K_encode ∈ gw_tbl := gw_in 267 (by decide +kernel) (by decide +kernel)
theorem im_K_encode : Cond.instanceMethod mn_K_encode ∈ gw_tbl := gw_in 268 (by decide +kernel) (by decide +kernel)
theorem se_K_encode : Cond.selects rn_K mn_K_encode mn_K_encode ∈ gw_tbl := gw_in 269 (by decide +kernel) (by decide +kernel)
theorem co_K_encode : Cond.code mn_K_encode cb_K_encode 9 (some .long) ∈ gw_tbl := gw_in 270 (by decide +kernel) (by decide +kernel)
theorem ml_K_K_pointOf : Cond.methodLink rn_K 22 mn_K_pointOf ∈ gw_tbl := gw_in 271 (by decide +kernel) (by decide +kernel)
theorem st_K_pointOf : Cond.static mn_K_pointOf ∈ gw_tbl := gw_in 272 (by decide +kernel) (by decide +kernel)
theorem co_K_pointOf : Cond.code mn_K_pointOf cb_K_pointOf 1 (some .int) ∈ gw_tbl := gw_in 273 (by decide +kernel) (by decide +kernel)
theorem ml_K_K_times : Cond.methodLink rn_K 26 mn_K_times ∈ gw_tbl := gw_in 274 (by decide +kernel) (by decide +kernel)
theorem st_K_times : Cond.static mn_K_times ∈ gw_tbl := gw_in 275 (by decide +kernel) (by decide +kernel)
theorem co_K_times : Cond.code mn_K_times cb_K_times 5 (some .int) ∈ gw_tbl := gw_in 276 (by decide +kernel) (by decide +kernel)
theorem ml_K_K_byteAt : Cond.methodLink rn_K 30 mn_K_byteAt ∈ gw_tbl := gw_in 277 (by decide +kernel) (by decide +kernel)
theorem st_K_byteAt : Cond.static mn_K_byteAt ∈ gw_tbl := gw_in 278 (by decide +kernel) (by decide +kernel)
theorem co_K_byteAt : Cond.code mn_K_byteAt cb_K_byteAt 3 (some .int) ∈ gw_tbl := gw_in 279 (by decide +kernel) (by decide +kernel)
theorem ml_K_K_placed : Cond.methodLink rn_K 34 mn_K_placed ∈ gw_tbl := gw_in 280 (by decide +kernel) (by decide +kernel)
theorem st_K_placed : Cond.static mn_K_placed ∈ gw_tbl := gw_in 281 (by decide +kernel) (by decide +kernel)
theorem co_K_placed : Cond.code mn_K_placed cb_K_placed 2 (some .long) ∈ gw_tbl := gw_in 282 (by decide +kernel) (by decide +kernel)
theorem ml_X_R_append : Cond.methodLink rn_X 102 mn_R_append ∈ gw_tbl := gw_in 283 (by decide +kernel) (by decide +kernel)
theorem im_R_append : Cond.instanceMethod mn_R_append ∈ gw_tbl := gw_in 284 (by decide +kernel) (by decide +kernel)
theorem se_R_append : Cond.selects rn_R mn_R_append mn_R_append ∈ gw_tbl := gw_in 285 (by decide +kernel) (by decide +kernel)
theorem co_R_append : Cond.code mn_R_append cb_R_append 2 none ∈ gw_tbl := gw_in 286 (by decide +kernel) (by decide +kernel)
theorem ml_W_X_read : Cond.methodLink rn_W 28 mn_X_read ∈ gw_tbl := gw_in 287 (by decide +kernel) (by decide +kernel)
theorem im_X_read : Cond.instanceMethod mn_X_read ∈ gw_tbl := gw_in 288 (by decide +kernel) (by decide +kernel)
theorem se_X_read : Cond.selects rn_X mn_X_read mn_X_read ∈ gw_tbl := gw_in 289 (by decide +kernel) (by decide +kernel)
theorem co_X_read : Cond.code mn_X_read cb_X_read 3 (some .int) ∈ gw_tbl := gw_in 290 (by decide +kernel) (by decide +kernel)
theorem ml_W_X_again : Cond.methodLink rn_W 33 mn_X_again ∈ gw_tbl := gw_in 291 (by decide +kernel) (by decide +kernel)
theorem im_X_again : Cond.instanceMethod mn_X_again ∈ gw_tbl := gw_in 292 (by decide +kernel) (by decide +kernel)
theorem se_X_again : Cond.selects rn_X mn_X_again mn_X_again ∈ gw_tbl := gw_in 293 (by decide +kernel) (by decide +kernel)
theorem co_X_again : Cond.code mn_X_again cb_X_again 3 (some .int) ∈ gw_tbl := gw_in 294 (by decide +kernel) (by decide +kernel)
theorem ml_W_X_deliver : Cond.methodLink rn_W 37 mn_X_deliver ∈ gw_tbl := gw_in 295 (by decide +kernel) (by decide +kernel)
theorem im_X_deliver : Cond.instanceMethod mn_X_deliver ∈ gw_tbl := gw_in 296 (by decide +kernel) (by decide +kernel)
theorem se_X_deliver : Cond.selects rn_X mn_X_deliver mn_X_deliver ∈ gw_tbl := gw_in 297 (by decide +kernel) (by decide +kernel)
theorem co_X_deliver : Cond.code mn_X_deliver cb_X_deliver 5 (some .int) ∈ gw_tbl := gw_in 298 (by decide +kernel) (by decide +kernel)
theorem ml_X_X_isServer : Cond.methodLink rn_X 85 mn_X_isServer ∈ gw_tbl := gw_in 299 (by decide +kernel) (by decide +kernel)
theorem im_X_isServer : Cond.instanceMethod mn_X_isServer ∈ gw_tbl := gw_in 301 (by decide +kernel) (by decide +kernel)
theorem co_X_isServer : Cond.code mn_X_isServer cb_X_isServer 2 (some .boolean) ∈ gw_tbl := gw_in 302 (by decide +kernel) (by decide +kernel)
theorem ml_X_R_take : Cond.methodLink rn_X 92 mn_R_take ∈ gw_tbl := gw_in 303 (by decide +kernel) (by decide +kernel)
theorem im_R_take : Cond.instanceMethod mn_R_take ∈ gw_tbl := gw_in 304 (by decide +kernel) (by decide +kernel)
theorem se_R_take : Cond.selects rn_R mn_R_take mn_R_take ∈ gw_tbl := gw_in 305 (by decide +kernel) (by decide +kernel)
theorem co_R_take : Cond.code mn_R_take cb_R_take 4 (some (.object "SealedFragmentRegister$Letter")) ∈ gw_tbl := gw_in 306 (by decide +kernel) (by decide +kernel)
theorem ml_X_S_answer : Cond.methodLink rn_X 98 mn_S_answer ∈ gw_tbl := gw_in 307 (by decide +kernel) (by decide +kernel)
theorem im_S_answer : Cond.instanceMethod mn_S_answer ∈ gw_tbl := gw_in 308 (by decide +kernel) (by decide +kernel)
theorem se_S_answer : Cond.selects rn_S mn_S_answer mn_S_answer ∈ gw_tbl := gw_in 309 (by decide +kernel) (by decide +kernel)
theorem co_S_answer : Cond.code mn_S_answer cb_S_answer 2 none ∈ gw_tbl := gw_in 310 (by decide +kernel) (by decide +kernel)
theorem ml_S_S_store : Cond.methodLink rn_S 38 mn_S_store ∈ gw_tbl := gw_in 311 (by decide +kernel) (by decide +kernel)
theorem im_S_store : Cond.instanceMethod mn_S_store ∈ gw_tbl := gw_in 312 (by decide +kernel) (by decide +kernel)
theorem se_S_store : Cond.selects rn_S mn_S_store mn_S_store ∈ gw_tbl := gw_in 313 (by decide +kernel) (by decide +kernel)
theorem co_S_store : Cond.code mn_S_store cb_S_store 5 none ∈ gw_tbl := gw_in 314 (by decide +kernel) (by decide +kernel)
theorem ml_S_J_min : Cond.methodLink rn_S 54 Lib.Math.min.name ∈ gw_tbl := gw_in 315 (by decide +kernel) (by decide +kernel)
theorem ml_S_S_raiseSeal : Cond.methodLink rn_S 42 mn_S_raiseSeal ∈ gw_tbl := gw_in 316 (by decide +kernel) (by decide +kernel)
theorem im_S_raiseSeal : Cond.instanceMethod mn_S_raiseSeal ∈ gw_tbl := gw_in 317 (by decide +kernel) (by decide +kernel)
theorem se_S_raiseSeal : Cond.selects rn_S mn_S_raiseSeal mn_S_raiseSeal ∈ gw_tbl := gw_in 318 (by decide +kernel) (by decide +kernel)
theorem co_S_raiseSeal : Cond.code mn_S_raiseSeal cb_S_raiseSeal 2 none ∈ gw_tbl := gw_in 319 (by decide +kernel) (by decide +kernel)
theorem ml_S_J_max : Cond.methodLink rn_S 60 Lib.Math.max.name ∈ gw_tbl := gw_in 320 (by decide +kernel) (by decide +kernel)
theorem ml_S_S_enclose : Cond.methodLink rn_S 46 mn_S_enclose ∈ gw_tbl := gw_in 321 (by decide +kernel) (by decide +kernel)
theorem im_S_enclose : Cond.instanceMethod mn_S_enclose ∈ gw_tbl := gw_in 322 (by decide +kernel) (by decide +kernel)
theorem se_S_enclose : Cond.selects rn_S mn_S_enclose mn_S_enclose ∈ gw_tbl := gw_in 323 (by decide +kernel) (by decide +kernel)
theorem co_S_enclose : Cond.code mn_S_enclose cb_S_enclose 3 none ∈ gw_tbl := gw_in 324 (by decide +kernel) (by decide +kernel)
theorem ml_S_S_placeOf : Cond.methodLink rn_S 63 mn_S_placeOf ∈ gw_tbl := gw_in 325 (by decide +kernel) (by decide +kernel)
theorem im_S_placeOf : Cond.instanceMethod mn_S_placeOf ∈ gw_tbl := gw_in 326 (by decide +kernel) (by decide +kernel)
theorem se_S_placeOf : Cond.selects rn_S mn_S_placeOf mn_S_placeOf ∈ gw_tbl := gw_in 327 (by decide +kernel) (by decide +kernel)
theorem co_S_placeOf : Cond.code mn_S_placeOf cb_S_placeOf 3 (some .int) ∈ gw_tbl := gw_in 328 (by decide +kernel) (by decide +kernel)
theorem ml_W_X_hear : Cond.methodLink rn_W 42 mn_X_hear ∈ gw_tbl := gw_in 329 (by decide +kernel) (by decide +kernel)
theorem im_X_hear : Cond.instanceMethod mn_X_hear ∈ gw_tbl := gw_in 330 (by decide +kernel) (by decide +kernel)
theorem se_X_hear : Cond.selects rn_X mn_X_hear mn_X_hear ∈ gw_tbl := gw_in 331 (by decide +kernel) (by decide +kernel)
theorem co_X_hear : Cond.code mn_X_hear cb_X_hear 6 (some .int) ∈ gw_tbl := gw_in 332 (by decide +kernel) (by decide +kernel)
theorem ml_X_C_counts : Cond.methodLink rn_X 108 mn_C_counts ∈ gw_tbl := gw_in 333 (by decide +kernel) (by decide +kernel)
theorem im_C_counts : Cond.instanceMethod mn_C_counts ∈ gw_tbl := gw_in 334 (by decide +kernel) (by decide +kernel)
theorem se_C_counts : Cond.selects rn_C mn_C_counts mn_C_counts ∈ gw_tbl := gw_in 335 (by decide +kernel) (by decide +kernel)
theorem co_C_counts : Cond.code mn_C_counts cb_C_counts 2 (some .boolean) ∈ gw_tbl := gw_in 336 (by decide +kernel) (by decide +kernel)
theorem ml_C_C_isAtWork : Cond.methodLink rn_C 42 mn_C_isAtWork ∈ gw_tbl := gw_in 337 (by decide +kernel) (by decide +kernel)
theorem ml_X_C_take : Cond.methodLink rn_X 112 mn_C_take ∈ gw_tbl := gw_in 338 (by decide +kernel) (by decide +kernel)
theorem im_C_take : Cond.instanceMethod mn_C_take ∈ gw_tbl := gw_in 339 (by decide +kernel) (by decide +kernel)
theorem se_C_take : Cond.selects rn_C mn_C_take mn_C_take ∈ gw_tbl := gw_in 340 (by decide +kernel) (by decide +kernel)
theorem co_C_take : Cond.code mn_C_take cb_C_take 3 none ∈ gw_tbl := gw_in 341 (by decide +kernel) (by decide +kernel)
theorem ml_C_J_max : Cond.methodLink rn_C 52 Lib.Math.max.name ∈ gw_tbl := gw_in 342 (by decide +kernel) (by decide +kernel)
theorem ml_X_X_hasHeardEnough : Cond.methodLink rn_X 115 mn_X_hasHeardEnough ∈ gw_tbl := gw_in 343 (by decide +kernel) (by decide +kernel)
theorem im_X_hasHeardEnough : Cond.instanceMethod mn_X_hasHeardEnough ∈ gw_tbl := gw_in 345 (by decide +kernel) (by decide +kernel)
theorem co_X_hasHeardEnough : Cond.code mn_X_hasHeardEnough cb_X_hasHeardEnough 2 (some .boolean) ∈ gw_tbl := gw_in 346 (by decide +kernel) (by decide +kernel)
theorem ml_X_C_hasAllFragments : Cond.methodLink rn_X 202 mn_C_hasAllFragments ∈ gw_tbl := gw_in 347 (by decide +kernel) (by decide +kernel)
theorem im_C_hasAllFragments : Cond.instanceMethod mn_C_hasAllFragments ∈ gw_tbl := gw_in 348 (by decide +kernel) (by decide +kernel)
theorem se_C_hasAllFragments : Cond.selects rn_C mn_C_hasAllFragments mn_C_hasAllFragments ∈ gw_tbl := gw_in 349 (by decide +kernel) (by decide +kernel)
theorem co_C_hasAllFragments : Cond.code mn_C_hasAllFragments cb_C_hasAllFragments 1 (some .boolean) ∈ gw_tbl := gw_in 350 (by decide +kernel) (by decide +kernel)
theorem ml_X_X_endPhase : Cond.methodLink rn_X 119 mn_X_endPhase ∈ gw_tbl := gw_in 351 (by decide +kernel) (by decide +kernel)
theorem im_X_endPhase : Cond.instanceMethod mn_X_endPhase ∈ gw_tbl := gw_in 353 (by decide +kernel) (by decide +kernel)
theorem co_X_endPhase : Cond.code mn_X_endPhase cb_X_endPhase 3 (some .int) ∈ gw_tbl := gw_in 354 (by decide +kernel) (by decide +kernel)
theorem ml_X_K_decode : Cond.methodLink rn_X 212 mn_K_decode ∈ gw_tbl := gw_in 355 (by decide +kernel) (by decide +kernel)
theorem im_K_decode : Cond.instanceMethod mn_K_decode ∈ gw_tbl := gw_in 356 (by decide +kernel) (by decide +kernel)
theorem se_K_decode : Cond.selects rn_K mn_K_decode mn_K_decode ∈ gw_tbl := gw_in 357 (by decide +kernel) (by decide +kernel)
theorem co_K_decode : Cond.code mn_K_decode cb_K_decode 7 (some .long) ∈ gw_tbl := gw_in 358 (by decide +kernel) (by decide +kernel)
theorem ml_K_K_interpolate : Cond.methodLink rn_K 38 mn_K_interpolate ∈ gw_tbl := gw_in 359 (by decide +kernel) (by decide +kernel)
theorem im_K_interpolate : Cond.instanceMethod mn_K_interpolate ∈ gw_tbl := gw_in 360 (by decide +kernel) (by decide +kernel)
theorem se_K_interpolate : Cond.selects rn_K mn_K_interpolate mn_K_interpolate ∈ gw_tbl := gw_in 361 (by decide +kernel) (by decide +kernel)
theorem co_K_interpolate : Cond.code mn_K_interpolate cb_K_interpolate 5 none ∈ gw_tbl := gw_in 362 (by decide +kernel) (by decide +kernel)
theorem ml_K_K_inverse : Cond.methodLink rn_K 42 mn_K_inverse ∈ gw_tbl := gw_in 363 (by decide +kernel) (by decide +kernel)
theorem st_K_inverse : Cond.static mn_K_inverse ∈ gw_tbl := gw_in 364 (by decide +kernel) (by decide +kernel)
theorem co_K_inverse : Cond.code mn_K_inverse cb_K_inverse 4 (some .int) ∈ gw_tbl := gw_in 365 (by decide +kernel) (by decide +kernel)
theorem ml_X_C_finish : Cond.methodLink rn_X 216 mn_C_finish ∈ gw_tbl := gw_in 366 (by decide +kernel) (by decide +kernel)
theorem im_C_finish : Cond.instanceMethod mn_C_finish ∈ gw_tbl := gw_in 367 (by decide +kernel) (by decide +kernel)
theorem se_C_finish : Cond.selects rn_C mn_C_finish mn_C_finish ∈ gw_tbl := gw_in 368 (by decide +kernel) (by decide +kernel)
theorem co_C_finish : Cond.code mn_C_finish cb_C_finish 1 none ∈ gw_tbl := gw_in 369 (by decide +kernel) (by decide +kernel)
theorem ml_W_X_crash : Cond.methodLink rn_W 46 mn_X_crash ∈ gw_tbl := gw_in 370 (by decide +kernel) (by decide +kernel)
theorem im_X_crash : Cond.instanceMethod mn_X_crash ∈ gw_tbl := gw_in 371 (by decide +kernel) (by decide +kernel)
theorem se_X_crash : Cond.selects rn_X mn_X_crash mn_X_crash ∈ gw_tbl := gw_in 372 (by decide +kernel) (by decide +kernel)
theorem co_X_crash : Cond.code mn_X_crash cb_X_crash 3 (some .boolean) ∈ gw_tbl := gw_in 373 (by decide +kernel) (by decide +kernel)
theorem ml_X_R_lose : Cond.methodLink rn_X 127 mn_R_lose ∈ gw_tbl := gw_in 374 (by decide +kernel) (by decide +kernel)
theorem im_R_lose : Cond.instanceMethod mn_R_lose ∈ gw_tbl := gw_in 375 (by decide +kernel) (by decide +kernel)
theorem se_R_lose : Cond.selects rn_R mn_R_lose mn_R_lose ∈ gw_tbl := gw_in 376 (by decide +kernel) (by decide +kernel)
theorem co_R_lose : Cond.code mn_R_lose cb_R_lose 2 none ∈ gw_tbl := gw_in 377 (by decide +kernel) (by decide +kernel)
theorem ml_W_X_stop : Cond.methodLink rn_W 51 mn_X_stop ∈ gw_tbl := gw_in 378 (by decide +kernel) (by decide +kernel)
theorem im_X_stop : Cond.instanceMethod mn_X_stop ∈ gw_tbl := gw_in 379 (by decide +kernel) (by decide +kernel)
theorem se_X_stop : Cond.selects rn_X mn_X_stop mn_X_stop ∈ gw_tbl := gw_in 380 (by decide +kernel) (by decide +kernel)
theorem co_X_stop : Cond.code mn_X_stop cb_X_stop 2 (some .boolean) ∈ gw_tbl := gw_in 381 (by decide +kernel) (by decide +kernel)
theorem ml_W_X_phase : Cond.methodLink rn_W 55 mn_X_phase ∈ gw_tbl := gw_in 382 (by decide +kernel) (by decide +kernel)
theorem im_X_phase : Cond.instanceMethod mn_X_phase ∈ gw_tbl := gw_in 383 (by decide +kernel) (by decide +kernel)
theorem se_X_phase : Cond.selects rn_X mn_X_phase mn_X_phase ∈ gw_tbl := gw_in 384 (by decide +kernel) (by decide +kernel)
theorem co_X_phase : Cond.code mn_X_phase cb_X_phase 2 (some .int) ∈ gw_tbl := gw_in 385 (by decide +kernel) (by decide +kernel)
theorem ml_W_X_heard : Cond.methodLink rn_W 59 mn_X_heard ∈ gw_tbl := gw_in 386 (by decide +kernel) (by decide +kernel)
theorem im_X_heard : Cond.instanceMethod mn_X_heard ∈ gw_tbl := gw_in 387 (by decide +kernel) (by decide +kernel)
theorem se_X_heard : Cond.selects rn_X mn_X_heard mn_X_heard ∈ gw_tbl := gw_in 388 (by decide +kernel) (by decide +kernel)
theorem co_X_heard : Cond.code mn_X_heard cb_X_heard 2 (some .int) ∈ gw_tbl := gw_in 389 (by decide +kernel) (by decide +kernel)
theorem ml_W_X_tag : Cond.methodLink rn_W 63 mn_X_tag ∈ gw_tbl := gw_in 390 (by decide +kernel) (by decide +kernel)
theorem im_X_tag : Cond.instanceMethod mn_X_tag ∈ gw_tbl := gw_in 391 (by decide +kernel) (by decide +kernel)
theorem se_X_tag : Cond.selects rn_X mn_X_tag mn_X_tag ∈ gw_tbl := gw_in 392 (by decide +kernel) (by decide +kernel)
theorem co_X_tag : Cond.code mn_X_tag cb_X_tag 2 (some .int) ∈ gw_tbl := gw_in 393 (by decide +kernel) (by decide +kernel)
theorem ml_W_X_result : Cond.methodLink rn_W 67 mn_X_result ∈ gw_tbl := gw_in 394 (by decide +kernel) (by decide +kernel)
theorem im_X_result : Cond.instanceMethod mn_X_result ∈ gw_tbl := gw_in 395 (by decide +kernel) (by decide +kernel)
theorem se_X_result : Cond.selects rn_X mn_X_result mn_X_result ∈ gw_tbl := gw_in 396 (by decide +kernel) (by decide +kernel)
theorem co_X_result : Cond.code mn_X_result cb_X_result 2 (some .long) ∈ gw_tbl := gw_in 397 (by decide +kernel) (by decide +kernel)
theorem ml_W_X_finished : Cond.methodLink rn_W 72 mn_X_finished ∈ gw_tbl := gw_in 398 (by decide +kernel) (by decide +kernel)
theorem im_X_finished : Cond.instanceMethod mn_X_finished ∈ gw_tbl := gw_in 399 (by decide +kernel) (by decide +kernel)
theorem se_X_finished : Cond.selects rn_X mn_X_finished mn_X_finished ∈ gw_tbl := gw_in 400 (by decide +kernel) (by decide +kernel)
theorem co_X_finished : Cond.code mn_X_finished cb_X_finished 2 (some .int) ∈ gw_tbl := gw_in 401 (by decide +kernel) (by decide +kernel)
theorem ml_W_X_held : Cond.methodLink rn_W 76 mn_X_held ∈ gw_tbl := gw_in 402 (by decide +kernel) (by decide +kernel)
theorem im_X_held : Cond.instanceMethod mn_X_held ∈ gw_tbl := gw_in 403 (by decide +kernel) (by decide +kernel)
theorem se_X_held : Cond.selects rn_X mn_X_held mn_X_held ∈ gw_tbl := gw_in 404 (by decide +kernel) (by decide +kernel)
theorem co_X_held : Cond.code mn_X_held cb_X_held 2 (some .int) ∈ gw_tbl := gw_in 405 (by decide +kernel) (by decide +kernel)
theorem ml_W_X_heldTag : Cond.methodLink rn_W 80 mn_X_heldTag ∈ gw_tbl := gw_in 406 (by decide +kernel) (by decide +kernel)
theorem im_X_heldTag : Cond.instanceMethod mn_X_heldTag ∈ gw_tbl := gw_in 407 (by decide +kernel) (by decide +kernel)
theorem se_X_heldTag : Cond.selects rn_X mn_X_heldTag mn_X_heldTag ∈ gw_tbl := gw_in 408 (by decide +kernel) (by decide +kernel)
theorem co_X_heldTag : Cond.code mn_X_heldTag cb_X_heldTag 3 (some .int) ∈ gw_tbl := gw_in 409 (by decide +kernel) (by decide +kernel)
theorem ml_W_X_fragment : Cond.methodLink rn_W 85 mn_X_fragment ∈ gw_tbl := gw_in 410 (by decide +kernel) (by decide +kernel)
theorem im_X_fragment : Cond.instanceMethod mn_X_fragment ∈ gw_tbl := gw_in 411 (by decide +kernel) (by decide +kernel)
theorem se_X_fragment : Cond.selects rn_X mn_X_fragment mn_X_fragment ∈ gw_tbl := gw_in 412 (by decide +kernel) (by decide +kernel)
theorem co_X_fragment : Cond.code mn_X_fragment cb_X_fragment 5 (some .int) ∈ gw_tbl := gw_in 413 (by decide +kernel) (by decide +kernel)
theorem ml_X_S_placeOf : Cond.methodLink rn_X 153 mn_S_placeOf ∈ gw_tbl := gw_in 414 (by decide +kernel) (by decide +kernel)
theorem ml_X_K_byteAt : Cond.methodLink rn_X 160 mn_K_byteAt ∈ gw_tbl := gw_in 415 (by decide +kernel) (by decide +kernel)
theorem ml_W_X_seal : Cond.methodLink rn_W 89 mn_X_seal ∈ gw_tbl := gw_in 416 (by decide +kernel) (by decide +kernel)
theorem im_X_seal : Cond.instanceMethod mn_X_seal ∈ gw_tbl := gw_in 417 (by decide +kernel) (by decide +kernel)
theorem se_X_seal : Cond.selects rn_X mn_X_seal mn_X_seal ∈ gw_tbl := gw_in 418 (by decide +kernel) (by decide +kernel)
theorem co_X_seal : Cond.code mn_X_seal cb_X_seal 2 (some .int) ∈ gw_tbl := gw_in 419 (by decide +kernel) (by decide +kernel)
theorem ml_W_X_requests : Cond.methodLink rn_W 93 mn_X_requests ∈ gw_tbl := gw_in 420 (by decide +kernel) (by decide +kernel)
theorem im_X_requests : Cond.instanceMethod mn_X_requests ∈ gw_tbl := gw_in 421 (by decide +kernel) (by decide +kernel)
theorem se_X_requests : Cond.selects rn_X mn_X_requests mn_X_requests ∈ gw_tbl := gw_in 422 (by decide +kernel) (by decide +kernel)
theorem co_X_requests : Cond.code mn_X_requests cb_X_requests 3 (some .int) ∈ gw_tbl := gw_in 423 (by decide +kernel) (by decide +kernel)
theorem ml_W_X_replies : Cond.methodLink rn_W 97 mn_X_replies ∈ gw_tbl := gw_in 424 (by decide +kernel) (by decide +kernel)
theorem im_X_replies : Cond.instanceMethod mn_X_replies ∈ gw_tbl := gw_in 425 (by decide +kernel) (by decide +kernel)
theorem se_X_replies : Cond.selects rn_X mn_X_replies mn_X_replies ∈ gw_tbl := gw_in 426 (by decide +kernel) (by decide +kernel)
theorem co_X_replies : Cond.code mn_X_replies cb_X_replies 3 (some .int) ∈ gw_tbl := gw_in 427 (by decide +kernel) (by decide +kernel)
theorem ml_W_X_quorum : Cond.methodLink rn_W 101 mn_X_quorum ∈ gw_tbl := gw_in 428 (by decide +kernel) (by decide +kernel)
theorem im_X_quorum : Cond.instanceMethod mn_X_quorum ∈ gw_tbl := gw_in 429 (by decide +kernel) (by decide +kernel)
theorem se_X_quorum : Cond.selects rn_X mn_X_quorum mn_X_quorum ∈ gw_tbl := gw_in 430 (by decide +kernel) (by decide +kernel)
theorem co_X_quorum : Cond.code mn_X_quorum cb_X_quorum 1 (some .int) ∈ gw_tbl := gw_in 431 (by decide +kernel) (by decide +kernel)
theorem ml_W_W_cell : Cond.methodLink rn_W 9 mn_W_cell ∈ gw_tbl := gw_in 432 (by decide +kernel) (by decide +kernel)
theorem st_W_cell : Cond.static mn_W_cell ∈ gw_tbl := gw_in 433 (by decide +kernel) (by decide +kernel)
theorem co_W_cell : Cond.code mn_W_cell cb_W_cell 2 (some .int) ∈ gw_tbl := gw_in 434 (by decide +kernel) (by decide +kernel)
theorem kl_W_M : Cond.classLink rn_W 18 rn_M ∈ gw_tbl := gw_in 435 (by decide +kernel) (by decide +kernel)
theorem is_M : Cond.instantiable rn_M 27 ∈ gw_tbl := gw_in 436 (by decide +kernel) (by decide +kernel)
theorem ml_W_M_init : Cond.methodLink rn_W 20 mn_M_init ∈ gw_tbl := gw_in 437 (by decide +kernel) (by decide +kernel)
theorem im_M_init : Cond.instanceMethod mn_M_init ∈ gw_tbl := gw_in 438 (by decide +kernel) (by decide +kernel)
theorem co_M_init : Cond.code mn_M_init cb_M_init 5 none ∈ gw_tbl := gw_in 439 (by decide +kernel) (by decide +kernel)
theorem ml_M_O_init : Cond.methodLink rn_M 1 objectInit ∈ gw_tbl := gw_in 440 (by decide +kernel) (by decide +kernel)
theorem fl_M_M_n : Cond.fieldLink rn_M 81 rn_M "n" "I" ∈ gw_tbl := gw_in 441 (by decide +kernel) (by decide +kernel)
theorem fl_M_M_k : Cond.fieldLink rn_M 85 rn_M "k" "I" ∈ gw_tbl := gw_in 442 (by decide +kernel) (by decide +kernel)
theorem fl_M_M_d : Cond.fieldLink rn_M 88 rn_M "d" "I" ∈ gw_tbl := gw_in 443 (by decide +kernel) (by decide +kernel)
theorem fl_M_M_phase : Cond.fieldLink rn_M 7 rn_M "phase" "[I" ∈ gw_tbl := gw_in 444 (by decide +kernel) (by decide +kernel)
theorem fl_M_M_age : Cond.fieldLink rn_M 13 rn_M "age" "[I" ∈ gw_tbl := gw_in 445 (by decide +kernel) (by decide +kernel)
theorem fl_M_M_counted : Cond.fieldLink rn_M 16 rn_M "counted" "[I" ∈ gw_tbl := gw_in 446 (by decide +kernel) (by decide +kernel)
theorem fl_M_M_bearing : Cond.fieldLink rn_M 19 rn_M "bearing" "[I" ∈ gw_tbl := gw_in 447 (by decide +kernel) (by decide +kernel)
theorem fl_M_M_best : Cond.fieldLink rn_M 22 rn_M "best" "[I" ∈ gw_tbl := gw_in 448 (by decide +kernel) (by decide +kernel)
theorem fl_M_M_tags : Cond.fieldLink rn_M 25 rn_M "tags" "[I" ∈ gw_tbl := gw_in 449 (by decide +kernel) (by decide +kernel)
theorem fl_M_M_ends : Cond.fieldLink rn_M 28 rn_M "ends" "[I" ∈ gw_tbl := gw_in 450 (by decide +kernel) (by decide +kernel)
theorem fl_M_M_block : Cond.fieldLink rn_M 31 rn_M "block" "[J" ∈ gw_tbl := gw_in 451 (by decide +kernel) (by decide +kernel)
theorem fl_M_M_seen : Cond.fieldLink rn_M 35 rn_M "seen" "[J" ∈ gw_tbl := gw_in 452 (by decide +kernel) (by decide +kernel)
theorem fl_M_M_results : Cond.fieldLink rn_M 38 rn_M "results" "[J" ∈ gw_tbl := gw_in 453 (by decide +kernel) (by decide +kernel)
theorem fl_M_M_down : Cond.fieldLink rn_M 41 rn_M "down" "[Z" ∈ gw_tbl := gw_in 454 (by decide +kernel) (by decide +kernel)
theorem fl_M_M_seals : Cond.fieldLink rn_M 45 rn_M "seals" "[I" ∈ gw_tbl := gw_in 455 (by decide +kernel) (by decide +kernel)
theorem fl_M_M_many : Cond.fieldLink rn_M 48 rn_M "many" "[I" ∈ gw_tbl := gw_in 456 (by decide +kernel) (by decide +kernel)
theorem fl_M_M_hasTag : Cond.fieldLink rn_M 51 rn_M "hasTag" "[I" ∈ gw_tbl := gw_in 457 (by decide +kernel) (by decide +kernel)
theorem fl_M_M_hasBlock : Cond.fieldLink rn_M 54 rn_M "hasBlock" "[J" ∈ gw_tbl := gw_in 458 (by decide +kernel) (by decide +kernel)
theorem fl_M_M_letters : Cond.fieldLink rn_M 91 rn_M "letters" "I" ∈ gw_tbl := gw_in 459 (by decide +kernel) (by decide +kernel)
theorem fl_M_M_reply : Cond.fieldLink rn_M 57 rn_M "reply" "[Z" ∈ gw_tbl := gw_in 460 (by decide +kernel) (by decide +kernel)
theorem fl_M_M_full : Cond.fieldLink rn_M 60 rn_M "full" "[Z" ∈ gw_tbl := gw_in 461 (by decide +kernel) (by decide +kernel)
theorem fl_M_M_client : Cond.fieldLink rn_M 63 rn_M "client" "[I" ∈ gw_tbl := gw_in 462 (by decide +kernel) (by decide +kernel)
theorem fl_M_M_server : Cond.fieldLink rn_M 66 rn_M "server" "[I" ∈ gw_tbl := gw_in 463 (by decide +kernel) (by decide +kernel)
theorem fl_M_M_sent : Cond.fieldLink rn_M 69 rn_M "sent" "[I" ∈ gw_tbl := gw_in 464 (by decide +kernel) (by decide +kernel)
theorem fl_M_M_kind : Cond.fieldLink rn_M 72 rn_M "kind" "[I" ∈ gw_tbl := gw_in 465 (by decide +kernel) (by decide +kernel)
theorem fl_M_M_what : Cond.fieldLink rn_M 75 rn_M "what" "[I" ∈ gw_tbl := gw_in 466 (by decide +kernel) (by decide +kernel)
theorem fl_M_M_load : Cond.fieldLink rn_M 78 rn_M "load" "[J" ∈ gw_tbl := gw_in 467 (by decide +kernel) (by decide +kernel)
theorem ac_boolean : Cond.arrayClass .boolean ∈ gw_tbl := gw_in 523 (by decide +kernel) (by decide +kernel)
theorem ml_W_M_quorum : Cond.methodLink rn_W 105 mn_M_quorum ∈ gw_tbl := gw_in 524 (by decide +kernel) (by decide +kernel)
theorem im_M_quorum : Cond.instanceMethod mn_M_quorum ∈ gw_tbl := gw_in 525 (by decide +kernel) (by decide +kernel)
theorem se_M_quorum : Cond.selects rn_M mn_M_quorum mn_M_quorum ∈ gw_tbl := gw_in 526 (by decide +kernel) (by decide +kernel)
theorem co_M_quorum : Cond.code mn_M_quorum cb_M_quorum 1 (some .int) ∈ gw_tbl := gw_in 527 (by decide +kernel) (by decide +kernel)
theorem ml_W_M_requests : Cond.methodLink rn_W 96 mn_M_requests ∈ gw_tbl := gw_in 528 (by decide +kernel) (by decide +kernel)
theorem im_M_requests : Cond.instanceMethod mn_M_requests ∈ gw_tbl := gw_in 529 (by decide +kernel) (by decide +kernel)
theorem se_M_requests : Cond.selects rn_M mn_M_requests mn_M_requests ∈ gw_tbl := gw_in 530 (by decide +kernel) (by decide +kernel)
theorem co_M_requests : Cond.code mn_M_requests cb_M_requests 3 (some .int) ∈ gw_tbl := gw_in 531 (by decide +kernel) (by decide +kernel)
theorem ml_M_M_noClient : Cond.methodLink rn_M 94 mn_M_noClient ∈ gw_tbl := gw_in 532 (by decide +kernel) (by decide +kernel)
theorem im_M_noClient : Cond.instanceMethod mn_M_noClient ∈ gw_tbl := gw_in 534 (by decide +kernel) (by decide +kernel)
theorem co_M_noClient : Cond.code mn_M_noClient cb_M_noClient 2 (some .boolean) ∈ gw_tbl := gw_in 535 (by decide +kernel) (by decide +kernel)
theorem ml_M_M_noServer : Cond.methodLink rn_M 98 mn_M_noServer ∈ gw_tbl := gw_in 536 (by decide +kernel) (by decide +kernel)
theorem im_M_noServer : Cond.instanceMethod mn_M_noServer ∈ gw_tbl := gw_in 538 (by decide +kernel) (by decide +kernel)
theorem co_M_noServer : Cond.code mn_M_noServer cb_M_noServer 2 (some .boolean) ∈ gw_tbl := gw_in 539 (by decide +kernel) (by decide +kernel)
theorem ml_M_M_count : Cond.methodLink rn_M 101 mn_M_count ∈ gw_tbl := gw_in 540 (by decide +kernel) (by decide +kernel)
theorem im_M_count : Cond.instanceMethod mn_M_count ∈ gw_tbl := gw_in 542 (by decide +kernel) (by decide +kernel)
theorem co_M_count : Cond.code mn_M_count cb_M_count 6 (some .int) ∈ gw_tbl := gw_in 543 (by decide +kernel) (by decide +kernel)
theorem ml_W_M_replies : Cond.methodLink rn_W 100 mn_M_replies ∈ gw_tbl := gw_in 544 (by decide +kernel) (by decide +kernel)
theorem im_M_replies : Cond.instanceMethod mn_M_replies ∈ gw_tbl := gw_in 545 (by decide +kernel) (by decide +kernel)
theorem se_M_replies : Cond.selects rn_M mn_M_replies mn_M_replies ∈ gw_tbl := gw_in 546 (by decide +kernel) (by decide +kernel)
theorem co_M_replies : Cond.code mn_M_replies cb_M_replies 3 (some .int) ∈ gw_tbl := gw_in 547 (by decide +kernel) (by decide +kernel)
theorem ml_W_M_write : Cond.methodLink rn_W 27 mn_M_write ∈ gw_tbl := gw_in 548 (by decide +kernel) (by decide +kernel)
theorem im_M_write : Cond.instanceMethod mn_M_write ∈ gw_tbl := gw_in 549 (by decide +kernel) (by decide +kernel)
theorem se_M_write : Cond.selects rn_M mn_M_write mn_M_write ∈ gw_tbl := gw_in 550 (by decide +kernel) (by decide +kernel)
theorem co_M_write : Cond.code mn_M_write cb_M_write 5 (some .int) ∈ gw_tbl := gw_in 551 (by decide +kernel) (by decide +kernel)
theorem ml_M_M_refusal : Cond.methodLink rn_M 112 mn_M_refusal ∈ gw_tbl := gw_in 552 (by decide +kernel) (by decide +kernel)
theorem im_M_refusal : Cond.instanceMethod mn_M_refusal ∈ gw_tbl := gw_in 554 (by decide +kernel) (by decide +kernel)
theorem co_M_refusal : Cond.code mn_M_refusal cb_M_refusal 2 (some .int) ∈ gw_tbl := gw_in 555 (by decide +kernel) (by decide +kernel)
theorem ml_M_M_crowded : Cond.methodLink rn_M 109 mn_M_crowded ∈ gw_tbl := gw_in 556 (by decide +kernel) (by decide +kernel)
theorem im_M_crowded : Cond.instanceMethod mn_M_crowded ∈ gw_tbl := gw_in 558 (by decide +kernel) (by decide +kernel)
theorem co_M_crowded : Cond.code mn_M_crowded cb_M_crowded 5 (some .boolean) ∈ gw_tbl := gw_in 559 (by decide +kernel) (by decide +kernel)
theorem ml_M_M_begin : Cond.methodLink rn_M 116 mn_M_begin ∈ gw_tbl := gw_in 560 (by decide +kernel) (by decide +kernel)
theorem im_M_begin : Cond.instanceMethod mn_M_begin ∈ gw_tbl := gw_in 562 (by decide +kernel) (by decide +kernel)
theorem co_M_begin : Cond.code mn_M_begin cb_M_begin 4 none ∈ gw_tbl := gw_in 563 (by decide +kernel) (by decide +kernel)
theorem ml_M_M_send : Cond.methodLink rn_M 105 mn_M_send ∈ gw_tbl := gw_in 564 (by decide +kernel) (by decide +kernel)
theorem im_M_send : Cond.instanceMethod mn_M_send ∈ gw_tbl := gw_in 566 (by decide +kernel) (by decide +kernel)
theorem co_M_send : Cond.code mn_M_send cb_M_send 6 none ∈ gw_tbl := gw_in 567 (by decide +kernel) (by decide +kernel)
theorem ml_W_M_read : Cond.methodLink rn_W 32 mn_M_read ∈ gw_tbl := gw_in 568 (by decide +kernel) (by decide +kernel)
theorem im_M_read : Cond.instanceMethod mn_M_read ∈ gw_tbl := gw_in 569 (by decide +kernel) (by decide +kernel)
theorem se_M_read : Cond.selects rn_M mn_M_read mn_M_read ∈ gw_tbl := gw_in 570 (by decide +kernel) (by decide +kernel)
theorem co_M_read : Cond.code mn_M_read cb_M_read 3 (some .int) ∈ gw_tbl := gw_in 571 (by decide +kernel) (by decide +kernel)
theorem ml_W_M_again : Cond.methodLink rn_W 36 mn_M_again ∈ gw_tbl := gw_in 572 (by decide +kernel) (by decide +kernel)
theorem im_M_again : Cond.instanceMethod mn_M_again ∈ gw_tbl := gw_in 573 (by decide +kernel) (by decide +kernel)
theorem se_M_again : Cond.selects rn_M mn_M_again mn_M_again ∈ gw_tbl := gw_in 574 (by decide +kernel) (by decide +kernel)
theorem co_M_again : Cond.code mn_M_again cb_M_again 2 (some .int) ∈ gw_tbl := gw_in 575 (by decide +kernel) (by decide +kernel)
theorem ml_M_M_quorum : Cond.methodLink rn_M 120 mn_M_quorum ∈ gw_tbl := gw_in 576 (by decide +kernel) (by decide +kernel)
theorem ml_W_M_deliver : Cond.methodLink rn_W 41 mn_M_deliver ∈ gw_tbl := gw_in 577 (by decide +kernel) (by decide +kernel)
theorem im_M_deliver : Cond.instanceMethod mn_M_deliver ∈ gw_tbl := gw_in 578 (by decide +kernel) (by decide +kernel)
theorem se_M_deliver : Cond.selects rn_M mn_M_deliver mn_M_deliver ∈ gw_tbl := gw_in 579 (by decide +kernel) (by decide +kernel)
theorem co_M_deliver : Cond.code mn_M_deliver cb_M_deliver 11 (some .int) ∈ gw_tbl := gw_in 580 (by decide +kernel) (by decide +kernel)
theorem ml_M_M_seek : Cond.methodLink rn_M 128 mn_M_seek ∈ gw_tbl := gw_in 581 (by decide +kernel) (by decide +kernel)
theorem im_M_seek : Cond.instanceMethod mn_M_seek ∈ gw_tbl := gw_in 583 (by decide +kernel) (by decide +kernel)
theorem co_M_seek : Cond.code mn_M_seek cb_M_seek 7 (some .int) ∈ gw_tbl := gw_in 584 (by decide +kernel) (by decide +kernel)
theorem ml_M_M_lose : Cond.methodLink rn_M 132 mn_M_lose ∈ gw_tbl := gw_in 585 (by decide +kernel) (by decide +kernel)
theorem im_M_lose : Cond.instanceMethod mn_M_lose ∈ gw_tbl := gw_in 587 (by decide +kernel) (by decide +kernel)
theorem co_M_lose : Cond.code mn_M_lose cb_M_lose 3 none ∈ gw_tbl := gw_in 588 (by decide +kernel) (by decide +kernel)
theorem ml_M_M_store : Cond.methodLink rn_M 136 mn_M_store ∈ gw_tbl := gw_in 589 (by decide +kernel) (by decide +kernel)
theorem im_M_store : Cond.instanceMethod mn_M_store ∈ gw_tbl := gw_in 591 (by decide +kernel) (by decide +kernel)
theorem co_M_store : Cond.code mn_M_store cb_M_store 8 none ∈ gw_tbl := gw_in 592 (by decide +kernel) (by decide +kernel)
theorem ml_M_M_place : Cond.methodLink rn_M 124 mn_M_place ∈ gw_tbl := gw_in 593 (by decide +kernel) (by decide +kernel)
theorem im_M_place : Cond.instanceMethod mn_M_place ∈ gw_tbl := gw_in 595 (by decide +kernel) (by decide +kernel)
theorem co_M_place : Cond.code mn_M_place cb_M_place 4 (some .int) ∈ gw_tbl := gw_in 596 (by decide +kernel) (by decide +kernel)
theorem ml_W_M_hear : Cond.methodLink rn_W 45 mn_M_hear ∈ gw_tbl := gw_in 597 (by decide +kernel) (by decide +kernel)
theorem im_M_hear : Cond.instanceMethod mn_M_hear ∈ gw_tbl := gw_in 598 (by decide +kernel) (by decide +kernel)
theorem se_M_hear : Cond.selects rn_M mn_M_hear mn_M_hear ∈ gw_tbl := gw_in 599 (by decide +kernel) (by decide +kernel)
theorem co_M_hear : Cond.code mn_M_hear cb_M_hear 10 (some .int) ∈ gw_tbl := gw_in 600 (by decide +kernel) (by decide +kernel)
theorem ml_M_M_onwards : Cond.methodLink rn_M 140 mn_M_onwards ∈ gw_tbl := gw_in 601 (by decide +kernel) (by decide +kernel)
theorem im_M_onwards : Cond.instanceMethod mn_M_onwards ∈ gw_tbl := gw_in 603 (by decide +kernel) (by decide +kernel)
theorem co_M_onwards : Cond.code mn_M_onwards cb_M_onwards 3 (some .int) ∈ gw_tbl := gw_in 604 (by decide +kernel) (by decide +kernel)
theorem ml_W_M_crash : Cond.methodLink rn_W 50 mn_M_crash ∈ gw_tbl := gw_in 605 (by decide +kernel) (by decide +kernel)
theorem im_M_crash : Cond.instanceMethod mn_M_crash ∈ gw_tbl := gw_in 606 (by decide +kernel) (by decide +kernel)
theorem se_M_crash : Cond.selects rn_M mn_M_crash mn_M_crash ∈ gw_tbl := gw_in 607 (by decide +kernel) (by decide +kernel)
theorem co_M_crash : Cond.code mn_M_crash cb_M_crash 4 (some .boolean) ∈ gw_tbl := gw_in 608 (by decide +kernel) (by decide +kernel)
theorem ml_W_M_stop : Cond.methodLink rn_W 54 mn_M_stop ∈ gw_tbl := gw_in 609 (by decide +kernel) (by decide +kernel)
theorem im_M_stop : Cond.instanceMethod mn_M_stop ∈ gw_tbl := gw_in 610 (by decide +kernel) (by decide +kernel)
theorem se_M_stop : Cond.selects rn_M mn_M_stop mn_M_stop ∈ gw_tbl := gw_in 611 (by decide +kernel) (by decide +kernel)
theorem co_M_stop : Cond.code mn_M_stop cb_M_stop 2 (some .boolean) ∈ gw_tbl := gw_in 612 (by decide +kernel) (by decide +kernel)
theorem ml_W_M_phase : Cond.methodLink rn_W 58 mn_M_phase ∈ gw_tbl := gw_in 613 (by decide +kernel) (by decide +kernel)
theorem im_M_phase : Cond.instanceMethod mn_M_phase ∈ gw_tbl := gw_in 614 (by decide +kernel) (by decide +kernel)
theorem se_M_phase : Cond.selects rn_M mn_M_phase mn_M_phase ∈ gw_tbl := gw_in 615 (by decide +kernel) (by decide +kernel)
theorem co_M_phase : Cond.code mn_M_phase cb_M_phase 2 (some .int) ∈ gw_tbl := gw_in 616 (by decide +kernel) (by decide +kernel)
theorem ml_W_M_heard : Cond.methodLink rn_W 62 mn_M_heard ∈ gw_tbl := gw_in 617 (by decide +kernel) (by decide +kernel)
theorem im_M_heard : Cond.instanceMethod mn_M_heard ∈ gw_tbl := gw_in 618 (by decide +kernel) (by decide +kernel)
theorem se_M_heard : Cond.selects rn_M mn_M_heard mn_M_heard ∈ gw_tbl := gw_in 619 (by decide +kernel) (by decide +kernel)
theorem co_M_heard : Cond.code mn_M_heard cb_M_heard 2 (some .int) ∈ gw_tbl := gw_in 620 (by decide +kernel) (by decide +kernel)
theorem ml_W_M_tag : Cond.methodLink rn_W 66 mn_M_tag ∈ gw_tbl := gw_in 621 (by decide +kernel) (by decide +kernel)
theorem im_M_tag : Cond.instanceMethod mn_M_tag ∈ gw_tbl := gw_in 622 (by decide +kernel) (by decide +kernel)
theorem se_M_tag : Cond.selects rn_M mn_M_tag mn_M_tag ∈ gw_tbl := gw_in 623 (by decide +kernel) (by decide +kernel)
theorem co_M_tag : Cond.code mn_M_tag cb_M_tag 2 (some .int) ∈ gw_tbl := gw_in 624 (by decide +kernel) (by decide +kernel)
theorem ml_W_M_result : Cond.methodLink rn_W 71 mn_M_result ∈ gw_tbl := gw_in 625 (by decide +kernel) (by decide +kernel)
theorem im_M_result : Cond.instanceMethod mn_M_result ∈ gw_tbl := gw_in 626 (by decide +kernel) (by decide +kernel)
theorem se_M_result : Cond.selects rn_M mn_M_result mn_M_result ∈ gw_tbl := gw_in 627 (by decide +kernel) (by decide +kernel)
theorem co_M_result : Cond.code mn_M_result cb_M_result 2 (some .long) ∈ gw_tbl := gw_in 628 (by decide +kernel) (by decide +kernel)
theorem ml_W_M_finished : Cond.methodLink rn_W 75 mn_M_finished ∈ gw_tbl := gw_in 629 (by decide +kernel) (by decide +kernel)
theorem im_M_finished : Cond.instanceMethod mn_M_finished ∈ gw_tbl := gw_in 630 (by decide +kernel) (by decide +kernel)
theorem se_M_finished : Cond.selects rn_M mn_M_finished mn_M_finished ∈ gw_tbl := gw_in 631 (by decide +kernel) (by decide +kernel)
theorem co_M_finished : Cond.code mn_M_finished cb_M_finished 2 (some .int) ∈ gw_tbl := gw_in 632 (by decide +kernel) (by decide +kernel)
theorem ml_W_M_held : Cond.methodLink rn_W 79 mn_M_held ∈ gw_tbl := gw_in 633 (by decide +kernel) (by decide +kernel)
theorem im_M_held : Cond.instanceMethod mn_M_held ∈ gw_tbl := gw_in 634 (by decide +kernel) (by decide +kernel)
theorem se_M_held : Cond.selects rn_M mn_M_held mn_M_held ∈ gw_tbl := gw_in 635 (by decide +kernel) (by decide +kernel)
theorem co_M_held : Cond.code mn_M_held cb_M_held 2 (some .int) ∈ gw_tbl := gw_in 636 (by decide +kernel) (by decide +kernel)
theorem ml_W_M_heldTag : Cond.methodLink rn_W 84 mn_M_heldTag ∈ gw_tbl := gw_in 637 (by decide +kernel) (by decide +kernel)
theorem im_M_heldTag : Cond.instanceMethod mn_M_heldTag ∈ gw_tbl := gw_in 638 (by decide +kernel) (by decide +kernel)
theorem se_M_heldTag : Cond.selects rn_M mn_M_heldTag mn_M_heldTag ∈ gw_tbl := gw_in 639 (by decide +kernel) (by decide +kernel)
theorem co_M_heldTag : Cond.code mn_M_heldTag cb_M_heldTag 6 (some .int) ∈ gw_tbl := gw_in 640 (by decide +kernel) (by decide +kernel)
theorem ml_W_M_fragment : Cond.methodLink rn_W 88 mn_M_fragment ∈ gw_tbl := gw_in 641 (by decide +kernel) (by decide +kernel)
theorem im_M_fragment : Cond.instanceMethod mn_M_fragment ∈ gw_tbl := gw_in 642 (by decide +kernel) (by decide +kernel)
theorem se_M_fragment : Cond.selects rn_M mn_M_fragment mn_M_fragment ∈ gw_tbl := gw_in 643 (by decide +kernel) (by decide +kernel)
theorem co_M_fragment : Cond.code mn_M_fragment cb_M_fragment 10 (some .int) ∈ gw_tbl := gw_in 644 (by decide +kernel) (by decide +kernel)
theorem cl_M_143 : Cond.constantLong rn_M 143 (255 : Int64) ∈ gw_tbl := gw_in 645 (by decide +kernel) (by decide +kernel)
theorem ml_M_M_product : Cond.methodLink rn_M 145 mn_M_product ∈ gw_tbl := gw_in 646 (by decide +kernel) (by decide +kernel)
theorem im_M_product : Cond.instanceMethod mn_M_product ∈ gw_tbl := gw_in 648 (by decide +kernel) (by decide +kernel)
theorem co_M_product : Cond.code mn_M_product cb_M_product 5 (some .int) ∈ gw_tbl := gw_in 649 (by decide +kernel) (by decide +kernel)
theorem ml_W_M_seal : Cond.methodLink rn_W 92 mn_M_seal ∈ gw_tbl := gw_in 650 (by decide +kernel) (by decide +kernel)
theorem im_M_seal : Cond.instanceMethod mn_M_seal ∈ gw_tbl := gw_in 651 (by decide +kernel) (by decide +kernel)
theorem se_M_seal : Cond.selects rn_M mn_M_seal mn_M_seal ∈ gw_tbl := gw_in 652 (by decide +kernel) (by decide +kernel)
theorem co_M_seal : Cond.code mn_M_seal cb_M_seal 2 (some .int) ∈ gw_tbl := gw_in 653 (by decide +kernel) (by decide +kernel)
theorem cl_W_21 : Cond.constantLong rn_W 21 (4294967295 : Int64) ∈ gw_tbl := gw_in 654 (by decide +kernel) (by decide +kernel)
theorem wf_C : ∀ w ∈ u_ws rn_C tf_C 13, w ∈ gw_tbl := by
  intro w hw
  obtain ⟨k, hk, rfl⟩ := List.mem_map.mp hw
  have hk := List.mem_range.mp hk
  match k, hk with
  | 0, _ => exact gw_in 95 (by decide +kernel) (by decide +kernel)
  | 1, _ => exact gw_in 97 (by decide +kernel) (by decide +kernel)
  | 2, _ => exact gw_in 99 (by decide +kernel) (by decide +kernel)
  | 3, _ => exact gw_in 101 (by decide +kernel) (by decide +kernel)
  | 4, _ => exact gw_in 103 (by decide +kernel) (by decide +kernel)
  | 5, _ => exact gw_in 105 (by decide +kernel) (by decide +kernel)
  | 6, _ => exact gw_in 107 (by decide +kernel) (by decide +kernel)
  | 7, _ => exact gw_in 109 (by decide +kernel) (by decide +kernel)
  | 8, _ => exact gw_in 111 (by decide +kernel) (by decide +kernel)
  | 9, _ => exact gw_in 113 (by decide +kernel) (by decide +kernel)
  | 10, _ => exact gw_in 115 (by decide +kernel) (by decide +kernel)
  | 11, _ => exact gw_in 117 (by decide +kernel) (by decide +kernel)
  | 12, _ => exact gw_in 119 (by decide +kernel) (by decide +kernel)
  | n + 13, hk => exact absurd hk (by omega)
theorem wf_K : ∀ w ∈ u_ws rn_K tf_K 3, w ∈ gw_tbl := by
  intro w hw
  obtain ⟨k, hk, rfl⟩ := List.mem_map.mp hw
  have hk := List.mem_range.mp hk
  match k, hk with
  | 0, _ => exact gw_in 58 (by decide +kernel) (by decide +kernel)
  | 1, _ => exact gw_in 60 (by decide +kernel) (by decide +kernel)
  | 2, _ => exact gw_in 62 (by decide +kernel) (by decide +kernel)
  | n + 3, hk => exact absurd hk (by omega)
theorem wf_L : ∀ w ∈ u_ws rn_L tf_L 6, w ∈ gw_tbl := by
  intro w hw
  obtain ⟨k, hk, rfl⟩ := List.mem_map.mp hw
  have hk := List.mem_range.mp hk
  match k, hk with
  | 0, _ => exact gw_in 254 (by decide +kernel) (by decide +kernel)
  | 1, _ => exact gw_in 256 (by decide +kernel) (by decide +kernel)
  | 2, _ => exact gw_in 258 (by decide +kernel) (by decide +kernel)
  | 3, _ => exact gw_in 260 (by decide +kernel) (by decide +kernel)
  | 4, _ => exact gw_in 262 (by decide +kernel) (by decide +kernel)
  | 5, _ => exact gw_in 264 (by decide +kernel) (by decide +kernel)
  | n + 6, hk => exact absurd hk (by omega)
theorem wf_R : ∀ w ∈ u_ws rn_R tf_R 2, w ∈ gw_tbl := by
  intro w hw
  obtain ⟨k, hk, rfl⟩ := List.mem_map.mp hw
  have hk := List.mem_range.mp hk
  match k, hk with
  | 0, _ => exact gw_in 168 (by decide +kernel) (by decide +kernel)
  | 1, _ => exact gw_in 170 (by decide +kernel) (by decide +kernel)
  | n + 2, hk => exact absurd hk (by omega)
theorem wf_S : ∀ w ∈ u_ws rn_S tf_S 6, w ∈ gw_tbl := by
  intro w hw
  obtain ⟨k, hk, rfl⟩ := List.mem_map.mp hw
  have hk := List.mem_range.mp hk
  match k, hk with
  | 0, _ => exact gw_in 140 (by decide +kernel) (by decide +kernel)
  | 1, _ => exact gw_in 142 (by decide +kernel) (by decide +kernel)
  | 2, _ => exact gw_in 144 (by decide +kernel) (by decide +kernel)
  | 3, _ => exact gw_in 146 (by decide +kernel) (by decide +kernel)
  | 4, _ => exact gw_in 148 (by decide +kernel) (by decide +kernel)
  | 5, _ => exact gw_in 150 (by decide +kernel) (by decide +kernel)
  | n + 6, hk => exact absurd hk (by omega)
theorem wf_X : ∀ w ∈ u_ws rn_X tf_X 8, w ∈ gw_tbl := by
  intro w hw
  obtain ⟨k, hk, rfl⟩ := List.mem_map.mp hw
  have hk := List.mem_range.mp hk
  match k, hk with
  | 0, _ => exact gw_in 181 (by decide +kernel) (by decide +kernel)
  | 1, _ => exact gw_in 183 (by decide +kernel) (by decide +kernel)
  | 2, _ => exact gw_in 185 (by decide +kernel) (by decide +kernel)
  | 3, _ => exact gw_in 187 (by decide +kernel) (by decide +kernel)
  | 4, _ => exact gw_in 189 (by decide +kernel) (by decide +kernel)
  | 5, _ => exact gw_in 191 (by decide +kernel) (by decide +kernel)
  | 6, _ => exact gw_in 193 (by decide +kernel) (by decide +kernel)
  | 7, _ => exact gw_in 195 (by decide +kernel) (by decide +kernel)
  | n + 8, hk => exact absurd hk (by omega)
theorem wf_M : ∀ w ∈ u_ws rn_M tf_M 27, w ∈ gw_tbl := by
  intro w hw
  obtain ⟨k, hk, rfl⟩ := List.mem_map.mp hw
  have hk := List.mem_range.mp hk
  match k, hk with
  | 0, _ => exact gw_in 468 (by decide +kernel) (by decide +kernel)
  | 1, _ => exact gw_in 470 (by decide +kernel) (by decide +kernel)
  | 2, _ => exact gw_in 472 (by decide +kernel) (by decide +kernel)
  | 3, _ => exact gw_in 474 (by decide +kernel) (by decide +kernel)
  | 4, _ => exact gw_in 476 (by decide +kernel) (by decide +kernel)
  | 5, _ => exact gw_in 478 (by decide +kernel) (by decide +kernel)
  | 6, _ => exact gw_in 480 (by decide +kernel) (by decide +kernel)
  | 7, _ => exact gw_in 482 (by decide +kernel) (by decide +kernel)
  | 8, _ => exact gw_in 484 (by decide +kernel) (by decide +kernel)
  | 9, _ => exact gw_in 486 (by decide +kernel) (by decide +kernel)
  | 10, _ => exact gw_in 488 (by decide +kernel) (by decide +kernel)
  | 11, _ => exact gw_in 490 (by decide +kernel) (by decide +kernel)
  | 12, _ => exact gw_in 492 (by decide +kernel) (by decide +kernel)
  | 13, _ => exact gw_in 494 (by decide +kernel) (by decide +kernel)
  | 14, _ => exact gw_in 496 (by decide +kernel) (by decide +kernel)
  | 15, _ => exact gw_in 498 (by decide +kernel) (by decide +kernel)
  | 16, _ => exact gw_in 500 (by decide +kernel) (by decide +kernel)
  | 17, _ => exact gw_in 502 (by decide +kernel) (by decide +kernel)
  | 18, _ => exact gw_in 504 (by decide +kernel) (by decide +kernel)
  | 19, _ => exact gw_in 506 (by decide +kernel) (by decide +kernel)
  | 20, _ => exact gw_in 508 (by decide +kernel) (by decide +kernel)
  | 21, _ => exact gw_in 510 (by decide +kernel) (by decide +kernel)
  | 22, _ => exact gw_in 512 (by decide +kernel) (by decide +kernel)
  | 23, _ => exact gw_in 514 (by decide +kernel) (by decide +kernel)
  | 24, _ => exact gw_in 516 (by decide +kernel) (by decide +kernel)
  | 25, _ => exact gw_in 518 (by decide +kernel) (by decide +kernel)
  | 26, _ => exact gw_in 520 (by decide +kernel) (by decide +kernel)
  | n + 27, hk => exact absurd hk (by omega)
end
section
-- printed by wip/whole/gen/mem.py: the typed memory of program and reference, the layout of addresses, the cells, the world
abbrev fm : Type := (Nat → Nat → Nat → Int32) × (Nat → Nat → Nat → Int64) × (Nat → Nat → Nat → Bool) × (Nat → Nat → Nat → Option Nat) × (Nat → Nat → Nat → Nat) × Nat
def mI (S : fm) : Nat → Nat → Nat → Int32 := S.1
def mJ (S : fm) : Nat → Nat → Nat → Int64 := S.2.1
def mB (S : fm) : Nat → Nat → Nat → Bool := S.2.2.1
def mA (S : fm) : Nat → Nat → Nat → Option Nat := S.2.2.2.1
def mU (S : fm) : Nat → Nat → Nat → Nat := S.2.2.2.2.1
def mZ (S : fm) : Nat := S.2.2.2.2.2
def u2 {α : Type} (f : Nat → Nat → Nat → α) (k i : Nat) (r : Nat → α) : Nat → Nat → Nat → α := fun a b => if a = k ∧ b = i then r else f a b
theorem u2_s {α : Type} {f : Nat → Nat → Nat → α} {k i : Nat} {r : Nat → α} : u2 f k i r k i = r := if_pos ⟨rfl, rfl⟩
theorem u2_n {α : Type} {f : Nat → Nat → Nat → α} {k i a b : Nat} {r : Nat → α} (h : ¬ (a = k ∧ b = i)) : u2 f k i r a b = f a b := if_neg h
def rI (S : fm) (k i : Nat) (r : Nat → Int32) : fm := (u2 S.1 k i r, S.2.1, S.2.2.1, S.2.2.2.1, S.2.2.2.2.1, S.2.2.2.2.2)
def rJ (S : fm) (k i : Nat) (r : Nat → Int64) : fm := (S.1, u2 S.2.1 k i r, S.2.2.1, S.2.2.2.1, S.2.2.2.2.1, S.2.2.2.2.2)
def rB (S : fm) (k i : Nat) (r : Nat → Bool) : fm := (S.1, S.2.1, u2 S.2.2.1 k i r, S.2.2.2.1, S.2.2.2.2.1, S.2.2.2.2.2)
def rA (S : fm) (k i : Nat) (r : Nat → Option Nat) : fm := (S.1, S.2.1, S.2.2.1, u2 S.2.2.2.1 k i r, S.2.2.2.2.1, S.2.2.2.2.2)
def rU (S : fm) (k i : Nat) (r : Nat → Nat) : fm := (S.1, S.2.1, S.2.2.1, S.2.2.2.1, u2 S.2.2.2.2.1 k i r, S.2.2.2.2.2)
def rZ (S : fm) (n : Nat) : fm := (S.1, S.2.1, S.2.2.1, S.2.2.2.1, S.2.2.2.2.1, n)
def sI (S : fm) (k i j : Nat) (v : Int32) : fm := rI S k i (va_up (mI S k i) j v)
def sJ (S : fm) (k i j : Nat) (v : Int64) : fm := rJ S k i (va_up (mJ S k i) j v)
def sB (S : fm) (k i j : Nat) (v : Bool) : fm := rB S k i (va_up (mB S k i) j v)
def sA (S : fm) (k i j : Nat) (v : Option Nat) : fm := rA S k i (va_up (mA S k i) j v)
def sU (S : fm) (k i j : Nat) (v : Nat) : fm := rU S k i (va_up (mU S k i) j v)
theorem mI_rI (S : fm) (k i : Nat) (r : Nat → Int32) (a b : Nat) : mI (rI S k i r) a b = if a = k ∧ b = i then r else mI S a b := rfl
theorem mI_sI (S : fm) (k i j : Nat) (v : Int32) (a b d : Nat) : mI (sI S k i j v) a b d = if a = k ∧ b = i ∧ d = j then v else mI S a b d := by
  show (if a = k ∧ b = i then va_up (mI S k i) j v else mI S a b) d = _
  by_cases h : a = k ∧ b = i
  · obtain ⟨rfl, rfl⟩ := h
    by_cases hj : d = j <;> simp [va_up, hj]
  · rw [if_neg h, if_neg (fun q => h ⟨q.1, q.2.1⟩)]
theorem mI_rJ (S : fm) (k i : Nat) (r : Nat → Int64) : mI (rJ S k i r) = mI S := rfl
theorem mI_sJ (S : fm) (k i j : Nat) (v : Int64) : mI (sJ S k i j v) = mI S := rfl
theorem mI_rB (S : fm) (k i : Nat) (r : Nat → Bool) : mI (rB S k i r) = mI S := rfl
theorem mI_sB (S : fm) (k i j : Nat) (v : Bool) : mI (sB S k i j v) = mI S := rfl
theorem mI_rA (S : fm) (k i : Nat) (r : Nat → Option Nat) : mI (rA S k i r) = mI S := rfl
theorem mI_sA (S : fm) (k i j : Nat) (v : Option Nat) : mI (sA S k i j v) = mI S := rfl
theorem mI_rU (S : fm) (k i : Nat) (r : Nat → Nat) : mI (rU S k i r) = mI S := rfl
theorem mI_sU (S : fm) (k i j : Nat) (v : Nat) : mI (sU S k i j v) = mI S := rfl
theorem mI_rZ (S : fm) (n : Nat) : mI (rZ S n) = mI S := rfl
theorem mJ_rI (S : fm) (k i : Nat) (r : Nat → Int32) : mJ (rI S k i r) = mJ S := rfl
theorem mJ_sI (S : fm) (k i j : Nat) (v : Int32) : mJ (sI S k i j v) = mJ S := rfl
theorem mJ_rJ (S : fm) (k i : Nat) (r : Nat → Int64) (a b : Nat) : mJ (rJ S k i r) a b = if a = k ∧ b = i then r else mJ S a b := rfl
theorem mJ_sJ (S : fm) (k i j : Nat) (v : Int64) (a b d : Nat) : mJ (sJ S k i j v) a b d = if a = k ∧ b = i ∧ d = j then v else mJ S a b d := by
  show (if a = k ∧ b = i then va_up (mJ S k i) j v else mJ S a b) d = _
  by_cases h : a = k ∧ b = i
  · obtain ⟨rfl, rfl⟩ := h
    by_cases hj : d = j <;> simp [va_up, hj]
  · rw [if_neg h, if_neg (fun q => h ⟨q.1, q.2.1⟩)]
theorem mJ_rB (S : fm) (k i : Nat) (r : Nat → Bool) : mJ (rB S k i r) = mJ S := rfl
theorem mJ_sB (S : fm) (k i j : Nat) (v : Bool) : mJ (sB S k i j v) = mJ S := rfl
theorem mJ_rA (S : fm) (k i : Nat) (r : Nat → Option Nat) : mJ (rA S k i r) = mJ S := rfl
theorem mJ_sA (S : fm) (k i j : Nat) (v : Option Nat) : mJ (sA S k i j v) = mJ S := rfl
theorem mJ_rU (S : fm) (k i : Nat) (r : Nat → Nat) : mJ (rU S k i r) = mJ S := rfl
theorem mJ_sU (S : fm) (k i j : Nat) (v : Nat) : mJ (sU S k i j v) = mJ S := rfl
theorem mJ_rZ (S : fm) (n : Nat) : mJ (rZ S n) = mJ S := rfl
theorem mB_rI (S : fm) (k i : Nat) (r : Nat → Int32) : mB (rI S k i r) = mB S := rfl
theorem mB_sI (S : fm) (k i j : Nat) (v : Int32) : mB (sI S k i j v) = mB S := rfl
theorem mB_rJ (S : fm) (k i : Nat) (r : Nat → Int64) : mB (rJ S k i r) = mB S := rfl
theorem mB_sJ (S : fm) (k i j : Nat) (v : Int64) : mB (sJ S k i j v) = mB S := rfl
theorem mB_rB (S : fm) (k i : Nat) (r : Nat → Bool) (a b : Nat) : mB (rB S k i r) a b = if a = k ∧ b = i then r else mB S a b := rfl
theorem mB_sB (S : fm) (k i j : Nat) (v : Bool) (a b d : Nat) : mB (sB S k i j v) a b d = if a = k ∧ b = i ∧ d = j then v else mB S a b d := by
  show (if a = k ∧ b = i then va_up (mB S k i) j v else mB S a b) d = _
  by_cases h : a = k ∧ b = i
  · obtain ⟨rfl, rfl⟩ := h
    by_cases hj : d = j <;> simp [va_up, hj]
  · rw [if_neg h, if_neg (fun q => h ⟨q.1, q.2.1⟩)]
theorem mB_rA (S : fm) (k i : Nat) (r : Nat → Option Nat) : mB (rA S k i r) = mB S := rfl
theorem mB_sA (S : fm) (k i j : Nat) (v : Option Nat) : mB (sA S k i j v) = mB S := rfl
theorem mB_rU (S : fm) (k i : Nat) (r : Nat → Nat) : mB (rU S k i r) = mB S := rfl
theorem mB_sU (S : fm) (k i j : Nat) (v : Nat) : mB (sU S k i j v) = mB S := rfl
theorem mB_rZ (S : fm) (n : Nat) : mB (rZ S n) = mB S := rfl
theorem mA_rI (S : fm) (k i : Nat) (r : Nat → Int32) : mA (rI S k i r) = mA S := rfl
theorem mA_sI (S : fm) (k i j : Nat) (v : Int32) : mA (sI S k i j v) = mA S := rfl
theorem mA_rJ (S : fm) (k i : Nat) (r : Nat → Int64) : mA (rJ S k i r) = mA S := rfl
theorem mA_sJ (S : fm) (k i j : Nat) (v : Int64) : mA (sJ S k i j v) = mA S := rfl
theorem mA_rB (S : fm) (k i : Nat) (r : Nat → Bool) : mA (rB S k i r) = mA S := rfl
theorem mA_sB (S : fm) (k i j : Nat) (v : Bool) : mA (sB S k i j v) = mA S := rfl
theorem mA_rA (S : fm) (k i : Nat) (r : Nat → Option Nat) (a b : Nat) : mA (rA S k i r) a b = if a = k ∧ b = i then r else mA S a b := rfl
theorem mA_sA (S : fm) (k i j : Nat) (v : Option Nat) (a b d : Nat) : mA (sA S k i j v) a b d = if a = k ∧ b = i ∧ d = j then v else mA S a b d := by
  show (if a = k ∧ b = i then va_up (mA S k i) j v else mA S a b) d = _
  by_cases h : a = k ∧ b = i
  · obtain ⟨rfl, rfl⟩ := h
    by_cases hj : d = j <;> simp [va_up, hj]
  · rw [if_neg h, if_neg (fun q => h ⟨q.1, q.2.1⟩)]
theorem mA_rU (S : fm) (k i : Nat) (r : Nat → Nat) : mA (rU S k i r) = mA S := rfl
theorem mA_sU (S : fm) (k i j : Nat) (v : Nat) : mA (sU S k i j v) = mA S := rfl
theorem mA_rZ (S : fm) (n : Nat) : mA (rZ S n) = mA S := rfl
theorem mU_rI (S : fm) (k i : Nat) (r : Nat → Int32) : mU (rI S k i r) = mU S := rfl
theorem mU_sI (S : fm) (k i j : Nat) (v : Int32) : mU (sI S k i j v) = mU S := rfl
theorem mU_rJ (S : fm) (k i : Nat) (r : Nat → Int64) : mU (rJ S k i r) = mU S := rfl
theorem mU_sJ (S : fm) (k i j : Nat) (v : Int64) : mU (sJ S k i j v) = mU S := rfl
theorem mU_rB (S : fm) (k i : Nat) (r : Nat → Bool) : mU (rB S k i r) = mU S := rfl
theorem mU_sB (S : fm) (k i j : Nat) (v : Bool) : mU (sB S k i j v) = mU S := rfl
theorem mU_rA (S : fm) (k i : Nat) (r : Nat → Option Nat) : mU (rA S k i r) = mU S := rfl
theorem mU_sA (S : fm) (k i j : Nat) (v : Option Nat) : mU (sA S k i j v) = mU S := rfl
theorem mU_rU (S : fm) (k i : Nat) (r : Nat → Nat) (a b : Nat) : mU (rU S k i r) a b = if a = k ∧ b = i then r else mU S a b := rfl
theorem mU_sU (S : fm) (k i j : Nat) (v : Nat) (a b d : Nat) : mU (sU S k i j v) a b d = if a = k ∧ b = i ∧ d = j then v else mU S a b d := by
  show (if a = k ∧ b = i then va_up (mU S k i) j v else mU S a b) d = _
  by_cases h : a = k ∧ b = i
  · obtain ⟨rfl, rfl⟩ := h
    by_cases hj : d = j <;> simp [va_up, hj]
  · rw [if_neg h, if_neg (fun q => h ⟨q.1, q.2.1⟩)]
theorem mU_rZ (S : fm) (n : Nat) : mU (rZ S n) = mU S := rfl
theorem mZ_rI (S : fm) (k i : Nat) (r : Nat → Int32) : mZ (rI S k i r) = mZ S := rfl
theorem mZ_sI (S : fm) (k i j : Nat) (v : Int32) : mZ (sI S k i j v) = mZ S := rfl
theorem mZ_rJ (S : fm) (k i : Nat) (r : Nat → Int64) : mZ (rJ S k i r) = mZ S := rfl
theorem mZ_sJ (S : fm) (k i j : Nat) (v : Int64) : mZ (sJ S k i j v) = mZ S := rfl
theorem mZ_rB (S : fm) (k i : Nat) (r : Nat → Bool) : mZ (rB S k i r) = mZ S := rfl
theorem mZ_sB (S : fm) (k i j : Nat) (v : Bool) : mZ (sB S k i j v) = mZ S := rfl
theorem mZ_rA (S : fm) (k i : Nat) (r : Nat → Option Nat) : mZ (rA S k i r) = mZ S := rfl
theorem mZ_sA (S : fm) (k i j : Nat) (v : Option Nat) : mZ (sA S k i j v) = mZ S := rfl
theorem mZ_rU (S : fm) (k i : Nat) (r : Nat → Nat) : mZ (rU S k i r) = mZ S := rfl
theorem mZ_sU (S : fm) (k i j : Nat) (v : Nat) : mZ (sU S k i j v) = mZ S := rfl
theorem mZ_rZ (S : fm) (n : Nat) : mZ (rZ S n) = n := rfl
theorem rI_rI (S : fm) (k i : Nat) (f g : Nat → Int32) : rI (rI S k i f) k i g = rI S k i g := by
  have h : u2 (u2 S.1 k i f) k i g = u2 S.1 k i g := by funext a b; unfold u2; split <;> rfl
  show (u2 (u2 S.1 k i f) k i g, S.2.1, S.2.2.1, S.2.2.2.1, S.2.2.2.2.1, S.2.2.2.2.2) = _
  rw [h]; rfl
theorem sI_rI (S : fm) (k i j : Nat) (f : Nat → Int32) (v : Int32) : sI (rI S k i f) k i j v = rI S k i (va_up f j v) := by
  unfold sI; rw [rI_rI, show mI (rI S k i f) k i = f from u2_s]
theorem rJ_rJ (S : fm) (k i : Nat) (f g : Nat → Int64) : rJ (rJ S k i f) k i g = rJ S k i g := by
  have h : u2 (u2 S.2.1 k i f) k i g = u2 S.2.1 k i g := by funext a b; unfold u2; split <;> rfl
  show (S.1, u2 (u2 S.2.1 k i f) k i g, S.2.2.1, S.2.2.2.1, S.2.2.2.2.1, S.2.2.2.2.2) = _
  rw [h]; rfl
theorem sJ_rJ (S : fm) (k i j : Nat) (f : Nat → Int64) (v : Int64) : sJ (rJ S k i f) k i j v = rJ S k i (va_up f j v) := by
  unfold sJ; rw [rJ_rJ, show mJ (rJ S k i f) k i = f from u2_s]
theorem rB_rB (S : fm) (k i : Nat) (f g : Nat → Bool) : rB (rB S k i f) k i g = rB S k i g := by
  have h : u2 (u2 S.2.2.1 k i f) k i g = u2 S.2.2.1 k i g := by funext a b; unfold u2; split <;> rfl
  show (S.1, S.2.1, u2 (u2 S.2.2.1 k i f) k i g, S.2.2.2.1, S.2.2.2.2.1, S.2.2.2.2.2) = _
  rw [h]; rfl
theorem sB_rB (S : fm) (k i j : Nat) (f : Nat → Bool) (v : Bool) : sB (rB S k i f) k i j v = rB S k i (va_up f j v) := by
  unfold sB; rw [rB_rB, show mB (rB S k i f) k i = f from u2_s]
theorem rA_rA (S : fm) (k i : Nat) (f g : Nat → Option Nat) : rA (rA S k i f) k i g = rA S k i g := by
  have h : u2 (u2 S.2.2.2.1 k i f) k i g = u2 S.2.2.2.1 k i g := by funext a b; unfold u2; split <;> rfl
  show (S.1, S.2.1, S.2.2.1, u2 (u2 S.2.2.2.1 k i f) k i g, S.2.2.2.2.1, S.2.2.2.2.2) = _
  rw [h]; rfl
theorem sA_rA (S : fm) (k i j : Nat) (f : Nat → Option Nat) (v : Option Nat) : sA (rA S k i f) k i j v = rA S k i (va_up f j v) := by
  unfold sA; rw [rA_rA, show mA (rA S k i f) k i = f from u2_s]
theorem rU_rU (S : fm) (k i : Nat) (f g : Nat → Nat) : rU (rU S k i f) k i g = rU S k i g := by
  have h : u2 (u2 S.2.2.2.2.1 k i f) k i g = u2 S.2.2.2.2.1 k i g := by funext a b; unfold u2; split <;> rfl
  show (S.1, S.2.1, S.2.2.1, S.2.2.2.1, u2 (u2 S.2.2.2.2.1 k i f) k i g, S.2.2.2.2.2) = _
  rw [h]; rfl
theorem sU_rU (S : fm) (k i j : Nat) (f : Nat → Nat) (v : Nat) : sU (rU S k i f) k i j v = rU S k i (va_up f j v) := by
  unfold sU; rw [rU_rU, show mU (rU S k i f) k i = f from u2_s]
theorem rI_self (S : fm) (k i : Nat) : rI S k i (mI S k i) = S := by
  have h : u2 S.1 k i (mI S k i) = S.1 := by
    funext a b
    unfold u2
    by_cases h : a = k ∧ b = i
    · rw [if_pos h, h.1, h.2]; rfl
    · rw [if_neg h]
  show (u2 S.1 k i (mI S k i), S.2.1, S.2.2.1, S.2.2.2.1, S.2.2.2.2.1, S.2.2.2.2.2) = _
  rw [h]
theorem sI_rJ (S : fm) (k i a b j : Nat) (f : Nat → Int64) (v : Int32) : sI (rJ S k i f) a b j v = rJ (sI S a b j v) k i f := rfl
theorem sI_rB (S : fm) (k i a b j : Nat) (f : Nat → Bool) (v : Int32) : sI (rB S k i f) a b j v = rB (sI S a b j v) k i f := rfl
theorem sI_rA (S : fm) (k i a b j : Nat) (f : Nat → Option Nat) (v : Int32) : sI (rA S k i f) a b j v = rA (sI S a b j v) k i f := rfl
theorem sI_rU (S : fm) (k i a b j : Nat) (f : Nat → Nat) (v : Int32) : sI (rU S k i f) a b j v = rU (sI S a b j v) k i f := rfl
theorem rJ_self (S : fm) (k i : Nat) : rJ S k i (mJ S k i) = S := by
  have h : u2 S.2.1 k i (mJ S k i) = S.2.1 := by
    funext a b
    unfold u2
    by_cases h : a = k ∧ b = i
    · rw [if_pos h, h.1, h.2]; rfl
    · rw [if_neg h]
  show (S.1, u2 S.2.1 k i (mJ S k i), S.2.2.1, S.2.2.2.1, S.2.2.2.2.1, S.2.2.2.2.2) = _
  rw [h]
theorem sJ_rI (S : fm) (k i a b j : Nat) (f : Nat → Int32) (v : Int64) : sJ (rI S k i f) a b j v = rI (sJ S a b j v) k i f := rfl
theorem sJ_rB (S : fm) (k i a b j : Nat) (f : Nat → Bool) (v : Int64) : sJ (rB S k i f) a b j v = rB (sJ S a b j v) k i f := rfl
theorem sJ_rA (S : fm) (k i a b j : Nat) (f : Nat → Option Nat) (v : Int64) : sJ (rA S k i f) a b j v = rA (sJ S a b j v) k i f := rfl
theorem sJ_rU (S : fm) (k i a b j : Nat) (f : Nat → Nat) (v : Int64) : sJ (rU S k i f) a b j v = rU (sJ S a b j v) k i f := rfl
theorem rB_self (S : fm) (k i : Nat) : rB S k i (mB S k i) = S := by
  have h : u2 S.2.2.1 k i (mB S k i) = S.2.2.1 := by
    funext a b
    unfold u2
    by_cases h : a = k ∧ b = i
    · rw [if_pos h, h.1, h.2]; rfl
    · rw [if_neg h]
  show (S.1, S.2.1, u2 S.2.2.1 k i (mB S k i), S.2.2.2.1, S.2.2.2.2.1, S.2.2.2.2.2) = _
  rw [h]
theorem sB_rI (S : fm) (k i a b j : Nat) (f : Nat → Int32) (v : Bool) : sB (rI S k i f) a b j v = rI (sB S a b j v) k i f := rfl
theorem sB_rJ (S : fm) (k i a b j : Nat) (f : Nat → Int64) (v : Bool) : sB (rJ S k i f) a b j v = rJ (sB S a b j v) k i f := rfl
theorem sB_rA (S : fm) (k i a b j : Nat) (f : Nat → Option Nat) (v : Bool) : sB (rA S k i f) a b j v = rA (sB S a b j v) k i f := rfl
theorem sB_rU (S : fm) (k i a b j : Nat) (f : Nat → Nat) (v : Bool) : sB (rU S k i f) a b j v = rU (sB S a b j v) k i f := rfl
theorem rA_self (S : fm) (k i : Nat) : rA S k i (mA S k i) = S := by
  have h : u2 S.2.2.2.1 k i (mA S k i) = S.2.2.2.1 := by
    funext a b
    unfold u2
    by_cases h : a = k ∧ b = i
    · rw [if_pos h, h.1, h.2]; rfl
    · rw [if_neg h]
  show (S.1, S.2.1, S.2.2.1, u2 S.2.2.2.1 k i (mA S k i), S.2.2.2.2.1, S.2.2.2.2.2) = _
  rw [h]
theorem sA_rI (S : fm) (k i a b j : Nat) (f : Nat → Int32) (v : Option Nat) : sA (rI S k i f) a b j v = rI (sA S a b j v) k i f := rfl
theorem sA_rJ (S : fm) (k i a b j : Nat) (f : Nat → Int64) (v : Option Nat) : sA (rJ S k i f) a b j v = rJ (sA S a b j v) k i f := rfl
theorem sA_rB (S : fm) (k i a b j : Nat) (f : Nat → Bool) (v : Option Nat) : sA (rB S k i f) a b j v = rB (sA S a b j v) k i f := rfl
theorem sA_rU (S : fm) (k i a b j : Nat) (f : Nat → Nat) (v : Option Nat) : sA (rU S k i f) a b j v = rU (sA S a b j v) k i f := rfl
theorem rU_self (S : fm) (k i : Nat) : rU S k i (mU S k i) = S := by
  have h : u2 S.2.2.2.2.1 k i (mU S k i) = S.2.2.2.2.1 := by
    funext a b
    unfold u2
    by_cases h : a = k ∧ b = i
    · rw [if_pos h, h.1, h.2]; rfl
    · rw [if_neg h]
  show (S.1, S.2.1, S.2.2.1, S.2.2.2.1, u2 S.2.2.2.2.1 k i (mU S k i), S.2.2.2.2.2) = _
  rw [h]
theorem sU_rI (S : fm) (k i a b j : Nat) (f : Nat → Int32) (v : Nat) : sU (rI S k i f) a b j v = rI (sU S a b j v) k i f := rfl
theorem sU_rJ (S : fm) (k i a b j : Nat) (f : Nat → Int64) (v : Nat) : sU (rJ S k i f) a b j v = rJ (sU S a b j v) k i f := rfl
theorem sU_rB (S : fm) (k i a b j : Nat) (f : Nat → Bool) (v : Nat) : sU (rB S k i f) a b j v = rB (sU S a b j v) k i f := rfl
theorem sU_rA (S : fm) (k i a b j : Nat) (f : Nat → Option Nat) (v : Nat) : sU (rA S k i f) a b j v = rA (sU S a b j v) k i f := rfl
def bI (v : BitVec 8) : Int32 := nI v.toNat
def b2 (b : Bool) : Int32 := if b then 1 else 0
theorem b2_0 (b : Bool) : b2 b = 0 ↔ b = false := by cases b <;> decide
theorem b2_nar (b : Bool) : narrow .boolean (.int (b2 b)) = .int (b2 b) := by cases b <;> rfl
theorem b2_fit (b : Bool) : fits .boolean (.int (b2 b)) = true := by cases b <;> rfl
/-- the layout: the address of an object or array by its kind and number, the label at an address, the arrays' tables, the tables, N, K, D, where all begins, where the letters begin -/
abbrev fy : Type := (Nat → Nat → Nat) × (Nat → Option (Nat × Nat)) × (Nat → ClassId) × va_G × Nat × Nat × Nat × Nat × Nat
def xa (x : fy) : Nat → Nat → Nat := x.1
def xl (x : fy) : Nat → Option (Nat × Nat) := x.2.1
def xg (x : fy) : Nat → ClassId := x.2.2.1
def xd (x : fy) : va_G := x.2.2.2.1
def xN (x : fy) : Nat := x.2.2.2.2.1
def xK (x : fy) : Nat := x.2.2.2.2.2.1
def xD (x : fy) : Nat := x.2.2.2.2.2.2.1
def xs (x : fy) : Nat := x.2.2.2.2.2.2.2.1
def xb (x : fy) : Nat := x.2.2.2.2.2.2.2.2
def xM (x : fy) : Nat := (xN x - xK x) / 2
def xQ (x : fy) : Nat := xN x - xM x
def xR (x : fy) : Nat := (8 + xK x - 1) / xK x
abbrev xt (x : fy) : List (ClassId × FieldType) := [(xg x 0, .int), (xg x 1, .long), (xg x 2, .boolean), (xg x 3, .object rn_C), (xg x 4, .object rn_S), (xg x 5, .object rn_R), (xg x 6, .object rn_L)]
abbrev qa (f : Nat → Option Nat) : (Nat → Int32) ⊕ (Nat → Int64) ⊕ (Nat → UInt32) ⊕ (Nat → UInt64) ⊕ (Nat → Option Nat) := .inr (.inr (.inr (.inr f)))
abbrev ja (f : Nat → Int64) : (Nat → Int32) ⊕ (Nat → Int64) ⊕ (Nat → UInt32) ⊕ (Nat → UInt64) ⊕ (Nat → Option Nat) := .inr (.inl f)
/-- the cell of kind k, number i, out of its own row of the memory -/
def fcr (x : fy) (k i : Nat) (I : Nat → Int32) (J : Nat → Int64) (B : Nat → Bool) (A : Nat → Option Nat) (U : Nat → Nat) : va_E := match k with
  | 0 => .inr (5, [.int (nI (xQ x)), .int (nI (xM x)), .ref (xa x 1 0), .ref (xa x 3 0), .ref (xa x 4 0), .ref (xa x 5 0), .ref (xa x 6 0), .int (I 7)])
  | 1 => .inr (1, [.int (nI (xK x)), .int (nI (xR x)), .ref (xa x 2 0)])
  | 2 => .inl (xg x 0, xK x, .inl (fun j => bI (BitVec.ofNat 8 (U j))))
  | 3 => .inl (xg x 3, 5, qa (fun j => some (xa x 7 j)))
  | 4 => .inl (xg x 4, xN x, qa (fun j => some (xa x 10 j)))
  | 5 => .inl (xg x 5, 5 * xN x, qa (fun j => some (xa x 13 j)))
  | 6 => .inl (xg x 5, 5 * xN x, qa (fun j => some (xa x 13 (100 + j))))
  | 7 => .inr (0, [.int (nI i), .ref (xa x 8 i), .ref (xa x 9 i), .int (nI (U 3)), .int (b2 (B 4)), .int (I 5), .int (I 6), .int (I 7), .int (I 8), .int (I 9), .long (J 10), .long (J 11), .int (I 12)])
  | 8 => .inl (xg x 0, xK x, .inl (fun j => nI (U j)))
  | 9 => .inl (xg x 1, xK x, ja J)
  | 10 => .inr (4, [.int (nI (xD x + 1)), .ref (xa x 11 i), .ref (xa x 12 i), .int (nI (U 3)), .int (I 4), .int (b2 (B 5))])
  | 11 => .inl (xg x 0, xD x + 2, .inl I)
  | 12 => .inl (xg x 1, xD x + 2, ja J)
  | 13 => .inr (3, [.ref (xa x 14 i), .int (nI (U 1))])
  | 14 => .inl (xg x 6, 7, qa A)
  | 15 => .inr (2, [.int (I 0), .int (I 1), .int (I 2), .long (J 3), .int (I 4), .int (b2 (B 5))])
  | 16 => .inr (6, [.int (nI (xN x)), .int (nI (xK x)), .int (nI (xD x)), .ref (xa x 23 0), .ref (xa x 24 0), .ref (xa x 25 0), .ref (xa x 26 0), .ref (xa x 27 0), .ref (xa x 28 0), .ref (xa x 29 0), .ref (xa x 30 0), .ref (xa x 31 0), .ref (xa x 32 0), .ref (xa x 33 0), .ref (xa x 34 0), .ref (xa x 35 0), .ref (xa x 36 0), .ref (xa x 37 0), .int (nI (U 18)), .ref (xa x 39 0), .ref (xa x 40 0), .ref (xa x 41 0), .ref (xa x 42 0), .ref (xa x 43 0), .ref (xa x 44 0), .ref (xa x 45 0), .ref (xa x 46 0)])
  | 23 => .inl (xg x 0, 5, .inl I)
  | 24 => .inl (xg x 0, 5, .inl I)
  | 25 => .inl (xg x 0, 5, .inl I)
  | 26 => .inl (xg x 0, 5, .inl I)
  | 27 => .inl (xg x 0, 5, .inl I)
  | 28 => .inl (xg x 0, 5, .inl I)
  | 29 => .inl (xg x 0, 5, .inl I)
  | 30 => .inl (xg x 1, 5, ja J)
  | 31 => .inl (xg x 1, 5, ja J)
  | 32 => .inl (xg x 1, 5, ja J)
  | 33 => .inl (xg x 2, 7, .inl (fun j => b2 (B j)))
  | 34 => .inl (xg x 0, 7, .inl I)
  | 35 => .inl (xg x 0, 7, .inl (fun j => nI (U j)))
  | 36 => .inl (xg x 0, 35, .inl I)
  | 37 => .inl (xg x 1, 35, ja J)
  | 39 => .inl (xg x 2, 256, .inl (fun j => b2 (B j)))
  | 40 => .inl (xg x 2, 256, .inl (fun j => b2 (B j)))
  | 41 => .inl (xg x 0, 256, .inl I)
  | 42 => .inl (xg x 0, 256, .inl I)
  | 43 => .inl (xg x 0, 256, .inl I)
  | 44 => .inl (xg x 0, 256, .inl I)
  | 45 => .inl (xg x 0, 256, .inl I)
  | 46 => .inl (xg x 1, 256, ja J)
  | _ => .inl (xg x 0, 0, .inl I)
def fc (x : fy) (S : fm) (k i : Nat) : va_E := fcr x k i (mI S k i) (mJ S k i) (mB S k i) (mA S k i) (mU S k i)
def wd (x : fy) (S : fm) (a : Nat) : Option va_E := match xl x a with
  | some q => some (fc x S q.1 q.2)
  | none => if xb x ≤ a ∧ a < mZ S then some (fc x S 15 a) else none
/-- the layout is sound -/
def fO (x : fy) : Prop := (∀ a k i, xl x a = some (k, i) → a = xa x k i ∧ xs x ≤ a ∧ a < xb x ∧ k ≠ 15) ∧ xs x ≤ xb x ∧ 3 ≤ xN x ∧ xN x ≤ 7 ∧ 1 ≤ xK x ∧ xK x ≤ xN x ∧ xD x ≤ 3
/-- the heap holds the memory -/
def fP (x : fy) (S : fm) (H : Heap) : Prop := fO x ∧ xb x ≤ mZ S ∧ H.size = mZ S ∧ ∀ a e, wd x S a = some e → va_at (xd x) cls_all (a, e) H
def fat (x : fy) (S : fm) (a k i : Nat) : Prop := xl x a = some (k, i) ∨ (xl x a = none ∧ xb x ≤ a ∧ a < mZ S ∧ k = 15 ∧ i = a)
def fv (x : fy) (k i : Nat) : Prop := xl x (xa x k i) = some (k, i)
def fvL (x : fy) (S : fm) (a : Nat) : Prop := xl x a = none ∧ xb x ≤ a ∧ a < mZ S
theorem fv.at {x : fy} {k i : Nat} (h : fv x k i) (S : fm) : fat x S (xa x k i) k i := Or.inl h
theorem fvL.at {x : fy} {S : fm} {a : Nat} (h : fvL x S a) : fat x S a 15 a := Or.inr ⟨h.1, h.2.1, h.2.2, rfl, rfl⟩
theorem fat.cell {x : fy} {S : fm} {a k i : Nat} (h : fat x S a k i) : wd x S a = some (fc x S k i) := by
  unfold wd
  rcases h with h | ⟨h, h1, h2, rfl, rfl⟩
  · rw [h]
  · rw [h]
    exact if_pos ⟨h1, h2⟩
theorem fat.lo {x : fy} {S : fm} {a k i : Nat} (hO : fO x) (h : fat x S a k i) : xs x ≤ a := by
  rcases h with h | ⟨h, h1, h2, rfl, rfl⟩
  · exact (hO.1 _ _ _ h).2.1
  · exact Nat.le_trans hO.2.1 h1
/-- one label, one address -/
theorem fat.uniq {x : fy} {S : fm} {a b k i : Nat} (hO : fO x) (h : fat x S a k i) (h' : fat x S b k i) : a = b := by
  rcases h with h | ⟨h, h1, h2, h3, h4⟩ <;> rcases h' with h' | ⟨h', h1', h2', h3', h4'⟩
  · rw [(hO.1 _ _ _ h).1, ← (hO.1 _ _ _ h').1]
  · exact absurd h3' (hO.1 _ _ _ h).2.2.2
  · exact absurd h3 (hO.1 _ _ _ h').2.2.2
  · rw [← h4, ← h4']
theorem wd.at {x : fy} {S : fm} {a : Nat} {e : va_E} (h : wd x S a = some e) : ∃ k i, fat x S a k i ∧ e = fc x S k i := by
  unfold wd at h
  split at h
  next q hq => exact ⟨q.1, q.2, Or.inl hq, (Option.some.inj h).symm⟩
  next hq =>
    split at h
    next h1 => exact ⟨15, a, Or.inr ⟨hq, h1.1, h1.2, rfl, rfl⟩, (Option.some.inj h).symm⟩
    next => cases h
theorem fP.one {x : fy} {S : fm} {H : Heap} {a k i : Nat} (hP : fP x S H) (h : fat x S a k i) : va_P (xd x) cls_all [(a, fc x S k i)] H := by
  intro n q hn
  have hz : n < 1 := (List.getElem?_eq_some_iff.mp hn).1
  rw [show n = 0 by omega] at hn
  cases hn
  exact hP.2.2.2 _ _ h.cell
theorem fP.set {x : fy} {S S' : fm} {H H1 : Heap} {a k i : Nat} (hP : fP x S H) (h : fat x S a k i) (h3 : ∀ b d, ¬ (b = k ∧ d = i) → fc x S' b d = fc x S b d) (hz : mZ S' = mZ S) (hn : va_at (xd x) cls_all (a, fc x S' k i) H1) (z : H1.size = H.size) (oq : ∀ q : Nat, q ≠ a → H1[q]? = H[q]?) : fP x S' H1 := by
  refine ⟨hP.1, by rw [hz]; exact hP.2.1, by rw [z, hz]; exact hP.2.2.1, fun q e he => ?_⟩
  obtain ⟨k', i', hq, rfl⟩ := wd.at he
  have hq' : fat x S q k' i' := by
    rcases hq with hq | ⟨h1, h2, h4, h5⟩
    · exact Or.inl hq
    · exact Or.inr ⟨h1, h2, by rw [← hz]; exact h4, h5⟩
  by_cases hki : k' = k ∧ i' = i
  · obtain ⟨rfl, rfl⟩ := hki
    rw [hq'.uniq hP.1 h]
    exact hn
  · rw [h3 _ _ hki]
    by_cases hqa : q = a
    · subst hqa
      exfalso
      rcases h with h | ⟨g, g1, g2, g3, g4⟩ <;> rcases hq' with h' | ⟨g', g1', g2', g3', g4'⟩
      · rw [h] at h'
        exact hki ⟨(Prod.mk.inj (Option.some.inj h')).1.symm, (Prod.mk.inj (Option.some.inj h')).2.symm⟩
      · rw [h] at g'
        cases g'
      · rw [g] at h'
        cases h'
      · exact hki ⟨g3'.trans g3.symm, g4'.trans g4.symm⟩
    · exact (hP.2.2.2 _ _ hq'.cell).kept (oq q hqa)
theorem fc_sI {x : fy} {S : fm} {k i j : Nat} {v : Int32} : ∀ b d, ¬ (b = k ∧ d = i) → fc x (sI S k i j v) b d = fc x S b d := by
  intro b d h
  show fcr x b d (mI (sI S k i j v) b d) (mJ (sI S k i j v) b d) (mB (sI S k i j v) b d) (mA (sI S k i j v) b d) (mU (sI S k i j v) b d) = _
  rw [show mI (sI S k i j v) b d = mI S b d from u2_n h]
  rfl
theorem mI_row {S : fm} {k i j : Nat} {v : Int32} : mI (sI S k i j v) k i = va_up (mI S k i) j v := u2_s
theorem fc_sJ {x : fy} {S : fm} {k i j : Nat} {v : Int64} : ∀ b d, ¬ (b = k ∧ d = i) → fc x (sJ S k i j v) b d = fc x S b d := by
  intro b d h
  show fcr x b d (mI (sJ S k i j v) b d) (mJ (sJ S k i j v) b d) (mB (sJ S k i j v) b d) (mA (sJ S k i j v) b d) (mU (sJ S k i j v) b d) = _
  rw [show mJ (sJ S k i j v) b d = mJ S b d from u2_n h]
  rfl
theorem mJ_row {S : fm} {k i j : Nat} {v : Int64} : mJ (sJ S k i j v) k i = va_up (mJ S k i) j v := u2_s
theorem fc_sB {x : fy} {S : fm} {k i j : Nat} {v : Bool} : ∀ b d, ¬ (b = k ∧ d = i) → fc x (sB S k i j v) b d = fc x S b d := by
  intro b d h
  show fcr x b d (mI (sB S k i j v) b d) (mJ (sB S k i j v) b d) (mB (sB S k i j v) b d) (mA (sB S k i j v) b d) (mU (sB S k i j v) b d) = _
  rw [show mB (sB S k i j v) b d = mB S b d from u2_n h]
  rfl
theorem mB_row {S : fm} {k i j : Nat} {v : Bool} : mB (sB S k i j v) k i = va_up (mB S k i) j v := u2_s
theorem fc_sA {x : fy} {S : fm} {k i j : Nat} {v : Option Nat} : ∀ b d, ¬ (b = k ∧ d = i) → fc x (sA S k i j v) b d = fc x S b d := by
  intro b d h
  show fcr x b d (mI (sA S k i j v) b d) (mJ (sA S k i j v) b d) (mB (sA S k i j v) b d) (mA (sA S k i j v) b d) (mU (sA S k i j v) b d) = _
  rw [show mA (sA S k i j v) b d = mA S b d from u2_n h]
  rfl
theorem mA_row {S : fm} {k i j : Nat} {v : Option Nat} : mA (sA S k i j v) k i = va_up (mA S k i) j v := u2_s
theorem fc_sU {x : fy} {S : fm} {k i j : Nat} {v : Nat} : ∀ b d, ¬ (b = k ∧ d = i) → fc x (sU S k i j v) b d = fc x S b d := by
  intro b d h
  show fcr x b d (mI (sU S k i j v) b d) (mJ (sU S k i j v) b d) (mB (sU S k i j v) b d) (mA (sU S k i j v) b d) (mU (sU S k i j v) b d) = _
  rw [show mU (sU S k i j v) b d = mU S b d from u2_n h]
  rfl
theorem mU_row {S : fm} {k i j : Nat} {v : Nat} : mU (sU S k i j v) k i = va_up (mU S k i) j v := u2_s
theorem f_len {x : fy} {k i : Nat} {I : Nat → Int32} {J : Nat → Int64} {B : Nat → Bool} {A : Nat → Option Nat} {U : Nat → Nat} {cA : ClassId} {n : Nat} {d : (Nat → Int32) ⊕ (Nat → Int64) ⊕ (Nat → UInt32) ⊕ (Nat → UInt64) ⊕ (Nat → Option Nat)} (hO : fO x) (h : fcr x k i I J B A U = .inl (cA, n, d)) : n < 2 ^ 31 := by
  obtain ⟨-, -, h1, h2, h3, h4, h5⟩ := hO
  unfold fcr at h
  split at h <;> first | (cases h; done) | (cases h; omega)
end
section
-- the kit's rows, said of the typed memory
abbrev fS (x : fy) (H0 H : Heap) (locs : List Loc) : Prop := va_S (fun q => xs x ≤ q) H0 H locs
def fX (own : String) (cc : ByteArray) (nL : Nat) (p : Program) (c : Code) (s : State) (m : MethodId) (args : Array Value) (x : fy) : Prop := CallFix p m c cc nL s args gw_tbl own ∧ va_K (xd x) cls_all (xt x) s
abbrev fPc (x : fy) (S : fm) (av : List Value) : Array Value → State → Prop := va_Pc av (fun U => fP x S U.heap ∧ va_K (xd x) cls_all (xt x) U)
abbrev fQi (x : fy) (S' : fm) (r : Int32) : Array Value → State → Outcome → State → Prop := va_Qi (fun (v : Int32) (_ : Unit) => v = r) (fun _ t => fP x S' t.heap) (fun q => xs x ≤ q)
abbrev fQl (x : fy) (S' : fm) (r : Int64) : Array Value → State → Outcome → State → Prop := va_Ql (fun (v : Int64) (_ : Unit) => v = r) (fun _ t => fP x S' t.heap) (fun q => xs x ≤ q)
abbrev fQv (x : fy) (S' : fm) : Array Value → State → Outcome → State → Prop := va_Qv (fun (_ : Unit) => True) (fun _ t => fP x S' t.heap) (fun q => xs x ≤ q)
abbrev fQq (x : fy) (S' : fm) (r : Option Nat) : Array Value → State → Outcome → State → Prop := va_Qq (fun (v : Option Nat) (_ : Unit) => v = r) (fun _ t => fP x S' t.heap) (fun q => xs x ≤ q)
section FR
variable {p : Program} {l : Launch} {e : Env} {R : Room} {s : State} {m : MethodId} {args : Array Value} {below : List Frame} {meth : Method} {c : Code} {H : Heap} {locs : List Loc} {cells slots : Nat} {Q : State → Prop}
variable {cc : ByteArray} {pc : Nat} {ls : Array Slot} {rest : List Value} {own : String} {nL : Nat} {x : fy} {S : fm} {a k i : Nat} {H0 : Heap}
/-- a contract begins: one row for all that every contract needs -/
theorem f_met {y : MethodName} {bytes : ByteArray} {maxL : Nat} {ret : Option FieldType} {rm : Room} {av : List Value} {Qc : Array Value → State → Outcome → State → Prop} {mc ms : Nat} {free : Addr → Prop} (hy : plainName y.cls = true) (hlen : (lg_sl av).length ≤ maxL)
    (body : ∀ (p : Program) (e : Env) (s : State) (m : MethodId) (below : List Frame) (meth : Method) (c : Code), fX y.cls bytes maxL p c s m av.toArray x → meth.sig.returnType = ret → meth.locks = false → meth.name = y.name → fP x S s.heap → fS x s.heap s.heap [] → ∀ ls : Array Slot, lv_has ls maxL (lv_args 0 av) →
      W p l e rm s m av.toArray below meth c s.heap [] 0 0 (MQ below Qc av.toArray s mc ms free) (F0 m 0 ls [])) : Met l y (gw_ws y bytes maxL ret) rm (fPc x S av) Qc mc ms free := by
  refine Met.ofW (cc := bytes) (maxL := maxL) (ret := ret) hy rfl ?_
  intro p e s m args below meth c s₁ B hml hv
  obtain ⟨rfl, hP, hK⟩ := hv
  rw [lg_entry_eq]
  exact body p e s m below meth c ⟨⟨B.exec, B.bytes, hml, findClass_of_methodNamed B.named, fun w h => atoms_spec (ws := gw_ws y bytes maxL ret) B.pre w (List.mem_cons_of_mem _ h)⟩, hK⟩ B.returns B.notSynchronized (name_of_methodNamed B.named B.method).1 hP va_S.rf _ (lv_entry av hlen)
theorem f_get (cx : fX own cc nL p c s m args x) (hP : fP x S H) (ha : fat x S a k i) {C ref : String} {T : u_T} {N ci index : Nat} {fs : List Value} (hf : fc x S k i = .inr (ci, fs)) (hc : cls_all[ci]? = some (C, T, N)) (hin : ∀ w ∈ u_ws C T N, w ∈ gw_tbl) (q : Nat) (hq : q < N) (hlink : Cond.fieldLink own index ref (T q).2.1 (T q).2.2.1 ∈ gw_tbl) (hsame : ∀ z, s.fieldFound? (T q).1 (T q).2.1 (T q).2.2.1 = some z → s.fieldFound? ref (T q).2.1 (T q).2.2.1 = some z) {v : Value} (hv : fs[q]? = some v) (hdg : decode cc pc = .ok (.getfield index, 3))
    (kk : W p l e R s m args below meth c H locs cells slots Q (F0 m (pc + 3) ls (v :: rest))) : W p l e R s m args below meth c H locs cells slots Q (F0 m pc ls (.ref a :: rest)) := by
  have h1 := hP.one ha
  rw [hf] at h1
  exact va_get cx.1.1 cx.1.2.1 cx.1.2.2.2.2 hin cx.1.2.2.2.1 cx.2 h1 0 rfl hc q hq (cx.1.2.2.2.2 _ hlink) hsame hv hdg kk
theorem f_put (cx : fX own cc nL p c s m args x) (hP : fP x S H) (hS0 : fS x H0 H locs) (ha : fat x S a k i) {C ref : String} {T : u_T} {N ci index : Nat} {fs : List Value} (hf : fc x S k i = .inr (ci, fs)) (hc : cls_all[ci]? = some (C, T, N)) (hin : ∀ w ∈ u_ws C T N, w ∈ gw_tbl) (ty0 : Nat → FieldType) (hty : ∀ k, k < N → parseFieldDescriptor (T k).2.2.1 = some (ty0 k)) (hnm : ∀ a, a < N → ∀ b, b < N → a ≠ b → (T a).2.1 ≠ (T b).2.1) (q : Nat) (hq : q < N) (hlink : Cond.fieldLink own index ref (T q).2.1 (T q).2.2.1 ∈ gw_tbl) (hsame : ∀ z, s.fieldFound? (T q).1 (T q).2.1 (T q).2.2.1 = some z → s.fieldFound? ref (T q).2.1 (T q).2.2.1 = some z) (hfin : (T q).2.2.2 = false) {ty : FieldType} {v : Value} (hd : parseFieldDescriptor (T q).2.2.1 = some ty) (hn : narrow ty v = v) (hfit : fits ty v = true) (hl : q < fs.length)
    {S' : fm} (h2 : fc x S' k i = .inr (ci, fs.set q v)) (h3 : ∀ b d, ¬ (b = k ∧ d = i) → fc x S' b d = fc x S b d) (hz : mZ S' = mZ S) (hdg : decode cc pc = .ok (.putfield index, 3))
    (kk : ∀ (H1 : Heap) (locs1 : List Loc), fP x S' H1 → fS x H0 H1 locs1 → W p l e R s m args below meth c H1 locs1 cells slots Q (F0 m (pc + 3) ls rest)) : W p l e R s m args below meth c H locs cells slots Q (F0 m pc ls (v :: .ref a :: rest)) := by
  obtain ⟨⟨hexec, hb, -, hown, hts⟩, hK⟩ := cx
  have hap := va_apart (own := own) hts hin ty0 hty hnm hK hc
  have h1 := hP.2.2.2 _ _ ha.cell
  rw [hf] at h1
  obtain ⟨r, h1, cell, q1, q2, q3, q4⟩ := h1
  have hr : r = (C, T, N) := Option.some.inj (h1.symm.trans hc)
  subst hr
  obtain ⟨hS, hfc, kC, hkC, hkind⟩ := hK.1 ci _ hc
  obtain ⟨cf, kf, fi, f, hi, hsl⟩ := hS q hq
  have hlay := hts _ (hin _ (u_in_lay hq))
  unfold u_lay at hlay
  rw [if_neg (by rw [hfin]; decide)] at hlay
  have hst := (u_facts hfc hkC (u_lays hts hin hq) hi).1
  have h6 := u_store hfc hkC hkind hlay hi hd hn hfit
  refine W.putK hexec hb (f := f) ⟨hown, hts _ hlink, ⟨_, _, _, hsame _ hi⟩, hst⟩ (by rw [q2]; exact h6) q1 q3 (by rw [hsl]; exact k2_hasslot (q4 q hq)) rfl rfl hdg fun H' e1 e2 e3 => ?_
  rw [hsl] at e1 ⊢
  refine kk H' _ (hP.set ha h3 hz ?_ e2 e3) (hS0.put e2 e3 (ha.lo hP.1))
  rw [h2]
  exact ⟨_, hc, t_OB.to (V := updV (vp_V fs) q v) ⟨_, e1, q2, q3, t_set q4 hap hq v⟩ (fun j _ => vp_updV_set hl v j)⟩
theorem f_putF (cx : fX own cc nL p c s m args x) (hin2 : meth.name = "<init>") (hP : fP x S H) (hS0 : fS x H0 H locs) (ha : fat x S a k i) {C ref : String} {T : u_T} {N ci index : Nat} {fs : List Value} (hf : fc x S k i = .inr (ci, fs)) (hc : cls_all[ci]? = some (C, T, N)) (hin : ∀ w ∈ u_ws C T N, w ∈ gw_tbl) (ty0 : Nat → FieldType) (hty : ∀ k, k < N → parseFieldDescriptor (T k).2.2.1 = some (ty0 k)) (hnm : ∀ a, a < N → ∀ b, b < N → a ≠ b → (T a).2.1 ≠ (T b).2.1) (q : Nat) (hq : q < N) (hlink : Cond.fieldLink own index ref (T q).2.1 (T q).2.2.1 ∈ gw_tbl) (hsame : ∀ z, s.fieldFound? (T q).1 (T q).2.1 (T q).2.2.1 = some z → s.fieldFound? ref (T q).2.1 (T q).2.2.1 = some z) (hfin : (T q).2.2.2 = true) (hdecl : (T q).1 = own) {ty : FieldType} {v : Value} (hd : parseFieldDescriptor (T q).2.2.1 = some ty) (hn : narrow ty v = v) (hfit : fits ty v = true) (hl : q < fs.length)
    {S' : fm} (h2 : fc x S' k i = .inr (ci, fs.set q v)) (h3 : ∀ b d, ¬ (b = k ∧ d = i) → fc x S' b d = fc x S b d) (hz : mZ S' = mZ S) (hdg : decode cc pc = .ok (.putfield index, 3))
    (kk : ∀ (H1 : Heap) (locs1 : List Loc), fP x S' H1 → fS x H0 H1 locs1 → W p l e R s m args below meth c H1 locs1 cells slots Q (F0 m (pc + 3) ls rest)) : W p l e R s m args below meth c H locs cells slots Q (F0 m pc ls (v :: .ref a :: rest)) := by
  obtain ⟨⟨hexec, hb, -, hown, hts⟩, hK⟩ := cx
  have hap := va_apart (own := own) hts hin ty0 hty hnm hK hc
  have h1 := hP.2.2.2 _ _ ha.cell
  rw [hf] at h1
  obtain ⟨r, h1, cell, q1, q2, q3, q4⟩ := h1
  have hr : r = (C, T, N) := Option.some.inj (h1.symm.trans hc)
  subst hr
  obtain ⟨hS, hfc, kC, hkC, hkind⟩ := hK.1 ci _ hc
  obtain ⟨cf, kf, fi, f, hi, hsl⟩ := hS q hq
  have hlay := hts _ (hin _ (u_in_lay hq))
  unfold u_lay at hlay
  rw [if_pos hfin] at hlay
  have hst := (u_facts hfc hkC (u_lays hts hin hq) hi).1
  have hcf : m.cls = cf := by
    obtain ⟨_, _, c', _, _, _, -, -, hf', -, -, -, hown2, -⟩ := Cond.laysFinal_spec hlay
    have e1 : c' = cf := by have := hi.symm.trans hf'; simp at this; exact this.1.symm
    rw [hdecl] at hown2
    rw [← e1]; exact Option.some.inj (hown.symm.trans hown2)
  have h6 := u_fits hfc hkC hkind (Or.inr hlay) hi hd hn hfit
  refine W.putFinK hexec hb hown (hts _ hlink) (hsame _ hi) hst hcf hin2 (by rw [q2]; exact h6) q1 q3 (by rw [hsl]; exact k2_hasslot (q4 q hq)) rfl rfl hdg fun H' e1 e2 e3 => ?_
  rw [hsl] at e1 ⊢
  refine kk H' _ (hP.set ha h3 hz ?_ e2 e3) (hS0.put e2 e3 (ha.lo hP.1))
  rw [h2]
  exact ⟨_, hc, t_OB.to (V := updV (vp_V fs) q v) ⟨_, e1, q2, q3, t_set q4 hap hq v⟩ (fun j _ => vp_updV_set hl v j)⟩
theorem f_clamp {j n : Nat} (hj : j < n) (hn : n < 2 ^ 31) : vp_in (nI j) n ∧ (nI j).toNatClampNeg = j := ⟨vp_in_nI hj hn, nI_clamp (by omega)⟩
theorem f_iald (cx : fX own cc nL p c s m args x) (hP : fP x S H) (ha : fat x S a k i) {n : Nat} {f : Nat → Int32} (hf : fc x S k i = .inl (xg x 0, n, .inl f)) {z : Int32} {j : Nat} (hz : z = nI j) (hj : j < n) (hdg : decode cc pc = .ok (.iaload, 1))
    (kk : W p l e R s m args below meth c H locs cells slots Q (F0 m (pc + 1) ls (.int (f j) :: rest))) : W p l e R s m args below meth c H locs cells slots Q (F0 m pc ls (.int z :: .ref a :: rest)) := by
  subst hz
  have h1 := hP.one ha
  rw [hf] at h1
  have hc := f_clamp hj (f_len hP.1 hf)
  exact va_iald cx.1.1 cx.1.2.1 cx.2 h1 0 0 rfl rfl hc.1 hdg (by rw [hc.2]; exact kk)
theorem f_lald (cx : fX own cc nL p c s m args x) (hP : fP x S H) (ha : fat x S a k i) {n : Nat} {f : Nat → Int64} (hf : fc x S k i = .inl (xg x 1, n, ja f)) {z : Int32} {j : Nat} (hz : z = nI j) (hj : j < n) (hdg : decode cc pc = .ok (.laload, 1))
    (kk : W p l e R s m args below meth c H locs cells slots Q (F0 m (pc + 1) ls (.long (f j) :: rest))) : W p l e R s m args below meth c H locs cells slots Q (F0 m pc ls (.int z :: .ref a :: rest)) := by
  subst hz
  have h1 := hP.one ha
  rw [hf] at h1
  have hc := f_clamp hj (f_len hP.1 hf)
  exact va_lald cx.1.1 cx.1.2.1 cx.2 h1 0 1 rfl rfl hc.1 hdg (by rw [hc.2]; exact kk)
theorem f_zald (cx : fX own cc nL p c s m args x) (hP : fP x S H) (ha : fat x S a k i) {n : Nat} {f : Nat → Int32} (hf : fc x S k i = .inl (xg x 2, n, .inl f)) {z : Int32} {j : Nat} (hz : z = nI j) (hj : j < n) (hdg : decode cc pc = .ok (.baload, 1))
    (kk : W p l e R s m args below meth c H locs cells slots Q (F0 m (pc + 1) ls (.int (f j) :: rest))) : W p l e R s m args below meth c H locs cells slots Q (F0 m pc ls (.int z :: .ref a :: rest)) := by
  subst hz
  have h1 := hP.one ha
  rw [hf] at h1
  have hc := f_clamp hj (f_len hP.1 hf)
  exact va_zald cx.1.1 cx.1.2.1 cx.2 h1 0 2 rfl rfl hc.1 hdg (by rw [hc.2]; exact kk)
theorem f_aald (t0 : Nat) (cx : fX own cc nL p c s m args x) (hP : fP x S H) (ha : fat x S a k i) {C : String} {n : Nat} {f : Nat → Option Nat} (hf : fc x S k i = .inl (xg x t0, n, qa f)) (ht : (xt x)[t0]? = some (xg x t0, .object C)) {z : Int32} {j : Nat} (hz : z = nI j) (hj : j < n) (hdg : decode cc pc = .ok (.aaload, 1))
    (kk : W p l e R s m args below meth c H locs cells slots Q (F0 m (pc + 1) ls (va_rf (f j) :: rest))) : W p l e R s m args below meth c H locs cells slots Q (F0 m pc ls (.int z :: .ref a :: rest)) := by
  subst hz
  have h1 := hP.one ha
  rw [hf] at h1
  have hc := f_clamp hj (f_len hP.1 hf)
  exact va_aldq cx.1.1 cx.1.2.1 cx.2 h1 0 t0 rfl ht hc.1 hdg (by rw [hc.2]; exact kk)
/-- a place of an array of references that holds one -/
theorem f_aalds (t0 : Nat) (cx : fX own cc nL p c s m args x) (hP : fP x S H) (ha : fat x S a k i) {C : String} {n : Nat} {f : Nat → Option Nat} (hf : fc x S k i = .inl (xg x t0, n, qa f)) (ht : (xt x)[t0]? = some (xg x t0, .object C)) {z : Int32} {j : Nat} (hz : z = nI j) (hj : j < n) {b : Nat} (hb : f j = some b) (hdg : decode cc pc = .ok (.aaload, 1))
    (kk : W p l e R s m args below meth c H locs cells slots Q (F0 m (pc + 1) ls (.ref b :: rest))) : W p l e R s m args below meth c H locs cells slots Q (F0 m pc ls (.int z :: .ref a :: rest)) :=
  f_aald t0 cx hP ha hf ht hz hj hdg (by rw [hb]; exact kk)
theorem f_alen (t0 : Nat) (cx : fX own cc nL p c s m args x) (hP : fP x S H) (ha : fat x S a k i) {ty : FieldType} {n : Nat} {d : (Nat → Int32) ⊕ (Nat → Int64) ⊕ (Nat → UInt32) ⊕ (Nat → UInt64) ⊕ (Nat → Option Nat)} (hf : fc x S k i = .inl (xg x t0, n, d)) (ht : (xt x)[t0]? = some (xg x t0, ty)) (hdg : decode cc pc = .ok (.arraylength, 1))
    (kk : W p l e R s m args below meth c H locs cells slots Q (F0 m (pc + 1) ls (.int (nI n) :: rest))) : W p l e R s m args below meth c H locs cells slots Q (F0 m pc ls (.ref a :: rest)) := by
  have h1 := hP.one ha
  rw [hf] at h1
  exact va_alen cx.1.1 cx.1.2.1 cx.2 h1 0 t0 rfl ht rfl hdg kk
theorem f_iast (cx : fX own cc nL p c s m args x) (hP : fP x S H) (hS0 : fS x H0 H locs) (ha : fat x S a k i) {n : Nat} (hf : ∀ I, fcr x k i I (mJ S k i) (mB S k i) (mA S k i) (mU S k i) = .inl (xg x 0, n, .inl I)) {z v : Int32} {j : Nat} (hz : z = nI j) (hj : j < n) (hdg : decode cc pc = .ok (.iastore, 1))
    (kk : ∀ (H1 : Heap) (locs1 : List Loc), fP x (sI S k i j v) H1 → fS x H0 H1 locs1 → W p l e R s m args below meth c H1 locs1 cells slots Q (F0 m (pc + 1) ls rest)) : W p l e R s m args below meth c H locs cells slots Q (F0 m pc ls (.int v :: .int z :: .ref a :: rest)) := by
  subst hz
  have h1 := hP.2.2.2 _ _ ha.cell
  rw [show fc x S k i = _ from hf _] at h1
  have hc := f_clamp hj (f_len hP.1 (hf (mI S k i)))
  refine W.iast cx.1.1 cx.1.2.1 h1 ((cx.2.2 0 _ rfl).1 n (fun j => .int (mI S k i j))) (fun q => by cases q) (by show ¬ (nI j < 0 ∨ (arrV _ _ _).slots.size ≤ _); rw [arrV_size]; exact hc.1) rfl rfl hdg fun H1 e z oq => ?_
  refine kk H1 _ (hP.set ha fc_sI rfl ?_ z oq) (hS0.put z oq (ha.lo hP.1))
  rw [show fc x (sI S k i j v) k i = .inl (xg x 0, n, .inl (va_up (mI S k i) j v)) by show fcr x k i (mI (sI S k i j v) k i) _ _ _ _ = _; rw [mI_row]; exact hf _]
  show H1[a]? = some (vp_cell _ _)
  rw [e, vp_cell_i, vp_cell_i, arrV_store, hc.2]
  congr 2
  funext q
  by_cases hq : q = j <;> simp [updV, va_up, hq]
theorem f_iastU (cx : fX own cc nL p c s m args x) (hP : fP x S H) (hS0 : fS x H0 H locs) (ha : fat x S a k i) {n : Nat} (hf : ∀ U, fcr x k i (mI S k i) (mJ S k i) (mB S k i) (mA S k i) U = .inl (xg x 0, n, .inl (fun j => nI (U j)))) {z w : Int32} {j v : Nat} (hw : w = nI v) (hz : z = nI j) (hj : j < n) (hdg : decode cc pc = .ok (.iastore, 1))
    (kk : ∀ (H1 : Heap) (locs1 : List Loc), fP x (sU S k i j v) H1 → fS x H0 H1 locs1 → W p l e R s m args below meth c H1 locs1 cells slots Q (F0 m (pc + 1) ls rest)) : W p l e R s m args below meth c H locs cells slots Q (F0 m pc ls (.int w :: .int z :: .ref a :: rest)) := by
  subst hz; subst hw
  have h1 := hP.2.2.2 _ _ ha.cell
  rw [show fc x S k i = _ from hf _] at h1
  have hc := f_clamp hj (f_len hP.1 (hf (mU S k i)))
  refine W.iast cx.1.1 cx.1.2.1 h1 ((cx.2.2 0 _ rfl).1 n (fun j => .int (nI (mU S k i j)))) (fun q => by cases q) (by show ¬ (nI j < 0 ∨ (arrV _ _ _).slots.size ≤ _); rw [arrV_size]; exact hc.1) rfl rfl hdg fun H1 e z oq => ?_
  refine kk H1 _ (hP.set ha fc_sU rfl ?_ z oq) (hS0.put z oq (ha.lo hP.1))
  rw [show fc x (sU S k i j v) k i = .inl (xg x 0, n, .inl (fun q => nI (va_up (mU S k i) j v q))) by show fcr x k i _ _ _ _ (mU (sU S k i j v) k i) = _; rw [mU_row]; exact hf _]
  show H1[a]? = some (vp_cell _ _)
  rw [e, vp_cell_i, vp_cell_i, arrV_store, hc.2]
  congr 2
  funext q
  by_cases hq : q = j <;> simp [updV, va_up, hq]
theorem f_iastY (cx : fX own cc nL p c s m args x) (hP : fP x S H) (hS0 : fS x H0 H locs) (ha : fat x S a k i) {n : Nat} (hf : ∀ U, fcr x k i (mI S k i) (mJ S k i) (mB S k i) (mA S k i) U = .inl (xg x 0, n, .inl (fun j => bI (BitVec.ofNat 8 (U j))))) {z w : Int32} {j : Nat} {v : BitVec 8} (hw : w = bI v) (hz : z = nI j) (hj : j < n) (hdg : decode cc pc = .ok (.iastore, 1))
    (kk : ∀ (H1 : Heap) (locs1 : List Loc), fP x (sU S k i j v.toNat) H1 → fS x H0 H1 locs1 → W p l e R s m args below meth c H1 locs1 cells slots Q (F0 m (pc + 1) ls rest)) : W p l e R s m args below meth c H locs cells slots Q (F0 m pc ls (.int w :: .int z :: .ref a :: rest)) := by
  subst hz; subst hw
  have h1 := hP.2.2.2 _ _ ha.cell
  rw [show fc x S k i = _ from hf _] at h1
  have hc := f_clamp hj (f_len hP.1 (hf (mU S k i)))
  refine W.iast cx.1.1 cx.1.2.1 h1 ((cx.2.2 0 _ rfl).1 n (fun j => .int (bI (BitVec.ofNat 8 (mU S k i j))))) (fun q => by cases q) (by show ¬ (nI j < 0 ∨ (arrV _ _ _).slots.size ≤ _); rw [arrV_size]; exact hc.1) rfl rfl hdg fun H1 e z oq => ?_
  refine kk H1 _ (hP.set ha fc_sU rfl ?_ z oq) (hS0.put z oq (ha.lo hP.1))
  rw [show fc x (sU S k i j v.toNat) k i = .inl (xg x 0, n, .inl (fun q => bI (BitVec.ofNat 8 (va_up (mU S k i) j v.toNat q)))) by show fcr x k i _ _ _ _ (mU (sU S k i j v.toNat) k i) = _; rw [mU_row]; exact hf _]
  show H1[a]? = some (vp_cell _ _)
  rw [e, vp_cell_i, vp_cell_i, arrV_store, hc.2]
  congr 2
  funext q
  by_cases hq : q = j <;> simp [updV, va_up, hq]
theorem f_last (cx : fX own cc nL p c s m args x) (hP : fP x S H) (hS0 : fS x H0 H locs) (ha : fat x S a k i) {n : Nat} (hf : ∀ J, fcr x k i (mI S k i) J (mB S k i) (mA S k i) (mU S k i) = .inl (xg x 1, n, ja J)) {z : Int32} {v : Int64} {j : Nat} (hz : z = nI j) (hj : j < n) (hdg : decode cc pc = .ok (.lastore, 1))
    (kk : ∀ (H1 : Heap) (locs1 : List Loc), fP x (sJ S k i j v) H1 → fS x H0 H1 locs1 → W p l e R s m args below meth c H1 locs1 cells slots Q (F0 m (pc + 1) ls rest)) : W p l e R s m args below meth c H locs cells slots Q (F0 m pc ls (.long v :: .int z :: .ref a :: rest)) := by
  subst hz
  have h1 := hP.2.2.2 _ _ ha.cell
  rw [show fc x S k i = _ from hf _] at h1
  have hc := f_clamp hj (f_len hP.1 (hf (mJ S k i)))
  refine W.last cx.1.1 cx.1.2.1 h1 ((cx.2.2 1 _ rfl).1 n (fun j => .long (mJ S k i j))) (fun q => by cases q) (by show ¬ (nI j < 0 ∨ (arrV _ _ _).slots.size ≤ _); rw [arrV_size]; exact hc.1) rfl rfl hdg fun H1 e z oq => ?_
  refine kk H1 _ (hP.set ha fc_sJ rfl ?_ z oq) (hS0.put z oq (ha.lo hP.1))
  rw [show fc x (sJ S k i j v) k i = .inl (xg x 1, n, ja (va_up (mJ S k i) j v)) by show fcr x k i _ (mJ (sJ S k i j v) k i) _ _ _ = _; rw [mJ_row]; exact hf _]
  show H1[a]? = some (vp_cell _ _)
  rw [e, vp_cell_l, vp_cell_l, arrV_store, hc.2]
  congr 2
  funext q
  by_cases hq : q = j <;> simp [updV, va_up, hq]
theorem f_zast (cx : fX own cc nL p c s m args x) (hP : fP x S H) (hS0 : fS x H0 H locs) (ha : fat x S a k i) {n : Nat} (hf : ∀ B, fcr x k i (mI S k i) (mJ S k i) B (mA S k i) (mU S k i) = .inl (xg x 2, n, .inl (fun j => b2 (B j)))) {z w : Int32} {v : Bool} {j : Nat} (hw : w = b2 v) (hz : z = nI j) (hj : j < n) (hdg : decode cc pc = .ok (.bastore, 1))
    (kk : ∀ (H1 : Heap) (locs1 : List Loc), fP x (sB S k i j v) H1 → fS x H0 H1 locs1 → W p l e R s m args below meth c H1 locs1 cells slots Q (F0 m (pc + 1) ls rest)) : W p l e R s m args below meth c H locs cells slots Q (F0 m pc ls (.int w :: .int z :: .ref a :: rest)) := by
  subst hz; subst hw
  have h1 := hP.2.2.2 _ _ ha.cell
  rw [show fc x S k i = _ from hf _] at h1
  have hc := f_clamp hj (f_len hP.1 (hf (mB S k i)))
  refine W.zast cx.1.1 cx.1.2.1 h1 ((cx.2.2 2 _ rfl).1 n (fun j => .int (b2 (mB S k i j)))) (fun q => by cases q) (by show ¬ (nI j < 0 ∨ (arrV _ _ _).slots.size ≤ _); rw [arrV_size]; exact hc.1) rfl rfl hdg fun H1 e z oq => ?_
  refine kk H1 _ (hP.set ha fc_sB rfl ?_ z oq) (hS0.put z oq (ha.lo hP.1))
  rw [show fc x (sB S k i j v) k i = .inl (xg x 2, n, .inl (fun q => b2 (va_up (mB S k i) j v q))) by show fcr x k i _ _ (mB (sB S k i j v) k i) _ _ = _; rw [mB_row]; exact hf _]
  show H1[a]? = some (vp_cell _ _)
  rw [e, b2_nar, vp_cell_i, vp_cell_i, arrV_store, hc.2]
  congr 2
  funext q
  by_cases hq : q = j <;> simp [updV, va_up, hq]
/-- a letter is put into a row -/
theorem f_aast (cx : fX own cc nL p c s m args x) (hP : fP x S H) (hS0 : fS x H0 H locs) (ha : fat x S a k i) {n v : Nat} (hv : fvL x S v) (hf : ∀ A, fcr x k i (mI S k i) (mJ S k i) (mB S k i) A (mU S k i) = .inl (xg x 6, n, qa A)) {z : Int32} {j : Nat} (hz : z = nI j) (hj : j < n) (hdg : decode cc pc = .ok (.aastore, 1))
    (kk : ∀ (H1 : Heap) (locs1 : List Loc), fP x (sA S k i j (some v)) H1 → fS x H0 H1 locs1 → W p l e R s m args below meth c H1 locs1 cells slots Q (F0 m (pc + 1) ls rest)) : W p l e R s m args below meth c H locs cells slots Q (F0 m pc ls (.ref v :: .int z :: .ref a :: rest)) := by
  subst hz
  have h1 := hP.2.2.2 _ _ ha.cell
  rw [show fc x S k i = _ from hf _] at h1
  have hc := f_clamp hj (f_len hP.1 (hf (mA S k i)))
  obtain ⟨r', hr', cellV, g1, g2, g3, -⟩ := hP.2.2.2 _ _ hv.at.cell
  have hcls := (cx.2.1 2 _ rfl).2
  obtain ⟨kA, comp, k1, k2, k3, -⟩ := (cx.2.2 6 _ rfl).2
  have hcomp : comp = (xd x).1 2 := Option.some.inj (k3.symm.trans hcls.1)
  subst hcomp
  obtain ⟨kC, hkC, -⟩ := hcls.2
  refine W.aast cx.1.1 cx.1.2.1 h1 (fun q h => by cases h) (fun h => by cases h) k1 k2 rfl hkC ⟨fun q => hc.1 (Or.inl q), by show _ < (arrV _ _ _).slots.size; rw [arrV_size, hc.2]; exact hj⟩ g1 (fun q h => by rw [g3] at h; cases h) (by rw [g2]; exact hkC) (by rw [g2]; exact va_assign hcls) rfl rfl hdg fun H1 e z oq => ?_
  refine kk H1 _ (hP.set ha fc_sA rfl ?_ z oq) (hS0.put z oq (ha.lo hP.1))
  rw [show fc x (sA S k i j (some v)) k i = .inl (xg x 6, n, qa (va_up (mA S k i) j (some v))) by show fcr x k i _ _ _ (mA (sA S k i j (some v)) k i) _ = _; rw [mA_row]; exact hf _]
  show H1[a]? = some (vp_cell _ _)
  rw [e, vp_cell_q, vp_cell_q, arrV_store, hc.2]
  congr 2
  funext q
  by_cases hq : q = j <;> simp [updV, va_up, va_rf, hq]
theorem f_aastN (cx : fX own cc nL p c s m args x) (hP : fP x S H) (hS0 : fS x H0 H locs) (ha : fat x S a k i) {n : Nat} (hf : ∀ A, fcr x k i (mI S k i) (mJ S k i) (mB S k i) A (mU S k i) = .inl (xg x 6, n, qa A)) {z : Int32} {j : Nat} (hz : z = nI j) (hj : j < n) (hdg : decode cc pc = .ok (.aastore, 1))
    (kk : ∀ (H1 : Heap) (locs1 : List Loc), fP x (sA S k i j none) H1 → fS x H0 H1 locs1 → W p l e R s m args below meth c H1 locs1 cells slots Q (F0 m (pc + 1) ls rest)) : W p l e R s m args below meth c H locs cells slots Q (F0 m pc ls (.null :: .int z :: .ref a :: rest)) := by
  subst hz
  have h1 := hP.2.2.2 _ _ ha.cell
  rw [show fc x S k i = _ from hf _] at h1
  have hc := f_clamp hj (f_len hP.1 (hf (mA S k i)))
  refine va_WaastN (C := rn_L) cx.1.1 cx.1.2.1 h1 ((cx.2.2 6 _ rfl).1 n (fun j => va_rf (mA S k i j))) (fun h => by cases h) (by show ¬ (nI j < 0 ∨ (arrV _ _ _).slots.size ≤ _); rw [arrV_size]; exact hc.1) rfl rfl hdg fun H1 e z oq => ?_
  refine kk H1 _ (hP.set ha fc_sA rfl ?_ z oq) (hS0.put z oq (ha.lo hP.1))
  rw [show fc x (sA S k i j none) k i = .inl (xg x 6, n, qa (va_up (mA S k i) j none)) by show fcr x k i _ _ _ (mA (sA S k i j none) k i) _ = _; rw [mA_row]; exact hf _]
  show H1[a]? = some (vp_cell _ _)
  rw [e, vp_cell_q, vp_cell_q, arrV_store, hc.2]
  congr 2
  funext q
  by_cases hq : q = j <;> simp [updV, va_up, va_rf, hq]
theorem f_aastO (cx : fX own cc nL p c s m args x) (hP : fP x S H) (hS0 : fS x H0 H locs) (ha : fat x S a k i) {n : Nat} {v : Option Nat} (hv : ∀ b, v = some b → fvL x S b) (hf : ∀ A, fcr x k i (mI S k i) (mJ S k i) (mB S k i) A (mU S k i) = .inl (xg x 6, n, qa A)) {z : Int32} {j : Nat} (hz : z = nI j) (hj : j < n) (hdg : decode cc pc = .ok (.aastore, 1))
    (kk : ∀ (H1 : Heap) (locs1 : List Loc), fP x (sA S k i j v) H1 → fS x H0 H1 locs1 → W p l e R s m args below meth c H1 locs1 cells slots Q (F0 m (pc + 1) ls rest)) : W p l e R s m args below meth c H locs cells slots Q (F0 m pc ls (va_rf v :: .int z :: .ref a :: rest)) := by
  cases v with
  | none => exact f_aastN cx hP hS0 ha hf hz hj hdg kk
  | some b => exact f_aast cx hP hS0 ha (hv b rfl) hf hz hj hdg kk
-- names for the top of the stack
theorem f_eqS {T T' : fm} (h : fP x T H) (e : T = T') : fP x T' H := e ▸ h
theorem f_topi {z w : Int32} (h : z = w) (kk : W p l e R s m args below meth c H locs cells slots Q (F0 m pc ls (.int w :: rest))) : W p l e R s m args below meth c H locs cells slots Q (F0 m pc ls (.int z :: rest)) := by
  subst h; exact kk
theorem f_topl {z w : Int64} (h : z = w) (kk : W p l e R s m args below meth c H locs cells slots Q (F0 m pc ls (.long w :: rest))) : W p l e R s m args below meth c H locs cells slots Q (F0 m pc ls (.long z :: rest)) := by
  subst h; exact kk
theorem f_st {z w : List Value} (h : z = w) (kk : W p l e R s m args below meth c H locs cells slots Q (F0 m pc ls w)) : W p l e R s m args below meth c H locs cells slots Q (F0 m pc ls z) := by
  subst h; exact kk
theorem f_inc1 (a : Nat) : nI a + Int32.ofInt 1 = nI (a + 1) := nI_1 a
theorem f_pred {n : Nat} (h : 0 < n) : nI n - 1 = nI (n - 1) := by
  obtain ⟨k, rfl⟩ : ∃ k, n = k + 1 := ⟨n - 1, by omega⟩
  rw [nI_pred]; rfl
theorem f_dec1 (a : Nat) : nI (a + 1) + Int32.ofInt (-1) = nI a := pk_m1 a
-- branches on a boolean
theorem f_eqB (cx : fX own cc nL p c s m args x) {b : Bool} {off : Int} {tgt : Nat} (hdg : decode cc pc = .ok (.ifCond .eq off, 3)) (ht : (pc : Int) + off = (tgt : Int))
    (kt : b = false → W p l e R s m args below meth c H locs cells slots Q (F0 m tgt ls rest)) (kf : b = true → W p l e R s m args below meth c H locs cells slots Q (F0 m (pc + 3) ls rest)) : W p l e R s m args below meth c H locs cells slots Q (F0 m pc ls (.int (b2 b) :: rest)) :=
  lv_if_eq cx.1.1 cx.1.2.1 hdg ht (fun h => kt ((b2_0 b).mp h)) (fun h => kf (by cases b with | true => rfl | false => exact absurd rfl h))
theorem f_neB (cx : fX own cc nL p c s m args x) {b : Bool} {off : Int} {tgt : Nat} (hdg : decode cc pc = .ok (.ifCond .ne off, 3)) (ht : (pc : Int) + off = (tgt : Int))
    (kt : b = true → W p l e R s m args below meth c H locs cells slots Q (F0 m tgt ls rest)) (kf : b = false → W p l e R s m args below meth c H locs cells slots Q (F0 m (pc + 3) ls rest)) : W p l e R s m args below meth c H locs cells slots Q (F0 m pc ls (.int (b2 b) :: rest)) :=
  lv_if_ne cx.1.1 cx.1.2.1 hdg ht (fun h => kt (by cases b with | true => rfl | false => exact absurd rfl h)) (fun h => kf ((b2_0 b).mp h))
-- calls
theorem f_preS {av : List Value} (hP : fP x S H) (hK : va_K (xd x) cls_all (xt x) s) : PreS s H (fPc x S av) av :=
  ⟨fun a U g mk q => ⟨q.1, q.2.1, va_K.moved (u := U) (U := U.calling g mk a) (Vm.Alike.refl U.vm) q.2.2⟩, fun U hU hW => ⟨rfl, by rw [hU]; exact hP, va_K.moved hW.alike hK⟩⟩
theorem f_preV {As : List Value} {ci : Nat} {q : vw_C} {fs : List Value} (hP : fP x S H) (hK : va_K (xd x) cls_all (xt x) s) (ha : fat x S a k i) (hf : fc x S k i = .inr (ci, fs)) (hc : cls_all[ci]? = some q) : PreV s H q.1 a (fPc x S (.ref a :: As)) As := by
  have h1 := hP.one ha
  rw [hf] at h1
  exact ⟨(f_preS (av := .ref a :: As) hP hK).1, va_recv (q0 := 0) hK h1 hc rfl, (f_preS (av := .ref a :: As) hP hK).2⟩
theorem f_runV {y : MethodName} {bytes : ByteArray} {maxL mc ms n index ci : Nat} {ret : Option FieldType} {rm : Room} {Qc : Array Value → State → Outcome → State → Prop} {free : Addr → Prop} {As : List Value} {q : vw_C} {fs : List Value} {lv : List (Nat × Value)} (w1 : Cond.code y bytes maxL ret ∈ gw_tbl) (w2 : Cond.methodLink own index y ∈ gw_tbl) (w3 : Cond.instanceMethod y ∈ gw_tbl) (w4 : Cond.selects q.1 y y ∈ gw_tbl) (w5 : Cond.initialized y.cls ∈ gw_tbl) (hd : y.cls ≠ "java/lang/invoke/MethodHandle" ∧ y.cls ≠ "java/lang/invoke/VarHandle" ∧ (parseMethodDescriptor y.desc).map (fun d => d.parameters.length) = some n) (hn : As.length = n) (hc : cls_all[ci]? = some q)
    (cx : fX own cc nL p c s m args x) (hl : lv_has ls nL lv) (hP : fP x S H) (ha : fat x S a k i) (hf : fc x S k i = .inr (ci, fs)) (hM : Met l y (gw_ws y bytes maxL ret) rm (fPc x S (.ref a :: As)) Qc mc ms free) (hrc : rm.cells = mc) (hrs : rm.slots = ms) (hR : rm.frames + 1 ≤ R.frames ∧ 8 + (maxL + 11) + rm.locals ≤ R.locals) (hcs : cells + mc ≤ R.cells ∧ slots + ms ≤ R.slots) (hst : (rest.map fun v => v.category).sum ≤ 8) (hdg : decode cc pc = .ok (.invokevirtual index, 3)) :
    va_Run p l e R s m args below meth c H locs cells slots mc ms (F0 m pc ls (As.reverse ++ .ref a :: rest)) rest (Qc (Value.ref a :: As).toArray) free :=
  va_runV (C := q.1) cx.1 hM ⟨callB_of n cx.1.2.2.2.2 (gw_all w1) rfl hrc hrs (cx.1.2.2.2.2 _ w5) (cx.1.2.2.2.2 _ w2) hd hR, cx.1.2.2.2.2 _ w3, cx.1.2.2.2.2 _ w4⟩ (f_preV hP cx.2 ha hf hc) rfl hn hl.1 rfl (lv_room hst) hdg hcs
theorem f_runS {y : MethodName} {bytes : ByteArray} {maxL mc ms n index : Nat} {ret : Option FieldType} {rm : Room} {Qc : Array Value → State → Outcome → State → Prop} {free : Addr → Prop} {As : List Value} {lv : List (Nat × Value)} (w1 : Cond.code y bytes maxL ret ∈ gw_tbl) (w2 : Cond.methodLink own index y ∈ gw_tbl) (w3 : Cond.static y ∈ gw_tbl) (w5 : Cond.initialized y.cls ∈ gw_tbl) (hd : y.cls ≠ "java/lang/invoke/MethodHandle" ∧ y.cls ≠ "java/lang/invoke/VarHandle" ∧ (parseMethodDescriptor y.desc).map (fun d => d.parameters.length) = some n) (hn : As.length = n)
    (cx : fX own cc nL p c s m args x) (hl : lv_has ls nL lv) (hP : fP x S H) (hM : Met l y (gw_ws y bytes maxL ret) rm (fPc x S As) Qc mc ms free) (hrc : rm.cells = mc) (hrs : rm.slots = ms) (hR : rm.frames + 1 ≤ R.frames ∧ 8 + (maxL + 11) + rm.locals ≤ R.locals) (hcs : cells + mc ≤ R.cells ∧ slots + ms ≤ R.slots) (hst : (rest.map fun v => v.category).sum ≤ 8) (hdg : decode cc pc = .ok (.invokestatic index, 3)) :
    va_Run p l e R s m args below meth c H locs cells slots mc ms (F0 m pc ls (As.reverse ++ rest)) rest (Qc As.toArray) free :=
  va_runS cx.1 hM ⟨callB_of n cx.1.2.2.2.2 (gw_all w1) rfl hrc hrs (cx.1.2.2.2.2 _ w5) (cx.1.2.2.2.2 _ w2) hd hR, cx.1.2.2.2.2 _ w3⟩ (f_preS hP cx.2) rfl hn hl.1 rfl (lv_room hst) hdg hcs
theorem f_runI {y : MethodName} {bytes : ByteArray} {maxL mc ms n index : Nat} {rm : Room} {Qc : Array Value → State → Outcome → State → Prop} {free : Addr → Prop} {As : List Value} {lv : List (Nat × Value)} (w1 : Cond.code y bytes maxL none ∈ gw_tbl) (w2 : Cond.methodLink own index y ∈ gw_tbl) (w3 : Cond.instanceMethod y ∈ gw_tbl) (w5 : Cond.initialized y.cls ∈ gw_tbl) (hy : y.name = "<init>") (hd : y.cls ≠ "java/lang/invoke/MethodHandle" ∧ y.cls ≠ "java/lang/invoke/VarHandle" ∧ (parseMethodDescriptor y.desc).map (fun d => d.parameters.length) = some n) (hn : As.length = n)
    (cx : fX own cc nL p c s m args x) (hl : lv_has ls nL lv) (hP : fP x S H) (hM : Met l y (gw_ws y bytes maxL none) rm (fPc x S (.ref a :: As)) Qc mc ms free) (hrc : rm.cells = mc) (hrs : rm.slots = ms) (hR : rm.frames + 1 ≤ R.frames ∧ 8 + (maxL + 11) + rm.locals ≤ R.locals) (hcs : cells + mc ≤ R.cells ∧ slots + ms ≤ R.slots) (hst : (rest.map fun v => v.category).sum ≤ 8) (hdg : decode cc pc = .ok (.invokespecial index, 3)) :
    va_Run p l e R s m args below meth c H locs cells slots mc ms (F0 m pc ls (As.reverse ++ .ref a :: rest)) rest (Qc (Value.ref a :: As).toArray) free :=
  va_runI cx.1 hM ⟨callB_of n cx.1.2.2.2.2 (gw_all w1) rfl hrc hrs (cx.1.2.2.2.2 _ w5) (cx.1.2.2.2.2 _ w2) hd hR, hy, cx.1.2.2.2.2 _ w3⟩ (f_preS hP cx.2) rfl hn hl.1 rfl (lv_room hst) hdg hcs
theorem f_calli {S' : fm} {r : Int32} {st0 : List Value} {av : Array Value} {mc ms : Nat} (hr : va_Run p l e R s m args below meth c H locs cells slots mc ms (F0 m pc ls st0) rest (fQi x S' r av) (fun q => xs x ≤ q)) (hS : fS x H0 H locs)
    (kk : ∀ (H1 : Heap) (locs1 : List Loc), fP x S' H1 → fS x H0 H1 locs1 → W p l e R s m args below meth c H1 locs1 (cells + mc) (slots + ms) Q (F0 m (pc + 3) ls (.int r :: rest))) : W p l e R s m args below meth c H locs cells slots Q (F0 m pc ls st0) :=
  va_calli hr hS (fun _ _ h => h) (fun _ h => h) (fun v _ t H1 locs1 ht _ hp hB _ _ hS' => by subst hp; exact kk H1 locs1 (by rw [← ht]; exact hB) hS')
theorem f_calll {S' : fm} {r : Int64} {st0 : List Value} {av : Array Value} {mc ms : Nat} (hr : va_Run p l e R s m args below meth c H locs cells slots mc ms (F0 m pc ls st0) rest (fQl x S' r av) (fun q => xs x ≤ q)) (hS : fS x H0 H locs)
    (kk : ∀ (H1 : Heap) (locs1 : List Loc), fP x S' H1 → fS x H0 H1 locs1 → W p l e R s m args below meth c H1 locs1 (cells + mc) (slots + ms) Q (F0 m (pc + 3) ls (.long r :: rest))) : W p l e R s m args below meth c H locs cells slots Q (F0 m pc ls st0) :=
  va_calll hr hS (fun _ _ h => h) (fun _ h => h) (fun v _ t H1 locs1 ht _ hp hB _ _ hS' => by subst hp; exact kk H1 locs1 (by rw [← ht]; exact hB) hS')
theorem f_callv {S' : fm} {st0 : List Value} {av : Array Value} {mc ms : Nat} (hr : va_Run p l e R s m args below meth c H locs cells slots mc ms (F0 m pc ls st0) rest (fQv x S' av) (fun q => xs x ≤ q)) (hS : fS x H0 H locs)
    (kk : ∀ (H1 : Heap) (locs1 : List Loc), fP x S' H1 → fS x H0 H1 locs1 → W p l e R s m args below meth c H1 locs1 (cells + mc) (slots + ms) Q (F0 m (pc + 3) ls rest)) : W p l e R s m args below meth c H locs cells slots Q (F0 m pc ls st0) :=
  va_callv hr hS (fun _ _ h => h) (fun _ h => h) (fun _ t H1 locs1 ht _ _ hB _ _ hS' => kk H1 locs1 (by rw [← ht]; exact hB) hS')
theorem f_callq {S' : fm} {r : Option Nat} {st0 : List Value} {av : Array Value} {mc ms : Nat} (hr : va_Run p l e R s m args below meth c H locs cells slots mc ms (F0 m pc ls st0) rest (fQq x S' r av) (fun q => xs x ≤ q)) (hS : fS x H0 H locs)
    (kk : ∀ (H1 : Heap) (locs1 : List Loc), fP x S' H1 → fS x H0 H1 locs1 → W p l e R s m args below meth c H1 locs1 (cells + mc) (slots + ms) Q (F0 m (pc + 3) ls (va_rf r :: rest))) : W p l e R s m args below meth c H locs cells slots Q (F0 m pc ls st0) :=
  va_callq hr hS (fun _ _ h => h) (fun _ h => h) (fun v _ t H1 locs1 ht _ hp hB _ _ hS' => by subst hp; exact kk H1 locs1 (by rw [← ht]; exact hB) hS')
-- returns
theorem f_iret {S1 S' : fm} {v r : Int32} (cx : fX own cc nL p c s m args x) (hr : meth.sig.returnType = some .int) (hlocks : meth.locks = false) (hP : fP x S1 H) (hS : fS x s.heap H locs) (h1 : v = r) (h2 : S1 = S') (hdg : decode cc pc = .ok (.ireturn, 1)) :
    W p l e R s m args below meth c H locs cells slots (MQ below (fQi x S' r) args s cells slots (fun q => xs x ≤ q)) (F0 m pc ls [.int v]) := by
  subst h1; subst h2
  exact W.iret cx.1.1 cx.1.2.1 hr (fun t ht hW => ⟨⟨_, (), rfl, rfl, by show fP x _ t.heap; rw [ht]; exact hP⟩, hS.F ht⟩) hS.2.2 hdg
theorem f_zret {S1 S' : fm} {v : Int32} {r : Bool} (cx : fX own cc nL p c s m args x) (hr : meth.sig.returnType = some .boolean) (hlocks : meth.locks = false) (hP : fP x S1 H) (hS : fS x s.heap H locs) (h1 : v = b2 r) (h2 : S1 = S') (hdg : decode cc pc = .ok (.ireturn, 1)) :
    W p l e R s m args below meth c H locs cells slots (MQ below (fQi x S' (b2 r)) args s cells slots (fun q => xs x ≤ q)) (F0 m pc ls [.int v]) := by
  subst h1; subst h2
  exact W.zret cx.1.1 cx.1.2.1 hr (b2_nar r) (fun t ht hW => ⟨⟨_, (), rfl, rfl, by show fP x _ t.heap; rw [ht]; exact hP⟩, hS.F ht⟩) hS.2.2 hdg
theorem f_lret {S1 S' : fm} {v r : Int64} (cx : fX own cc nL p c s m args x) (hr : meth.sig.returnType = some .long) (hlocks : meth.locks = false) (hP : fP x S1 H) (hS : fS x s.heap H locs) (h1 : v = r) (h2 : S1 = S') (hdg : decode cc pc = .ok (.lreturn, 1)) :
    W p l e R s m args below meth c H locs cells slots (MQ below (fQl x S' r) args s cells slots (fun q => xs x ≤ q)) (F0 m pc ls [.long v]) := by
  subst h1; subst h2
  exact W.lret cx.1.1 cx.1.2.1 hr (fun t ht hW => ⟨⟨_, (), rfl, rfl, by show fP x _ t.heap; rw [ht]; exact hP⟩, hS.F ht⟩) hS.2.2 hdg
theorem f_vret {S1 S' : fm} (cx : fX own cc nL p c s m args x) (hr : meth.sig.returnType = none) (hlocks : meth.locks = false) (hP : fP x S1 H) (hS : fS x s.heap H locs) (h2 : S1 = S') (hdg : decode cc pc = .ok (.return_, 1)) :
    W p l e R s m args below meth c H locs cells slots (MQ below (fQv x S') args s cells slots (fun q => xs x ≤ q)) (F0 m pc ls []) := by
  subst h2
  exact W.vret cx.1.1 cx.1.2.1 hr (fun t ht hW => ⟨⟨(), rfl, trivial, by show fP x _ t.heap; rw [ht]; exact hP⟩, hS.F ht⟩) hS.2.2 hdg
theorem f_qret {S1 S' : fm} {v : Value} {r : Option Nat} {C : String} (cx : fX own cc nL p c s m args x) (hr : meth.sig.returnType = some (.object C)) (hlocks : meth.locks = false) (hP : fP x S1 H) (hS : fS x s.heap H locs) (h1 : v = va_rf r) (h2 : S1 = S') (hdg : decode cc pc = .ok (.areturn, 1)) :
    W p l e R s m args below meth c H locs cells slots (MQ below (fQq x S' r) args s cells slots (fun q => xs x ≤ q)) (F0 m pc ls [v]) := by
  subst h1; subst h2
  exact W.aret cx.1.1 cx.1.2.1 hr (Or.inl ⟨C, rfl⟩) (by cases r with | none => exact Or.inl rfl | some b => exact Or.inr ⟨b, rfl⟩) (fun t ht hW => ⟨⟨_, (), rfl, rfl, by show fP x _ t.heap; rw [ht]; exact hP⟩, hS.F ht⟩) hS.2.2 hdg
end FR
end
section
-- printed by wip/whole/gen/fields.py: a row for each field that is read or written
section FF
variable {p : Program} {l : Launch} {e : Env} {R : Room} {s : State} {m : MethodId} {args : Array Value} {below : List Frame} {meth : Method} {c : Code} {H : Heap} {locs : List Loc} {cells slots : Nat} {Q : State → Prop}
variable {cc : ByteArray} {pc : Nat} {ls : Array Slot} {rest : List Value} {nL : Nat} {x : fy} {S : fm} {a i : Nat} {H0 : Heap}
theorem g_C_C_beginning (cx : fX rn_C cc nL p c s m args x) (hP : fP x S H) (hv : fv x 7 i) (hd : decode cc pc = .ok (.getfield 30, 3)) (kk : W p l e R s m args below meth c H locs cells slots Q (F0 m (pc + 3) ls (.int (mI S 7 i 6) :: rest))) : W p l e R s m args below meth c H locs cells slots Q (F0 m pc ls (.ref (xa x 7 i) :: rest)) := f_get cx hP (hv.at S) rfl rfl wf_C 6 (by decide) fl_C_C_beginning (fun _ h => h) rfl hd kk
theorem g_C_C_crashed (cx : fX rn_C cc nL p c s m args x) (hP : fP x S H) (hv : fv x 7 i) (hd : decode cc pc = .ok (.getfield 26, 3)) (kk : W p l e R s m args below meth c H locs cells slots Q (F0 m (pc + 3) ls (.int (b2 (mB S 7 i 4)) :: rest))) : W p l e R s m args below meth c H locs cells slots Q (F0 m pc ls (.ref (xa x 7 i) :: rest)) := f_get cx hP (hv.at S) rfl rfl wf_C 4 (by decide) fl_C_C_crashed (fun _ h => h) rfl hd kk
theorem g_C_C_finished (cx : fX rn_C cc nL p c s m args x) (hP : fP x S H) (hv : fv x 7 i) (hd : decode cc pc = .ok (.getfield 65, 3)) (kk : W p l e R s m args below meth c H locs cells slots Q (F0 m (pc + 3) ls (.int (mI S 7 i 12) :: rest))) : W p l e R s m args below meth c H locs cells slots Q (F0 m pc ls (.ref (xa x 7 i) :: rest)) := f_get cx hP (hv.at S) rfl rfl wf_C 12 (by decide) fl_C_C_finished (fun _ h => h) rfl hd kk
theorem g_C_C_fragmentCount (cx : fX rn_C cc nL p c s m args x) (hP : fP x S H) (hv : fv x 7 i) (hd : decode cc pc = .ok (.getfield 39, 3)) (kk : W p l e R s m args below meth c H locs cells slots Q (F0 m (pc + 3) ls (.int (nI (mU S 7 i 3)) :: rest))) : W p l e R s m args below meth c H locs cells slots Q (F0 m pc ls (.ref (xa x 7 i) :: rest)) := f_get cx hP (hv.at S) rfl rfl wf_C 3 (by decide) fl_C_C_fragmentCount (fun _ h => h) rfl hd kk
theorem g_C_C_fragments (cx : fX rn_C cc nL p c s m args x) (hP : fP x S H) (hv : fv x 7 i) (hd : decode cc pc = .ok (.getfield 22, 3)) (kk : W p l e R s m args below meth c H locs cells slots Q (F0 m (pc + 3) ls (.ref (xa x 9 i) :: rest))) : W p l e R s m args below meth c H locs cells slots Q (F0 m pc ls (.ref (xa x 7 i) :: rest)) := f_get cx hP (hv.at S) rfl rfl wf_C 2 (by decide) fl_C_C_fragments (fun _ h => h) rfl hd kk
theorem g_C_C_heard (cx : fX rn_C cc nL p c s m args x) (hP : fP x S H) (hv : fv x 7 i) (hd : decode cc pc = .ok (.getfield 33, 3)) (kk : W p l e R s m args below meth c H locs cells slots Q (F0 m (pc + 3) ls (.int (mI S 7 i 7) :: rest))) : W p l e R s m args below meth c H locs cells slots Q (F0 m pc ls (.ref (xa x 7 i) :: rest)) := f_get cx hP (hv.at S) rfl rfl wf_C 7 (by decide) fl_C_C_heard (fun _ h => h) rfl hd kk
theorem g_C_C_highestSeal (cx : fX rn_C cc nL p c s m args x) (hP : fP x S H) (hv : fv x 7 i) (hd : decode cc pc = .ok (.getfield 36, 3)) (kk : W p l e R s m args below meth c H locs cells slots Q (F0 m (pc + 3) ls (.int (mI S 7 i 8) :: rest))) : W p l e R s m args below meth c H locs cells slots Q (F0 m pc ls (.ref (xa x 7 i) :: rest)) := f_get cx hP (hv.at S) rfl rfl wf_C 8 (by decide) fl_C_C_highestSeal (fun _ h => h) rfl hd kk
theorem g_C_C_phase (cx : fX rn_C cc nL p c s m args x) (hP : fP x S H) (hv : fv x 7 i) (hd : decode cc pc = .ok (.getfield 9, 3)) (kk : W p l e R s m args below meth c H locs cells slots Q (F0 m (pc + 3) ls (.int (mI S 7 i 5) :: rest))) : W p l e R s m args below meth c H locs cells slots Q (F0 m pc ls (.ref (xa x 7 i) :: rest)) := f_get cx hP (hv.at S) rfl rfl wf_C 5 (by decide) fl_C_C_phase (fun _ h => h) rfl hd kk
theorem g_C_C_sources (cx : fX rn_C cc nL p c s m args x) (hP : fP x S H) (hv : fv x 7 i) (hd : decode cc pc = .ok (.getfield 18, 3)) (kk : W p l e R s m args below meth c H locs cells slots Q (F0 m (pc + 3) ls (.ref (xa x 8 i) :: rest))) : W p l e R s m args below meth c H locs cells slots Q (F0 m pc ls (.ref (xa x 7 i) :: rest)) := f_get cx hP (hv.at S) rfl rfl wf_C 1 (by decide) fl_C_C_sources (fun _ h => h) rfl hd kk
theorem g_C_L_bearsFragment (cx : fX rn_C cc nL p c s m args x) (hP : fP x S H) (hv : fvL x S a) (hd : decode cc pc = .ok (.getfield 58, 3)) (kk : W p l e R s m args below meth c H locs cells slots Q (F0 m (pc + 3) ls (.int (b2 (mB S 15 a 5)) :: rest))) : W p l e R s m args below meth c H locs cells slots Q (F0 m pc ls (.ref a :: rest)) := f_get cx hP hv.at rfl rfl wf_L 5 (by decide) fl_C_L_bearsFragment (fun _ h => h) rfl hd kk
theorem g_C_L_beginning (cx : fX rn_C cc nL p c s m args x) (hP : fP x S H) (hv : fvL x S a) (hd : decode cc pc = .ok (.getfield 46, 3)) (kk : W p l e R s m args below meth c H locs cells slots Q (F0 m (pc + 3) ls (.int (mI S 15 a 1) :: rest))) : W p l e R s m args below meth c H locs cells slots Q (F0 m pc ls (.ref a :: rest)) := f_get cx hP hv.at rfl rfl wf_L 1 (by decide) fl_C_L_beginning (fun _ h => h) rfl hd kk
theorem g_C_L_fragment (cx : fX rn_C cc nL p c s m args x) (hP : fP x S H) (hv : fvL x S a) (hd : decode cc pc = .ok (.getfield 61, 3)) (kk : W p l e R s m args below meth c H locs cells slots Q (F0 m (pc + 3) ls (.long (mJ S 15 a 3) :: rest))) : W p l e R s m args below meth c H locs cells slots Q (F0 m pc ls (.ref a :: rest)) := f_get cx hP hv.at rfl rfl wf_L 3 (by decide) fl_C_L_fragment (fun _ h => h) rfl hd kk
theorem g_C_L_seal (cx : fX rn_C cc nL p c s m args x) (hP : fP x S H) (hv : fvL x S a) (hd : decode cc pc = .ok (.getfield 49, 3)) (kk : W p l e R s m args below meth c H locs cells slots Q (F0 m (pc + 3) ls (.int (mI S 15 a 4) :: rest))) : W p l e R s m args below meth c H locs cells slots Q (F0 m pc ls (.ref a :: rest)) := f_get cx hP hv.at rfl rfl wf_L 4 (by decide) fl_C_L_seal (fun _ h => h) rfl hd kk
theorem g_K_K_column (cx : fX rn_K cc nL p c s m args x) (hP : fP x S H) (hv : fv x 1 0) (hd : decode cc pc = .ok (.getfield 18, 3)) (kk : W p l e R s m args below meth c H locs cells slots Q (F0 m (pc + 3) ls (.ref (xa x 2 0) :: rest))) : W p l e R s m args below meth c H locs cells slots Q (F0 m pc ls (.ref (xa x 1 0) :: rest)) := f_get cx hP (hv.at S) rfl rfl wf_K 2 (by decide) fl_K_K_column (fun _ h => h) rfl hd kk
theorem g_K_K_length (cx : fX rn_K cc nL p c s m args x) (hP : fP x S H) (hv : fv x 1 0) (hd : decode cc pc = .ok (.getfield 15, 3)) (kk : W p l e R s m args below meth c H locs cells slots Q (F0 m (pc + 3) ls (.int (nI (xR x)) :: rest))) : W p l e R s m args below meth c H locs cells slots Q (F0 m pc ls (.ref (xa x 1 0) :: rest)) := f_get cx hP (hv.at S) rfl rfl wf_K 1 (by decide) fl_K_K_length (fun _ h => h) rfl hd kk
theorem g_K_K_needed (cx : fX rn_K cc nL p c s m args x) (hP : fP x S H) (hv : fv x 1 0) (hd : decode cc pc = .ok (.getfield 9, 3)) (kk : W p l e R s m args below meth c H locs cells slots Q (F0 m (pc + 3) ls (.int (nI (xK x)) :: rest))) : W p l e R s m args below meth c H locs cells slots Q (F0 m pc ls (.ref (xa x 1 0) :: rest)) := f_get cx hP (hv.at S) rfl rfl wf_K 0 (by decide) fl_K_K_needed (fun _ h => h) rfl hd kk
theorem g_M_M_age (cx : fX rn_M cc nL p c s m args x) (hP : fP x S H) (hv : fv x 16 0) (hd : decode cc pc = .ok (.getfield 13, 3)) (kk : W p l e R s m args below meth c H locs cells slots Q (F0 m (pc + 3) ls (.ref (xa x 24 0) :: rest))) : W p l e R s m args below meth c H locs cells slots Q (F0 m pc ls (.ref (xa x 16 0) :: rest)) := f_get cx hP (hv.at S) rfl rfl wf_M 4 (by decide) fl_M_M_age (fun _ h => h) rfl hd kk
theorem g_M_M_bearing (cx : fX rn_M cc nL p c s m args x) (hP : fP x S H) (hv : fv x 16 0) (hd : decode cc pc = .ok (.getfield 19, 3)) (kk : W p l e R s m args below meth c H locs cells slots Q (F0 m (pc + 3) ls (.ref (xa x 26 0) :: rest))) : W p l e R s m args below meth c H locs cells slots Q (F0 m pc ls (.ref (xa x 16 0) :: rest)) := f_get cx hP (hv.at S) rfl rfl wf_M 6 (by decide) fl_M_M_bearing (fun _ h => h) rfl hd kk
theorem g_M_M_best (cx : fX rn_M cc nL p c s m args x) (hP : fP x S H) (hv : fv x 16 0) (hd : decode cc pc = .ok (.getfield 22, 3)) (kk : W p l e R s m args below meth c H locs cells slots Q (F0 m (pc + 3) ls (.ref (xa x 27 0) :: rest))) : W p l e R s m args below meth c H locs cells slots Q (F0 m pc ls (.ref (xa x 16 0) :: rest)) := f_get cx hP (hv.at S) rfl rfl wf_M 7 (by decide) fl_M_M_best (fun _ h => h) rfl hd kk
theorem g_M_M_block (cx : fX rn_M cc nL p c s m args x) (hP : fP x S H) (hv : fv x 16 0) (hd : decode cc pc = .ok (.getfield 31, 3)) (kk : W p l e R s m args below meth c H locs cells slots Q (F0 m (pc + 3) ls (.ref (xa x 30 0) :: rest))) : W p l e R s m args below meth c H locs cells slots Q (F0 m pc ls (.ref (xa x 16 0) :: rest)) := f_get cx hP (hv.at S) rfl rfl wf_M 10 (by decide) fl_M_M_block (fun _ h => h) rfl hd kk
theorem g_M_M_client (cx : fX rn_M cc nL p c s m args x) (hP : fP x S H) (hv : fv x 16 0) (hd : decode cc pc = .ok (.getfield 63, 3)) (kk : W p l e R s m args below meth c H locs cells slots Q (F0 m (pc + 3) ls (.ref (xa x 41 0) :: rest))) : W p l e R s m args below meth c H locs cells slots Q (F0 m pc ls (.ref (xa x 16 0) :: rest)) := f_get cx hP (hv.at S) rfl rfl wf_M 21 (by decide) fl_M_M_client (fun _ h => h) rfl hd kk
theorem g_M_M_counted (cx : fX rn_M cc nL p c s m args x) (hP : fP x S H) (hv : fv x 16 0) (hd : decode cc pc = .ok (.getfield 16, 3)) (kk : W p l e R s m args below meth c H locs cells slots Q (F0 m (pc + 3) ls (.ref (xa x 25 0) :: rest))) : W p l e R s m args below meth c H locs cells slots Q (F0 m pc ls (.ref (xa x 16 0) :: rest)) := f_get cx hP (hv.at S) rfl rfl wf_M 5 (by decide) fl_M_M_counted (fun _ h => h) rfl hd kk
theorem g_M_M_d (cx : fX rn_M cc nL p c s m args x) (hP : fP x S H) (hv : fv x 16 0) (hd : decode cc pc = .ok (.getfield 88, 3)) (kk : W p l e R s m args below meth c H locs cells slots Q (F0 m (pc + 3) ls (.int (nI (xD x)) :: rest))) : W p l e R s m args below meth c H locs cells slots Q (F0 m pc ls (.ref (xa x 16 0) :: rest)) := f_get cx hP (hv.at S) rfl rfl wf_M 2 (by decide) fl_M_M_d (fun _ h => h) rfl hd kk
theorem g_M_M_down (cx : fX rn_M cc nL p c s m args x) (hP : fP x S H) (hv : fv x 16 0) (hd : decode cc pc = .ok (.getfield 41, 3)) (kk : W p l e R s m args below meth c H locs cells slots Q (F0 m (pc + 3) ls (.ref (xa x 33 0) :: rest))) : W p l e R s m args below meth c H locs cells slots Q (F0 m pc ls (.ref (xa x 16 0) :: rest)) := f_get cx hP (hv.at S) rfl rfl wf_M 13 (by decide) fl_M_M_down (fun _ h => h) rfl hd kk
theorem g_M_M_ends (cx : fX rn_M cc nL p c s m args x) (hP : fP x S H) (hv : fv x 16 0) (hd : decode cc pc = .ok (.getfield 28, 3)) (kk : W p l e R s m args below meth c H locs cells slots Q (F0 m (pc + 3) ls (.ref (xa x 29 0) :: rest))) : W p l e R s m args below meth c H locs cells slots Q (F0 m pc ls (.ref (xa x 16 0) :: rest)) := f_get cx hP (hv.at S) rfl rfl wf_M 9 (by decide) fl_M_M_ends (fun _ h => h) rfl hd kk
theorem g_M_M_full (cx : fX rn_M cc nL p c s m args x) (hP : fP x S H) (hv : fv x 16 0) (hd : decode cc pc = .ok (.getfield 60, 3)) (kk : W p l e R s m args below meth c H locs cells slots Q (F0 m (pc + 3) ls (.ref (xa x 40 0) :: rest))) : W p l e R s m args below meth c H locs cells slots Q (F0 m pc ls (.ref (xa x 16 0) :: rest)) := f_get cx hP (hv.at S) rfl rfl wf_M 20 (by decide) fl_M_M_full (fun _ h => h) rfl hd kk
theorem g_M_M_hasBlock (cx : fX rn_M cc nL p c s m args x) (hP : fP x S H) (hv : fv x 16 0) (hd : decode cc pc = .ok (.getfield 54, 3)) (kk : W p l e R s m args below meth c H locs cells slots Q (F0 m (pc + 3) ls (.ref (xa x 37 0) :: rest))) : W p l e R s m args below meth c H locs cells slots Q (F0 m pc ls (.ref (xa x 16 0) :: rest)) := f_get cx hP (hv.at S) rfl rfl wf_M 17 (by decide) fl_M_M_hasBlock (fun _ h => h) rfl hd kk
theorem g_M_M_hasTag (cx : fX rn_M cc nL p c s m args x) (hP : fP x S H) (hv : fv x 16 0) (hd : decode cc pc = .ok (.getfield 51, 3)) (kk : W p l e R s m args below meth c H locs cells slots Q (F0 m (pc + 3) ls (.ref (xa x 36 0) :: rest))) : W p l e R s m args below meth c H locs cells slots Q (F0 m pc ls (.ref (xa x 16 0) :: rest)) := f_get cx hP (hv.at S) rfl rfl wf_M 16 (by decide) fl_M_M_hasTag (fun _ h => h) rfl hd kk
theorem g_M_M_k (cx : fX rn_M cc nL p c s m args x) (hP : fP x S H) (hv : fv x 16 0) (hd : decode cc pc = .ok (.getfield 85, 3)) (kk : W p l e R s m args below meth c H locs cells slots Q (F0 m (pc + 3) ls (.int (nI (xK x)) :: rest))) : W p l e R s m args below meth c H locs cells slots Q (F0 m pc ls (.ref (xa x 16 0) :: rest)) := f_get cx hP (hv.at S) rfl rfl wf_M 1 (by decide) fl_M_M_k (fun _ h => h) rfl hd kk
theorem g_M_M_kind (cx : fX rn_M cc nL p c s m args x) (hP : fP x S H) (hv : fv x 16 0) (hd : decode cc pc = .ok (.getfield 72, 3)) (kk : W p l e R s m args below meth c H locs cells slots Q (F0 m (pc + 3) ls (.ref (xa x 44 0) :: rest))) : W p l e R s m args below meth c H locs cells slots Q (F0 m pc ls (.ref (xa x 16 0) :: rest)) := f_get cx hP (hv.at S) rfl rfl wf_M 24 (by decide) fl_M_M_kind (fun _ h => h) rfl hd kk
theorem g_M_M_letters (cx : fX rn_M cc nL p c s m args x) (hP : fP x S H) (hv : fv x 16 0) (hd : decode cc pc = .ok (.getfield 91, 3)) (kk : W p l e R s m args below meth c H locs cells slots Q (F0 m (pc + 3) ls (.int (nI (mU S 16 0 18)) :: rest))) : W p l e R s m args below meth c H locs cells slots Q (F0 m pc ls (.ref (xa x 16 0) :: rest)) := f_get cx hP (hv.at S) rfl rfl wf_M 18 (by decide) fl_M_M_letters (fun _ h => h) rfl hd kk
theorem g_M_M_load (cx : fX rn_M cc nL p c s m args x) (hP : fP x S H) (hv : fv x 16 0) (hd : decode cc pc = .ok (.getfield 78, 3)) (kk : W p l e R s m args below meth c H locs cells slots Q (F0 m (pc + 3) ls (.ref (xa x 46 0) :: rest))) : W p l e R s m args below meth c H locs cells slots Q (F0 m pc ls (.ref (xa x 16 0) :: rest)) := f_get cx hP (hv.at S) rfl rfl wf_M 26 (by decide) fl_M_M_load (fun _ h => h) rfl hd kk
theorem g_M_M_many (cx : fX rn_M cc nL p c s m args x) (hP : fP x S H) (hv : fv x 16 0) (hd : decode cc pc = .ok (.getfield 48, 3)) (kk : W p l e R s m args below meth c H locs cells slots Q (F0 m (pc + 3) ls (.ref (xa x 35 0) :: rest))) : W p l e R s m args below meth c H locs cells slots Q (F0 m pc ls (.ref (xa x 16 0) :: rest)) := f_get cx hP (hv.at S) rfl rfl wf_M 15 (by decide) fl_M_M_many (fun _ h => h) rfl hd kk
theorem g_M_M_n (cx : fX rn_M cc nL p c s m args x) (hP : fP x S H) (hv : fv x 16 0) (hd : decode cc pc = .ok (.getfield 81, 3)) (kk : W p l e R s m args below meth c H locs cells slots Q (F0 m (pc + 3) ls (.int (nI (xN x)) :: rest))) : W p l e R s m args below meth c H locs cells slots Q (F0 m pc ls (.ref (xa x 16 0) :: rest)) := f_get cx hP (hv.at S) rfl rfl wf_M 0 (by decide) fl_M_M_n (fun _ h => h) rfl hd kk
theorem g_M_M_phase (cx : fX rn_M cc nL p c s m args x) (hP : fP x S H) (hv : fv x 16 0) (hd : decode cc pc = .ok (.getfield 7, 3)) (kk : W p l e R s m args below meth c H locs cells slots Q (F0 m (pc + 3) ls (.ref (xa x 23 0) :: rest))) : W p l e R s m args below meth c H locs cells slots Q (F0 m pc ls (.ref (xa x 16 0) :: rest)) := f_get cx hP (hv.at S) rfl rfl wf_M 3 (by decide) fl_M_M_phase (fun _ h => h) rfl hd kk
theorem g_M_M_reply (cx : fX rn_M cc nL p c s m args x) (hP : fP x S H) (hv : fv x 16 0) (hd : decode cc pc = .ok (.getfield 57, 3)) (kk : W p l e R s m args below meth c H locs cells slots Q (F0 m (pc + 3) ls (.ref (xa x 39 0) :: rest))) : W p l e R s m args below meth c H locs cells slots Q (F0 m pc ls (.ref (xa x 16 0) :: rest)) := f_get cx hP (hv.at S) rfl rfl wf_M 19 (by decide) fl_M_M_reply (fun _ h => h) rfl hd kk
theorem g_M_M_results (cx : fX rn_M cc nL p c s m args x) (hP : fP x S H) (hv : fv x 16 0) (hd : decode cc pc = .ok (.getfield 38, 3)) (kk : W p l e R s m args below meth c H locs cells slots Q (F0 m (pc + 3) ls (.ref (xa x 32 0) :: rest))) : W p l e R s m args below meth c H locs cells slots Q (F0 m pc ls (.ref (xa x 16 0) :: rest)) := f_get cx hP (hv.at S) rfl rfl wf_M 12 (by decide) fl_M_M_results (fun _ h => h) rfl hd kk
theorem g_M_M_seals (cx : fX rn_M cc nL p c s m args x) (hP : fP x S H) (hv : fv x 16 0) (hd : decode cc pc = .ok (.getfield 45, 3)) (kk : W p l e R s m args below meth c H locs cells slots Q (F0 m (pc + 3) ls (.ref (xa x 34 0) :: rest))) : W p l e R s m args below meth c H locs cells slots Q (F0 m pc ls (.ref (xa x 16 0) :: rest)) := f_get cx hP (hv.at S) rfl rfl wf_M 14 (by decide) fl_M_M_seals (fun _ h => h) rfl hd kk
theorem g_M_M_seen (cx : fX rn_M cc nL p c s m args x) (hP : fP x S H) (hv : fv x 16 0) (hd : decode cc pc = .ok (.getfield 35, 3)) (kk : W p l e R s m args below meth c H locs cells slots Q (F0 m (pc + 3) ls (.ref (xa x 31 0) :: rest))) : W p l e R s m args below meth c H locs cells slots Q (F0 m pc ls (.ref (xa x 16 0) :: rest)) := f_get cx hP (hv.at S) rfl rfl wf_M 11 (by decide) fl_M_M_seen (fun _ h => h) rfl hd kk
theorem g_M_M_sent (cx : fX rn_M cc nL p c s m args x) (hP : fP x S H) (hv : fv x 16 0) (hd : decode cc pc = .ok (.getfield 69, 3)) (kk : W p l e R s m args below meth c H locs cells slots Q (F0 m (pc + 3) ls (.ref (xa x 43 0) :: rest))) : W p l e R s m args below meth c H locs cells slots Q (F0 m pc ls (.ref (xa x 16 0) :: rest)) := f_get cx hP (hv.at S) rfl rfl wf_M 23 (by decide) fl_M_M_sent (fun _ h => h) rfl hd kk
theorem g_M_M_server (cx : fX rn_M cc nL p c s m args x) (hP : fP x S H) (hv : fv x 16 0) (hd : decode cc pc = .ok (.getfield 66, 3)) (kk : W p l e R s m args below meth c H locs cells slots Q (F0 m (pc + 3) ls (.ref (xa x 42 0) :: rest))) : W p l e R s m args below meth c H locs cells slots Q (F0 m pc ls (.ref (xa x 16 0) :: rest)) := f_get cx hP (hv.at S) rfl rfl wf_M 22 (by decide) fl_M_M_server (fun _ h => h) rfl hd kk
theorem g_M_M_tags (cx : fX rn_M cc nL p c s m args x) (hP : fP x S H) (hv : fv x 16 0) (hd : decode cc pc = .ok (.getfield 25, 3)) (kk : W p l e R s m args below meth c H locs cells slots Q (F0 m (pc + 3) ls (.ref (xa x 28 0) :: rest))) : W p l e R s m args below meth c H locs cells slots Q (F0 m pc ls (.ref (xa x 16 0) :: rest)) := f_get cx hP (hv.at S) rfl rfl wf_M 8 (by decide) fl_M_M_tags (fun _ h => h) rfl hd kk
theorem g_M_M_what (cx : fX rn_M cc nL p c s m args x) (hP : fP x S H) (hv : fv x 16 0) (hd : decode cc pc = .ok (.getfield 75, 3)) (kk : W p l e R s m args below meth c H locs cells slots Q (F0 m (pc + 3) ls (.ref (xa x 45 0) :: rest))) : W p l e R s m args below meth c H locs cells slots Q (F0 m pc ls (.ref (xa x 16 0) :: rest)) := f_get cx hP (hv.at S) rfl rfl wf_M 25 (by decide) fl_M_M_what (fun _ h => h) rfl hd kk
theorem g_R_R_letters (cx : fX rn_R cc nL p c s m args x) (hP : fP x S H) (hv : fv x 13 i) (hd : decode cc pc = .ok (.getfield 11, 3)) (kk : W p l e R s m args below meth c H locs cells slots Q (F0 m (pc + 3) ls (.ref (xa x 14 i) :: rest))) : W p l e R s m args below meth c H locs cells slots Q (F0 m pc ls (.ref (xa x 13 i) :: rest)) := f_get cx hP (hv.at S) rfl rfl wf_R 0 (by decide) fl_R_R_letters (fun _ h => h) rfl hd kk
theorem g_R_R_size (cx : fX rn_R cc nL p c s m args x) (hP : fP x S H) (hv : fv x 13 i) (hd : decode cc pc = .ok (.getfield 17, 3)) (kk : W p l e R s m args below meth c H locs cells slots Q (F0 m (pc + 3) ls (.int (nI (mU S 13 i 1)) :: rest))) : W p l e R s m args below meth c H locs cells slots Q (F0 m pc ls (.ref (xa x 13 i) :: rest)) := f_get cx hP (hv.at S) rfl rfl wf_R 1 (by decide) fl_R_R_size (fun _ h => h) rfl hd kk
theorem g_S_L_fragment (cx : fX rn_S cc nL p c s m args x) (hP : fP x S H) (hv : fvL x S a) (hd : decode cc pc = .ok (.getfield 34, 3)) (kk : W p l e R s m args below meth c H locs cells slots Q (F0 m (pc + 3) ls (.long (mJ S 15 a 3) :: rest))) : W p l e R s m args below meth c H locs cells slots Q (F0 m pc ls (.ref a :: rest)) := f_get cx hP hv.at rfl rfl wf_L 3 (by decide) fl_S_L_fragment (fun _ h => h) rfl hd kk
theorem g_S_L_phase (cx : fX rn_S cc nL p c s m args x) (hP : fP x S H) (hv : fvL x S a) (hd : decode cc pc = .ok (.getfield 26, 3)) (kk : W p l e R s m args below meth c H locs cells slots Q (F0 m (pc + 3) ls (.int (mI S 15 a 0) :: rest))) : W p l e R s m args below meth c H locs cells slots Q (F0 m pc ls (.ref a :: rest)) := f_get cx hP hv.at rfl rfl wf_L 0 (by decide) fl_S_L_phase (fun _ h => h) rfl hd kk
theorem g_S_L_tag (cx : fX rn_S cc nL p c s m args x) (hP : fP x S H) (hv : fvL x S a) (hd : decode cc pc = .ok (.getfield 31, 3)) (kk : W p l e R s m args below meth c H locs cells slots Q (F0 m (pc + 3) ls (.int (mI S 15 a 2) :: rest))) : W p l e R s m args below meth c H locs cells slots Q (F0 m pc ls (.ref a :: rest)) := f_get cx hP hv.at rfl rfl wf_L 2 (by decide) fl_S_L_tag (fun _ h => h) rfl hd kk
theorem g_S_S_count (cx : fX rn_S cc nL p c s m args x) (hP : fP x S H) (hv : fv x 10 i) (hd : decode cc pc = .ok (.getfield 9, 3)) (kk : W p l e R s m args below meth c H locs cells slots Q (F0 m (pc + 3) ls (.int (nI (mU S 10 i 3)) :: rest))) : W p l e R s m args below meth c H locs cells slots Q (F0 m pc ls (.ref (xa x 10 i) :: rest)) := f_get cx hP (hv.at S) rfl rfl wf_S 3 (by decide) fl_S_S_count (fun _ h => h) rfl hd kk
theorem g_S_S_fragments (cx : fX rn_S cc nL p c s m args x) (hP : fP x S H) (hv : fv x 10 i) (hd : decode cc pc = .ok (.getfield 22, 3)) (kk : W p l e R s m args below meth c H locs cells slots Q (F0 m (pc + 3) ls (.ref (xa x 12 i) :: rest))) : W p l e R s m args below meth c H locs cells slots Q (F0 m pc ls (.ref (xa x 10 i) :: rest)) := f_get cx hP (hv.at S) rfl rfl wf_S 2 (by decide) fl_S_S_fragments (fun _ h => h) rfl hd kk
theorem g_S_S_mostTags (cx : fX rn_S cc nL p c s m args x) (hP : fP x S H) (hv : fv x 10 i) (hd : decode cc pc = .ok (.getfield 15, 3)) (kk : W p l e R s m args below meth c H locs cells slots Q (F0 m (pc + 3) ls (.int (nI (xD x + 1)) :: rest))) : W p l e R s m args below meth c H locs cells slots Q (F0 m pc ls (.ref (xa x 10 i) :: rest)) := f_get cx hP (hv.at S) rfl rfl wf_S 0 (by decide) fl_S_S_mostTags (fun _ h => h) rfl hd kk
theorem g_S_S_seal (cx : fX rn_S cc nL p c s m args x) (hP : fP x S H) (hv : fv x 10 i) (hd : decode cc pc = .ok (.getfield 50, 3)) (kk : W p l e R s m args below meth c H locs cells slots Q (F0 m (pc + 3) ls (.int (mI S 10 i 4) :: rest))) : W p l e R s m args below meth c H locs cells slots Q (F0 m pc ls (.ref (xa x 10 i) :: rest)) := f_get cx hP (hv.at S) rfl rfl wf_S 4 (by decide) fl_S_S_seal (fun _ h => h) rfl hd kk
theorem g_S_S_tags (cx : fX rn_S cc nL p c s m args x) (hP : fP x S H) (hv : fv x 10 i) (hd : decode cc pc = .ok (.getfield 18, 3)) (kk : W p l e R s m args below meth c H locs cells slots Q (F0 m (pc + 3) ls (.ref (xa x 11 i) :: rest))) : W p l e R s m args below meth c H locs cells slots Q (F0 m pc ls (.ref (xa x 10 i) :: rest)) := f_get cx hP (hv.at S) rfl rfl wf_S 1 (by decide) fl_S_S_tags (fun _ h => h) rfl hd kk
theorem g_X_C_beginning (cx : fX rn_X cc nL p c s m args x) (hP : fP x S H) (hv : fv x 7 i) (hd : decode cc pc = .ok (.getfield 189, 3)) (kk : W p l e R s m args below meth c H locs cells slots Q (F0 m (pc + 3) ls (.int (mI S 7 i 6) :: rest))) : W p l e R s m args below meth c H locs cells slots Q (F0 m pc ls (.ref (xa x 7 i) :: rest)) := f_get cx hP (hv.at S) rfl rfl wf_C 6 (by decide) fl_X_C_beginning (fun _ h => h) rfl hd kk
theorem g_X_C_block (cx : fX rn_X cc nL p c s m args x) (hP : fP x S H) (hv : fv x 7 i) (hd : decode cc pc = .ok (.getfield 60, 3)) (kk : W p l e R s m args below meth c H locs cells slots Q (F0 m (pc + 3) ls (.long (mJ S 7 i 10) :: rest))) : W p l e R s m args below meth c H locs cells slots Q (F0 m pc ls (.ref (xa x 7 i) :: rest)) := f_get cx hP (hv.at S) rfl rfl wf_C 10 (by decide) fl_X_C_block (fun _ h => h) rfl hd kk
theorem g_X_C_crashed (cx : fX rn_X cc nL p c s m args x) (hP : fP x S H) (hv : fv x 7 i) (hd : decode cc pc = .ok (.getfield 72, 3)) (kk : W p l e R s m args below meth c H locs cells slots Q (F0 m (pc + 3) ls (.int (b2 (mB S 7 i 4)) :: rest))) : W p l e R s m args below meth c H locs cells slots Q (F0 m pc ls (.ref (xa x 7 i) :: rest)) := f_get cx hP (hv.at S) rfl rfl wf_C 4 (by decide) fl_X_C_crashed (fun _ h => h) rfl hd kk
theorem g_X_C_finished (cx : fX rn_X cc nL p c s m args x) (hP : fP x S H) (hv : fv x 7 i) (hd : decode cc pc = .ok (.getfield 140, 3)) (kk : W p l e R s m args below meth c H locs cells slots Q (F0 m (pc + 3) ls (.int (mI S 7 i 12) :: rest))) : W p l e R s m args below meth c H locs cells slots Q (F0 m pc ls (.ref (xa x 7 i) :: rest)) := f_get cx hP (hv.at S) rfl rfl wf_C 12 (by decide) fl_X_C_finished (fun _ h => h) rfl hd kk
theorem g_X_C_fragments (cx : fX rn_X cc nL p c s m args x) (hP : fP x S H) (hv : fv x 7 i) (hd : decode cc pc = .ok (.getfield 211, 3)) (kk : W p l e R s m args below meth c H locs cells slots Q (F0 m (pc + 3) ls (.ref (xa x 9 i) :: rest))) : W p l e R s m args below meth c H locs cells slots Q (F0 m pc ls (.ref (xa x 7 i) :: rest)) := f_get cx hP (hv.at S) rfl rfl wf_C 2 (by decide) fl_X_C_fragments (fun _ h => h) rfl hd kk
theorem g_X_C_heard (cx : fX rn_X cc nL p c s m args x) (hP : fP x S H) (hv : fv x 7 i) (hd : decode cc pc = .ok (.getfield 79, 3)) (kk : W p l e R s m args below meth c H locs cells slots Q (F0 m (pc + 3) ls (.int (mI S 7 i 7) :: rest))) : W p l e R s m args below meth c H locs cells slots Q (F0 m pc ls (.ref (xa x 7 i) :: rest)) := f_get cx hP (hv.at S) rfl rfl wf_C 7 (by decide) fl_X_C_heard (fun _ h => h) rfl hd kk
theorem g_X_C_highestSeal (cx : fX rn_X cc nL p c s m args x) (hP : fP x S H) (hv : fv x 7 i) (hd : decode cc pc = .ok (.getfield 205, 3)) (kk : W p l e R s m args below meth c H locs cells slots Q (F0 m (pc + 3) ls (.int (mI S 7 i 8) :: rest))) : W p l e R s m args below meth c H locs cells slots Q (F0 m pc ls (.ref (xa x 7 i) :: rest)) := f_get cx hP (hv.at S) rfl rfl wf_C 8 (by decide) fl_X_C_highestSeal (fun _ h => h) rfl hd kk
theorem g_X_C_number (cx : fX rn_X cc nL p c s m args x) (hP : fP x S H) (hv : fv x 7 i) (hd : decode cc pc = .ok (.getfield 182, 3)) (kk : W p l e R s m args below meth c H locs cells slots Q (F0 m (pc + 3) ls (.int (nI i) :: rest))) : W p l e R s m args below meth c H locs cells slots Q (F0 m pc ls (.ref (xa x 7 i) :: rest)) := f_get cx hP (hv.at S) rfl rfl wf_C 0 (by decide) fl_X_C_number (fun _ h => h) rfl hd kk
theorem g_X_C_phase (cx : fX rn_X cc nL p c s m args x) (hP : fP x S H) (hv : fv x 7 i) (hd : decode cc pc = .ok (.getfield 76, 3)) (kk : W p l e R s m args below meth c H locs cells slots Q (F0 m (pc + 3) ls (.int (mI S 7 i 5) :: rest))) : W p l e R s m args below meth c H locs cells slots Q (F0 m pc ls (.ref (xa x 7 i) :: rest)) := f_get cx hP (hv.at S) rfl rfl wf_C 5 (by decide) fl_X_C_phase (fun _ h => h) rfl hd kk
theorem g_X_C_result (cx : fX rn_X cc nL p c s m args x) (hP : fP x S H) (hv : fv x 7 i) (hd : decode cc pc = .ok (.getfield 137, 3)) (kk : W p l e R s m args below meth c H locs cells slots Q (F0 m (pc + 3) ls (.long (mJ S 7 i 11) :: rest))) : W p l e R s m args below meth c H locs cells slots Q (F0 m pc ls (.ref (xa x 7 i) :: rest)) := f_get cx hP (hv.at S) rfl rfl wf_C 11 (by decide) fl_X_C_result (fun _ h => h) rfl hd kk
theorem g_X_C_sources (cx : fX rn_X cc nL p c s m args x) (hP : fP x S H) (hv : fv x 7 i) (hd : decode cc pc = .ok (.getfield 208, 3)) (kk : W p l e R s m args below meth c H locs cells slots Q (F0 m (pc + 3) ls (.ref (xa x 8 i) :: rest))) : W p l e R s m args below meth c H locs cells slots Q (F0 m pc ls (.ref (xa x 7 i) :: rest)) := f_get cx hP (hv.at S) rfl rfl wf_C 1 (by decide) fl_X_C_sources (fun _ h => h) rfl hd kk
theorem g_X_C_tag (cx : fX rn_X cc nL p c s m args x) (hP : fP x S H) (hv : fv x 7 i) (hd : decode cc pc = .ok (.getfield 134, 3)) (kk : W p l e R s m args below meth c H locs cells slots Q (F0 m (pc + 3) ls (.int (mI S 7 i 9) :: rest))) : W p l e R s m args below meth c H locs cells slots Q (F0 m pc ls (.ref (xa x 7 i) :: rest)) := f_get cx hP (hv.at S) rfl rfl wf_C 9 (by decide) fl_X_C_tag (fun _ h => h) rfl hd kk
theorem g_X_K_length (cx : fX rn_X cc nL p c s m args x) (hP : fP x S H) (hv : fv x 1 0) (hd : decode cc pc = .ok (.getfield 150, 3)) (kk : W p l e R s m args below meth c H locs cells slots Q (F0 m (pc + 3) ls (.int (nI (xR x)) :: rest))) : W p l e R s m args below meth c H locs cells slots Q (F0 m pc ls (.ref (xa x 1 0) :: rest)) := f_get cx hP (hv.at S) rfl rfl wf_K 1 (by decide) fl_X_K_length (fun _ h => h) rfl hd kk
theorem g_X_L_phase (cx : fX rn_X cc nL p c s m args x) (hP : fP x S H) (hv : fvL x S a) (hd : decode cc pc = .ok (.getfield 105, 3)) (kk : W p l e R s m args below meth c H locs cells slots Q (F0 m (pc + 3) ls (.int (mI S 15 a 0) :: rest))) : W p l e R s m args below meth c H locs cells slots Q (F0 m pc ls (.ref a :: rest)) := f_get cx hP hv.at rfl rfl wf_L 0 (by decide) fl_X_L_phase (fun _ h => h) rfl hd kk
theorem g_X_R_size (cx : fX rn_X cc nL p c s m args x) (hP : fP x S H) (hv : fv x 13 i) (hd : decode cc pc = .ok (.getfield 167, 3)) (kk : W p l e R s m args below meth c H locs cells slots Q (F0 m (pc + 3) ls (.int (nI (mU S 13 i 1)) :: rest))) : W p l e R s m args below meth c H locs cells slots Q (F0 m pc ls (.ref (xa x 13 i) :: rest)) := f_get cx hP (hv.at S) rfl rfl wf_R 1 (by decide) fl_X_R_size (fun _ h => h) rfl hd kk
theorem g_X_S_count (cx : fX rn_X cc nL p c s m args x) (hP : fP x S H) (hv : fv x 10 i) (hd : decode cc pc = .ok (.getfield 143, 3)) (kk : W p l e R s m args below meth c H locs cells slots Q (F0 m (pc + 3) ls (.int (nI (mU S 10 i 3)) :: rest))) : W p l e R s m args below meth c H locs cells slots Q (F0 m pc ls (.ref (xa x 10 i) :: rest)) := f_get cx hP (hv.at S) rfl rfl wf_S 3 (by decide) fl_X_S_count (fun _ h => h) rfl hd kk
theorem g_X_S_crashed (cx : fX rn_X cc nL p c s m args x) (hP : fP x S H) (hv : fv x 10 i) (hd : decode cc pc = .ok (.getfield 123, 3)) (kk : W p l e R s m args below meth c H locs cells slots Q (F0 m (pc + 3) ls (.int (b2 (mB S 10 i 5)) :: rest))) : W p l e R s m args below meth c H locs cells slots Q (F0 m pc ls (.ref (xa x 10 i) :: rest)) := f_get cx hP (hv.at S) rfl rfl wf_S 5 (by decide) fl_X_S_crashed (fun _ h => h) rfl hd kk
theorem g_X_S_fragments (cx : fX rn_X cc nL p c s m args x) (hP : fP x S H) (hv : fv x 10 i) (hd : decode cc pc = .ok (.getfield 156, 3)) (kk : W p l e R s m args below meth c H locs cells slots Q (F0 m (pc + 3) ls (.ref (xa x 12 i) :: rest))) : W p l e R s m args below meth c H locs cells slots Q (F0 m pc ls (.ref (xa x 10 i) :: rest)) := f_get cx hP (hv.at S) rfl rfl wf_S 2 (by decide) fl_X_S_fragments (fun _ h => h) rfl hd kk
theorem g_X_S_seal (cx : fX rn_X cc nL p c s m args x) (hP : fP x S H) (hv : fv x 10 i) (hd : decode cc pc = .ok (.getfield 164, 3)) (kk : W p l e R s m args below meth c H locs cells slots Q (F0 m (pc + 3) ls (.int (mI S 10 i 4) :: rest))) : W p l e R s m args below meth c H locs cells slots Q (F0 m pc ls (.ref (xa x 10 i) :: rest)) := f_get cx hP (hv.at S) rfl rfl wf_S 4 (by decide) fl_X_S_seal (fun _ h => h) rfl hd kk
theorem g_X_S_tags (cx : fX rn_X cc nL p c s m args x) (hP : fP x S H) (hv : fv x 10 i) (hd : decode cc pc = .ok (.getfield 146, 3)) (kk : W p l e R s m args below meth c H locs cells slots Q (F0 m (pc + 3) ls (.ref (xa x 11 i) :: rest))) : W p l e R s m args below meth c H locs cells slots Q (F0 m pc ls (.ref (xa x 10 i) :: rest)) := f_get cx hP (hv.at S) rfl rfl wf_S 1 (by decide) fl_X_S_tags (fun _ h => h) rfl hd kk
theorem g_X_X_clients (cx : fX rn_X cc nL p c s m args x) (hP : fP x S H) (hv : fv x 0 0) (hd : decode cc pc = .ok (.getfield 31, 3)) (kk : W p l e R s m args below meth c H locs cells slots Q (F0 m (pc + 3) ls (.ref (xa x 3 0) :: rest))) : W p l e R s m args below meth c H locs cells slots Q (F0 m pc ls (.ref (xa x 0 0) :: rest)) := f_get cx hP (hv.at S) rfl rfl wf_X 3 (by decide) fl_X_X_clients (fun _ h => h) rfl hd kk
theorem g_X_X_code (cx : fX rn_X cc nL p c s m args x) (hP : fP x S H) (hv : fv x 0 0) (hd : decode cc pc = .ok (.getfield 25, 3)) (kk : W p l e R s m args below meth c H locs cells slots Q (F0 m (pc + 3) ls (.ref (xa x 1 0) :: rest))) : W p l e R s m args below meth c H locs cells slots Q (F0 m pc ls (.ref (xa x 0 0) :: rest)) := f_get cx hP (hv.at S) rfl rfl wf_X 2 (by decide) fl_X_X_code (fun _ h => h) rfl hd kk
theorem g_X_X_crashes (cx : fX rn_X cc nL p c s m args x) (hP : fP x S H) (hv : fv x 0 0) (hd : decode cc pc = .ok (.getfield 124, 3)) (kk : W p l e R s m args below meth c H locs cells slots Q (F0 m (pc + 3) ls (.int (mI S 0 0 7) :: rest))) : W p l e R s m args below meth c H locs cells slots Q (F0 m pc ls (.ref (xa x 0 0) :: rest)) := f_get cx hP (hv.at S) rfl rfl wf_X 7 (by decide) fl_X_X_crashes (fun _ h => h) rfl hd kk
theorem g_X_X_mostCrashes (cx : fX rn_X cc nL p c s m args x) (hP : fP x S H) (hv : fv x 0 0) (hd : decode cc pc = .ok (.getfield 13, 3)) (kk : W p l e R s m args below meth c H locs cells slots Q (F0 m (pc + 3) ls (.int (nI (xM x)) :: rest))) : W p l e R s m args below meth c H locs cells slots Q (F0 m pc ls (.ref (xa x 0 0) :: rest)) := f_get cx hP (hv.at S) rfl rfl wf_X 1 (by decide) fl_X_X_mostCrashes (fun _ h => h) rfl hd kk
theorem g_X_X_quorumSize (cx : fX rn_X cc nL p c s m args x) (hP : fP x S H) (hv : fv x 0 0) (hd : decode cc pc = .ok (.getfield 17, 3)) (kk : W p l e R s m args below meth c H locs cells slots Q (F0 m (pc + 3) ls (.int (nI (xQ x)) :: rest))) : W p l e R s m args below meth c H locs cells slots Q (F0 m pc ls (.ref (xa x 0 0) :: rest)) := f_get cx hP (hv.at S) rfl rfl wf_X 0 (by decide) fl_X_X_quorumSize (fun _ h => h) rfl hd kk
theorem g_X_X_replyRows (cx : fX rn_X cc nL p c s m args x) (hP : fP x S H) (hv : fv x 0 0) (hd : decode cc pc = .ok (.getfield 53, 3)) (kk : W p l e R s m args below meth c H locs cells slots Q (F0 m (pc + 3) ls (.ref (xa x 6 0) :: rest))) : W p l e R s m args below meth c H locs cells slots Q (F0 m pc ls (.ref (xa x 0 0) :: rest)) := f_get cx hP (hv.at S) rfl rfl wf_X 6 (by decide) fl_X_X_replyRows (fun _ h => h) rfl hd kk
theorem g_X_X_requestRows (cx : fX rn_X cc nL p c s m args x) (hP : fP x S H) (hv : fv x 0 0) (hd : decode cc pc = .ok (.getfield 49, 3)) (kk : W p l e R s m args below meth c H locs cells slots Q (F0 m (pc + 3) ls (.ref (xa x 5 0) :: rest))) : W p l e R s m args below meth c H locs cells slots Q (F0 m pc ls (.ref (xa x 0 0) :: rest)) := f_get cx hP (hv.at S) rfl rfl wf_X 5 (by decide) fl_X_X_requestRows (fun _ h => h) rfl hd kk
theorem g_X_X_servers (cx : fX rn_X cc nL p c s m args x) (hP : fP x S H) (hv : fv x 0 0) (hd : decode cc pc = .ok (.getfield 40, 3)) (kk : W p l e R s m args below meth c H locs cells slots Q (F0 m (pc + 3) ls (.ref (xa x 4 0) :: rest))) : W p l e R s m args below meth c H locs cells slots Q (F0 m pc ls (.ref (xa x 0 0) :: rest)) := f_get cx hP (hv.at S) rfl rfl wf_X 4 (by decide) fl_X_X_servers (fun _ h => h) rfl hd kk
theorem p_C_C_beginning {v : Int32} (cx : fX rn_C cc nL p c s m args x) (hP : fP x S H) (hS : fS x H0 H locs) (hv : fv x 7 i) (hd : decode cc pc = .ok (.putfield 30, 3)) (kk : ∀ (H1 : Heap) (locs1 : List Loc), fP x (sI S 7 i 6 v) H1 → fS x H0 H1 locs1 → W p l e R s m args below meth c H1 locs1 cells slots Q (F0 m (pc + 3) ls rest)) : W p l e R s m args below meth c H locs cells slots Q (F0 m pc ls (.int v :: .ref (xa x 7 i) :: rest)) := f_put cx hP hS (hv.at S) rfl rfl wf_C ty_C tk_C nm_C 6 (by decide) fl_C_C_beginning (fun _ h => h) rfl (ty := .int) (by decide +kernel) rfl rfl (Nat.le_of_ble_eq_true rfl) (by show fcr x 7 i (mI (sI S 7 i 6 v) 7 i) (mJ S 7 i) (mB S 7 i) (mA S 7 i) (mU S 7 i) = _; rw [mI_row]; rfl) fc_sI rfl hd kk
theorem p_C_C_finished {v : Int32} (cx : fX rn_C cc nL p c s m args x) (hP : fP x S H) (hS : fS x H0 H locs) (hv : fv x 7 i) (hd : decode cc pc = .ok (.putfield 65, 3)) (kk : ∀ (H1 : Heap) (locs1 : List Loc), fP x (sI S 7 i 12 v) H1 → fS x H0 H1 locs1 → W p l e R s m args below meth c H1 locs1 cells slots Q (F0 m (pc + 3) ls rest)) : W p l e R s m args below meth c H locs cells slots Q (F0 m pc ls (.int v :: .ref (xa x 7 i) :: rest)) := f_put cx hP hS (hv.at S) rfl rfl wf_C ty_C tk_C nm_C 12 (by decide) fl_C_C_finished (fun _ h => h) rfl (ty := .int) (by decide +kernel) rfl rfl (Nat.le_of_ble_eq_true rfl) (by show fcr x 7 i (mI (sI S 7 i 12 v) 7 i) (mJ S 7 i) (mB S 7 i) (mA S 7 i) (mU S 7 i) = _; rw [mI_row]; rfl) fc_sI rfl hd kk
theorem p_C_C_fragmentCount {v : Nat} {w : Int32} (cx : fX rn_C cc nL p c s m args x) (hP : fP x S H) (hS : fS x H0 H locs) (hv : fv x 7 i) (hw : w = nI v) (hd : decode cc pc = .ok (.putfield 39, 3)) (kk : ∀ (H1 : Heap) (locs1 : List Loc), fP x (sU S 7 i 3 v) H1 → fS x H0 H1 locs1 → W p l e R s m args below meth c H1 locs1 cells slots Q (F0 m (pc + 3) ls rest)) : W p l e R s m args below meth c H locs cells slots Q (F0 m pc ls (.int w :: .ref (xa x 7 i) :: rest)) := by subst hw; exact f_put cx hP hS (hv.at S) rfl rfl wf_C ty_C tk_C nm_C 3 (by decide) fl_C_C_fragmentCount (fun _ h => h) rfl (ty := .int) (by decide +kernel) rfl rfl (Nat.le_of_ble_eq_true rfl) (by show fcr x 7 i (mI S 7 i) (mJ S 7 i) (mB S 7 i) (mA S 7 i) (mU (sU S 7 i 3 v) 7 i) = _; rw [mU_row]; rfl) fc_sU rfl hd kk
theorem p_C_C_heard {v : Int32} (cx : fX rn_C cc nL p c s m args x) (hP : fP x S H) (hS : fS x H0 H locs) (hv : fv x 7 i) (hd : decode cc pc = .ok (.putfield 33, 3)) (kk : ∀ (H1 : Heap) (locs1 : List Loc), fP x (sI S 7 i 7 v) H1 → fS x H0 H1 locs1 → W p l e R s m args below meth c H1 locs1 cells slots Q (F0 m (pc + 3) ls rest)) : W p l e R s m args below meth c H locs cells slots Q (F0 m pc ls (.int v :: .ref (xa x 7 i) :: rest)) := f_put cx hP hS (hv.at S) rfl rfl wf_C ty_C tk_C nm_C 7 (by decide) fl_C_C_heard (fun _ h => h) rfl (ty := .int) (by decide +kernel) rfl rfl (Nat.le_of_ble_eq_true rfl) (by show fcr x 7 i (mI (sI S 7 i 7 v) 7 i) (mJ S 7 i) (mB S 7 i) (mA S 7 i) (mU S 7 i) = _; rw [mI_row]; rfl) fc_sI rfl hd kk
theorem p_C_C_highestSeal {v : Int32} (cx : fX rn_C cc nL p c s m args x) (hP : fP x S H) (hS : fS x H0 H locs) (hv : fv x 7 i) (hd : decode cc pc = .ok (.putfield 36, 3)) (kk : ∀ (H1 : Heap) (locs1 : List Loc), fP x (sI S 7 i 8 v) H1 → fS x H0 H1 locs1 → W p l e R s m args below meth c H1 locs1 cells slots Q (F0 m (pc + 3) ls rest)) : W p l e R s m args below meth c H locs cells slots Q (F0 m pc ls (.int v :: .ref (xa x 7 i) :: rest)) := f_put cx hP hS (hv.at S) rfl rfl wf_C ty_C tk_C nm_C 8 (by decide) fl_C_C_highestSeal (fun _ h => h) rfl (ty := .int) (by decide +kernel) rfl rfl (Nat.le_of_ble_eq_true rfl) (by show fcr x 7 i (mI (sI S 7 i 8 v) 7 i) (mJ S 7 i) (mB S 7 i) (mA S 7 i) (mU S 7 i) = _; rw [mI_row]; rfl) fc_sI rfl hd kk
theorem p_C_C_phase {v : Int32} (cx : fX rn_C cc nL p c s m args x) (hP : fP x S H) (hS : fS x H0 H locs) (hv : fv x 7 i) (hd : decode cc pc = .ok (.putfield 9, 3)) (kk : ∀ (H1 : Heap) (locs1 : List Loc), fP x (sI S 7 i 5 v) H1 → fS x H0 H1 locs1 → W p l e R s m args below meth c H1 locs1 cells slots Q (F0 m (pc + 3) ls rest)) : W p l e R s m args below meth c H locs cells slots Q (F0 m pc ls (.int v :: .ref (xa x 7 i) :: rest)) := f_put cx hP hS (hv.at S) rfl rfl wf_C ty_C tk_C nm_C 5 (by decide) fl_C_C_phase (fun _ h => h) rfl (ty := .int) (by decide +kernel) rfl rfl (Nat.le_of_ble_eq_true rfl) (by show fcr x 7 i (mI (sI S 7 i 5 v) 7 i) (mJ S 7 i) (mB S 7 i) (mA S 7 i) (mU S 7 i) = _; rw [mI_row]; rfl) fc_sI rfl hd kk
theorem p_L_L_beginning {v : Int32} (cx : fX rn_L cc nL p c s m args x) (hin : meth.name = "<init>") (hP : fP x S H) (hS : fS x H0 H locs) (hv : fvL x S a) (hd : decode cc pc = .ok (.putfield 13, 3)) (kk : ∀ (H1 : Heap) (locs1 : List Loc), fP x (sI S 15 a 1 v) H1 → fS x H0 H1 locs1 → W p l e R s m args below meth c H1 locs1 cells slots Q (F0 m (pc + 3) ls rest)) : W p l e R s m args below meth c H locs cells slots Q (F0 m pc ls (.int v :: .ref a :: rest)) := f_putF cx hin hP hS hv.at rfl rfl wf_L ty_L tk_L nm_L 1 (by decide) fl_L_L_beginning (fun _ h => h) rfl rfl (ty := .int) (by decide +kernel) rfl rfl (Nat.le_of_ble_eq_true rfl) (by show fcr x 15 a (mI (sI S 15 a 1 v) 15 a) (mJ S 15 a) (mB S 15 a) (mA S 15 a) (mU S 15 a) = _; rw [mI_row]; rfl) fc_sI rfl hd kk
theorem p_L_L_phase {v : Int32} (cx : fX rn_L cc nL p c s m args x) (hin : meth.name = "<init>") (hP : fP x S H) (hS : fS x H0 H locs) (hv : fvL x S a) (hd : decode cc pc = .ok (.putfield 7, 3)) (kk : ∀ (H1 : Heap) (locs1 : List Loc), fP x (sI S 15 a 0 v) H1 → fS x H0 H1 locs1 → W p l e R s m args below meth c H1 locs1 cells slots Q (F0 m (pc + 3) ls rest)) : W p l e R s m args below meth c H locs cells slots Q (F0 m pc ls (.int v :: .ref a :: rest)) := f_putF cx hin hP hS hv.at rfl rfl wf_L ty_L tk_L nm_L 0 (by decide) fl_L_L_phase (fun _ h => h) rfl rfl (ty := .int) (by decide +kernel) rfl rfl (Nat.le_of_ble_eq_true rfl) (by show fcr x 15 a (mI (sI S 15 a 0 v) 15 a) (mJ S 15 a) (mB S 15 a) (mA S 15 a) (mU S 15 a) = _; rw [mI_row]; rfl) fc_sI rfl hd kk
theorem p_L_L_tag {v : Int32} (cx : fX rn_L cc nL p c s m args x) (hin : meth.name = "<init>") (hP : fP x S H) (hS : fS x H0 H locs) (hv : fvL x S a) (hd : decode cc pc = .ok (.putfield 16, 3)) (kk : ∀ (H1 : Heap) (locs1 : List Loc), fP x (sI S 15 a 2 v) H1 → fS x H0 H1 locs1 → W p l e R s m args below meth c H1 locs1 cells slots Q (F0 m (pc + 3) ls rest)) : W p l e R s m args below meth c H locs cells slots Q (F0 m pc ls (.int v :: .ref a :: rest)) := f_putF cx hin hP hS hv.at rfl rfl wf_L ty_L tk_L nm_L 2 (by decide) fl_L_L_tag (fun _ h => h) rfl rfl (ty := .int) (by decide +kernel) rfl rfl (Nat.le_of_ble_eq_true rfl) (by show fcr x 15 a (mI (sI S 15 a 2 v) 15 a) (mJ S 15 a) (mB S 15 a) (mA S 15 a) (mU S 15 a) = _; rw [mI_row]; rfl) fc_sI rfl hd kk
theorem p_M_M_letters {v : Nat} {w : Int32} (cx : fX rn_M cc nL p c s m args x) (hP : fP x S H) (hS : fS x H0 H locs) (hv : fv x 16 0) (hw : w = nI v) (hd : decode cc pc = .ok (.putfield 91, 3)) (kk : ∀ (H1 : Heap) (locs1 : List Loc), fP x (sU S 16 0 18 v) H1 → fS x H0 H1 locs1 → W p l e R s m args below meth c H1 locs1 cells slots Q (F0 m (pc + 3) ls rest)) : W p l e R s m args below meth c H locs cells slots Q (F0 m pc ls (.int w :: .ref (xa x 16 0) :: rest)) := by subst hw; exact f_put cx hP hS (hv.at S) rfl rfl wf_M ty_M tk_M nm_M 18 (by decide) fl_M_M_letters (fun _ h => h) rfl (ty := .int) (by decide +kernel) rfl rfl (Nat.le_of_ble_eq_true rfl) (by show fcr x 16 0 (mI S 16 0) (mJ S 16 0) (mB S 16 0) (mA S 16 0) (mU (sU S 16 0 18 v) 16 0) = _; rw [mU_row]; rfl) fc_sU rfl hd kk
theorem p_R_R_size {v : Nat} {w : Int32} (cx : fX rn_R cc nL p c s m args x) (hP : fP x S H) (hS : fS x H0 H locs) (hv : fv x 13 i) (hw : w = nI v) (hd : decode cc pc = .ok (.putfield 17, 3)) (kk : ∀ (H1 : Heap) (locs1 : List Loc), fP x (sU S 13 i 1 v) H1 → fS x H0 H1 locs1 → W p l e R s m args below meth c H1 locs1 cells slots Q (F0 m (pc + 3) ls rest)) : W p l e R s m args below meth c H locs cells slots Q (F0 m pc ls (.int w :: .ref (xa x 13 i) :: rest)) := by subst hw; exact f_put cx hP hS (hv.at S) rfl rfl wf_R ty_R tk_R nm_R 1 (by decide) fl_R_R_size (fun _ h => h) rfl (ty := .int) (by decide +kernel) rfl rfl (Nat.le_of_ble_eq_true rfl) (by show fcr x 13 i (mI S 13 i) (mJ S 13 i) (mB S 13 i) (mA S 13 i) (mU (sU S 13 i 1 v) 13 i) = _; rw [mU_row]; rfl) fc_sU rfl hd kk
theorem p_S_L_bearsFragment {v : Bool} {w : Int32} (cx : fX rn_S cc nL p c s m args x) (hP : fP x S H) (hS : fS x H0 H locs) (hv : fvL x S a) (hw : w = b2 v) (hd : decode cc pc = .ok (.putfield 67, 3)) (kk : ∀ (H1 : Heap) (locs1 : List Loc), fP x (sB S 15 a 5 v) H1 → fS x H0 H1 locs1 → W p l e R s m args below meth c H1 locs1 cells slots Q (F0 m (pc + 3) ls rest)) : W p l e R s m args below meth c H locs cells slots Q (F0 m pc ls (.int w :: .ref a :: rest)) := by subst hw; exact f_put cx hP hS hv.at rfl rfl wf_L ty_L tk_L nm_L 5 (by decide) fl_S_L_bearsFragment (fun _ h => h) rfl (ty := .boolean) (by decide +kernel) (b2_nar v) (b2_fit v) (Nat.le_of_ble_eq_true rfl) (by show fcr x 15 a (mI S 15 a) (mJ S 15 a) (mB (sB S 15 a 5 v) 15 a) (mA S 15 a) (mU S 15 a) = _; rw [mB_row]; rfl) fc_sB rfl hd kk
theorem p_S_L_fragment {v : Int64} (cx : fX rn_S cc nL p c s m args x) (hP : fP x S H) (hS : fS x H0 H locs) (hv : fvL x S a) (hd : decode cc pc = .ok (.putfield 34, 3)) (kk : ∀ (H1 : Heap) (locs1 : List Loc), fP x (sJ S 15 a 3 v) H1 → fS x H0 H1 locs1 → W p l e R s m args below meth c H1 locs1 cells slots Q (F0 m (pc + 3) ls rest)) : W p l e R s m args below meth c H locs cells slots Q (F0 m pc ls (.long v :: .ref a :: rest)) := f_put cx hP hS hv.at rfl rfl wf_L ty_L tk_L nm_L 3 (by decide) fl_S_L_fragment (fun _ h => h) rfl (ty := .long) (by decide +kernel) rfl rfl (Nat.le_of_ble_eq_true rfl) (by show fcr x 15 a (mI S 15 a) (mJ (sJ S 15 a 3 v) 15 a) (mB S 15 a) (mA S 15 a) (mU S 15 a) = _; rw [mJ_row]; rfl) fc_sJ rfl hd kk
theorem p_S_L_seal {v : Int32} (cx : fX rn_S cc nL p c s m args x) (hP : fP x S H) (hS : fS x H0 H locs) (hv : fvL x S a) (hd : decode cc pc = .ok (.putfield 53, 3)) (kk : ∀ (H1 : Heap) (locs1 : List Loc), fP x (sI S 15 a 4 v) H1 → fS x H0 H1 locs1 → W p l e R s m args below meth c H1 locs1 cells slots Q (F0 m (pc + 3) ls rest)) : W p l e R s m args below meth c H locs cells slots Q (F0 m pc ls (.int v :: .ref a :: rest)) := f_put cx hP hS hv.at rfl rfl wf_L ty_L tk_L nm_L 4 (by decide) fl_S_L_seal (fun _ h => h) rfl (ty := .int) (by decide +kernel) rfl rfl (Nat.le_of_ble_eq_true rfl) (by show fcr x 15 a (mI (sI S 15 a 4 v) 15 a) (mJ S 15 a) (mB S 15 a) (mA S 15 a) (mU S 15 a) = _; rw [mI_row]; rfl) fc_sI rfl hd kk
theorem p_S_S_count {v : Nat} {w : Int32} (cx : fX rn_S cc nL p c s m args x) (hP : fP x S H) (hS : fS x H0 H locs) (hv : fv x 10 i) (hw : w = nI v) (hd : decode cc pc = .ok (.putfield 9, 3)) (kk : ∀ (H1 : Heap) (locs1 : List Loc), fP x (sU S 10 i 3 v) H1 → fS x H0 H1 locs1 → W p l e R s m args below meth c H1 locs1 cells slots Q (F0 m (pc + 3) ls rest)) : W p l e R s m args below meth c H locs cells slots Q (F0 m pc ls (.int w :: .ref (xa x 10 i) :: rest)) := by subst hw; exact f_put cx hP hS (hv.at S) rfl rfl wf_S ty_S tk_S nm_S 3 (by decide) fl_S_S_count (fun _ h => h) rfl (ty := .int) (by decide +kernel) rfl rfl (Nat.le_of_ble_eq_true rfl) (by show fcr x 10 i (mI S 10 i) (mJ S 10 i) (mB S 10 i) (mA S 10 i) (mU (sU S 10 i 3 v) 10 i) = _; rw [mU_row]; rfl) fc_sU rfl hd kk
theorem p_S_S_seal {v : Int32} (cx : fX rn_S cc nL p c s m args x) (hP : fP x S H) (hS : fS x H0 H locs) (hv : fv x 10 i) (hd : decode cc pc = .ok (.putfield 50, 3)) (kk : ∀ (H1 : Heap) (locs1 : List Loc), fP x (sI S 10 i 4 v) H1 → fS x H0 H1 locs1 → W p l e R s m args below meth c H1 locs1 cells slots Q (F0 m (pc + 3) ls rest)) : W p l e R s m args below meth c H locs cells slots Q (F0 m pc ls (.int v :: .ref (xa x 10 i) :: rest)) := f_put cx hP hS (hv.at S) rfl rfl wf_S ty_S tk_S nm_S 4 (by decide) fl_S_S_seal (fun _ h => h) rfl (ty := .int) (by decide +kernel) rfl rfl (Nat.le_of_ble_eq_true rfl) (by show fcr x 10 i (mI (sI S 10 i 4 v) 10 i) (mJ S 10 i) (mB S 10 i) (mA S 10 i) (mU S 10 i) = _; rw [mI_row]; rfl) fc_sI rfl hd kk
theorem p_X_C_block {v : Int64} (cx : fX rn_X cc nL p c s m args x) (hP : fP x S H) (hS : fS x H0 H locs) (hv : fv x 7 i) (hd : decode cc pc = .ok (.putfield 60, 3)) (kk : ∀ (H1 : Heap) (locs1 : List Loc), fP x (sJ S 7 i 10 v) H1 → fS x H0 H1 locs1 → W p l e R s m args below meth c H1 locs1 cells slots Q (F0 m (pc + 3) ls rest)) : W p l e R s m args below meth c H locs cells slots Q (F0 m pc ls (.long v :: .ref (xa x 7 i) :: rest)) := f_put cx hP hS (hv.at S) rfl rfl wf_C ty_C tk_C nm_C 10 (by decide) fl_X_C_block (fun _ h => h) rfl (ty := .long) (by decide +kernel) rfl rfl (Nat.le_of_ble_eq_true rfl) (by show fcr x 7 i (mI S 7 i) (mJ (sJ S 7 i 10 v) 7 i) (mB S 7 i) (mA S 7 i) (mU S 7 i) = _; rw [mJ_row]; rfl) fc_sJ rfl hd kk
theorem p_X_C_crashed {v : Bool} {w : Int32} (cx : fX rn_X cc nL p c s m args x) (hP : fP x S H) (hS : fS x H0 H locs) (hv : fv x 7 i) (hw : w = b2 v) (hd : decode cc pc = .ok (.putfield 72, 3)) (kk : ∀ (H1 : Heap) (locs1 : List Loc), fP x (sB S 7 i 4 v) H1 → fS x H0 H1 locs1 → W p l e R s m args below meth c H1 locs1 cells slots Q (F0 m (pc + 3) ls rest)) : W p l e R s m args below meth c H locs cells slots Q (F0 m pc ls (.int w :: .ref (xa x 7 i) :: rest)) := by subst hw; exact f_put cx hP hS (hv.at S) rfl rfl wf_C ty_C tk_C nm_C 4 (by decide) fl_X_C_crashed (fun _ h => h) rfl (ty := .boolean) (by decide +kernel) (b2_nar v) (b2_fit v) (Nat.le_of_ble_eq_true rfl) (by show fcr x 7 i (mI S 7 i) (mJ S 7 i) (mB (sB S 7 i 4 v) 7 i) (mA S 7 i) (mU S 7 i) = _; rw [mB_row]; rfl) fc_sB rfl hd kk
theorem p_X_C_result {v : Int64} (cx : fX rn_X cc nL p c s m args x) (hP : fP x S H) (hS : fS x H0 H locs) (hv : fv x 7 i) (hd : decode cc pc = .ok (.putfield 137, 3)) (kk : ∀ (H1 : Heap) (locs1 : List Loc), fP x (sJ S 7 i 11 v) H1 → fS x H0 H1 locs1 → W p l e R s m args below meth c H1 locs1 cells slots Q (F0 m (pc + 3) ls rest)) : W p l e R s m args below meth c H locs cells slots Q (F0 m pc ls (.long v :: .ref (xa x 7 i) :: rest)) := f_put cx hP hS (hv.at S) rfl rfl wf_C ty_C tk_C nm_C 11 (by decide) fl_X_C_result (fun _ h => h) rfl (ty := .long) (by decide +kernel) rfl rfl (Nat.le_of_ble_eq_true rfl) (by show fcr x 7 i (mI S 7 i) (mJ (sJ S 7 i 11 v) 7 i) (mB S 7 i) (mA S 7 i) (mU S 7 i) = _; rw [mJ_row]; rfl) fc_sJ rfl hd kk
theorem p_X_C_tag {v : Int32} (cx : fX rn_X cc nL p c s m args x) (hP : fP x S H) (hS : fS x H0 H locs) (hv : fv x 7 i) (hd : decode cc pc = .ok (.putfield 134, 3)) (kk : ∀ (H1 : Heap) (locs1 : List Loc), fP x (sI S 7 i 9 v) H1 → fS x H0 H1 locs1 → W p l e R s m args below meth c H1 locs1 cells slots Q (F0 m (pc + 3) ls rest)) : W p l e R s m args below meth c H locs cells slots Q (F0 m pc ls (.int v :: .ref (xa x 7 i) :: rest)) := f_put cx hP hS (hv.at S) rfl rfl wf_C ty_C tk_C nm_C 9 (by decide) fl_X_C_tag (fun _ h => h) rfl (ty := .int) (by decide +kernel) rfl rfl (Nat.le_of_ble_eq_true rfl) (by show fcr x 7 i (mI (sI S 7 i 9 v) 7 i) (mJ S 7 i) (mB S 7 i) (mA S 7 i) (mU S 7 i) = _; rw [mI_row]; rfl) fc_sI rfl hd kk
theorem p_X_L_fragment {v : Int64} (cx : fX rn_X cc nL p c s m args x) (hP : fP x S H) (hS : fS x H0 H locs) (hv : fvL x S a) (hd : decode cc pc = .ok (.putfield 199, 3)) (kk : ∀ (H1 : Heap) (locs1 : List Loc), fP x (sJ S 15 a 3 v) H1 → fS x H0 H1 locs1 → W p l e R s m args below meth c H1 locs1 cells slots Q (F0 m (pc + 3) ls rest)) : W p l e R s m args below meth c H locs cells slots Q (F0 m pc ls (.long v :: .ref a :: rest)) := f_put cx hP hS hv.at rfl rfl wf_L ty_L tk_L nm_L 3 (by decide) fl_X_L_fragment (fun _ h => h) rfl (ty := .long) (by decide +kernel) rfl rfl (Nat.le_of_ble_eq_true rfl) (by show fcr x 15 a (mI S 15 a) (mJ (sJ S 15 a 3 v) 15 a) (mB S 15 a) (mA S 15 a) (mU S 15 a) = _; rw [mJ_row]; rfl) fc_sJ rfl hd kk
theorem p_X_S_crashed {v : Bool} {w : Int32} (cx : fX rn_X cc nL p c s m args x) (hP : fP x S H) (hS : fS x H0 H locs) (hv : fv x 10 i) (hw : w = b2 v) (hd : decode cc pc = .ok (.putfield 123, 3)) (kk : ∀ (H1 : Heap) (locs1 : List Loc), fP x (sB S 10 i 5 v) H1 → fS x H0 H1 locs1 → W p l e R s m args below meth c H1 locs1 cells slots Q (F0 m (pc + 3) ls rest)) : W p l e R s m args below meth c H locs cells slots Q (F0 m pc ls (.int w :: .ref (xa x 10 i) :: rest)) := by subst hw; exact f_put cx hP hS (hv.at S) rfl rfl wf_S ty_S tk_S nm_S 5 (by decide) fl_X_S_crashed (fun _ h => h) rfl (ty := .boolean) (by decide +kernel) (b2_nar v) (b2_fit v) (Nat.le_of_ble_eq_true rfl) (by show fcr x 10 i (mI S 10 i) (mJ S 10 i) (mB (sB S 10 i 5 v) 10 i) (mA S 10 i) (mU S 10 i) = _; rw [mB_row]; rfl) fc_sB rfl hd kk
theorem p_X_X_crashes {v : Int32} (cx : fX rn_X cc nL p c s m args x) (hP : fP x S H) (hS : fS x H0 H locs) (hv : fv x 0 0) (hd : decode cc pc = .ok (.putfield 124, 3)) (kk : ∀ (H1 : Heap) (locs1 : List Loc), fP x (sI S 0 0 7 v) H1 → fS x H0 H1 locs1 → W p l e R s m args below meth c H1 locs1 cells slots Q (F0 m (pc + 3) ls rest)) : W p l e R s m args below meth c H locs cells slots Q (F0 m pc ls (.int v :: .ref (xa x 0 0) :: rest)) := f_put cx hP hS (hv.at S) rfl rfl wf_X ty_X tk_X nm_X 7 (by decide) fl_X_X_crashes (fun _ h => h) rfl (ty := .int) (by decide +kernel) rfl rfl (Nat.le_of_ble_eq_true rfl) (by show fcr x 0 0 (mI (sI S 0 0 7 v) 0 0) (mJ S 0 0) (mB S 0 0) (mA S 0 0) (mU S 0 0) = _; rw [mI_row]; rfl) fc_sI rfl hd kk
end FF
end
section
-- printed by wip/whole/gen/fields.py: a row for each call
section FC
variable {p : Program} {l : Launch} {e : Env} {R : Room} {s : State} {m : MethodId} {args : Array Value} {below : List Frame} {meth : Method} {c : Code} {H : Heap} {locs : List Loc} {cells slots : Nat} {Q : State → Prop}
variable {cc : ByteArray} {pc : Nat} {ls : Array Slot} {rest : List Value} {nL : Nat} {x : fy} {S : fm} {a i : Nat} {H0 : Heap}
theorem k_C_C_isAtWork {lv : List (Nat × Value)}  {r : Int32} {S' : fm} {rm : Room} {mc ms : Nat} (cx : fX rn_C cc nL p c s m args x) (hl : lv_has ls nL lv) (hP : fP x S H) (hS : fS x H0 H locs) (hv : fv x 7 i) (hM : Met l mn_C_isAtWork (gw_ws mn_C_isAtWork cb_C_isAtWork 1 (some .boolean)) rm (fPc x S [.ref (xa x 7 i)]) (fQi x S' r) mc ms (fun q => xs x ≤ q)) (hR : (rm.cells = mc ∧ rm.slots = ms) ∧ (rm.frames + 1 ≤ R.frames ∧ 8 + (1 + 11) + rm.locals ≤ R.locals) ∧ cells + mc ≤ R.cells ∧ slots + ms ≤ R.slots) (hst : (rest.map fun v => v.category).sum ≤ 8) (hd : decode cc pc = .ok (.invokevirtual 42, 3)) (kk : ∀ (H1 : Heap) (locs1 : List Loc), fP x S' H1 → fS x H0 H1 locs1 → W p l e R s m args below meth c H1 locs1 (cells + mc) (slots + ms) Q (F0 m (pc + 3) ls (.int r :: rest))) : W p l e R s m args below meth c H locs cells slots Q (F0 m pc ls (.ref (xa x 7 i) :: rest)) := f_calli (f_runV (n := 0) (ci := 0) (As := []) co_C_isAtWork ml_C_C_isAtWork im_C_isAtWork se_C_isAtWork in_C (by decide +kernel) rfl rfl cx hl hP (hv.at S) rfl hM hR.1.1 hR.1.2 hR.2.1 hR.2.2 hst hd) hS kk
theorem k_C_J_max {lv : List (Nat × Value)} {y z : Int32} (cx : fX rn_C cc nL p c s m args x) (hl : lv_has ls nL lv) (hR : 1 ≤ R.frames ∧ (rest.map fun v => v.category).sum + 13 ≤ R.locals ∧ cells ≤ R.cells ∧ slots ≤ R.slots) (hd : decode cc pc = .ok (.invokestatic 52, 3)) (kk : W p l e R s m args below meth c H locs cells slots Q (F0 m (pc + 3) ls (.int (if z < y then y else z) :: rest))) : W p l e R s m args below meth c H locs cells slots Q (F0 m pc ls (.int y :: .int z :: rest)) := va_mmax cx.1.1 cx.1.2.1 (by rw [cx.1.2.2.1]; exact hl.1.symm) cx.1.2.2.2.1 (cx.1.2.2.2.2 _ ml_C_J_max) (cx.1.2.2.2.2 _ st_J_max) (cx.1.2.2.2.2 _ in_J) (cx.1.2.2.2.2 _ co_J_max) hR.1 hR.2.1 hR.2.2.1 hR.2.2.2 hd kk
theorem k_K_K_byteAt {lv : List (Nat × Value)} {v0 : Int64} {v1 : Int32} {r : Int32} {S' : fm} {rm : Room} {mc ms : Nat} (cx : fX rn_K cc nL p c s m args x) (hl : lv_has ls nL lv) (hP : fP x S H) (hS : fS x H0 H locs)  (hM : Met l mn_K_byteAt (gw_ws mn_K_byteAt cb_K_byteAt 3 (some .int)) rm (fPc x S [.long v0, .int v1]) (fQi x S' r) mc ms (fun q => xs x ≤ q)) (hR : (rm.cells = mc ∧ rm.slots = ms) ∧ (rm.frames + 1 ≤ R.frames ∧ 8 + (3 + 11) + rm.locals ≤ R.locals) ∧ cells + mc ≤ R.cells ∧ slots + ms ≤ R.slots) (hst : (rest.map fun v => v.category).sum ≤ 8) (hd : decode cc pc = .ok (.invokestatic 30, 3)) (kk : ∀ (H1 : Heap) (locs1 : List Loc), fP x S' H1 → fS x H0 H1 locs1 → W p l e R s m args below meth c H1 locs1 (cells + mc) (slots + ms) Q (F0 m (pc + 3) ls (.int r :: rest))) : W p l e R s m args below meth c H locs cells slots Q (F0 m pc ls (.int v1 :: .long v0 :: rest)) := f_calli (f_runS (n := 2) (As := [.long v0, .int v1]) co_K_byteAt ml_K_K_byteAt st_K_byteAt in_K (by decide +kernel) rfl cx hl hP hM hR.1.1 hR.1.2 hR.2.1 hR.2.2 hst hd) hS kk
theorem k_K_K_interpolate {lv : List (Nat × Value)} {v0 : Nat} {S' : fm} {rm : Room} {mc ms : Nat} (cx : fX rn_K cc nL p c s m args x) (hl : lv_has ls nL lv) (hP : fP x S H) (hS : fS x H0 H locs) (hv : fv x 1 0) (hM : Met l mn_K_interpolate (gw_ws mn_K_interpolate cb_K_interpolate 5 none) rm (fPc x S [.ref (xa x 1 0), .ref v0]) (fQv x S') mc ms (fun q => xs x ≤ q)) (hR : (rm.cells = mc ∧ rm.slots = ms) ∧ (rm.frames + 1 ≤ R.frames ∧ 8 + (5 + 11) + rm.locals ≤ R.locals) ∧ cells + mc ≤ R.cells ∧ slots + ms ≤ R.slots) (hst : (rest.map fun v => v.category).sum ≤ 8) (hd : decode cc pc = .ok (.invokevirtual 38, 3)) (kk : ∀ (H1 : Heap) (locs1 : List Loc), fP x S' H1 → fS x H0 H1 locs1 → W p l e R s m args below meth c H1 locs1 (cells + mc) (slots + ms) Q (F0 m (pc + 3) ls (rest))) : W p l e R s m args below meth c H locs cells slots Q (F0 m pc ls (.ref v0 :: .ref (xa x 1 0) :: rest)) := f_callv (f_runV (n := 1) (ci := 1) (As := [.ref v0]) co_K_interpolate ml_K_K_interpolate im_K_interpolate se_K_interpolate in_K (by decide +kernel) rfl rfl cx hl hP (hv.at S) rfl hM hR.1.1 hR.1.2 hR.2.1 hR.2.2 hst hd) hS kk
theorem k_K_K_inverse {lv : List (Nat × Value)} {v0 : Int32} {r : Int32} {S' : fm} {rm : Room} {mc ms : Nat} (cx : fX rn_K cc nL p c s m args x) (hl : lv_has ls nL lv) (hP : fP x S H) (hS : fS x H0 H locs)  (hM : Met l mn_K_inverse (gw_ws mn_K_inverse cb_K_inverse 4 (some .int)) rm (fPc x S [.int v0]) (fQi x S' r) mc ms (fun q => xs x ≤ q)) (hR : (rm.cells = mc ∧ rm.slots = ms) ∧ (rm.frames + 1 ≤ R.frames ∧ 8 + (4 + 11) + rm.locals ≤ R.locals) ∧ cells + mc ≤ R.cells ∧ slots + ms ≤ R.slots) (hst : (rest.map fun v => v.category).sum ≤ 8) (hd : decode cc pc = .ok (.invokestatic 42, 3)) (kk : ∀ (H1 : Heap) (locs1 : List Loc), fP x S' H1 → fS x H0 H1 locs1 → W p l e R s m args below meth c H1 locs1 (cells + mc) (slots + ms) Q (F0 m (pc + 3) ls (.int r :: rest))) : W p l e R s m args below meth c H locs cells slots Q (F0 m pc ls (.int v0 :: rest)) := f_calli (f_runS (n := 1) (As := [.int v0]) co_K_inverse ml_K_K_inverse st_K_inverse in_K (by decide +kernel) rfl cx hl hP hM hR.1.1 hR.1.2 hR.2.1 hR.2.2 hst hd) hS kk
theorem k_K_K_placed {lv : List (Nat × Value)} {v0 : Int32} {v1 : Int32} {r : Int64} {S' : fm} {rm : Room} {mc ms : Nat} (cx : fX rn_K cc nL p c s m args x) (hl : lv_has ls nL lv) (hP : fP x S H) (hS : fS x H0 H locs)  (hM : Met l mn_K_placed (gw_ws mn_K_placed cb_K_placed 2 (some .long)) rm (fPc x S [.int v0, .int v1]) (fQl x S' r) mc ms (fun q => xs x ≤ q)) (hR : (rm.cells = mc ∧ rm.slots = ms) ∧ (rm.frames + 1 ≤ R.frames ∧ 8 + (2 + 11) + rm.locals ≤ R.locals) ∧ cells + mc ≤ R.cells ∧ slots + ms ≤ R.slots) (hst : (rest.map fun v => v.category).sum ≤ 8) (hd : decode cc pc = .ok (.invokestatic 34, 3)) (kk : ∀ (H1 : Heap) (locs1 : List Loc), fP x S' H1 → fS x H0 H1 locs1 → W p l e R s m args below meth c H1 locs1 (cells + mc) (slots + ms) Q (F0 m (pc + 3) ls (.long r :: rest))) : W p l e R s m args below meth c H locs cells slots Q (F0 m pc ls (.int v1 :: .int v0 :: rest)) := f_calll (f_runS (n := 2) (As := [.int v0, .int v1]) co_K_placed ml_K_K_placed st_K_placed in_K (by decide +kernel) rfl cx hl hP hM hR.1.1 hR.1.2 hR.2.1 hR.2.2 hst hd) hS kk
theorem k_K_K_pointOf {lv : List (Nat × Value)} {v0 : Int32} {r : Int32} {S' : fm} {rm : Room} {mc ms : Nat} (cx : fX rn_K cc nL p c s m args x) (hl : lv_has ls nL lv) (hP : fP x S H) (hS : fS x H0 H locs)  (hM : Met l mn_K_pointOf (gw_ws mn_K_pointOf cb_K_pointOf 1 (some .int)) rm (fPc x S [.int v0]) (fQi x S' r) mc ms (fun q => xs x ≤ q)) (hR : (rm.cells = mc ∧ rm.slots = ms) ∧ (rm.frames + 1 ≤ R.frames ∧ 8 + (1 + 11) + rm.locals ≤ R.locals) ∧ cells + mc ≤ R.cells ∧ slots + ms ≤ R.slots) (hst : (rest.map fun v => v.category).sum ≤ 8) (hd : decode cc pc = .ok (.invokestatic 22, 3)) (kk : ∀ (H1 : Heap) (locs1 : List Loc), fP x S' H1 → fS x H0 H1 locs1 → W p l e R s m args below meth c H1 locs1 (cells + mc) (slots + ms) Q (F0 m (pc + 3) ls (.int r :: rest))) : W p l e R s m args below meth c H locs cells slots Q (F0 m pc ls (.int v0 :: rest)) := f_calli (f_runS (n := 1) (As := [.int v0]) co_K_pointOf ml_K_K_pointOf st_K_pointOf in_K (by decide +kernel) rfl cx hl hP hM hR.1.1 hR.1.2 hR.2.1 hR.2.2 hst hd) hS kk
theorem k_K_K_times {lv : List (Nat × Value)} {v0 : Int32} {v1 : Int32} {r : Int32} {S' : fm} {rm : Room} {mc ms : Nat} (cx : fX rn_K cc nL p c s m args x) (hl : lv_has ls nL lv) (hP : fP x S H) (hS : fS x H0 H locs)  (hM : Met l mn_K_times (gw_ws mn_K_times cb_K_times 5 (some .int)) rm (fPc x S [.int v0, .int v1]) (fQi x S' r) mc ms (fun q => xs x ≤ q)) (hR : (rm.cells = mc ∧ rm.slots = ms) ∧ (rm.frames + 1 ≤ R.frames ∧ 8 + (5 + 11) + rm.locals ≤ R.locals) ∧ cells + mc ≤ R.cells ∧ slots + ms ≤ R.slots) (hst : (rest.map fun v => v.category).sum ≤ 8) (hd : decode cc pc = .ok (.invokestatic 26, 3)) (kk : ∀ (H1 : Heap) (locs1 : List Loc), fP x S' H1 → fS x H0 H1 locs1 → W p l e R s m args below meth c H1 locs1 (cells + mc) (slots + ms) Q (F0 m (pc + 3) ls (.int r :: rest))) : W p l e R s m args below meth c H locs cells slots Q (F0 m pc ls (.int v1 :: .int v0 :: rest)) := f_calli (f_runS (n := 2) (As := [.int v0, .int v1]) co_K_times ml_K_K_times st_K_times in_K (by decide +kernel) rfl cx hl hP hM hR.1.1 hR.1.2 hR.2.1 hR.2.2 hst hd) hS kk
theorem k_M_M_begin {lv : List (Nat × Value)} {v0 : Int32} {v1 : Int32} {S' : fm} {rm : Room} {mc ms : Nat} (cx : fX rn_M cc nL p c s m args x) (hl : lv_has ls nL lv) (hP : fP x S H) (hS : fS x H0 H locs) (hv : fv x 16 0) (hM : Met l mn_M_begin (gw_ws mn_M_begin cb_M_begin 4 none) rm (fPc x S [.ref (xa x 16 0), .int v0, .int v1]) (fQv x S') mc ms (fun q => xs x ≤ q)) (hR : (rm.cells = mc ∧ rm.slots = ms) ∧ (rm.frames + 1 ≤ R.frames ∧ 8 + (4 + 11) + rm.locals ≤ R.locals) ∧ cells + mc ≤ R.cells ∧ slots + ms ≤ R.slots) (hst : (rest.map fun v => v.category).sum ≤ 8) (hd : decode cc pc = .ok (.invokevirtual 116, 3)) (kk : ∀ (H1 : Heap) (locs1 : List Loc), fP x S' H1 → fS x H0 H1 locs1 → W p l e R s m args below meth c H1 locs1 (cells + mc) (slots + ms) Q (F0 m (pc + 3) ls (rest))) : W p l e R s m args below meth c H locs cells slots Q (F0 m pc ls (.int v1 :: .int v0 :: .ref (xa x 16 0) :: rest)) := f_callv (f_runV (n := 2) (ci := 6) (As := [.int v0, .int v1]) co_M_begin ml_M_M_begin im_M_begin se_M_begin in_M (by decide +kernel) rfl rfl cx hl hP (hv.at S) rfl hM hR.1.1 hR.1.2 hR.2.1 hR.2.2 hst hd) hS kk
theorem k_M_M_count {lv : List (Nat × Value)} {v0 : Int32} {v1 : Int32} {v2 : Int32} {r : Int32} {S' : fm} {rm : Room} {mc ms : Nat} (cx : fX rn_M cc nL p c s m args x) (hl : lv_has ls nL lv) (hP : fP x S H) (hS : fS x H0 H locs) (hv : fv x 16 0) (hM : Met l mn_M_count (gw_ws mn_M_count cb_M_count 6 (some .int)) rm (fPc x S [.ref (xa x 16 0), .int v0, .int v1, .int v2]) (fQi x S' r) mc ms (fun q => xs x ≤ q)) (hR : (rm.cells = mc ∧ rm.slots = ms) ∧ (rm.frames + 1 ≤ R.frames ∧ 8 + (6 + 11) + rm.locals ≤ R.locals) ∧ cells + mc ≤ R.cells ∧ slots + ms ≤ R.slots) (hst : (rest.map fun v => v.category).sum ≤ 8) (hd : decode cc pc = .ok (.invokevirtual 101, 3)) (kk : ∀ (H1 : Heap) (locs1 : List Loc), fP x S' H1 → fS x H0 H1 locs1 → W p l e R s m args below meth c H1 locs1 (cells + mc) (slots + ms) Q (F0 m (pc + 3) ls (.int r :: rest))) : W p l e R s m args below meth c H locs cells slots Q (F0 m pc ls (.int v2 :: .int v1 :: .int v0 :: .ref (xa x 16 0) :: rest)) := f_calli (f_runV (n := 3) (ci := 6) (As := [.int v0, .int v1, .int v2]) co_M_count ml_M_M_count im_M_count se_M_count in_M (by decide +kernel) rfl rfl cx hl hP (hv.at S) rfl hM hR.1.1 hR.1.2 hR.2.1 hR.2.2 hst hd) hS kk
theorem k_M_M_crowded {lv : List (Nat × Value)} {v0 : Int32} {r : Int32} {S' : fm} {rm : Room} {mc ms : Nat} (cx : fX rn_M cc nL p c s m args x) (hl : lv_has ls nL lv) (hP : fP x S H) (hS : fS x H0 H locs) (hv : fv x 16 0) (hM : Met l mn_M_crowded (gw_ws mn_M_crowded cb_M_crowded 5 (some .boolean)) rm (fPc x S [.ref (xa x 16 0), .int v0]) (fQi x S' r) mc ms (fun q => xs x ≤ q)) (hR : (rm.cells = mc ∧ rm.slots = ms) ∧ (rm.frames + 1 ≤ R.frames ∧ 8 + (5 + 11) + rm.locals ≤ R.locals) ∧ cells + mc ≤ R.cells ∧ slots + ms ≤ R.slots) (hst : (rest.map fun v => v.category).sum ≤ 8) (hd : decode cc pc = .ok (.invokevirtual 109, 3)) (kk : ∀ (H1 : Heap) (locs1 : List Loc), fP x S' H1 → fS x H0 H1 locs1 → W p l e R s m args below meth c H1 locs1 (cells + mc) (slots + ms) Q (F0 m (pc + 3) ls (.int r :: rest))) : W p l e R s m args below meth c H locs cells slots Q (F0 m pc ls (.int v0 :: .ref (xa x 16 0) :: rest)) := f_calli (f_runV (n := 1) (ci := 6) (As := [.int v0]) co_M_crowded ml_M_M_crowded im_M_crowded se_M_crowded in_M (by decide +kernel) rfl rfl cx hl hP (hv.at S) rfl hM hR.1.1 hR.1.2 hR.2.1 hR.2.2 hst hd) hS kk
theorem k_M_M_lose {lv : List (Nat × Value)} {v0 : Int32} {S' : fm} {rm : Room} {mc ms : Nat} (cx : fX rn_M cc nL p c s m args x) (hl : lv_has ls nL lv) (hP : fP x S H) (hS : fS x H0 H locs) (hv : fv x 16 0) (hM : Met l mn_M_lose (gw_ws mn_M_lose cb_M_lose 3 none) rm (fPc x S [.ref (xa x 16 0), .int v0]) (fQv x S') mc ms (fun q => xs x ≤ q)) (hR : (rm.cells = mc ∧ rm.slots = ms) ∧ (rm.frames + 1 ≤ R.frames ∧ 8 + (3 + 11) + rm.locals ≤ R.locals) ∧ cells + mc ≤ R.cells ∧ slots + ms ≤ R.slots) (hst : (rest.map fun v => v.category).sum ≤ 8) (hd : decode cc pc = .ok (.invokevirtual 132, 3)) (kk : ∀ (H1 : Heap) (locs1 : List Loc), fP x S' H1 → fS x H0 H1 locs1 → W p l e R s m args below meth c H1 locs1 (cells + mc) (slots + ms) Q (F0 m (pc + 3) ls (rest))) : W p l e R s m args below meth c H locs cells slots Q (F0 m pc ls (.int v0 :: .ref (xa x 16 0) :: rest)) := f_callv (f_runV (n := 1) (ci := 6) (As := [.int v0]) co_M_lose ml_M_M_lose im_M_lose se_M_lose in_M (by decide +kernel) rfl rfl cx hl hP (hv.at S) rfl hM hR.1.1 hR.1.2 hR.2.1 hR.2.2 hst hd) hS kk
theorem k_M_M_noClient {lv : List (Nat × Value)} {v0 : Int32} {r : Int32} {S' : fm} {rm : Room} {mc ms : Nat} (cx : fX rn_M cc nL p c s m args x) (hl : lv_has ls nL lv) (hP : fP x S H) (hS : fS x H0 H locs) (hv : fv x 16 0) (hM : Met l mn_M_noClient (gw_ws mn_M_noClient cb_M_noClient 2 (some .boolean)) rm (fPc x S [.ref (xa x 16 0), .int v0]) (fQi x S' r) mc ms (fun q => xs x ≤ q)) (hR : (rm.cells = mc ∧ rm.slots = ms) ∧ (rm.frames + 1 ≤ R.frames ∧ 8 + (2 + 11) + rm.locals ≤ R.locals) ∧ cells + mc ≤ R.cells ∧ slots + ms ≤ R.slots) (hst : (rest.map fun v => v.category).sum ≤ 8) (hd : decode cc pc = .ok (.invokevirtual 94, 3)) (kk : ∀ (H1 : Heap) (locs1 : List Loc), fP x S' H1 → fS x H0 H1 locs1 → W p l e R s m args below meth c H1 locs1 (cells + mc) (slots + ms) Q (F0 m (pc + 3) ls (.int r :: rest))) : W p l e R s m args below meth c H locs cells slots Q (F0 m pc ls (.int v0 :: .ref (xa x 16 0) :: rest)) := f_calli (f_runV (n := 1) (ci := 6) (As := [.int v0]) co_M_noClient ml_M_M_noClient im_M_noClient se_M_noClient in_M (by decide +kernel) rfl rfl cx hl hP (hv.at S) rfl hM hR.1.1 hR.1.2 hR.2.1 hR.2.2 hst hd) hS kk
theorem k_M_M_noServer {lv : List (Nat × Value)} {v0 : Int32} {r : Int32} {S' : fm} {rm : Room} {mc ms : Nat} (cx : fX rn_M cc nL p c s m args x) (hl : lv_has ls nL lv) (hP : fP x S H) (hS : fS x H0 H locs) (hv : fv x 16 0) (hM : Met l mn_M_noServer (gw_ws mn_M_noServer cb_M_noServer 2 (some .boolean)) rm (fPc x S [.ref (xa x 16 0), .int v0]) (fQi x S' r) mc ms (fun q => xs x ≤ q)) (hR : (rm.cells = mc ∧ rm.slots = ms) ∧ (rm.frames + 1 ≤ R.frames ∧ 8 + (2 + 11) + rm.locals ≤ R.locals) ∧ cells + mc ≤ R.cells ∧ slots + ms ≤ R.slots) (hst : (rest.map fun v => v.category).sum ≤ 8) (hd : decode cc pc = .ok (.invokevirtual 98, 3)) (kk : ∀ (H1 : Heap) (locs1 : List Loc), fP x S' H1 → fS x H0 H1 locs1 → W p l e R s m args below meth c H1 locs1 (cells + mc) (slots + ms) Q (F0 m (pc + 3) ls (.int r :: rest))) : W p l e R s m args below meth c H locs cells slots Q (F0 m pc ls (.int v0 :: .ref (xa x 16 0) :: rest)) := f_calli (f_runV (n := 1) (ci := 6) (As := [.int v0]) co_M_noServer ml_M_M_noServer im_M_noServer se_M_noServer in_M (by decide +kernel) rfl rfl cx hl hP (hv.at S) rfl hM hR.1.1 hR.1.2 hR.2.1 hR.2.2 hst hd) hS kk
theorem k_M_M_onwards {lv : List (Nat × Value)} {v0 : Int32} {r : Int32} {S' : fm} {rm : Room} {mc ms : Nat} (cx : fX rn_M cc nL p c s m args x) (hl : lv_has ls nL lv) (hP : fP x S H) (hS : fS x H0 H locs) (hv : fv x 16 0) (hM : Met l mn_M_onwards (gw_ws mn_M_onwards cb_M_onwards 3 (some .int)) rm (fPc x S [.ref (xa x 16 0), .int v0]) (fQi x S' r) mc ms (fun q => xs x ≤ q)) (hR : (rm.cells = mc ∧ rm.slots = ms) ∧ (rm.frames + 1 ≤ R.frames ∧ 8 + (3 + 11) + rm.locals ≤ R.locals) ∧ cells + mc ≤ R.cells ∧ slots + ms ≤ R.slots) (hst : (rest.map fun v => v.category).sum ≤ 8) (hd : decode cc pc = .ok (.invokevirtual 140, 3)) (kk : ∀ (H1 : Heap) (locs1 : List Loc), fP x S' H1 → fS x H0 H1 locs1 → W p l e R s m args below meth c H1 locs1 (cells + mc) (slots + ms) Q (F0 m (pc + 3) ls (.int r :: rest))) : W p l e R s m args below meth c H locs cells slots Q (F0 m pc ls (.int v0 :: .ref (xa x 16 0) :: rest)) := f_calli (f_runV (n := 1) (ci := 6) (As := [.int v0]) co_M_onwards ml_M_M_onwards im_M_onwards se_M_onwards in_M (by decide +kernel) rfl rfl cx hl hP (hv.at S) rfl hM hR.1.1 hR.1.2 hR.2.1 hR.2.2 hst hd) hS kk
theorem k_M_M_place {lv : List (Nat × Value)} {v0 : Int32} {v1 : Int32} {r : Int32} {S' : fm} {rm : Room} {mc ms : Nat} (cx : fX rn_M cc nL p c s m args x) (hl : lv_has ls nL lv) (hP : fP x S H) (hS : fS x H0 H locs) (hv : fv x 16 0) (hM : Met l mn_M_place (gw_ws mn_M_place cb_M_place 4 (some .int)) rm (fPc x S [.ref (xa x 16 0), .int v0, .int v1]) (fQi x S' r) mc ms (fun q => xs x ≤ q)) (hR : (rm.cells = mc ∧ rm.slots = ms) ∧ (rm.frames + 1 ≤ R.frames ∧ 8 + (4 + 11) + rm.locals ≤ R.locals) ∧ cells + mc ≤ R.cells ∧ slots + ms ≤ R.slots) (hst : (rest.map fun v => v.category).sum ≤ 8) (hd : decode cc pc = .ok (.invokevirtual 124, 3)) (kk : ∀ (H1 : Heap) (locs1 : List Loc), fP x S' H1 → fS x H0 H1 locs1 → W p l e R s m args below meth c H1 locs1 (cells + mc) (slots + ms) Q (F0 m (pc + 3) ls (.int r :: rest))) : W p l e R s m args below meth c H locs cells slots Q (F0 m pc ls (.int v1 :: .int v0 :: .ref (xa x 16 0) :: rest)) := f_calli (f_runV (n := 2) (ci := 6) (As := [.int v0, .int v1]) co_M_place ml_M_M_place im_M_place se_M_place in_M (by decide +kernel) rfl rfl cx hl hP (hv.at S) rfl hM hR.1.1 hR.1.2 hR.2.1 hR.2.2 hst hd) hS kk
theorem k_M_M_product {lv : List (Nat × Value)} {v0 : Int32} {v1 : Int32} {r : Int32} {S' : fm} {rm : Room} {mc ms : Nat} (cx : fX rn_M cc nL p c s m args x) (hl : lv_has ls nL lv) (hP : fP x S H) (hS : fS x H0 H locs) (hv : fv x 16 0) (hM : Met l mn_M_product (gw_ws mn_M_product cb_M_product 5 (some .int)) rm (fPc x S [.ref (xa x 16 0), .int v0, .int v1]) (fQi x S' r) mc ms (fun q => xs x ≤ q)) (hR : (rm.cells = mc ∧ rm.slots = ms) ∧ (rm.frames + 1 ≤ R.frames ∧ 8 + (5 + 11) + rm.locals ≤ R.locals) ∧ cells + mc ≤ R.cells ∧ slots + ms ≤ R.slots) (hst : (rest.map fun v => v.category).sum ≤ 8) (hd : decode cc pc = .ok (.invokevirtual 145, 3)) (kk : ∀ (H1 : Heap) (locs1 : List Loc), fP x S' H1 → fS x H0 H1 locs1 → W p l e R s m args below meth c H1 locs1 (cells + mc) (slots + ms) Q (F0 m (pc + 3) ls (.int r :: rest))) : W p l e R s m args below meth c H locs cells slots Q (F0 m pc ls (.int v1 :: .int v0 :: .ref (xa x 16 0) :: rest)) := f_calli (f_runV (n := 2) (ci := 6) (As := [.int v0, .int v1]) co_M_product ml_M_M_product im_M_product se_M_product in_M (by decide +kernel) rfl rfl cx hl hP (hv.at S) rfl hM hR.1.1 hR.1.2 hR.2.1 hR.2.2 hst hd) hS kk
theorem k_M_M_quorum {lv : List (Nat × Value)}  {r : Int32} {S' : fm} {rm : Room} {mc ms : Nat} (cx : fX rn_M cc nL p c s m args x) (hl : lv_has ls nL lv) (hP : fP x S H) (hS : fS x H0 H locs) (hv : fv x 16 0) (hM : Met l mn_M_quorum (gw_ws mn_M_quorum cb_M_quorum 1 (some .int)) rm (fPc x S [.ref (xa x 16 0)]) (fQi x S' r) mc ms (fun q => xs x ≤ q)) (hR : (rm.cells = mc ∧ rm.slots = ms) ∧ (rm.frames + 1 ≤ R.frames ∧ 8 + (1 + 11) + rm.locals ≤ R.locals) ∧ cells + mc ≤ R.cells ∧ slots + ms ≤ R.slots) (hst : (rest.map fun v => v.category).sum ≤ 8) (hd : decode cc pc = .ok (.invokevirtual 120, 3)) (kk : ∀ (H1 : Heap) (locs1 : List Loc), fP x S' H1 → fS x H0 H1 locs1 → W p l e R s m args below meth c H1 locs1 (cells + mc) (slots + ms) Q (F0 m (pc + 3) ls (.int r :: rest))) : W p l e R s m args below meth c H locs cells slots Q (F0 m pc ls (.ref (xa x 16 0) :: rest)) := f_calli (f_runV (n := 0) (ci := 6) (As := []) co_M_quorum ml_M_M_quorum im_M_quorum se_M_quorum in_M (by decide +kernel) rfl rfl cx hl hP (hv.at S) rfl hM hR.1.1 hR.1.2 hR.2.1 hR.2.2 hst hd) hS kk
theorem k_M_M_refusal {lv : List (Nat × Value)} {v0 : Int32} {r : Int32} {S' : fm} {rm : Room} {mc ms : Nat} (cx : fX rn_M cc nL p c s m args x) (hl : lv_has ls nL lv) (hP : fP x S H) (hS : fS x H0 H locs) (hv : fv x 16 0) (hM : Met l mn_M_refusal (gw_ws mn_M_refusal cb_M_refusal 2 (some .int)) rm (fPc x S [.ref (xa x 16 0), .int v0]) (fQi x S' r) mc ms (fun q => xs x ≤ q)) (hR : (rm.cells = mc ∧ rm.slots = ms) ∧ (rm.frames + 1 ≤ R.frames ∧ 8 + (2 + 11) + rm.locals ≤ R.locals) ∧ cells + mc ≤ R.cells ∧ slots + ms ≤ R.slots) (hst : (rest.map fun v => v.category).sum ≤ 8) (hd : decode cc pc = .ok (.invokevirtual 112, 3)) (kk : ∀ (H1 : Heap) (locs1 : List Loc), fP x S' H1 → fS x H0 H1 locs1 → W p l e R s m args below meth c H1 locs1 (cells + mc) (slots + ms) Q (F0 m (pc + 3) ls (.int r :: rest))) : W p l e R s m args below meth c H locs cells slots Q (F0 m pc ls (.int v0 :: .ref (xa x 16 0) :: rest)) := f_calli (f_runV (n := 1) (ci := 6) (As := [.int v0]) co_M_refusal ml_M_M_refusal im_M_refusal se_M_refusal in_M (by decide +kernel) rfl rfl cx hl hP (hv.at S) rfl hM hR.1.1 hR.1.2 hR.2.1 hR.2.2 hst hd) hS kk
theorem k_M_M_seek {lv : List (Nat × Value)} {v0 : Int32} {v1 : Int32} {v2 : Int32} {v3 : Int32} {r : Int32} {S' : fm} {rm : Room} {mc ms : Nat} (cx : fX rn_M cc nL p c s m args x) (hl : lv_has ls nL lv) (hP : fP x S H) (hS : fS x H0 H locs) (hv : fv x 16 0) (hM : Met l mn_M_seek (gw_ws mn_M_seek cb_M_seek 7 (some .int)) rm (fPc x S [.ref (xa x 16 0), .int v0, .int v1, .int v2, .int v3]) (fQi x S' r) mc ms (fun q => xs x ≤ q)) (hR : (rm.cells = mc ∧ rm.slots = ms) ∧ (rm.frames + 1 ≤ R.frames ∧ 8 + (7 + 11) + rm.locals ≤ R.locals) ∧ cells + mc ≤ R.cells ∧ slots + ms ≤ R.slots) (hst : (rest.map fun v => v.category).sum ≤ 8) (hd : decode cc pc = .ok (.invokevirtual 128, 3)) (kk : ∀ (H1 : Heap) (locs1 : List Loc), fP x S' H1 → fS x H0 H1 locs1 → W p l e R s m args below meth c H1 locs1 (cells + mc) (slots + ms) Q (F0 m (pc + 3) ls (.int r :: rest))) : W p l e R s m args below meth c H locs cells slots Q (F0 m pc ls (.int v3 :: .int v2 :: .int v1 :: .int v0 :: .ref (xa x 16 0) :: rest)) := f_calli (f_runV (n := 4) (ci := 6) (As := [.int v0, .int v1, .int v2, .int v3]) co_M_seek ml_M_M_seek im_M_seek se_M_seek in_M (by decide +kernel) rfl rfl cx hl hP (hv.at S) rfl hM hR.1.1 hR.1.2 hR.2.1 hR.2.2 hst hd) hS kk
theorem k_M_M_send {lv : List (Nat × Value)} {v0 : Int32} {v1 : Int32} {v2 : Int32} {v3 : Int32} {v4 : Int32} {S' : fm} {rm : Room} {mc ms : Nat} (cx : fX rn_M cc nL p c s m args x) (hl : lv_has ls nL lv) (hP : fP x S H) (hS : fS x H0 H locs) (hv : fv x 16 0) (hM : Met l mn_M_send (gw_ws mn_M_send cb_M_send 6 none) rm (fPc x S [.ref (xa x 16 0), .int v0, .int v1, .int v2, .int v3, .int v4]) (fQv x S') mc ms (fun q => xs x ≤ q)) (hR : (rm.cells = mc ∧ rm.slots = ms) ∧ (rm.frames + 1 ≤ R.frames ∧ 8 + (6 + 11) + rm.locals ≤ R.locals) ∧ cells + mc ≤ R.cells ∧ slots + ms ≤ R.slots) (hst : (rest.map fun v => v.category).sum ≤ 8) (hd : decode cc pc = .ok (.invokevirtual 105, 3)) (kk : ∀ (H1 : Heap) (locs1 : List Loc), fP x S' H1 → fS x H0 H1 locs1 → W p l e R s m args below meth c H1 locs1 (cells + mc) (slots + ms) Q (F0 m (pc + 3) ls (rest))) : W p l e R s m args below meth c H locs cells slots Q (F0 m pc ls (.int v4 :: .int v3 :: .int v2 :: .int v1 :: .int v0 :: .ref (xa x 16 0) :: rest)) := f_callv (f_runV (n := 5) (ci := 6) (As := [.int v0, .int v1, .int v2, .int v3, .int v4]) co_M_send ml_M_M_send im_M_send se_M_send in_M (by decide +kernel) rfl rfl cx hl hP (hv.at S) rfl hM hR.1.1 hR.1.2 hR.2.1 hR.2.2 hst hd) hS kk
theorem k_M_M_store {lv : List (Nat × Value)} {v0 : Int32} {v1 : Int32} {v2 : Int64} {S' : fm} {rm : Room} {mc ms : Nat} (cx : fX rn_M cc nL p c s m args x) (hl : lv_has ls nL lv) (hP : fP x S H) (hS : fS x H0 H locs) (hv : fv x 16 0) (hM : Met l mn_M_store (gw_ws mn_M_store cb_M_store 8 none) rm (fPc x S [.ref (xa x 16 0), .int v0, .int v1, .long v2]) (fQv x S') mc ms (fun q => xs x ≤ q)) (hR : (rm.cells = mc ∧ rm.slots = ms) ∧ (rm.frames + 1 ≤ R.frames ∧ 8 + (8 + 11) + rm.locals ≤ R.locals) ∧ cells + mc ≤ R.cells ∧ slots + ms ≤ R.slots) (hst : (rest.map fun v => v.category).sum ≤ 8) (hd : decode cc pc = .ok (.invokevirtual 136, 3)) (kk : ∀ (H1 : Heap) (locs1 : List Loc), fP x S' H1 → fS x H0 H1 locs1 → W p l e R s m args below meth c H1 locs1 (cells + mc) (slots + ms) Q (F0 m (pc + 3) ls (rest))) : W p l e R s m args below meth c H locs cells slots Q (F0 m pc ls (.long v2 :: .int v1 :: .int v0 :: .ref (xa x 16 0) :: rest)) := f_callv (f_runV (n := 3) (ci := 6) (As := [.int v0, .int v1, .long v2]) co_M_store ml_M_M_store im_M_store se_M_store in_M (by decide +kernel) rfl rfl cx hl hP (hv.at S) rfl hM hR.1.1 hR.1.2 hR.2.1 hR.2.2 hst hd) hS kk
theorem k_S_J_max {lv : List (Nat × Value)} {y z : Int32} (cx : fX rn_S cc nL p c s m args x) (hl : lv_has ls nL lv) (hR : 1 ≤ R.frames ∧ (rest.map fun v => v.category).sum + 13 ≤ R.locals ∧ cells ≤ R.cells ∧ slots ≤ R.slots) (hd : decode cc pc = .ok (.invokestatic 60, 3)) (kk : W p l e R s m args below meth c H locs cells slots Q (F0 m (pc + 3) ls (.int (if z < y then y else z) :: rest))) : W p l e R s m args below meth c H locs cells slots Q (F0 m pc ls (.int y :: .int z :: rest)) := va_mmax cx.1.1 cx.1.2.1 (by rw [cx.1.2.2.1]; exact hl.1.symm) cx.1.2.2.2.1 (cx.1.2.2.2.2 _ ml_S_J_max) (cx.1.2.2.2.2 _ st_J_max) (cx.1.2.2.2.2 _ in_J) (cx.1.2.2.2.2 _ co_J_max) hR.1 hR.2.1 hR.2.2.1 hR.2.2.2 hd kk
theorem k_S_J_min {lv : List (Nat × Value)} {y z : Int32} (cx : fX rn_S cc nL p c s m args x) (hl : lv_has ls nL lv) (hR : 1 ≤ R.frames ∧ (rest.map fun v => v.category).sum + 13 ≤ R.locals ∧ cells ≤ R.cells ∧ slots ≤ R.slots) (hd : decode cc pc = .ok (.invokestatic 54, 3)) (kk : W p l e R s m args below meth c H locs cells slots Q (F0 m (pc + 3) ls (.int (if y < z then y else z) :: rest))) : W p l e R s m args below meth c H locs cells slots Q (F0 m pc ls (.int y :: .int z :: rest)) := va_mmin cx.1.1 cx.1.2.1 (by rw [cx.1.2.2.1]; exact hl.1.symm) cx.1.2.2.2.1 (cx.1.2.2.2.2 _ ml_S_J_min) (cx.1.2.2.2.2 _ st_J_min) (cx.1.2.2.2.2 _ in_J) (cx.1.2.2.2.2 _ co_J_min) hR.1 hR.2.1 hR.2.2.1 hR.2.2.2 hd kk
theorem k_S_S_enclose {lv : List (Nat × Value)} {v0 : Nat} {S' : fm} {rm : Room} {mc ms : Nat} (cx : fX rn_S cc nL p c s m args x) (hl : lv_has ls nL lv) (hP : fP x S H) (hS : fS x H0 H locs) (hv : fv x 10 i) (hM : Met l mn_S_enclose (gw_ws mn_S_enclose cb_S_enclose 3 none) rm (fPc x S [.ref (xa x 10 i), .ref v0]) (fQv x S') mc ms (fun q => xs x ≤ q)) (hR : (rm.cells = mc ∧ rm.slots = ms) ∧ (rm.frames + 1 ≤ R.frames ∧ 8 + (3 + 11) + rm.locals ≤ R.locals) ∧ cells + mc ≤ R.cells ∧ slots + ms ≤ R.slots) (hst : (rest.map fun v => v.category).sum ≤ 8) (hd : decode cc pc = .ok (.invokevirtual 46, 3)) (kk : ∀ (H1 : Heap) (locs1 : List Loc), fP x S' H1 → fS x H0 H1 locs1 → W p l e R s m args below meth c H1 locs1 (cells + mc) (slots + ms) Q (F0 m (pc + 3) ls (rest))) : W p l e R s m args below meth c H locs cells slots Q (F0 m pc ls (.ref v0 :: .ref (xa x 10 i) :: rest)) := f_callv (f_runV (n := 1) (ci := 4) (As := [.ref v0]) co_S_enclose ml_S_S_enclose im_S_enclose se_S_enclose in_S (by decide +kernel) rfl rfl cx hl hP (hv.at S) rfl hM hR.1.1 hR.1.2 hR.2.1 hR.2.2 hst hd) hS kk
theorem k_S_S_placeOf {lv : List (Nat × Value)} {v0 : Int32} {r : Int32} {S' : fm} {rm : Room} {mc ms : Nat} (cx : fX rn_S cc nL p c s m args x) (hl : lv_has ls nL lv) (hP : fP x S H) (hS : fS x H0 H locs) (hv : fv x 10 i) (hM : Met l mn_S_placeOf (gw_ws mn_S_placeOf cb_S_placeOf 3 (some .int)) rm (fPc x S [.ref (xa x 10 i), .int v0]) (fQi x S' r) mc ms (fun q => xs x ≤ q)) (hR : (rm.cells = mc ∧ rm.slots = ms) ∧ (rm.frames + 1 ≤ R.frames ∧ 8 + (3 + 11) + rm.locals ≤ R.locals) ∧ cells + mc ≤ R.cells ∧ slots + ms ≤ R.slots) (hst : (rest.map fun v => v.category).sum ≤ 8) (hd : decode cc pc = .ok (.invokevirtual 63, 3)) (kk : ∀ (H1 : Heap) (locs1 : List Loc), fP x S' H1 → fS x H0 H1 locs1 → W p l e R s m args below meth c H1 locs1 (cells + mc) (slots + ms) Q (F0 m (pc + 3) ls (.int r :: rest))) : W p l e R s m args below meth c H locs cells slots Q (F0 m pc ls (.int v0 :: .ref (xa x 10 i) :: rest)) := f_calli (f_runV (n := 1) (ci := 4) (As := [.int v0]) co_S_placeOf ml_S_S_placeOf im_S_placeOf se_S_placeOf in_S (by decide +kernel) rfl rfl cx hl hP (hv.at S) rfl hM hR.1.1 hR.1.2 hR.2.1 hR.2.2 hst hd) hS kk
theorem k_S_S_raiseSeal {lv : List (Nat × Value)} {v0 : Int32} {S' : fm} {rm : Room} {mc ms : Nat} (cx : fX rn_S cc nL p c s m args x) (hl : lv_has ls nL lv) (hP : fP x S H) (hS : fS x H0 H locs) (hv : fv x 10 i) (hM : Met l mn_S_raiseSeal (gw_ws mn_S_raiseSeal cb_S_raiseSeal 2 none) rm (fPc x S [.ref (xa x 10 i), .int v0]) (fQv x S') mc ms (fun q => xs x ≤ q)) (hR : (rm.cells = mc ∧ rm.slots = ms) ∧ (rm.frames + 1 ≤ R.frames ∧ 8 + (2 + 11) + rm.locals ≤ R.locals) ∧ cells + mc ≤ R.cells ∧ slots + ms ≤ R.slots) (hst : (rest.map fun v => v.category).sum ≤ 8) (hd : decode cc pc = .ok (.invokevirtual 42, 3)) (kk : ∀ (H1 : Heap) (locs1 : List Loc), fP x S' H1 → fS x H0 H1 locs1 → W p l e R s m args below meth c H1 locs1 (cells + mc) (slots + ms) Q (F0 m (pc + 3) ls (rest))) : W p l e R s m args below meth c H locs cells slots Q (F0 m pc ls (.int v0 :: .ref (xa x 10 i) :: rest)) := f_callv (f_runV (n := 1) (ci := 4) (As := [.int v0]) co_S_raiseSeal ml_S_S_raiseSeal im_S_raiseSeal se_S_raiseSeal in_S (by decide +kernel) rfl rfl cx hl hP (hv.at S) rfl hM hR.1.1 hR.1.2 hR.2.1 hR.2.2 hst hd) hS kk
theorem k_S_S_store {lv : List (Nat × Value)} {v0 : Int32} {v1 : Int64} {S' : fm} {rm : Room} {mc ms : Nat} (cx : fX rn_S cc nL p c s m args x) (hl : lv_has ls nL lv) (hP : fP x S H) (hS : fS x H0 H locs) (hv : fv x 10 i) (hM : Met l mn_S_store (gw_ws mn_S_store cb_S_store 5 none) rm (fPc x S [.ref (xa x 10 i), .int v0, .long v1]) (fQv x S') mc ms (fun q => xs x ≤ q)) (hR : (rm.cells = mc ∧ rm.slots = ms) ∧ (rm.frames + 1 ≤ R.frames ∧ 8 + (5 + 11) + rm.locals ≤ R.locals) ∧ cells + mc ≤ R.cells ∧ slots + ms ≤ R.slots) (hst : (rest.map fun v => v.category).sum ≤ 8) (hd : decode cc pc = .ok (.invokevirtual 38, 3)) (kk : ∀ (H1 : Heap) (locs1 : List Loc), fP x S' H1 → fS x H0 H1 locs1 → W p l e R s m args below meth c H1 locs1 (cells + mc) (slots + ms) Q (F0 m (pc + 3) ls (rest))) : W p l e R s m args below meth c H locs cells slots Q (F0 m pc ls (.long v1 :: .int v0 :: .ref (xa x 10 i) :: rest)) := f_callv (f_runV (n := 2) (ci := 4) (As := [.int v0, .long v1]) co_S_store ml_S_S_store im_S_store se_S_store in_S (by decide +kernel) rfl rfl cx hl hP (hv.at S) rfl hM hR.1.1 hR.1.2 hR.2.1 hR.2.2 hst hd) hS kk
theorem k_W_M_again {lv : List (Nat × Value)} {v0 : Int32} {r : Int32} {S' : fm} {rm : Room} {mc ms : Nat} (cx : fX rn_W cc nL p c s m args x) (hl : lv_has ls nL lv) (hP : fP x S H) (hS : fS x H0 H locs) (hv : fv x 16 0) (hM : Met l mn_M_again (gw_ws mn_M_again cb_M_again 2 (some .int)) rm (fPc x S [.ref (xa x 16 0), .int v0]) (fQi x S' r) mc ms (fun q => xs x ≤ q)) (hR : (rm.cells = mc ∧ rm.slots = ms) ∧ (rm.frames + 1 ≤ R.frames ∧ 8 + (2 + 11) + rm.locals ≤ R.locals) ∧ cells + mc ≤ R.cells ∧ slots + ms ≤ R.slots) (hst : (rest.map fun v => v.category).sum ≤ 8) (hd : decode cc pc = .ok (.invokevirtual 36, 3)) (kk : ∀ (H1 : Heap) (locs1 : List Loc), fP x S' H1 → fS x H0 H1 locs1 → W p l e R s m args below meth c H1 locs1 (cells + mc) (slots + ms) Q (F0 m (pc + 3) ls (.int r :: rest))) : W p l e R s m args below meth c H locs cells slots Q (F0 m pc ls (.int v0 :: .ref (xa x 16 0) :: rest)) := f_calli (f_runV (n := 1) (ci := 6) (As := [.int v0]) co_M_again ml_W_M_again im_M_again se_M_again in_M (by decide +kernel) rfl rfl cx hl hP (hv.at S) rfl hM hR.1.1 hR.1.2 hR.2.1 hR.2.2 hst hd) hS kk
theorem k_W_M_crash {lv : List (Nat × Value)} {v0 : Int32} {r : Int32} {S' : fm} {rm : Room} {mc ms : Nat} (cx : fX rn_W cc nL p c s m args x) (hl : lv_has ls nL lv) (hP : fP x S H) (hS : fS x H0 H locs) (hv : fv x 16 0) (hM : Met l mn_M_crash (gw_ws mn_M_crash cb_M_crash 4 (some .boolean)) rm (fPc x S [.ref (xa x 16 0), .int v0]) (fQi x S' r) mc ms (fun q => xs x ≤ q)) (hR : (rm.cells = mc ∧ rm.slots = ms) ∧ (rm.frames + 1 ≤ R.frames ∧ 8 + (4 + 11) + rm.locals ≤ R.locals) ∧ cells + mc ≤ R.cells ∧ slots + ms ≤ R.slots) (hst : (rest.map fun v => v.category).sum ≤ 8) (hd : decode cc pc = .ok (.invokevirtual 50, 3)) (kk : ∀ (H1 : Heap) (locs1 : List Loc), fP x S' H1 → fS x H0 H1 locs1 → W p l e R s m args below meth c H1 locs1 (cells + mc) (slots + ms) Q (F0 m (pc + 3) ls (.int r :: rest))) : W p l e R s m args below meth c H locs cells slots Q (F0 m pc ls (.int v0 :: .ref (xa x 16 0) :: rest)) := f_calli (f_runV (n := 1) (ci := 6) (As := [.int v0]) co_M_crash ml_W_M_crash im_M_crash se_M_crash in_M (by decide +kernel) rfl rfl cx hl hP (hv.at S) rfl hM hR.1.1 hR.1.2 hR.2.1 hR.2.2 hst hd) hS kk
theorem k_W_M_deliver {lv : List (Nat × Value)} {v0 : Int32} {v1 : Int32} {v2 : Int32} {r : Int32} {S' : fm} {rm : Room} {mc ms : Nat} (cx : fX rn_W cc nL p c s m args x) (hl : lv_has ls nL lv) (hP : fP x S H) (hS : fS x H0 H locs) (hv : fv x 16 0) (hM : Met l mn_M_deliver (gw_ws mn_M_deliver cb_M_deliver 11 (some .int)) rm (fPc x S [.ref (xa x 16 0), .int v0, .int v1, .int v2]) (fQi x S' r) mc ms (fun q => xs x ≤ q)) (hR : (rm.cells = mc ∧ rm.slots = ms) ∧ (rm.frames + 1 ≤ R.frames ∧ 8 + (11 + 11) + rm.locals ≤ R.locals) ∧ cells + mc ≤ R.cells ∧ slots + ms ≤ R.slots) (hst : (rest.map fun v => v.category).sum ≤ 8) (hd : decode cc pc = .ok (.invokevirtual 41, 3)) (kk : ∀ (H1 : Heap) (locs1 : List Loc), fP x S' H1 → fS x H0 H1 locs1 → W p l e R s m args below meth c H1 locs1 (cells + mc) (slots + ms) Q (F0 m (pc + 3) ls (.int r :: rest))) : W p l e R s m args below meth c H locs cells slots Q (F0 m pc ls (.int v2 :: .int v1 :: .int v0 :: .ref (xa x 16 0) :: rest)) := f_calli (f_runV (n := 3) (ci := 6) (As := [.int v0, .int v1, .int v2]) co_M_deliver ml_W_M_deliver im_M_deliver se_M_deliver in_M (by decide +kernel) rfl rfl cx hl hP (hv.at S) rfl hM hR.1.1 hR.1.2 hR.2.1 hR.2.2 hst hd) hS kk
theorem k_W_M_finished {lv : List (Nat × Value)} {v0 : Int32} {r : Int32} {S' : fm} {rm : Room} {mc ms : Nat} (cx : fX rn_W cc nL p c s m args x) (hl : lv_has ls nL lv) (hP : fP x S H) (hS : fS x H0 H locs) (hv : fv x 16 0) (hM : Met l mn_M_finished (gw_ws mn_M_finished cb_M_finished 2 (some .int)) rm (fPc x S [.ref (xa x 16 0), .int v0]) (fQi x S' r) mc ms (fun q => xs x ≤ q)) (hR : (rm.cells = mc ∧ rm.slots = ms) ∧ (rm.frames + 1 ≤ R.frames ∧ 8 + (2 + 11) + rm.locals ≤ R.locals) ∧ cells + mc ≤ R.cells ∧ slots + ms ≤ R.slots) (hst : (rest.map fun v => v.category).sum ≤ 8) (hd : decode cc pc = .ok (.invokevirtual 75, 3)) (kk : ∀ (H1 : Heap) (locs1 : List Loc), fP x S' H1 → fS x H0 H1 locs1 → W p l e R s m args below meth c H1 locs1 (cells + mc) (slots + ms) Q (F0 m (pc + 3) ls (.int r :: rest))) : W p l e R s m args below meth c H locs cells slots Q (F0 m pc ls (.int v0 :: .ref (xa x 16 0) :: rest)) := f_calli (f_runV (n := 1) (ci := 6) (As := [.int v0]) co_M_finished ml_W_M_finished im_M_finished se_M_finished in_M (by decide +kernel) rfl rfl cx hl hP (hv.at S) rfl hM hR.1.1 hR.1.2 hR.2.1 hR.2.2 hst hd) hS kk
theorem k_W_M_fragment {lv : List (Nat × Value)} {v0 : Int32} {v1 : Int32} {v2 : Int32} {r : Int32} {S' : fm} {rm : Room} {mc ms : Nat} (cx : fX rn_W cc nL p c s m args x) (hl : lv_has ls nL lv) (hP : fP x S H) (hS : fS x H0 H locs) (hv : fv x 16 0) (hM : Met l mn_M_fragment (gw_ws mn_M_fragment cb_M_fragment 10 (some .int)) rm (fPc x S [.ref (xa x 16 0), .int v0, .int v1, .int v2]) (fQi x S' r) mc ms (fun q => xs x ≤ q)) (hR : (rm.cells = mc ∧ rm.slots = ms) ∧ (rm.frames + 1 ≤ R.frames ∧ 8 + (10 + 11) + rm.locals ≤ R.locals) ∧ cells + mc ≤ R.cells ∧ slots + ms ≤ R.slots) (hst : (rest.map fun v => v.category).sum ≤ 8) (hd : decode cc pc = .ok (.invokevirtual 88, 3)) (kk : ∀ (H1 : Heap) (locs1 : List Loc), fP x S' H1 → fS x H0 H1 locs1 → W p l e R s m args below meth c H1 locs1 (cells + mc) (slots + ms) Q (F0 m (pc + 3) ls (.int r :: rest))) : W p l e R s m args below meth c H locs cells slots Q (F0 m pc ls (.int v2 :: .int v1 :: .int v0 :: .ref (xa x 16 0) :: rest)) := f_calli (f_runV (n := 3) (ci := 6) (As := [.int v0, .int v1, .int v2]) co_M_fragment ml_W_M_fragment im_M_fragment se_M_fragment in_M (by decide +kernel) rfl rfl cx hl hP (hv.at S) rfl hM hR.1.1 hR.1.2 hR.2.1 hR.2.2 hst hd) hS kk
theorem k_W_M_hear {lv : List (Nat × Value)} {v0 : Int32} {v1 : Int32} {v2 : Int32} {r : Int32} {S' : fm} {rm : Room} {mc ms : Nat} (cx : fX rn_W cc nL p c s m args x) (hl : lv_has ls nL lv) (hP : fP x S H) (hS : fS x H0 H locs) (hv : fv x 16 0) (hM : Met l mn_M_hear (gw_ws mn_M_hear cb_M_hear 10 (some .int)) rm (fPc x S [.ref (xa x 16 0), .int v0, .int v1, .int v2]) (fQi x S' r) mc ms (fun q => xs x ≤ q)) (hR : (rm.cells = mc ∧ rm.slots = ms) ∧ (rm.frames + 1 ≤ R.frames ∧ 8 + (10 + 11) + rm.locals ≤ R.locals) ∧ cells + mc ≤ R.cells ∧ slots + ms ≤ R.slots) (hst : (rest.map fun v => v.category).sum ≤ 8) (hd : decode cc pc = .ok (.invokevirtual 45, 3)) (kk : ∀ (H1 : Heap) (locs1 : List Loc), fP x S' H1 → fS x H0 H1 locs1 → W p l e R s m args below meth c H1 locs1 (cells + mc) (slots + ms) Q (F0 m (pc + 3) ls (.int r :: rest))) : W p l e R s m args below meth c H locs cells slots Q (F0 m pc ls (.int v2 :: .int v1 :: .int v0 :: .ref (xa x 16 0) :: rest)) := f_calli (f_runV (n := 3) (ci := 6) (As := [.int v0, .int v1, .int v2]) co_M_hear ml_W_M_hear im_M_hear se_M_hear in_M (by decide +kernel) rfl rfl cx hl hP (hv.at S) rfl hM hR.1.1 hR.1.2 hR.2.1 hR.2.2 hst hd) hS kk
theorem k_W_M_heard {lv : List (Nat × Value)} {v0 : Int32} {r : Int32} {S' : fm} {rm : Room} {mc ms : Nat} (cx : fX rn_W cc nL p c s m args x) (hl : lv_has ls nL lv) (hP : fP x S H) (hS : fS x H0 H locs) (hv : fv x 16 0) (hM : Met l mn_M_heard (gw_ws mn_M_heard cb_M_heard 2 (some .int)) rm (fPc x S [.ref (xa x 16 0), .int v0]) (fQi x S' r) mc ms (fun q => xs x ≤ q)) (hR : (rm.cells = mc ∧ rm.slots = ms) ∧ (rm.frames + 1 ≤ R.frames ∧ 8 + (2 + 11) + rm.locals ≤ R.locals) ∧ cells + mc ≤ R.cells ∧ slots + ms ≤ R.slots) (hst : (rest.map fun v => v.category).sum ≤ 8) (hd : decode cc pc = .ok (.invokevirtual 62, 3)) (kk : ∀ (H1 : Heap) (locs1 : List Loc), fP x S' H1 → fS x H0 H1 locs1 → W p l e R s m args below meth c H1 locs1 (cells + mc) (slots + ms) Q (F0 m (pc + 3) ls (.int r :: rest))) : W p l e R s m args below meth c H locs cells slots Q (F0 m pc ls (.int v0 :: .ref (xa x 16 0) :: rest)) := f_calli (f_runV (n := 1) (ci := 6) (As := [.int v0]) co_M_heard ml_W_M_heard im_M_heard se_M_heard in_M (by decide +kernel) rfl rfl cx hl hP (hv.at S) rfl hM hR.1.1 hR.1.2 hR.2.1 hR.2.2 hst hd) hS kk
theorem k_W_M_held {lv : List (Nat × Value)} {v0 : Int32} {r : Int32} {S' : fm} {rm : Room} {mc ms : Nat} (cx : fX rn_W cc nL p c s m args x) (hl : lv_has ls nL lv) (hP : fP x S H) (hS : fS x H0 H locs) (hv : fv x 16 0) (hM : Met l mn_M_held (gw_ws mn_M_held cb_M_held 2 (some .int)) rm (fPc x S [.ref (xa x 16 0), .int v0]) (fQi x S' r) mc ms (fun q => xs x ≤ q)) (hR : (rm.cells = mc ∧ rm.slots = ms) ∧ (rm.frames + 1 ≤ R.frames ∧ 8 + (2 + 11) + rm.locals ≤ R.locals) ∧ cells + mc ≤ R.cells ∧ slots + ms ≤ R.slots) (hst : (rest.map fun v => v.category).sum ≤ 8) (hd : decode cc pc = .ok (.invokevirtual 79, 3)) (kk : ∀ (H1 : Heap) (locs1 : List Loc), fP x S' H1 → fS x H0 H1 locs1 → W p l e R s m args below meth c H1 locs1 (cells + mc) (slots + ms) Q (F0 m (pc + 3) ls (.int r :: rest))) : W p l e R s m args below meth c H locs cells slots Q (F0 m pc ls (.int v0 :: .ref (xa x 16 0) :: rest)) := f_calli (f_runV (n := 1) (ci := 6) (As := [.int v0]) co_M_held ml_W_M_held im_M_held se_M_held in_M (by decide +kernel) rfl rfl cx hl hP (hv.at S) rfl hM hR.1.1 hR.1.2 hR.2.1 hR.2.2 hst hd) hS kk
theorem k_W_M_heldTag {lv : List (Nat × Value)} {v0 : Int32} {v1 : Int32} {r : Int32} {S' : fm} {rm : Room} {mc ms : Nat} (cx : fX rn_W cc nL p c s m args x) (hl : lv_has ls nL lv) (hP : fP x S H) (hS : fS x H0 H locs) (hv : fv x 16 0) (hM : Met l mn_M_heldTag (gw_ws mn_M_heldTag cb_M_heldTag 6 (some .int)) rm (fPc x S [.ref (xa x 16 0), .int v0, .int v1]) (fQi x S' r) mc ms (fun q => xs x ≤ q)) (hR : (rm.cells = mc ∧ rm.slots = ms) ∧ (rm.frames + 1 ≤ R.frames ∧ 8 + (6 + 11) + rm.locals ≤ R.locals) ∧ cells + mc ≤ R.cells ∧ slots + ms ≤ R.slots) (hst : (rest.map fun v => v.category).sum ≤ 8) (hd : decode cc pc = .ok (.invokevirtual 84, 3)) (kk : ∀ (H1 : Heap) (locs1 : List Loc), fP x S' H1 → fS x H0 H1 locs1 → W p l e R s m args below meth c H1 locs1 (cells + mc) (slots + ms) Q (F0 m (pc + 3) ls (.int r :: rest))) : W p l e R s m args below meth c H locs cells slots Q (F0 m pc ls (.int v1 :: .int v0 :: .ref (xa x 16 0) :: rest)) := f_calli (f_runV (n := 2) (ci := 6) (As := [.int v0, .int v1]) co_M_heldTag ml_W_M_heldTag im_M_heldTag se_M_heldTag in_M (by decide +kernel) rfl rfl cx hl hP (hv.at S) rfl hM hR.1.1 hR.1.2 hR.2.1 hR.2.2 hst hd) hS kk
theorem k_W_M_phase {lv : List (Nat × Value)} {v0 : Int32} {r : Int32} {S' : fm} {rm : Room} {mc ms : Nat} (cx : fX rn_W cc nL p c s m args x) (hl : lv_has ls nL lv) (hP : fP x S H) (hS : fS x H0 H locs) (hv : fv x 16 0) (hM : Met l mn_M_phase (gw_ws mn_M_phase cb_M_phase 2 (some .int)) rm (fPc x S [.ref (xa x 16 0), .int v0]) (fQi x S' r) mc ms (fun q => xs x ≤ q)) (hR : (rm.cells = mc ∧ rm.slots = ms) ∧ (rm.frames + 1 ≤ R.frames ∧ 8 + (2 + 11) + rm.locals ≤ R.locals) ∧ cells + mc ≤ R.cells ∧ slots + ms ≤ R.slots) (hst : (rest.map fun v => v.category).sum ≤ 8) (hd : decode cc pc = .ok (.invokevirtual 58, 3)) (kk : ∀ (H1 : Heap) (locs1 : List Loc), fP x S' H1 → fS x H0 H1 locs1 → W p l e R s m args below meth c H1 locs1 (cells + mc) (slots + ms) Q (F0 m (pc + 3) ls (.int r :: rest))) : W p l e R s m args below meth c H locs cells slots Q (F0 m pc ls (.int v0 :: .ref (xa x 16 0) :: rest)) := f_calli (f_runV (n := 1) (ci := 6) (As := [.int v0]) co_M_phase ml_W_M_phase im_M_phase se_M_phase in_M (by decide +kernel) rfl rfl cx hl hP (hv.at S) rfl hM hR.1.1 hR.1.2 hR.2.1 hR.2.2 hst hd) hS kk
theorem k_W_M_quorum {lv : List (Nat × Value)}  {r : Int32} {S' : fm} {rm : Room} {mc ms : Nat} (cx : fX rn_W cc nL p c s m args x) (hl : lv_has ls nL lv) (hP : fP x S H) (hS : fS x H0 H locs) (hv : fv x 16 0) (hM : Met l mn_M_quorum (gw_ws mn_M_quorum cb_M_quorum 1 (some .int)) rm (fPc x S [.ref (xa x 16 0)]) (fQi x S' r) mc ms (fun q => xs x ≤ q)) (hR : (rm.cells = mc ∧ rm.slots = ms) ∧ (rm.frames + 1 ≤ R.frames ∧ 8 + (1 + 11) + rm.locals ≤ R.locals) ∧ cells + mc ≤ R.cells ∧ slots + ms ≤ R.slots) (hst : (rest.map fun v => v.category).sum ≤ 8) (hd : decode cc pc = .ok (.invokevirtual 105, 3)) (kk : ∀ (H1 : Heap) (locs1 : List Loc), fP x S' H1 → fS x H0 H1 locs1 → W p l e R s m args below meth c H1 locs1 (cells + mc) (slots + ms) Q (F0 m (pc + 3) ls (.int r :: rest))) : W p l e R s m args below meth c H locs cells slots Q (F0 m pc ls (.ref (xa x 16 0) :: rest)) := f_calli (f_runV (n := 0) (ci := 6) (As := []) co_M_quorum ml_W_M_quorum im_M_quorum se_M_quorum in_M (by decide +kernel) rfl rfl cx hl hP (hv.at S) rfl hM hR.1.1 hR.1.2 hR.2.1 hR.2.2 hst hd) hS kk
theorem k_W_M_read {lv : List (Nat × Value)} {v0 : Int32} {r : Int32} {S' : fm} {rm : Room} {mc ms : Nat} (cx : fX rn_W cc nL p c s m args x) (hl : lv_has ls nL lv) (hP : fP x S H) (hS : fS x H0 H locs) (hv : fv x 16 0) (hM : Met l mn_M_read (gw_ws mn_M_read cb_M_read 3 (some .int)) rm (fPc x S [.ref (xa x 16 0), .int v0]) (fQi x S' r) mc ms (fun q => xs x ≤ q)) (hR : (rm.cells = mc ∧ rm.slots = ms) ∧ (rm.frames + 1 ≤ R.frames ∧ 8 + (3 + 11) + rm.locals ≤ R.locals) ∧ cells + mc ≤ R.cells ∧ slots + ms ≤ R.slots) (hst : (rest.map fun v => v.category).sum ≤ 8) (hd : decode cc pc = .ok (.invokevirtual 32, 3)) (kk : ∀ (H1 : Heap) (locs1 : List Loc), fP x S' H1 → fS x H0 H1 locs1 → W p l e R s m args below meth c H1 locs1 (cells + mc) (slots + ms) Q (F0 m (pc + 3) ls (.int r :: rest))) : W p l e R s m args below meth c H locs cells slots Q (F0 m pc ls (.int v0 :: .ref (xa x 16 0) :: rest)) := f_calli (f_runV (n := 1) (ci := 6) (As := [.int v0]) co_M_read ml_W_M_read im_M_read se_M_read in_M (by decide +kernel) rfl rfl cx hl hP (hv.at S) rfl hM hR.1.1 hR.1.2 hR.2.1 hR.2.2 hst hd) hS kk
theorem k_W_M_replies {lv : List (Nat × Value)} {v0 : Int32} {v1 : Int32} {r : Int32} {S' : fm} {rm : Room} {mc ms : Nat} (cx : fX rn_W cc nL p c s m args x) (hl : lv_has ls nL lv) (hP : fP x S H) (hS : fS x H0 H locs) (hv : fv x 16 0) (hM : Met l mn_M_replies (gw_ws mn_M_replies cb_M_replies 3 (some .int)) rm (fPc x S [.ref (xa x 16 0), .int v0, .int v1]) (fQi x S' r) mc ms (fun q => xs x ≤ q)) (hR : (rm.cells = mc ∧ rm.slots = ms) ∧ (rm.frames + 1 ≤ R.frames ∧ 8 + (3 + 11) + rm.locals ≤ R.locals) ∧ cells + mc ≤ R.cells ∧ slots + ms ≤ R.slots) (hst : (rest.map fun v => v.category).sum ≤ 8) (hd : decode cc pc = .ok (.invokevirtual 100, 3)) (kk : ∀ (H1 : Heap) (locs1 : List Loc), fP x S' H1 → fS x H0 H1 locs1 → W p l e R s m args below meth c H1 locs1 (cells + mc) (slots + ms) Q (F0 m (pc + 3) ls (.int r :: rest))) : W p l e R s m args below meth c H locs cells slots Q (F0 m pc ls (.int v1 :: .int v0 :: .ref (xa x 16 0) :: rest)) := f_calli (f_runV (n := 2) (ci := 6) (As := [.int v0, .int v1]) co_M_replies ml_W_M_replies im_M_replies se_M_replies in_M (by decide +kernel) rfl rfl cx hl hP (hv.at S) rfl hM hR.1.1 hR.1.2 hR.2.1 hR.2.2 hst hd) hS kk
theorem k_W_M_requests {lv : List (Nat × Value)} {v0 : Int32} {v1 : Int32} {r : Int32} {S' : fm} {rm : Room} {mc ms : Nat} (cx : fX rn_W cc nL p c s m args x) (hl : lv_has ls nL lv) (hP : fP x S H) (hS : fS x H0 H locs) (hv : fv x 16 0) (hM : Met l mn_M_requests (gw_ws mn_M_requests cb_M_requests 3 (some .int)) rm (fPc x S [.ref (xa x 16 0), .int v0, .int v1]) (fQi x S' r) mc ms (fun q => xs x ≤ q)) (hR : (rm.cells = mc ∧ rm.slots = ms) ∧ (rm.frames + 1 ≤ R.frames ∧ 8 + (3 + 11) + rm.locals ≤ R.locals) ∧ cells + mc ≤ R.cells ∧ slots + ms ≤ R.slots) (hst : (rest.map fun v => v.category).sum ≤ 8) (hd : decode cc pc = .ok (.invokevirtual 96, 3)) (kk : ∀ (H1 : Heap) (locs1 : List Loc), fP x S' H1 → fS x H0 H1 locs1 → W p l e R s m args below meth c H1 locs1 (cells + mc) (slots + ms) Q (F0 m (pc + 3) ls (.int r :: rest))) : W p l e R s m args below meth c H locs cells slots Q (F0 m pc ls (.int v1 :: .int v0 :: .ref (xa x 16 0) :: rest)) := f_calli (f_runV (n := 2) (ci := 6) (As := [.int v0, .int v1]) co_M_requests ml_W_M_requests im_M_requests se_M_requests in_M (by decide +kernel) rfl rfl cx hl hP (hv.at S) rfl hM hR.1.1 hR.1.2 hR.2.1 hR.2.2 hst hd) hS kk
theorem k_W_M_result {lv : List (Nat × Value)} {v0 : Int32} {r : Int64} {S' : fm} {rm : Room} {mc ms : Nat} (cx : fX rn_W cc nL p c s m args x) (hl : lv_has ls nL lv) (hP : fP x S H) (hS : fS x H0 H locs) (hv : fv x 16 0) (hM : Met l mn_M_result (gw_ws mn_M_result cb_M_result 2 (some .long)) rm (fPc x S [.ref (xa x 16 0), .int v0]) (fQl x S' r) mc ms (fun q => xs x ≤ q)) (hR : (rm.cells = mc ∧ rm.slots = ms) ∧ (rm.frames + 1 ≤ R.frames ∧ 8 + (2 + 11) + rm.locals ≤ R.locals) ∧ cells + mc ≤ R.cells ∧ slots + ms ≤ R.slots) (hst : (rest.map fun v => v.category).sum ≤ 8) (hd : decode cc pc = .ok (.invokevirtual 71, 3)) (kk : ∀ (H1 : Heap) (locs1 : List Loc), fP x S' H1 → fS x H0 H1 locs1 → W p l e R s m args below meth c H1 locs1 (cells + mc) (slots + ms) Q (F0 m (pc + 3) ls (.long r :: rest))) : W p l e R s m args below meth c H locs cells slots Q (F0 m pc ls (.int v0 :: .ref (xa x 16 0) :: rest)) := f_calll (f_runV (n := 1) (ci := 6) (As := [.int v0]) co_M_result ml_W_M_result im_M_result se_M_result in_M (by decide +kernel) rfl rfl cx hl hP (hv.at S) rfl hM hR.1.1 hR.1.2 hR.2.1 hR.2.2 hst hd) hS kk
theorem k_W_M_seal {lv : List (Nat × Value)} {v0 : Int32} {r : Int32} {S' : fm} {rm : Room} {mc ms : Nat} (cx : fX rn_W cc nL p c s m args x) (hl : lv_has ls nL lv) (hP : fP x S H) (hS : fS x H0 H locs) (hv : fv x 16 0) (hM : Met l mn_M_seal (gw_ws mn_M_seal cb_M_seal 2 (some .int)) rm (fPc x S [.ref (xa x 16 0), .int v0]) (fQi x S' r) mc ms (fun q => xs x ≤ q)) (hR : (rm.cells = mc ∧ rm.slots = ms) ∧ (rm.frames + 1 ≤ R.frames ∧ 8 + (2 + 11) + rm.locals ≤ R.locals) ∧ cells + mc ≤ R.cells ∧ slots + ms ≤ R.slots) (hst : (rest.map fun v => v.category).sum ≤ 8) (hd : decode cc pc = .ok (.invokevirtual 92, 3)) (kk : ∀ (H1 : Heap) (locs1 : List Loc), fP x S' H1 → fS x H0 H1 locs1 → W p l e R s m args below meth c H1 locs1 (cells + mc) (slots + ms) Q (F0 m (pc + 3) ls (.int r :: rest))) : W p l e R s m args below meth c H locs cells slots Q (F0 m pc ls (.int v0 :: .ref (xa x 16 0) :: rest)) := f_calli (f_runV (n := 1) (ci := 6) (As := [.int v0]) co_M_seal ml_W_M_seal im_M_seal se_M_seal in_M (by decide +kernel) rfl rfl cx hl hP (hv.at S) rfl hM hR.1.1 hR.1.2 hR.2.1 hR.2.2 hst hd) hS kk
theorem k_W_M_stop {lv : List (Nat × Value)} {v0 : Int32} {r : Int32} {S' : fm} {rm : Room} {mc ms : Nat} (cx : fX rn_W cc nL p c s m args x) (hl : lv_has ls nL lv) (hP : fP x S H) (hS : fS x H0 H locs) (hv : fv x 16 0) (hM : Met l mn_M_stop (gw_ws mn_M_stop cb_M_stop 2 (some .boolean)) rm (fPc x S [.ref (xa x 16 0), .int v0]) (fQi x S' r) mc ms (fun q => xs x ≤ q)) (hR : (rm.cells = mc ∧ rm.slots = ms) ∧ (rm.frames + 1 ≤ R.frames ∧ 8 + (2 + 11) + rm.locals ≤ R.locals) ∧ cells + mc ≤ R.cells ∧ slots + ms ≤ R.slots) (hst : (rest.map fun v => v.category).sum ≤ 8) (hd : decode cc pc = .ok (.invokevirtual 54, 3)) (kk : ∀ (H1 : Heap) (locs1 : List Loc), fP x S' H1 → fS x H0 H1 locs1 → W p l e R s m args below meth c H1 locs1 (cells + mc) (slots + ms) Q (F0 m (pc + 3) ls (.int r :: rest))) : W p l e R s m args below meth c H locs cells slots Q (F0 m pc ls (.int v0 :: .ref (xa x 16 0) :: rest)) := f_calli (f_runV (n := 1) (ci := 6) (As := [.int v0]) co_M_stop ml_W_M_stop im_M_stop se_M_stop in_M (by decide +kernel) rfl rfl cx hl hP (hv.at S) rfl hM hR.1.1 hR.1.2 hR.2.1 hR.2.2 hst hd) hS kk
theorem k_W_M_tag {lv : List (Nat × Value)} {v0 : Int32} {r : Int32} {S' : fm} {rm : Room} {mc ms : Nat} (cx : fX rn_W cc nL p c s m args x) (hl : lv_has ls nL lv) (hP : fP x S H) (hS : fS x H0 H locs) (hv : fv x 16 0) (hM : Met l mn_M_tag (gw_ws mn_M_tag cb_M_tag 2 (some .int)) rm (fPc x S [.ref (xa x 16 0), .int v0]) (fQi x S' r) mc ms (fun q => xs x ≤ q)) (hR : (rm.cells = mc ∧ rm.slots = ms) ∧ (rm.frames + 1 ≤ R.frames ∧ 8 + (2 + 11) + rm.locals ≤ R.locals) ∧ cells + mc ≤ R.cells ∧ slots + ms ≤ R.slots) (hst : (rest.map fun v => v.category).sum ≤ 8) (hd : decode cc pc = .ok (.invokevirtual 66, 3)) (kk : ∀ (H1 : Heap) (locs1 : List Loc), fP x S' H1 → fS x H0 H1 locs1 → W p l e R s m args below meth c H1 locs1 (cells + mc) (slots + ms) Q (F0 m (pc + 3) ls (.int r :: rest))) : W p l e R s m args below meth c H locs cells slots Q (F0 m pc ls (.int v0 :: .ref (xa x 16 0) :: rest)) := f_calli (f_runV (n := 1) (ci := 6) (As := [.int v0]) co_M_tag ml_W_M_tag im_M_tag se_M_tag in_M (by decide +kernel) rfl rfl cx hl hP (hv.at S) rfl hM hR.1.1 hR.1.2 hR.2.1 hR.2.2 hst hd) hS kk
theorem k_W_M_write {lv : List (Nat × Value)} {v0 : Int32} {v1 : Int64} {r : Int32} {S' : fm} {rm : Room} {mc ms : Nat} (cx : fX rn_W cc nL p c s m args x) (hl : lv_has ls nL lv) (hP : fP x S H) (hS : fS x H0 H locs) (hv : fv x 16 0) (hM : Met l mn_M_write (gw_ws mn_M_write cb_M_write 5 (some .int)) rm (fPc x S [.ref (xa x 16 0), .int v0, .long v1]) (fQi x S' r) mc ms (fun q => xs x ≤ q)) (hR : (rm.cells = mc ∧ rm.slots = ms) ∧ (rm.frames + 1 ≤ R.frames ∧ 8 + (5 + 11) + rm.locals ≤ R.locals) ∧ cells + mc ≤ R.cells ∧ slots + ms ≤ R.slots) (hst : (rest.map fun v => v.category).sum ≤ 8) (hd : decode cc pc = .ok (.invokevirtual 27, 3)) (kk : ∀ (H1 : Heap) (locs1 : List Loc), fP x S' H1 → fS x H0 H1 locs1 → W p l e R s m args below meth c H1 locs1 (cells + mc) (slots + ms) Q (F0 m (pc + 3) ls (.int r :: rest))) : W p l e R s m args below meth c H locs cells slots Q (F0 m pc ls (.long v1 :: .int v0 :: .ref (xa x 16 0) :: rest)) := f_calli (f_runV (n := 2) (ci := 6) (As := [.int v0, .long v1]) co_M_write ml_W_M_write im_M_write se_M_write in_M (by decide +kernel) rfl rfl cx hl hP (hv.at S) rfl hM hR.1.1 hR.1.2 hR.2.1 hR.2.2 hst hd) hS kk
theorem k_W_W_cell {lv : List (Nat × Value)} {v0 : Nat} {v1 : Int32} {r : Int32} {S' : fm} {rm : Room} {mc ms : Nat} (cx : fX rn_W cc nL p c s m args x) (hl : lv_has ls nL lv) (hP : fP x S H) (hS : fS x H0 H locs)  (hM : Met l mn_W_cell (gw_ws mn_W_cell cb_W_cell 2 (some .int)) rm (fPc x S [.ref v0, .int v1]) (fQi x S' r) mc ms (fun q => xs x ≤ q)) (hR : (rm.cells = mc ∧ rm.slots = ms) ∧ (rm.frames + 1 ≤ R.frames ∧ 8 + (2 + 11) + rm.locals ≤ R.locals) ∧ cells + mc ≤ R.cells ∧ slots + ms ≤ R.slots) (hst : (rest.map fun v => v.category).sum ≤ 8) (hd : decode cc pc = .ok (.invokestatic 9, 3)) (kk : ∀ (H1 : Heap) (locs1 : List Loc), fP x S' H1 → fS x H0 H1 locs1 → W p l e R s m args below meth c H1 locs1 (cells + mc) (slots + ms) Q (F0 m (pc + 3) ls (.int r :: rest))) : W p l e R s m args below meth c H locs cells slots Q (F0 m pc ls (.int v1 :: .ref v0 :: rest)) := f_calli (f_runS (n := 2) (As := [.ref v0, .int v1]) co_W_cell ml_W_W_cell st_W_cell in_W (by decide +kernel) rfl cx hl hP hM hR.1.1 hR.1.2 hR.2.1 hR.2.2 hst hd) hS kk
theorem k_W_X_again {lv : List (Nat × Value)} {v0 : Int32} {r : Int32} {S' : fm} {rm : Room} {mc ms : Nat} (cx : fX rn_W cc nL p c s m args x) (hl : lv_has ls nL lv) (hP : fP x S H) (hS : fS x H0 H locs) (hv : fv x 0 0) (hM : Met l mn_X_again (gw_ws mn_X_again cb_X_again 3 (some .int)) rm (fPc x S [.ref (xa x 0 0), .int v0]) (fQi x S' r) mc ms (fun q => xs x ≤ q)) (hR : (rm.cells = mc ∧ rm.slots = ms) ∧ (rm.frames + 1 ≤ R.frames ∧ 8 + (3 + 11) + rm.locals ≤ R.locals) ∧ cells + mc ≤ R.cells ∧ slots + ms ≤ R.slots) (hst : (rest.map fun v => v.category).sum ≤ 8) (hd : decode cc pc = .ok (.invokevirtual 33, 3)) (kk : ∀ (H1 : Heap) (locs1 : List Loc), fP x S' H1 → fS x H0 H1 locs1 → W p l e R s m args below meth c H1 locs1 (cells + mc) (slots + ms) Q (F0 m (pc + 3) ls (.int r :: rest))) : W p l e R s m args below meth c H locs cells slots Q (F0 m pc ls (.int v0 :: .ref (xa x 0 0) :: rest)) := f_calli (f_runV (n := 1) (ci := 5) (As := [.int v0]) co_X_again ml_W_X_again im_X_again se_X_again in_X (by decide +kernel) rfl rfl cx hl hP (hv.at S) rfl hM hR.1.1 hR.1.2 hR.2.1 hR.2.2 hst hd) hS kk
theorem k_W_X_crash {lv : List (Nat × Value)} {v0 : Int32} {r : Int32} {S' : fm} {rm : Room} {mc ms : Nat} (cx : fX rn_W cc nL p c s m args x) (hl : lv_has ls nL lv) (hP : fP x S H) (hS : fS x H0 H locs) (hv : fv x 0 0) (hM : Met l mn_X_crash (gw_ws mn_X_crash cb_X_crash 3 (some .boolean)) rm (fPc x S [.ref (xa x 0 0), .int v0]) (fQi x S' r) mc ms (fun q => xs x ≤ q)) (hR : (rm.cells = mc ∧ rm.slots = ms) ∧ (rm.frames + 1 ≤ R.frames ∧ 8 + (3 + 11) + rm.locals ≤ R.locals) ∧ cells + mc ≤ R.cells ∧ slots + ms ≤ R.slots) (hst : (rest.map fun v => v.category).sum ≤ 8) (hd : decode cc pc = .ok (.invokevirtual 46, 3)) (kk : ∀ (H1 : Heap) (locs1 : List Loc), fP x S' H1 → fS x H0 H1 locs1 → W p l e R s m args below meth c H1 locs1 (cells + mc) (slots + ms) Q (F0 m (pc + 3) ls (.int r :: rest))) : W p l e R s m args below meth c H locs cells slots Q (F0 m pc ls (.int v0 :: .ref (xa x 0 0) :: rest)) := f_calli (f_runV (n := 1) (ci := 5) (As := [.int v0]) co_X_crash ml_W_X_crash im_X_crash se_X_crash in_X (by decide +kernel) rfl rfl cx hl hP (hv.at S) rfl hM hR.1.1 hR.1.2 hR.2.1 hR.2.2 hst hd) hS kk
theorem k_W_X_deliver {lv : List (Nat × Value)} {v0 : Int32} {v1 : Int32} {v2 : Int32} {r : Int32} {S' : fm} {rm : Room} {mc ms : Nat} (cx : fX rn_W cc nL p c s m args x) (hl : lv_has ls nL lv) (hP : fP x S H) (hS : fS x H0 H locs) (hv : fv x 0 0) (hM : Met l mn_X_deliver (gw_ws mn_X_deliver cb_X_deliver 5 (some .int)) rm (fPc x S [.ref (xa x 0 0), .int v0, .int v1, .int v2]) (fQi x S' r) mc ms (fun q => xs x ≤ q)) (hR : (rm.cells = mc ∧ rm.slots = ms) ∧ (rm.frames + 1 ≤ R.frames ∧ 8 + (5 + 11) + rm.locals ≤ R.locals) ∧ cells + mc ≤ R.cells ∧ slots + ms ≤ R.slots) (hst : (rest.map fun v => v.category).sum ≤ 8) (hd : decode cc pc = .ok (.invokevirtual 37, 3)) (kk : ∀ (H1 : Heap) (locs1 : List Loc), fP x S' H1 → fS x H0 H1 locs1 → W p l e R s m args below meth c H1 locs1 (cells + mc) (slots + ms) Q (F0 m (pc + 3) ls (.int r :: rest))) : W p l e R s m args below meth c H locs cells slots Q (F0 m pc ls (.int v2 :: .int v1 :: .int v0 :: .ref (xa x 0 0) :: rest)) := f_calli (f_runV (n := 3) (ci := 5) (As := [.int v0, .int v1, .int v2]) co_X_deliver ml_W_X_deliver im_X_deliver se_X_deliver in_X (by decide +kernel) rfl rfl cx hl hP (hv.at S) rfl hM hR.1.1 hR.1.2 hR.2.1 hR.2.2 hst hd) hS kk
theorem k_W_X_finished {lv : List (Nat × Value)} {v0 : Int32} {r : Int32} {S' : fm} {rm : Room} {mc ms : Nat} (cx : fX rn_W cc nL p c s m args x) (hl : lv_has ls nL lv) (hP : fP x S H) (hS : fS x H0 H locs) (hv : fv x 0 0) (hM : Met l mn_X_finished (gw_ws mn_X_finished cb_X_finished 2 (some .int)) rm (fPc x S [.ref (xa x 0 0), .int v0]) (fQi x S' r) mc ms (fun q => xs x ≤ q)) (hR : (rm.cells = mc ∧ rm.slots = ms) ∧ (rm.frames + 1 ≤ R.frames ∧ 8 + (2 + 11) + rm.locals ≤ R.locals) ∧ cells + mc ≤ R.cells ∧ slots + ms ≤ R.slots) (hst : (rest.map fun v => v.category).sum ≤ 8) (hd : decode cc pc = .ok (.invokevirtual 72, 3)) (kk : ∀ (H1 : Heap) (locs1 : List Loc), fP x S' H1 → fS x H0 H1 locs1 → W p l e R s m args below meth c H1 locs1 (cells + mc) (slots + ms) Q (F0 m (pc + 3) ls (.int r :: rest))) : W p l e R s m args below meth c H locs cells slots Q (F0 m pc ls (.int v0 :: .ref (xa x 0 0) :: rest)) := f_calli (f_runV (n := 1) (ci := 5) (As := [.int v0]) co_X_finished ml_W_X_finished im_X_finished se_X_finished in_X (by decide +kernel) rfl rfl cx hl hP (hv.at S) rfl hM hR.1.1 hR.1.2 hR.2.1 hR.2.2 hst hd) hS kk
theorem k_W_X_fragment {lv : List (Nat × Value)} {v0 : Int32} {v1 : Int32} {v2 : Int32} {r : Int32} {S' : fm} {rm : Room} {mc ms : Nat} (cx : fX rn_W cc nL p c s m args x) (hl : lv_has ls nL lv) (hP : fP x S H) (hS : fS x H0 H locs) (hv : fv x 0 0) (hM : Met l mn_X_fragment (gw_ws mn_X_fragment cb_X_fragment 5 (some .int)) rm (fPc x S [.ref (xa x 0 0), .int v0, .int v1, .int v2]) (fQi x S' r) mc ms (fun q => xs x ≤ q)) (hR : (rm.cells = mc ∧ rm.slots = ms) ∧ (rm.frames + 1 ≤ R.frames ∧ 8 + (5 + 11) + rm.locals ≤ R.locals) ∧ cells + mc ≤ R.cells ∧ slots + ms ≤ R.slots) (hst : (rest.map fun v => v.category).sum ≤ 8) (hd : decode cc pc = .ok (.invokevirtual 85, 3)) (kk : ∀ (H1 : Heap) (locs1 : List Loc), fP x S' H1 → fS x H0 H1 locs1 → W p l e R s m args below meth c H1 locs1 (cells + mc) (slots + ms) Q (F0 m (pc + 3) ls (.int r :: rest))) : W p l e R s m args below meth c H locs cells slots Q (F0 m pc ls (.int v2 :: .int v1 :: .int v0 :: .ref (xa x 0 0) :: rest)) := f_calli (f_runV (n := 3) (ci := 5) (As := [.int v0, .int v1, .int v2]) co_X_fragment ml_W_X_fragment im_X_fragment se_X_fragment in_X (by decide +kernel) rfl rfl cx hl hP (hv.at S) rfl hM hR.1.1 hR.1.2 hR.2.1 hR.2.2 hst hd) hS kk
theorem k_W_X_hear {lv : List (Nat × Value)} {v0 : Int32} {v1 : Int32} {v2 : Int32} {r : Int32} {S' : fm} {rm : Room} {mc ms : Nat} (cx : fX rn_W cc nL p c s m args x) (hl : lv_has ls nL lv) (hP : fP x S H) (hS : fS x H0 H locs) (hv : fv x 0 0) (hM : Met l mn_X_hear (gw_ws mn_X_hear cb_X_hear 6 (some .int)) rm (fPc x S [.ref (xa x 0 0), .int v0, .int v1, .int v2]) (fQi x S' r) mc ms (fun q => xs x ≤ q)) (hR : (rm.cells = mc ∧ rm.slots = ms) ∧ (rm.frames + 1 ≤ R.frames ∧ 8 + (6 + 11) + rm.locals ≤ R.locals) ∧ cells + mc ≤ R.cells ∧ slots + ms ≤ R.slots) (hst : (rest.map fun v => v.category).sum ≤ 8) (hd : decode cc pc = .ok (.invokevirtual 42, 3)) (kk : ∀ (H1 : Heap) (locs1 : List Loc), fP x S' H1 → fS x H0 H1 locs1 → W p l e R s m args below meth c H1 locs1 (cells + mc) (slots + ms) Q (F0 m (pc + 3) ls (.int r :: rest))) : W p l e R s m args below meth c H locs cells slots Q (F0 m pc ls (.int v2 :: .int v1 :: .int v0 :: .ref (xa x 0 0) :: rest)) := f_calli (f_runV (n := 3) (ci := 5) (As := [.int v0, .int v1, .int v2]) co_X_hear ml_W_X_hear im_X_hear se_X_hear in_X (by decide +kernel) rfl rfl cx hl hP (hv.at S) rfl hM hR.1.1 hR.1.2 hR.2.1 hR.2.2 hst hd) hS kk
theorem k_W_X_heard {lv : List (Nat × Value)} {v0 : Int32} {r : Int32} {S' : fm} {rm : Room} {mc ms : Nat} (cx : fX rn_W cc nL p c s m args x) (hl : lv_has ls nL lv) (hP : fP x S H) (hS : fS x H0 H locs) (hv : fv x 0 0) (hM : Met l mn_X_heard (gw_ws mn_X_heard cb_X_heard 2 (some .int)) rm (fPc x S [.ref (xa x 0 0), .int v0]) (fQi x S' r) mc ms (fun q => xs x ≤ q)) (hR : (rm.cells = mc ∧ rm.slots = ms) ∧ (rm.frames + 1 ≤ R.frames ∧ 8 + (2 + 11) + rm.locals ≤ R.locals) ∧ cells + mc ≤ R.cells ∧ slots + ms ≤ R.slots) (hst : (rest.map fun v => v.category).sum ≤ 8) (hd : decode cc pc = .ok (.invokevirtual 59, 3)) (kk : ∀ (H1 : Heap) (locs1 : List Loc), fP x S' H1 → fS x H0 H1 locs1 → W p l e R s m args below meth c H1 locs1 (cells + mc) (slots + ms) Q (F0 m (pc + 3) ls (.int r :: rest))) : W p l e R s m args below meth c H locs cells slots Q (F0 m pc ls (.int v0 :: .ref (xa x 0 0) :: rest)) := f_calli (f_runV (n := 1) (ci := 5) (As := [.int v0]) co_X_heard ml_W_X_heard im_X_heard se_X_heard in_X (by decide +kernel) rfl rfl cx hl hP (hv.at S) rfl hM hR.1.1 hR.1.2 hR.2.1 hR.2.2 hst hd) hS kk
theorem k_W_X_held {lv : List (Nat × Value)} {v0 : Int32} {r : Int32} {S' : fm} {rm : Room} {mc ms : Nat} (cx : fX rn_W cc nL p c s m args x) (hl : lv_has ls nL lv) (hP : fP x S H) (hS : fS x H0 H locs) (hv : fv x 0 0) (hM : Met l mn_X_held (gw_ws mn_X_held cb_X_held 2 (some .int)) rm (fPc x S [.ref (xa x 0 0), .int v0]) (fQi x S' r) mc ms (fun q => xs x ≤ q)) (hR : (rm.cells = mc ∧ rm.slots = ms) ∧ (rm.frames + 1 ≤ R.frames ∧ 8 + (2 + 11) + rm.locals ≤ R.locals) ∧ cells + mc ≤ R.cells ∧ slots + ms ≤ R.slots) (hst : (rest.map fun v => v.category).sum ≤ 8) (hd : decode cc pc = .ok (.invokevirtual 76, 3)) (kk : ∀ (H1 : Heap) (locs1 : List Loc), fP x S' H1 → fS x H0 H1 locs1 → W p l e R s m args below meth c H1 locs1 (cells + mc) (slots + ms) Q (F0 m (pc + 3) ls (.int r :: rest))) : W p l e R s m args below meth c H locs cells slots Q (F0 m pc ls (.int v0 :: .ref (xa x 0 0) :: rest)) := f_calli (f_runV (n := 1) (ci := 5) (As := [.int v0]) co_X_held ml_W_X_held im_X_held se_X_held in_X (by decide +kernel) rfl rfl cx hl hP (hv.at S) rfl hM hR.1.1 hR.1.2 hR.2.1 hR.2.2 hst hd) hS kk
theorem k_W_X_heldTag {lv : List (Nat × Value)} {v0 : Int32} {v1 : Int32} {r : Int32} {S' : fm} {rm : Room} {mc ms : Nat} (cx : fX rn_W cc nL p c s m args x) (hl : lv_has ls nL lv) (hP : fP x S H) (hS : fS x H0 H locs) (hv : fv x 0 0) (hM : Met l mn_X_heldTag (gw_ws mn_X_heldTag cb_X_heldTag 3 (some .int)) rm (fPc x S [.ref (xa x 0 0), .int v0, .int v1]) (fQi x S' r) mc ms (fun q => xs x ≤ q)) (hR : (rm.cells = mc ∧ rm.slots = ms) ∧ (rm.frames + 1 ≤ R.frames ∧ 8 + (3 + 11) + rm.locals ≤ R.locals) ∧ cells + mc ≤ R.cells ∧ slots + ms ≤ R.slots) (hst : (rest.map fun v => v.category).sum ≤ 8) (hd : decode cc pc = .ok (.invokevirtual 80, 3)) (kk : ∀ (H1 : Heap) (locs1 : List Loc), fP x S' H1 → fS x H0 H1 locs1 → W p l e R s m args below meth c H1 locs1 (cells + mc) (slots + ms) Q (F0 m (pc + 3) ls (.int r :: rest))) : W p l e R s m args below meth c H locs cells slots Q (F0 m pc ls (.int v1 :: .int v0 :: .ref (xa x 0 0) :: rest)) := f_calli (f_runV (n := 2) (ci := 5) (As := [.int v0, .int v1]) co_X_heldTag ml_W_X_heldTag im_X_heldTag se_X_heldTag in_X (by decide +kernel) rfl rfl cx hl hP (hv.at S) rfl hM hR.1.1 hR.1.2 hR.2.1 hR.2.2 hst hd) hS kk
theorem k_W_X_phase {lv : List (Nat × Value)} {v0 : Int32} {r : Int32} {S' : fm} {rm : Room} {mc ms : Nat} (cx : fX rn_W cc nL p c s m args x) (hl : lv_has ls nL lv) (hP : fP x S H) (hS : fS x H0 H locs) (hv : fv x 0 0) (hM : Met l mn_X_phase (gw_ws mn_X_phase cb_X_phase 2 (some .int)) rm (fPc x S [.ref (xa x 0 0), .int v0]) (fQi x S' r) mc ms (fun q => xs x ≤ q)) (hR : (rm.cells = mc ∧ rm.slots = ms) ∧ (rm.frames + 1 ≤ R.frames ∧ 8 + (2 + 11) + rm.locals ≤ R.locals) ∧ cells + mc ≤ R.cells ∧ slots + ms ≤ R.slots) (hst : (rest.map fun v => v.category).sum ≤ 8) (hd : decode cc pc = .ok (.invokevirtual 55, 3)) (kk : ∀ (H1 : Heap) (locs1 : List Loc), fP x S' H1 → fS x H0 H1 locs1 → W p l e R s m args below meth c H1 locs1 (cells + mc) (slots + ms) Q (F0 m (pc + 3) ls (.int r :: rest))) : W p l e R s m args below meth c H locs cells slots Q (F0 m pc ls (.int v0 :: .ref (xa x 0 0) :: rest)) := f_calli (f_runV (n := 1) (ci := 5) (As := [.int v0]) co_X_phase ml_W_X_phase im_X_phase se_X_phase in_X (by decide +kernel) rfl rfl cx hl hP (hv.at S) rfl hM hR.1.1 hR.1.2 hR.2.1 hR.2.2 hst hd) hS kk
theorem k_W_X_quorum {lv : List (Nat × Value)}  {r : Int32} {S' : fm} {rm : Room} {mc ms : Nat} (cx : fX rn_W cc nL p c s m args x) (hl : lv_has ls nL lv) (hP : fP x S H) (hS : fS x H0 H locs) (hv : fv x 0 0) (hM : Met l mn_X_quorum (gw_ws mn_X_quorum cb_X_quorum 1 (some .int)) rm (fPc x S [.ref (xa x 0 0)]) (fQi x S' r) mc ms (fun q => xs x ≤ q)) (hR : (rm.cells = mc ∧ rm.slots = ms) ∧ (rm.frames + 1 ≤ R.frames ∧ 8 + (1 + 11) + rm.locals ≤ R.locals) ∧ cells + mc ≤ R.cells ∧ slots + ms ≤ R.slots) (hst : (rest.map fun v => v.category).sum ≤ 8) (hd : decode cc pc = .ok (.invokevirtual 101, 3)) (kk : ∀ (H1 : Heap) (locs1 : List Loc), fP x S' H1 → fS x H0 H1 locs1 → W p l e R s m args below meth c H1 locs1 (cells + mc) (slots + ms) Q (F0 m (pc + 3) ls (.int r :: rest))) : W p l e R s m args below meth c H locs cells slots Q (F0 m pc ls (.ref (xa x 0 0) :: rest)) := f_calli (f_runV (n := 0) (ci := 5) (As := []) co_X_quorum ml_W_X_quorum im_X_quorum se_X_quorum in_X (by decide +kernel) rfl rfl cx hl hP (hv.at S) rfl hM hR.1.1 hR.1.2 hR.2.1 hR.2.2 hst hd) hS kk
theorem k_W_X_read {lv : List (Nat × Value)} {v0 : Int32} {r : Int32} {S' : fm} {rm : Room} {mc ms : Nat} (cx : fX rn_W cc nL p c s m args x) (hl : lv_has ls nL lv) (hP : fP x S H) (hS : fS x H0 H locs) (hv : fv x 0 0) (hM : Met l mn_X_read (gw_ws mn_X_read cb_X_read 3 (some .int)) rm (fPc x S [.ref (xa x 0 0), .int v0]) (fQi x S' r) mc ms (fun q => xs x ≤ q)) (hR : (rm.cells = mc ∧ rm.slots = ms) ∧ (rm.frames + 1 ≤ R.frames ∧ 8 + (3 + 11) + rm.locals ≤ R.locals) ∧ cells + mc ≤ R.cells ∧ slots + ms ≤ R.slots) (hst : (rest.map fun v => v.category).sum ≤ 8) (hd : decode cc pc = .ok (.invokevirtual 28, 3)) (kk : ∀ (H1 : Heap) (locs1 : List Loc), fP x S' H1 → fS x H0 H1 locs1 → W p l e R s m args below meth c H1 locs1 (cells + mc) (slots + ms) Q (F0 m (pc + 3) ls (.int r :: rest))) : W p l e R s m args below meth c H locs cells slots Q (F0 m pc ls (.int v0 :: .ref (xa x 0 0) :: rest)) := f_calli (f_runV (n := 1) (ci := 5) (As := [.int v0]) co_X_read ml_W_X_read im_X_read se_X_read in_X (by decide +kernel) rfl rfl cx hl hP (hv.at S) rfl hM hR.1.1 hR.1.2 hR.2.1 hR.2.2 hst hd) hS kk
theorem k_W_X_replies {lv : List (Nat × Value)} {v0 : Int32} {v1 : Int32} {r : Int32} {S' : fm} {rm : Room} {mc ms : Nat} (cx : fX rn_W cc nL p c s m args x) (hl : lv_has ls nL lv) (hP : fP x S H) (hS : fS x H0 H locs) (hv : fv x 0 0) (hM : Met l mn_X_replies (gw_ws mn_X_replies cb_X_replies 3 (some .int)) rm (fPc x S [.ref (xa x 0 0), .int v0, .int v1]) (fQi x S' r) mc ms (fun q => xs x ≤ q)) (hR : (rm.cells = mc ∧ rm.slots = ms) ∧ (rm.frames + 1 ≤ R.frames ∧ 8 + (3 + 11) + rm.locals ≤ R.locals) ∧ cells + mc ≤ R.cells ∧ slots + ms ≤ R.slots) (hst : (rest.map fun v => v.category).sum ≤ 8) (hd : decode cc pc = .ok (.invokevirtual 97, 3)) (kk : ∀ (H1 : Heap) (locs1 : List Loc), fP x S' H1 → fS x H0 H1 locs1 → W p l e R s m args below meth c H1 locs1 (cells + mc) (slots + ms) Q (F0 m (pc + 3) ls (.int r :: rest))) : W p l e R s m args below meth c H locs cells slots Q (F0 m pc ls (.int v1 :: .int v0 :: .ref (xa x 0 0) :: rest)) := f_calli (f_runV (n := 2) (ci := 5) (As := [.int v0, .int v1]) co_X_replies ml_W_X_replies im_X_replies se_X_replies in_X (by decide +kernel) rfl rfl cx hl hP (hv.at S) rfl hM hR.1.1 hR.1.2 hR.2.1 hR.2.2 hst hd) hS kk
theorem k_W_X_requests {lv : List (Nat × Value)} {v0 : Int32} {v1 : Int32} {r : Int32} {S' : fm} {rm : Room} {mc ms : Nat} (cx : fX rn_W cc nL p c s m args x) (hl : lv_has ls nL lv) (hP : fP x S H) (hS : fS x H0 H locs) (hv : fv x 0 0) (hM : Met l mn_X_requests (gw_ws mn_X_requests cb_X_requests 3 (some .int)) rm (fPc x S [.ref (xa x 0 0), .int v0, .int v1]) (fQi x S' r) mc ms (fun q => xs x ≤ q)) (hR : (rm.cells = mc ∧ rm.slots = ms) ∧ (rm.frames + 1 ≤ R.frames ∧ 8 + (3 + 11) + rm.locals ≤ R.locals) ∧ cells + mc ≤ R.cells ∧ slots + ms ≤ R.slots) (hst : (rest.map fun v => v.category).sum ≤ 8) (hd : decode cc pc = .ok (.invokevirtual 93, 3)) (kk : ∀ (H1 : Heap) (locs1 : List Loc), fP x S' H1 → fS x H0 H1 locs1 → W p l e R s m args below meth c H1 locs1 (cells + mc) (slots + ms) Q (F0 m (pc + 3) ls (.int r :: rest))) : W p l e R s m args below meth c H locs cells slots Q (F0 m pc ls (.int v1 :: .int v0 :: .ref (xa x 0 0) :: rest)) := f_calli (f_runV (n := 2) (ci := 5) (As := [.int v0, .int v1]) co_X_requests ml_W_X_requests im_X_requests se_X_requests in_X (by decide +kernel) rfl rfl cx hl hP (hv.at S) rfl hM hR.1.1 hR.1.2 hR.2.1 hR.2.2 hst hd) hS kk
theorem k_W_X_result {lv : List (Nat × Value)} {v0 : Int32} {r : Int64} {S' : fm} {rm : Room} {mc ms : Nat} (cx : fX rn_W cc nL p c s m args x) (hl : lv_has ls nL lv) (hP : fP x S H) (hS : fS x H0 H locs) (hv : fv x 0 0) (hM : Met l mn_X_result (gw_ws mn_X_result cb_X_result 2 (some .long)) rm (fPc x S [.ref (xa x 0 0), .int v0]) (fQl x S' r) mc ms (fun q => xs x ≤ q)) (hR : (rm.cells = mc ∧ rm.slots = ms) ∧ (rm.frames + 1 ≤ R.frames ∧ 8 + (2 + 11) + rm.locals ≤ R.locals) ∧ cells + mc ≤ R.cells ∧ slots + ms ≤ R.slots) (hst : (rest.map fun v => v.category).sum ≤ 8) (hd : decode cc pc = .ok (.invokevirtual 67, 3)) (kk : ∀ (H1 : Heap) (locs1 : List Loc), fP x S' H1 → fS x H0 H1 locs1 → W p l e R s m args below meth c H1 locs1 (cells + mc) (slots + ms) Q (F0 m (pc + 3) ls (.long r :: rest))) : W p l e R s m args below meth c H locs cells slots Q (F0 m pc ls (.int v0 :: .ref (xa x 0 0) :: rest)) := f_calll (f_runV (n := 1) (ci := 5) (As := [.int v0]) co_X_result ml_W_X_result im_X_result se_X_result in_X (by decide +kernel) rfl rfl cx hl hP (hv.at S) rfl hM hR.1.1 hR.1.2 hR.2.1 hR.2.2 hst hd) hS kk
theorem k_W_X_seal {lv : List (Nat × Value)} {v0 : Int32} {r : Int32} {S' : fm} {rm : Room} {mc ms : Nat} (cx : fX rn_W cc nL p c s m args x) (hl : lv_has ls nL lv) (hP : fP x S H) (hS : fS x H0 H locs) (hv : fv x 0 0) (hM : Met l mn_X_seal (gw_ws mn_X_seal cb_X_seal 2 (some .int)) rm (fPc x S [.ref (xa x 0 0), .int v0]) (fQi x S' r) mc ms (fun q => xs x ≤ q)) (hR : (rm.cells = mc ∧ rm.slots = ms) ∧ (rm.frames + 1 ≤ R.frames ∧ 8 + (2 + 11) + rm.locals ≤ R.locals) ∧ cells + mc ≤ R.cells ∧ slots + ms ≤ R.slots) (hst : (rest.map fun v => v.category).sum ≤ 8) (hd : decode cc pc = .ok (.invokevirtual 89, 3)) (kk : ∀ (H1 : Heap) (locs1 : List Loc), fP x S' H1 → fS x H0 H1 locs1 → W p l e R s m args below meth c H1 locs1 (cells + mc) (slots + ms) Q (F0 m (pc + 3) ls (.int r :: rest))) : W p l e R s m args below meth c H locs cells slots Q (F0 m pc ls (.int v0 :: .ref (xa x 0 0) :: rest)) := f_calli (f_runV (n := 1) (ci := 5) (As := [.int v0]) co_X_seal ml_W_X_seal im_X_seal se_X_seal in_X (by decide +kernel) rfl rfl cx hl hP (hv.at S) rfl hM hR.1.1 hR.1.2 hR.2.1 hR.2.2 hst hd) hS kk
theorem k_W_X_stop {lv : List (Nat × Value)} {v0 : Int32} {r : Int32} {S' : fm} {rm : Room} {mc ms : Nat} (cx : fX rn_W cc nL p c s m args x) (hl : lv_has ls nL lv) (hP : fP x S H) (hS : fS x H0 H locs) (hv : fv x 0 0) (hM : Met l mn_X_stop (gw_ws mn_X_stop cb_X_stop 2 (some .boolean)) rm (fPc x S [.ref (xa x 0 0), .int v0]) (fQi x S' r) mc ms (fun q => xs x ≤ q)) (hR : (rm.cells = mc ∧ rm.slots = ms) ∧ (rm.frames + 1 ≤ R.frames ∧ 8 + (2 + 11) + rm.locals ≤ R.locals) ∧ cells + mc ≤ R.cells ∧ slots + ms ≤ R.slots) (hst : (rest.map fun v => v.category).sum ≤ 8) (hd : decode cc pc = .ok (.invokevirtual 51, 3)) (kk : ∀ (H1 : Heap) (locs1 : List Loc), fP x S' H1 → fS x H0 H1 locs1 → W p l e R s m args below meth c H1 locs1 (cells + mc) (slots + ms) Q (F0 m (pc + 3) ls (.int r :: rest))) : W p l e R s m args below meth c H locs cells slots Q (F0 m pc ls (.int v0 :: .ref (xa x 0 0) :: rest)) := f_calli (f_runV (n := 1) (ci := 5) (As := [.int v0]) co_X_stop ml_W_X_stop im_X_stop se_X_stop in_X (by decide +kernel) rfl rfl cx hl hP (hv.at S) rfl hM hR.1.1 hR.1.2 hR.2.1 hR.2.2 hst hd) hS kk
theorem k_W_X_tag {lv : List (Nat × Value)} {v0 : Int32} {r : Int32} {S' : fm} {rm : Room} {mc ms : Nat} (cx : fX rn_W cc nL p c s m args x) (hl : lv_has ls nL lv) (hP : fP x S H) (hS : fS x H0 H locs) (hv : fv x 0 0) (hM : Met l mn_X_tag (gw_ws mn_X_tag cb_X_tag 2 (some .int)) rm (fPc x S [.ref (xa x 0 0), .int v0]) (fQi x S' r) mc ms (fun q => xs x ≤ q)) (hR : (rm.cells = mc ∧ rm.slots = ms) ∧ (rm.frames + 1 ≤ R.frames ∧ 8 + (2 + 11) + rm.locals ≤ R.locals) ∧ cells + mc ≤ R.cells ∧ slots + ms ≤ R.slots) (hst : (rest.map fun v => v.category).sum ≤ 8) (hd : decode cc pc = .ok (.invokevirtual 63, 3)) (kk : ∀ (H1 : Heap) (locs1 : List Loc), fP x S' H1 → fS x H0 H1 locs1 → W p l e R s m args below meth c H1 locs1 (cells + mc) (slots + ms) Q (F0 m (pc + 3) ls (.int r :: rest))) : W p l e R s m args below meth c H locs cells slots Q (F0 m pc ls (.int v0 :: .ref (xa x 0 0) :: rest)) := f_calli (f_runV (n := 1) (ci := 5) (As := [.int v0]) co_X_tag ml_W_X_tag im_X_tag se_X_tag in_X (by decide +kernel) rfl rfl cx hl hP (hv.at S) rfl hM hR.1.1 hR.1.2 hR.2.1 hR.2.2 hst hd) hS kk
theorem k_W_X_write {lv : List (Nat × Value)} {v0 : Int32} {v1 : Int64} {r : Int32} {S' : fm} {rm : Room} {mc ms : Nat} (cx : fX rn_W cc nL p c s m args x) (hl : lv_has ls nL lv) (hP : fP x S H) (hS : fS x H0 H locs) (hv : fv x 0 0) (hM : Met l mn_X_write (gw_ws mn_X_write cb_X_write 5 (some .int)) rm (fPc x S [.ref (xa x 0 0), .int v0, .long v1]) (fQi x S' r) mc ms (fun q => xs x ≤ q)) (hR : (rm.cells = mc ∧ rm.slots = ms) ∧ (rm.frames + 1 ≤ R.frames ∧ 8 + (5 + 11) + rm.locals ≤ R.locals) ∧ cells + mc ≤ R.cells ∧ slots + ms ≤ R.slots) (hst : (rest.map fun v => v.category).sum ≤ 8) (hd : decode cc pc = .ok (.invokevirtual 23, 3)) (kk : ∀ (H1 : Heap) (locs1 : List Loc), fP x S' H1 → fS x H0 H1 locs1 → W p l e R s m args below meth c H1 locs1 (cells + mc) (slots + ms) Q (F0 m (pc + 3) ls (.int r :: rest))) : W p l e R s m args below meth c H locs cells slots Q (F0 m pc ls (.long v1 :: .int v0 :: .ref (xa x 0 0) :: rest)) := f_calli (f_runV (n := 2) (ci := 5) (As := [.int v0, .long v1]) co_X_write ml_W_X_write im_X_write se_X_write in_X (by decide +kernel) rfl rfl cx hl hP (hv.at S) rfl hM hR.1.1 hR.1.2 hR.2.1 hR.2.2 hst hd) hS kk
theorem k_X_C_counts {lv : List (Nat × Value)} {v0 : Nat} {r : Int32} {S' : fm} {rm : Room} {mc ms : Nat} (cx : fX rn_X cc nL p c s m args x) (hl : lv_has ls nL lv) (hP : fP x S H) (hS : fS x H0 H locs) (hv : fv x 7 i) (hM : Met l mn_C_counts (gw_ws mn_C_counts cb_C_counts 2 (some .boolean)) rm (fPc x S [.ref (xa x 7 i), .ref v0]) (fQi x S' r) mc ms (fun q => xs x ≤ q)) (hR : (rm.cells = mc ∧ rm.slots = ms) ∧ (rm.frames + 1 ≤ R.frames ∧ 8 + (2 + 11) + rm.locals ≤ R.locals) ∧ cells + mc ≤ R.cells ∧ slots + ms ≤ R.slots) (hst : (rest.map fun v => v.category).sum ≤ 8) (hd : decode cc pc = .ok (.invokevirtual 108, 3)) (kk : ∀ (H1 : Heap) (locs1 : List Loc), fP x S' H1 → fS x H0 H1 locs1 → W p l e R s m args below meth c H1 locs1 (cells + mc) (slots + ms) Q (F0 m (pc + 3) ls (.int r :: rest))) : W p l e R s m args below meth c H locs cells slots Q (F0 m pc ls (.ref v0 :: .ref (xa x 7 i) :: rest)) := f_calli (f_runV (n := 1) (ci := 0) (As := [.ref v0]) co_C_counts ml_X_C_counts im_C_counts se_C_counts in_C (by decide +kernel) rfl rfl cx hl hP (hv.at S) rfl hM hR.1.1 hR.1.2 hR.2.1 hR.2.2 hst hd) hS kk
theorem k_X_C_enter {lv : List (Nat × Value)} {v0 : Int32} {S' : fm} {rm : Room} {mc ms : Nat} (cx : fX rn_X cc nL p c s m args x) (hl : lv_has ls nL lv) (hP : fP x S H) (hS : fS x H0 H locs) (hv : fv x 7 i) (hM : Met l mn_C_enter (gw_ws mn_C_enter cb_C_enter 2 none) rm (fPc x S [.ref (xa x 7 i), .int v0]) (fQv x S') mc ms (fun q => xs x ≤ q)) (hR : (rm.cells = mc ∧ rm.slots = ms) ∧ (rm.frames + 1 ≤ R.frames ∧ 8 + (2 + 11) + rm.locals ≤ R.locals) ∧ cells + mc ≤ R.cells ∧ slots + ms ≤ R.slots) (hst : (rest.map fun v => v.category).sum ≤ 8) (hd : decode cc pc = .ok (.invokevirtual 179, 3)) (kk : ∀ (H1 : Heap) (locs1 : List Loc), fP x S' H1 → fS x H0 H1 locs1 → W p l e R s m args below meth c H1 locs1 (cells + mc) (slots + ms) Q (F0 m (pc + 3) ls (rest))) : W p l e R s m args below meth c H locs cells slots Q (F0 m pc ls (.int v0 :: .ref (xa x 7 i) :: rest)) := f_callv (f_runV (n := 1) (ci := 0) (As := [.int v0]) co_C_enter ml_X_C_enter im_C_enter se_C_enter in_C (by decide +kernel) rfl rfl cx hl hP (hv.at S) rfl hM hR.1.1 hR.1.2 hR.2.1 hR.2.2 hst hd) hS kk
theorem k_X_C_finish {lv : List (Nat × Value)}  {S' : fm} {rm : Room} {mc ms : Nat} (cx : fX rn_X cc nL p c s m args x) (hl : lv_has ls nL lv) (hP : fP x S H) (hS : fS x H0 H locs) (hv : fv x 7 i) (hM : Met l mn_C_finish (gw_ws mn_C_finish cb_C_finish 1 none) rm (fPc x S [.ref (xa x 7 i)]) (fQv x S') mc ms (fun q => xs x ≤ q)) (hR : (rm.cells = mc ∧ rm.slots = ms) ∧ (rm.frames + 1 ≤ R.frames ∧ 8 + (1 + 11) + rm.locals ≤ R.locals) ∧ cells + mc ≤ R.cells ∧ slots + ms ≤ R.slots) (hst : (rest.map fun v => v.category).sum ≤ 8) (hd : decode cc pc = .ok (.invokevirtual 216, 3)) (kk : ∀ (H1 : Heap) (locs1 : List Loc), fP x S' H1 → fS x H0 H1 locs1 → W p l e R s m args below meth c H1 locs1 (cells + mc) (slots + ms) Q (F0 m (pc + 3) ls (rest))) : W p l e R s m args below meth c H locs cells slots Q (F0 m pc ls (.ref (xa x 7 i) :: rest)) := f_callv (f_runV (n := 0) (ci := 0) (As := []) co_C_finish ml_X_C_finish im_C_finish se_C_finish in_C (by decide +kernel) rfl rfl cx hl hP (hv.at S) rfl hM hR.1.1 hR.1.2 hR.2.1 hR.2.2 hst hd) hS kk
theorem k_X_C_hasAllFragments {lv : List (Nat × Value)}  {r : Int32} {S' : fm} {rm : Room} {mc ms : Nat} (cx : fX rn_X cc nL p c s m args x) (hl : lv_has ls nL lv) (hP : fP x S H) (hS : fS x H0 H locs) (hv : fv x 7 i) (hM : Met l mn_C_hasAllFragments (gw_ws mn_C_hasAllFragments cb_C_hasAllFragments 1 (some .boolean)) rm (fPc x S [.ref (xa x 7 i)]) (fQi x S' r) mc ms (fun q => xs x ≤ q)) (hR : (rm.cells = mc ∧ rm.slots = ms) ∧ (rm.frames + 1 ≤ R.frames ∧ 8 + (1 + 11) + rm.locals ≤ R.locals) ∧ cells + mc ≤ R.cells ∧ slots + ms ≤ R.slots) (hst : (rest.map fun v => v.category).sum ≤ 8) (hd : decode cc pc = .ok (.invokevirtual 202, 3)) (kk : ∀ (H1 : Heap) (locs1 : List Loc), fP x S' H1 → fS x H0 H1 locs1 → W p l e R s m args below meth c H1 locs1 (cells + mc) (slots + ms) Q (F0 m (pc + 3) ls (.int r :: rest))) : W p l e R s m args below meth c H locs cells slots Q (F0 m pc ls (.ref (xa x 7 i) :: rest)) := f_calli (f_runV (n := 0) (ci := 0) (As := []) co_C_hasAllFragments ml_X_C_hasAllFragments im_C_hasAllFragments se_C_hasAllFragments in_C (by decide +kernel) rfl rfl cx hl hP (hv.at S) rfl hM hR.1.1 hR.1.2 hR.2.1 hR.2.2 hst hd) hS kk
theorem k_X_C_isAtWork {lv : List (Nat × Value)}  {r : Int32} {S' : fm} {rm : Room} {mc ms : Nat} (cx : fX rn_X cc nL p c s m args x) (hl : lv_has ls nL lv) (hP : fP x S H) (hS : fS x H0 H locs) (hv : fv x 7 i) (hM : Met l mn_C_isAtWork (gw_ws mn_C_isAtWork cb_C_isAtWork 1 (some .boolean)) rm (fPc x S [.ref (xa x 7 i)]) (fQi x S' r) mc ms (fun q => xs x ≤ q)) (hR : (rm.cells = mc ∧ rm.slots = ms) ∧ (rm.frames + 1 ≤ R.frames ∧ 8 + (1 + 11) + rm.locals ≤ R.locals) ∧ cells + mc ≤ R.cells ∧ slots + ms ≤ R.slots) (hst : (rest.map fun v => v.category).sum ≤ 8) (hd : decode cc pc = .ok (.invokevirtual 130, 3)) (kk : ∀ (H1 : Heap) (locs1 : List Loc), fP x S' H1 → fS x H0 H1 locs1 → W p l e R s m args below meth c H1 locs1 (cells + mc) (slots + ms) Q (F0 m (pc + 3) ls (.int r :: rest))) : W p l e R s m args below meth c H locs cells slots Q (F0 m pc ls (.ref (xa x 7 i) :: rest)) := f_calli (f_runV (n := 0) (ci := 0) (As := []) co_C_isAtWork ml_X_C_isAtWork im_C_isAtWork se_C_isAtWork in_C (by decide +kernel) rfl rfl cx hl hP (hv.at S) rfl hM hR.1.1 hR.1.2 hR.2.1 hR.2.2 hst hd) hS kk
theorem k_X_C_take {lv : List (Nat × Value)} {v0 : Nat} {v1 : Int32} {S' : fm} {rm : Room} {mc ms : Nat} (cx : fX rn_X cc nL p c s m args x) (hl : lv_has ls nL lv) (hP : fP x S H) (hS : fS x H0 H locs) (hv : fv x 7 i) (hM : Met l mn_C_take (gw_ws mn_C_take cb_C_take 3 none) rm (fPc x S [.ref (xa x 7 i), .ref v0, .int v1]) (fQv x S') mc ms (fun q => xs x ≤ q)) (hR : (rm.cells = mc ∧ rm.slots = ms) ∧ (rm.frames + 1 ≤ R.frames ∧ 8 + (3 + 11) + rm.locals ≤ R.locals) ∧ cells + mc ≤ R.cells ∧ slots + ms ≤ R.slots) (hst : (rest.map fun v => v.category).sum ≤ 8) (hd : decode cc pc = .ok (.invokevirtual 112, 3)) (kk : ∀ (H1 : Heap) (locs1 : List Loc), fP x S' H1 → fS x H0 H1 locs1 → W p l e R s m args below meth c H1 locs1 (cells + mc) (slots + ms) Q (F0 m (pc + 3) ls (rest))) : W p l e R s m args below meth c H locs cells slots Q (F0 m pc ls (.int v1 :: .ref v0 :: .ref (xa x 7 i) :: rest)) := f_callv (f_runV (n := 2) (ci := 0) (As := [.ref v0, .int v1]) co_C_take ml_X_C_take im_C_take se_C_take in_C (by decide +kernel) rfl rfl cx hl hP (hv.at S) rfl hM hR.1.1 hR.1.2 hR.2.1 hR.2.2 hst hd) hS kk
theorem k_X_J_max {lv : List (Nat × Value)} {y z : Int32} (cx : fX rn_X cc nL p c s m args x) (hl : lv_has ls nL lv) (hR : 1 ≤ R.frames ∧ (rest.map fun v => v.category).sum + 13 ≤ R.locals ∧ cells ≤ R.cells ∧ slots ≤ R.slots) (hd : decode cc pc = .ok (.invokestatic 175, 3)) (kk : W p l e R s m args below meth c H locs cells slots Q (F0 m (pc + 3) ls (.int (if z < y then y else z) :: rest))) : W p l e R s m args below meth c H locs cells slots Q (F0 m pc ls (.int y :: .int z :: rest)) := va_mmax cx.1.1 cx.1.2.1 (by rw [cx.1.2.2.1]; exact hl.1.symm) cx.1.2.2.2.1 (cx.1.2.2.2.2 _ ml_X_J_max) (cx.1.2.2.2.2 _ st_J_max) (cx.1.2.2.2.2 _ in_J) (cx.1.2.2.2.2 _ co_J_max) hR.1 hR.2.1 hR.2.2.1 hR.2.2.2 hd kk
theorem k_X_J_min {lv : List (Nat × Value)} {y z : Int32} (cx : fX rn_X cc nL p c s m args x) (hl : lv_has ls nL lv) (hR : 1 ≤ R.frames ∧ (rest.map fun v => v.category).sum + 13 ≤ R.locals ∧ cells ≤ R.cells ∧ slots ≤ R.slots) (hd : decode cc pc = .ok (.invokestatic 170, 3)) (kk : W p l e R s m args below meth c H locs cells slots Q (F0 m (pc + 3) ls (.int (if y < z then y else z) :: rest))) : W p l e R s m args below meth c H locs cells slots Q (F0 m pc ls (.int y :: .int z :: rest)) := va_mmin cx.1.1 cx.1.2.1 (by rw [cx.1.2.2.1]; exact hl.1.symm) cx.1.2.2.2.1 (cx.1.2.2.2.2 _ ml_X_J_min) (cx.1.2.2.2.2 _ st_J_min) (cx.1.2.2.2.2 _ in_J) (cx.1.2.2.2.2 _ co_J_min) hR.1 hR.2.1 hR.2.2.1 hR.2.2.2 hd kk
theorem k_X_K_byteAt {lv : List (Nat × Value)} {v0 : Int64} {v1 : Int32} {r : Int32} {S' : fm} {rm : Room} {mc ms : Nat} (cx : fX rn_X cc nL p c s m args x) (hl : lv_has ls nL lv) (hP : fP x S H) (hS : fS x H0 H locs)  (hM : Met l mn_K_byteAt (gw_ws mn_K_byteAt cb_K_byteAt 3 (some .int)) rm (fPc x S [.long v0, .int v1]) (fQi x S' r) mc ms (fun q => xs x ≤ q)) (hR : (rm.cells = mc ∧ rm.slots = ms) ∧ (rm.frames + 1 ≤ R.frames ∧ 8 + (3 + 11) + rm.locals ≤ R.locals) ∧ cells + mc ≤ R.cells ∧ slots + ms ≤ R.slots) (hst : (rest.map fun v => v.category).sum ≤ 8) (hd : decode cc pc = .ok (.invokestatic 160, 3)) (kk : ∀ (H1 : Heap) (locs1 : List Loc), fP x S' H1 → fS x H0 H1 locs1 → W p l e R s m args below meth c H1 locs1 (cells + mc) (slots + ms) Q (F0 m (pc + 3) ls (.int r :: rest))) : W p l e R s m args below meth c H locs cells slots Q (F0 m pc ls (.int v1 :: .long v0 :: rest)) := f_calli (f_runS (n := 2) (As := [.long v0, .int v1]) co_K_byteAt ml_X_K_byteAt st_K_byteAt in_K (by decide +kernel) rfl cx hl hP hM hR.1.1 hR.1.2 hR.2.1 hR.2.2 hst hd) hS kk
theorem k_X_K_decode {lv : List (Nat × Value)} {v0 : Nat} {v1 : Nat} {r : Int64} {S' : fm} {rm : Room} {mc ms : Nat} (cx : fX rn_X cc nL p c s m args x) (hl : lv_has ls nL lv) (hP : fP x S H) (hS : fS x H0 H locs) (hv : fv x 1 0) (hM : Met l mn_K_decode (gw_ws mn_K_decode cb_K_decode 7 (some .long)) rm (fPc x S [.ref (xa x 1 0), .ref v0, .ref v1]) (fQl x S' r) mc ms (fun q => xs x ≤ q)) (hR : (rm.cells = mc ∧ rm.slots = ms) ∧ (rm.frames + 1 ≤ R.frames ∧ 8 + (7 + 11) + rm.locals ≤ R.locals) ∧ cells + mc ≤ R.cells ∧ slots + ms ≤ R.slots) (hst : (rest.map fun v => v.category).sum ≤ 8) (hd : decode cc pc = .ok (.invokevirtual 212, 3)) (kk : ∀ (H1 : Heap) (locs1 : List Loc), fP x S' H1 → fS x H0 H1 locs1 → W p l e R s m args below meth c H1 locs1 (cells + mc) (slots + ms) Q (F0 m (pc + 3) ls (.long r :: rest))) : W p l e R s m args below meth c H locs cells slots Q (F0 m pc ls (.ref v1 :: .ref v0 :: .ref (xa x 1 0) :: rest)) := f_calll (f_runV (n := 2) (ci := 1) (As := [.ref v0, .ref v1]) co_K_decode ml_X_K_decode im_K_decode se_K_decode in_K (by decide +kernel) rfl rfl cx hl hP (hv.at S) rfl hM hR.1.1 hR.1.2 hR.2.1 hR.2.2 hst hd) hS kk
theorem k_X_K_encode {lv : List (Nat × Value)} {v0 : Int64} {v1 : Int32} {r : Int64} {S' : fm} {rm : Room} {mc ms : Nat} (cx : fX rn_X cc nL p c s m args x) (hl : lv_has ls nL lv) (hP : fP x S H) (hS : fS x H0 H locs) (hv : fv x 1 0) (hM : Met l mn_K_encode (gw_ws mn_K_encode cb_K_encode 9 (some .long)) rm (fPc x S [.ref (xa x 1 0), .long v0, .int v1]) (fQl x S' r) mc ms (fun q => xs x ≤ q)) (hR : (rm.cells = mc ∧ rm.slots = ms) ∧ (rm.frames + 1 ≤ R.frames ∧ 8 + (9 + 11) + rm.locals ≤ R.locals) ∧ cells + mc ≤ R.cells ∧ slots + ms ≤ R.slots) (hst : (rest.map fun v => v.category).sum ≤ 8) (hd : decode cc pc = .ok (.invokevirtual 195, 3)) (kk : ∀ (H1 : Heap) (locs1 : List Loc), fP x S' H1 → fS x H0 H1 locs1 → W p l e R s m args below meth c H1 locs1 (cells + mc) (slots + ms) Q (F0 m (pc + 3) ls (.long r :: rest))) : W p l e R s m args below meth c H locs cells slots Q (F0 m pc ls (.int v1 :: .long v0 :: .ref (xa x 1 0) :: rest)) := f_calll (f_runV (n := 2) (ci := 1) (As := [.long v0, .int v1]) co_K_encode ml_X_K_encode im_K_encode se_K_encode in_K (by decide +kernel) rfl rfl cx hl hP (hv.at S) rfl hM hR.1.1 hR.1.2 hR.2.1 hR.2.2 hst hd) hS kk
theorem k_X_L_init {lv : List (Nat × Value)} {v0 : Int32} {v1 : Int32} {v2 : Int32} {S' : fm} {rm : Room} {mc ms : Nat} (cx : fX rn_X cc nL p c s m args x) (hl : lv_has ls nL lv) (hP : fP x S H) (hS : fS x H0 H locs)  (hM : Met l mn_L_init (gw_ws mn_L_init cb_L_init 4 none) rm (fPc x S [.ref a, .int v0, .int v1, .int v2]) (fQv x S') mc ms (fun q => xs x ≤ q)) (hR : (rm.cells = mc ∧ rm.slots = ms) ∧ (rm.frames + 1 ≤ R.frames ∧ 8 + (4 + 11) + rm.locals ≤ R.locals) ∧ cells + mc ≤ R.cells ∧ slots + ms ≤ R.slots) (hst : (rest.map fun v => v.category).sum ≤ 8) (hd : decode cc pc = .ok (.invokespecial 192, 3)) (kk : ∀ (H1 : Heap) (locs1 : List Loc), fP x S' H1 → fS x H0 H1 locs1 → W p l e R s m args below meth c H1 locs1 (cells + mc) (slots + ms) Q (F0 m (pc + 3) ls (rest))) : W p l e R s m args below meth c H locs cells slots Q (F0 m pc ls (.int v2 :: .int v1 :: .int v0 :: .ref a :: rest)) := f_callv (f_runI (n := 3) (As := [.int v0, .int v1, .int v2]) co_L_init ml_X_L_init im_L_init in_L rfl (by decide +kernel) rfl cx hl hP hM hR.1.1 hR.1.2 hR.2.1 hR.2.2 hst hd) hS kk
theorem k_X_R_append {lv : List (Nat × Value)} {v0 : Nat} {S' : fm} {rm : Room} {mc ms : Nat} (cx : fX rn_X cc nL p c s m args x) (hl : lv_has ls nL lv) (hP : fP x S H) (hS : fS x H0 H locs) (hv : fv x 13 i) (hM : Met l mn_R_append (gw_ws mn_R_append cb_R_append 2 none) rm (fPc x S [.ref (xa x 13 i), .ref v0]) (fQv x S') mc ms (fun q => xs x ≤ q)) (hR : (rm.cells = mc ∧ rm.slots = ms) ∧ (rm.frames + 1 ≤ R.frames ∧ 8 + (2 + 11) + rm.locals ≤ R.locals) ∧ cells + mc ≤ R.cells ∧ slots + ms ≤ R.slots) (hst : (rest.map fun v => v.category).sum ≤ 8) (hd : decode cc pc = .ok (.invokevirtual 102, 3)) (kk : ∀ (H1 : Heap) (locs1 : List Loc), fP x S' H1 → fS x H0 H1 locs1 → W p l e R s m args below meth c H1 locs1 (cells + mc) (slots + ms) Q (F0 m (pc + 3) ls (rest))) : W p l e R s m args below meth c H locs cells slots Q (F0 m pc ls (.ref v0 :: .ref (xa x 13 i) :: rest)) := f_callv (f_runV (n := 1) (ci := 3) (As := [.ref v0]) co_R_append ml_X_R_append im_R_append se_R_append in_R (by decide +kernel) rfl rfl cx hl hP (hv.at S) rfl hM hR.1.1 hR.1.2 hR.2.1 hR.2.2 hst hd) hS kk
theorem k_X_R_lose {lv : List (Nat × Value)}  {S' : fm} {rm : Room} {mc ms : Nat} (cx : fX rn_X cc nL p c s m args x) (hl : lv_has ls nL lv) (hP : fP x S H) (hS : fS x H0 H locs) (hv : fv x 13 i) (hM : Met l mn_R_lose (gw_ws mn_R_lose cb_R_lose 2 none) rm (fPc x S [.ref (xa x 13 i)]) (fQv x S') mc ms (fun q => xs x ≤ q)) (hR : (rm.cells = mc ∧ rm.slots = ms) ∧ (rm.frames + 1 ≤ R.frames ∧ 8 + (2 + 11) + rm.locals ≤ R.locals) ∧ cells + mc ≤ R.cells ∧ slots + ms ≤ R.slots) (hst : (rest.map fun v => v.category).sum ≤ 8) (hd : decode cc pc = .ok (.invokevirtual 127, 3)) (kk : ∀ (H1 : Heap) (locs1 : List Loc), fP x S' H1 → fS x H0 H1 locs1 → W p l e R s m args below meth c H1 locs1 (cells + mc) (slots + ms) Q (F0 m (pc + 3) ls (rest))) : W p l e R s m args below meth c H locs cells slots Q (F0 m pc ls (.ref (xa x 13 i) :: rest)) := f_callv (f_runV (n := 0) (ci := 3) (As := []) co_R_lose ml_X_R_lose im_R_lose se_R_lose in_R (by decide +kernel) rfl rfl cx hl hP (hv.at S) rfl hM hR.1.1 hR.1.2 hR.2.1 hR.2.2 hst hd) hS kk
theorem k_X_R_take {lv : List (Nat × Value)} {v0 : Int32} {r : Option Nat} {S' : fm} {rm : Room} {mc ms : Nat} (cx : fX rn_X cc nL p c s m args x) (hl : lv_has ls nL lv) (hP : fP x S H) (hS : fS x H0 H locs) (hv : fv x 13 i) (hM : Met l mn_R_take (gw_ws mn_R_take cb_R_take 4 (some (.object "SealedFragmentRegister$Letter"))) rm (fPc x S [.ref (xa x 13 i), .int v0]) (fQq x S' r) mc ms (fun q => xs x ≤ q)) (hR : (rm.cells = mc ∧ rm.slots = ms) ∧ (rm.frames + 1 ≤ R.frames ∧ 8 + (4 + 11) + rm.locals ≤ R.locals) ∧ cells + mc ≤ R.cells ∧ slots + ms ≤ R.slots) (hst : (rest.map fun v => v.category).sum ≤ 8) (hd : decode cc pc = .ok (.invokevirtual 92, 3)) (kk : ∀ (H1 : Heap) (locs1 : List Loc), fP x S' H1 → fS x H0 H1 locs1 → W p l e R s m args below meth c H1 locs1 (cells + mc) (slots + ms) Q (F0 m (pc + 3) ls (va_rf r :: rest))) : W p l e R s m args below meth c H locs cells slots Q (F0 m pc ls (.int v0 :: .ref (xa x 13 i) :: rest)) := f_callq (f_runV (n := 1) (ci := 3) (As := [.int v0]) co_R_take ml_X_R_take im_R_take se_R_take in_R (by decide +kernel) rfl rfl cx hl hP (hv.at S) rfl hM hR.1.1 hR.1.2 hR.2.1 hR.2.2 hst hd) hS kk
theorem k_X_S_answer {lv : List (Nat × Value)} {v0 : Nat} {S' : fm} {rm : Room} {mc ms : Nat} (cx : fX rn_X cc nL p c s m args x) (hl : lv_has ls nL lv) (hP : fP x S H) (hS : fS x H0 H locs) (hv : fv x 10 i) (hM : Met l mn_S_answer (gw_ws mn_S_answer cb_S_answer 2 none) rm (fPc x S [.ref (xa x 10 i), .ref v0]) (fQv x S') mc ms (fun q => xs x ≤ q)) (hR : (rm.cells = mc ∧ rm.slots = ms) ∧ (rm.frames + 1 ≤ R.frames ∧ 8 + (2 + 11) + rm.locals ≤ R.locals) ∧ cells + mc ≤ R.cells ∧ slots + ms ≤ R.slots) (hst : (rest.map fun v => v.category).sum ≤ 8) (hd : decode cc pc = .ok (.invokevirtual 98, 3)) (kk : ∀ (H1 : Heap) (locs1 : List Loc), fP x S' H1 → fS x H0 H1 locs1 → W p l e R s m args below meth c H1 locs1 (cells + mc) (slots + ms) Q (F0 m (pc + 3) ls (rest))) : W p l e R s m args below meth c H locs cells slots Q (F0 m pc ls (.ref v0 :: .ref (xa x 10 i) :: rest)) := f_callv (f_runV (n := 1) (ci := 4) (As := [.ref v0]) co_S_answer ml_X_S_answer im_S_answer se_S_answer in_S (by decide +kernel) rfl rfl cx hl hP (hv.at S) rfl hM hR.1.1 hR.1.2 hR.2.1 hR.2.2 hst hd) hS kk
theorem k_X_S_placeOf {lv : List (Nat × Value)} {v0 : Int32} {r : Int32} {S' : fm} {rm : Room} {mc ms : Nat} (cx : fX rn_X cc nL p c s m args x) (hl : lv_has ls nL lv) (hP : fP x S H) (hS : fS x H0 H locs) (hv : fv x 10 i) (hM : Met l mn_S_placeOf (gw_ws mn_S_placeOf cb_S_placeOf 3 (some .int)) rm (fPc x S [.ref (xa x 10 i), .int v0]) (fQi x S' r) mc ms (fun q => xs x ≤ q)) (hR : (rm.cells = mc ∧ rm.slots = ms) ∧ (rm.frames + 1 ≤ R.frames ∧ 8 + (3 + 11) + rm.locals ≤ R.locals) ∧ cells + mc ≤ R.cells ∧ slots + ms ≤ R.slots) (hst : (rest.map fun v => v.category).sum ≤ 8) (hd : decode cc pc = .ok (.invokevirtual 153, 3)) (kk : ∀ (H1 : Heap) (locs1 : List Loc), fP x S' H1 → fS x H0 H1 locs1 → W p l e R s m args below meth c H1 locs1 (cells + mc) (slots + ms) Q (F0 m (pc + 3) ls (.int r :: rest))) : W p l e R s m args below meth c H locs cells slots Q (F0 m pc ls (.int v0 :: .ref (xa x 10 i) :: rest)) := f_calli (f_runV (n := 1) (ci := 4) (As := [.int v0]) co_S_placeOf ml_X_S_placeOf im_S_placeOf se_S_placeOf in_S (by decide +kernel) rfl rfl cx hl hP (hv.at S) rfl hM hR.1.1 hR.1.2 hR.2.1 hR.2.2 hst hd) hS kk
theorem k_X_X_beginPhase {lv : List (Nat × Value)} {v0 : Nat} {v1 : Int32} {S' : fm} {rm : Room} {mc ms : Nat} (cx : fX rn_X cc nL p c s m args x) (hl : lv_has ls nL lv) (hP : fP x S H) (hS : fS x H0 H locs) (hv : fv x 0 0) (hM : Met l mn_X_beginPhase (gw_ws mn_X_beginPhase cb_X_beginPhase 4 none) rm (fPc x S [.ref (xa x 0 0), .ref v0, .int v1]) (fQv x S') mc ms (fun q => xs x ≤ q)) (hR : (rm.cells = mc ∧ rm.slots = ms) ∧ (rm.frames + 1 ≤ R.frames ∧ 8 + (4 + 11) + rm.locals ≤ R.locals) ∧ cells + mc ≤ R.cells ∧ slots + ms ≤ R.slots) (hst : (rest.map fun v => v.category).sum ≤ 8) (hd : decode cc pc = .ok (.invokevirtual 64, 3)) (kk : ∀ (H1 : Heap) (locs1 : List Loc), fP x S' H1 → fS x H0 H1 locs1 → W p l e R s m args below meth c H1 locs1 (cells + mc) (slots + ms) Q (F0 m (pc + 3) ls (rest))) : W p l e R s m args below meth c H locs cells slots Q (F0 m pc ls (.int v1 :: .ref v0 :: .ref (xa x 0 0) :: rest)) := f_callv (f_runV (n := 2) (ci := 5) (As := [.ref v0, .int v1]) co_X_beginPhase ml_X_X_beginPhase im_X_beginPhase se_X_beginPhase in_X (by decide +kernel) rfl rfl cx hl hP (hv.at S) rfl hM hR.1.1 hR.1.2 hR.2.1 hR.2.2 hst hd) hS kk
theorem k_X_X_between {lv : List (Nat × Value)} {v0 : Int32} {v1 : Int32} {v2 : Int32} {r : Int32} {S' : fm} {rm : Room} {mc ms : Nat} (cx : fX rn_X cc nL p c s m args x) (hl : lv_has ls nL lv) (hP : fP x S H) (hS : fS x H0 H locs)  (hM : Met l mn_X_between (gw_ws mn_X_between cb_X_between 3 (some .int)) rm (fPc x S [.int v0, .int v1, .int v2]) (fQi x S' r) mc ms (fun q => xs x ≤ q)) (hR : (rm.cells = mc ∧ rm.slots = ms) ∧ (rm.frames + 1 ≤ R.frames ∧ 8 + (3 + 11) + rm.locals ≤ R.locals) ∧ cells + mc ≤ R.cells ∧ slots + ms ≤ R.slots) (hst : (rest.map fun v => v.category).sum ≤ 8) (hd : decode cc pc = .ok (.invokestatic 9, 3)) (kk : ∀ (H1 : Heap) (locs1 : List Loc), fP x S' H1 → fS x H0 H1 locs1 → W p l e R s m args below meth c H1 locs1 (cells + mc) (slots + ms) Q (F0 m (pc + 3) ls (.int r :: rest))) : W p l e R s m args below meth c H locs cells slots Q (F0 m pc ls (.int v2 :: .int v1 :: .int v0 :: rest)) := f_calli (f_runS (n := 3) (As := [.int v0, .int v1, .int v2]) co_X_between ml_X_X_between st_X_between in_X (by decide +kernel) rfl cx hl hP hM hR.1.1 hR.1.2 hR.2.1 hR.2.2 hst hd) hS kk
theorem k_X_X_endPhase {lv : List (Nat × Value)} {v0 : Nat} {r : Int32} {S' : fm} {rm : Room} {mc ms : Nat} (cx : fX rn_X cc nL p c s m args x) (hl : lv_has ls nL lv) (hP : fP x S H) (hS : fS x H0 H locs) (hv : fv x 0 0) (hM : Met l mn_X_endPhase (gw_ws mn_X_endPhase cb_X_endPhase 3 (some .int)) rm (fPc x S [.ref (xa x 0 0), .ref v0]) (fQi x S' r) mc ms (fun q => xs x ≤ q)) (hR : (rm.cells = mc ∧ rm.slots = ms) ∧ (rm.frames + 1 ≤ R.frames ∧ 8 + (3 + 11) + rm.locals ≤ R.locals) ∧ cells + mc ≤ R.cells ∧ slots + ms ≤ R.slots) (hst : (rest.map fun v => v.category).sum ≤ 8) (hd : decode cc pc = .ok (.invokevirtual 119, 3)) (kk : ∀ (H1 : Heap) (locs1 : List Loc), fP x S' H1 → fS x H0 H1 locs1 → W p l e R s m args below meth c H1 locs1 (cells + mc) (slots + ms) Q (F0 m (pc + 3) ls (.int r :: rest))) : W p l e R s m args below meth c H locs cells slots Q (F0 m pc ls (.ref v0 :: .ref (xa x 0 0) :: rest)) := f_calli (f_runV (n := 1) (ci := 5) (As := [.ref v0]) co_X_endPhase ml_X_X_endPhase im_X_endPhase se_X_endPhase in_X (by decide +kernel) rfl rfl cx hl hP (hv.at S) rfl hM hR.1.1 hR.1.2 hR.2.1 hR.2.2 hst hd) hS kk
theorem k_X_X_hasHeardEnough {lv : List (Nat × Value)} {v0 : Nat} {r : Int32} {S' : fm} {rm : Room} {mc ms : Nat} (cx : fX rn_X cc nL p c s m args x) (hl : lv_has ls nL lv) (hP : fP x S H) (hS : fS x H0 H locs) (hv : fv x 0 0) (hM : Met l mn_X_hasHeardEnough (gw_ws mn_X_hasHeardEnough cb_X_hasHeardEnough 2 (some .boolean)) rm (fPc x S [.ref (xa x 0 0), .ref v0]) (fQi x S' r) mc ms (fun q => xs x ≤ q)) (hR : (rm.cells = mc ∧ rm.slots = ms) ∧ (rm.frames + 1 ≤ R.frames ∧ 8 + (2 + 11) + rm.locals ≤ R.locals) ∧ cells + mc ≤ R.cells ∧ slots + ms ≤ R.slots) (hst : (rest.map fun v => v.category).sum ≤ 8) (hd : decode cc pc = .ok (.invokevirtual 115, 3)) (kk : ∀ (H1 : Heap) (locs1 : List Loc), fP x S' H1 → fS x H0 H1 locs1 → W p l e R s m args below meth c H1 locs1 (cells + mc) (slots + ms) Q (F0 m (pc + 3) ls (.int r :: rest))) : W p l e R s m args below meth c H locs cells slots Q (F0 m pc ls (.ref v0 :: .ref (xa x 0 0) :: rest)) := f_calli (f_runV (n := 1) (ci := 5) (As := [.ref v0]) co_X_hasHeardEnough ml_X_X_hasHeardEnough im_X_hasHeardEnough se_X_hasHeardEnough in_X (by decide +kernel) rfl rfl cx hl hP (hv.at S) rfl hM hR.1.1 hR.1.2 hR.2.1 hR.2.2 hst hd) hS kk
theorem k_X_X_isClient {lv : List (Nat × Value)} {v0 : Int32} {r : Int32} {S' : fm} {rm : Room} {mc ms : Nat} (cx : fX rn_X cc nL p c s m args x) (hl : lv_has ls nL lv) (hP : fP x S H) (hS : fS x H0 H locs) (hv : fv x 0 0) (hM : Met l mn_X_isClient (gw_ws mn_X_isClient cb_X_isClient 2 (some .boolean)) rm (fPc x S [.ref (xa x 0 0), .int v0]) (fQi x S' r) mc ms (fun q => xs x ≤ q)) (hR : (rm.cells = mc ∧ rm.slots = ms) ∧ (rm.frames + 1 ≤ R.frames ∧ 8 + (2 + 11) + rm.locals ≤ R.locals) ∧ cells + mc ≤ R.cells ∧ slots + ms ≤ R.slots) (hst : (rest.map fun v => v.category).sum ≤ 8) (hd : decode cc pc = .ok (.invokevirtual 68, 3)) (kk : ∀ (H1 : Heap) (locs1 : List Loc), fP x S' H1 → fS x H0 H1 locs1 → W p l e R s m args below meth c H1 locs1 (cells + mc) (slots + ms) Q (F0 m (pc + 3) ls (.int r :: rest))) : W p l e R s m args below meth c H locs cells slots Q (F0 m pc ls (.int v0 :: .ref (xa x 0 0) :: rest)) := f_calli (f_runV (n := 1) (ci := 5) (As := [.int v0]) co_X_isClient ml_X_X_isClient im_X_isClient se_X_isClient in_X (by decide +kernel) rfl rfl cx hl hP (hv.at S) rfl hM hR.1.1 hR.1.2 hR.2.1 hR.2.2 hst hd) hS kk
theorem k_X_X_isCrowded {lv : List (Nat × Value)} {v0 : Int32} {r : Int32} {S' : fm} {rm : Room} {mc ms : Nat} (cx : fX rn_X cc nL p c s m args x) (hl : lv_has ls nL lv) (hP : fP x S H) (hS : fS x H0 H locs) (hv : fv x 0 0) (hM : Met l mn_X_isCrowded (gw_ws mn_X_isCrowded cb_X_isCrowded 4 (some .boolean)) rm (fPc x S [.ref (xa x 0 0), .int v0]) (fQi x S' r) mc ms (fun q => xs x ≤ q)) (hR : (rm.cells = mc ∧ rm.slots = ms) ∧ (rm.frames + 1 ≤ R.frames ∧ 8 + (4 + 11) + rm.locals ≤ R.locals) ∧ cells + mc ≤ R.cells ∧ slots + ms ≤ R.slots) (hst : (rest.map fun v => v.category).sum ≤ 8) (hd : decode cc pc = .ok (.invokevirtual 82, 3)) (kk : ∀ (H1 : Heap) (locs1 : List Loc), fP x S' H1 → fS x H0 H1 locs1 → W p l e R s m args below meth c H1 locs1 (cells + mc) (slots + ms) Q (F0 m (pc + 3) ls (.int r :: rest))) : W p l e R s m args below meth c H locs cells slots Q (F0 m pc ls (.int v0 :: .ref (xa x 0 0) :: rest)) := f_calli (f_runV (n := 1) (ci := 5) (As := [.int v0]) co_X_isCrowded ml_X_X_isCrowded im_X_isCrowded se_X_isCrowded in_X (by decide +kernel) rfl rfl cx hl hP (hv.at S) rfl hM hR.1.1 hR.1.2 hR.2.1 hR.2.2 hst hd) hS kk
theorem k_X_X_isServer {lv : List (Nat × Value)} {v0 : Int32} {r : Int32} {S' : fm} {rm : Room} {mc ms : Nat} (cx : fX rn_X cc nL p c s m args x) (hl : lv_has ls nL lv) (hP : fP x S H) (hS : fS x H0 H locs) (hv : fv x 0 0) (hM : Met l mn_X_isServer (gw_ws mn_X_isServer cb_X_isServer 2 (some .boolean)) rm (fPc x S [.ref (xa x 0 0), .int v0]) (fQi x S' r) mc ms (fun q => xs x ≤ q)) (hR : (rm.cells = mc ∧ rm.slots = ms) ∧ (rm.frames + 1 ≤ R.frames ∧ 8 + (2 + 11) + rm.locals ≤ R.locals) ∧ cells + mc ≤ R.cells ∧ slots + ms ≤ R.slots) (hst : (rest.map fun v => v.category).sum ≤ 8) (hd : decode cc pc = .ok (.invokevirtual 85, 3)) (kk : ∀ (H1 : Heap) (locs1 : List Loc), fP x S' H1 → fS x H0 H1 locs1 → W p l e R s m args below meth c H1 locs1 (cells + mc) (slots + ms) Q (F0 m (pc + 3) ls (.int r :: rest))) : W p l e R s m args below meth c H locs cells slots Q (F0 m pc ls (.int v0 :: .ref (xa x 0 0) :: rest)) := f_calli (f_runV (n := 1) (ci := 5) (As := [.int v0]) co_X_isServer ml_X_X_isServer im_X_isServer se_X_isServer in_X (by decide +kernel) rfl rfl cx hl hP (hv.at S) rfl hM hR.1.1 hR.1.2 hR.2.1 hR.2.2 hst hd) hS kk
theorem k_X_X_refusalToBegin {lv : List (Nat × Value)} {v0 : Int32} {r : Int32} {S' : fm} {rm : Room} {mc ms : Nat} (cx : fX rn_X cc nL p c s m args x) (hl : lv_has ls nL lv) (hP : fP x S H) (hS : fS x H0 H locs) (hv : fv x 0 0) (hM : Met l mn_X_refusalToBegin (gw_ws mn_X_refusalToBegin cb_X_refusalToBegin 2 (some .int)) rm (fPc x S [.ref (xa x 0 0), .int v0]) (fQi x S' r) mc ms (fun q => xs x ≤ q)) (hR : (rm.cells = mc ∧ rm.slots = ms) ∧ (rm.frames + 1 ≤ R.frames ∧ 8 + (2 + 11) + rm.locals ≤ R.locals) ∧ cells + mc ≤ R.cells ∧ slots + ms ≤ R.slots) (hst : (rest.map fun v => v.category).sum ≤ 8) (hd : decode cc pc = .ok (.invokevirtual 56, 3)) (kk : ∀ (H1 : Heap) (locs1 : List Loc), fP x S' H1 → fS x H0 H1 locs1 → W p l e R s m args below meth c H1 locs1 (cells + mc) (slots + ms) Q (F0 m (pc + 3) ls (.int r :: rest))) : W p l e R s m args below meth c H locs cells slots Q (F0 m pc ls (.int v0 :: .ref (xa x 0 0) :: rest)) := f_calli (f_runV (n := 1) (ci := 5) (As := [.int v0]) co_X_refusalToBegin ml_X_X_refusalToBegin im_X_refusalToBegin se_X_refusalToBegin in_X (by decide +kernel) rfl rfl cx hl hP (hv.at S) rfl hM hR.1.1 hR.1.2 hR.2.1 hR.2.2 hst hd) hS kk
theorem k_X_X_requestTo {lv : List (Nat × Value)} {v0 : Int32} {v1 : Nat} {r : Option Nat} {S' : fm} {rm : Room} {mc ms : Nat} (cx : fX rn_X cc nL p c s m args x) (hl : lv_has ls nL lv) (hP : fP x S H) (hS : fS x H0 H locs) (hv : fv x 0 0) (hM : Met l mn_X_requestTo (gw_ws mn_X_requestTo cb_X_requestTo 4 (some (.object "SealedFragmentRegister$Letter"))) rm (fPc x S [.ref (xa x 0 0), .int v0, .ref v1]) (fQq x S' r) mc ms (fun q => xs x ≤ q)) (hR : (rm.cells = mc ∧ rm.slots = ms) ∧ (rm.frames + 1 ≤ R.frames ∧ 8 + (4 + 11) + rm.locals ≤ R.locals) ∧ cells + mc ≤ R.cells ∧ slots + ms ≤ R.slots) (hst : (rest.map fun v => v.category).sum ≤ 8) (hd : decode cc pc = .ok (.invokevirtual 185, 3)) (kk : ∀ (H1 : Heap) (locs1 : List Loc), fP x S' H1 → fS x H0 H1 locs1 → W p l e R s m args below meth c H1 locs1 (cells + mc) (slots + ms) Q (F0 m (pc + 3) ls (va_rf r :: rest))) : W p l e R s m args below meth c H locs cells slots Q (F0 m pc ls (.ref v1 :: .int v0 :: .ref (xa x 0 0) :: rest)) := f_callq (f_runV (n := 2) (ci := 5) (As := [.int v0, .ref v1]) co_X_requestTo ml_X_X_requestTo im_X_requestTo se_X_requestTo in_X (by decide +kernel) rfl rfl cx hl hP (hv.at S) rfl hM hR.1.1 hR.1.2 hR.2.1 hR.2.2 hst hd) hS kk
theorem k_X_X_rowOf {lv : List (Nat × Value)} {v0 : Int32} {v1 : Int32} {r : Int32} {S' : fm} {rm : Room} {mc ms : Nat} (cx : fX rn_X cc nL p c s m args x) (hl : lv_has ls nL lv) (hP : fP x S H) (hS : fS x H0 H locs) (hv : fv x 0 0) (hM : Met l mn_X_rowOf (gw_ws mn_X_rowOf cb_X_rowOf 3 (some .int)) rm (fPc x S [.ref (xa x 0 0), .int v0, .int v1]) (fQi x S' r) mc ms (fun q => xs x ≤ q)) (hR : (rm.cells = mc ∧ rm.slots = ms) ∧ (rm.frames + 1 ≤ R.frames ∧ 8 + (3 + 11) + rm.locals ≤ R.locals) ∧ cells + mc ≤ R.cells ∧ slots + ms ≤ R.slots) (hst : (rest.map fun v => v.category).sum ≤ 8) (hd : decode cc pc = .ok (.invokevirtual 88, 3)) (kk : ∀ (H1 : Heap) (locs1 : List Loc), fP x S' H1 → fS x H0 H1 locs1 → W p l e R s m args below meth c H1 locs1 (cells + mc) (slots + ms) Q (F0 m (pc + 3) ls (.int r :: rest))) : W p l e R s m args below meth c H locs cells slots Q (F0 m pc ls (.int v1 :: .int v0 :: .ref (xa x 0 0) :: rest)) := f_calli (f_runV (n := 2) (ci := 5) (As := [.int v0, .int v1]) co_X_rowOf ml_X_X_rowOf im_X_rowOf se_X_rowOf in_X (by decide +kernel) rfl rfl cx hl hP (hv.at S) rfl hM hR.1.1 hR.1.2 hR.2.1 hR.2.2 hst hd) hS kk
end FC
end
section
theorem dd_C_init_0 : decode cb_C_init 0 = .ok (.aload_n 0, 1) := by decide +kernel
theorem dd_C_init_1 : decode cb_C_init 1 = .ok (.invokespecial 3, 3) := by decide +kernel
theorem dd_C_init_4 : decode cb_C_init 4 = .ok (.aload_n 0, 1) := by decide +kernel
theorem dd_C_init_5 : decode cb_C_init 5 = .ok (.iconst 0, 1) := by decide +kernel
theorem dd_C_init_6 : decode cb_C_init 6 = .ok (.putfield 9, 3) := by decide +kernel
theorem dd_C_init_9 : decode cb_C_init 9 = .ok (.aload_n 0, 1) := by decide +kernel
theorem dd_C_init_10 : decode cb_C_init 10 = .ok (.iload_n 1, 1) := by decide +kernel
theorem dd_C_init_11 : decode cb_C_init 11 = .ok (.putfield 15, 3) := by decide +kernel
theorem dd_C_init_14 : decode cb_C_init 14 = .ok (.aload_n 0, 1) := by decide +kernel
theorem dd_C_init_15 : decode cb_C_init 15 = .ok (.iload_n 2, 1) := by decide +kernel
theorem dd_C_init_16 : decode cb_C_init 16 = .ok (.newarray .int, 2) := by decide +kernel
theorem dd_C_init_18 : decode cb_C_init 18 = .ok (.putfield 18, 3) := by decide +kernel
theorem dd_C_init_21 : decode cb_C_init 21 = .ok (.aload_n 0, 1) := by decide +kernel
theorem dd_C_init_22 : decode cb_C_init 22 = .ok (.iload_n 2, 1) := by decide +kernel
theorem dd_C_init_23 : decode cb_C_init 23 = .ok (.newarray .long, 2) := by decide +kernel
theorem dd_C_init_25 : decode cb_C_init 25 = .ok (.putfield 22, 3) := by decide +kernel
theorem dd_C_init_28 : decode cb_C_init 28 = .ok (.return_, 1) := by decide +kernel
theorem dd_C_isAtWork_0 : decode cb_C_isAtWork 0 = .ok (.aload_n 0, 1) := by decide +kernel
theorem dd_C_isAtWork_1 : decode cb_C_isAtWork 1 = .ok (.getfield 26, 3) := by decide +kernel
theorem dd_C_isAtWork_4 : decode cb_C_isAtWork 4 = .ok (.ifCond .ne 14, 3) := by decide +kernel
theorem dd_C_isAtWork_7 : decode cb_C_isAtWork 7 = .ok (.aload_n 0, 1) := by decide +kernel
theorem dd_C_isAtWork_8 : decode cb_C_isAtWork 8 = .ok (.getfield 9, 3) := by decide +kernel
theorem dd_C_isAtWork_11 : decode cb_C_isAtWork 11 = .ok (.ifCond .eq 7, 3) := by decide +kernel
theorem dd_C_isAtWork_14 : decode cb_C_isAtWork 14 = .ok (.iconst 1, 1) := by decide +kernel
theorem dd_C_isAtWork_15 : decode cb_C_isAtWork 15 = .ok (.goto 4, 3) := by decide +kernel
theorem dd_C_isAtWork_18 : decode cb_C_isAtWork 18 = .ok (.iconst 0, 1) := by decide +kernel
theorem dd_C_isAtWork_19 : decode cb_C_isAtWork 19 = .ok (.ireturn, 1) := by decide +kernel
theorem dd_C_enter_0 : decode cb_C_enter 0 = .ok (.aload_n 0, 1) := by decide +kernel
theorem dd_C_enter_1 : decode cb_C_enter 1 = .ok (.iload_n 1, 1) := by decide +kernel
theorem dd_C_enter_2 : decode cb_C_enter 2 = .ok (.putfield 9, 3) := by decide +kernel
theorem dd_C_enter_5 : decode cb_C_enter 5 = .ok (.aload_n 0, 1) := by decide +kernel
theorem dd_C_enter_6 : decode cb_C_enter 6 = .ok (.dup, 1) := by decide +kernel
theorem dd_C_enter_7 : decode cb_C_enter 7 = .ok (.getfield 30, 3) := by decide +kernel
theorem dd_C_enter_10 : decode cb_C_enter 10 = .ok (.iconst 1, 1) := by decide +kernel
theorem dd_C_enter_11 : decode cb_C_enter 11 = .ok (.iadd, 1) := by decide +kernel
theorem dd_C_enter_12 : decode cb_C_enter 12 = .ok (.putfield 30, 3) := by decide +kernel
theorem dd_C_enter_15 : decode cb_C_enter 15 = .ok (.aload_n 0, 1) := by decide +kernel
theorem dd_C_enter_16 : decode cb_C_enter 16 = .ok (.iconst 0, 1) := by decide +kernel
theorem dd_C_enter_17 : decode cb_C_enter 17 = .ok (.putfield 33, 3) := by decide +kernel
theorem dd_C_enter_20 : decode cb_C_enter 20 = .ok (.aload_n 0, 1) := by decide +kernel
theorem dd_C_enter_21 : decode cb_C_enter 21 = .ok (.iconst 0, 1) := by decide +kernel
theorem dd_C_enter_22 : decode cb_C_enter 22 = .ok (.putfield 36, 3) := by decide +kernel
theorem dd_C_enter_25 : decode cb_C_enter 25 = .ok (.aload_n 0, 1) := by decide +kernel
theorem dd_C_enter_26 : decode cb_C_enter 26 = .ok (.iconst 0, 1) := by decide +kernel
theorem dd_C_enter_27 : decode cb_C_enter 27 = .ok (.putfield 39, 3) := by decide +kernel
theorem dd_C_enter_30 : decode cb_C_enter 30 = .ok (.return_, 1) := by decide +kernel
theorem dd_C_counts_0 : decode cb_C_counts 0 = .ok (.aload_n 0, 1) := by decide +kernel
theorem dd_C_counts_1 : decode cb_C_counts 1 = .ok (.invokevirtual 42, 3) := by decide +kernel
theorem dd_C_counts_4 : decode cb_C_counts 4 = .ok (.ifCond .eq 18, 3) := by decide +kernel
theorem dd_C_counts_7 : decode cb_C_counts 7 = .ok (.aload_n 1, 1) := by decide +kernel
theorem dd_C_counts_8 : decode cb_C_counts 8 = .ok (.getfield 46, 3) := by decide +kernel
theorem dd_C_counts_11 : decode cb_C_counts 11 = .ok (.aload_n 0, 1) := by decide +kernel
theorem dd_C_counts_12 : decode cb_C_counts 12 = .ok (.getfield 30, 3) := by decide +kernel
theorem dd_C_counts_15 : decode cb_C_counts 15 = .ok (.if_icmp .ne 7, 3) := by decide +kernel
theorem dd_C_counts_18 : decode cb_C_counts 18 = .ok (.iconst 1, 1) := by decide +kernel
theorem dd_C_counts_19 : decode cb_C_counts 19 = .ok (.goto 4, 3) := by decide +kernel
theorem dd_C_counts_22 : decode cb_C_counts 22 = .ok (.iconst 0, 1) := by decide +kernel
theorem dd_C_counts_23 : decode cb_C_counts 23 = .ok (.ireturn, 1) := by decide +kernel
theorem dd_C_take_0 : decode cb_C_take 0 = .ok (.aload_n 0, 1) := by decide +kernel
theorem dd_C_take_1 : decode cb_C_take 1 = .ok (.dup, 1) := by decide +kernel
theorem dd_C_take_2 : decode cb_C_take 2 = .ok (.getfield 33, 3) := by decide +kernel
theorem dd_C_take_5 : decode cb_C_take 5 = .ok (.iconst 1, 1) := by decide +kernel
theorem dd_C_take_6 : decode cb_C_take 6 = .ok (.iadd, 1) := by decide +kernel
theorem dd_C_take_7 : decode cb_C_take 7 = .ok (.putfield 33, 3) := by decide +kernel
theorem dd_C_take_10 : decode cb_C_take 10 = .ok (.aload_n 0, 1) := by decide +kernel
theorem dd_C_take_11 : decode cb_C_take 11 = .ok (.aload_n 0, 1) := by decide +kernel
theorem dd_C_take_12 : decode cb_C_take 12 = .ok (.getfield 36, 3) := by decide +kernel
theorem dd_C_take_15 : decode cb_C_take 15 = .ok (.aload_n 1, 1) := by decide +kernel
theorem dd_C_take_16 : decode cb_C_take 16 = .ok (.getfield 49, 3) := by decide +kernel
theorem dd_C_take_19 : decode cb_C_take 19 = .ok (.invokestatic 52, 3) := by decide +kernel
theorem dd_C_take_22 : decode cb_C_take 22 = .ok (.putfield 36, 3) := by decide +kernel
theorem dd_C_take_25 : decode cb_C_take 25 = .ok (.aload_n 1, 1) := by decide +kernel
theorem dd_C_take_26 : decode cb_C_take 26 = .ok (.getfield 58, 3) := by decide +kernel
theorem dd_C_take_29 : decode cb_C_take 29 = .ok (.ifCond .eq 48, 3) := by decide +kernel
theorem dd_C_take_32 : decode cb_C_take 32 = .ok (.aload_n 0, 1) := by decide +kernel
theorem dd_C_take_33 : decode cb_C_take 33 = .ok (.getfield 39, 3) := by decide +kernel
theorem dd_C_take_36 : decode cb_C_take 36 = .ok (.aload_n 0, 1) := by decide +kernel
theorem dd_C_take_37 : decode cb_C_take 37 = .ok (.getfield 22, 3) := by decide +kernel
theorem dd_C_take_40 : decode cb_C_take 40 = .ok (.arraylength, 1) := by decide +kernel
theorem dd_C_take_41 : decode cb_C_take 41 = .ok (.if_icmp .ge 36, 3) := by decide +kernel
theorem dd_C_take_44 : decode cb_C_take 44 = .ok (.aload_n 0, 1) := by decide +kernel
theorem dd_C_take_45 : decode cb_C_take 45 = .ok (.getfield 18, 3) := by decide +kernel
theorem dd_C_take_48 : decode cb_C_take 48 = .ok (.aload_n 0, 1) := by decide +kernel
theorem dd_C_take_49 : decode cb_C_take 49 = .ok (.getfield 39, 3) := by decide +kernel
theorem dd_C_take_52 : decode cb_C_take 52 = .ok (.iload_n 2, 1) := by decide +kernel
theorem dd_C_take_53 : decode cb_C_take 53 = .ok (.iastore, 1) := by decide +kernel
theorem dd_C_take_54 : decode cb_C_take 54 = .ok (.aload_n 0, 1) := by decide +kernel
theorem dd_C_take_55 : decode cb_C_take 55 = .ok (.getfield 22, 3) := by decide +kernel
theorem dd_C_take_58 : decode cb_C_take 58 = .ok (.aload_n 0, 1) := by decide +kernel
theorem dd_C_take_59 : decode cb_C_take 59 = .ok (.getfield 39, 3) := by decide +kernel
theorem dd_C_take_62 : decode cb_C_take 62 = .ok (.aload_n 1, 1) := by decide +kernel
theorem dd_C_take_63 : decode cb_C_take 63 = .ok (.getfield 61, 3) := by decide +kernel
theorem dd_C_take_66 : decode cb_C_take 66 = .ok (.lastore, 1) := by decide +kernel
theorem dd_C_take_67 : decode cb_C_take 67 = .ok (.aload_n 0, 1) := by decide +kernel
theorem dd_C_take_68 : decode cb_C_take 68 = .ok (.dup, 1) := by decide +kernel
theorem dd_C_take_69 : decode cb_C_take 69 = .ok (.getfield 39, 3) := by decide +kernel
theorem dd_C_take_72 : decode cb_C_take 72 = .ok (.iconst 1, 1) := by decide +kernel
theorem dd_C_take_73 : decode cb_C_take 73 = .ok (.iadd, 1) := by decide +kernel
theorem dd_C_take_74 : decode cb_C_take 74 = .ok (.putfield 39, 3) := by decide +kernel
theorem dd_C_take_77 : decode cb_C_take 77 = .ok (.return_, 1) := by decide +kernel
theorem dd_C_hasAllFragments_0 : decode cb_C_hasAllFragments 0 = .ok (.aload_n 0, 1) := by decide +kernel
theorem dd_C_hasAllFragments_1 : decode cb_C_hasAllFragments 1 = .ok (.getfield 39, 3) := by decide +kernel
theorem dd_C_hasAllFragments_4 : decode cb_C_hasAllFragments 4 = .ok (.aload_n 0, 1) := by decide +kernel
theorem dd_C_hasAllFragments_5 : decode cb_C_hasAllFragments 5 = .ok (.getfield 22, 3) := by decide +kernel
theorem dd_C_hasAllFragments_8 : decode cb_C_hasAllFragments 8 = .ok (.arraylength, 1) := by decide +kernel
theorem dd_C_hasAllFragments_9 : decode cb_C_hasAllFragments 9 = .ok (.if_icmp .ne 7, 3) := by decide +kernel
theorem dd_C_hasAllFragments_12 : decode cb_C_hasAllFragments 12 = .ok (.iconst 1, 1) := by decide +kernel
theorem dd_C_hasAllFragments_13 : decode cb_C_hasAllFragments 13 = .ok (.goto 4, 3) := by decide +kernel
theorem dd_C_hasAllFragments_16 : decode cb_C_hasAllFragments 16 = .ok (.iconst 0, 1) := by decide +kernel
theorem dd_C_hasAllFragments_17 : decode cb_C_hasAllFragments 17 = .ok (.ireturn, 1) := by decide +kernel
theorem dd_C_finish_0 : decode cb_C_finish 0 = .ok (.aload_n 0, 1) := by decide +kernel
theorem dd_C_finish_1 : decode cb_C_finish 1 = .ok (.iconst 0, 1) := by decide +kernel
theorem dd_C_finish_2 : decode cb_C_finish 2 = .ok (.putfield 9, 3) := by decide +kernel
theorem dd_C_finish_5 : decode cb_C_finish 5 = .ok (.aload_n 0, 1) := by decide +kernel
theorem dd_C_finish_6 : decode cb_C_finish 6 = .ok (.dup, 1) := by decide +kernel
theorem dd_C_finish_7 : decode cb_C_finish 7 = .ok (.getfield 65, 3) := by decide +kernel
theorem dd_C_finish_10 : decode cb_C_finish 10 = .ok (.iconst 1, 1) := by decide +kernel
theorem dd_C_finish_11 : decode cb_C_finish 11 = .ok (.iadd, 1) := by decide +kernel
theorem dd_C_finish_12 : decode cb_C_finish 12 = .ok (.putfield 65, 3) := by decide +kernel
theorem dd_C_finish_15 : decode cb_C_finish 15 = .ok (.return_, 1) := by decide +kernel
end
section
theorem dd_K_init_0 : decode cb_K_init 0 = .ok (.aload_n 0, 1) := by decide +kernel
theorem dd_K_init_1 : decode cb_K_init 1 = .ok (.invokespecial 3, 3) := by decide +kernel
theorem dd_K_init_4 : decode cb_K_init 4 = .ok (.aload_n 0, 1) := by decide +kernel
theorem dd_K_init_5 : decode cb_K_init 5 = .ok (.iload_n 1, 1) := by decide +kernel
theorem dd_K_init_6 : decode cb_K_init 6 = .ok (.putfield 9, 3) := by decide +kernel
theorem dd_K_init_9 : decode cb_K_init 9 = .ok (.aload_n 0, 1) := by decide +kernel
theorem dd_K_init_10 : decode cb_K_init 10 = .ok (.bipush 8, 2) := by decide +kernel
theorem dd_K_init_12 : decode cb_K_init 12 = .ok (.iload_n 1, 1) := by decide +kernel
theorem dd_K_init_13 : decode cb_K_init 13 = .ok (.iadd, 1) := by decide +kernel
theorem dd_K_init_14 : decode cb_K_init 14 = .ok (.iconst 1, 1) := by decide +kernel
theorem dd_K_init_15 : decode cb_K_init 15 = .ok (.isub, 1) := by decide +kernel
theorem dd_K_init_16 : decode cb_K_init 16 = .ok (.iload_n 1, 1) := by decide +kernel
theorem dd_K_init_17 : decode cb_K_init 17 = .ok (.idiv, 1) := by decide +kernel
theorem dd_K_init_18 : decode cb_K_init 18 = .ok (.putfield 15, 3) := by decide +kernel
theorem dd_K_init_21 : decode cb_K_init 21 = .ok (.aload_n 0, 1) := by decide +kernel
theorem dd_K_init_22 : decode cb_K_init 22 = .ok (.iload_n 1, 1) := by decide +kernel
theorem dd_K_init_23 : decode cb_K_init 23 = .ok (.newarray .int, 2) := by decide +kernel
theorem dd_K_init_25 : decode cb_K_init 25 = .ok (.putfield 18, 3) := by decide +kernel
theorem dd_K_init_28 : decode cb_K_init 28 = .ok (.return_, 1) := by decide +kernel
theorem dd_K_encode_0 : decode cb_K_encode 0 = .ok (.lconst 0, 1) := by decide +kernel
theorem dd_K_encode_1 : decode cb_K_encode 1 = .ok (.lstore 4, 2) := by decide +kernel
theorem dd_K_encode_3 : decode cb_K_encode 3 = .ok (.iconst 0, 1) := by decide +kernel
theorem dd_K_encode_4 : decode cb_K_encode 4 = .ok (.istore 6, 2) := by decide +kernel
theorem dd_K_encode_6 : decode cb_K_encode 6 = .ok (.iload 6, 2) := by decide +kernel
theorem dd_K_encode_8 : decode cb_K_encode 8 = .ok (.aload_n 0, 1) := by decide +kernel
theorem dd_K_encode_9 : decode cb_K_encode 9 = .ok (.getfield 15, 3) := by decide +kernel
theorem dd_K_encode_12 : decode cb_K_encode 12 = .ok (.if_icmp .ge 69, 3) := by decide +kernel
theorem dd_K_encode_15 : decode cb_K_encode 15 = .ok (.iconst 0, 1) := by decide +kernel
theorem dd_K_encode_16 : decode cb_K_encode 16 = .ok (.istore 7, 2) := by decide +kernel
theorem dd_K_encode_18 : decode cb_K_encode 18 = .ok (.aload_n 0, 1) := by decide +kernel
theorem dd_K_encode_19 : decode cb_K_encode 19 = .ok (.getfield 9, 3) := by decide +kernel
theorem dd_K_encode_22 : decode cb_K_encode 22 = .ok (.iconst 1, 1) := by decide +kernel
theorem dd_K_encode_23 : decode cb_K_encode 23 = .ok (.isub, 1) := by decide +kernel
theorem dd_K_encode_24 : decode cb_K_encode 24 = .ok (.istore 8, 2) := by decide +kernel
theorem dd_K_encode_26 : decode cb_K_encode 26 = .ok (.iload 8, 2) := by decide +kernel
theorem dd_K_encode_28 : decode cb_K_encode 28 = .ok (.ifCond .lt 35, 3) := by decide +kernel
theorem dd_K_encode_31 : decode cb_K_encode 31 = .ok (.iload 7, 2) := by decide +kernel
theorem dd_K_encode_33 : decode cb_K_encode 33 = .ok (.iload_n 3, 1) := by decide +kernel
theorem dd_K_encode_34 : decode cb_K_encode 34 = .ok (.invokestatic 22, 3) := by decide +kernel
theorem dd_K_encode_37 : decode cb_K_encode 37 = .ok (.invokestatic 26, 3) := by decide +kernel
theorem dd_K_encode_40 : decode cb_K_encode 40 = .ok (.lload_n 1, 1) := by decide +kernel
theorem dd_K_encode_41 : decode cb_K_encode 41 = .ok (.iload 6, 2) := by decide +kernel
theorem dd_K_encode_43 : decode cb_K_encode 43 = .ok (.aload_n 0, 1) := by decide +kernel
theorem dd_K_encode_44 : decode cb_K_encode 44 = .ok (.getfield 9, 3) := by decide +kernel
theorem dd_K_encode_47 : decode cb_K_encode 47 = .ok (.imul, 1) := by decide +kernel
theorem dd_K_encode_48 : decode cb_K_encode 48 = .ok (.iload 8, 2) := by decide +kernel
theorem dd_K_encode_50 : decode cb_K_encode 50 = .ok (.iadd, 1) := by decide +kernel
theorem dd_K_encode_51 : decode cb_K_encode 51 = .ok (.invokestatic 30, 3) := by decide +kernel
theorem dd_K_encode_54 : decode cb_K_encode 54 = .ok (.ixor, 1) := by decide +kernel
theorem dd_K_encode_55 : decode cb_K_encode 55 = .ok (.istore 7, 2) := by decide +kernel
theorem dd_K_encode_57 : decode cb_K_encode 57 = .ok (.iinc 8 (-1), 3) := by decide +kernel
theorem dd_K_encode_60 : decode cb_K_encode 60 = .ok (.goto (-34), 3) := by decide +kernel
theorem dd_K_encode_63 : decode cb_K_encode 63 = .ok (.lload 4, 2) := by decide +kernel
theorem dd_K_encode_65 : decode cb_K_encode 65 = .ok (.iload 7, 2) := by decide +kernel
theorem dd_K_encode_67 : decode cb_K_encode 67 = .ok (.iload 6, 2) := by decide +kernel
theorem dd_K_encode_69 : decode cb_K_encode 69 = .ok (.invokestatic 34, 3) := by decide +kernel
theorem dd_K_encode_72 : decode cb_K_encode 72 = .ok (.lor, 1) := by decide +kernel
theorem dd_K_encode_73 : decode cb_K_encode 73 = .ok (.lstore 4, 2) := by decide +kernel
theorem dd_K_encode_75 : decode cb_K_encode 75 = .ok (.iinc 6 1, 3) := by decide +kernel
theorem dd_K_encode_78 : decode cb_K_encode 78 = .ok (.goto (-72), 3) := by decide +kernel
theorem dd_K_encode_81 : decode cb_K_encode 81 = .ok (.lload 4, 2) := by decide +kernel
theorem dd_K_encode_83 : decode cb_K_encode 83 = .ok (.lreturn, 1) := by decide +kernel
theorem dd_K_decode_0 : decode cb_K_decode 0 = .ok (.lconst 0, 1) := by decide +kernel
theorem dd_K_decode_1 : decode cb_K_decode 1 = .ok (.lstore_n 3, 1) := by decide +kernel
theorem dd_K_decode_2 : decode cb_K_decode 2 = .ok (.iconst 0, 1) := by decide +kernel
theorem dd_K_decode_3 : decode cb_K_decode 3 = .ok (.istore 5, 2) := by decide +kernel
theorem dd_K_decode_5 : decode cb_K_decode 5 = .ok (.iload 5, 2) := by decide +kernel
theorem dd_K_decode_7 : decode cb_K_decode 7 = .ok (.aload_n 0, 1) := by decide +kernel
theorem dd_K_decode_8 : decode cb_K_decode 8 = .ok (.getfield 15, 3) := by decide +kernel
theorem dd_K_decode_11 : decode cb_K_decode 11 = .ok (.if_icmp .ge 89, 3) := by decide +kernel
theorem dd_K_decode_14 : decode cb_K_decode 14 = .ok (.iconst 0, 1) := by decide +kernel
theorem dd_K_decode_15 : decode cb_K_decode 15 = .ok (.istore 6, 2) := by decide +kernel
theorem dd_K_decode_17 : decode cb_K_decode 17 = .ok (.iload 6, 2) := by decide +kernel
theorem dd_K_decode_19 : decode cb_K_decode 19 = .ok (.aload_n 0, 1) := by decide +kernel
theorem dd_K_decode_20 : decode cb_K_decode 20 = .ok (.getfield 9, 3) := by decide +kernel
theorem dd_K_decode_23 : decode cb_K_decode 23 = .ok (.if_icmp .ge 25, 3) := by decide +kernel
theorem dd_K_decode_26 : decode cb_K_decode 26 = .ok (.aload_n 0, 1) := by decide +kernel
theorem dd_K_decode_27 : decode cb_K_decode 27 = .ok (.getfield 18, 3) := by decide +kernel
theorem dd_K_decode_30 : decode cb_K_decode 30 = .ok (.iload 6, 2) := by decide +kernel
theorem dd_K_decode_32 : decode cb_K_decode 32 = .ok (.aload_n 2, 1) := by decide +kernel
theorem dd_K_decode_33 : decode cb_K_decode 33 = .ok (.iload 6, 2) := by decide +kernel
theorem dd_K_decode_35 : decode cb_K_decode 35 = .ok (.laload, 1) := by decide +kernel
theorem dd_K_decode_36 : decode cb_K_decode 36 = .ok (.iload 5, 2) := by decide +kernel
theorem dd_K_decode_38 : decode cb_K_decode 38 = .ok (.invokestatic 30, 3) := by decide +kernel
theorem dd_K_decode_41 : decode cb_K_decode 41 = .ok (.iastore, 1) := by decide +kernel
theorem dd_K_decode_42 : decode cb_K_decode 42 = .ok (.iinc 6 1, 3) := by decide +kernel
theorem dd_K_decode_45 : decode cb_K_decode 45 = .ok (.goto (-28), 3) := by decide +kernel
theorem dd_K_decode_48 : decode cb_K_decode 48 = .ok (.aload_n 0, 1) := by decide +kernel
theorem dd_K_decode_49 : decode cb_K_decode 49 = .ok (.aload_n 1, 1) := by decide +kernel
theorem dd_K_decode_50 : decode cb_K_decode 50 = .ok (.invokevirtual 38, 3) := by decide +kernel
theorem dd_K_decode_53 : decode cb_K_decode 53 = .ok (.iconst 0, 1) := by decide +kernel
theorem dd_K_decode_54 : decode cb_K_decode 54 = .ok (.istore 6, 2) := by decide +kernel
theorem dd_K_decode_56 : decode cb_K_decode 56 = .ok (.iload 6, 2) := by decide +kernel
theorem dd_K_decode_58 : decode cb_K_decode 58 = .ok (.aload_n 0, 1) := by decide +kernel
theorem dd_K_decode_59 : decode cb_K_decode 59 = .ok (.getfield 9, 3) := by decide +kernel
theorem dd_K_decode_62 : decode cb_K_decode 62 = .ok (.if_icmp .ge 32, 3) := by decide +kernel
theorem dd_K_decode_65 : decode cb_K_decode 65 = .ok (.lload_n 3, 1) := by decide +kernel
theorem dd_K_decode_66 : decode cb_K_decode 66 = .ok (.aload_n 0, 1) := by decide +kernel
theorem dd_K_decode_67 : decode cb_K_decode 67 = .ok (.getfield 18, 3) := by decide +kernel
theorem dd_K_decode_70 : decode cb_K_decode 70 = .ok (.iload 6, 2) := by decide +kernel
theorem dd_K_decode_72 : decode cb_K_decode 72 = .ok (.iaload, 1) := by decide +kernel
theorem dd_K_decode_73 : decode cb_K_decode 73 = .ok (.iload 5, 2) := by decide +kernel
theorem dd_K_decode_75 : decode cb_K_decode 75 = .ok (.aload_n 0, 1) := by decide +kernel
theorem dd_K_decode_76 : decode cb_K_decode 76 = .ok (.getfield 9, 3) := by decide +kernel
theorem dd_K_decode_79 : decode cb_K_decode 79 = .ok (.imul, 1) := by decide +kernel
theorem dd_K_decode_80 : decode cb_K_decode 80 = .ok (.iload 6, 2) := by decide +kernel
theorem dd_K_decode_82 : decode cb_K_decode 82 = .ok (.iadd, 1) := by decide +kernel
theorem dd_K_decode_83 : decode cb_K_decode 83 = .ok (.invokestatic 34, 3) := by decide +kernel
theorem dd_K_decode_86 : decode cb_K_decode 86 = .ok (.lor, 1) := by decide +kernel
theorem dd_K_decode_87 : decode cb_K_decode 87 = .ok (.lstore_n 3, 1) := by decide +kernel
theorem dd_K_decode_88 : decode cb_K_decode 88 = .ok (.iinc 6 1, 3) := by decide +kernel
theorem dd_K_decode_91 : decode cb_K_decode 91 = .ok (.goto (-35), 3) := by decide +kernel
theorem dd_K_decode_94 : decode cb_K_decode 94 = .ok (.iinc 5 1, 3) := by decide +kernel
theorem dd_K_decode_97 : decode cb_K_decode 97 = .ok (.goto (-92), 3) := by decide +kernel
theorem dd_K_decode_100 : decode cb_K_decode 100 = .ok (.lload_n 3, 1) := by decide +kernel
theorem dd_K_decode_101 : decode cb_K_decode 101 = .ok (.lreturn, 1) := by decide +kernel
theorem dd_K_interpolate_0 : decode cb_K_interpolate 0 = .ok (.iconst 1, 1) := by decide +kernel
theorem dd_K_interpolate_1 : decode cb_K_interpolate 1 = .ok (.istore_n 2, 1) := by decide +kernel
theorem dd_K_interpolate_2 : decode cb_K_interpolate 2 = .ok (.iload_n 2, 1) := by decide +kernel
theorem dd_K_interpolate_3 : decode cb_K_interpolate 3 = .ok (.aload_n 0, 1) := by decide +kernel
theorem dd_K_interpolate_4 : decode cb_K_interpolate 4 = .ok (.getfield 9, 3) := by decide +kernel
theorem dd_K_interpolate_7 : decode cb_K_interpolate 7 = .ok (.if_icmp .ge 73, 3) := by decide +kernel
theorem dd_K_interpolate_10 : decode cb_K_interpolate 10 = .ok (.aload_n 0, 1) := by decide +kernel
theorem dd_K_interpolate_11 : decode cb_K_interpolate 11 = .ok (.getfield 9, 3) := by decide +kernel
theorem dd_K_interpolate_14 : decode cb_K_interpolate 14 = .ok (.iconst 1, 1) := by decide +kernel
theorem dd_K_interpolate_15 : decode cb_K_interpolate 15 = .ok (.isub, 1) := by decide +kernel
theorem dd_K_interpolate_16 : decode cb_K_interpolate 16 = .ok (.istore_n 3, 1) := by decide +kernel
theorem dd_K_interpolate_17 : decode cb_K_interpolate 17 = .ok (.iload_n 3, 1) := by decide +kernel
theorem dd_K_interpolate_18 : decode cb_K_interpolate 18 = .ok (.iload_n 2, 1) := by decide +kernel
theorem dd_K_interpolate_19 : decode cb_K_interpolate 19 = .ok (.if_icmp .lt 55, 3) := by decide +kernel
theorem dd_K_interpolate_22 : decode cb_K_interpolate 22 = .ok (.aload_n 1, 1) := by decide +kernel
theorem dd_K_interpolate_23 : decode cb_K_interpolate 23 = .ok (.iload_n 3, 1) := by decide +kernel
theorem dd_K_interpolate_24 : decode cb_K_interpolate 24 = .ok (.iaload, 1) := by decide +kernel
theorem dd_K_interpolate_25 : decode cb_K_interpolate 25 = .ok (.invokestatic 22, 3) := by decide +kernel
theorem dd_K_interpolate_28 : decode cb_K_interpolate 28 = .ok (.aload_n 1, 1) := by decide +kernel
theorem dd_K_interpolate_29 : decode cb_K_interpolate 29 = .ok (.iload_n 3, 1) := by decide +kernel
theorem dd_K_interpolate_30 : decode cb_K_interpolate 30 = .ok (.iload_n 2, 1) := by decide +kernel
theorem dd_K_interpolate_31 : decode cb_K_interpolate 31 = .ok (.isub, 1) := by decide +kernel
theorem dd_K_interpolate_32 : decode cb_K_interpolate 32 = .ok (.iaload, 1) := by decide +kernel
theorem dd_K_interpolate_33 : decode cb_K_interpolate 33 = .ok (.invokestatic 22, 3) := by decide +kernel
theorem dd_K_interpolate_36 : decode cb_K_interpolate 36 = .ok (.ixor, 1) := by decide +kernel
theorem dd_K_interpolate_37 : decode cb_K_interpolate 37 = .ok (.istore 4, 2) := by decide +kernel
theorem dd_K_interpolate_39 : decode cb_K_interpolate 39 = .ok (.aload_n 0, 1) := by decide +kernel
theorem dd_K_interpolate_40 : decode cb_K_interpolate 40 = .ok (.getfield 18, 3) := by decide +kernel
theorem dd_K_interpolate_43 : decode cb_K_interpolate 43 = .ok (.iload_n 3, 1) := by decide +kernel
theorem dd_K_interpolate_44 : decode cb_K_interpolate 44 = .ok (.aload_n 0, 1) := by decide +kernel
theorem dd_K_interpolate_45 : decode cb_K_interpolate 45 = .ok (.getfield 18, 3) := by decide +kernel
theorem dd_K_interpolate_48 : decode cb_K_interpolate 48 = .ok (.iload_n 3, 1) := by decide +kernel
theorem dd_K_interpolate_49 : decode cb_K_interpolate 49 = .ok (.iaload, 1) := by decide +kernel
theorem dd_K_interpolate_50 : decode cb_K_interpolate 50 = .ok (.aload_n 0, 1) := by decide +kernel
theorem dd_K_interpolate_51 : decode cb_K_interpolate 51 = .ok (.getfield 18, 3) := by decide +kernel
theorem dd_K_interpolate_54 : decode cb_K_interpolate 54 = .ok (.iload_n 3, 1) := by decide +kernel
theorem dd_K_interpolate_55 : decode cb_K_interpolate 55 = .ok (.iconst 1, 1) := by decide +kernel
theorem dd_K_interpolate_56 : decode cb_K_interpolate 56 = .ok (.isub, 1) := by decide +kernel
theorem dd_K_interpolate_57 : decode cb_K_interpolate 57 = .ok (.iaload, 1) := by decide +kernel
theorem dd_K_interpolate_58 : decode cb_K_interpolate 58 = .ok (.ixor, 1) := by decide +kernel
theorem dd_K_interpolate_59 : decode cb_K_interpolate 59 = .ok (.iload 4, 2) := by decide +kernel
theorem dd_K_interpolate_61 : decode cb_K_interpolate 61 = .ok (.invokestatic 42, 3) := by decide +kernel
theorem dd_K_interpolate_64 : decode cb_K_interpolate 64 = .ok (.invokestatic 26, 3) := by decide +kernel
theorem dd_K_interpolate_67 : decode cb_K_interpolate 67 = .ok (.iastore, 1) := by decide +kernel
theorem dd_K_interpolate_68 : decode cb_K_interpolate 68 = .ok (.iinc 3 (-1), 3) := by decide +kernel
theorem dd_K_interpolate_71 : decode cb_K_interpolate 71 = .ok (.goto (-54), 3) := by decide +kernel
theorem dd_K_interpolate_74 : decode cb_K_interpolate 74 = .ok (.iinc 2 1, 3) := by decide +kernel
theorem dd_K_interpolate_77 : decode cb_K_interpolate 77 = .ok (.goto (-75), 3) := by decide +kernel
theorem dd_K_interpolate_80 : decode cb_K_interpolate 80 = .ok (.aload_n 0, 1) := by decide +kernel
theorem dd_K_interpolate_81 : decode cb_K_interpolate 81 = .ok (.getfield 9, 3) := by decide +kernel
theorem dd_K_interpolate_84 : decode cb_K_interpolate 84 = .ok (.iconst 2, 1) := by decide +kernel
theorem dd_K_interpolate_85 : decode cb_K_interpolate 85 = .ok (.isub, 1) := by decide +kernel
theorem dd_K_interpolate_86 : decode cb_K_interpolate 86 = .ok (.istore_n 2, 1) := by decide +kernel
theorem dd_K_interpolate_87 : decode cb_K_interpolate 87 = .ok (.iload_n 2, 1) := by decide +kernel
theorem dd_K_interpolate_88 : decode cb_K_interpolate 88 = .ok (.ifCond .lt 53, 3) := by decide +kernel
theorem dd_K_interpolate_91 : decode cb_K_interpolate 91 = .ok (.iload_n 2, 1) := by decide +kernel
theorem dd_K_interpolate_92 : decode cb_K_interpolate 92 = .ok (.istore_n 3, 1) := by decide +kernel
theorem dd_K_interpolate_93 : decode cb_K_interpolate 93 = .ok (.iload_n 3, 1) := by decide +kernel
theorem dd_K_interpolate_94 : decode cb_K_interpolate 94 = .ok (.aload_n 0, 1) := by decide +kernel
theorem dd_K_interpolate_95 : decode cb_K_interpolate 95 = .ok (.getfield 9, 3) := by decide +kernel
theorem dd_K_interpolate_98 : decode cb_K_interpolate 98 = .ok (.iconst 1, 1) := by decide +kernel
theorem dd_K_interpolate_99 : decode cb_K_interpolate 99 = .ok (.isub, 1) := by decide +kernel
theorem dd_K_interpolate_100 : decode cb_K_interpolate 100 = .ok (.if_icmp .ge 35, 3) := by decide +kernel
theorem dd_K_interpolate_103 : decode cb_K_interpolate 103 = .ok (.aload_n 0, 1) := by decide +kernel
theorem dd_K_interpolate_104 : decode cb_K_interpolate 104 = .ok (.getfield 18, 3) := by decide +kernel
theorem dd_K_interpolate_107 : decode cb_K_interpolate 107 = .ok (.iload_n 3, 1) := by decide +kernel
theorem dd_K_interpolate_108 : decode cb_K_interpolate 108 = .ok (.dup2, 1) := by decide +kernel
theorem dd_K_interpolate_109 : decode cb_K_interpolate 109 = .ok (.iaload, 1) := by decide +kernel
theorem dd_K_interpolate_110 : decode cb_K_interpolate 110 = .ok (.aload_n 1, 1) := by decide +kernel
theorem dd_K_interpolate_111 : decode cb_K_interpolate 111 = .ok (.iload_n 2, 1) := by decide +kernel
theorem dd_K_interpolate_112 : decode cb_K_interpolate 112 = .ok (.iaload, 1) := by decide +kernel
theorem dd_K_interpolate_113 : decode cb_K_interpolate 113 = .ok (.invokestatic 22, 3) := by decide +kernel
theorem dd_K_interpolate_116 : decode cb_K_interpolate 116 = .ok (.aload_n 0, 1) := by decide +kernel
theorem dd_K_interpolate_117 : decode cb_K_interpolate 117 = .ok (.getfield 18, 3) := by decide +kernel
theorem dd_K_interpolate_120 : decode cb_K_interpolate 120 = .ok (.iload_n 3, 1) := by decide +kernel
theorem dd_K_interpolate_121 : decode cb_K_interpolate 121 = .ok (.iconst 1, 1) := by decide +kernel
theorem dd_K_interpolate_122 : decode cb_K_interpolate 122 = .ok (.iadd, 1) := by decide +kernel
theorem dd_K_interpolate_123 : decode cb_K_interpolate 123 = .ok (.iaload, 1) := by decide +kernel
theorem dd_K_interpolate_124 : decode cb_K_interpolate 124 = .ok (.invokestatic 26, 3) := by decide +kernel
theorem dd_K_interpolate_127 : decode cb_K_interpolate 127 = .ok (.ixor, 1) := by decide +kernel
theorem dd_K_interpolate_128 : decode cb_K_interpolate 128 = .ok (.iastore, 1) := by decide +kernel
theorem dd_K_interpolate_129 : decode cb_K_interpolate 129 = .ok (.iinc 3 1, 3) := by decide +kernel
theorem dd_K_interpolate_132 : decode cb_K_interpolate 132 = .ok (.goto (-39), 3) := by decide +kernel
theorem dd_K_interpolate_135 : decode cb_K_interpolate 135 = .ok (.iinc 2 (-1), 3) := by decide +kernel
theorem dd_K_interpolate_138 : decode cb_K_interpolate 138 = .ok (.goto (-51), 3) := by decide +kernel
theorem dd_K_interpolate_141 : decode cb_K_interpolate 141 = .ok (.return_, 1) := by decide +kernel
theorem dd_K_pointOf_0 : decode cb_K_pointOf 0 = .ok (.iload_n 0, 1) := by decide +kernel
theorem dd_K_pointOf_1 : decode cb_K_pointOf 1 = .ok (.iconst 1, 1) := by decide +kernel
theorem dd_K_pointOf_2 : decode cb_K_pointOf 2 = .ok (.iadd, 1) := by decide +kernel
theorem dd_K_pointOf_3 : decode cb_K_pointOf 3 = .ok (.ireturn, 1) := by decide +kernel
theorem dd_K_byteAt_0 : decode cb_K_byteAt 0 = .ok (.iload_n 2, 1) := by decide +kernel
theorem dd_K_byteAt_1 : decode cb_K_byteAt 1 = .ok (.ifCond .lt 23, 3) := by decide +kernel
theorem dd_K_byteAt_4 : decode cb_K_byteAt 4 = .ok (.iload_n 2, 1) := by decide +kernel
theorem dd_K_byteAt_5 : decode cb_K_byteAt 5 = .ok (.bipush 8, 2) := by decide +kernel
theorem dd_K_byteAt_7 : decode cb_K_byteAt 7 = .ok (.if_icmp .ge 17, 3) := by decide +kernel
theorem dd_K_byteAt_10 : decode cb_K_byteAt 10 = .ok (.lload_n 0, 1) := by decide +kernel
theorem dd_K_byteAt_11 : decode cb_K_byteAt 11 = .ok (.bipush 8, 2) := by decide +kernel
theorem dd_K_byteAt_13 : decode cb_K_byteAt 13 = .ok (.iload_n 2, 1) := by decide +kernel
theorem dd_K_byteAt_14 : decode cb_K_byteAt 14 = .ok (.imul, 1) := by decide +kernel
theorem dd_K_byteAt_15 : decode cb_K_byteAt 15 = .ok (.lushr, 1) := by decide +kernel
theorem dd_K_byteAt_16 : decode cb_K_byteAt 16 = .ok (.l2i, 1) := by decide +kernel
theorem dd_K_byteAt_17 : decode cb_K_byteAt 17 = .ok (.sipush 255, 3) := by decide +kernel
theorem dd_K_byteAt_20 : decode cb_K_byteAt 20 = .ok (.iand, 1) := by decide +kernel
theorem dd_K_byteAt_21 : decode cb_K_byteAt 21 = .ok (.goto 4, 3) := by decide +kernel
theorem dd_K_byteAt_24 : decode cb_K_byteAt 24 = .ok (.iconst 0, 1) := by decide +kernel
theorem dd_K_byteAt_25 : decode cb_K_byteAt 25 = .ok (.ireturn, 1) := by decide +kernel
theorem dd_K_placed_0 : decode cb_K_placed 0 = .ok (.iload_n 1, 1) := by decide +kernel
theorem dd_K_placed_1 : decode cb_K_placed 1 = .ok (.ifCond .lt 19, 3) := by decide +kernel
theorem dd_K_placed_4 : decode cb_K_placed 4 = .ok (.iload_n 1, 1) := by decide +kernel
theorem dd_K_placed_5 : decode cb_K_placed 5 = .ok (.bipush 8, 2) := by decide +kernel
theorem dd_K_placed_7 : decode cb_K_placed 7 = .ok (.if_icmp .ge 13, 3) := by decide +kernel
theorem dd_K_placed_10 : decode cb_K_placed 10 = .ok (.iload_n 0, 1) := by decide +kernel
theorem dd_K_placed_11 : decode cb_K_placed 11 = .ok (.i2l, 1) := by decide +kernel
theorem dd_K_placed_12 : decode cb_K_placed 12 = .ok (.bipush 8, 2) := by decide +kernel
theorem dd_K_placed_14 : decode cb_K_placed 14 = .ok (.iload_n 1, 1) := by decide +kernel
theorem dd_K_placed_15 : decode cb_K_placed 15 = .ok (.imul, 1) := by decide +kernel
theorem dd_K_placed_16 : decode cb_K_placed 16 = .ok (.lshl, 1) := by decide +kernel
theorem dd_K_placed_17 : decode cb_K_placed 17 = .ok (.goto 4, 3) := by decide +kernel
theorem dd_K_placed_20 : decode cb_K_placed 20 = .ok (.lconst 0, 1) := by decide +kernel
theorem dd_K_placed_21 : decode cb_K_placed 21 = .ok (.lreturn, 1) := by decide +kernel
theorem dd_K_times_0 : decode cb_K_times 0 = .ok (.iconst 0, 1) := by decide +kernel
theorem dd_K_times_1 : decode cb_K_times 1 = .ok (.istore_n 2, 1) := by decide +kernel
theorem dd_K_times_2 : decode cb_K_times 2 = .ok (.iload_n 0, 1) := by decide +kernel
theorem dd_K_times_3 : decode cb_K_times 3 = .ok (.istore_n 3, 1) := by decide +kernel
theorem dd_K_times_4 : decode cb_K_times 4 = .ok (.iconst 0, 1) := by decide +kernel
theorem dd_K_times_5 : decode cb_K_times 5 = .ok (.istore 4, 2) := by decide +kernel
theorem dd_K_times_7 : decode cb_K_times 7 = .ok (.iload 4, 2) := by decide +kernel
theorem dd_K_times_9 : decode cb_K_times 9 = .ok (.bipush 8, 2) := by decide +kernel
theorem dd_K_times_11 : decode cb_K_times 11 = .ok (.if_icmp .ge 40, 3) := by decide +kernel
theorem dd_K_times_14 : decode cb_K_times 14 = .ok (.iload_n 1, 1) := by decide +kernel
theorem dd_K_times_15 : decode cb_K_times 15 = .ok (.iload 4, 2) := by decide +kernel
theorem dd_K_times_17 : decode cb_K_times 17 = .ok (.ishr, 1) := by decide +kernel
theorem dd_K_times_18 : decode cb_K_times 18 = .ok (.iconst 1, 1) := by decide +kernel
theorem dd_K_times_19 : decode cb_K_times 19 = .ok (.iand, 1) := by decide +kernel
theorem dd_K_times_20 : decode cb_K_times 20 = .ok (.ifCond .eq 7, 3) := by decide +kernel
theorem dd_K_times_23 : decode cb_K_times 23 = .ok (.iload_n 2, 1) := by decide +kernel
theorem dd_K_times_24 : decode cb_K_times 24 = .ok (.iload_n 3, 1) := by decide +kernel
theorem dd_K_times_25 : decode cb_K_times 25 = .ok (.ixor, 1) := by decide +kernel
theorem dd_K_times_26 : decode cb_K_times 26 = .ok (.istore_n 2, 1) := by decide +kernel
theorem dd_K_times_27 : decode cb_K_times 27 = .ok (.iload_n 3, 1) := by decide +kernel
theorem dd_K_times_28 : decode cb_K_times 28 = .ok (.iconst 1, 1) := by decide +kernel
theorem dd_K_times_29 : decode cb_K_times 29 = .ok (.ishl, 1) := by decide +kernel
theorem dd_K_times_30 : decode cb_K_times 30 = .ok (.istore_n 3, 1) := by decide +kernel
theorem dd_K_times_31 : decode cb_K_times 31 = .ok (.iload_n 3, 1) := by decide +kernel
theorem dd_K_times_32 : decode cb_K_times 32 = .ok (.sipush 256, 3) := by decide +kernel
theorem dd_K_times_35 : decode cb_K_times 35 = .ok (.iand, 1) := by decide +kernel
theorem dd_K_times_36 : decode cb_K_times 36 = .ok (.ifCond .eq 9, 3) := by decide +kernel
theorem dd_K_times_39 : decode cb_K_times 39 = .ok (.iload_n 3, 1) := by decide +kernel
theorem dd_K_times_40 : decode cb_K_times 40 = .ok (.sipush 285, 3) := by decide +kernel
theorem dd_K_times_43 : decode cb_K_times 43 = .ok (.ixor, 1) := by decide +kernel
theorem dd_K_times_44 : decode cb_K_times 44 = .ok (.istore_n 3, 1) := by decide +kernel
theorem dd_K_times_45 : decode cb_K_times 45 = .ok (.iinc 4 1, 3) := by decide +kernel
theorem dd_K_times_48 : decode cb_K_times 48 = .ok (.goto (-41), 3) := by decide +kernel
theorem dd_K_times_51 : decode cb_K_times 51 = .ok (.iload_n 2, 1) := by decide +kernel
theorem dd_K_times_52 : decode cb_K_times 52 = .ok (.ireturn, 1) := by decide +kernel
theorem dd_K_inverse_0 : decode cb_K_inverse 0 = .ok (.iload_n 0, 1) := by decide +kernel
theorem dd_K_inverse_1 : decode cb_K_inverse 1 = .ok (.istore_n 1, 1) := by decide +kernel
theorem dd_K_inverse_2 : decode cb_K_inverse 2 = .ok (.iconst 1, 1) := by decide +kernel
theorem dd_K_inverse_3 : decode cb_K_inverse 3 = .ok (.istore_n 2, 1) := by decide +kernel
theorem dd_K_inverse_4 : decode cb_K_inverse 4 = .ok (.iconst 1, 1) := by decide +kernel
theorem dd_K_inverse_5 : decode cb_K_inverse 5 = .ok (.istore_n 3, 1) := by decide +kernel
theorem dd_K_inverse_6 : decode cb_K_inverse 6 = .ok (.iload_n 3, 1) := by decide +kernel
theorem dd_K_inverse_7 : decode cb_K_inverse 7 = .ok (.bipush 8, 2) := by decide +kernel
theorem dd_K_inverse_9 : decode cb_K_inverse 9 = .ok (.if_icmp .ge 21, 3) := by decide +kernel
theorem dd_K_inverse_12 : decode cb_K_inverse 12 = .ok (.iload_n 1, 1) := by decide +kernel
theorem dd_K_inverse_13 : decode cb_K_inverse 13 = .ok (.iload_n 1, 1) := by decide +kernel
theorem dd_K_inverse_14 : decode cb_K_inverse 14 = .ok (.invokestatic 26, 3) := by decide +kernel
theorem dd_K_inverse_17 : decode cb_K_inverse 17 = .ok (.istore_n 1, 1) := by decide +kernel
theorem dd_K_inverse_18 : decode cb_K_inverse 18 = .ok (.iload_n 2, 1) := by decide +kernel
theorem dd_K_inverse_19 : decode cb_K_inverse 19 = .ok (.iload_n 1, 1) := by decide +kernel
theorem dd_K_inverse_20 : decode cb_K_inverse 20 = .ok (.invokestatic 26, 3) := by decide +kernel
theorem dd_K_inverse_23 : decode cb_K_inverse 23 = .ok (.istore_n 2, 1) := by decide +kernel
theorem dd_K_inverse_24 : decode cb_K_inverse 24 = .ok (.iinc 3 1, 3) := by decide +kernel
theorem dd_K_inverse_27 : decode cb_K_inverse 27 = .ok (.goto (-21), 3) := by decide +kernel
theorem dd_K_inverse_30 : decode cb_K_inverse 30 = .ok (.iload_n 2, 1) := by decide +kernel
theorem dd_K_inverse_31 : decode cb_K_inverse 31 = .ok (.ireturn, 1) := by decide +kernel
end
section
theorem dd_L_init_0 : decode cb_L_init 0 = .ok (.aload_n 0, 1) := by decide +kernel
theorem dd_L_init_1 : decode cb_L_init 1 = .ok (.invokespecial 1, 3) := by decide +kernel
theorem dd_L_init_4 : decode cb_L_init 4 = .ok (.aload_n 0, 1) := by decide +kernel
theorem dd_L_init_5 : decode cb_L_init 5 = .ok (.iload_n 1, 1) := by decide +kernel
theorem dd_L_init_6 : decode cb_L_init 6 = .ok (.putfield 7, 3) := by decide +kernel
theorem dd_L_init_9 : decode cb_L_init 9 = .ok (.aload_n 0, 1) := by decide +kernel
theorem dd_L_init_10 : decode cb_L_init 10 = .ok (.iload_n 2, 1) := by decide +kernel
theorem dd_L_init_11 : decode cb_L_init 11 = .ok (.putfield 13, 3) := by decide +kernel
theorem dd_L_init_14 : decode cb_L_init 14 = .ok (.aload_n 0, 1) := by decide +kernel
theorem dd_L_init_15 : decode cb_L_init 15 = .ok (.iload_n 3, 1) := by decide +kernel
theorem dd_L_init_16 : decode cb_L_init 16 = .ok (.putfield 16, 3) := by decide +kernel
theorem dd_L_init_19 : decode cb_L_init 19 = .ok (.return_, 1) := by decide +kernel
end
section
theorem dd_R_init_0 : decode cb_R_init 0 = .ok (.aload_n 0, 1) := by decide +kernel
theorem dd_R_init_1 : decode cb_R_init 1 = .ok (.invokespecial 3, 3) := by decide +kernel
theorem dd_R_init_4 : decode cb_R_init 4 = .ok (.aload_n 0, 1) := by decide +kernel
theorem dd_R_init_5 : decode cb_R_init 5 = .ok (.bipush 7, 2) := by decide +kernel
theorem dd_R_init_7 : decode cb_R_init 7 = .ok (.anewarray 9, 3) := by decide +kernel
theorem dd_R_init_10 : decode cb_R_init 10 = .ok (.putfield 11, 3) := by decide +kernel
theorem dd_R_init_13 : decode cb_R_init 13 = .ok (.return_, 1) := by decide +kernel
theorem dd_R_append_0 : decode cb_R_append 0 = .ok (.aload_n 0, 1) := by decide +kernel
theorem dd_R_append_1 : decode cb_R_append 1 = .ok (.getfield 17, 3) := by decide +kernel
theorem dd_R_append_4 : decode cb_R_append 4 = .ok (.aload_n 0, 1) := by decide +kernel
theorem dd_R_append_5 : decode cb_R_append 5 = .ok (.getfield 11, 3) := by decide +kernel
theorem dd_R_append_8 : decode cb_R_append 8 = .ok (.arraylength, 1) := by decide +kernel
theorem dd_R_append_9 : decode cb_R_append 9 = .ok (.if_icmp .ge 23, 3) := by decide +kernel
theorem dd_R_append_12 : decode cb_R_append 12 = .ok (.aload_n 0, 1) := by decide +kernel
theorem dd_R_append_13 : decode cb_R_append 13 = .ok (.getfield 11, 3) := by decide +kernel
theorem dd_R_append_16 : decode cb_R_append 16 = .ok (.aload_n 0, 1) := by decide +kernel
theorem dd_R_append_17 : decode cb_R_append 17 = .ok (.getfield 17, 3) := by decide +kernel
theorem dd_R_append_20 : decode cb_R_append 20 = .ok (.aload_n 1, 1) := by decide +kernel
theorem dd_R_append_21 : decode cb_R_append 21 = .ok (.aastore, 1) := by decide +kernel
theorem dd_R_append_22 : decode cb_R_append 22 = .ok (.aload_n 0, 1) := by decide +kernel
theorem dd_R_append_23 : decode cb_R_append 23 = .ok (.dup, 1) := by decide +kernel
theorem dd_R_append_24 : decode cb_R_append 24 = .ok (.getfield 17, 3) := by decide +kernel
theorem dd_R_append_27 : decode cb_R_append 27 = .ok (.iconst 1, 1) := by decide +kernel
theorem dd_R_append_28 : decode cb_R_append 28 = .ok (.iadd, 1) := by decide +kernel
theorem dd_R_append_29 : decode cb_R_append 29 = .ok (.putfield 17, 3) := by decide +kernel
theorem dd_R_append_32 : decode cb_R_append 32 = .ok (.return_, 1) := by decide +kernel
theorem dd_R_take_0 : decode cb_R_take 0 = .ok (.iload_n 1, 1) := by decide +kernel
theorem dd_R_take_1 : decode cb_R_take 1 = .ok (.ifCond .lt 11, 3) := by decide +kernel
theorem dd_R_take_4 : decode cb_R_take 4 = .ok (.iload_n 1, 1) := by decide +kernel
theorem dd_R_take_5 : decode cb_R_take 5 = .ok (.aload_n 0, 1) := by decide +kernel
theorem dd_R_take_6 : decode cb_R_take 6 = .ok (.getfield 17, 3) := by decide +kernel
theorem dd_R_take_9 : decode cb_R_take 9 = .ok (.if_icmp .lt 5, 3) := by decide +kernel
theorem dd_R_take_12 : decode cb_R_take 12 = .ok (.aconst_null, 1) := by decide +kernel
theorem dd_R_take_13 : decode cb_R_take 13 = .ok (.areturn, 1) := by decide +kernel
theorem dd_R_take_14 : decode cb_R_take 14 = .ok (.aload_n 0, 1) := by decide +kernel
theorem dd_R_take_15 : decode cb_R_take 15 = .ok (.getfield 11, 3) := by decide +kernel
theorem dd_R_take_18 : decode cb_R_take 18 = .ok (.iload_n 1, 1) := by decide +kernel
theorem dd_R_take_19 : decode cb_R_take 19 = .ok (.aaload, 1) := by decide +kernel
theorem dd_R_take_20 : decode cb_R_take 20 = .ok (.astore_n 2, 1) := by decide +kernel
theorem dd_R_take_21 : decode cb_R_take 21 = .ok (.aload_n 0, 1) := by decide +kernel
theorem dd_R_take_22 : decode cb_R_take 22 = .ok (.dup, 1) := by decide +kernel
theorem dd_R_take_23 : decode cb_R_take 23 = .ok (.getfield 17, 3) := by decide +kernel
theorem dd_R_take_26 : decode cb_R_take 26 = .ok (.iconst 1, 1) := by decide +kernel
theorem dd_R_take_27 : decode cb_R_take 27 = .ok (.isub, 1) := by decide +kernel
theorem dd_R_take_28 : decode cb_R_take 28 = .ok (.putfield 17, 3) := by decide +kernel
theorem dd_R_take_31 : decode cb_R_take 31 = .ok (.iload_n 1, 1) := by decide +kernel
theorem dd_R_take_32 : decode cb_R_take 32 = .ok (.istore_n 3, 1) := by decide +kernel
theorem dd_R_take_33 : decode cb_R_take 33 = .ok (.iload_n 3, 1) := by decide +kernel
theorem dd_R_take_34 : decode cb_R_take 34 = .ok (.aload_n 0, 1) := by decide +kernel
theorem dd_R_take_35 : decode cb_R_take 35 = .ok (.getfield 17, 3) := by decide +kernel
theorem dd_R_take_38 : decode cb_R_take 38 = .ok (.if_icmp .ge 23, 3) := by decide +kernel
theorem dd_R_take_41 : decode cb_R_take 41 = .ok (.aload_n 0, 1) := by decide +kernel
theorem dd_R_take_42 : decode cb_R_take 42 = .ok (.getfield 11, 3) := by decide +kernel
theorem dd_R_take_45 : decode cb_R_take 45 = .ok (.iload_n 3, 1) := by decide +kernel
theorem dd_R_take_46 : decode cb_R_take 46 = .ok (.aload_n 0, 1) := by decide +kernel
theorem dd_R_take_47 : decode cb_R_take 47 = .ok (.getfield 11, 3) := by decide +kernel
theorem dd_R_take_50 : decode cb_R_take 50 = .ok (.iload_n 3, 1) := by decide +kernel
theorem dd_R_take_51 : decode cb_R_take 51 = .ok (.iconst 1, 1) := by decide +kernel
theorem dd_R_take_52 : decode cb_R_take 52 = .ok (.iadd, 1) := by decide +kernel
theorem dd_R_take_53 : decode cb_R_take 53 = .ok (.aaload, 1) := by decide +kernel
theorem dd_R_take_54 : decode cb_R_take 54 = .ok (.aastore, 1) := by decide +kernel
theorem dd_R_take_55 : decode cb_R_take 55 = .ok (.iinc 3 1, 3) := by decide +kernel
theorem dd_R_take_58 : decode cb_R_take 58 = .ok (.goto (-25), 3) := by decide +kernel
theorem dd_R_take_61 : decode cb_R_take 61 = .ok (.aload_n 0, 1) := by decide +kernel
theorem dd_R_take_62 : decode cb_R_take 62 = .ok (.getfield 11, 3) := by decide +kernel
theorem dd_R_take_65 : decode cb_R_take 65 = .ok (.aload_n 0, 1) := by decide +kernel
theorem dd_R_take_66 : decode cb_R_take 66 = .ok (.getfield 17, 3) := by decide +kernel
theorem dd_R_take_69 : decode cb_R_take 69 = .ok (.aconst_null, 1) := by decide +kernel
theorem dd_R_take_70 : decode cb_R_take 70 = .ok (.aastore, 1) := by decide +kernel
theorem dd_R_take_71 : decode cb_R_take 71 = .ok (.aload_n 2, 1) := by decide +kernel
theorem dd_R_take_72 : decode cb_R_take 72 = .ok (.areturn, 1) := by decide +kernel
theorem dd_R_lose_0 : decode cb_R_lose 0 = .ok (.iconst 0, 1) := by decide +kernel
theorem dd_R_lose_1 : decode cb_R_lose 1 = .ok (.istore_n 1, 1) := by decide +kernel
theorem dd_R_lose_2 : decode cb_R_lose 2 = .ok (.iload_n 1, 1) := by decide +kernel
theorem dd_R_lose_3 : decode cb_R_lose 3 = .ok (.aload_n 0, 1) := by decide +kernel
theorem dd_R_lose_4 : decode cb_R_lose 4 = .ok (.getfield 11, 3) := by decide +kernel
theorem dd_R_lose_7 : decode cb_R_lose 7 = .ok (.arraylength, 1) := by decide +kernel
theorem dd_R_lose_8 : decode cb_R_lose 8 = .ok (.if_icmp .ge 16, 3) := by decide +kernel
theorem dd_R_lose_11 : decode cb_R_lose 11 = .ok (.aload_n 0, 1) := by decide +kernel
theorem dd_R_lose_12 : decode cb_R_lose 12 = .ok (.getfield 11, 3) := by decide +kernel
theorem dd_R_lose_15 : decode cb_R_lose 15 = .ok (.iload_n 1, 1) := by decide +kernel
theorem dd_R_lose_16 : decode cb_R_lose 16 = .ok (.aconst_null, 1) := by decide +kernel
theorem dd_R_lose_17 : decode cb_R_lose 17 = .ok (.aastore, 1) := by decide +kernel
theorem dd_R_lose_18 : decode cb_R_lose 18 = .ok (.iinc 1 1, 3) := by decide +kernel
theorem dd_R_lose_21 : decode cb_R_lose 21 = .ok (.goto (-19), 3) := by decide +kernel
theorem dd_R_lose_24 : decode cb_R_lose 24 = .ok (.aload_n 0, 1) := by decide +kernel
theorem dd_R_lose_25 : decode cb_R_lose 25 = .ok (.iconst 0, 1) := by decide +kernel
theorem dd_R_lose_26 : decode cb_R_lose 26 = .ok (.putfield 17, 3) := by decide +kernel
theorem dd_R_lose_29 : decode cb_R_lose 29 = .ok (.return_, 1) := by decide +kernel
end
section
theorem dd_S_init_0 : decode cb_S_init 0 = .ok (.aload_n 0, 1) := by decide +kernel
theorem dd_S_init_1 : decode cb_S_init 1 = .ok (.invokespecial 3, 3) := by decide +kernel
theorem dd_S_init_4 : decode cb_S_init 4 = .ok (.aload_n 0, 1) := by decide +kernel
theorem dd_S_init_5 : decode cb_S_init 5 = .ok (.iconst 1, 1) := by decide +kernel
theorem dd_S_init_6 : decode cb_S_init 6 = .ok (.putfield 9, 3) := by decide +kernel
theorem dd_S_init_9 : decode cb_S_init 9 = .ok (.aload_n 0, 1) := by decide +kernel
theorem dd_S_init_10 : decode cb_S_init 10 = .ok (.iload_n 1, 1) := by decide +kernel
theorem dd_S_init_11 : decode cb_S_init 11 = .ok (.putfield 15, 3) := by decide +kernel
theorem dd_S_init_14 : decode cb_S_init 14 = .ok (.aload_n 0, 1) := by decide +kernel
theorem dd_S_init_15 : decode cb_S_init 15 = .ok (.iload_n 1, 1) := by decide +kernel
theorem dd_S_init_16 : decode cb_S_init 16 = .ok (.iconst 1, 1) := by decide +kernel
theorem dd_S_init_17 : decode cb_S_init 17 = .ok (.iadd, 1) := by decide +kernel
theorem dd_S_init_18 : decode cb_S_init 18 = .ok (.newarray .int, 2) := by decide +kernel
theorem dd_S_init_20 : decode cb_S_init 20 = .ok (.putfield 18, 3) := by decide +kernel
theorem dd_S_init_23 : decode cb_S_init 23 = .ok (.aload_n 0, 1) := by decide +kernel
theorem dd_S_init_24 : decode cb_S_init 24 = .ok (.iload_n 1, 1) := by decide +kernel
theorem dd_S_init_25 : decode cb_S_init 25 = .ok (.iconst 1, 1) := by decide +kernel
theorem dd_S_init_26 : decode cb_S_init 26 = .ok (.iadd, 1) := by decide +kernel
theorem dd_S_init_27 : decode cb_S_init 27 = .ok (.newarray .long, 2) := by decide +kernel
theorem dd_S_init_29 : decode cb_S_init 29 = .ok (.putfield 22, 3) := by decide +kernel
theorem dd_S_init_32 : decode cb_S_init 32 = .ok (.return_, 1) := by decide +kernel
theorem dd_S_answer_0 : decode cb_S_answer 0 = .ok (.aload_n 1, 1) := by decide +kernel
theorem dd_S_answer_1 : decode cb_S_answer 1 = .ok (.getfield 26, 3) := by decide +kernel
theorem dd_S_answer_4 : decode cb_S_answer 4 = .ok (.tableswitch 74 2 5 #[32, 47, 74, 58], 32) := by decide +kernel
theorem dd_S_answer_36 : decode cb_S_answer 36 = .ok (.aload_n 0, 1) := by decide +kernel
theorem dd_S_answer_37 : decode cb_S_answer 37 = .ok (.aload_n 1, 1) := by decide +kernel
theorem dd_S_answer_38 : decode cb_S_answer 38 = .ok (.getfield 31, 3) := by decide +kernel
theorem dd_S_answer_41 : decode cb_S_answer 41 = .ok (.aload_n 1, 1) := by decide +kernel
theorem dd_S_answer_42 : decode cb_S_answer 42 = .ok (.getfield 34, 3) := by decide +kernel
theorem dd_S_answer_45 : decode cb_S_answer 45 = .ok (.invokevirtual 38, 3) := by decide +kernel
theorem dd_S_answer_48 : decode cb_S_answer 48 = .ok (.goto 38, 3) := by decide +kernel
theorem dd_S_answer_51 : decode cb_S_answer 51 = .ok (.aload_n 0, 1) := by decide +kernel
theorem dd_S_answer_52 : decode cb_S_answer 52 = .ok (.aload_n 1, 1) := by decide +kernel
theorem dd_S_answer_53 : decode cb_S_answer 53 = .ok (.getfield 31, 3) := by decide +kernel
theorem dd_S_answer_56 : decode cb_S_answer 56 = .ok (.invokevirtual 42, 3) := by decide +kernel
theorem dd_S_answer_59 : decode cb_S_answer 59 = .ok (.goto 27, 3) := by decide +kernel
theorem dd_S_answer_62 : decode cb_S_answer 62 = .ok (.aload_n 0, 1) := by decide +kernel
theorem dd_S_answer_63 : decode cb_S_answer 63 = .ok (.aload_n 1, 1) := by decide +kernel
theorem dd_S_answer_64 : decode cb_S_answer 64 = .ok (.getfield 31, 3) := by decide +kernel
theorem dd_S_answer_67 : decode cb_S_answer 67 = .ok (.invokevirtual 42, 3) := by decide +kernel
theorem dd_S_answer_70 : decode cb_S_answer 70 = .ok (.aload_n 0, 1) := by decide +kernel
theorem dd_S_answer_71 : decode cb_S_answer 71 = .ok (.aload_n 1, 1) := by decide +kernel
theorem dd_S_answer_72 : decode cb_S_answer 72 = .ok (.invokevirtual 46, 3) := by decide +kernel
theorem dd_S_answer_75 : decode cb_S_answer 75 = .ok (.goto 11, 3) := by decide +kernel
theorem dd_S_answer_78 : decode cb_S_answer 78 = .ok (.aload_n 1, 1) := by decide +kernel
theorem dd_S_answer_79 : decode cb_S_answer 79 = .ok (.aload_n 0, 1) := by decide +kernel
theorem dd_S_answer_80 : decode cb_S_answer 80 = .ok (.getfield 50, 3) := by decide +kernel
theorem dd_S_answer_83 : decode cb_S_answer 83 = .ok (.putfield 53, 3) := by decide +kernel
theorem dd_S_answer_86 : decode cb_S_answer 86 = .ok (.return_, 1) := by decide +kernel
theorem dd_S_store_0 : decode cb_S_store 0 = .ok (.aload_n 0, 1) := by decide +kernel
theorem dd_S_store_1 : decode cb_S_store 1 = .ok (.getfield 9, 3) := by decide +kernel
theorem dd_S_store_4 : decode cb_S_store 4 = .ok (.istore 4, 2) := by decide +kernel
theorem dd_S_store_6 : decode cb_S_store 6 = .ok (.iload 4, 2) := by decide +kernel
theorem dd_S_store_8 : decode cb_S_store 8 = .ok (.ifCond .le 54, 3) := by decide +kernel
theorem dd_S_store_11 : decode cb_S_store 11 = .ok (.aload_n 0, 1) := by decide +kernel
theorem dd_S_store_12 : decode cb_S_store 12 = .ok (.getfield 18, 3) := by decide +kernel
theorem dd_S_store_15 : decode cb_S_store 15 = .ok (.iload 4, 2) := by decide +kernel
theorem dd_S_store_17 : decode cb_S_store 17 = .ok (.iconst 1, 1) := by decide +kernel
theorem dd_S_store_18 : decode cb_S_store 18 = .ok (.isub, 1) := by decide +kernel
theorem dd_S_store_19 : decode cb_S_store 19 = .ok (.iaload, 1) := by decide +kernel
theorem dd_S_store_20 : decode cb_S_store 20 = .ok (.iload_n 1, 1) := by decide +kernel
theorem dd_S_store_21 : decode cb_S_store 21 = .ok (.if_icmp .ge 41, 3) := by decide +kernel
theorem dd_S_store_24 : decode cb_S_store 24 = .ok (.aload_n 0, 1) := by decide +kernel
theorem dd_S_store_25 : decode cb_S_store 25 = .ok (.getfield 18, 3) := by decide +kernel
theorem dd_S_store_28 : decode cb_S_store 28 = .ok (.iload 4, 2) := by decide +kernel
theorem dd_S_store_30 : decode cb_S_store 30 = .ok (.aload_n 0, 1) := by decide +kernel
theorem dd_S_store_31 : decode cb_S_store 31 = .ok (.getfield 18, 3) := by decide +kernel
theorem dd_S_store_34 : decode cb_S_store 34 = .ok (.iload 4, 2) := by decide +kernel
theorem dd_S_store_36 : decode cb_S_store 36 = .ok (.iconst 1, 1) := by decide +kernel
theorem dd_S_store_37 : decode cb_S_store 37 = .ok (.isub, 1) := by decide +kernel
theorem dd_S_store_38 : decode cb_S_store 38 = .ok (.iaload, 1) := by decide +kernel
theorem dd_S_store_39 : decode cb_S_store 39 = .ok (.iastore, 1) := by decide +kernel
theorem dd_S_store_40 : decode cb_S_store 40 = .ok (.aload_n 0, 1) := by decide +kernel
theorem dd_S_store_41 : decode cb_S_store 41 = .ok (.getfield 22, 3) := by decide +kernel
theorem dd_S_store_44 : decode cb_S_store 44 = .ok (.iload 4, 2) := by decide +kernel
theorem dd_S_store_46 : decode cb_S_store 46 = .ok (.aload_n 0, 1) := by decide +kernel
theorem dd_S_store_47 : decode cb_S_store 47 = .ok (.getfield 22, 3) := by decide +kernel
theorem dd_S_store_50 : decode cb_S_store 50 = .ok (.iload 4, 2) := by decide +kernel
theorem dd_S_store_52 : decode cb_S_store 52 = .ok (.iconst 1, 1) := by decide +kernel
theorem dd_S_store_53 : decode cb_S_store 53 = .ok (.isub, 1) := by decide +kernel
theorem dd_S_store_54 : decode cb_S_store 54 = .ok (.laload, 1) := by decide +kernel
theorem dd_S_store_55 : decode cb_S_store 55 = .ok (.lastore, 1) := by decide +kernel
theorem dd_S_store_56 : decode cb_S_store 56 = .ok (.iinc 4 (-1), 3) := by decide +kernel
theorem dd_S_store_59 : decode cb_S_store 59 = .ok (.goto (-53), 3) := by decide +kernel
theorem dd_S_store_62 : decode cb_S_store 62 = .ok (.aload_n 0, 1) := by decide +kernel
theorem dd_S_store_63 : decode cb_S_store 63 = .ok (.getfield 18, 3) := by decide +kernel
theorem dd_S_store_66 : decode cb_S_store 66 = .ok (.iload 4, 2) := by decide +kernel
theorem dd_S_store_68 : decode cb_S_store 68 = .ok (.iload_n 1, 1) := by decide +kernel
theorem dd_S_store_69 : decode cb_S_store 69 = .ok (.iastore, 1) := by decide +kernel
theorem dd_S_store_70 : decode cb_S_store 70 = .ok (.aload_n 0, 1) := by decide +kernel
theorem dd_S_store_71 : decode cb_S_store 71 = .ok (.getfield 22, 3) := by decide +kernel
theorem dd_S_store_74 : decode cb_S_store 74 = .ok (.iload 4, 2) := by decide +kernel
theorem dd_S_store_76 : decode cb_S_store 76 = .ok (.lload_n 2, 1) := by decide +kernel
theorem dd_S_store_77 : decode cb_S_store 77 = .ok (.lastore, 1) := by decide +kernel
theorem dd_S_store_78 : decode cb_S_store 78 = .ok (.aload_n 0, 1) := by decide +kernel
theorem dd_S_store_79 : decode cb_S_store 79 = .ok (.aload_n 0, 1) := by decide +kernel
theorem dd_S_store_80 : decode cb_S_store 80 = .ok (.getfield 9, 3) := by decide +kernel
theorem dd_S_store_83 : decode cb_S_store 83 = .ok (.iconst 1, 1) := by decide +kernel
theorem dd_S_store_84 : decode cb_S_store 84 = .ok (.iadd, 1) := by decide +kernel
theorem dd_S_store_85 : decode cb_S_store 85 = .ok (.aload_n 0, 1) := by decide +kernel
theorem dd_S_store_86 : decode cb_S_store 86 = .ok (.getfield 15, 3) := by decide +kernel
theorem dd_S_store_89 : decode cb_S_store 89 = .ok (.invokestatic 54, 3) := by decide +kernel
theorem dd_S_store_92 : decode cb_S_store 92 = .ok (.putfield 9, 3) := by decide +kernel
theorem dd_S_store_95 : decode cb_S_store 95 = .ok (.return_, 1) := by decide +kernel
theorem dd_S_raiseSeal_0 : decode cb_S_raiseSeal 0 = .ok (.aload_n 0, 1) := by decide +kernel
theorem dd_S_raiseSeal_1 : decode cb_S_raiseSeal 1 = .ok (.aload_n 0, 1) := by decide +kernel
theorem dd_S_raiseSeal_2 : decode cb_S_raiseSeal 2 = .ok (.getfield 50, 3) := by decide +kernel
theorem dd_S_raiseSeal_5 : decode cb_S_raiseSeal 5 = .ok (.iload_n 1, 1) := by decide +kernel
theorem dd_S_raiseSeal_6 : decode cb_S_raiseSeal 6 = .ok (.invokestatic 60, 3) := by decide +kernel
theorem dd_S_raiseSeal_9 : decode cb_S_raiseSeal 9 = .ok (.putfield 50, 3) := by decide +kernel
theorem dd_S_raiseSeal_12 : decode cb_S_raiseSeal 12 = .ok (.return_, 1) := by decide +kernel
theorem dd_S_enclose_0 : decode cb_S_enclose 0 = .ok (.aload_n 0, 1) := by decide +kernel
theorem dd_S_enclose_1 : decode cb_S_enclose 1 = .ok (.aload_n 1, 1) := by decide +kernel
theorem dd_S_enclose_2 : decode cb_S_enclose 2 = .ok (.getfield 31, 3) := by decide +kernel
theorem dd_S_enclose_5 : decode cb_S_enclose 5 = .ok (.invokevirtual 63, 3) := by decide +kernel
theorem dd_S_enclose_8 : decode cb_S_enclose 8 = .ok (.istore_n 2, 1) := by decide +kernel
theorem dd_S_enclose_9 : decode cb_S_enclose 9 = .ok (.iload_n 2, 1) := by decide +kernel
theorem dd_S_enclose_10 : decode cb_S_enclose 10 = .ok (.ifCond .lt 18, 3) := by decide +kernel
theorem dd_S_enclose_13 : decode cb_S_enclose 13 = .ok (.aload_n 1, 1) := by decide +kernel
theorem dd_S_enclose_14 : decode cb_S_enclose 14 = .ok (.iconst 1, 1) := by decide +kernel
theorem dd_S_enclose_15 : decode cb_S_enclose 15 = .ok (.putfield 67, 3) := by decide +kernel
theorem dd_S_enclose_18 : decode cb_S_enclose 18 = .ok (.aload_n 1, 1) := by decide +kernel
theorem dd_S_enclose_19 : decode cb_S_enclose 19 = .ok (.aload_n 0, 1) := by decide +kernel
theorem dd_S_enclose_20 : decode cb_S_enclose 20 = .ok (.getfield 22, 3) := by decide +kernel
theorem dd_S_enclose_23 : decode cb_S_enclose 23 = .ok (.iload_n 2, 1) := by decide +kernel
theorem dd_S_enclose_24 : decode cb_S_enclose 24 = .ok (.laload, 1) := by decide +kernel
theorem dd_S_enclose_25 : decode cb_S_enclose 25 = .ok (.putfield 34, 3) := by decide +kernel
theorem dd_S_enclose_28 : decode cb_S_enclose 28 = .ok (.return_, 1) := by decide +kernel
theorem dd_S_placeOf_0 : decode cb_S_placeOf 0 = .ok (.iconst 0, 1) := by decide +kernel
theorem dd_S_placeOf_1 : decode cb_S_placeOf 1 = .ok (.istore_n 2, 1) := by decide +kernel
theorem dd_S_placeOf_2 : decode cb_S_placeOf 2 = .ok (.iload_n 2, 1) := by decide +kernel
theorem dd_S_placeOf_3 : decode cb_S_placeOf 3 = .ok (.aload_n 0, 1) := by decide +kernel
theorem dd_S_placeOf_4 : decode cb_S_placeOf 4 = .ok (.getfield 9, 3) := by decide +kernel
theorem dd_S_placeOf_7 : decode cb_S_placeOf 7 = .ok (.if_icmp .ge 21, 3) := by decide +kernel
theorem dd_S_placeOf_10 : decode cb_S_placeOf 10 = .ok (.aload_n 0, 1) := by decide +kernel
theorem dd_S_placeOf_11 : decode cb_S_placeOf 11 = .ok (.getfield 18, 3) := by decide +kernel
theorem dd_S_placeOf_14 : decode cb_S_placeOf 14 = .ok (.iload_n 2, 1) := by decide +kernel
theorem dd_S_placeOf_15 : decode cb_S_placeOf 15 = .ok (.iaload, 1) := by decide +kernel
theorem dd_S_placeOf_16 : decode cb_S_placeOf 16 = .ok (.iload_n 1, 1) := by decide +kernel
theorem dd_S_placeOf_17 : decode cb_S_placeOf 17 = .ok (.if_icmp .ne 5, 3) := by decide +kernel
theorem dd_S_placeOf_20 : decode cb_S_placeOf 20 = .ok (.iload_n 2, 1) := by decide +kernel
theorem dd_S_placeOf_21 : decode cb_S_placeOf 21 = .ok (.ireturn, 1) := by decide +kernel
theorem dd_S_placeOf_22 : decode cb_S_placeOf 22 = .ok (.iinc 2 1, 3) := by decide +kernel
theorem dd_S_placeOf_25 : decode cb_S_placeOf 25 = .ok (.goto (-23), 3) := by decide +kernel
theorem dd_S_placeOf_28 : decode cb_S_placeOf 28 = .ok (.iconst (-1), 1) := by decide +kernel
theorem dd_S_placeOf_29 : decode cb_S_placeOf 29 = .ok (.ireturn, 1) := by decide +kernel
end
section
theorem dd_X_init_0 : decode cb_X_init 0 = .ok (.aload_n 0, 1) := by decide +kernel
theorem dd_X_init_1 : decode cb_X_init 1 = .ok (.invokespecial 3, 3) := by decide +kernel
theorem dd_X_init_4 : decode cb_X_init 4 = .ok (.iconst 3, 1) := by decide +kernel
theorem dd_X_init_5 : decode cb_X_init 5 = .ok (.iload_n 1, 1) := by decide +kernel
theorem dd_X_init_6 : decode cb_X_init 6 = .ok (.bipush 7, 2) := by decide +kernel
theorem dd_X_init_8 : decode cb_X_init 8 = .ok (.invokestatic 9, 3) := by decide +kernel
theorem dd_X_init_11 : decode cb_X_init 11 = .ok (.istore 4, 2) := by decide +kernel
theorem dd_X_init_13 : decode cb_X_init 13 = .ok (.iconst 1, 1) := by decide +kernel
theorem dd_X_init_14 : decode cb_X_init 14 = .ok (.iload_n 2, 1) := by decide +kernel
theorem dd_X_init_15 : decode cb_X_init 15 = .ok (.iload 4, 2) := by decide +kernel
theorem dd_X_init_17 : decode cb_X_init 17 = .ok (.invokestatic 9, 3) := by decide +kernel
theorem dd_X_init_20 : decode cb_X_init 20 = .ok (.istore 5, 2) := by decide +kernel
theorem dd_X_init_22 : decode cb_X_init 22 = .ok (.iconst 0, 1) := by decide +kernel
theorem dd_X_init_23 : decode cb_X_init 23 = .ok (.iload_n 3, 1) := by decide +kernel
theorem dd_X_init_24 : decode cb_X_init 24 = .ok (.iconst 3, 1) := by decide +kernel
theorem dd_X_init_25 : decode cb_X_init 25 = .ok (.invokestatic 9, 3) := by decide +kernel
theorem dd_X_init_28 : decode cb_X_init 28 = .ok (.istore 6, 2) := by decide +kernel
theorem dd_X_init_30 : decode cb_X_init 30 = .ok (.aload_n 0, 1) := by decide +kernel
theorem dd_X_init_31 : decode cb_X_init 31 = .ok (.iload 4, 2) := by decide +kernel
theorem dd_X_init_33 : decode cb_X_init 33 = .ok (.iload 5, 2) := by decide +kernel
theorem dd_X_init_35 : decode cb_X_init 35 = .ok (.isub, 1) := by decide +kernel
theorem dd_X_init_36 : decode cb_X_init 36 = .ok (.iconst 2, 1) := by decide +kernel
theorem dd_X_init_37 : decode cb_X_init 37 = .ok (.idiv, 1) := by decide +kernel
theorem dd_X_init_38 : decode cb_X_init 38 = .ok (.putfield 13, 3) := by decide +kernel
theorem dd_X_init_41 : decode cb_X_init 41 = .ok (.aload_n 0, 1) := by decide +kernel
theorem dd_X_init_42 : decode cb_X_init 42 = .ok (.iload 4, 2) := by decide +kernel
theorem dd_X_init_44 : decode cb_X_init 44 = .ok (.aload_n 0, 1) := by decide +kernel
theorem dd_X_init_45 : decode cb_X_init 45 = .ok (.getfield 13, 3) := by decide +kernel
theorem dd_X_init_48 : decode cb_X_init 48 = .ok (.isub, 1) := by decide +kernel
theorem dd_X_init_49 : decode cb_X_init 49 = .ok (.putfield 17, 3) := by decide +kernel
theorem dd_X_init_52 : decode cb_X_init 52 = .ok (.aload_n 0, 1) := by decide +kernel
theorem dd_X_init_53 : decode cb_X_init 53 = .ok (.new 20, 3) := by decide +kernel
theorem dd_X_init_56 : decode cb_X_init 56 = .ok (.dup, 1) := by decide +kernel
theorem dd_X_init_57 : decode cb_X_init 57 = .ok (.iload 5, 2) := by decide +kernel
theorem dd_X_init_59 : decode cb_X_init 59 = .ok (.invokespecial 22, 3) := by decide +kernel
theorem dd_X_init_62 : decode cb_X_init 62 = .ok (.putfield 25, 3) := by decide +kernel
theorem dd_X_init_65 : decode cb_X_init 65 = .ok (.aload_n 0, 1) := by decide +kernel
theorem dd_X_init_66 : decode cb_X_init 66 = .ok (.iconst 5, 1) := by decide +kernel
theorem dd_X_init_67 : decode cb_X_init 67 = .ok (.anewarray 29, 3) := by decide +kernel
theorem dd_X_init_70 : decode cb_X_init 70 = .ok (.putfield 31, 3) := by decide +kernel
theorem dd_X_init_73 : decode cb_X_init 73 = .ok (.iconst 0, 1) := by decide +kernel
theorem dd_X_init_74 : decode cb_X_init 74 = .ok (.istore 7, 2) := by decide +kernel
theorem dd_X_init_76 : decode cb_X_init 76 = .ok (.iload 7, 2) := by decide +kernel
theorem dd_X_init_78 : decode cb_X_init 78 = .ok (.iconst 5, 1) := by decide +kernel
theorem dd_X_init_79 : decode cb_X_init 79 = .ok (.if_icmp .ge 27, 3) := by decide +kernel
theorem dd_X_init_82 : decode cb_X_init 82 = .ok (.aload_n 0, 1) := by decide +kernel
theorem dd_X_init_83 : decode cb_X_init 83 = .ok (.getfield 31, 3) := by decide +kernel
theorem dd_X_init_86 : decode cb_X_init 86 = .ok (.iload 7, 2) := by decide +kernel
theorem dd_X_init_88 : decode cb_X_init 88 = .ok (.new 29, 3) := by decide +kernel
theorem dd_X_init_91 : decode cb_X_init 91 = .ok (.dup, 1) := by decide +kernel
theorem dd_X_init_92 : decode cb_X_init 92 = .ok (.iload 7, 2) := by decide +kernel
theorem dd_X_init_94 : decode cb_X_init 94 = .ok (.iload 5, 2) := by decide +kernel
theorem dd_X_init_96 : decode cb_X_init 96 = .ok (.invokespecial 35, 3) := by decide +kernel
theorem dd_X_init_99 : decode cb_X_init 99 = .ok (.aastore, 1) := by decide +kernel
theorem dd_X_init_100 : decode cb_X_init 100 = .ok (.iinc 7 1, 3) := by decide +kernel
theorem dd_X_init_103 : decode cb_X_init 103 = .ok (.goto (-27), 3) := by decide +kernel
theorem dd_X_init_106 : decode cb_X_init 106 = .ok (.aload_n 0, 1) := by decide +kernel
theorem dd_X_init_107 : decode cb_X_init 107 = .ok (.iload 4, 2) := by decide +kernel
theorem dd_X_init_109 : decode cb_X_init 109 = .ok (.anewarray 38, 3) := by decide +kernel
theorem dd_X_init_112 : decode cb_X_init 112 = .ok (.putfield 40, 3) := by decide +kernel
theorem dd_X_init_115 : decode cb_X_init 115 = .ok (.iconst 0, 1) := by decide +kernel
theorem dd_X_init_116 : decode cb_X_init 116 = .ok (.istore 7, 2) := by decide +kernel
theorem dd_X_init_118 : decode cb_X_init 118 = .ok (.iload 7, 2) := by decide +kernel
theorem dd_X_init_120 : decode cb_X_init 120 = .ok (.iload 4, 2) := by decide +kernel
theorem dd_X_init_122 : decode cb_X_init 122 = .ok (.if_icmp .ge 27, 3) := by decide +kernel
theorem dd_X_init_125 : decode cb_X_init 125 = .ok (.aload_n 0, 1) := by decide +kernel
theorem dd_X_init_126 : decode cb_X_init 126 = .ok (.getfield 40, 3) := by decide +kernel
theorem dd_X_init_129 : decode cb_X_init 129 = .ok (.iload 7, 2) := by decide +kernel
theorem dd_X_init_131 : decode cb_X_init 131 = .ok (.new 38, 3) := by decide +kernel
theorem dd_X_init_134 : decode cb_X_init 134 = .ok (.dup, 1) := by decide +kernel
theorem dd_X_init_135 : decode cb_X_init 135 = .ok (.iload 6, 2) := by decide +kernel
theorem dd_X_init_137 : decode cb_X_init 137 = .ok (.iconst 1, 1) := by decide +kernel
theorem dd_X_init_138 : decode cb_X_init 138 = .ok (.iadd, 1) := by decide +kernel
theorem dd_X_init_139 : decode cb_X_init 139 = .ok (.invokespecial 44, 3) := by decide +kernel
theorem dd_X_init_142 : decode cb_X_init 142 = .ok (.aastore, 1) := by decide +kernel
theorem dd_X_init_143 : decode cb_X_init 143 = .ok (.iinc 7 1, 3) := by decide +kernel
theorem dd_X_init_146 : decode cb_X_init 146 = .ok (.goto (-28), 3) := by decide +kernel
theorem dd_X_init_149 : decode cb_X_init 149 = .ok (.aload_n 0, 1) := by decide +kernel
theorem dd_X_init_150 : decode cb_X_init 150 = .ok (.iconst 5, 1) := by decide +kernel
theorem dd_X_init_151 : decode cb_X_init 151 = .ok (.iload 4, 2) := by decide +kernel
theorem dd_X_init_153 : decode cb_X_init 153 = .ok (.imul, 1) := by decide +kernel
theorem dd_X_init_154 : decode cb_X_init 154 = .ok (.invokestatic 45, 3) := by decide +kernel
theorem dd_X_init_157 : decode cb_X_init 157 = .ok (.putfield 49, 3) := by decide +kernel
theorem dd_X_init_160 : decode cb_X_init 160 = .ok (.aload_n 0, 1) := by decide +kernel
theorem dd_X_init_161 : decode cb_X_init 161 = .ok (.iconst 5, 1) := by decide +kernel
theorem dd_X_init_162 : decode cb_X_init 162 = .ok (.iload 4, 2) := by decide +kernel
theorem dd_X_init_164 : decode cb_X_init 164 = .ok (.imul, 1) := by decide +kernel
theorem dd_X_init_165 : decode cb_X_init 165 = .ok (.invokestatic 45, 3) := by decide +kernel
theorem dd_X_init_168 : decode cb_X_init 168 = .ok (.putfield 53, 3) := by decide +kernel
theorem dd_X_init_171 : decode cb_X_init 171 = .ok (.return_, 1) := by decide +kernel
theorem dd_X_write_0 : decode cb_X_write 0 = .ok (.aload_n 0, 1) := by decide +kernel
theorem dd_X_write_1 : decode cb_X_write 1 = .ok (.iload_n 1, 1) := by decide +kernel
theorem dd_X_write_2 : decode cb_X_write 2 = .ok (.invokevirtual 56, 3) := by decide +kernel
theorem dd_X_write_5 : decode cb_X_write 5 = .ok (.istore 4, 2) := by decide +kernel
theorem dd_X_write_7 : decode cb_X_write 7 = .ok (.iload 4, 2) := by decide +kernel
theorem dd_X_write_9 : decode cb_X_write 9 = .ok (.ifCond .eq 6, 3) := by decide +kernel
theorem dd_X_write_12 : decode cb_X_write 12 = .ok (.iload 4, 2) := by decide +kernel
theorem dd_X_write_14 : decode cb_X_write 14 = .ok (.ireturn, 1) := by decide +kernel
theorem dd_X_write_15 : decode cb_X_write 15 = .ok (.aload_n 0, 1) := by decide +kernel
theorem dd_X_write_16 : decode cb_X_write 16 = .ok (.getfield 31, 3) := by decide +kernel
theorem dd_X_write_19 : decode cb_X_write 19 = .ok (.iload_n 1, 1) := by decide +kernel
theorem dd_X_write_20 : decode cb_X_write 20 = .ok (.aaload, 1) := by decide +kernel
theorem dd_X_write_21 : decode cb_X_write 21 = .ok (.lload_n 2, 1) := by decide +kernel
theorem dd_X_write_22 : decode cb_X_write 22 = .ok (.putfield 60, 3) := by decide +kernel
theorem dd_X_write_25 : decode cb_X_write 25 = .ok (.aload_n 0, 1) := by decide +kernel
theorem dd_X_write_26 : decode cb_X_write 26 = .ok (.aload_n 0, 1) := by decide +kernel
theorem dd_X_write_27 : decode cb_X_write 27 = .ok (.getfield 31, 3) := by decide +kernel
theorem dd_X_write_30 : decode cb_X_write 30 = .ok (.iload_n 1, 1) := by decide +kernel
theorem dd_X_write_31 : decode cb_X_write 31 = .ok (.aaload, 1) := by decide +kernel
theorem dd_X_write_32 : decode cb_X_write 32 = .ok (.iconst 1, 1) := by decide +kernel
theorem dd_X_write_33 : decode cb_X_write 33 = .ok (.invokevirtual 64, 3) := by decide +kernel
theorem dd_X_write_36 : decode cb_X_write 36 = .ok (.iconst 0, 1) := by decide +kernel
theorem dd_X_write_37 : decode cb_X_write 37 = .ok (.ireturn, 1) := by decide +kernel
theorem dd_X_read_0 : decode cb_X_read 0 = .ok (.aload_n 0, 1) := by decide +kernel
theorem dd_X_read_1 : decode cb_X_read 1 = .ok (.iload_n 1, 1) := by decide +kernel
theorem dd_X_read_2 : decode cb_X_read 2 = .ok (.invokevirtual 56, 3) := by decide +kernel
theorem dd_X_read_5 : decode cb_X_read 5 = .ok (.istore_n 2, 1) := by decide +kernel
theorem dd_X_read_6 : decode cb_X_read 6 = .ok (.iload_n 2, 1) := by decide +kernel
theorem dd_X_read_7 : decode cb_X_read 7 = .ok (.ifCond .eq 5, 3) := by decide +kernel
theorem dd_X_read_10 : decode cb_X_read 10 = .ok (.iload_n 2, 1) := by decide +kernel
theorem dd_X_read_11 : decode cb_X_read 11 = .ok (.ireturn, 1) := by decide +kernel
theorem dd_X_read_12 : decode cb_X_read 12 = .ok (.aload_n 0, 1) := by decide +kernel
theorem dd_X_read_13 : decode cb_X_read 13 = .ok (.aload_n 0, 1) := by decide +kernel
theorem dd_X_read_14 : decode cb_X_read 14 = .ok (.getfield 31, 3) := by decide +kernel
theorem dd_X_read_17 : decode cb_X_read 17 = .ok (.iload_n 1, 1) := by decide +kernel
theorem dd_X_read_18 : decode cb_X_read 18 = .ok (.aaload, 1) := by decide +kernel
theorem dd_X_read_19 : decode cb_X_read 19 = .ok (.iconst 4, 1) := by decide +kernel
theorem dd_X_read_20 : decode cb_X_read 20 = .ok (.invokevirtual 64, 3) := by decide +kernel
theorem dd_X_read_23 : decode cb_X_read 23 = .ok (.iconst 0, 1) := by decide +kernel
theorem dd_X_read_24 : decode cb_X_read 24 = .ok (.ireturn, 1) := by decide +kernel
theorem dd_X_again_0 : decode cb_X_again 0 = .ok (.aload_n 0, 1) := by decide +kernel
theorem dd_X_again_1 : decode cb_X_again 1 = .ok (.iload_n 1, 1) := by decide +kernel
theorem dd_X_again_2 : decode cb_X_again 2 = .ok (.invokevirtual 68, 3) := by decide +kernel
theorem dd_X_again_5 : decode cb_X_again 5 = .ok (.ifCond .ne 5, 3) := by decide +kernel
theorem dd_X_again_8 : decode cb_X_again 8 = .ok (.iconst (-1), 1) := by decide +kernel
theorem dd_X_again_9 : decode cb_X_again 9 = .ok (.ireturn, 1) := by decide +kernel
theorem dd_X_again_10 : decode cb_X_again 10 = .ok (.aload_n 0, 1) := by decide +kernel
theorem dd_X_again_11 : decode cb_X_again 11 = .ok (.getfield 31, 3) := by decide +kernel
theorem dd_X_again_14 : decode cb_X_again 14 = .ok (.iload_n 1, 1) := by decide +kernel
theorem dd_X_again_15 : decode cb_X_again 15 = .ok (.aaload, 1) := by decide +kernel
theorem dd_X_again_16 : decode cb_X_again 16 = .ok (.astore_n 2, 1) := by decide +kernel
theorem dd_X_again_17 : decode cb_X_again 17 = .ok (.aload_n 2, 1) := by decide +kernel
theorem dd_X_again_18 : decode cb_X_again 18 = .ok (.getfield 72, 3) := by decide +kernel
theorem dd_X_again_21 : decode cb_X_again 21 = .ok (.ifCond .eq 6, 3) := by decide +kernel
theorem dd_X_again_24 : decode cb_X_again 24 = .ok (.bipush (-2), 2) := by decide +kernel
theorem dd_X_again_26 : decode cb_X_again 26 = .ok (.ireturn, 1) := by decide +kernel
theorem dd_X_again_27 : decode cb_X_again 27 = .ok (.aload_n 2, 1) := by decide +kernel
theorem dd_X_again_28 : decode cb_X_again 28 = .ok (.getfield 76, 3) := by decide +kernel
theorem dd_X_again_31 : decode cb_X_again 31 = .ok (.iconst 5, 1) := by decide +kernel
theorem dd_X_again_32 : decode cb_X_again 32 = .ok (.if_icmp .ne 14, 3) := by decide +kernel
theorem dd_X_again_35 : decode cb_X_again 35 = .ok (.aload_n 2, 1) := by decide +kernel
theorem dd_X_again_36 : decode cb_X_again 36 = .ok (.getfield 79, 3) := by decide +kernel
theorem dd_X_again_39 : decode cb_X_again 39 = .ok (.aload_n 0, 1) := by decide +kernel
theorem dd_X_again_40 : decode cb_X_again 40 = .ok (.getfield 17, 3) := by decide +kernel
theorem dd_X_again_43 : decode cb_X_again 43 = .ok (.if_icmp .ge 6, 3) := by decide +kernel
theorem dd_X_again_46 : decode cb_X_again 46 = .ok (.bipush (-3), 2) := by decide +kernel
theorem dd_X_again_48 : decode cb_X_again 48 = .ok (.ireturn, 1) := by decide +kernel
theorem dd_X_again_49 : decode cb_X_again 49 = .ok (.aload_n 0, 1) := by decide +kernel
theorem dd_X_again_50 : decode cb_X_again 50 = .ok (.iload_n 1, 1) := by decide +kernel
theorem dd_X_again_51 : decode cb_X_again 51 = .ok (.invokevirtual 82, 3) := by decide +kernel
theorem dd_X_again_54 : decode cb_X_again 54 = .ok (.ifCond .eq 6, 3) := by decide +kernel
theorem dd_X_again_57 : decode cb_X_again 57 = .ok (.bipush (-4), 2) := by decide +kernel
theorem dd_X_again_59 : decode cb_X_again 59 = .ok (.ireturn, 1) := by decide +kernel
theorem dd_X_again_60 : decode cb_X_again 60 = .ok (.aload_n 0, 1) := by decide +kernel
theorem dd_X_again_61 : decode cb_X_again 61 = .ok (.aload_n 2, 1) := by decide +kernel
theorem dd_X_again_62 : decode cb_X_again 62 = .ok (.iconst 4, 1) := by decide +kernel
theorem dd_X_again_63 : decode cb_X_again 63 = .ok (.invokevirtual 64, 3) := by decide +kernel
theorem dd_X_again_66 : decode cb_X_again 66 = .ok (.iconst 0, 1) := by decide +kernel
theorem dd_X_again_67 : decode cb_X_again 67 = .ok (.ireturn, 1) := by decide +kernel
theorem dd_X_deliver_0 : decode cb_X_deliver 0 = .ok (.aload_n 0, 1) := by decide +kernel
theorem dd_X_deliver_1 : decode cb_X_deliver 1 = .ok (.iload_n 1, 1) := by decide +kernel
theorem dd_X_deliver_2 : decode cb_X_deliver 2 = .ok (.invokevirtual 68, 3) := by decide +kernel
theorem dd_X_deliver_5 : decode cb_X_deliver 5 = .ok (.ifCond .eq 11, 3) := by decide +kernel
theorem dd_X_deliver_8 : decode cb_X_deliver 8 = .ok (.aload_n 0, 1) := by decide +kernel
theorem dd_X_deliver_9 : decode cb_X_deliver 9 = .ok (.iload_n 2, 1) := by decide +kernel
theorem dd_X_deliver_10 : decode cb_X_deliver 10 = .ok (.invokevirtual 85, 3) := by decide +kernel
theorem dd_X_deliver_13 : decode cb_X_deliver 13 = .ok (.ifCond .ne 5, 3) := by decide +kernel
theorem dd_X_deliver_16 : decode cb_X_deliver 16 = .ok (.iconst (-1), 1) := by decide +kernel
theorem dd_X_deliver_17 : decode cb_X_deliver 17 = .ok (.ireturn, 1) := by decide +kernel
theorem dd_X_deliver_18 : decode cb_X_deliver 18 = .ok (.aload_n 0, 1) := by decide +kernel
theorem dd_X_deliver_19 : decode cb_X_deliver 19 = .ok (.getfield 49, 3) := by decide +kernel
theorem dd_X_deliver_22 : decode cb_X_deliver 22 = .ok (.aload_n 0, 1) := by decide +kernel
theorem dd_X_deliver_23 : decode cb_X_deliver 23 = .ok (.iload_n 1, 1) := by decide +kernel
theorem dd_X_deliver_24 : decode cb_X_deliver 24 = .ok (.iload_n 2, 1) := by decide +kernel
theorem dd_X_deliver_25 : decode cb_X_deliver 25 = .ok (.invokevirtual 88, 3) := by decide +kernel
theorem dd_X_deliver_28 : decode cb_X_deliver 28 = .ok (.aaload, 1) := by decide +kernel
theorem dd_X_deliver_29 : decode cb_X_deliver 29 = .ok (.iload_n 3, 1) := by decide +kernel
theorem dd_X_deliver_30 : decode cb_X_deliver 30 = .ok (.invokevirtual 92, 3) := by decide +kernel
theorem dd_X_deliver_33 : decode cb_X_deliver 33 = .ok (.astore 4, 2) := by decide +kernel
theorem dd_X_deliver_35 : decode cb_X_deliver 35 = .ok (.aload 4, 2) := by decide +kernel
theorem dd_X_deliver_37 : decode cb_X_deliver 37 = .ok (.ifnonnull 6, 3) := by decide +kernel
theorem dd_X_deliver_40 : decode cb_X_deliver 40 = .ok (.bipush (-2), 2) := by decide +kernel
theorem dd_X_deliver_42 : decode cb_X_deliver 42 = .ok (.ireturn, 1) := by decide +kernel
theorem dd_X_deliver_43 : decode cb_X_deliver 43 = .ok (.aload_n 0, 1) := by decide +kernel
theorem dd_X_deliver_44 : decode cb_X_deliver 44 = .ok (.getfield 40, 3) := by decide +kernel
theorem dd_X_deliver_47 : decode cb_X_deliver 47 = .ok (.iload_n 2, 1) := by decide +kernel
theorem dd_X_deliver_48 : decode cb_X_deliver 48 = .ok (.aaload, 1) := by decide +kernel
theorem dd_X_deliver_49 : decode cb_X_deliver 49 = .ok (.aload 4, 2) := by decide +kernel
theorem dd_X_deliver_51 : decode cb_X_deliver 51 = .ok (.invokevirtual 98, 3) := by decide +kernel
theorem dd_X_deliver_54 : decode cb_X_deliver 54 = .ok (.aload_n 0, 1) := by decide +kernel
theorem dd_X_deliver_55 : decode cb_X_deliver 55 = .ok (.getfield 53, 3) := by decide +kernel
theorem dd_X_deliver_58 : decode cb_X_deliver 58 = .ok (.aload_n 0, 1) := by decide +kernel
theorem dd_X_deliver_59 : decode cb_X_deliver 59 = .ok (.iload_n 1, 1) := by decide +kernel
theorem dd_X_deliver_60 : decode cb_X_deliver 60 = .ok (.iload_n 2, 1) := by decide +kernel
theorem dd_X_deliver_61 : decode cb_X_deliver 61 = .ok (.invokevirtual 88, 3) := by decide +kernel
theorem dd_X_deliver_64 : decode cb_X_deliver 64 = .ok (.aaload, 1) := by decide +kernel
theorem dd_X_deliver_65 : decode cb_X_deliver 65 = .ok (.aload 4, 2) := by decide +kernel
theorem dd_X_deliver_67 : decode cb_X_deliver 67 = .ok (.invokevirtual 102, 3) := by decide +kernel
theorem dd_X_deliver_70 : decode cb_X_deliver 70 = .ok (.aload 4, 2) := by decide +kernel
theorem dd_X_deliver_72 : decode cb_X_deliver 72 = .ok (.getfield 105, 3) := by decide +kernel
theorem dd_X_deliver_75 : decode cb_X_deliver 75 = .ok (.ireturn, 1) := by decide +kernel
theorem dd_X_hear_0 : decode cb_X_hear 0 = .ok (.aload_n 0, 1) := by decide +kernel
theorem dd_X_hear_1 : decode cb_X_hear 1 = .ok (.iload_n 1, 1) := by decide +kernel
theorem dd_X_hear_2 : decode cb_X_hear 2 = .ok (.invokevirtual 68, 3) := by decide +kernel
theorem dd_X_hear_5 : decode cb_X_hear 5 = .ok (.ifCond .eq 11, 3) := by decide +kernel
theorem dd_X_hear_8 : decode cb_X_hear 8 = .ok (.aload_n 0, 1) := by decide +kernel
theorem dd_X_hear_9 : decode cb_X_hear 9 = .ok (.iload_n 2, 1) := by decide +kernel
theorem dd_X_hear_10 : decode cb_X_hear 10 = .ok (.invokevirtual 85, 3) := by decide +kernel
theorem dd_X_hear_13 : decode cb_X_hear 13 = .ok (.ifCond .ne 5, 3) := by decide +kernel
theorem dd_X_hear_16 : decode cb_X_hear 16 = .ok (.iconst (-1), 1) := by decide +kernel
theorem dd_X_hear_17 : decode cb_X_hear 17 = .ok (.ireturn, 1) := by decide +kernel
theorem dd_X_hear_18 : decode cb_X_hear 18 = .ok (.aload_n 0, 1) := by decide +kernel
theorem dd_X_hear_19 : decode cb_X_hear 19 = .ok (.getfield 53, 3) := by decide +kernel
theorem dd_X_hear_22 : decode cb_X_hear 22 = .ok (.aload_n 0, 1) := by decide +kernel
theorem dd_X_hear_23 : decode cb_X_hear 23 = .ok (.iload_n 1, 1) := by decide +kernel
theorem dd_X_hear_24 : decode cb_X_hear 24 = .ok (.iload_n 2, 1) := by decide +kernel
theorem dd_X_hear_25 : decode cb_X_hear 25 = .ok (.invokevirtual 88, 3) := by decide +kernel
theorem dd_X_hear_28 : decode cb_X_hear 28 = .ok (.aaload, 1) := by decide +kernel
theorem dd_X_hear_29 : decode cb_X_hear 29 = .ok (.iload_n 3, 1) := by decide +kernel
theorem dd_X_hear_30 : decode cb_X_hear 30 = .ok (.invokevirtual 92, 3) := by decide +kernel
theorem dd_X_hear_33 : decode cb_X_hear 33 = .ok (.astore 4, 2) := by decide +kernel
theorem dd_X_hear_35 : decode cb_X_hear 35 = .ok (.aload 4, 2) := by decide +kernel
theorem dd_X_hear_37 : decode cb_X_hear 37 = .ok (.ifnonnull 6, 3) := by decide +kernel
theorem dd_X_hear_40 : decode cb_X_hear 40 = .ok (.bipush (-2), 2) := by decide +kernel
theorem dd_X_hear_42 : decode cb_X_hear 42 = .ok (.ireturn, 1) := by decide +kernel
theorem dd_X_hear_43 : decode cb_X_hear 43 = .ok (.aload_n 0, 1) := by decide +kernel
theorem dd_X_hear_44 : decode cb_X_hear 44 = .ok (.getfield 31, 3) := by decide +kernel
theorem dd_X_hear_47 : decode cb_X_hear 47 = .ok (.iload_n 1, 1) := by decide +kernel
theorem dd_X_hear_48 : decode cb_X_hear 48 = .ok (.aaload, 1) := by decide +kernel
theorem dd_X_hear_49 : decode cb_X_hear 49 = .ok (.astore 5, 2) := by decide +kernel
theorem dd_X_hear_51 : decode cb_X_hear 51 = .ok (.aload 5, 2) := by decide +kernel
theorem dd_X_hear_53 : decode cb_X_hear 53 = .ok (.aload 4, 2) := by decide +kernel
theorem dd_X_hear_55 : decode cb_X_hear 55 = .ok (.invokevirtual 108, 3) := by decide +kernel
theorem dd_X_hear_58 : decode cb_X_hear 58 = .ok (.ifCond .ne 5, 3) := by decide +kernel
theorem dd_X_hear_61 : decode cb_X_hear 61 = .ok (.iconst 0, 1) := by decide +kernel
theorem dd_X_hear_62 : decode cb_X_hear 62 = .ok (.ireturn, 1) := by decide +kernel
theorem dd_X_hear_63 : decode cb_X_hear 63 = .ok (.aload 5, 2) := by decide +kernel
theorem dd_X_hear_65 : decode cb_X_hear 65 = .ok (.aload 4, 2) := by decide +kernel
theorem dd_X_hear_67 : decode cb_X_hear 67 = .ok (.iload_n 2, 1) := by decide +kernel
theorem dd_X_hear_68 : decode cb_X_hear 68 = .ok (.invokevirtual 112, 3) := by decide +kernel
theorem dd_X_hear_71 : decode cb_X_hear 71 = .ok (.aload_n 0, 1) := by decide +kernel
theorem dd_X_hear_72 : decode cb_X_hear 72 = .ok (.aload 5, 2) := by decide +kernel
theorem dd_X_hear_74 : decode cb_X_hear 74 = .ok (.invokevirtual 115, 3) := by decide +kernel
theorem dd_X_hear_77 : decode cb_X_hear 77 = .ok (.ifCond .eq 12, 3) := by decide +kernel
theorem dd_X_hear_80 : decode cb_X_hear 80 = .ok (.aload_n 0, 1) := by decide +kernel
theorem dd_X_hear_81 : decode cb_X_hear 81 = .ok (.aload 5, 2) := by decide +kernel
theorem dd_X_hear_83 : decode cb_X_hear 83 = .ok (.invokevirtual 119, 3) := by decide +kernel
theorem dd_X_hear_86 : decode cb_X_hear 86 = .ok (.goto 4, 3) := by decide +kernel
theorem dd_X_hear_89 : decode cb_X_hear 89 = .ok (.iconst 1, 1) := by decide +kernel
theorem dd_X_hear_90 : decode cb_X_hear 90 = .ok (.ireturn, 1) := by decide +kernel
theorem dd_X_crash_0 : decode cb_X_crash 0 = .ok (.aload_n 0, 1) := by decide +kernel
theorem dd_X_crash_1 : decode cb_X_crash 1 = .ok (.iload_n 1, 1) := by decide +kernel
theorem dd_X_crash_2 : decode cb_X_crash 2 = .ok (.invokevirtual 85, 3) := by decide +kernel
theorem dd_X_crash_5 : decode cb_X_crash 5 = .ok (.ifCond .eq 26, 3) := by decide +kernel
theorem dd_X_crash_8 : decode cb_X_crash 8 = .ok (.aload_n 0, 1) := by decide +kernel
theorem dd_X_crash_9 : decode cb_X_crash 9 = .ok (.getfield 40, 3) := by decide +kernel
theorem dd_X_crash_12 : decode cb_X_crash 12 = .ok (.iload_n 1, 1) := by decide +kernel
theorem dd_X_crash_13 : decode cb_X_crash 13 = .ok (.aaload, 1) := by decide +kernel
theorem dd_X_crash_14 : decode cb_X_crash 14 = .ok (.getfield 123, 3) := by decide +kernel
theorem dd_X_crash_17 : decode cb_X_crash 17 = .ok (.ifCond .ne 14, 3) := by decide +kernel
theorem dd_X_crash_20 : decode cb_X_crash 20 = .ok (.aload_n 0, 1) := by decide +kernel
theorem dd_X_crash_21 : decode cb_X_crash 21 = .ok (.getfield 124, 3) := by decide +kernel
theorem dd_X_crash_24 : decode cb_X_crash 24 = .ok (.aload_n 0, 1) := by decide +kernel
theorem dd_X_crash_25 : decode cb_X_crash 25 = .ok (.getfield 13, 3) := by decide +kernel
theorem dd_X_crash_28 : decode cb_X_crash 28 = .ok (.if_icmp .lt 5, 3) := by decide +kernel
theorem dd_X_crash_31 : decode cb_X_crash 31 = .ok (.iconst 0, 1) := by decide +kernel
theorem dd_X_crash_32 : decode cb_X_crash 32 = .ok (.ireturn, 1) := by decide +kernel
theorem dd_X_crash_33 : decode cb_X_crash 33 = .ok (.aload_n 0, 1) := by decide +kernel
theorem dd_X_crash_34 : decode cb_X_crash 34 = .ok (.getfield 40, 3) := by decide +kernel
theorem dd_X_crash_37 : decode cb_X_crash 37 = .ok (.iload_n 1, 1) := by decide +kernel
theorem dd_X_crash_38 : decode cb_X_crash 38 = .ok (.aaload, 1) := by decide +kernel
theorem dd_X_crash_39 : decode cb_X_crash 39 = .ok (.iconst 1, 1) := by decide +kernel
theorem dd_X_crash_40 : decode cb_X_crash 40 = .ok (.putfield 123, 3) := by decide +kernel
theorem dd_X_crash_43 : decode cb_X_crash 43 = .ok (.aload_n 0, 1) := by decide +kernel
theorem dd_X_crash_44 : decode cb_X_crash 44 = .ok (.dup, 1) := by decide +kernel
theorem dd_X_crash_45 : decode cb_X_crash 45 = .ok (.getfield 124, 3) := by decide +kernel
theorem dd_X_crash_48 : decode cb_X_crash 48 = .ok (.iconst 1, 1) := by decide +kernel
theorem dd_X_crash_49 : decode cb_X_crash 49 = .ok (.iadd, 1) := by decide +kernel
theorem dd_X_crash_50 : decode cb_X_crash 50 = .ok (.putfield 124, 3) := by decide +kernel
theorem dd_X_crash_53 : decode cb_X_crash 53 = .ok (.iconst 0, 1) := by decide +kernel
theorem dd_X_crash_54 : decode cb_X_crash 54 = .ok (.istore_n 2, 1) := by decide +kernel
theorem dd_X_crash_55 : decode cb_X_crash 55 = .ok (.iload_n 2, 1) := by decide +kernel
theorem dd_X_crash_56 : decode cb_X_crash 56 = .ok (.iconst 5, 1) := by decide +kernel
theorem dd_X_crash_57 : decode cb_X_crash 57 = .ok (.if_icmp .ge 23, 3) := by decide +kernel
theorem dd_X_crash_60 : decode cb_X_crash 60 = .ok (.aload_n 0, 1) := by decide +kernel
theorem dd_X_crash_61 : decode cb_X_crash 61 = .ok (.getfield 49, 3) := by decide +kernel
theorem dd_X_crash_64 : decode cb_X_crash 64 = .ok (.aload_n 0, 1) := by decide +kernel
theorem dd_X_crash_65 : decode cb_X_crash 65 = .ok (.iload_n 2, 1) := by decide +kernel
theorem dd_X_crash_66 : decode cb_X_crash 66 = .ok (.iload_n 1, 1) := by decide +kernel
theorem dd_X_crash_67 : decode cb_X_crash 67 = .ok (.invokevirtual 88, 3) := by decide +kernel
theorem dd_X_crash_70 : decode cb_X_crash 70 = .ok (.aaload, 1) := by decide +kernel
theorem dd_X_crash_71 : decode cb_X_crash 71 = .ok (.invokevirtual 127, 3) := by decide +kernel
theorem dd_X_crash_74 : decode cb_X_crash 74 = .ok (.iinc 2 1, 3) := by decide +kernel
theorem dd_X_crash_77 : decode cb_X_crash 77 = .ok (.goto (-22), 3) := by decide +kernel
theorem dd_X_crash_80 : decode cb_X_crash 80 = .ok (.iconst 1, 1) := by decide +kernel
theorem dd_X_crash_81 : decode cb_X_crash 81 = .ok (.ireturn, 1) := by decide +kernel
theorem dd_X_stop_0 : decode cb_X_stop 0 = .ok (.aload_n 0, 1) := by decide +kernel
theorem dd_X_stop_1 : decode cb_X_stop 1 = .ok (.iload_n 1, 1) := by decide +kernel
theorem dd_X_stop_2 : decode cb_X_stop 2 = .ok (.invokevirtual 68, 3) := by decide +kernel
theorem dd_X_stop_5 : decode cb_X_stop 5 = .ok (.ifCond .eq 15, 3) := by decide +kernel
theorem dd_X_stop_8 : decode cb_X_stop 8 = .ok (.aload_n 0, 1) := by decide +kernel
theorem dd_X_stop_9 : decode cb_X_stop 9 = .ok (.getfield 31, 3) := by decide +kernel
theorem dd_X_stop_12 : decode cb_X_stop 12 = .ok (.iload_n 1, 1) := by decide +kernel
theorem dd_X_stop_13 : decode cb_X_stop 13 = .ok (.aaload, 1) := by decide +kernel
theorem dd_X_stop_14 : decode cb_X_stop 14 = .ok (.getfield 72, 3) := by decide +kernel
theorem dd_X_stop_17 : decode cb_X_stop 17 = .ok (.ifCond .eq 5, 3) := by decide +kernel
theorem dd_X_stop_20 : decode cb_X_stop 20 = .ok (.iconst 0, 1) := by decide +kernel
theorem dd_X_stop_21 : decode cb_X_stop 21 = .ok (.ireturn, 1) := by decide +kernel
theorem dd_X_stop_22 : decode cb_X_stop 22 = .ok (.aload_n 0, 1) := by decide +kernel
theorem dd_X_stop_23 : decode cb_X_stop 23 = .ok (.getfield 31, 3) := by decide +kernel
theorem dd_X_stop_26 : decode cb_X_stop 26 = .ok (.iload_n 1, 1) := by decide +kernel
theorem dd_X_stop_27 : decode cb_X_stop 27 = .ok (.aaload, 1) := by decide +kernel
theorem dd_X_stop_28 : decode cb_X_stop 28 = .ok (.iconst 1, 1) := by decide +kernel
theorem dd_X_stop_29 : decode cb_X_stop 29 = .ok (.putfield 72, 3) := by decide +kernel
theorem dd_X_stop_32 : decode cb_X_stop 32 = .ok (.iconst 1, 1) := by decide +kernel
theorem dd_X_stop_33 : decode cb_X_stop 33 = .ok (.ireturn, 1) := by decide +kernel
theorem dd_X_phase_0 : decode cb_X_phase 0 = .ok (.aload_n 0, 1) := by decide +kernel
theorem dd_X_phase_1 : decode cb_X_phase 1 = .ok (.iload_n 1, 1) := by decide +kernel
theorem dd_X_phase_2 : decode cb_X_phase 2 = .ok (.invokevirtual 68, 3) := by decide +kernel
theorem dd_X_phase_5 : decode cb_X_phase 5 = .ok (.ifCond .ne 5, 3) := by decide +kernel
theorem dd_X_phase_8 : decode cb_X_phase 8 = .ok (.iconst (-1), 1) := by decide +kernel
theorem dd_X_phase_9 : decode cb_X_phase 9 = .ok (.ireturn, 1) := by decide +kernel
theorem dd_X_phase_10 : decode cb_X_phase 10 = .ok (.aload_n 0, 1) := by decide +kernel
theorem dd_X_phase_11 : decode cb_X_phase 11 = .ok (.getfield 31, 3) := by decide +kernel
theorem dd_X_phase_14 : decode cb_X_phase 14 = .ok (.iload_n 1, 1) := by decide +kernel
theorem dd_X_phase_15 : decode cb_X_phase 15 = .ok (.aaload, 1) := by decide +kernel
theorem dd_X_phase_16 : decode cb_X_phase 16 = .ok (.getfield 72, 3) := by decide +kernel
theorem dd_X_phase_19 : decode cb_X_phase 19 = .ok (.ifCond .eq 8, 3) := by decide +kernel
theorem dd_X_phase_22 : decode cb_X_phase 22 = .ok (.bipush 6, 2) := by decide +kernel
theorem dd_X_phase_24 : decode cb_X_phase 24 = .ok (.goto 12, 3) := by decide +kernel
theorem dd_X_phase_27 : decode cb_X_phase 27 = .ok (.aload_n 0, 1) := by decide +kernel
theorem dd_X_phase_28 : decode cb_X_phase 28 = .ok (.getfield 31, 3) := by decide +kernel
theorem dd_X_phase_31 : decode cb_X_phase 31 = .ok (.iload_n 1, 1) := by decide +kernel
theorem dd_X_phase_32 : decode cb_X_phase 32 = .ok (.aaload, 1) := by decide +kernel
theorem dd_X_phase_33 : decode cb_X_phase 33 = .ok (.getfield 76, 3) := by decide +kernel
theorem dd_X_phase_36 : decode cb_X_phase 36 = .ok (.ireturn, 1) := by decide +kernel
theorem dd_X_heard_0 : decode cb_X_heard 0 = .ok (.aload_n 0, 1) := by decide +kernel
theorem dd_X_heard_1 : decode cb_X_heard 1 = .ok (.iload_n 1, 1) := by decide +kernel
theorem dd_X_heard_2 : decode cb_X_heard 2 = .ok (.invokevirtual 68, 3) := by decide +kernel
theorem dd_X_heard_5 : decode cb_X_heard 5 = .ok (.ifCond .ne 5, 3) := by decide +kernel
theorem dd_X_heard_8 : decode cb_X_heard 8 = .ok (.iconst (-1), 1) := by decide +kernel
theorem dd_X_heard_9 : decode cb_X_heard 9 = .ok (.ireturn, 1) := by decide +kernel
theorem dd_X_heard_10 : decode cb_X_heard 10 = .ok (.aload_n 0, 1) := by decide +kernel
theorem dd_X_heard_11 : decode cb_X_heard 11 = .ok (.getfield 31, 3) := by decide +kernel
theorem dd_X_heard_14 : decode cb_X_heard 14 = .ok (.iload_n 1, 1) := by decide +kernel
theorem dd_X_heard_15 : decode cb_X_heard 15 = .ok (.aaload, 1) := by decide +kernel
theorem dd_X_heard_16 : decode cb_X_heard 16 = .ok (.invokevirtual 130, 3) := by decide +kernel
theorem dd_X_heard_19 : decode cb_X_heard 19 = .ok (.ifCond .eq 15, 3) := by decide +kernel
theorem dd_X_heard_22 : decode cb_X_heard 22 = .ok (.aload_n 0, 1) := by decide +kernel
theorem dd_X_heard_23 : decode cb_X_heard 23 = .ok (.getfield 31, 3) := by decide +kernel
theorem dd_X_heard_26 : decode cb_X_heard 26 = .ok (.iload_n 1, 1) := by decide +kernel
theorem dd_X_heard_27 : decode cb_X_heard 27 = .ok (.aaload, 1) := by decide +kernel
theorem dd_X_heard_28 : decode cb_X_heard 28 = .ok (.getfield 79, 3) := by decide +kernel
theorem dd_X_heard_31 : decode cb_X_heard 31 = .ok (.goto 4, 3) := by decide +kernel
theorem dd_X_heard_34 : decode cb_X_heard 34 = .ok (.iconst 0, 1) := by decide +kernel
theorem dd_X_heard_35 : decode cb_X_heard 35 = .ok (.ireturn, 1) := by decide +kernel
theorem dd_X_tag_0 : decode cb_X_tag 0 = .ok (.aload_n 0, 1) := by decide +kernel
theorem dd_X_tag_1 : decode cb_X_tag 1 = .ok (.iload_n 1, 1) := by decide +kernel
theorem dd_X_tag_2 : decode cb_X_tag 2 = .ok (.invokevirtual 68, 3) := by decide +kernel
theorem dd_X_tag_5 : decode cb_X_tag 5 = .ok (.ifCond .eq 15, 3) := by decide +kernel
theorem dd_X_tag_8 : decode cb_X_tag 8 = .ok (.aload_n 0, 1) := by decide +kernel
theorem dd_X_tag_9 : decode cb_X_tag 9 = .ok (.getfield 31, 3) := by decide +kernel
theorem dd_X_tag_12 : decode cb_X_tag 12 = .ok (.iload_n 1, 1) := by decide +kernel
theorem dd_X_tag_13 : decode cb_X_tag 13 = .ok (.aaload, 1) := by decide +kernel
theorem dd_X_tag_14 : decode cb_X_tag 14 = .ok (.getfield 134, 3) := by decide +kernel
theorem dd_X_tag_17 : decode cb_X_tag 17 = .ok (.goto 4, 3) := by decide +kernel
theorem dd_X_tag_20 : decode cb_X_tag 20 = .ok (.iconst (-1), 1) := by decide +kernel
theorem dd_X_tag_21 : decode cb_X_tag 21 = .ok (.ireturn, 1) := by decide +kernel
theorem dd_X_result_0 : decode cb_X_result 0 = .ok (.aload_n 0, 1) := by decide +kernel
theorem dd_X_result_1 : decode cb_X_result 1 = .ok (.iload_n 1, 1) := by decide +kernel
theorem dd_X_result_2 : decode cb_X_result 2 = .ok (.invokevirtual 68, 3) := by decide +kernel
theorem dd_X_result_5 : decode cb_X_result 5 = .ok (.ifCond .eq 15, 3) := by decide +kernel
theorem dd_X_result_8 : decode cb_X_result 8 = .ok (.aload_n 0, 1) := by decide +kernel
theorem dd_X_result_9 : decode cb_X_result 9 = .ok (.getfield 31, 3) := by decide +kernel
theorem dd_X_result_12 : decode cb_X_result 12 = .ok (.iload_n 1, 1) := by decide +kernel
theorem dd_X_result_13 : decode cb_X_result 13 = .ok (.aaload, 1) := by decide +kernel
theorem dd_X_result_14 : decode cb_X_result 14 = .ok (.getfield 137, 3) := by decide +kernel
theorem dd_X_result_17 : decode cb_X_result 17 = .ok (.goto 4, 3) := by decide +kernel
theorem dd_X_result_20 : decode cb_X_result 20 = .ok (.lconst 0, 1) := by decide +kernel
theorem dd_X_result_21 : decode cb_X_result 21 = .ok (.lreturn, 1) := by decide +kernel
theorem dd_X_finished_0 : decode cb_X_finished 0 = .ok (.aload_n 0, 1) := by decide +kernel
theorem dd_X_finished_1 : decode cb_X_finished 1 = .ok (.iload_n 1, 1) := by decide +kernel
theorem dd_X_finished_2 : decode cb_X_finished 2 = .ok (.invokevirtual 68, 3) := by decide +kernel
theorem dd_X_finished_5 : decode cb_X_finished 5 = .ok (.ifCond .eq 15, 3) := by decide +kernel
theorem dd_X_finished_8 : decode cb_X_finished 8 = .ok (.aload_n 0, 1) := by decide +kernel
theorem dd_X_finished_9 : decode cb_X_finished 9 = .ok (.getfield 31, 3) := by decide +kernel
theorem dd_X_finished_12 : decode cb_X_finished 12 = .ok (.iload_n 1, 1) := by decide +kernel
theorem dd_X_finished_13 : decode cb_X_finished 13 = .ok (.aaload, 1) := by decide +kernel
theorem dd_X_finished_14 : decode cb_X_finished 14 = .ok (.getfield 140, 3) := by decide +kernel
theorem dd_X_finished_17 : decode cb_X_finished 17 = .ok (.goto 4, 3) := by decide +kernel
end
section
theorem dd_X_finished_20 : decode cb_X_finished 20 = .ok (.iconst (-1), 1) := by decide +kernel
theorem dd_X_finished_21 : decode cb_X_finished 21 = .ok (.ireturn, 1) := by decide +kernel
theorem dd_X_held_0 : decode cb_X_held 0 = .ok (.aload_n 0, 1) := by decide +kernel
theorem dd_X_held_1 : decode cb_X_held 1 = .ok (.iload_n 1, 1) := by decide +kernel
theorem dd_X_held_2 : decode cb_X_held 2 = .ok (.invokevirtual 85, 3) := by decide +kernel
theorem dd_X_held_5 : decode cb_X_held 5 = .ok (.ifCond .eq 15, 3) := by decide +kernel
theorem dd_X_held_8 : decode cb_X_held 8 = .ok (.aload_n 0, 1) := by decide +kernel
theorem dd_X_held_9 : decode cb_X_held 9 = .ok (.getfield 40, 3) := by decide +kernel
theorem dd_X_held_12 : decode cb_X_held 12 = .ok (.iload_n 1, 1) := by decide +kernel
theorem dd_X_held_13 : decode cb_X_held 13 = .ok (.aaload, 1) := by decide +kernel
theorem dd_X_held_14 : decode cb_X_held 14 = .ok (.getfield 143, 3) := by decide +kernel
theorem dd_X_held_17 : decode cb_X_held 17 = .ok (.goto 4, 3) := by decide +kernel
theorem dd_X_held_20 : decode cb_X_held 20 = .ok (.iconst (-1), 1) := by decide +kernel
theorem dd_X_held_21 : decode cb_X_held 21 = .ok (.ireturn, 1) := by decide +kernel
theorem dd_X_heldTag_0 : decode cb_X_heldTag 0 = .ok (.aload_n 0, 1) := by decide +kernel
theorem dd_X_heldTag_1 : decode cb_X_heldTag 1 = .ok (.iload_n 1, 1) := by decide +kernel
theorem dd_X_heldTag_2 : decode cb_X_heldTag 2 = .ok (.invokevirtual 85, 3) := by decide +kernel
theorem dd_X_heldTag_5 : decode cb_X_heldTag 5 = .ok (.ifCond .eq 20, 3) := by decide +kernel
theorem dd_X_heldTag_8 : decode cb_X_heldTag 8 = .ok (.iload_n 2, 1) := by decide +kernel
theorem dd_X_heldTag_9 : decode cb_X_heldTag 9 = .ok (.ifCond .lt 16, 3) := by decide +kernel
theorem dd_X_heldTag_12 : decode cb_X_heldTag 12 = .ok (.iload_n 2, 1) := by decide +kernel
theorem dd_X_heldTag_13 : decode cb_X_heldTag 13 = .ok (.aload_n 0, 1) := by decide +kernel
theorem dd_X_heldTag_14 : decode cb_X_heldTag 14 = .ok (.getfield 40, 3) := by decide +kernel
theorem dd_X_heldTag_17 : decode cb_X_heldTag 17 = .ok (.iload_n 1, 1) := by decide +kernel
theorem dd_X_heldTag_18 : decode cb_X_heldTag 18 = .ok (.aaload, 1) := by decide +kernel
theorem dd_X_heldTag_19 : decode cb_X_heldTag 19 = .ok (.getfield 143, 3) := by decide +kernel
theorem dd_X_heldTag_22 : decode cb_X_heldTag 22 = .ok (.if_icmp .lt 5, 3) := by decide +kernel
theorem dd_X_heldTag_25 : decode cb_X_heldTag 25 = .ok (.iconst (-1), 1) := by decide +kernel
theorem dd_X_heldTag_26 : decode cb_X_heldTag 26 = .ok (.ireturn, 1) := by decide +kernel
theorem dd_X_heldTag_27 : decode cb_X_heldTag 27 = .ok (.aload_n 0, 1) := by decide +kernel
theorem dd_X_heldTag_28 : decode cb_X_heldTag 28 = .ok (.getfield 40, 3) := by decide +kernel
theorem dd_X_heldTag_31 : decode cb_X_heldTag 31 = .ok (.iload_n 1, 1) := by decide +kernel
theorem dd_X_heldTag_32 : decode cb_X_heldTag 32 = .ok (.aaload, 1) := by decide +kernel
theorem dd_X_heldTag_33 : decode cb_X_heldTag 33 = .ok (.getfield 146, 3) := by decide +kernel
theorem dd_X_heldTag_36 : decode cb_X_heldTag 36 = .ok (.iload_n 2, 1) := by decide +kernel
theorem dd_X_heldTag_37 : decode cb_X_heldTag 37 = .ok (.iaload, 1) := by decide +kernel
theorem dd_X_heldTag_38 : decode cb_X_heldTag 38 = .ok (.ireturn, 1) := by decide +kernel
theorem dd_X_fragment_0 : decode cb_X_fragment 0 = .ok (.aload_n 0, 1) := by decide +kernel
theorem dd_X_fragment_1 : decode cb_X_fragment 1 = .ok (.iload_n 1, 1) := by decide +kernel
theorem dd_X_fragment_2 : decode cb_X_fragment 2 = .ok (.invokevirtual 85, 3) := by decide +kernel
theorem dd_X_fragment_5 : decode cb_X_fragment 5 = .ok (.ifCond .eq 18, 3) := by decide +kernel
theorem dd_X_fragment_8 : decode cb_X_fragment 8 = .ok (.iload_n 3, 1) := by decide +kernel
theorem dd_X_fragment_9 : decode cb_X_fragment 9 = .ok (.ifCond .lt 14, 3) := by decide +kernel
theorem dd_X_fragment_12 : decode cb_X_fragment 12 = .ok (.iload_n 3, 1) := by decide +kernel
theorem dd_X_fragment_13 : decode cb_X_fragment 13 = .ok (.aload_n 0, 1) := by decide +kernel
theorem dd_X_fragment_14 : decode cb_X_fragment 14 = .ok (.getfield 25, 3) := by decide +kernel
theorem dd_X_fragment_17 : decode cb_X_fragment 17 = .ok (.getfield 150, 3) := by decide +kernel
theorem dd_X_fragment_20 : decode cb_X_fragment 20 = .ok (.if_icmp .lt 5, 3) := by decide +kernel
theorem dd_X_fragment_23 : decode cb_X_fragment 23 = .ok (.iconst (-1), 1) := by decide +kernel
theorem dd_X_fragment_24 : decode cb_X_fragment 24 = .ok (.ireturn, 1) := by decide +kernel
theorem dd_X_fragment_25 : decode cb_X_fragment 25 = .ok (.aload_n 0, 1) := by decide +kernel
theorem dd_X_fragment_26 : decode cb_X_fragment 26 = .ok (.getfield 40, 3) := by decide +kernel
theorem dd_X_fragment_29 : decode cb_X_fragment 29 = .ok (.iload_n 1, 1) := by decide +kernel
theorem dd_X_fragment_30 : decode cb_X_fragment 30 = .ok (.aaload, 1) := by decide +kernel
theorem dd_X_fragment_31 : decode cb_X_fragment 31 = .ok (.iload_n 2, 1) := by decide +kernel
theorem dd_X_fragment_32 : decode cb_X_fragment 32 = .ok (.invokevirtual 153, 3) := by decide +kernel
theorem dd_X_fragment_35 : decode cb_X_fragment 35 = .ok (.istore 4, 2) := by decide +kernel
theorem dd_X_fragment_37 : decode cb_X_fragment 37 = .ok (.iload 4, 2) := by decide +kernel
theorem dd_X_fragment_39 : decode cb_X_fragment 39 = .ok (.ifCond .ge 7, 3) := by decide +kernel
theorem dd_X_fragment_42 : decode cb_X_fragment 42 = .ok (.iconst (-1), 1) := by decide +kernel
theorem dd_X_fragment_43 : decode cb_X_fragment 43 = .ok (.goto 19, 3) := by decide +kernel
theorem dd_X_fragment_46 : decode cb_X_fragment 46 = .ok (.aload_n 0, 1) := by decide +kernel
theorem dd_X_fragment_47 : decode cb_X_fragment 47 = .ok (.getfield 40, 3) := by decide +kernel
theorem dd_X_fragment_50 : decode cb_X_fragment 50 = .ok (.iload_n 1, 1) := by decide +kernel
theorem dd_X_fragment_51 : decode cb_X_fragment 51 = .ok (.aaload, 1) := by decide +kernel
theorem dd_X_fragment_52 : decode cb_X_fragment 52 = .ok (.getfield 156, 3) := by decide +kernel
theorem dd_X_fragment_55 : decode cb_X_fragment 55 = .ok (.iload 4, 2) := by decide +kernel
theorem dd_X_fragment_57 : decode cb_X_fragment 57 = .ok (.laload, 1) := by decide +kernel
theorem dd_X_fragment_58 : decode cb_X_fragment 58 = .ok (.iload_n 3, 1) := by decide +kernel
theorem dd_X_fragment_59 : decode cb_X_fragment 59 = .ok (.invokestatic 160, 3) := by decide +kernel
theorem dd_X_fragment_62 : decode cb_X_fragment 62 = .ok (.ireturn, 1) := by decide +kernel
theorem dd_X_seal_0 : decode cb_X_seal 0 = .ok (.aload_n 0, 1) := by decide +kernel
theorem dd_X_seal_1 : decode cb_X_seal 1 = .ok (.iload_n 1, 1) := by decide +kernel
theorem dd_X_seal_2 : decode cb_X_seal 2 = .ok (.invokevirtual 85, 3) := by decide +kernel
theorem dd_X_seal_5 : decode cb_X_seal 5 = .ok (.ifCond .eq 15, 3) := by decide +kernel
theorem dd_X_seal_8 : decode cb_X_seal 8 = .ok (.aload_n 0, 1) := by decide +kernel
theorem dd_X_seal_9 : decode cb_X_seal 9 = .ok (.getfield 40, 3) := by decide +kernel
theorem dd_X_seal_12 : decode cb_X_seal 12 = .ok (.iload_n 1, 1) := by decide +kernel
theorem dd_X_seal_13 : decode cb_X_seal 13 = .ok (.aaload, 1) := by decide +kernel
theorem dd_X_seal_14 : decode cb_X_seal 14 = .ok (.getfield 164, 3) := by decide +kernel
theorem dd_X_seal_17 : decode cb_X_seal 17 = .ok (.goto 4, 3) := by decide +kernel
theorem dd_X_seal_20 : decode cb_X_seal 20 = .ok (.iconst (-1), 1) := by decide +kernel
theorem dd_X_seal_21 : decode cb_X_seal 21 = .ok (.ireturn, 1) := by decide +kernel
theorem dd_X_requests_0 : decode cb_X_requests 0 = .ok (.aload_n 0, 1) := by decide +kernel
theorem dd_X_requests_1 : decode cb_X_requests 1 = .ok (.iload_n 1, 1) := by decide +kernel
theorem dd_X_requests_2 : decode cb_X_requests 2 = .ok (.invokevirtual 68, 3) := by decide +kernel
theorem dd_X_requests_5 : decode cb_X_requests 5 = .ok (.ifCond .eq 28, 3) := by decide +kernel
theorem dd_X_requests_8 : decode cb_X_requests 8 = .ok (.aload_n 0, 1) := by decide +kernel
theorem dd_X_requests_9 : decode cb_X_requests 9 = .ok (.iload_n 2, 1) := by decide +kernel
theorem dd_X_requests_10 : decode cb_X_requests 10 = .ok (.invokevirtual 85, 3) := by decide +kernel
theorem dd_X_requests_13 : decode cb_X_requests 13 = .ok (.ifCond .eq 20, 3) := by decide +kernel
theorem dd_X_requests_16 : decode cb_X_requests 16 = .ok (.aload_n 0, 1) := by decide +kernel
theorem dd_X_requests_17 : decode cb_X_requests 17 = .ok (.getfield 49, 3) := by decide +kernel
theorem dd_X_requests_20 : decode cb_X_requests 20 = .ok (.aload_n 0, 1) := by decide +kernel
theorem dd_X_requests_21 : decode cb_X_requests 21 = .ok (.iload_n 1, 1) := by decide +kernel
theorem dd_X_requests_22 : decode cb_X_requests 22 = .ok (.iload_n 2, 1) := by decide +kernel
theorem dd_X_requests_23 : decode cb_X_requests 23 = .ok (.invokevirtual 88, 3) := by decide +kernel
theorem dd_X_requests_26 : decode cb_X_requests 26 = .ok (.aaload, 1) := by decide +kernel
theorem dd_X_requests_27 : decode cb_X_requests 27 = .ok (.getfield 167, 3) := by decide +kernel
theorem dd_X_requests_30 : decode cb_X_requests 30 = .ok (.goto 4, 3) := by decide +kernel
theorem dd_X_requests_33 : decode cb_X_requests 33 = .ok (.iconst (-1), 1) := by decide +kernel
theorem dd_X_requests_34 : decode cb_X_requests 34 = .ok (.ireturn, 1) := by decide +kernel
theorem dd_X_replies_0 : decode cb_X_replies 0 = .ok (.aload_n 0, 1) := by decide +kernel
theorem dd_X_replies_1 : decode cb_X_replies 1 = .ok (.iload_n 1, 1) := by decide +kernel
theorem dd_X_replies_2 : decode cb_X_replies 2 = .ok (.invokevirtual 68, 3) := by decide +kernel
theorem dd_X_replies_5 : decode cb_X_replies 5 = .ok (.ifCond .eq 28, 3) := by decide +kernel
theorem dd_X_replies_8 : decode cb_X_replies 8 = .ok (.aload_n 0, 1) := by decide +kernel
theorem dd_X_replies_9 : decode cb_X_replies 9 = .ok (.iload_n 2, 1) := by decide +kernel
theorem dd_X_replies_10 : decode cb_X_replies 10 = .ok (.invokevirtual 85, 3) := by decide +kernel
theorem dd_X_replies_13 : decode cb_X_replies 13 = .ok (.ifCond .eq 20, 3) := by decide +kernel
theorem dd_X_replies_16 : decode cb_X_replies 16 = .ok (.aload_n 0, 1) := by decide +kernel
theorem dd_X_replies_17 : decode cb_X_replies 17 = .ok (.getfield 53, 3) := by decide +kernel
theorem dd_X_replies_20 : decode cb_X_replies 20 = .ok (.aload_n 0, 1) := by decide +kernel
theorem dd_X_replies_21 : decode cb_X_replies 21 = .ok (.iload_n 1, 1) := by decide +kernel
theorem dd_X_replies_22 : decode cb_X_replies 22 = .ok (.iload_n 2, 1) := by decide +kernel
theorem dd_X_replies_23 : decode cb_X_replies 23 = .ok (.invokevirtual 88, 3) := by decide +kernel
theorem dd_X_replies_26 : decode cb_X_replies 26 = .ok (.aaload, 1) := by decide +kernel
theorem dd_X_replies_27 : decode cb_X_replies 27 = .ok (.getfield 167, 3) := by decide +kernel
theorem dd_X_replies_30 : decode cb_X_replies 30 = .ok (.goto 4, 3) := by decide +kernel
theorem dd_X_replies_33 : decode cb_X_replies 33 = .ok (.iconst (-1), 1) := by decide +kernel
theorem dd_X_replies_34 : decode cb_X_replies 34 = .ok (.ireturn, 1) := by decide +kernel
theorem dd_X_quorum_0 : decode cb_X_quorum 0 = .ok (.aload_n 0, 1) := by decide +kernel
theorem dd_X_quorum_1 : decode cb_X_quorum 1 = .ok (.getfield 17, 3) := by decide +kernel
theorem dd_X_quorum_4 : decode cb_X_quorum 4 = .ok (.ireturn, 1) := by decide +kernel
theorem dd_X_between_0 : decode cb_X_between 0 = .ok (.iload_n 0, 1) := by decide +kernel
theorem dd_X_between_1 : decode cb_X_between 1 = .ok (.iload_n 1, 1) := by decide +kernel
theorem dd_X_between_2 : decode cb_X_between 2 = .ok (.iload_n 2, 1) := by decide +kernel
theorem dd_X_between_3 : decode cb_X_between 3 = .ok (.invokestatic 170, 3) := by decide +kernel
theorem dd_X_between_6 : decode cb_X_between 6 = .ok (.invokestatic 175, 3) := by decide +kernel
theorem dd_X_between_9 : decode cb_X_between 9 = .ok (.ireturn, 1) := by decide +kernel
theorem dd_X_emptyRows_0 : decode cb_X_emptyRows 0 = .ok (.iload_n 0, 1) := by decide +kernel
theorem dd_X_emptyRows_1 : decode cb_X_emptyRows 1 = .ok (.anewarray 93, 3) := by decide +kernel
theorem dd_X_emptyRows_4 : decode cb_X_emptyRows 4 = .ok (.astore_n 1, 1) := by decide +kernel
theorem dd_X_emptyRows_5 : decode cb_X_emptyRows 5 = .ok (.iconst 0, 1) := by decide +kernel
theorem dd_X_emptyRows_6 : decode cb_X_emptyRows 6 = .ok (.istore_n 2, 1) := by decide +kernel
theorem dd_X_emptyRows_7 : decode cb_X_emptyRows 7 = .ok (.iload_n 2, 1) := by decide +kernel
theorem dd_X_emptyRows_8 : decode cb_X_emptyRows 8 = .ok (.iload_n 0, 1) := by decide +kernel
theorem dd_X_emptyRows_9 : decode cb_X_emptyRows 9 = .ok (.if_icmp .ge 19, 3) := by decide +kernel
theorem dd_X_emptyRows_12 : decode cb_X_emptyRows 12 = .ok (.aload_n 1, 1) := by decide +kernel
theorem dd_X_emptyRows_13 : decode cb_X_emptyRows 13 = .ok (.iload_n 2, 1) := by decide +kernel
theorem dd_X_emptyRows_14 : decode cb_X_emptyRows 14 = .ok (.new 93, 3) := by decide +kernel
theorem dd_X_emptyRows_17 : decode cb_X_emptyRows 17 = .ok (.dup, 1) := by decide +kernel
theorem dd_X_emptyRows_18 : decode cb_X_emptyRows 18 = .ok (.invokespecial 178, 3) := by decide +kernel
theorem dd_X_emptyRows_21 : decode cb_X_emptyRows 21 = .ok (.aastore, 1) := by decide +kernel
theorem dd_X_emptyRows_22 : decode cb_X_emptyRows 22 = .ok (.iinc 2 1, 3) := by decide +kernel
theorem dd_X_emptyRows_25 : decode cb_X_emptyRows 25 = .ok (.goto (-18), 3) := by decide +kernel
theorem dd_X_emptyRows_28 : decode cb_X_emptyRows 28 = .ok (.aload_n 1, 1) := by decide +kernel
theorem dd_X_emptyRows_29 : decode cb_X_emptyRows 29 = .ok (.areturn, 1) := by decide +kernel
theorem dd_X_isClient_0 : decode cb_X_isClient 0 = .ok (.iload_n 1, 1) := by decide +kernel
theorem dd_X_isClient_1 : decode cb_X_isClient 1 = .ok (.ifCond .lt 12, 3) := by decide +kernel
theorem dd_X_isClient_4 : decode cb_X_isClient 4 = .ok (.iload_n 1, 1) := by decide +kernel
theorem dd_X_isClient_5 : decode cb_X_isClient 5 = .ok (.iconst 5, 1) := by decide +kernel
theorem dd_X_isClient_6 : decode cb_X_isClient 6 = .ok (.if_icmp .ge 7, 3) := by decide +kernel
theorem dd_X_isClient_9 : decode cb_X_isClient 9 = .ok (.iconst 1, 1) := by decide +kernel
theorem dd_X_isClient_10 : decode cb_X_isClient 10 = .ok (.goto 4, 3) := by decide +kernel
theorem dd_X_isClient_13 : decode cb_X_isClient 13 = .ok (.iconst 0, 1) := by decide +kernel
theorem dd_X_isClient_14 : decode cb_X_isClient 14 = .ok (.ireturn, 1) := by decide +kernel
theorem dd_X_isServer_0 : decode cb_X_isServer 0 = .ok (.iload_n 1, 1) := by decide +kernel
theorem dd_X_isServer_1 : decode cb_X_isServer 1 = .ok (.ifCond .lt 16, 3) := by decide +kernel
theorem dd_X_isServer_4 : decode cb_X_isServer 4 = .ok (.iload_n 1, 1) := by decide +kernel
theorem dd_X_isServer_5 : decode cb_X_isServer 5 = .ok (.aload_n 0, 1) := by decide +kernel
theorem dd_X_isServer_6 : decode cb_X_isServer 6 = .ok (.getfield 40, 3) := by decide +kernel
theorem dd_X_isServer_9 : decode cb_X_isServer 9 = .ok (.arraylength, 1) := by decide +kernel
theorem dd_X_isServer_10 : decode cb_X_isServer 10 = .ok (.if_icmp .ge 7, 3) := by decide +kernel
theorem dd_X_isServer_13 : decode cb_X_isServer 13 = .ok (.iconst 1, 1) := by decide +kernel
theorem dd_X_isServer_14 : decode cb_X_isServer 14 = .ok (.goto 4, 3) := by decide +kernel
theorem dd_X_isServer_17 : decode cb_X_isServer 17 = .ok (.iconst 0, 1) := by decide +kernel
theorem dd_X_isServer_18 : decode cb_X_isServer 18 = .ok (.ireturn, 1) := by decide +kernel
theorem dd_X_rowOf_0 : decode cb_X_rowOf 0 = .ok (.iload_n 1, 1) := by decide +kernel
theorem dd_X_rowOf_1 : decode cb_X_rowOf 1 = .ok (.aload_n 0, 1) := by decide +kernel
theorem dd_X_rowOf_2 : decode cb_X_rowOf 2 = .ok (.getfield 40, 3) := by decide +kernel
theorem dd_X_rowOf_5 : decode cb_X_rowOf 5 = .ok (.arraylength, 1) := by decide +kernel
theorem dd_X_rowOf_6 : decode cb_X_rowOf 6 = .ok (.imul, 1) := by decide +kernel
theorem dd_X_rowOf_7 : decode cb_X_rowOf 7 = .ok (.iload_n 2, 1) := by decide +kernel
theorem dd_X_rowOf_8 : decode cb_X_rowOf 8 = .ok (.iadd, 1) := by decide +kernel
theorem dd_X_rowOf_9 : decode cb_X_rowOf 9 = .ok (.ireturn, 1) := by decide +kernel
theorem dd_X_refusalToBegin_0 : decode cb_X_refusalToBegin 0 = .ok (.aload_n 0, 1) := by decide +kernel
theorem dd_X_refusalToBegin_1 : decode cb_X_refusalToBegin 1 = .ok (.iload_n 1, 1) := by decide +kernel
theorem dd_X_refusalToBegin_2 : decode cb_X_refusalToBegin 2 = .ok (.invokevirtual 68, 3) := by decide +kernel
theorem dd_X_refusalToBegin_5 : decode cb_X_refusalToBegin 5 = .ok (.ifCond .ne 5, 3) := by decide +kernel
theorem dd_X_refusalToBegin_8 : decode cb_X_refusalToBegin 8 = .ok (.iconst (-1), 1) := by decide +kernel
theorem dd_X_refusalToBegin_9 : decode cb_X_refusalToBegin 9 = .ok (.ireturn, 1) := by decide +kernel
theorem dd_X_refusalToBegin_10 : decode cb_X_refusalToBegin 10 = .ok (.aload_n 0, 1) := by decide +kernel
theorem dd_X_refusalToBegin_11 : decode cb_X_refusalToBegin 11 = .ok (.getfield 31, 3) := by decide +kernel
theorem dd_X_refusalToBegin_14 : decode cb_X_refusalToBegin 14 = .ok (.iload_n 1, 1) := by decide +kernel
theorem dd_X_refusalToBegin_15 : decode cb_X_refusalToBegin 15 = .ok (.aaload, 1) := by decide +kernel
theorem dd_X_refusalToBegin_16 : decode cb_X_refusalToBegin 16 = .ok (.getfield 72, 3) := by decide +kernel
theorem dd_X_refusalToBegin_19 : decode cb_X_refusalToBegin 19 = .ok (.ifCond .eq 6, 3) := by decide +kernel
theorem dd_X_refusalToBegin_22 : decode cb_X_refusalToBegin 22 = .ok (.bipush (-2), 2) := by decide +kernel
theorem dd_X_refusalToBegin_24 : decode cb_X_refusalToBegin 24 = .ok (.ireturn, 1) := by decide +kernel
theorem dd_X_refusalToBegin_25 : decode cb_X_refusalToBegin 25 = .ok (.aload_n 0, 1) := by decide +kernel
theorem dd_X_refusalToBegin_26 : decode cb_X_refusalToBegin 26 = .ok (.getfield 31, 3) := by decide +kernel
theorem dd_X_refusalToBegin_29 : decode cb_X_refusalToBegin 29 = .ok (.iload_n 1, 1) := by decide +kernel
theorem dd_X_refusalToBegin_30 : decode cb_X_refusalToBegin 30 = .ok (.aaload, 1) := by decide +kernel
theorem dd_X_refusalToBegin_31 : decode cb_X_refusalToBegin 31 = .ok (.invokevirtual 130, 3) := by decide +kernel
theorem dd_X_refusalToBegin_34 : decode cb_X_refusalToBegin 34 = .ok (.ifCond .eq 6, 3) := by decide +kernel
theorem dd_X_refusalToBegin_37 : decode cb_X_refusalToBegin 37 = .ok (.bipush (-3), 2) := by decide +kernel
theorem dd_X_refusalToBegin_39 : decode cb_X_refusalToBegin 39 = .ok (.ireturn, 1) := by decide +kernel
theorem dd_X_refusalToBegin_40 : decode cb_X_refusalToBegin 40 = .ok (.aload_n 0, 1) := by decide +kernel
theorem dd_X_refusalToBegin_41 : decode cb_X_refusalToBegin 41 = .ok (.iload_n 1, 1) := by decide +kernel
theorem dd_X_refusalToBegin_42 : decode cb_X_refusalToBegin 42 = .ok (.invokevirtual 82, 3) := by decide +kernel
theorem dd_X_refusalToBegin_45 : decode cb_X_refusalToBegin 45 = .ok (.ifCond .eq 8, 3) := by decide +kernel
theorem dd_X_refusalToBegin_48 : decode cb_X_refusalToBegin 48 = .ok (.bipush (-4), 2) := by decide +kernel
theorem dd_X_refusalToBegin_50 : decode cb_X_refusalToBegin 50 = .ok (.goto 4, 3) := by decide +kernel
theorem dd_X_refusalToBegin_53 : decode cb_X_refusalToBegin 53 = .ok (.iconst 0, 1) := by decide +kernel
theorem dd_X_refusalToBegin_54 : decode cb_X_refusalToBegin 54 = .ok (.ireturn, 1) := by decide +kernel
theorem dd_X_isCrowded_0 : decode cb_X_isCrowded 0 = .ok (.iconst 0, 1) := by decide +kernel
theorem dd_X_isCrowded_1 : decode cb_X_isCrowded 1 = .ok (.istore_n 2, 1) := by decide +kernel
theorem dd_X_isCrowded_2 : decode cb_X_isCrowded 2 = .ok (.iload_n 2, 1) := by decide +kernel
theorem dd_X_isCrowded_3 : decode cb_X_isCrowded 3 = .ok (.aload_n 0, 1) := by decide +kernel
theorem dd_X_isCrowded_4 : decode cb_X_isCrowded 4 = .ok (.getfield 40, 3) := by decide +kernel
theorem dd_X_isCrowded_7 : decode cb_X_isCrowded 7 = .ok (.arraylength, 1) := by decide +kernel
theorem dd_X_isCrowded_8 : decode cb_X_isCrowded 8 = .ok (.if_icmp .ge 58, 3) := by decide +kernel
theorem dd_X_isCrowded_11 : decode cb_X_isCrowded 11 = .ok (.aload_n 0, 1) := by decide +kernel
theorem dd_X_isCrowded_12 : decode cb_X_isCrowded 12 = .ok (.getfield 49, 3) := by decide +kernel
theorem dd_X_isCrowded_15 : decode cb_X_isCrowded 15 = .ok (.aload_n 0, 1) := by decide +kernel
theorem dd_X_isCrowded_16 : decode cb_X_isCrowded 16 = .ok (.iload_n 1, 1) := by decide +kernel
theorem dd_X_isCrowded_17 : decode cb_X_isCrowded 17 = .ok (.iload_n 2, 1) := by decide +kernel
theorem dd_X_isCrowded_18 : decode cb_X_isCrowded 18 = .ok (.invokevirtual 88, 3) := by decide +kernel
theorem dd_X_isCrowded_21 : decode cb_X_isCrowded 21 = .ok (.aaload, 1) := by decide +kernel
theorem dd_X_isCrowded_22 : decode cb_X_isCrowded 22 = .ok (.getfield 167, 3) := by decide +kernel
theorem dd_X_isCrowded_25 : decode cb_X_isCrowded 25 = .ok (.aload_n 0, 1) := by decide +kernel
theorem dd_X_isCrowded_26 : decode cb_X_isCrowded 26 = .ok (.getfield 53, 3) := by decide +kernel
theorem dd_X_isCrowded_29 : decode cb_X_isCrowded 29 = .ok (.aload_n 0, 1) := by decide +kernel
theorem dd_X_isCrowded_30 : decode cb_X_isCrowded 30 = .ok (.iload_n 1, 1) := by decide +kernel
theorem dd_X_isCrowded_31 : decode cb_X_isCrowded 31 = .ok (.iload_n 2, 1) := by decide +kernel
theorem dd_X_isCrowded_32 : decode cb_X_isCrowded 32 = .ok (.invokevirtual 88, 3) := by decide +kernel
theorem dd_X_isCrowded_35 : decode cb_X_isCrowded 35 = .ok (.aaload, 1) := by decide +kernel
theorem dd_X_isCrowded_36 : decode cb_X_isCrowded 36 = .ok (.getfield 167, 3) := by decide +kernel
theorem dd_X_isCrowded_39 : decode cb_X_isCrowded 39 = .ok (.iadd, 1) := by decide +kernel
theorem dd_X_isCrowded_40 : decode cb_X_isCrowded 40 = .ok (.istore_n 3, 1) := by decide +kernel
theorem dd_X_isCrowded_41 : decode cb_X_isCrowded 41 = .ok (.aload_n 0, 1) := by decide +kernel
theorem dd_X_isCrowded_42 : decode cb_X_isCrowded 42 = .ok (.getfield 40, 3) := by decide +kernel
theorem dd_X_isCrowded_45 : decode cb_X_isCrowded 45 = .ok (.iload_n 2, 1) := by decide +kernel
theorem dd_X_isCrowded_46 : decode cb_X_isCrowded 46 = .ok (.aaload, 1) := by decide +kernel
theorem dd_X_isCrowded_47 : decode cb_X_isCrowded 47 = .ok (.getfield 123, 3) := by decide +kernel
theorem dd_X_isCrowded_50 : decode cb_X_isCrowded 50 = .ok (.ifCond .ne 10, 3) := by decide +kernel
theorem dd_X_isCrowded_53 : decode cb_X_isCrowded 53 = .ok (.iload_n 3, 1) := by decide +kernel
theorem dd_X_isCrowded_54 : decode cb_X_isCrowded 54 = .ok (.iconst 4, 1) := by decide +kernel
theorem dd_X_isCrowded_55 : decode cb_X_isCrowded 55 = .ok (.if_icmp .le 5, 3) := by decide +kernel
theorem dd_X_isCrowded_58 : decode cb_X_isCrowded 58 = .ok (.iconst 1, 1) := by decide +kernel
theorem dd_X_isCrowded_59 : decode cb_X_isCrowded 59 = .ok (.ireturn, 1) := by decide +kernel
theorem dd_X_isCrowded_60 : decode cb_X_isCrowded 60 = .ok (.iinc 2 1, 3) := by decide +kernel
theorem dd_X_isCrowded_63 : decode cb_X_isCrowded 63 = .ok (.goto (-61), 3) := by decide +kernel
theorem dd_X_isCrowded_66 : decode cb_X_isCrowded 66 = .ok (.iconst 0, 1) := by decide +kernel
theorem dd_X_isCrowded_67 : decode cb_X_isCrowded 67 = .ok (.ireturn, 1) := by decide +kernel
theorem dd_X_beginPhase_0 : decode cb_X_beginPhase 0 = .ok (.aload_n 1, 1) := by decide +kernel
theorem dd_X_beginPhase_1 : decode cb_X_beginPhase 1 = .ok (.iload_n 2, 1) := by decide +kernel
theorem dd_X_beginPhase_2 : decode cb_X_beginPhase 2 = .ok (.invokevirtual 179, 3) := by decide +kernel
theorem dd_X_beginPhase_5 : decode cb_X_beginPhase 5 = .ok (.iconst 0, 1) := by decide +kernel
theorem dd_X_beginPhase_6 : decode cb_X_beginPhase 6 = .ok (.istore_n 3, 1) := by decide +kernel
theorem dd_X_beginPhase_7 : decode cb_X_beginPhase 7 = .ok (.iload_n 3, 1) := by decide +kernel
theorem dd_X_beginPhase_8 : decode cb_X_beginPhase 8 = .ok (.aload_n 0, 1) := by decide +kernel
theorem dd_X_beginPhase_9 : decode cb_X_beginPhase 9 = .ok (.getfield 40, 3) := by decide +kernel
theorem dd_X_beginPhase_12 : decode cb_X_beginPhase 12 = .ok (.arraylength, 1) := by decide +kernel
theorem dd_X_beginPhase_13 : decode cb_X_beginPhase 13 = .ok (.if_icmp .ge 44, 3) := by decide +kernel
theorem dd_X_beginPhase_16 : decode cb_X_beginPhase 16 = .ok (.aload_n 0, 1) := by decide +kernel
theorem dd_X_beginPhase_17 : decode cb_X_beginPhase 17 = .ok (.getfield 40, 3) := by decide +kernel
theorem dd_X_beginPhase_20 : decode cb_X_beginPhase 20 = .ok (.iload_n 3, 1) := by decide +kernel
theorem dd_X_beginPhase_21 : decode cb_X_beginPhase 21 = .ok (.aaload, 1) := by decide +kernel
theorem dd_X_beginPhase_22 : decode cb_X_beginPhase 22 = .ok (.getfield 123, 3) := by decide +kernel
theorem dd_X_beginPhase_25 : decode cb_X_beginPhase 25 = .ok (.ifCond .ne 26, 3) := by decide +kernel
theorem dd_X_beginPhase_28 : decode cb_X_beginPhase 28 = .ok (.aload_n 0, 1) := by decide +kernel
theorem dd_X_beginPhase_29 : decode cb_X_beginPhase 29 = .ok (.getfield 49, 3) := by decide +kernel
theorem dd_X_beginPhase_32 : decode cb_X_beginPhase 32 = .ok (.aload_n 0, 1) := by decide +kernel
theorem dd_X_beginPhase_33 : decode cb_X_beginPhase 33 = .ok (.aload_n 1, 1) := by decide +kernel
theorem dd_X_beginPhase_34 : decode cb_X_beginPhase 34 = .ok (.getfield 182, 3) := by decide +kernel
theorem dd_X_beginPhase_37 : decode cb_X_beginPhase 37 = .ok (.iload_n 3, 1) := by decide +kernel
theorem dd_X_beginPhase_38 : decode cb_X_beginPhase 38 = .ok (.invokevirtual 88, 3) := by decide +kernel
theorem dd_X_beginPhase_41 : decode cb_X_beginPhase 41 = .ok (.aaload, 1) := by decide +kernel
theorem dd_X_beginPhase_42 : decode cb_X_beginPhase 42 = .ok (.aload_n 0, 1) := by decide +kernel
theorem dd_X_beginPhase_43 : decode cb_X_beginPhase 43 = .ok (.iload_n 3, 1) := by decide +kernel
theorem dd_X_beginPhase_44 : decode cb_X_beginPhase 44 = .ok (.aload_n 1, 1) := by decide +kernel
theorem dd_X_beginPhase_45 : decode cb_X_beginPhase 45 = .ok (.invokevirtual 185, 3) := by decide +kernel
theorem dd_X_beginPhase_48 : decode cb_X_beginPhase 48 = .ok (.invokevirtual 102, 3) := by decide +kernel
theorem dd_X_beginPhase_51 : decode cb_X_beginPhase 51 = .ok (.iinc 3 1, 3) := by decide +kernel
theorem dd_X_beginPhase_54 : decode cb_X_beginPhase 54 = .ok (.goto (-47), 3) := by decide +kernel
theorem dd_X_beginPhase_57 : decode cb_X_beginPhase 57 = .ok (.return_, 1) := by decide +kernel
theorem dd_X_requestTo_0 : decode cb_X_requestTo 0 = .ok (.new 106, 3) := by decide +kernel
theorem dd_X_requestTo_3 : decode cb_X_requestTo 3 = .ok (.dup, 1) := by decide +kernel
theorem dd_X_requestTo_4 : decode cb_X_requestTo 4 = .ok (.aload_n 2, 1) := by decide +kernel
theorem dd_X_requestTo_5 : decode cb_X_requestTo 5 = .ok (.getfield 76, 3) := by decide +kernel
theorem dd_X_requestTo_8 : decode cb_X_requestTo 8 = .ok (.aload_n 2, 1) := by decide +kernel
theorem dd_X_requestTo_9 : decode cb_X_requestTo 9 = .ok (.getfield 189, 3) := by decide +kernel
theorem dd_X_requestTo_12 : decode cb_X_requestTo 12 = .ok (.aload_n 2, 1) := by decide +kernel
theorem dd_X_requestTo_13 : decode cb_X_requestTo 13 = .ok (.getfield 134, 3) := by decide +kernel
theorem dd_X_requestTo_16 : decode cb_X_requestTo 16 = .ok (.invokespecial 192, 3) := by decide +kernel
theorem dd_X_requestTo_19 : decode cb_X_requestTo 19 = .ok (.astore_n 3, 1) := by decide +kernel
theorem dd_X_requestTo_20 : decode cb_X_requestTo 20 = .ok (.aload_n 2, 1) := by decide +kernel
theorem dd_X_requestTo_21 : decode cb_X_requestTo 21 = .ok (.getfield 76, 3) := by decide +kernel
theorem dd_X_requestTo_24 : decode cb_X_requestTo 24 = .ok (.iconst 2, 1) := by decide +kernel
theorem dd_X_requestTo_25 : decode cb_X_requestTo 25 = .ok (.if_icmp .ne 19, 3) := by decide +kernel
theorem dd_X_requestTo_28 : decode cb_X_requestTo 28 = .ok (.aload_n 3, 1) := by decide +kernel
theorem dd_X_requestTo_29 : decode cb_X_requestTo 29 = .ok (.aload_n 0, 1) := by decide +kernel
theorem dd_X_requestTo_30 : decode cb_X_requestTo 30 = .ok (.getfield 25, 3) := by decide +kernel
theorem dd_X_requestTo_33 : decode cb_X_requestTo 33 = .ok (.aload_n 2, 1) := by decide +kernel
theorem dd_X_requestTo_34 : decode cb_X_requestTo 34 = .ok (.getfield 60, 3) := by decide +kernel
theorem dd_X_requestTo_37 : decode cb_X_requestTo 37 = .ok (.iload_n 1, 1) := by decide +kernel
theorem dd_X_requestTo_38 : decode cb_X_requestTo 38 = .ok (.invokevirtual 195, 3) := by decide +kernel
theorem dd_X_requestTo_41 : decode cb_X_requestTo 41 = .ok (.putfield 199, 3) := by decide +kernel
theorem dd_X_requestTo_44 : decode cb_X_requestTo 44 = .ok (.aload_n 3, 1) := by decide +kernel
theorem dd_X_requestTo_45 : decode cb_X_requestTo 45 = .ok (.areturn, 1) := by decide +kernel
theorem dd_X_hasHeardEnough_0 : decode cb_X_hasHeardEnough 0 = .ok (.aload_n 1, 1) := by decide +kernel
theorem dd_X_hasHeardEnough_1 : decode cb_X_hasHeardEnough 1 = .ok (.getfield 79, 3) := by decide +kernel
theorem dd_X_hasHeardEnough_4 : decode cb_X_hasHeardEnough 4 = .ok (.aload_n 0, 1) := by decide +kernel
theorem dd_X_hasHeardEnough_5 : decode cb_X_hasHeardEnough 5 = .ok (.getfield 17, 3) := by decide +kernel
theorem dd_X_hasHeardEnough_8 : decode cb_X_hasHeardEnough 8 = .ok (.if_icmp .lt 22, 3) := by decide +kernel
theorem dd_X_hasHeardEnough_11 : decode cb_X_hasHeardEnough 11 = .ok (.aload_n 1, 1) := by decide +kernel
theorem dd_X_hasHeardEnough_12 : decode cb_X_hasHeardEnough 12 = .ok (.getfield 76, 3) := by decide +kernel
theorem dd_X_hasHeardEnough_15 : decode cb_X_hasHeardEnough 15 = .ok (.iconst 5, 1) := by decide +kernel
theorem dd_X_hasHeardEnough_16 : decode cb_X_hasHeardEnough 16 = .ok (.if_icmp .ne 10, 3) := by decide +kernel
theorem dd_X_hasHeardEnough_19 : decode cb_X_hasHeardEnough 19 = .ok (.aload_n 1, 1) := by decide +kernel
theorem dd_X_hasHeardEnough_20 : decode cb_X_hasHeardEnough 20 = .ok (.invokevirtual 202, 3) := by decide +kernel
theorem dd_X_hasHeardEnough_23 : decode cb_X_hasHeardEnough 23 = .ok (.ifCond .eq 7, 3) := by decide +kernel
theorem dd_X_hasHeardEnough_26 : decode cb_X_hasHeardEnough 26 = .ok (.iconst 1, 1) := by decide +kernel
theorem dd_X_hasHeardEnough_27 : decode cb_X_hasHeardEnough 27 = .ok (.goto 4, 3) := by decide +kernel
theorem dd_X_hasHeardEnough_30 : decode cb_X_hasHeardEnough 30 = .ok (.iconst 0, 1) := by decide +kernel
theorem dd_X_hasHeardEnough_31 : decode cb_X_hasHeardEnough 31 = .ok (.ireturn, 1) := by decide +kernel
theorem dd_X_endPhase_0 : decode cb_X_endPhase 0 = .ok (.aload_n 1, 1) := by decide +kernel
theorem dd_X_endPhase_1 : decode cb_X_endPhase 1 = .ok (.getfield 76, 3) := by decide +kernel
theorem dd_X_endPhase_4 : decode cb_X_endPhase 4 = .ok (.tableswitch 116 1 5 #[36, 67, 116, 75, 91], 36) := by decide +kernel
theorem dd_X_endPhase_40 : decode cb_X_endPhase 40 = .ok (.aload_n 1, 1) := by decide +kernel
theorem dd_X_endPhase_41 : decode cb_X_endPhase 41 = .ok (.getfield 205, 3) := by decide +kernel
theorem dd_X_endPhase_44 : decode cb_X_endPhase 44 = .ok (.bipush 8, 2) := by decide +kernel
theorem dd_X_endPhase_46 : decode cb_X_endPhase 46 = .ok (.idiv, 1) := by decide +kernel
theorem dd_X_endPhase_47 : decode cb_X_endPhase 47 = .ok (.iconst 1, 1) := by decide +kernel
theorem dd_X_endPhase_48 : decode cb_X_endPhase 48 = .ok (.iadd, 1) := by decide +kernel
theorem dd_X_endPhase_49 : decode cb_X_endPhase 49 = .ok (.istore_n 2, 1) := by decide +kernel
theorem dd_X_endPhase_50 : decode cb_X_endPhase 50 = .ok (.aload_n 1, 1) := by decide +kernel
theorem dd_X_endPhase_51 : decode cb_X_endPhase 51 = .ok (.bipush 8, 2) := by decide +kernel
theorem dd_X_endPhase_53 : decode cb_X_endPhase 53 = .ok (.iload_n 2, 1) := by decide +kernel
theorem dd_X_endPhase_54 : decode cb_X_endPhase 54 = .ok (.imul, 1) := by decide +kernel
theorem dd_X_endPhase_55 : decode cb_X_endPhase 55 = .ok (.aload_n 1, 1) := by decide +kernel
theorem dd_X_endPhase_56 : decode cb_X_endPhase 56 = .ok (.getfield 182, 3) := by decide +kernel
theorem dd_X_endPhase_59 : decode cb_X_endPhase 59 = .ok (.iadd, 1) := by decide +kernel
theorem dd_X_endPhase_60 : decode cb_X_endPhase 60 = .ok (.putfield 134, 3) := by decide +kernel
theorem dd_X_endPhase_63 : decode cb_X_endPhase 63 = .ok (.aload_n 0, 1) := by decide +kernel
theorem dd_X_endPhase_64 : decode cb_X_endPhase 64 = .ok (.aload_n 1, 1) := by decide +kernel
theorem dd_X_endPhase_65 : decode cb_X_endPhase 65 = .ok (.iconst 2, 1) := by decide +kernel
theorem dd_X_endPhase_66 : decode cb_X_endPhase 66 = .ok (.invokevirtual 64, 3) := by decide +kernel
theorem dd_X_endPhase_69 : decode cb_X_endPhase 69 = .ok (.iconst 2, 1) := by decide +kernel
theorem dd_X_endPhase_70 : decode cb_X_endPhase 70 = .ok (.ireturn, 1) := by decide +kernel
theorem dd_X_endPhase_71 : decode cb_X_endPhase 71 = .ok (.aload_n 0, 1) := by decide +kernel
theorem dd_X_endPhase_72 : decode cb_X_endPhase 72 = .ok (.aload_n 1, 1) := by decide +kernel
theorem dd_X_endPhase_73 : decode cb_X_endPhase 73 = .ok (.iconst 3, 1) := by decide +kernel
theorem dd_X_endPhase_74 : decode cb_X_endPhase 74 = .ok (.invokevirtual 64, 3) := by decide +kernel
theorem dd_X_endPhase_77 : decode cb_X_endPhase 77 = .ok (.iconst 2, 1) := by decide +kernel
theorem dd_X_endPhase_78 : decode cb_X_endPhase 78 = .ok (.ireturn, 1) := by decide +kernel
theorem dd_X_endPhase_79 : decode cb_X_endPhase 79 = .ok (.aload_n 1, 1) := by decide +kernel
theorem dd_X_endPhase_80 : decode cb_X_endPhase 80 = .ok (.aload_n 1, 1) := by decide +kernel
theorem dd_X_endPhase_81 : decode cb_X_endPhase 81 = .ok (.getfield 205, 3) := by decide +kernel
theorem dd_X_endPhase_84 : decode cb_X_endPhase 84 = .ok (.putfield 134, 3) := by decide +kernel
theorem dd_X_endPhase_87 : decode cb_X_endPhase 87 = .ok (.aload_n 0, 1) := by decide +kernel
theorem dd_X_endPhase_88 : decode cb_X_endPhase 88 = .ok (.aload_n 1, 1) := by decide +kernel
theorem dd_X_endPhase_89 : decode cb_X_endPhase 89 = .ok (.iconst 5, 1) := by decide +kernel
theorem dd_X_endPhase_90 : decode cb_X_endPhase 90 = .ok (.invokevirtual 64, 3) := by decide +kernel
theorem dd_X_endPhase_93 : decode cb_X_endPhase 93 = .ok (.iconst 2, 1) := by decide +kernel
theorem dd_X_endPhase_94 : decode cb_X_endPhase 94 = .ok (.ireturn, 1) := by decide +kernel
theorem dd_X_endPhase_95 : decode cb_X_endPhase 95 = .ok (.aload_n 1, 1) := by decide +kernel
theorem dd_X_endPhase_96 : decode cb_X_endPhase 96 = .ok (.aload_n 0, 1) := by decide +kernel
theorem dd_X_endPhase_97 : decode cb_X_endPhase 97 = .ok (.getfield 25, 3) := by decide +kernel
theorem dd_X_endPhase_100 : decode cb_X_endPhase 100 = .ok (.aload_n 1, 1) := by decide +kernel
theorem dd_X_endPhase_101 : decode cb_X_endPhase 101 = .ok (.getfield 208, 3) := by decide +kernel
theorem dd_X_endPhase_104 : decode cb_X_endPhase 104 = .ok (.aload_n 1, 1) := by decide +kernel
theorem dd_X_endPhase_105 : decode cb_X_endPhase 105 = .ok (.getfield 211, 3) := by decide +kernel
theorem dd_X_endPhase_108 : decode cb_X_endPhase 108 = .ok (.invokevirtual 212, 3) := by decide +kernel
theorem dd_X_endPhase_111 : decode cb_X_endPhase 111 = .ok (.putfield 137, 3) := by decide +kernel
theorem dd_X_endPhase_114 : decode cb_X_endPhase 114 = .ok (.aload_n 1, 1) := by decide +kernel
theorem dd_X_endPhase_115 : decode cb_X_endPhase 115 = .ok (.invokevirtual 216, 3) := by decide +kernel
theorem dd_X_endPhase_118 : decode cb_X_endPhase 118 = .ok (.iconst 3, 1) := by decide +kernel
theorem dd_X_endPhase_119 : decode cb_X_endPhase 119 = .ok (.ireturn, 1) := by decide +kernel
theorem dd_X_endPhase_120 : decode cb_X_endPhase 120 = .ok (.aload_n 1, 1) := by decide +kernel
theorem dd_X_endPhase_121 : decode cb_X_endPhase 121 = .ok (.invokevirtual 216, 3) := by decide +kernel
theorem dd_X_endPhase_124 : decode cb_X_endPhase 124 = .ok (.iconst 3, 1) := by decide +kernel
theorem dd_X_endPhase_125 : decode cb_X_endPhase 125 = .ok (.ireturn, 1) := by decide +kernel
end
section
theorem dd_M_init_0 : decode cb_M_init 0 = .ok (.aload_n 0, 1) := by decide +kernel
theorem dd_M_init_1 : decode cb_M_init 1 = .ok (.invokespecial 1, 3) := by decide +kernel
theorem dd_M_init_4 : decode cb_M_init 4 = .ok (.aload_n 0, 1) := by decide +kernel
theorem dd_M_init_5 : decode cb_M_init 5 = .ok (.iconst 5, 1) := by decide +kernel
theorem dd_M_init_6 : decode cb_M_init 6 = .ok (.newarray .int, 2) := by decide +kernel
theorem dd_M_init_8 : decode cb_M_init 8 = .ok (.putfield 7, 3) := by decide +kernel
theorem dd_M_init_11 : decode cb_M_init 11 = .ok (.aload_n 0, 1) := by decide +kernel
theorem dd_M_init_12 : decode cb_M_init 12 = .ok (.iconst 5, 1) := by decide +kernel
theorem dd_M_init_13 : decode cb_M_init 13 = .ok (.newarray .int, 2) := by decide +kernel
theorem dd_M_init_15 : decode cb_M_init 15 = .ok (.putfield 13, 3) := by decide +kernel
theorem dd_M_init_18 : decode cb_M_init 18 = .ok (.aload_n 0, 1) := by decide +kernel
theorem dd_M_init_19 : decode cb_M_init 19 = .ok (.iconst 5, 1) := by decide +kernel
theorem dd_M_init_20 : decode cb_M_init 20 = .ok (.newarray .int, 2) := by decide +kernel
theorem dd_M_init_22 : decode cb_M_init 22 = .ok (.putfield 16, 3) := by decide +kernel
theorem dd_M_init_25 : decode cb_M_init 25 = .ok (.aload_n 0, 1) := by decide +kernel
theorem dd_M_init_26 : decode cb_M_init 26 = .ok (.iconst 5, 1) := by decide +kernel
theorem dd_M_init_27 : decode cb_M_init 27 = .ok (.newarray .int, 2) := by decide +kernel
theorem dd_M_init_29 : decode cb_M_init 29 = .ok (.putfield 19, 3) := by decide +kernel
theorem dd_M_init_32 : decode cb_M_init 32 = .ok (.aload_n 0, 1) := by decide +kernel
theorem dd_M_init_33 : decode cb_M_init 33 = .ok (.iconst 5, 1) := by decide +kernel
theorem dd_M_init_34 : decode cb_M_init 34 = .ok (.newarray .int, 2) := by decide +kernel
theorem dd_M_init_36 : decode cb_M_init 36 = .ok (.putfield 22, 3) := by decide +kernel
theorem dd_M_init_39 : decode cb_M_init 39 = .ok (.aload_n 0, 1) := by decide +kernel
theorem dd_M_init_40 : decode cb_M_init 40 = .ok (.iconst 5, 1) := by decide +kernel
theorem dd_M_init_41 : decode cb_M_init 41 = .ok (.newarray .int, 2) := by decide +kernel
theorem dd_M_init_43 : decode cb_M_init 43 = .ok (.putfield 25, 3) := by decide +kernel
theorem dd_M_init_46 : decode cb_M_init 46 = .ok (.aload_n 0, 1) := by decide +kernel
theorem dd_M_init_47 : decode cb_M_init 47 = .ok (.iconst 5, 1) := by decide +kernel
theorem dd_M_init_48 : decode cb_M_init 48 = .ok (.newarray .int, 2) := by decide +kernel
theorem dd_M_init_50 : decode cb_M_init 50 = .ok (.putfield 28, 3) := by decide +kernel
theorem dd_M_init_53 : decode cb_M_init 53 = .ok (.aload_n 0, 1) := by decide +kernel
theorem dd_M_init_54 : decode cb_M_init 54 = .ok (.iconst 5, 1) := by decide +kernel
theorem dd_M_init_55 : decode cb_M_init 55 = .ok (.newarray .long, 2) := by decide +kernel
theorem dd_M_init_57 : decode cb_M_init 57 = .ok (.putfield 31, 3) := by decide +kernel
theorem dd_M_init_60 : decode cb_M_init 60 = .ok (.aload_n 0, 1) := by decide +kernel
theorem dd_M_init_61 : decode cb_M_init 61 = .ok (.iconst 5, 1) := by decide +kernel
theorem dd_M_init_62 : decode cb_M_init 62 = .ok (.newarray .long, 2) := by decide +kernel
theorem dd_M_init_64 : decode cb_M_init 64 = .ok (.putfield 35, 3) := by decide +kernel
theorem dd_M_init_67 : decode cb_M_init 67 = .ok (.aload_n 0, 1) := by decide +kernel
theorem dd_M_init_68 : decode cb_M_init 68 = .ok (.iconst 5, 1) := by decide +kernel
theorem dd_M_init_69 : decode cb_M_init 69 = .ok (.newarray .long, 2) := by decide +kernel
theorem dd_M_init_71 : decode cb_M_init 71 = .ok (.putfield 38, 3) := by decide +kernel
theorem dd_M_init_74 : decode cb_M_init 74 = .ok (.aload_n 0, 1) := by decide +kernel
theorem dd_M_init_75 : decode cb_M_init 75 = .ok (.bipush 7, 2) := by decide +kernel
theorem dd_M_init_77 : decode cb_M_init 77 = .ok (.newarray .boolean, 2) := by decide +kernel
theorem dd_M_init_79 : decode cb_M_init 79 = .ok (.putfield 41, 3) := by decide +kernel
theorem dd_M_init_82 : decode cb_M_init 82 = .ok (.aload_n 0, 1) := by decide +kernel
theorem dd_M_init_83 : decode cb_M_init 83 = .ok (.bipush 7, 2) := by decide +kernel
theorem dd_M_init_85 : decode cb_M_init 85 = .ok (.newarray .int, 2) := by decide +kernel
theorem dd_M_init_87 : decode cb_M_init 87 = .ok (.putfield 45, 3) := by decide +kernel
theorem dd_M_init_90 : decode cb_M_init 90 = .ok (.aload_n 0, 1) := by decide +kernel
theorem dd_M_init_91 : decode cb_M_init 91 = .ok (.bipush 7, 2) := by decide +kernel
theorem dd_M_init_93 : decode cb_M_init 93 = .ok (.newarray .int, 2) := by decide +kernel
theorem dd_M_init_95 : decode cb_M_init 95 = .ok (.putfield 48, 3) := by decide +kernel
theorem dd_M_init_98 : decode cb_M_init 98 = .ok (.aload_n 0, 1) := by decide +kernel
theorem dd_M_init_99 : decode cb_M_init 99 = .ok (.bipush 35, 2) := by decide +kernel
theorem dd_M_init_101 : decode cb_M_init 101 = .ok (.newarray .int, 2) := by decide +kernel
theorem dd_M_init_103 : decode cb_M_init 103 = .ok (.putfield 51, 3) := by decide +kernel
theorem dd_M_init_106 : decode cb_M_init 106 = .ok (.aload_n 0, 1) := by decide +kernel
theorem dd_M_init_107 : decode cb_M_init 107 = .ok (.bipush 35, 2) := by decide +kernel
theorem dd_M_init_109 : decode cb_M_init 109 = .ok (.newarray .long, 2) := by decide +kernel
theorem dd_M_init_111 : decode cb_M_init 111 = .ok (.putfield 54, 3) := by decide +kernel
theorem dd_M_init_114 : decode cb_M_init 114 = .ok (.aload_n 0, 1) := by decide +kernel
theorem dd_M_init_115 : decode cb_M_init 115 = .ok (.sipush 256, 3) := by decide +kernel
theorem dd_M_init_118 : decode cb_M_init 118 = .ok (.newarray .boolean, 2) := by decide +kernel
theorem dd_M_init_120 : decode cb_M_init 120 = .ok (.putfield 57, 3) := by decide +kernel
theorem dd_M_init_123 : decode cb_M_init 123 = .ok (.aload_n 0, 1) := by decide +kernel
theorem dd_M_init_124 : decode cb_M_init 124 = .ok (.sipush 256, 3) := by decide +kernel
theorem dd_M_init_127 : decode cb_M_init 127 = .ok (.newarray .boolean, 2) := by decide +kernel
theorem dd_M_init_129 : decode cb_M_init 129 = .ok (.putfield 60, 3) := by decide +kernel
theorem dd_M_init_132 : decode cb_M_init 132 = .ok (.aload_n 0, 1) := by decide +kernel
theorem dd_M_init_133 : decode cb_M_init 133 = .ok (.sipush 256, 3) := by decide +kernel
theorem dd_M_init_136 : decode cb_M_init 136 = .ok (.newarray .int, 2) := by decide +kernel
theorem dd_M_init_138 : decode cb_M_init 138 = .ok (.putfield 63, 3) := by decide +kernel
theorem dd_M_init_141 : decode cb_M_init 141 = .ok (.aload_n 0, 1) := by decide +kernel
theorem dd_M_init_142 : decode cb_M_init 142 = .ok (.sipush 256, 3) := by decide +kernel
theorem dd_M_init_145 : decode cb_M_init 145 = .ok (.newarray .int, 2) := by decide +kernel
theorem dd_M_init_147 : decode cb_M_init 147 = .ok (.putfield 66, 3) := by decide +kernel
theorem dd_M_init_150 : decode cb_M_init 150 = .ok (.aload_n 0, 1) := by decide +kernel
theorem dd_M_init_151 : decode cb_M_init 151 = .ok (.sipush 256, 3) := by decide +kernel
theorem dd_M_init_154 : decode cb_M_init 154 = .ok (.newarray .int, 2) := by decide +kernel
theorem dd_M_init_156 : decode cb_M_init 156 = .ok (.putfield 69, 3) := by decide +kernel
theorem dd_M_init_159 : decode cb_M_init 159 = .ok (.aload_n 0, 1) := by decide +kernel
theorem dd_M_init_160 : decode cb_M_init 160 = .ok (.sipush 256, 3) := by decide +kernel
theorem dd_M_init_163 : decode cb_M_init 163 = .ok (.newarray .int, 2) := by decide +kernel
theorem dd_M_init_165 : decode cb_M_init 165 = .ok (.putfield 72, 3) := by decide +kernel
theorem dd_M_init_168 : decode cb_M_init 168 = .ok (.aload_n 0, 1) := by decide +kernel
theorem dd_M_init_169 : decode cb_M_init 169 = .ok (.sipush 256, 3) := by decide +kernel
theorem dd_M_init_172 : decode cb_M_init 172 = .ok (.newarray .int, 2) := by decide +kernel
theorem dd_M_init_174 : decode cb_M_init 174 = .ok (.putfield 75, 3) := by decide +kernel
theorem dd_M_init_177 : decode cb_M_init 177 = .ok (.aload_n 0, 1) := by decide +kernel
theorem dd_M_init_178 : decode cb_M_init 178 = .ok (.sipush 256, 3) := by decide +kernel
theorem dd_M_init_181 : decode cb_M_init 181 = .ok (.newarray .long, 2) := by decide +kernel
theorem dd_M_init_183 : decode cb_M_init 183 = .ok (.putfield 78, 3) := by decide +kernel
theorem dd_M_init_186 : decode cb_M_init 186 = .ok (.aload_n 0, 1) := by decide +kernel
theorem dd_M_init_187 : decode cb_M_init 187 = .ok (.iload_n 1, 1) := by decide +kernel
theorem dd_M_init_188 : decode cb_M_init 188 = .ok (.iconst 3, 1) := by decide +kernel
theorem dd_M_init_189 : decode cb_M_init 189 = .ok (.if_icmp .ge 7, 3) := by decide +kernel
theorem dd_M_init_192 : decode cb_M_init 192 = .ok (.iconst 3, 1) := by decide +kernel
theorem dd_M_init_193 : decode cb_M_init 193 = .ok (.goto 15, 3) := by decide +kernel
theorem dd_M_init_196 : decode cb_M_init 196 = .ok (.iload_n 1, 1) := by decide +kernel
theorem dd_M_init_197 : decode cb_M_init 197 = .ok (.bipush 7, 2) := by decide +kernel
theorem dd_M_init_199 : decode cb_M_init 199 = .ok (.if_icmp .le 8, 3) := by decide +kernel
theorem dd_M_init_202 : decode cb_M_init 202 = .ok (.bipush 7, 2) := by decide +kernel
theorem dd_M_init_204 : decode cb_M_init 204 = .ok (.goto 4, 3) := by decide +kernel
theorem dd_M_init_207 : decode cb_M_init 207 = .ok (.iload_n 1, 1) := by decide +kernel
theorem dd_M_init_208 : decode cb_M_init 208 = .ok (.putfield 81, 3) := by decide +kernel
theorem dd_M_init_211 : decode cb_M_init 211 = .ok (.aload_n 0, 1) := by decide +kernel
theorem dd_M_init_212 : decode cb_M_init 212 = .ok (.iload_n 2, 1) := by decide +kernel
theorem dd_M_init_213 : decode cb_M_init 213 = .ok (.iconst 1, 1) := by decide +kernel
theorem dd_M_init_214 : decode cb_M_init 214 = .ok (.if_icmp .ge 7, 3) := by decide +kernel
theorem dd_M_init_217 : decode cb_M_init 217 = .ok (.iconst 1, 1) := by decide +kernel
theorem dd_M_init_218 : decode cb_M_init 218 = .ok (.goto 19, 3) := by decide +kernel
theorem dd_M_init_221 : decode cb_M_init 221 = .ok (.iload_n 2, 1) := by decide +kernel
theorem dd_M_init_222 : decode cb_M_init 222 = .ok (.aload_n 0, 1) := by decide +kernel
theorem dd_M_init_223 : decode cb_M_init 223 = .ok (.getfield 81, 3) := by decide +kernel
theorem dd_M_init_226 : decode cb_M_init 226 = .ok (.if_icmp .le 10, 3) := by decide +kernel
theorem dd_M_init_229 : decode cb_M_init 229 = .ok (.aload_n 0, 1) := by decide +kernel
theorem dd_M_init_230 : decode cb_M_init 230 = .ok (.getfield 81, 3) := by decide +kernel
theorem dd_M_init_233 : decode cb_M_init 233 = .ok (.goto 4, 3) := by decide +kernel
theorem dd_M_init_236 : decode cb_M_init 236 = .ok (.iload_n 2, 1) := by decide +kernel
theorem dd_M_init_237 : decode cb_M_init 237 = .ok (.putfield 85, 3) := by decide +kernel
theorem dd_M_init_240 : decode cb_M_init 240 = .ok (.aload_n 0, 1) := by decide +kernel
theorem dd_M_init_241 : decode cb_M_init 241 = .ok (.iload_n 3, 1) := by decide +kernel
theorem dd_M_init_242 : decode cb_M_init 242 = .ok (.ifCond .ge 7, 3) := by decide +kernel
theorem dd_M_init_245 : decode cb_M_init 245 = .ok (.iconst 0, 1) := by decide +kernel
theorem dd_M_init_246 : decode cb_M_init 246 = .ok (.goto 13, 3) := by decide +kernel
theorem dd_M_init_249 : decode cb_M_init 249 = .ok (.iload_n 3, 1) := by decide +kernel
theorem dd_M_init_250 : decode cb_M_init 250 = .ok (.iconst 3, 1) := by decide +kernel
theorem dd_M_init_251 : decode cb_M_init 251 = .ok (.if_icmp .le 7, 3) := by decide +kernel
theorem dd_M_init_254 : decode cb_M_init 254 = .ok (.iconst 3, 1) := by decide +kernel
theorem dd_M_init_255 : decode cb_M_init 255 = .ok (.goto 4, 3) := by decide +kernel
theorem dd_M_init_258 : decode cb_M_init 258 = .ok (.iload_n 3, 1) := by decide +kernel
theorem dd_M_init_259 : decode cb_M_init 259 = .ok (.putfield 88, 3) := by decide +kernel
theorem dd_M_init_262 : decode cb_M_init 262 = .ok (.iconst 0, 1) := by decide +kernel
theorem dd_M_init_263 : decode cb_M_init 263 = .ok (.istore 4, 2) := by decide +kernel
theorem dd_M_init_265 : decode cb_M_init 265 = .ok (.iload 4, 2) := by decide +kernel
theorem dd_M_init_267 : decode cb_M_init 267 = .ok (.aload_n 0, 1) := by decide +kernel
theorem dd_M_init_268 : decode cb_M_init 268 = .ok (.getfield 81, 3) := by decide +kernel
theorem dd_M_init_271 : decode cb_M_init 271 = .ok (.if_icmp .ge 17, 3) := by decide +kernel
theorem dd_M_init_274 : decode cb_M_init 274 = .ok (.aload_n 0, 1) := by decide +kernel
theorem dd_M_init_275 : decode cb_M_init 275 = .ok (.getfield 48, 3) := by decide +kernel
theorem dd_M_init_278 : decode cb_M_init 278 = .ok (.iload 4, 2) := by decide +kernel
theorem dd_M_init_280 : decode cb_M_init 280 = .ok (.iconst 1, 1) := by decide +kernel
theorem dd_M_init_281 : decode cb_M_init 281 = .ok (.iastore, 1) := by decide +kernel
theorem dd_M_init_282 : decode cb_M_init 282 = .ok (.iinc 4 1, 3) := by decide +kernel
theorem dd_M_init_285 : decode cb_M_init 285 = .ok (.goto (-20), 3) := by decide +kernel
theorem dd_M_init_288 : decode cb_M_init 288 = .ok (.return_, 1) := by decide +kernel
theorem dd_M_noClient_0 : decode cb_M_noClient 0 = .ok (.iload_n 1, 1) := by decide +kernel
theorem dd_M_noClient_1 : decode cb_M_noClient 1 = .ok (.ifCond .lt 8, 3) := by decide +kernel
theorem dd_M_noClient_4 : decode cb_M_noClient 4 = .ok (.iload_n 1, 1) := by decide +kernel
theorem dd_M_noClient_5 : decode cb_M_noClient 5 = .ok (.iconst 4, 1) := by decide +kernel
theorem dd_M_noClient_6 : decode cb_M_noClient 6 = .ok (.if_icmp .le 7, 3) := by decide +kernel
theorem dd_M_noClient_9 : decode cb_M_noClient 9 = .ok (.iconst 1, 1) := by decide +kernel
theorem dd_M_noClient_10 : decode cb_M_noClient 10 = .ok (.goto 4, 3) := by decide +kernel
theorem dd_M_noClient_13 : decode cb_M_noClient 13 = .ok (.iconst 0, 1) := by decide +kernel
theorem dd_M_noClient_14 : decode cb_M_noClient 14 = .ok (.ireturn, 1) := by decide +kernel
theorem dd_M_noServer_0 : decode cb_M_noServer 0 = .ok (.iload_n 1, 1) := by decide +kernel
theorem dd_M_noServer_1 : decode cb_M_noServer 1 = .ok (.ifCond .lt 11, 3) := by decide +kernel
theorem dd_M_noServer_4 : decode cb_M_noServer 4 = .ok (.iload_n 1, 1) := by decide +kernel
theorem dd_M_noServer_5 : decode cb_M_noServer 5 = .ok (.aload_n 0, 1) := by decide +kernel
theorem dd_M_noServer_6 : decode cb_M_noServer 6 = .ok (.getfield 81, 3) := by decide +kernel
theorem dd_M_noServer_9 : decode cb_M_noServer 9 = .ok (.if_icmp .lt 7, 3) := by decide +kernel
theorem dd_M_noServer_12 : decode cb_M_noServer 12 = .ok (.iconst 1, 1) := by decide +kernel
theorem dd_M_noServer_13 : decode cb_M_noServer 13 = .ok (.goto 4, 3) := by decide +kernel
theorem dd_M_noServer_16 : decode cb_M_noServer 16 = .ok (.iconst 0, 1) := by decide +kernel
theorem dd_M_noServer_17 : decode cb_M_noServer 17 = .ok (.ireturn, 1) := by decide +kernel
theorem dd_M_quorum_0 : decode cb_M_quorum 0 = .ok (.aload_n 0, 1) := by decide +kernel
theorem dd_M_quorum_1 : decode cb_M_quorum 1 = .ok (.getfield 81, 3) := by decide +kernel
theorem dd_M_quorum_4 : decode cb_M_quorum 4 = .ok (.aload_n 0, 1) := by decide +kernel
theorem dd_M_quorum_5 : decode cb_M_quorum 5 = .ok (.getfield 81, 3) := by decide +kernel
theorem dd_M_quorum_8 : decode cb_M_quorum 8 = .ok (.aload_n 0, 1) := by decide +kernel
theorem dd_M_quorum_9 : decode cb_M_quorum 9 = .ok (.getfield 85, 3) := by decide +kernel
theorem dd_M_quorum_12 : decode cb_M_quorum 12 = .ok (.isub, 1) := by decide +kernel
theorem dd_M_quorum_13 : decode cb_M_quorum 13 = .ok (.iconst 2, 1) := by decide +kernel
theorem dd_M_quorum_14 : decode cb_M_quorum 14 = .ok (.idiv, 1) := by decide +kernel
theorem dd_M_quorum_15 : decode cb_M_quorum 15 = .ok (.isub, 1) := by decide +kernel
theorem dd_M_quorum_16 : decode cb_M_quorum 16 = .ok (.ireturn, 1) := by decide +kernel
theorem dd_M_send_0 : decode cb_M_send 0 = .ok (.aload_n 0, 1) := by decide +kernel
theorem dd_M_send_1 : decode cb_M_send 1 = .ok (.getfield 57, 3) := by decide +kernel
theorem dd_M_send_4 : decode cb_M_send 4 = .ok (.aload_n 0, 1) := by decide +kernel
theorem dd_M_send_5 : decode cb_M_send 5 = .ok (.getfield 91, 3) := by decide +kernel
theorem dd_M_send_8 : decode cb_M_send 8 = .ok (.iload_n 1, 1) := by decide +kernel
theorem dd_M_send_9 : decode cb_M_send 9 = .ok (.bastore, 1) := by decide +kernel
theorem dd_M_send_10 : decode cb_M_send 10 = .ok (.aload_n 0, 1) := by decide +kernel
theorem dd_M_send_11 : decode cb_M_send 11 = .ok (.getfield 63, 3) := by decide +kernel
theorem dd_M_send_14 : decode cb_M_send 14 = .ok (.aload_n 0, 1) := by decide +kernel
theorem dd_M_send_15 : decode cb_M_send 15 = .ok (.getfield 91, 3) := by decide +kernel
theorem dd_M_send_18 : decode cb_M_send 18 = .ok (.iload_n 2, 1) := by decide +kernel
theorem dd_M_send_19 : decode cb_M_send 19 = .ok (.iastore, 1) := by decide +kernel
theorem dd_M_send_20 : decode cb_M_send 20 = .ok (.aload_n 0, 1) := by decide +kernel
theorem dd_M_send_21 : decode cb_M_send 21 = .ok (.getfield 66, 3) := by decide +kernel
theorem dd_M_send_24 : decode cb_M_send 24 = .ok (.aload_n 0, 1) := by decide +kernel
theorem dd_M_send_25 : decode cb_M_send 25 = .ok (.getfield 91, 3) := by decide +kernel
theorem dd_M_send_28 : decode cb_M_send 28 = .ok (.iload_n 3, 1) := by decide +kernel
theorem dd_M_send_29 : decode cb_M_send 29 = .ok (.iastore, 1) := by decide +kernel
theorem dd_M_send_30 : decode cb_M_send 30 = .ok (.aload_n 0, 1) := by decide +kernel
theorem dd_M_send_31 : decode cb_M_send 31 = .ok (.getfield 72, 3) := by decide +kernel
theorem dd_M_send_34 : decode cb_M_send 34 = .ok (.aload_n 0, 1) := by decide +kernel
theorem dd_M_send_35 : decode cb_M_send 35 = .ok (.getfield 91, 3) := by decide +kernel
theorem dd_M_send_38 : decode cb_M_send 38 = .ok (.iload 4, 2) := by decide +kernel
theorem dd_M_send_40 : decode cb_M_send 40 = .ok (.iastore, 1) := by decide +kernel
theorem dd_M_send_41 : decode cb_M_send 41 = .ok (.aload_n 0, 1) := by decide +kernel
theorem dd_M_send_42 : decode cb_M_send 42 = .ok (.getfield 69, 3) := by decide +kernel
theorem dd_M_send_45 : decode cb_M_send 45 = .ok (.aload_n 0, 1) := by decide +kernel
theorem dd_M_send_46 : decode cb_M_send 46 = .ok (.getfield 91, 3) := by decide +kernel
theorem dd_M_send_49 : decode cb_M_send 49 = .ok (.iload 5, 2) := by decide +kernel
theorem dd_M_send_51 : decode cb_M_send 51 = .ok (.iastore, 1) := by decide +kernel
theorem dd_M_send_52 : decode cb_M_send 52 = .ok (.aload_n 0, 1) := by decide +kernel
theorem dd_M_send_53 : decode cb_M_send 53 = .ok (.getfield 60, 3) := by decide +kernel
theorem dd_M_send_56 : decode cb_M_send 56 = .ok (.aload_n 0, 1) := by decide +kernel
theorem dd_M_send_57 : decode cb_M_send 57 = .ok (.getfield 91, 3) := by decide +kernel
theorem dd_M_send_60 : decode cb_M_send 60 = .ok (.iconst 0, 1) := by decide +kernel
theorem dd_M_send_61 : decode cb_M_send 61 = .ok (.bastore, 1) := by decide +kernel
theorem dd_M_send_62 : decode cb_M_send 62 = .ok (.aload_n 0, 1) := by decide +kernel
theorem dd_M_send_63 : decode cb_M_send 63 = .ok (.getfield 75, 3) := by decide +kernel
theorem dd_M_send_66 : decode cb_M_send 66 = .ok (.aload_n 0, 1) := by decide +kernel
theorem dd_M_send_67 : decode cb_M_send 67 = .ok (.getfield 91, 3) := by decide +kernel
theorem dd_M_send_70 : decode cb_M_send 70 = .ok (.aload_n 0, 1) := by decide +kernel
theorem dd_M_send_71 : decode cb_M_send 71 = .ok (.getfield 25, 3) := by decide +kernel
theorem dd_M_send_74 : decode cb_M_send 74 = .ok (.iload_n 2, 1) := by decide +kernel
theorem dd_M_send_75 : decode cb_M_send 75 = .ok (.iaload, 1) := by decide +kernel
theorem dd_M_send_76 : decode cb_M_send 76 = .ok (.iastore, 1) := by decide +kernel
theorem dd_M_send_77 : decode cb_M_send 77 = .ok (.aload_n 0, 1) := by decide +kernel
theorem dd_M_send_78 : decode cb_M_send 78 = .ok (.getfield 78, 3) := by decide +kernel
theorem dd_M_send_81 : decode cb_M_send 81 = .ok (.aload_n 0, 1) := by decide +kernel
theorem dd_M_send_82 : decode cb_M_send 82 = .ok (.getfield 91, 3) := by decide +kernel
theorem dd_M_send_85 : decode cb_M_send 85 = .ok (.aload_n 0, 1) := by decide +kernel
theorem dd_M_send_86 : decode cb_M_send 86 = .ok (.getfield 31, 3) := by decide +kernel
theorem dd_M_send_89 : decode cb_M_send 89 = .ok (.iload_n 2, 1) := by decide +kernel
theorem dd_M_send_90 : decode cb_M_send 90 = .ok (.laload, 1) := by decide +kernel
theorem dd_M_send_91 : decode cb_M_send 91 = .ok (.lastore, 1) := by decide +kernel
theorem dd_M_send_92 : decode cb_M_send 92 = .ok (.aload_n 0, 1) := by decide +kernel
theorem dd_M_send_93 : decode cb_M_send 93 = .ok (.dup, 1) := by decide +kernel
theorem dd_M_send_94 : decode cb_M_send 94 = .ok (.getfield 91, 3) := by decide +kernel
theorem dd_M_send_97 : decode cb_M_send 97 = .ok (.iconst 1, 1) := by decide +kernel
theorem dd_M_send_98 : decode cb_M_send 98 = .ok (.iadd, 1) := by decide +kernel
theorem dd_M_send_99 : decode cb_M_send 99 = .ok (.putfield 91, 3) := by decide +kernel
theorem dd_M_send_102 : decode cb_M_send 102 = .ok (.return_, 1) := by decide +kernel
theorem dd_M_lose_0 : decode cb_M_lose 0 = .ok (.aload_n 0, 1) := by decide +kernel
theorem dd_M_lose_1 : decode cb_M_lose 1 = .ok (.dup, 1) := by decide +kernel
theorem dd_M_lose_2 : decode cb_M_lose 2 = .ok (.getfield 91, 3) := by decide +kernel
theorem dd_M_lose_5 : decode cb_M_lose 5 = .ok (.iconst 1, 1) := by decide +kernel
theorem dd_M_lose_6 : decode cb_M_lose 6 = .ok (.isub, 1) := by decide +kernel
theorem dd_M_lose_7 : decode cb_M_lose 7 = .ok (.putfield 91, 3) := by decide +kernel
theorem dd_M_lose_10 : decode cb_M_lose 10 = .ok (.iload_n 1, 1) := by decide +kernel
theorem dd_M_lose_11 : decode cb_M_lose 11 = .ok (.istore_n 2, 1) := by decide +kernel
theorem dd_M_lose_12 : decode cb_M_lose 12 = .ok (.iload_n 2, 1) := by decide +kernel
theorem dd_M_lose_13 : decode cb_M_lose 13 = .ok (.aload_n 0, 1) := by decide +kernel
theorem dd_M_lose_14 : decode cb_M_lose 14 = .ok (.getfield 91, 3) := by decide +kernel
theorem dd_M_lose_17 : decode cb_M_lose 17 = .ok (.if_icmp .ge 121, 3) := by decide +kernel
theorem dd_M_lose_20 : decode cb_M_lose 20 = .ok (.aload_n 0, 1) := by decide +kernel
theorem dd_M_lose_21 : decode cb_M_lose 21 = .ok (.getfield 57, 3) := by decide +kernel
theorem dd_M_lose_24 : decode cb_M_lose 24 = .ok (.iload_n 2, 1) := by decide +kernel
theorem dd_M_lose_25 : decode cb_M_lose 25 = .ok (.aload_n 0, 1) := by decide +kernel
theorem dd_M_lose_26 : decode cb_M_lose 26 = .ok (.getfield 57, 3) := by decide +kernel
theorem dd_M_lose_29 : decode cb_M_lose 29 = .ok (.iload_n 2, 1) := by decide +kernel
theorem dd_M_lose_30 : decode cb_M_lose 30 = .ok (.iconst 1, 1) := by decide +kernel
theorem dd_M_lose_31 : decode cb_M_lose 31 = .ok (.iadd, 1) := by decide +kernel
theorem dd_M_lose_32 : decode cb_M_lose 32 = .ok (.baload, 1) := by decide +kernel
theorem dd_M_lose_33 : decode cb_M_lose 33 = .ok (.bastore, 1) := by decide +kernel
theorem dd_M_lose_34 : decode cb_M_lose 34 = .ok (.aload_n 0, 1) := by decide +kernel
theorem dd_M_lose_35 : decode cb_M_lose 35 = .ok (.getfield 60, 3) := by decide +kernel
theorem dd_M_lose_38 : decode cb_M_lose 38 = .ok (.iload_n 2, 1) := by decide +kernel
theorem dd_M_lose_39 : decode cb_M_lose 39 = .ok (.aload_n 0, 1) := by decide +kernel
theorem dd_M_lose_40 : decode cb_M_lose 40 = .ok (.getfield 60, 3) := by decide +kernel
theorem dd_M_lose_43 : decode cb_M_lose 43 = .ok (.iload_n 2, 1) := by decide +kernel
theorem dd_M_lose_44 : decode cb_M_lose 44 = .ok (.iconst 1, 1) := by decide +kernel
theorem dd_M_lose_45 : decode cb_M_lose 45 = .ok (.iadd, 1) := by decide +kernel
theorem dd_M_lose_46 : decode cb_M_lose 46 = .ok (.baload, 1) := by decide +kernel
theorem dd_M_lose_47 : decode cb_M_lose 47 = .ok (.bastore, 1) := by decide +kernel
theorem dd_M_lose_48 : decode cb_M_lose 48 = .ok (.aload_n 0, 1) := by decide +kernel
theorem dd_M_lose_49 : decode cb_M_lose 49 = .ok (.getfield 63, 3) := by decide +kernel
theorem dd_M_lose_52 : decode cb_M_lose 52 = .ok (.iload_n 2, 1) := by decide +kernel
theorem dd_M_lose_53 : decode cb_M_lose 53 = .ok (.aload_n 0, 1) := by decide +kernel
theorem dd_M_lose_54 : decode cb_M_lose 54 = .ok (.getfield 63, 3) := by decide +kernel
theorem dd_M_lose_57 : decode cb_M_lose 57 = .ok (.iload_n 2, 1) := by decide +kernel
theorem dd_M_lose_58 : decode cb_M_lose 58 = .ok (.iconst 1, 1) := by decide +kernel
theorem dd_M_lose_59 : decode cb_M_lose 59 = .ok (.iadd, 1) := by decide +kernel
theorem dd_M_lose_60 : decode cb_M_lose 60 = .ok (.iaload, 1) := by decide +kernel
theorem dd_M_lose_61 : decode cb_M_lose 61 = .ok (.iastore, 1) := by decide +kernel
theorem dd_M_lose_62 : decode cb_M_lose 62 = .ok (.aload_n 0, 1) := by decide +kernel
theorem dd_M_lose_63 : decode cb_M_lose 63 = .ok (.getfield 66, 3) := by decide +kernel
theorem dd_M_lose_66 : decode cb_M_lose 66 = .ok (.iload_n 2, 1) := by decide +kernel
theorem dd_M_lose_67 : decode cb_M_lose 67 = .ok (.aload_n 0, 1) := by decide +kernel
theorem dd_M_lose_68 : decode cb_M_lose 68 = .ok (.getfield 66, 3) := by decide +kernel
theorem dd_M_lose_71 : decode cb_M_lose 71 = .ok (.iload_n 2, 1) := by decide +kernel
theorem dd_M_lose_72 : decode cb_M_lose 72 = .ok (.iconst 1, 1) := by decide +kernel
theorem dd_M_lose_73 : decode cb_M_lose 73 = .ok (.iadd, 1) := by decide +kernel
theorem dd_M_lose_74 : decode cb_M_lose 74 = .ok (.iaload, 1) := by decide +kernel
theorem dd_M_lose_75 : decode cb_M_lose 75 = .ok (.iastore, 1) := by decide +kernel
theorem dd_M_lose_76 : decode cb_M_lose 76 = .ok (.aload_n 0, 1) := by decide +kernel
theorem dd_M_lose_77 : decode cb_M_lose 77 = .ok (.getfield 69, 3) := by decide +kernel
theorem dd_M_lose_80 : decode cb_M_lose 80 = .ok (.iload_n 2, 1) := by decide +kernel
theorem dd_M_lose_81 : decode cb_M_lose 81 = .ok (.aload_n 0, 1) := by decide +kernel
theorem dd_M_lose_82 : decode cb_M_lose 82 = .ok (.getfield 69, 3) := by decide +kernel
theorem dd_M_lose_85 : decode cb_M_lose 85 = .ok (.iload_n 2, 1) := by decide +kernel
theorem dd_M_lose_86 : decode cb_M_lose 86 = .ok (.iconst 1, 1) := by decide +kernel
theorem dd_M_lose_87 : decode cb_M_lose 87 = .ok (.iadd, 1) := by decide +kernel
theorem dd_M_lose_88 : decode cb_M_lose 88 = .ok (.iaload, 1) := by decide +kernel
theorem dd_M_lose_89 : decode cb_M_lose 89 = .ok (.iastore, 1) := by decide +kernel
theorem dd_M_lose_90 : decode cb_M_lose 90 = .ok (.aload_n 0, 1) := by decide +kernel
theorem dd_M_lose_91 : decode cb_M_lose 91 = .ok (.getfield 72, 3) := by decide +kernel
theorem dd_M_lose_94 : decode cb_M_lose 94 = .ok (.iload_n 2, 1) := by decide +kernel
theorem dd_M_lose_95 : decode cb_M_lose 95 = .ok (.aload_n 0, 1) := by decide +kernel
theorem dd_M_lose_96 : decode cb_M_lose 96 = .ok (.getfield 72, 3) := by decide +kernel
theorem dd_M_lose_99 : decode cb_M_lose 99 = .ok (.iload_n 2, 1) := by decide +kernel
theorem dd_M_lose_100 : decode cb_M_lose 100 = .ok (.iconst 1, 1) := by decide +kernel
theorem dd_M_lose_101 : decode cb_M_lose 101 = .ok (.iadd, 1) := by decide +kernel
theorem dd_M_lose_102 : decode cb_M_lose 102 = .ok (.iaload, 1) := by decide +kernel
theorem dd_M_lose_103 : decode cb_M_lose 103 = .ok (.iastore, 1) := by decide +kernel
theorem dd_M_lose_104 : decode cb_M_lose 104 = .ok (.aload_n 0, 1) := by decide +kernel
theorem dd_M_lose_105 : decode cb_M_lose 105 = .ok (.getfield 75, 3) := by decide +kernel
theorem dd_M_lose_108 : decode cb_M_lose 108 = .ok (.iload_n 2, 1) := by decide +kernel
theorem dd_M_lose_109 : decode cb_M_lose 109 = .ok (.aload_n 0, 1) := by decide +kernel
theorem dd_M_lose_110 : decode cb_M_lose 110 = .ok (.getfield 75, 3) := by decide +kernel
theorem dd_M_lose_113 : decode cb_M_lose 113 = .ok (.iload_n 2, 1) := by decide +kernel
theorem dd_M_lose_114 : decode cb_M_lose 114 = .ok (.iconst 1, 1) := by decide +kernel
theorem dd_M_lose_115 : decode cb_M_lose 115 = .ok (.iadd, 1) := by decide +kernel
theorem dd_M_lose_116 : decode cb_M_lose 116 = .ok (.iaload, 1) := by decide +kernel
theorem dd_M_lose_117 : decode cb_M_lose 117 = .ok (.iastore, 1) := by decide +kernel
theorem dd_M_lose_118 : decode cb_M_lose 118 = .ok (.aload_n 0, 1) := by decide +kernel
theorem dd_M_lose_119 : decode cb_M_lose 119 = .ok (.getfield 78, 3) := by decide +kernel
theorem dd_M_lose_122 : decode cb_M_lose 122 = .ok (.iload_n 2, 1) := by decide +kernel
theorem dd_M_lose_123 : decode cb_M_lose 123 = .ok (.aload_n 0, 1) := by decide +kernel
theorem dd_M_lose_124 : decode cb_M_lose 124 = .ok (.getfield 78, 3) := by decide +kernel
theorem dd_M_lose_127 : decode cb_M_lose 127 = .ok (.iload_n 2, 1) := by decide +kernel
theorem dd_M_lose_128 : decode cb_M_lose 128 = .ok (.iconst 1, 1) := by decide +kernel
theorem dd_M_lose_129 : decode cb_M_lose 129 = .ok (.iadd, 1) := by decide +kernel
theorem dd_M_lose_130 : decode cb_M_lose 130 = .ok (.laload, 1) := by decide +kernel
theorem dd_M_lose_131 : decode cb_M_lose 131 = .ok (.lastore, 1) := by decide +kernel
theorem dd_M_lose_132 : decode cb_M_lose 132 = .ok (.iinc 2 1, 3) := by decide +kernel
theorem dd_M_lose_135 : decode cb_M_lose 135 = .ok (.goto (-123), 3) := by decide +kernel
theorem dd_M_lose_138 : decode cb_M_lose 138 = .ok (.return_, 1) := by decide +kernel
theorem dd_M_count_0 : decode cb_M_count 0 = .ok (.iconst 0, 1) := by decide +kernel
theorem dd_M_count_1 : decode cb_M_count 1 = .ok (.istore 4, 2) := by decide +kernel
theorem dd_M_count_3 : decode cb_M_count 3 = .ok (.iconst 0, 1) := by decide +kernel
theorem dd_M_count_4 : decode cb_M_count 4 = .ok (.istore 5, 2) := by decide +kernel
theorem dd_M_count_6 : decode cb_M_count 6 = .ok (.iload 5, 2) := by decide +kernel
theorem dd_M_count_8 : decode cb_M_count 8 = .ok (.aload_n 0, 1) := by decide +kernel
theorem dd_M_count_9 : decode cb_M_count 9 = .ok (.getfield 91, 3) := by decide +kernel
theorem dd_M_count_12 : decode cb_M_count 12 = .ok (.if_icmp .ge 45, 3) := by decide +kernel
theorem dd_M_count_15 : decode cb_M_count 15 = .ok (.aload_n 0, 1) := by decide +kernel
theorem dd_M_count_16 : decode cb_M_count 16 = .ok (.getfield 57, 3) := by decide +kernel
theorem dd_M_count_19 : decode cb_M_count 19 = .ok (.iload 5, 2) := by decide +kernel
theorem dd_M_count_21 : decode cb_M_count 21 = .ok (.baload, 1) := by decide +kernel
theorem dd_M_count_22 : decode cb_M_count 22 = .ok (.iload_n 1, 1) := by decide +kernel
theorem dd_M_count_23 : decode cb_M_count 23 = .ok (.if_icmp .ne 28, 3) := by decide +kernel
theorem dd_M_count_26 : decode cb_M_count 26 = .ok (.aload_n 0, 1) := by decide +kernel
theorem dd_M_count_27 : decode cb_M_count 27 = .ok (.getfield 63, 3) := by decide +kernel
theorem dd_M_count_30 : decode cb_M_count 30 = .ok (.iload 5, 2) := by decide +kernel
theorem dd_M_count_32 : decode cb_M_count 32 = .ok (.iaload, 1) := by decide +kernel
theorem dd_M_count_33 : decode cb_M_count 33 = .ok (.iload_n 2, 1) := by decide +kernel
theorem dd_M_count_34 : decode cb_M_count 34 = .ok (.if_icmp .ne 17, 3) := by decide +kernel
theorem dd_M_count_37 : decode cb_M_count 37 = .ok (.aload_n 0, 1) := by decide +kernel
theorem dd_M_count_38 : decode cb_M_count 38 = .ok (.getfield 66, 3) := by decide +kernel
theorem dd_M_count_41 : decode cb_M_count 41 = .ok (.iload 5, 2) := by decide +kernel
theorem dd_M_count_43 : decode cb_M_count 43 = .ok (.iaload, 1) := by decide +kernel
theorem dd_M_count_44 : decode cb_M_count 44 = .ok (.iload_n 3, 1) := by decide +kernel
theorem dd_M_count_45 : decode cb_M_count 45 = .ok (.if_icmp .ne 6, 3) := by decide +kernel
theorem dd_M_count_48 : decode cb_M_count 48 = .ok (.iinc 4 1, 3) := by decide +kernel
theorem dd_M_count_51 : decode cb_M_count 51 = .ok (.iinc 5 1, 3) := by decide +kernel
theorem dd_M_count_54 : decode cb_M_count 54 = .ok (.goto (-48), 3) := by decide +kernel
theorem dd_M_count_57 : decode cb_M_count 57 = .ok (.iload 4, 2) := by decide +kernel
theorem dd_M_count_59 : decode cb_M_count 59 = .ok (.ireturn, 1) := by decide +kernel
theorem dd_M_seek_0 : decode cb_M_seek 0 = .ok (.iconst 0, 1) := by decide +kernel
theorem dd_M_seek_1 : decode cb_M_seek 1 = .ok (.istore 5, 2) := by decide +kernel
theorem dd_M_seek_3 : decode cb_M_seek 3 = .ok (.iconst 0, 1) := by decide +kernel
theorem dd_M_seek_4 : decode cb_M_seek 4 = .ok (.istore 6, 2) := by decide +kernel
theorem dd_M_seek_6 : decode cb_M_seek 6 = .ok (.iload 6, 2) := by decide +kernel
theorem dd_M_seek_8 : decode cb_M_seek 8 = .ok (.aload_n 0, 1) := by decide +kernel
theorem dd_M_seek_9 : decode cb_M_seek 9 = .ok (.getfield 91, 3) := by decide +kernel
theorem dd_M_seek_12 : decode cb_M_seek 12 = .ok (.if_icmp .ge 55, 3) := by decide +kernel
theorem dd_M_seek_15 : decode cb_M_seek 15 = .ok (.aload_n 0, 1) := by decide +kernel
theorem dd_M_seek_16 : decode cb_M_seek 16 = .ok (.getfield 57, 3) := by decide +kernel
theorem dd_M_seek_19 : decode cb_M_seek 19 = .ok (.iload 6, 2) := by decide +kernel
theorem dd_M_seek_21 : decode cb_M_seek 21 = .ok (.baload, 1) := by decide +kernel
theorem dd_M_seek_22 : decode cb_M_seek 22 = .ok (.iload_n 1, 1) := by decide +kernel
theorem dd_M_seek_23 : decode cb_M_seek 23 = .ok (.if_icmp .ne 38, 3) := by decide +kernel
theorem dd_M_seek_26 : decode cb_M_seek 26 = .ok (.aload_n 0, 1) := by decide +kernel
theorem dd_M_seek_27 : decode cb_M_seek 27 = .ok (.getfield 63, 3) := by decide +kernel
theorem dd_M_seek_30 : decode cb_M_seek 30 = .ok (.iload 6, 2) := by decide +kernel
theorem dd_M_seek_32 : decode cb_M_seek 32 = .ok (.iaload, 1) := by decide +kernel
theorem dd_M_seek_33 : decode cb_M_seek 33 = .ok (.iload_n 2, 1) := by decide +kernel
theorem dd_M_seek_34 : decode cb_M_seek 34 = .ok (.if_icmp .ne 27, 3) := by decide +kernel
theorem dd_M_seek_37 : decode cb_M_seek 37 = .ok (.aload_n 0, 1) := by decide +kernel
theorem dd_M_seek_38 : decode cb_M_seek 38 = .ok (.getfield 66, 3) := by decide +kernel
theorem dd_M_seek_41 : decode cb_M_seek 41 = .ok (.iload 6, 2) := by decide +kernel
theorem dd_M_seek_43 : decode cb_M_seek 43 = .ok (.iaload, 1) := by decide +kernel
theorem dd_M_seek_44 : decode cb_M_seek 44 = .ok (.iload_n 3, 1) := by decide +kernel
theorem dd_M_seek_45 : decode cb_M_seek 45 = .ok (.if_icmp .ne 16, 3) := by decide +kernel
theorem dd_M_seek_48 : decode cb_M_seek 48 = .ok (.iload 5, 2) := by decide +kernel
theorem dd_M_seek_50 : decode cb_M_seek 50 = .ok (.iload 4, 2) := by decide +kernel
theorem dd_M_seek_52 : decode cb_M_seek 52 = .ok (.if_icmp .ne 6, 3) := by decide +kernel
theorem dd_M_seek_55 : decode cb_M_seek 55 = .ok (.iload 6, 2) := by decide +kernel
theorem dd_M_seek_57 : decode cb_M_seek 57 = .ok (.ireturn, 1) := by decide +kernel
theorem dd_M_seek_58 : decode cb_M_seek 58 = .ok (.iinc 5 1, 3) := by decide +kernel
theorem dd_M_seek_61 : decode cb_M_seek 61 = .ok (.iinc 6 1, 3) := by decide +kernel
theorem dd_M_seek_64 : decode cb_M_seek 64 = .ok (.goto (-58), 3) := by decide +kernel
theorem dd_M_seek_67 : decode cb_M_seek 67 = .ok (.iconst (-1), 1) := by decide +kernel
end
section
theorem dd_M_seek_68 : decode cb_M_seek 68 = .ok (.ireturn, 1) := by decide +kernel
theorem dd_M_requests_0 : decode cb_M_requests 0 = .ok (.aload_n 0, 1) := by decide +kernel
theorem dd_M_requests_1 : decode cb_M_requests 1 = .ok (.iload_n 1, 1) := by decide +kernel
theorem dd_M_requests_2 : decode cb_M_requests 2 = .ok (.invokevirtual 94, 3) := by decide +kernel
theorem dd_M_requests_5 : decode cb_M_requests 5 = .ok (.ifCond .ne 11, 3) := by decide +kernel
theorem dd_M_requests_8 : decode cb_M_requests 8 = .ok (.aload_n 0, 1) := by decide +kernel
theorem dd_M_requests_9 : decode cb_M_requests 9 = .ok (.iload_n 2, 1) := by decide +kernel
theorem dd_M_requests_10 : decode cb_M_requests 10 = .ok (.invokevirtual 98, 3) := by decide +kernel
theorem dd_M_requests_13 : decode cb_M_requests 13 = .ok (.ifCond .eq 7, 3) := by decide +kernel
theorem dd_M_requests_16 : decode cb_M_requests 16 = .ok (.iconst (-1), 1) := by decide +kernel
theorem dd_M_requests_17 : decode cb_M_requests 17 = .ok (.goto 10, 3) := by decide +kernel
theorem dd_M_requests_20 : decode cb_M_requests 20 = .ok (.aload_n 0, 1) := by decide +kernel
theorem dd_M_requests_21 : decode cb_M_requests 21 = .ok (.iconst 0, 1) := by decide +kernel
theorem dd_M_requests_22 : decode cb_M_requests 22 = .ok (.iload_n 1, 1) := by decide +kernel
theorem dd_M_requests_23 : decode cb_M_requests 23 = .ok (.iload_n 2, 1) := by decide +kernel
theorem dd_M_requests_24 : decode cb_M_requests 24 = .ok (.invokevirtual 101, 3) := by decide +kernel
theorem dd_M_requests_27 : decode cb_M_requests 27 = .ok (.ireturn, 1) := by decide +kernel
theorem dd_M_replies_0 : decode cb_M_replies 0 = .ok (.aload_n 0, 1) := by decide +kernel
theorem dd_M_replies_1 : decode cb_M_replies 1 = .ok (.iload_n 1, 1) := by decide +kernel
theorem dd_M_replies_2 : decode cb_M_replies 2 = .ok (.invokevirtual 94, 3) := by decide +kernel
theorem dd_M_replies_5 : decode cb_M_replies 5 = .ok (.ifCond .ne 11, 3) := by decide +kernel
theorem dd_M_replies_8 : decode cb_M_replies 8 = .ok (.aload_n 0, 1) := by decide +kernel
theorem dd_M_replies_9 : decode cb_M_replies 9 = .ok (.iload_n 2, 1) := by decide +kernel
theorem dd_M_replies_10 : decode cb_M_replies 10 = .ok (.invokevirtual 98, 3) := by decide +kernel
theorem dd_M_replies_13 : decode cb_M_replies 13 = .ok (.ifCond .eq 7, 3) := by decide +kernel
theorem dd_M_replies_16 : decode cb_M_replies 16 = .ok (.iconst (-1), 1) := by decide +kernel
theorem dd_M_replies_17 : decode cb_M_replies 17 = .ok (.goto 10, 3) := by decide +kernel
theorem dd_M_replies_20 : decode cb_M_replies 20 = .ok (.aload_n 0, 1) := by decide +kernel
theorem dd_M_replies_21 : decode cb_M_replies 21 = .ok (.iconst 1, 1) := by decide +kernel
theorem dd_M_replies_22 : decode cb_M_replies 22 = .ok (.iload_n 1, 1) := by decide +kernel
theorem dd_M_replies_23 : decode cb_M_replies 23 = .ok (.iload_n 2, 1) := by decide +kernel
theorem dd_M_replies_24 : decode cb_M_replies 24 = .ok (.invokevirtual 101, 3) := by decide +kernel
theorem dd_M_replies_27 : decode cb_M_replies 27 = .ok (.ireturn, 1) := by decide +kernel
theorem dd_M_crowded_0 : decode cb_M_crowded 0 = .ok (.iconst 0, 1) := by decide +kernel
theorem dd_M_crowded_1 : decode cb_M_crowded 1 = .ok (.istore_n 2, 1) := by decide +kernel
theorem dd_M_crowded_2 : decode cb_M_crowded 2 = .ok (.iconst 0, 1) := by decide +kernel
theorem dd_M_crowded_3 : decode cb_M_crowded 3 = .ok (.istore_n 3, 1) := by decide +kernel
theorem dd_M_crowded_4 : decode cb_M_crowded 4 = .ok (.iload_n 3, 1) := by decide +kernel
theorem dd_M_crowded_5 : decode cb_M_crowded 5 = .ok (.aload_n 0, 1) := by decide +kernel
theorem dd_M_crowded_6 : decode cb_M_crowded 6 = .ok (.getfield 81, 3) := by decide +kernel
theorem dd_M_crowded_9 : decode cb_M_crowded 9 = .ok (.if_icmp .ge 51, 3) := by decide +kernel
theorem dd_M_crowded_12 : decode cb_M_crowded 12 = .ok (.aload_n 0, 1) := by decide +kernel
theorem dd_M_crowded_13 : decode cb_M_crowded 13 = .ok (.iconst 0, 1) := by decide +kernel
theorem dd_M_crowded_14 : decode cb_M_crowded 14 = .ok (.iload_n 1, 1) := by decide +kernel
theorem dd_M_crowded_15 : decode cb_M_crowded 15 = .ok (.iload_n 3, 1) := by decide +kernel
theorem dd_M_crowded_16 : decode cb_M_crowded 16 = .ok (.invokevirtual 101, 3) := by decide +kernel
theorem dd_M_crowded_19 : decode cb_M_crowded 19 = .ok (.aload_n 0, 1) := by decide +kernel
theorem dd_M_crowded_20 : decode cb_M_crowded 20 = .ok (.iconst 1, 1) := by decide +kernel
theorem dd_M_crowded_21 : decode cb_M_crowded 21 = .ok (.iload_n 1, 1) := by decide +kernel
theorem dd_M_crowded_22 : decode cb_M_crowded 22 = .ok (.iload_n 3, 1) := by decide +kernel
theorem dd_M_crowded_23 : decode cb_M_crowded 23 = .ok (.invokevirtual 101, 3) := by decide +kernel
theorem dd_M_crowded_26 : decode cb_M_crowded 26 = .ok (.iadd, 1) := by decide +kernel
theorem dd_M_crowded_27 : decode cb_M_crowded 27 = .ok (.istore 4, 2) := by decide +kernel
theorem dd_M_crowded_29 : decode cb_M_crowded 29 = .ok (.iload_n 2, 1) := by decide +kernel
theorem dd_M_crowded_30 : decode cb_M_crowded 30 = .ok (.ifCond .ne 18, 3) := by decide +kernel
theorem dd_M_crowded_33 : decode cb_M_crowded 33 = .ok (.aload_n 0, 1) := by decide +kernel
theorem dd_M_crowded_34 : decode cb_M_crowded 34 = .ok (.getfield 41, 3) := by decide +kernel
theorem dd_M_crowded_37 : decode cb_M_crowded 37 = .ok (.iload_n 3, 1) := by decide +kernel
theorem dd_M_crowded_38 : decode cb_M_crowded 38 = .ok (.baload, 1) := by decide +kernel
theorem dd_M_crowded_39 : decode cb_M_crowded 39 = .ok (.ifCond .ne 13, 3) := by decide +kernel
theorem dd_M_crowded_42 : decode cb_M_crowded 42 = .ok (.iload 4, 2) := by decide +kernel
theorem dd_M_crowded_44 : decode cb_M_crowded 44 = .ok (.iconst 4, 1) := by decide +kernel
theorem dd_M_crowded_45 : decode cb_M_crowded 45 = .ok (.if_icmp .le 7, 3) := by decide +kernel
theorem dd_M_crowded_48 : decode cb_M_crowded 48 = .ok (.iconst 1, 1) := by decide +kernel
theorem dd_M_crowded_49 : decode cb_M_crowded 49 = .ok (.goto 4, 3) := by decide +kernel
theorem dd_M_crowded_52 : decode cb_M_crowded 52 = .ok (.iconst 0, 1) := by decide +kernel
theorem dd_M_crowded_53 : decode cb_M_crowded 53 = .ok (.istore_n 2, 1) := by decide +kernel
theorem dd_M_crowded_54 : decode cb_M_crowded 54 = .ok (.iinc 3 1, 3) := by decide +kernel
theorem dd_M_crowded_57 : decode cb_M_crowded 57 = .ok (.goto (-53), 3) := by decide +kernel
theorem dd_M_crowded_60 : decode cb_M_crowded 60 = .ok (.iload_n 2, 1) := by decide +kernel
theorem dd_M_crowded_61 : decode cb_M_crowded 61 = .ok (.ireturn, 1) := by decide +kernel
theorem dd_M_begin_0 : decode cb_M_begin 0 = .ok (.aload_n 0, 1) := by decide +kernel
theorem dd_M_begin_1 : decode cb_M_begin 1 = .ok (.getfield 7, 3) := by decide +kernel
theorem dd_M_begin_4 : decode cb_M_begin 4 = .ok (.iload_n 1, 1) := by decide +kernel
theorem dd_M_begin_5 : decode cb_M_begin 5 = .ok (.iload_n 2, 1) := by decide +kernel
theorem dd_M_begin_6 : decode cb_M_begin 6 = .ok (.iastore, 1) := by decide +kernel
theorem dd_M_begin_7 : decode cb_M_begin 7 = .ok (.aload_n 0, 1) := by decide +kernel
theorem dd_M_begin_8 : decode cb_M_begin 8 = .ok (.getfield 13, 3) := by decide +kernel
theorem dd_M_begin_11 : decode cb_M_begin 11 = .ok (.iload_n 1, 1) := by decide +kernel
theorem dd_M_begin_12 : decode cb_M_begin 12 = .ok (.dup2, 1) := by decide +kernel
theorem dd_M_begin_13 : decode cb_M_begin 13 = .ok (.iaload, 1) := by decide +kernel
theorem dd_M_begin_14 : decode cb_M_begin 14 = .ok (.iconst 1, 1) := by decide +kernel
theorem dd_M_begin_15 : decode cb_M_begin 15 = .ok (.iadd, 1) := by decide +kernel
theorem dd_M_begin_16 : decode cb_M_begin 16 = .ok (.iastore, 1) := by decide +kernel
theorem dd_M_begin_17 : decode cb_M_begin 17 = .ok (.aload_n 0, 1) := by decide +kernel
theorem dd_M_begin_18 : decode cb_M_begin 18 = .ok (.getfield 16, 3) := by decide +kernel
theorem dd_M_begin_21 : decode cb_M_begin 21 = .ok (.iload_n 1, 1) := by decide +kernel
theorem dd_M_begin_22 : decode cb_M_begin 22 = .ok (.iconst 0, 1) := by decide +kernel
theorem dd_M_begin_23 : decode cb_M_begin 23 = .ok (.iastore, 1) := by decide +kernel
theorem dd_M_begin_24 : decode cb_M_begin 24 = .ok (.aload_n 0, 1) := by decide +kernel
theorem dd_M_begin_25 : decode cb_M_begin 25 = .ok (.getfield 19, 3) := by decide +kernel
theorem dd_M_begin_28 : decode cb_M_begin 28 = .ok (.iload_n 1, 1) := by decide +kernel
theorem dd_M_begin_29 : decode cb_M_begin 29 = .ok (.iconst 0, 1) := by decide +kernel
theorem dd_M_begin_30 : decode cb_M_begin 30 = .ok (.iastore, 1) := by decide +kernel
theorem dd_M_begin_31 : decode cb_M_begin 31 = .ok (.aload_n 0, 1) := by decide +kernel
theorem dd_M_begin_32 : decode cb_M_begin 32 = .ok (.getfield 22, 3) := by decide +kernel
theorem dd_M_begin_35 : decode cb_M_begin 35 = .ok (.iload_n 1, 1) := by decide +kernel
theorem dd_M_begin_36 : decode cb_M_begin 36 = .ok (.iconst 0, 1) := by decide +kernel
theorem dd_M_begin_37 : decode cb_M_begin 37 = .ok (.iastore, 1) := by decide +kernel
theorem dd_M_begin_38 : decode cb_M_begin 38 = .ok (.iconst 0, 1) := by decide +kernel
theorem dd_M_begin_39 : decode cb_M_begin 39 = .ok (.istore_n 3, 1) := by decide +kernel
theorem dd_M_begin_40 : decode cb_M_begin 40 = .ok (.iload_n 3, 1) := by decide +kernel
theorem dd_M_begin_41 : decode cb_M_begin 41 = .ok (.aload_n 0, 1) := by decide +kernel
theorem dd_M_begin_42 : decode cb_M_begin 42 = .ok (.getfield 81, 3) := by decide +kernel
theorem dd_M_begin_45 : decode cb_M_begin 45 = .ok (.if_icmp .ge 32, 3) := by decide +kernel
theorem dd_M_begin_48 : decode cb_M_begin 48 = .ok (.aload_n 0, 1) := by decide +kernel
theorem dd_M_begin_49 : decode cb_M_begin 49 = .ok (.getfield 41, 3) := by decide +kernel
theorem dd_M_begin_52 : decode cb_M_begin 52 = .ok (.iload_n 3, 1) := by decide +kernel
theorem dd_M_begin_53 : decode cb_M_begin 53 = .ok (.baload, 1) := by decide +kernel
theorem dd_M_begin_54 : decode cb_M_begin 54 = .ok (.ifCond .ne 17, 3) := by decide +kernel
theorem dd_M_begin_57 : decode cb_M_begin 57 = .ok (.aload_n 0, 1) := by decide +kernel
theorem dd_M_begin_58 : decode cb_M_begin 58 = .ok (.iconst 0, 1) := by decide +kernel
theorem dd_M_begin_59 : decode cb_M_begin 59 = .ok (.iload_n 1, 1) := by decide +kernel
theorem dd_M_begin_60 : decode cb_M_begin 60 = .ok (.iload_n 3, 1) := by decide +kernel
theorem dd_M_begin_61 : decode cb_M_begin 61 = .ok (.iload_n 2, 1) := by decide +kernel
theorem dd_M_begin_62 : decode cb_M_begin 62 = .ok (.aload_n 0, 1) := by decide +kernel
theorem dd_M_begin_63 : decode cb_M_begin 63 = .ok (.getfield 13, 3) := by decide +kernel
theorem dd_M_begin_66 : decode cb_M_begin 66 = .ok (.iload_n 1, 1) := by decide +kernel
theorem dd_M_begin_67 : decode cb_M_begin 67 = .ok (.iaload, 1) := by decide +kernel
theorem dd_M_begin_68 : decode cb_M_begin 68 = .ok (.invokevirtual 105, 3) := by decide +kernel
theorem dd_M_begin_71 : decode cb_M_begin 71 = .ok (.iinc 3 1, 3) := by decide +kernel
theorem dd_M_begin_74 : decode cb_M_begin 74 = .ok (.goto (-34), 3) := by decide +kernel
theorem dd_M_begin_77 : decode cb_M_begin 77 = .ok (.return_, 1) := by decide +kernel
theorem dd_M_refusal_0 : decode cb_M_refusal 0 = .ok (.aload_n 0, 1) := by decide +kernel
theorem dd_M_refusal_1 : decode cb_M_refusal 1 = .ok (.iload_n 1, 1) := by decide +kernel
theorem dd_M_refusal_2 : decode cb_M_refusal 2 = .ok (.invokevirtual 94, 3) := by decide +kernel
theorem dd_M_refusal_5 : decode cb_M_refusal 5 = .ok (.ifCond .eq 5, 3) := by decide +kernel
theorem dd_M_refusal_8 : decode cb_M_refusal 8 = .ok (.iconst (-1), 1) := by decide +kernel
theorem dd_M_refusal_9 : decode cb_M_refusal 9 = .ok (.ireturn, 1) := by decide +kernel
theorem dd_M_refusal_10 : decode cb_M_refusal 10 = .ok (.aload_n 0, 1) := by decide +kernel
theorem dd_M_refusal_11 : decode cb_M_refusal 11 = .ok (.getfield 7, 3) := by decide +kernel
theorem dd_M_refusal_14 : decode cb_M_refusal 14 = .ok (.iload_n 1, 1) := by decide +kernel
theorem dd_M_refusal_15 : decode cb_M_refusal 15 = .ok (.iaload, 1) := by decide +kernel
theorem dd_M_refusal_16 : decode cb_M_refusal 16 = .ok (.bipush 6, 2) := by decide +kernel
theorem dd_M_refusal_18 : decode cb_M_refusal 18 = .ok (.if_icmp .ne 6, 3) := by decide +kernel
theorem dd_M_refusal_21 : decode cb_M_refusal 21 = .ok (.bipush (-2), 2) := by decide +kernel
theorem dd_M_refusal_23 : decode cb_M_refusal 23 = .ok (.ireturn, 1) := by decide +kernel
theorem dd_M_refusal_24 : decode cb_M_refusal 24 = .ok (.aload_n 0, 1) := by decide +kernel
theorem dd_M_refusal_25 : decode cb_M_refusal 25 = .ok (.getfield 7, 3) := by decide +kernel
theorem dd_M_refusal_28 : decode cb_M_refusal 28 = .ok (.iload_n 1, 1) := by decide +kernel
theorem dd_M_refusal_29 : decode cb_M_refusal 29 = .ok (.iaload, 1) := by decide +kernel
theorem dd_M_refusal_30 : decode cb_M_refusal 30 = .ok (.ifCond .eq 6, 3) := by decide +kernel
theorem dd_M_refusal_33 : decode cb_M_refusal 33 = .ok (.bipush (-3), 2) := by decide +kernel
theorem dd_M_refusal_35 : decode cb_M_refusal 35 = .ok (.ireturn, 1) := by decide +kernel
theorem dd_M_refusal_36 : decode cb_M_refusal 36 = .ok (.aload_n 0, 1) := by decide +kernel
theorem dd_M_refusal_37 : decode cb_M_refusal 37 = .ok (.iload_n 1, 1) := by decide +kernel
theorem dd_M_refusal_38 : decode cb_M_refusal 38 = .ok (.invokevirtual 109, 3) := by decide +kernel
theorem dd_M_refusal_41 : decode cb_M_refusal 41 = .ok (.ifCond .eq 8, 3) := by decide +kernel
theorem dd_M_refusal_44 : decode cb_M_refusal 44 = .ok (.bipush (-4), 2) := by decide +kernel
theorem dd_M_refusal_46 : decode cb_M_refusal 46 = .ok (.goto 4, 3) := by decide +kernel
theorem dd_M_refusal_49 : decode cb_M_refusal 49 = .ok (.iconst 0, 1) := by decide +kernel
theorem dd_M_refusal_50 : decode cb_M_refusal 50 = .ok (.ireturn, 1) := by decide +kernel
theorem dd_M_write_0 : decode cb_M_write 0 = .ok (.aload_n 0, 1) := by decide +kernel
theorem dd_M_write_1 : decode cb_M_write 1 = .ok (.iload_n 1, 1) := by decide +kernel
theorem dd_M_write_2 : decode cb_M_write 2 = .ok (.invokevirtual 112, 3) := by decide +kernel
theorem dd_M_write_5 : decode cb_M_write 5 = .ok (.istore 4, 2) := by decide +kernel
theorem dd_M_write_7 : decode cb_M_write 7 = .ok (.iload 4, 2) := by decide +kernel
theorem dd_M_write_9 : decode cb_M_write 9 = .ok (.ifCond .ne 16, 3) := by decide +kernel
theorem dd_M_write_12 : decode cb_M_write 12 = .ok (.aload_n 0, 1) := by decide +kernel
theorem dd_M_write_13 : decode cb_M_write 13 = .ok (.getfield 31, 3) := by decide +kernel
theorem dd_M_write_16 : decode cb_M_write 16 = .ok (.iload_n 1, 1) := by decide +kernel
theorem dd_M_write_17 : decode cb_M_write 17 = .ok (.lload_n 2, 1) := by decide +kernel
theorem dd_M_write_18 : decode cb_M_write 18 = .ok (.lastore, 1) := by decide +kernel
theorem dd_M_write_19 : decode cb_M_write 19 = .ok (.aload_n 0, 1) := by decide +kernel
theorem dd_M_write_20 : decode cb_M_write 20 = .ok (.iload_n 1, 1) := by decide +kernel
theorem dd_M_write_21 : decode cb_M_write 21 = .ok (.iconst 1, 1) := by decide +kernel
theorem dd_M_write_22 : decode cb_M_write 22 = .ok (.invokevirtual 116, 3) := by decide +kernel
theorem dd_M_write_25 : decode cb_M_write 25 = .ok (.iload 4, 2) := by decide +kernel
theorem dd_M_write_27 : decode cb_M_write 27 = .ok (.ireturn, 1) := by decide +kernel
theorem dd_M_read_0 : decode cb_M_read 0 = .ok (.aload_n 0, 1) := by decide +kernel
theorem dd_M_read_1 : decode cb_M_read 1 = .ok (.iload_n 1, 1) := by decide +kernel
theorem dd_M_read_2 : decode cb_M_read 2 = .ok (.invokevirtual 112, 3) := by decide +kernel
theorem dd_M_read_5 : decode cb_M_read 5 = .ok (.istore_n 2, 1) := by decide +kernel
theorem dd_M_read_6 : decode cb_M_read 6 = .ok (.iload_n 2, 1) := by decide +kernel
theorem dd_M_read_7 : decode cb_M_read 7 = .ok (.ifCond .ne 9, 3) := by decide +kernel
theorem dd_M_read_10 : decode cb_M_read 10 = .ok (.aload_n 0, 1) := by decide +kernel
theorem dd_M_read_11 : decode cb_M_read 11 = .ok (.iload_n 1, 1) := by decide +kernel
theorem dd_M_read_12 : decode cb_M_read 12 = .ok (.iconst 4, 1) := by decide +kernel
theorem dd_M_read_13 : decode cb_M_read 13 = .ok (.invokevirtual 116, 3) := by decide +kernel
theorem dd_M_read_16 : decode cb_M_read 16 = .ok (.iload_n 2, 1) := by decide +kernel
theorem dd_M_read_17 : decode cb_M_read 17 = .ok (.ireturn, 1) := by decide +kernel
theorem dd_M_again_0 : decode cb_M_again 0 = .ok (.aload_n 0, 1) := by decide +kernel
theorem dd_M_again_1 : decode cb_M_again 1 = .ok (.iload_n 1, 1) := by decide +kernel
theorem dd_M_again_2 : decode cb_M_again 2 = .ok (.invokevirtual 94, 3) := by decide +kernel
theorem dd_M_again_5 : decode cb_M_again 5 = .ok (.ifCond .eq 5, 3) := by decide +kernel
theorem dd_M_again_8 : decode cb_M_again 8 = .ok (.iconst (-1), 1) := by decide +kernel
theorem dd_M_again_9 : decode cb_M_again 9 = .ok (.ireturn, 1) := by decide +kernel
theorem dd_M_again_10 : decode cb_M_again 10 = .ok (.aload_n 0, 1) := by decide +kernel
theorem dd_M_again_11 : decode cb_M_again 11 = .ok (.getfield 7, 3) := by decide +kernel
theorem dd_M_again_14 : decode cb_M_again 14 = .ok (.iload_n 1, 1) := by decide +kernel
theorem dd_M_again_15 : decode cb_M_again 15 = .ok (.iaload, 1) := by decide +kernel
theorem dd_M_again_16 : decode cb_M_again 16 = .ok (.bipush 6, 2) := by decide +kernel
theorem dd_M_again_18 : decode cb_M_again 18 = .ok (.if_icmp .ne 6, 3) := by decide +kernel
theorem dd_M_again_21 : decode cb_M_again 21 = .ok (.bipush (-2), 2) := by decide +kernel
theorem dd_M_again_23 : decode cb_M_again 23 = .ok (.ireturn, 1) := by decide +kernel
theorem dd_M_again_24 : decode cb_M_again 24 = .ok (.aload_n 0, 1) := by decide +kernel
theorem dd_M_again_25 : decode cb_M_again 25 = .ok (.getfield 7, 3) := by decide +kernel
theorem dd_M_again_28 : decode cb_M_again 28 = .ok (.iload_n 1, 1) := by decide +kernel
theorem dd_M_again_29 : decode cb_M_again 29 = .ok (.iaload, 1) := by decide +kernel
theorem dd_M_again_30 : decode cb_M_again 30 = .ok (.iconst 5, 1) := by decide +kernel
theorem dd_M_again_31 : decode cb_M_again 31 = .ok (.if_icmp .ne 16, 3) := by decide +kernel
theorem dd_M_again_34 : decode cb_M_again 34 = .ok (.aload_n 0, 1) := by decide +kernel
theorem dd_M_again_35 : decode cb_M_again 35 = .ok (.getfield 16, 3) := by decide +kernel
theorem dd_M_again_38 : decode cb_M_again 38 = .ok (.iload_n 1, 1) := by decide +kernel
theorem dd_M_again_39 : decode cb_M_again 39 = .ok (.iaload, 1) := by decide +kernel
theorem dd_M_again_40 : decode cb_M_again 40 = .ok (.aload_n 0, 1) := by decide +kernel
theorem dd_M_again_41 : decode cb_M_again 41 = .ok (.invokevirtual 120, 3) := by decide +kernel
theorem dd_M_again_44 : decode cb_M_again 44 = .ok (.if_icmp .ge 6, 3) := by decide +kernel
theorem dd_M_again_47 : decode cb_M_again 47 = .ok (.bipush (-3), 2) := by decide +kernel
theorem dd_M_again_49 : decode cb_M_again 49 = .ok (.ireturn, 1) := by decide +kernel
theorem dd_M_again_50 : decode cb_M_again 50 = .ok (.aload_n 0, 1) := by decide +kernel
theorem dd_M_again_51 : decode cb_M_again 51 = .ok (.iload_n 1, 1) := by decide +kernel
theorem dd_M_again_52 : decode cb_M_again 52 = .ok (.invokevirtual 109, 3) := by decide +kernel
theorem dd_M_again_55 : decode cb_M_again 55 = .ok (.ifCond .eq 6, 3) := by decide +kernel
theorem dd_M_again_58 : decode cb_M_again 58 = .ok (.bipush (-4), 2) := by decide +kernel
theorem dd_M_again_60 : decode cb_M_again 60 = .ok (.ireturn, 1) := by decide +kernel
theorem dd_M_again_61 : decode cb_M_again 61 = .ok (.aload_n 0, 1) := by decide +kernel
theorem dd_M_again_62 : decode cb_M_again 62 = .ok (.iload_n 1, 1) := by decide +kernel
theorem dd_M_again_63 : decode cb_M_again 63 = .ok (.iconst 4, 1) := by decide +kernel
theorem dd_M_again_64 : decode cb_M_again 64 = .ok (.invokevirtual 116, 3) := by decide +kernel
theorem dd_M_again_67 : decode cb_M_again 67 = .ok (.iconst 0, 1) := by decide +kernel
theorem dd_M_again_68 : decode cb_M_again 68 = .ok (.ireturn, 1) := by decide +kernel
theorem dd_M_place_0 : decode cb_M_place 0 = .ok (.iconst 5, 1) := by decide +kernel
theorem dd_M_place_1 : decode cb_M_place 1 = .ok (.iload_n 1, 1) := by decide +kernel
theorem dd_M_place_2 : decode cb_M_place 2 = .ok (.imul, 1) := by decide +kernel
theorem dd_M_place_3 : decode cb_M_place 3 = .ok (.istore_n 3, 1) := by decide +kernel
theorem dd_M_place_4 : decode cb_M_place 4 = .ok (.iload_n 3, 1) := by decide +kernel
theorem dd_M_place_5 : decode cb_M_place 5 = .ok (.iconst 5, 1) := by decide +kernel
theorem dd_M_place_6 : decode cb_M_place 6 = .ok (.iload_n 1, 1) := by decide +kernel
theorem dd_M_place_7 : decode cb_M_place 7 = .ok (.imul, 1) := by decide +kernel
theorem dd_M_place_8 : decode cb_M_place 8 = .ok (.aload_n 0, 1) := by decide +kernel
theorem dd_M_place_9 : decode cb_M_place 9 = .ok (.getfield 48, 3) := by decide +kernel
theorem dd_M_place_12 : decode cb_M_place 12 = .ok (.iload_n 1, 1) := by decide +kernel
theorem dd_M_place_13 : decode cb_M_place 13 = .ok (.iaload, 1) := by decide +kernel
theorem dd_M_place_14 : decode cb_M_place 14 = .ok (.iadd, 1) := by decide +kernel
theorem dd_M_place_15 : decode cb_M_place 15 = .ok (.if_icmp .ge 21, 3) := by decide +kernel
theorem dd_M_place_18 : decode cb_M_place 18 = .ok (.aload_n 0, 1) := by decide +kernel
theorem dd_M_place_19 : decode cb_M_place 19 = .ok (.getfield 51, 3) := by decide +kernel
theorem dd_M_place_22 : decode cb_M_place 22 = .ok (.iload_n 3, 1) := by decide +kernel
theorem dd_M_place_23 : decode cb_M_place 23 = .ok (.iaload, 1) := by decide +kernel
theorem dd_M_place_24 : decode cb_M_place 24 = .ok (.iload_n 2, 1) := by decide +kernel
theorem dd_M_place_25 : decode cb_M_place 25 = .ok (.if_icmp .ne 5, 3) := by decide +kernel
theorem dd_M_place_28 : decode cb_M_place 28 = .ok (.iload_n 3, 1) := by decide +kernel
theorem dd_M_place_29 : decode cb_M_place 29 = .ok (.ireturn, 1) := by decide +kernel
theorem dd_M_place_30 : decode cb_M_place 30 = .ok (.iinc 3 1, 3) := by decide +kernel
theorem dd_M_place_33 : decode cb_M_place 33 = .ok (.goto (-29), 3) := by decide +kernel
theorem dd_M_place_36 : decode cb_M_place 36 = .ok (.iconst (-1), 1) := by decide +kernel
theorem dd_M_place_37 : decode cb_M_place 37 = .ok (.ireturn, 1) := by decide +kernel
theorem dd_M_store_0 : decode cb_M_store 0 = .ok (.aload_n 0, 1) := by decide +kernel
theorem dd_M_store_1 : decode cb_M_store 1 = .ok (.iload_n 1, 1) := by decide +kernel
theorem dd_M_store_2 : decode cb_M_store 2 = .ok (.iload_n 2, 1) := by decide +kernel
theorem dd_M_store_3 : decode cb_M_store 3 = .ok (.invokevirtual 124, 3) := by decide +kernel
theorem dd_M_store_6 : decode cb_M_store 6 = .ok (.istore 5, 2) := by decide +kernel
theorem dd_M_store_8 : decode cb_M_store 8 = .ok (.iload 5, 2) := by decide +kernel
theorem dd_M_store_10 : decode cb_M_store 10 = .ok (.ifCond .ge 25, 3) := by decide +kernel
theorem dd_M_store_13 : decode cb_M_store 13 = .ok (.iconst 5, 1) := by decide +kernel
theorem dd_M_store_14 : decode cb_M_store 14 = .ok (.iload_n 1, 1) := by decide +kernel
theorem dd_M_store_15 : decode cb_M_store 15 = .ok (.imul, 1) := by decide +kernel
theorem dd_M_store_16 : decode cb_M_store 16 = .ok (.aload_n 0, 1) := by decide +kernel
theorem dd_M_store_17 : decode cb_M_store 17 = .ok (.getfield 48, 3) := by decide +kernel
theorem dd_M_store_20 : decode cb_M_store 20 = .ok (.iload_n 1, 1) := by decide +kernel
theorem dd_M_store_21 : decode cb_M_store 21 = .ok (.iaload, 1) := by decide +kernel
theorem dd_M_store_22 : decode cb_M_store 22 = .ok (.iadd, 1) := by decide +kernel
theorem dd_M_store_23 : decode cb_M_store 23 = .ok (.istore 5, 2) := by decide +kernel
theorem dd_M_store_25 : decode cb_M_store 25 = .ok (.aload_n 0, 1) := by decide +kernel
theorem dd_M_store_26 : decode cb_M_store 26 = .ok (.getfield 48, 3) := by decide +kernel
theorem dd_M_store_29 : decode cb_M_store 29 = .ok (.iload_n 1, 1) := by decide +kernel
theorem dd_M_store_30 : decode cb_M_store 30 = .ok (.dup2, 1) := by decide +kernel
theorem dd_M_store_31 : decode cb_M_store 31 = .ok (.iaload, 1) := by decide +kernel
theorem dd_M_store_32 : decode cb_M_store 32 = .ok (.iconst 1, 1) := by decide +kernel
theorem dd_M_store_33 : decode cb_M_store 33 = .ok (.iadd, 1) := by decide +kernel
theorem dd_M_store_34 : decode cb_M_store 34 = .ok (.iastore, 1) := by decide +kernel
theorem dd_M_store_35 : decode cb_M_store 35 = .ok (.aload_n 0, 1) := by decide +kernel
theorem dd_M_store_36 : decode cb_M_store 36 = .ok (.getfield 51, 3) := by decide +kernel
theorem dd_M_store_39 : decode cb_M_store 39 = .ok (.iload 5, 2) := by decide +kernel
theorem dd_M_store_41 : decode cb_M_store 41 = .ok (.iload_n 2, 1) := by decide +kernel
theorem dd_M_store_42 : decode cb_M_store 42 = .ok (.iastore, 1) := by decide +kernel
theorem dd_M_store_43 : decode cb_M_store 43 = .ok (.aload_n 0, 1) := by decide +kernel
theorem dd_M_store_44 : decode cb_M_store 44 = .ok (.getfield 54, 3) := by decide +kernel
theorem dd_M_store_47 : decode cb_M_store 47 = .ok (.iload 5, 2) := by decide +kernel
theorem dd_M_store_49 : decode cb_M_store 49 = .ok (.lload_n 3, 1) := by decide +kernel
theorem dd_M_store_50 : decode cb_M_store 50 = .ok (.lastore, 1) := by decide +kernel
theorem dd_M_store_51 : decode cb_M_store 51 = .ok (.aload_n 0, 1) := by decide +kernel
theorem dd_M_store_52 : decode cb_M_store 52 = .ok (.getfield 48, 3) := by decide +kernel
theorem dd_M_store_55 : decode cb_M_store 55 = .ok (.iload_n 1, 1) := by decide +kernel
theorem dd_M_store_56 : decode cb_M_store 56 = .ok (.iaload, 1) := by decide +kernel
theorem dd_M_store_57 : decode cb_M_store 57 = .ok (.aload_n 0, 1) := by decide +kernel
theorem dd_M_store_58 : decode cb_M_store 58 = .ok (.getfield 88, 3) := by decide +kernel
theorem dd_M_store_61 : decode cb_M_store 61 = .ok (.iconst 1, 1) := by decide +kernel
theorem dd_M_store_62 : decode cb_M_store 62 = .ok (.iadd, 1) := by decide +kernel
theorem dd_M_store_63 : decode cb_M_store 63 = .ok (.if_icmp .le 114, 3) := by decide +kernel
theorem dd_M_store_66 : decode cb_M_store 66 = .ok (.iconst 5, 1) := by decide +kernel
theorem dd_M_store_67 : decode cb_M_store 67 = .ok (.iload_n 1, 1) := by decide +kernel
theorem dd_M_store_68 : decode cb_M_store 68 = .ok (.imul, 1) := by decide +kernel
theorem dd_M_store_69 : decode cb_M_store 69 = .ok (.istore 6, 2) := by decide +kernel
theorem dd_M_store_71 : decode cb_M_store 71 = .ok (.iconst 5, 1) := by decide +kernel
theorem dd_M_store_72 : decode cb_M_store 72 = .ok (.iload_n 1, 1) := by decide +kernel
theorem dd_M_store_73 : decode cb_M_store 73 = .ok (.imul, 1) := by decide +kernel
theorem dd_M_store_74 : decode cb_M_store 74 = .ok (.istore 7, 2) := by decide +kernel
theorem dd_M_store_76 : decode cb_M_store 76 = .ok (.iload 7, 2) := by decide +kernel
theorem dd_M_store_78 : decode cb_M_store 78 = .ok (.iconst 5, 1) := by decide +kernel
theorem dd_M_store_79 : decode cb_M_store 79 = .ok (.iload_n 1, 1) := by decide +kernel
theorem dd_M_store_80 : decode cb_M_store 80 = .ok (.imul, 1) := by decide +kernel
theorem dd_M_store_81 : decode cb_M_store 81 = .ok (.aload_n 0, 1) := by decide +kernel
theorem dd_M_store_82 : decode cb_M_store 82 = .ok (.getfield 48, 3) := by decide +kernel
theorem dd_M_store_85 : decode cb_M_store 85 = .ok (.iload_n 1, 1) := by decide +kernel
theorem dd_M_store_86 : decode cb_M_store 86 = .ok (.iaload, 1) := by decide +kernel
theorem dd_M_store_87 : decode cb_M_store 87 = .ok (.iadd, 1) := by decide +kernel
theorem dd_M_store_88 : decode cb_M_store 88 = .ok (.if_icmp .ge 35, 3) := by decide +kernel
theorem dd_M_store_91 : decode cb_M_store 91 = .ok (.aload_n 0, 1) := by decide +kernel
theorem dd_M_store_92 : decode cb_M_store 92 = .ok (.getfield 51, 3) := by decide +kernel
theorem dd_M_store_95 : decode cb_M_store 95 = .ok (.iload 7, 2) := by decide +kernel
theorem dd_M_store_97 : decode cb_M_store 97 = .ok (.iaload, 1) := by decide +kernel
theorem dd_M_store_98 : decode cb_M_store 98 = .ok (.aload_n 0, 1) := by decide +kernel
theorem dd_M_store_99 : decode cb_M_store 99 = .ok (.getfield 51, 3) := by decide +kernel
theorem dd_M_store_102 : decode cb_M_store 102 = .ok (.iload 6, 2) := by decide +kernel
theorem dd_M_store_104 : decode cb_M_store 104 = .ok (.iaload, 1) := by decide +kernel
theorem dd_M_store_105 : decode cb_M_store 105 = .ok (.if_icmp .ge 8, 3) := by decide +kernel
theorem dd_M_store_108 : decode cb_M_store 108 = .ok (.iload 7, 2) := by decide +kernel
theorem dd_M_store_110 : decode cb_M_store 110 = .ok (.goto 5, 3) := by decide +kernel
theorem dd_M_store_113 : decode cb_M_store 113 = .ok (.iload 6, 2) := by decide +kernel
theorem dd_M_store_115 : decode cb_M_store 115 = .ok (.istore 6, 2) := by decide +kernel
theorem dd_M_store_117 : decode cb_M_store 117 = .ok (.iinc 7 1, 3) := by decide +kernel
theorem dd_M_store_120 : decode cb_M_store 120 = .ok (.goto (-44), 3) := by decide +kernel
theorem dd_M_store_123 : decode cb_M_store 123 = .ok (.aload_n 0, 1) := by decide +kernel
theorem dd_M_store_124 : decode cb_M_store 124 = .ok (.getfield 48, 3) := by decide +kernel
theorem dd_M_store_127 : decode cb_M_store 127 = .ok (.iload_n 1, 1) := by decide +kernel
theorem dd_M_store_128 : decode cb_M_store 128 = .ok (.dup2, 1) := by decide +kernel
theorem dd_M_store_129 : decode cb_M_store 129 = .ok (.iaload, 1) := by decide +kernel
theorem dd_M_store_130 : decode cb_M_store 130 = .ok (.iconst 1, 1) := by decide +kernel
theorem dd_M_store_131 : decode cb_M_store 131 = .ok (.isub, 1) := by decide +kernel
theorem dd_M_store_132 : decode cb_M_store 132 = .ok (.iastore, 1) := by decide +kernel
theorem dd_M_store_133 : decode cb_M_store 133 = .ok (.aload_n 0, 1) := by decide +kernel
theorem dd_M_store_134 : decode cb_M_store 134 = .ok (.getfield 51, 3) := by decide +kernel
theorem dd_M_store_137 : decode cb_M_store 137 = .ok (.iload 6, 2) := by decide +kernel
theorem dd_M_store_139 : decode cb_M_store 139 = .ok (.aload_n 0, 1) := by decide +kernel
theorem dd_M_store_140 : decode cb_M_store 140 = .ok (.getfield 51, 3) := by decide +kernel
theorem dd_M_store_143 : decode cb_M_store 143 = .ok (.iconst 5, 1) := by decide +kernel
theorem dd_M_store_144 : decode cb_M_store 144 = .ok (.iload_n 1, 1) := by decide +kernel
theorem dd_M_store_145 : decode cb_M_store 145 = .ok (.imul, 1) := by decide +kernel
theorem dd_M_store_146 : decode cb_M_store 146 = .ok (.aload_n 0, 1) := by decide +kernel
theorem dd_M_store_147 : decode cb_M_store 147 = .ok (.getfield 48, 3) := by decide +kernel
theorem dd_M_store_150 : decode cb_M_store 150 = .ok (.iload_n 1, 1) := by decide +kernel
theorem dd_M_store_151 : decode cb_M_store 151 = .ok (.iaload, 1) := by decide +kernel
theorem dd_M_store_152 : decode cb_M_store 152 = .ok (.iadd, 1) := by decide +kernel
theorem dd_M_store_153 : decode cb_M_store 153 = .ok (.iaload, 1) := by decide +kernel
theorem dd_M_store_154 : decode cb_M_store 154 = .ok (.iastore, 1) := by decide +kernel
theorem dd_M_store_155 : decode cb_M_store 155 = .ok (.aload_n 0, 1) := by decide +kernel
theorem dd_M_store_156 : decode cb_M_store 156 = .ok (.getfield 54, 3) := by decide +kernel
theorem dd_M_store_159 : decode cb_M_store 159 = .ok (.iload 6, 2) := by decide +kernel
theorem dd_M_store_161 : decode cb_M_store 161 = .ok (.aload_n 0, 1) := by decide +kernel
theorem dd_M_store_162 : decode cb_M_store 162 = .ok (.getfield 54, 3) := by decide +kernel
theorem dd_M_store_165 : decode cb_M_store 165 = .ok (.iconst 5, 1) := by decide +kernel
theorem dd_M_store_166 : decode cb_M_store 166 = .ok (.iload_n 1, 1) := by decide +kernel
theorem dd_M_store_167 : decode cb_M_store 167 = .ok (.imul, 1) := by decide +kernel
theorem dd_M_store_168 : decode cb_M_store 168 = .ok (.aload_n 0, 1) := by decide +kernel
theorem dd_M_store_169 : decode cb_M_store 169 = .ok (.getfield 48, 3) := by decide +kernel
theorem dd_M_store_172 : decode cb_M_store 172 = .ok (.iload_n 1, 1) := by decide +kernel
theorem dd_M_store_173 : decode cb_M_store 173 = .ok (.iaload, 1) := by decide +kernel
theorem dd_M_store_174 : decode cb_M_store 174 = .ok (.iadd, 1) := by decide +kernel
theorem dd_M_store_175 : decode cb_M_store 175 = .ok (.laload, 1) := by decide +kernel
theorem dd_M_store_176 : decode cb_M_store 176 = .ok (.lastore, 1) := by decide +kernel
theorem dd_M_store_177 : decode cb_M_store 177 = .ok (.return_, 1) := by decide +kernel
theorem dd_M_deliver_0 : decode cb_M_deliver 0 = .ok (.aload_n 0, 1) := by decide +kernel
theorem dd_M_deliver_1 : decode cb_M_deliver 1 = .ok (.iload_n 1, 1) := by decide +kernel
theorem dd_M_deliver_2 : decode cb_M_deliver 2 = .ok (.invokevirtual 94, 3) := by decide +kernel
theorem dd_M_deliver_5 : decode cb_M_deliver 5 = .ok (.ifCond .ne 11, 3) := by decide +kernel
theorem dd_M_deliver_8 : decode cb_M_deliver 8 = .ok (.aload_n 0, 1) := by decide +kernel
theorem dd_M_deliver_9 : decode cb_M_deliver 9 = .ok (.iload_n 2, 1) := by decide +kernel
theorem dd_M_deliver_10 : decode cb_M_deliver 10 = .ok (.invokevirtual 98, 3) := by decide +kernel
theorem dd_M_deliver_13 : decode cb_M_deliver 13 = .ok (.ifCond .eq 5, 3) := by decide +kernel
theorem dd_M_deliver_16 : decode cb_M_deliver 16 = .ok (.iconst (-1), 1) := by decide +kernel
theorem dd_M_deliver_17 : decode cb_M_deliver 17 = .ok (.ireturn, 1) := by decide +kernel
theorem dd_M_deliver_18 : decode cb_M_deliver 18 = .ok (.aload_n 0, 1) := by decide +kernel
theorem dd_M_deliver_19 : decode cb_M_deliver 19 = .ok (.iconst 0, 1) := by decide +kernel
theorem dd_M_deliver_20 : decode cb_M_deliver 20 = .ok (.iload_n 1, 1) := by decide +kernel
theorem dd_M_deliver_21 : decode cb_M_deliver 21 = .ok (.iload_n 2, 1) := by decide +kernel
theorem dd_M_deliver_22 : decode cb_M_deliver 22 = .ok (.iload_n 3, 1) := by decide +kernel
theorem dd_M_deliver_23 : decode cb_M_deliver 23 = .ok (.invokevirtual 128, 3) := by decide +kernel
theorem dd_M_deliver_26 : decode cb_M_deliver 26 = .ok (.istore 4, 2) := by decide +kernel
theorem dd_M_deliver_28 : decode cb_M_deliver 28 = .ok (.iload 4, 2) := by decide +kernel
theorem dd_M_deliver_30 : decode cb_M_deliver 30 = .ok (.ifCond .ge 6, 3) := by decide +kernel
theorem dd_M_deliver_33 : decode cb_M_deliver 33 = .ok (.bipush (-2), 2) := by decide +kernel
theorem dd_M_deliver_35 : decode cb_M_deliver 35 = .ok (.ireturn, 1) := by decide +kernel
theorem dd_M_deliver_36 : decode cb_M_deliver 36 = .ok (.aload_n 0, 1) := by decide +kernel
theorem dd_M_deliver_37 : decode cb_M_deliver 37 = .ok (.getfield 72, 3) := by decide +kernel
theorem dd_M_deliver_40 : decode cb_M_deliver 40 = .ok (.iload 4, 2) := by decide +kernel
theorem dd_M_deliver_42 : decode cb_M_deliver 42 = .ok (.iaload, 1) := by decide +kernel
theorem dd_M_deliver_43 : decode cb_M_deliver 43 = .ok (.istore 5, 2) := by decide +kernel
theorem dd_M_deliver_45 : decode cb_M_deliver 45 = .ok (.aload_n 0, 1) := by decide +kernel
theorem dd_M_deliver_46 : decode cb_M_deliver 46 = .ok (.getfield 75, 3) := by decide +kernel
theorem dd_M_deliver_49 : decode cb_M_deliver 49 = .ok (.iload 4, 2) := by decide +kernel
theorem dd_M_deliver_51 : decode cb_M_deliver 51 = .ok (.iaload, 1) := by decide +kernel
theorem dd_M_deliver_52 : decode cb_M_deliver 52 = .ok (.istore 6, 2) := by decide +kernel
theorem dd_M_deliver_54 : decode cb_M_deliver 54 = .ok (.aload_n 0, 1) := by decide +kernel
theorem dd_M_deliver_55 : decode cb_M_deliver 55 = .ok (.getfield 78, 3) := by decide +kernel
theorem dd_M_deliver_58 : decode cb_M_deliver 58 = .ok (.iload 4, 2) := by decide +kernel
theorem dd_M_deliver_60 : decode cb_M_deliver 60 = .ok (.laload, 1) := by decide +kernel
theorem dd_M_deliver_61 : decode cb_M_deliver 61 = .ok (.lstore 7, 2) := by decide +kernel
theorem dd_M_deliver_63 : decode cb_M_deliver 63 = .ok (.aload_n 0, 1) := by decide +kernel
end
section
theorem dd_M_deliver_64 : decode cb_M_deliver 64 = .ok (.getfield 69, 3) := by decide +kernel
theorem dd_M_deliver_67 : decode cb_M_deliver 67 = .ok (.iload 4, 2) := by decide +kernel
theorem dd_M_deliver_69 : decode cb_M_deliver 69 = .ok (.iaload, 1) := by decide +kernel
theorem dd_M_deliver_70 : decode cb_M_deliver 70 = .ok (.istore 9, 2) := by decide +kernel
theorem dd_M_deliver_72 : decode cb_M_deliver 72 = .ok (.aload_n 0, 1) := by decide +kernel
theorem dd_M_deliver_73 : decode cb_M_deliver 73 = .ok (.iload 4, 2) := by decide +kernel
theorem dd_M_deliver_75 : decode cb_M_deliver 75 = .ok (.invokevirtual 132, 3) := by decide +kernel
theorem dd_M_deliver_78 : decode cb_M_deliver 78 = .ok (.iload 5, 2) := by decide +kernel
theorem dd_M_deliver_80 : decode cb_M_deliver 80 = .ok (.iconst 2, 1) := by decide +kernel
theorem dd_M_deliver_81 : decode cb_M_deliver 81 = .ok (.if_icmp .ne 12, 3) := by decide +kernel
theorem dd_M_deliver_84 : decode cb_M_deliver 84 = .ok (.aload_n 0, 1) := by decide +kernel
theorem dd_M_deliver_85 : decode cb_M_deliver 85 = .ok (.iload_n 2, 1) := by decide +kernel
theorem dd_M_deliver_86 : decode cb_M_deliver 86 = .ok (.iload 6, 2) := by decide +kernel
theorem dd_M_deliver_88 : decode cb_M_deliver 88 = .ok (.lload 7, 2) := by decide +kernel
theorem dd_M_deliver_90 : decode cb_M_deliver 90 = .ok (.invokevirtual 136, 3) := by decide +kernel
theorem dd_M_deliver_93 : decode cb_M_deliver 93 = .ok (.iload 5, 2) := by decide +kernel
theorem dd_M_deliver_95 : decode cb_M_deliver 95 = .ok (.iconst 3, 1) := by decide +kernel
theorem dd_M_deliver_96 : decode cb_M_deliver 96 = .ok (.if_icmp .eq 9, 3) := by decide +kernel
theorem dd_M_deliver_99 : decode cb_M_deliver 99 = .ok (.iload 5, 2) := by decide +kernel
theorem dd_M_deliver_101 : decode cb_M_deliver 101 = .ok (.iconst 5, 1) := by decide +kernel
theorem dd_M_deliver_102 : decode cb_M_deliver 102 = .ok (.if_icmp .ne 22, 3) := by decide +kernel
theorem dd_M_deliver_105 : decode cb_M_deliver 105 = .ok (.iload 6, 2) := by decide +kernel
theorem dd_M_deliver_107 : decode cb_M_deliver 107 = .ok (.aload_n 0, 1) := by decide +kernel
theorem dd_M_deliver_108 : decode cb_M_deliver 108 = .ok (.getfield 45, 3) := by decide +kernel
theorem dd_M_deliver_111 : decode cb_M_deliver 111 = .ok (.iload_n 2, 1) := by decide +kernel
theorem dd_M_deliver_112 : decode cb_M_deliver 112 = .ok (.iaload, 1) := by decide +kernel
theorem dd_M_deliver_113 : decode cb_M_deliver 113 = .ok (.if_icmp .le 11, 3) := by decide +kernel
theorem dd_M_deliver_116 : decode cb_M_deliver 116 = .ok (.aload_n 0, 1) := by decide +kernel
theorem dd_M_deliver_117 : decode cb_M_deliver 117 = .ok (.getfield 45, 3) := by decide +kernel
theorem dd_M_deliver_120 : decode cb_M_deliver 120 = .ok (.iload_n 2, 1) := by decide +kernel
theorem dd_M_deliver_121 : decode cb_M_deliver 121 = .ok (.iload 6, 2) := by decide +kernel
theorem dd_M_deliver_123 : decode cb_M_deliver 123 = .ok (.iastore, 1) := by decide +kernel
theorem dd_M_deliver_124 : decode cb_M_deliver 124 = .ok (.iload 5, 2) := by decide +kernel
theorem dd_M_deliver_126 : decode cb_M_deliver 126 = .ok (.iconst 5, 1) := by decide +kernel
theorem dd_M_deliver_127 : decode cb_M_deliver 127 = .ok (.if_icmp .ne 13, 3) := by decide +kernel
theorem dd_M_deliver_130 : decode cb_M_deliver 130 = .ok (.aload_n 0, 1) := by decide +kernel
theorem dd_M_deliver_131 : decode cb_M_deliver 131 = .ok (.iload_n 2, 1) := by decide +kernel
theorem dd_M_deliver_132 : decode cb_M_deliver 132 = .ok (.iload 6, 2) := by decide +kernel
theorem dd_M_deliver_134 : decode cb_M_deliver 134 = .ok (.invokevirtual 124, 3) := by decide +kernel
theorem dd_M_deliver_137 : decode cb_M_deliver 137 = .ok (.goto 4, 3) := by decide +kernel
theorem dd_M_deliver_140 : decode cb_M_deliver 140 = .ok (.iconst (-1), 1) := by decide +kernel
theorem dd_M_deliver_141 : decode cb_M_deliver 141 = .ok (.istore 10, 2) := by decide +kernel
theorem dd_M_deliver_143 : decode cb_M_deliver 143 = .ok (.aload_n 0, 1) := by decide +kernel
theorem dd_M_deliver_144 : decode cb_M_deliver 144 = .ok (.iconst 1, 1) := by decide +kernel
theorem dd_M_deliver_145 : decode cb_M_deliver 145 = .ok (.iload_n 1, 1) := by decide +kernel
theorem dd_M_deliver_146 : decode cb_M_deliver 146 = .ok (.iload_n 2, 1) := by decide +kernel
theorem dd_M_deliver_147 : decode cb_M_deliver 147 = .ok (.iload 5, 2) := by decide +kernel
theorem dd_M_deliver_149 : decode cb_M_deliver 149 = .ok (.iload 9, 2) := by decide +kernel
theorem dd_M_deliver_151 : decode cb_M_deliver 151 = .ok (.invokevirtual 105, 3) := by decide +kernel
theorem dd_M_deliver_154 : decode cb_M_deliver 154 = .ok (.aload_n 0, 1) := by decide +kernel
theorem dd_M_deliver_155 : decode cb_M_deliver 155 = .ok (.getfield 75, 3) := by decide +kernel
theorem dd_M_deliver_158 : decode cb_M_deliver 158 = .ok (.aload_n 0, 1) := by decide +kernel
theorem dd_M_deliver_159 : decode cb_M_deliver 159 = .ok (.getfield 91, 3) := by decide +kernel
theorem dd_M_deliver_162 : decode cb_M_deliver 162 = .ok (.iconst 1, 1) := by decide +kernel
theorem dd_M_deliver_163 : decode cb_M_deliver 163 = .ok (.isub, 1) := by decide +kernel
theorem dd_M_deliver_164 : decode cb_M_deliver 164 = .ok (.aload_n 0, 1) := by decide +kernel
theorem dd_M_deliver_165 : decode cb_M_deliver 165 = .ok (.getfield 45, 3) := by decide +kernel
theorem dd_M_deliver_168 : decode cb_M_deliver 168 = .ok (.iload_n 2, 1) := by decide +kernel
theorem dd_M_deliver_169 : decode cb_M_deliver 169 = .ok (.iaload, 1) := by decide +kernel
theorem dd_M_deliver_170 : decode cb_M_deliver 170 = .ok (.iastore, 1) := by decide +kernel
theorem dd_M_deliver_171 : decode cb_M_deliver 171 = .ok (.aload_n 0, 1) := by decide +kernel
theorem dd_M_deliver_172 : decode cb_M_deliver 172 = .ok (.getfield 60, 3) := by decide +kernel
theorem dd_M_deliver_175 : decode cb_M_deliver 175 = .ok (.aload_n 0, 1) := by decide +kernel
theorem dd_M_deliver_176 : decode cb_M_deliver 176 = .ok (.getfield 91, 3) := by decide +kernel
theorem dd_M_deliver_179 : decode cb_M_deliver 179 = .ok (.iconst 1, 1) := by decide +kernel
theorem dd_M_deliver_180 : decode cb_M_deliver 180 = .ok (.isub, 1) := by decide +kernel
theorem dd_M_deliver_181 : decode cb_M_deliver 181 = .ok (.iload 10, 2) := by decide +kernel
theorem dd_M_deliver_183 : decode cb_M_deliver 183 = .ok (.ifCond .lt 7, 3) := by decide +kernel
theorem dd_M_deliver_186 : decode cb_M_deliver 186 = .ok (.iconst 1, 1) := by decide +kernel
theorem dd_M_deliver_187 : decode cb_M_deliver 187 = .ok (.goto 4, 3) := by decide +kernel
theorem dd_M_deliver_190 : decode cb_M_deliver 190 = .ok (.iconst 0, 1) := by decide +kernel
theorem dd_M_deliver_191 : decode cb_M_deliver 191 = .ok (.bastore, 1) := by decide +kernel
theorem dd_M_deliver_192 : decode cb_M_deliver 192 = .ok (.aload_n 0, 1) := by decide +kernel
theorem dd_M_deliver_193 : decode cb_M_deliver 193 = .ok (.getfield 78, 3) := by decide +kernel
theorem dd_M_deliver_196 : decode cb_M_deliver 196 = .ok (.aload_n 0, 1) := by decide +kernel
theorem dd_M_deliver_197 : decode cb_M_deliver 197 = .ok (.getfield 91, 3) := by decide +kernel
theorem dd_M_deliver_200 : decode cb_M_deliver 200 = .ok (.iconst 1, 1) := by decide +kernel
theorem dd_M_deliver_201 : decode cb_M_deliver 201 = .ok (.isub, 1) := by decide +kernel
theorem dd_M_deliver_202 : decode cb_M_deliver 202 = .ok (.iload 10, 2) := by decide +kernel
theorem dd_M_deliver_204 : decode cb_M_deliver 204 = .ok (.ifCond .lt 13, 3) := by decide +kernel
theorem dd_M_deliver_207 : decode cb_M_deliver 207 = .ok (.aload_n 0, 1) := by decide +kernel
theorem dd_M_deliver_208 : decode cb_M_deliver 208 = .ok (.getfield 54, 3) := by decide +kernel
theorem dd_M_deliver_211 : decode cb_M_deliver 211 = .ok (.iload 10, 2) := by decide +kernel
theorem dd_M_deliver_213 : decode cb_M_deliver 213 = .ok (.laload, 1) := by decide +kernel
theorem dd_M_deliver_214 : decode cb_M_deliver 214 = .ok (.goto 4, 3) := by decide +kernel
theorem dd_M_deliver_217 : decode cb_M_deliver 217 = .ok (.lconst 0, 1) := by decide +kernel
theorem dd_M_deliver_218 : decode cb_M_deliver 218 = .ok (.lastore, 1) := by decide +kernel
theorem dd_M_deliver_219 : decode cb_M_deliver 219 = .ok (.iload 5, 2) := by decide +kernel
theorem dd_M_deliver_221 : decode cb_M_deliver 221 = .ok (.ireturn, 1) := by decide +kernel
theorem dd_M_hear_0 : decode cb_M_hear 0 = .ok (.aload_n 0, 1) := by decide +kernel
theorem dd_M_hear_1 : decode cb_M_hear 1 = .ok (.iload_n 1, 1) := by decide +kernel
theorem dd_M_hear_2 : decode cb_M_hear 2 = .ok (.invokevirtual 94, 3) := by decide +kernel
theorem dd_M_hear_5 : decode cb_M_hear 5 = .ok (.ifCond .ne 11, 3) := by decide +kernel
theorem dd_M_hear_8 : decode cb_M_hear 8 = .ok (.aload_n 0, 1) := by decide +kernel
theorem dd_M_hear_9 : decode cb_M_hear 9 = .ok (.iload_n 2, 1) := by decide +kernel
theorem dd_M_hear_10 : decode cb_M_hear 10 = .ok (.invokevirtual 98, 3) := by decide +kernel
theorem dd_M_hear_13 : decode cb_M_hear 13 = .ok (.ifCond .eq 5, 3) := by decide +kernel
theorem dd_M_hear_16 : decode cb_M_hear 16 = .ok (.iconst (-1), 1) := by decide +kernel
theorem dd_M_hear_17 : decode cb_M_hear 17 = .ok (.ireturn, 1) := by decide +kernel
theorem dd_M_hear_18 : decode cb_M_hear 18 = .ok (.aload_n 0, 1) := by decide +kernel
theorem dd_M_hear_19 : decode cb_M_hear 19 = .ok (.iconst 1, 1) := by decide +kernel
theorem dd_M_hear_20 : decode cb_M_hear 20 = .ok (.iload_n 1, 1) := by decide +kernel
theorem dd_M_hear_21 : decode cb_M_hear 21 = .ok (.iload_n 2, 1) := by decide +kernel
theorem dd_M_hear_22 : decode cb_M_hear 22 = .ok (.iload_n 3, 1) := by decide +kernel
theorem dd_M_hear_23 : decode cb_M_hear 23 = .ok (.invokevirtual 128, 3) := by decide +kernel
theorem dd_M_hear_26 : decode cb_M_hear 26 = .ok (.istore 4, 2) := by decide +kernel
theorem dd_M_hear_28 : decode cb_M_hear 28 = .ok (.iload 4, 2) := by decide +kernel
theorem dd_M_hear_30 : decode cb_M_hear 30 = .ok (.ifCond .ge 6, 3) := by decide +kernel
theorem dd_M_hear_33 : decode cb_M_hear 33 = .ok (.bipush (-2), 2) := by decide +kernel
theorem dd_M_hear_35 : decode cb_M_hear 35 = .ok (.ireturn, 1) := by decide +kernel
theorem dd_M_hear_36 : decode cb_M_hear 36 = .ok (.aload_n 0, 1) := by decide +kernel
theorem dd_M_hear_37 : decode cb_M_hear 37 = .ok (.getfield 7, 3) := by decide +kernel
theorem dd_M_hear_40 : decode cb_M_hear 40 = .ok (.iload_n 1, 1) := by decide +kernel
theorem dd_M_hear_41 : decode cb_M_hear 41 = .ok (.iaload, 1) := by decide +kernel
theorem dd_M_hear_42 : decode cb_M_hear 42 = .ok (.ifCond .eq 34, 3) := by decide +kernel
theorem dd_M_hear_45 : decode cb_M_hear 45 = .ok (.aload_n 0, 1) := by decide +kernel
theorem dd_M_hear_46 : decode cb_M_hear 46 = .ok (.getfield 7, 3) := by decide +kernel
theorem dd_M_hear_49 : decode cb_M_hear 49 = .ok (.iload_n 1, 1) := by decide +kernel
theorem dd_M_hear_50 : decode cb_M_hear 50 = .ok (.iaload, 1) := by decide +kernel
theorem dd_M_hear_51 : decode cb_M_hear 51 = .ok (.bipush 6, 2) := by decide +kernel
theorem dd_M_hear_53 : decode cb_M_hear 53 = .ok (.if_icmp .eq 23, 3) := by decide +kernel
theorem dd_M_hear_56 : decode cb_M_hear 56 = .ok (.aload_n 0, 1) := by decide +kernel
theorem dd_M_hear_57 : decode cb_M_hear 57 = .ok (.getfield 69, 3) := by decide +kernel
theorem dd_M_hear_60 : decode cb_M_hear 60 = .ok (.iload 4, 2) := by decide +kernel
theorem dd_M_hear_62 : decode cb_M_hear 62 = .ok (.iaload, 1) := by decide +kernel
theorem dd_M_hear_63 : decode cb_M_hear 63 = .ok (.aload_n 0, 1) := by decide +kernel
theorem dd_M_hear_64 : decode cb_M_hear 64 = .ok (.getfield 13, 3) := by decide +kernel
theorem dd_M_hear_67 : decode cb_M_hear 67 = .ok (.iload_n 1, 1) := by decide +kernel
theorem dd_M_hear_68 : decode cb_M_hear 68 = .ok (.iaload, 1) := by decide +kernel
theorem dd_M_hear_69 : decode cb_M_hear 69 = .ok (.if_icmp .ne 7, 3) := by decide +kernel
theorem dd_M_hear_72 : decode cb_M_hear 72 = .ok (.iconst 1, 1) := by decide +kernel
theorem dd_M_hear_73 : decode cb_M_hear 73 = .ok (.goto 4, 3) := by decide +kernel
theorem dd_M_hear_76 : decode cb_M_hear 76 = .ok (.iconst 0, 1) := by decide +kernel
theorem dd_M_hear_77 : decode cb_M_hear 77 = .ok (.istore 5, 2) := by decide +kernel
theorem dd_M_hear_79 : decode cb_M_hear 79 = .ok (.aload_n 0, 1) := by decide +kernel
theorem dd_M_hear_80 : decode cb_M_hear 80 = .ok (.getfield 75, 3) := by decide +kernel
theorem dd_M_hear_83 : decode cb_M_hear 83 = .ok (.iload 4, 2) := by decide +kernel
theorem dd_M_hear_85 : decode cb_M_hear 85 = .ok (.iaload, 1) := by decide +kernel
theorem dd_M_hear_86 : decode cb_M_hear 86 = .ok (.istore 6, 2) := by decide +kernel
theorem dd_M_hear_88 : decode cb_M_hear 88 = .ok (.aload_n 0, 1) := by decide +kernel
theorem dd_M_hear_89 : decode cb_M_hear 89 = .ok (.getfield 60, 3) := by decide +kernel
theorem dd_M_hear_92 : decode cb_M_hear 92 = .ok (.iload 4, 2) := by decide +kernel
theorem dd_M_hear_94 : decode cb_M_hear 94 = .ok (.baload, 1) := by decide +kernel
theorem dd_M_hear_95 : decode cb_M_hear 95 = .ok (.istore 7, 2) := by decide +kernel
theorem dd_M_hear_97 : decode cb_M_hear 97 = .ok (.aload_n 0, 1) := by decide +kernel
theorem dd_M_hear_98 : decode cb_M_hear 98 = .ok (.getfield 78, 3) := by decide +kernel
theorem dd_M_hear_101 : decode cb_M_hear 101 = .ok (.iload 4, 2) := by decide +kernel
theorem dd_M_hear_103 : decode cb_M_hear 103 = .ok (.laload, 1) := by decide +kernel
theorem dd_M_hear_104 : decode cb_M_hear 104 = .ok (.lstore 8, 2) := by decide +kernel
theorem dd_M_hear_106 : decode cb_M_hear 106 = .ok (.aload_n 0, 1) := by decide +kernel
theorem dd_M_hear_107 : decode cb_M_hear 107 = .ok (.iload 4, 2) := by decide +kernel
theorem dd_M_hear_109 : decode cb_M_hear 109 = .ok (.invokevirtual 132, 3) := by decide +kernel
theorem dd_M_hear_112 : decode cb_M_hear 112 = .ok (.iload 5, 2) := by decide +kernel
theorem dd_M_hear_114 : decode cb_M_hear 114 = .ok (.ifCond .ne 5, 3) := by decide +kernel
theorem dd_M_hear_117 : decode cb_M_hear 117 = .ok (.iconst 0, 1) := by decide +kernel
theorem dd_M_hear_118 : decode cb_M_hear 118 = .ok (.ireturn, 1) := by decide +kernel
theorem dd_M_hear_119 : decode cb_M_hear 119 = .ok (.aload_n 0, 1) := by decide +kernel
theorem dd_M_hear_120 : decode cb_M_hear 120 = .ok (.getfield 16, 3) := by decide +kernel
theorem dd_M_hear_123 : decode cb_M_hear 123 = .ok (.iload_n 1, 1) := by decide +kernel
theorem dd_M_hear_124 : decode cb_M_hear 124 = .ok (.dup2, 1) := by decide +kernel
theorem dd_M_hear_125 : decode cb_M_hear 125 = .ok (.iaload, 1) := by decide +kernel
theorem dd_M_hear_126 : decode cb_M_hear 126 = .ok (.iconst 1, 1) := by decide +kernel
theorem dd_M_hear_127 : decode cb_M_hear 127 = .ok (.iadd, 1) := by decide +kernel
theorem dd_M_hear_128 : decode cb_M_hear 128 = .ok (.iastore, 1) := by decide +kernel
theorem dd_M_hear_129 : decode cb_M_hear 129 = .ok (.aload_n 0, 1) := by decide +kernel
theorem dd_M_hear_130 : decode cb_M_hear 130 = .ok (.getfield 22, 3) := by decide +kernel
theorem dd_M_hear_133 : decode cb_M_hear 133 = .ok (.iload_n 1, 1) := by decide +kernel
theorem dd_M_hear_134 : decode cb_M_hear 134 = .ok (.iload 6, 2) := by decide +kernel
theorem dd_M_hear_136 : decode cb_M_hear 136 = .ok (.aload_n 0, 1) := by decide +kernel
theorem dd_M_hear_137 : decode cb_M_hear 137 = .ok (.getfield 22, 3) := by decide +kernel
theorem dd_M_hear_140 : decode cb_M_hear 140 = .ok (.iload_n 1, 1) := by decide +kernel
theorem dd_M_hear_141 : decode cb_M_hear 141 = .ok (.iaload, 1) := by decide +kernel
theorem dd_M_hear_142 : decode cb_M_hear 142 = .ok (.if_icmp .le 8, 3) := by decide +kernel
theorem dd_M_hear_145 : decode cb_M_hear 145 = .ok (.iload 6, 2) := by decide +kernel
theorem dd_M_hear_147 : decode cb_M_hear 147 = .ok (.goto 9, 3) := by decide +kernel
theorem dd_M_hear_150 : decode cb_M_hear 150 = .ok (.aload_n 0, 1) := by decide +kernel
theorem dd_M_hear_151 : decode cb_M_hear 151 = .ok (.getfield 22, 3) := by decide +kernel
theorem dd_M_hear_154 : decode cb_M_hear 154 = .ok (.iload_n 1, 1) := by decide +kernel
theorem dd_M_hear_155 : decode cb_M_hear 155 = .ok (.iaload, 1) := by decide +kernel
theorem dd_M_hear_156 : decode cb_M_hear 156 = .ok (.iastore, 1) := by decide +kernel
theorem dd_M_hear_157 : decode cb_M_hear 157 = .ok (.iload 7, 2) := by decide +kernel
theorem dd_M_hear_159 : decode cb_M_hear 159 = .ok (.ifCond .eq 21, 3) := by decide +kernel
theorem dd_M_hear_162 : decode cb_M_hear 162 = .ok (.aload_n 0, 1) := by decide +kernel
theorem dd_M_hear_163 : decode cb_M_hear 163 = .ok (.getfield 19, 3) := by decide +kernel
theorem dd_M_hear_166 : decode cb_M_hear 166 = .ok (.iload_n 1, 1) := by decide +kernel
theorem dd_M_hear_167 : decode cb_M_hear 167 = .ok (.dup2, 1) := by decide +kernel
theorem dd_M_hear_168 : decode cb_M_hear 168 = .ok (.iaload, 1) := by decide +kernel
theorem dd_M_hear_169 : decode cb_M_hear 169 = .ok (.iconst 1, 1) := by decide +kernel
theorem dd_M_hear_170 : decode cb_M_hear 170 = .ok (.iadd, 1) := by decide +kernel
theorem dd_M_hear_171 : decode cb_M_hear 171 = .ok (.iastore, 1) := by decide +kernel
theorem dd_M_hear_172 : decode cb_M_hear 172 = .ok (.aload_n 0, 1) := by decide +kernel
theorem dd_M_hear_173 : decode cb_M_hear 173 = .ok (.getfield 35, 3) := by decide +kernel
theorem dd_M_hear_176 : decode cb_M_hear 176 = .ok (.iload_n 1, 1) := by decide +kernel
theorem dd_M_hear_177 : decode cb_M_hear 177 = .ok (.lload 8, 2) := by decide +kernel
theorem dd_M_hear_179 : decode cb_M_hear 179 = .ok (.lastore, 1) := by decide +kernel
theorem dd_M_hear_180 : decode cb_M_hear 180 = .ok (.aload_n 0, 1) := by decide +kernel
theorem dd_M_hear_181 : decode cb_M_hear 181 = .ok (.iload_n 1, 1) := by decide +kernel
theorem dd_M_hear_182 : decode cb_M_hear 182 = .ok (.invokevirtual 140, 3) := by decide +kernel
theorem dd_M_hear_185 : decode cb_M_hear 185 = .ok (.ireturn, 1) := by decide +kernel
theorem dd_M_onwards_0 : decode cb_M_onwards 0 = .ok (.aload_n 0, 1) := by decide +kernel
theorem dd_M_onwards_1 : decode cb_M_onwards 1 = .ok (.getfield 7, 3) := by decide +kernel
theorem dd_M_onwards_4 : decode cb_M_onwards 4 = .ok (.iload_n 1, 1) := by decide +kernel
theorem dd_M_onwards_5 : decode cb_M_onwards 5 = .ok (.iaload, 1) := by decide +kernel
theorem dd_M_onwards_6 : decode cb_M_onwards 6 = .ok (.istore_n 2, 1) := by decide +kernel
theorem dd_M_onwards_7 : decode cb_M_onwards 7 = .ok (.aload_n 0, 1) := by decide +kernel
theorem dd_M_onwards_8 : decode cb_M_onwards 8 = .ok (.getfield 16, 3) := by decide +kernel
theorem dd_M_onwards_11 : decode cb_M_onwards 11 = .ok (.iload_n 1, 1) := by decide +kernel
theorem dd_M_onwards_12 : decode cb_M_onwards 12 = .ok (.iaload, 1) := by decide +kernel
theorem dd_M_onwards_13 : decode cb_M_onwards 13 = .ok (.aload_n 0, 1) := by decide +kernel
theorem dd_M_onwards_14 : decode cb_M_onwards 14 = .ok (.invokevirtual 120, 3) := by decide +kernel
theorem dd_M_onwards_17 : decode cb_M_onwards 17 = .ok (.if_icmp .lt 21, 3) := by decide +kernel
theorem dd_M_onwards_20 : decode cb_M_onwards 20 = .ok (.iload_n 2, 1) := by decide +kernel
theorem dd_M_onwards_21 : decode cb_M_onwards 21 = .ok (.iconst 5, 1) := by decide +kernel
theorem dd_M_onwards_22 : decode cb_M_onwards 22 = .ok (.if_icmp .ne 18, 3) := by decide +kernel
theorem dd_M_onwards_25 : decode cb_M_onwards 25 = .ok (.aload_n 0, 1) := by decide +kernel
theorem dd_M_onwards_26 : decode cb_M_onwards 26 = .ok (.getfield 19, 3) := by decide +kernel
theorem dd_M_onwards_29 : decode cb_M_onwards 29 = .ok (.iload_n 1, 1) := by decide +kernel
theorem dd_M_onwards_30 : decode cb_M_onwards 30 = .ok (.iaload, 1) := by decide +kernel
theorem dd_M_onwards_31 : decode cb_M_onwards 31 = .ok (.aload_n 0, 1) := by decide +kernel
theorem dd_M_onwards_32 : decode cb_M_onwards 32 = .ok (.getfield 85, 3) := by decide +kernel
theorem dd_M_onwards_35 : decode cb_M_onwards 35 = .ok (.if_icmp .ge 5, 3) := by decide +kernel
theorem dd_M_onwards_38 : decode cb_M_onwards 38 = .ok (.iconst 1, 1) := by decide +kernel
theorem dd_M_onwards_39 : decode cb_M_onwards 39 = .ok (.ireturn, 1) := by decide +kernel
theorem dd_M_onwards_40 : decode cb_M_onwards 40 = .ok (.iload_n 2, 1) := by decide +kernel
theorem dd_M_onwards_41 : decode cb_M_onwards 41 = .ok (.iconst 3, 1) := by decide +kernel
theorem dd_M_onwards_42 : decode cb_M_onwards 42 = .ok (.if_icmp .eq 8, 3) := by decide +kernel
theorem dd_M_onwards_45 : decode cb_M_onwards 45 = .ok (.iload_n 2, 1) := by decide +kernel
theorem dd_M_onwards_46 : decode cb_M_onwards 46 = .ok (.iconst 5, 1) := by decide +kernel
theorem dd_M_onwards_47 : decode cb_M_onwards 47 = .ok (.if_icmp .ne 48, 3) := by decide +kernel
theorem dd_M_onwards_50 : decode cb_M_onwards 50 = .ok (.aload_n 0, 1) := by decide +kernel
theorem dd_M_onwards_51 : decode cb_M_onwards 51 = .ok (.getfield 38, 3) := by decide +kernel
theorem dd_M_onwards_54 : decode cb_M_onwards 54 = .ok (.iload_n 1, 1) := by decide +kernel
theorem dd_M_onwards_55 : decode cb_M_onwards 55 = .ok (.iload_n 2, 1) := by decide +kernel
theorem dd_M_onwards_56 : decode cb_M_onwards 56 = .ok (.iconst 5, 1) := by decide +kernel
theorem dd_M_onwards_57 : decode cb_M_onwards 57 = .ok (.if_icmp .ne 12, 3) := by decide +kernel
theorem dd_M_onwards_60 : decode cb_M_onwards 60 = .ok (.aload_n 0, 1) := by decide +kernel
theorem dd_M_onwards_61 : decode cb_M_onwards 61 = .ok (.getfield 35, 3) := by decide +kernel
theorem dd_M_onwards_64 : decode cb_M_onwards 64 = .ok (.iload_n 1, 1) := by decide +kernel
theorem dd_M_onwards_65 : decode cb_M_onwards 65 = .ok (.laload, 1) := by decide +kernel
theorem dd_M_onwards_66 : decode cb_M_onwards 66 = .ok (.goto 9, 3) := by decide +kernel
theorem dd_M_onwards_69 : decode cb_M_onwards 69 = .ok (.aload_n 0, 1) := by decide +kernel
theorem dd_M_onwards_70 : decode cb_M_onwards 70 = .ok (.getfield 38, 3) := by decide +kernel
theorem dd_M_onwards_73 : decode cb_M_onwards 73 = .ok (.iload_n 1, 1) := by decide +kernel
theorem dd_M_onwards_74 : decode cb_M_onwards 74 = .ok (.laload, 1) := by decide +kernel
theorem dd_M_onwards_75 : decode cb_M_onwards 75 = .ok (.lastore, 1) := by decide +kernel
theorem dd_M_onwards_76 : decode cb_M_onwards 76 = .ok (.aload_n 0, 1) := by decide +kernel
theorem dd_M_onwards_77 : decode cb_M_onwards 77 = .ok (.getfield 7, 3) := by decide +kernel
theorem dd_M_onwards_80 : decode cb_M_onwards 80 = .ok (.iload_n 1, 1) := by decide +kernel
theorem dd_M_onwards_81 : decode cb_M_onwards 81 = .ok (.iconst 0, 1) := by decide +kernel
theorem dd_M_onwards_82 : decode cb_M_onwards 82 = .ok (.iastore, 1) := by decide +kernel
theorem dd_M_onwards_83 : decode cb_M_onwards 83 = .ok (.aload_n 0, 1) := by decide +kernel
theorem dd_M_onwards_84 : decode cb_M_onwards 84 = .ok (.getfield 28, 3) := by decide +kernel
theorem dd_M_onwards_87 : decode cb_M_onwards 87 = .ok (.iload_n 1, 1) := by decide +kernel
theorem dd_M_onwards_88 : decode cb_M_onwards 88 = .ok (.dup2, 1) := by decide +kernel
theorem dd_M_onwards_89 : decode cb_M_onwards 89 = .ok (.iaload, 1) := by decide +kernel
theorem dd_M_onwards_90 : decode cb_M_onwards 90 = .ok (.iconst 1, 1) := by decide +kernel
theorem dd_M_onwards_91 : decode cb_M_onwards 91 = .ok (.iadd, 1) := by decide +kernel
theorem dd_M_onwards_92 : decode cb_M_onwards 92 = .ok (.iastore, 1) := by decide +kernel
theorem dd_M_onwards_93 : decode cb_M_onwards 93 = .ok (.iconst 3, 1) := by decide +kernel
theorem dd_M_onwards_94 : decode cb_M_onwards 94 = .ok (.ireturn, 1) := by decide +kernel
theorem dd_M_onwards_95 : decode cb_M_onwards 95 = .ok (.iload_n 2, 1) := by decide +kernel
theorem dd_M_onwards_96 : decode cb_M_onwards 96 = .ok (.iconst 1, 1) := by decide +kernel
theorem dd_M_onwards_97 : decode cb_M_onwards 97 = .ok (.if_icmp .ne 25, 3) := by decide +kernel
theorem dd_M_onwards_100 : decode cb_M_onwards 100 = .ok (.aload_n 0, 1) := by decide +kernel
theorem dd_M_onwards_101 : decode cb_M_onwards 101 = .ok (.getfield 25, 3) := by decide +kernel
theorem dd_M_onwards_104 : decode cb_M_onwards 104 = .ok (.iload_n 1, 1) := by decide +kernel
theorem dd_M_onwards_105 : decode cb_M_onwards 105 = .ok (.bipush 8, 2) := by decide +kernel
theorem dd_M_onwards_107 : decode cb_M_onwards 107 = .ok (.aload_n 0, 1) := by decide +kernel
theorem dd_M_onwards_108 : decode cb_M_onwards 108 = .ok (.getfield 22, 3) := by decide +kernel
theorem dd_M_onwards_111 : decode cb_M_onwards 111 = .ok (.iload_n 1, 1) := by decide +kernel
theorem dd_M_onwards_112 : decode cb_M_onwards 112 = .ok (.iaload, 1) := by decide +kernel
theorem dd_M_onwards_113 : decode cb_M_onwards 113 = .ok (.bipush 8, 2) := by decide +kernel
theorem dd_M_onwards_115 : decode cb_M_onwards 115 = .ok (.idiv, 1) := by decide +kernel
theorem dd_M_onwards_116 : decode cb_M_onwards 116 = .ok (.iconst 1, 1) := by decide +kernel
theorem dd_M_onwards_117 : decode cb_M_onwards 117 = .ok (.iadd, 1) := by decide +kernel
theorem dd_M_onwards_118 : decode cb_M_onwards 118 = .ok (.imul, 1) := by decide +kernel
theorem dd_M_onwards_119 : decode cb_M_onwards 119 = .ok (.iload_n 1, 1) := by decide +kernel
theorem dd_M_onwards_120 : decode cb_M_onwards 120 = .ok (.iadd, 1) := by decide +kernel
theorem dd_M_onwards_121 : decode cb_M_onwards 121 = .ok (.iastore, 1) := by decide +kernel
theorem dd_M_onwards_122 : decode cb_M_onwards 122 = .ok (.iload_n 2, 1) := by decide +kernel
theorem dd_M_onwards_123 : decode cb_M_onwards 123 = .ok (.iconst 4, 1) := by decide +kernel
theorem dd_M_onwards_124 : decode cb_M_onwards 124 = .ok (.if_icmp .ne 15, 3) := by decide +kernel
theorem dd_M_onwards_127 : decode cb_M_onwards 127 = .ok (.aload_n 0, 1) := by decide +kernel
theorem dd_M_onwards_128 : decode cb_M_onwards 128 = .ok (.getfield 25, 3) := by decide +kernel
theorem dd_M_onwards_131 : decode cb_M_onwards 131 = .ok (.iload_n 1, 1) := by decide +kernel
theorem dd_M_onwards_132 : decode cb_M_onwards 132 = .ok (.aload_n 0, 1) := by decide +kernel
theorem dd_M_onwards_133 : decode cb_M_onwards 133 = .ok (.getfield 22, 3) := by decide +kernel
theorem dd_M_onwards_136 : decode cb_M_onwards 136 = .ok (.iload_n 1, 1) := by decide +kernel
theorem dd_M_onwards_137 : decode cb_M_onwards 137 = .ok (.iaload, 1) := by decide +kernel
theorem dd_M_onwards_138 : decode cb_M_onwards 138 = .ok (.iastore, 1) := by decide +kernel
theorem dd_M_onwards_139 : decode cb_M_onwards 139 = .ok (.aload_n 0, 1) := by decide +kernel
theorem dd_M_onwards_140 : decode cb_M_onwards 140 = .ok (.iload_n 1, 1) := by decide +kernel
theorem dd_M_onwards_141 : decode cb_M_onwards 141 = .ok (.iload_n 2, 1) := by decide +kernel
theorem dd_M_onwards_142 : decode cb_M_onwards 142 = .ok (.iconst 1, 1) := by decide +kernel
theorem dd_M_onwards_143 : decode cb_M_onwards 143 = .ok (.iadd, 1) := by decide +kernel
theorem dd_M_onwards_144 : decode cb_M_onwards 144 = .ok (.invokevirtual 116, 3) := by decide +kernel
theorem dd_M_onwards_147 : decode cb_M_onwards 147 = .ok (.iconst 2, 1) := by decide +kernel
theorem dd_M_onwards_148 : decode cb_M_onwards 148 = .ok (.ireturn, 1) := by decide +kernel
theorem dd_M_crash_0 : decode cb_M_crash 0 = .ok (.iconst 0, 1) := by decide +kernel
theorem dd_M_crash_1 : decode cb_M_crash 1 = .ok (.istore_n 2, 1) := by decide +kernel
theorem dd_M_crash_2 : decode cb_M_crash 2 = .ok (.iconst 0, 1) := by decide +kernel
theorem dd_M_crash_3 : decode cb_M_crash 3 = .ok (.istore_n 3, 1) := by decide +kernel
theorem dd_M_crash_4 : decode cb_M_crash 4 = .ok (.iload_n 3, 1) := by decide +kernel
theorem dd_M_crash_5 : decode cb_M_crash 5 = .ok (.aload_n 0, 1) := by decide +kernel
theorem dd_M_crash_6 : decode cb_M_crash 6 = .ok (.getfield 81, 3) := by decide +kernel
theorem dd_M_crash_9 : decode cb_M_crash 9 = .ok (.if_icmp .ge 26, 3) := by decide +kernel
theorem dd_M_crash_12 : decode cb_M_crash 12 = .ok (.iload_n 2, 1) := by decide +kernel
theorem dd_M_crash_13 : decode cb_M_crash 13 = .ok (.aload_n 0, 1) := by decide +kernel
theorem dd_M_crash_14 : decode cb_M_crash 14 = .ok (.getfield 41, 3) := by decide +kernel
theorem dd_M_crash_17 : decode cb_M_crash 17 = .ok (.iload_n 3, 1) := by decide +kernel
theorem dd_M_crash_18 : decode cb_M_crash 18 = .ok (.baload, 1) := by decide +kernel
theorem dd_M_crash_19 : decode cb_M_crash 19 = .ok (.ifCond .eq 7, 3) := by decide +kernel
theorem dd_M_crash_22 : decode cb_M_crash 22 = .ok (.iconst 1, 1) := by decide +kernel
theorem dd_M_crash_23 : decode cb_M_crash 23 = .ok (.goto 4, 3) := by decide +kernel
theorem dd_M_crash_26 : decode cb_M_crash 26 = .ok (.iconst 0, 1) := by decide +kernel
theorem dd_M_crash_27 : decode cb_M_crash 27 = .ok (.iadd, 1) := by decide +kernel
theorem dd_M_crash_28 : decode cb_M_crash 28 = .ok (.istore_n 2, 1) := by decide +kernel
theorem dd_M_crash_29 : decode cb_M_crash 29 = .ok (.iinc 3 1, 3) := by decide +kernel
theorem dd_M_crash_32 : decode cb_M_crash 32 = .ok (.goto (-28), 3) := by decide +kernel
theorem dd_M_crash_35 : decode cb_M_crash 35 = .ok (.aload_n 0, 1) := by decide +kernel
theorem dd_M_crash_36 : decode cb_M_crash 36 = .ok (.iload_n 1, 1) := by decide +kernel
theorem dd_M_crash_37 : decode cb_M_crash 37 = .ok (.invokevirtual 98, 3) := by decide +kernel
theorem dd_M_crash_40 : decode cb_M_crash 40 = .ok (.ifCond .ne 27, 3) := by decide +kernel
theorem dd_M_crash_43 : decode cb_M_crash 43 = .ok (.aload_n 0, 1) := by decide +kernel
theorem dd_M_crash_44 : decode cb_M_crash 44 = .ok (.getfield 41, 3) := by decide +kernel
theorem dd_M_crash_47 : decode cb_M_crash 47 = .ok (.iload_n 1, 1) := by decide +kernel
theorem dd_M_crash_48 : decode cb_M_crash 48 = .ok (.baload, 1) := by decide +kernel
theorem dd_M_crash_49 : decode cb_M_crash 49 = .ok (.ifCond .ne 18, 3) := by decide +kernel
theorem dd_M_crash_52 : decode cb_M_crash 52 = .ok (.iload_n 2, 1) := by decide +kernel
theorem dd_M_crash_53 : decode cb_M_crash 53 = .ok (.aload_n 0, 1) := by decide +kernel
theorem dd_M_crash_54 : decode cb_M_crash 54 = .ok (.getfield 81, 3) := by decide +kernel
theorem dd_M_crash_57 : decode cb_M_crash 57 = .ok (.aload_n 0, 1) := by decide +kernel
theorem dd_M_crash_58 : decode cb_M_crash 58 = .ok (.getfield 85, 3) := by decide +kernel
theorem dd_M_crash_61 : decode cb_M_crash 61 = .ok (.isub, 1) := by decide +kernel
theorem dd_M_crash_62 : decode cb_M_crash 62 = .ok (.iconst 2, 1) := by decide +kernel
theorem dd_M_crash_63 : decode cb_M_crash 63 = .ok (.idiv, 1) := by decide +kernel
theorem dd_M_crash_64 : decode cb_M_crash 64 = .ok (.if_icmp .lt 5, 3) := by decide +kernel
theorem dd_M_crash_67 : decode cb_M_crash 67 = .ok (.iconst 0, 1) := by decide +kernel
theorem dd_M_crash_68 : decode cb_M_crash 68 = .ok (.ireturn, 1) := by decide +kernel
theorem dd_M_crash_69 : decode cb_M_crash 69 = .ok (.aload_n 0, 1) := by decide +kernel
theorem dd_M_crash_70 : decode cb_M_crash 70 = .ok (.getfield 41, 3) := by decide +kernel
theorem dd_M_crash_73 : decode cb_M_crash 73 = .ok (.iload_n 1, 1) := by decide +kernel
theorem dd_M_crash_74 : decode cb_M_crash 74 = .ok (.iconst 1, 1) := by decide +kernel
theorem dd_M_crash_75 : decode cb_M_crash 75 = .ok (.bastore, 1) := by decide +kernel
theorem dd_M_crash_76 : decode cb_M_crash 76 = .ok (.aload_n 0, 1) := by decide +kernel
theorem dd_M_crash_77 : decode cb_M_crash 77 = .ok (.getfield 91, 3) := by decide +kernel
theorem dd_M_crash_80 : decode cb_M_crash 80 = .ok (.iconst 1, 1) := by decide +kernel
theorem dd_M_crash_81 : decode cb_M_crash 81 = .ok (.isub, 1) := by decide +kernel
theorem dd_M_crash_82 : decode cb_M_crash 82 = .ok (.istore_n 3, 1) := by decide +kernel
theorem dd_M_crash_83 : decode cb_M_crash 83 = .ok (.iload_n 3, 1) := by decide +kernel
theorem dd_M_crash_84 : decode cb_M_crash 84 = .ok (.ifCond .lt 33, 3) := by decide +kernel
theorem dd_M_crash_87 : decode cb_M_crash 87 = .ok (.aload_n 0, 1) := by decide +kernel
theorem dd_M_crash_88 : decode cb_M_crash 88 = .ok (.getfield 57, 3) := by decide +kernel
theorem dd_M_crash_91 : decode cb_M_crash 91 = .ok (.iload_n 3, 1) := by decide +kernel
theorem dd_M_crash_92 : decode cb_M_crash 92 = .ok (.baload, 1) := by decide +kernel
theorem dd_M_crash_93 : decode cb_M_crash 93 = .ok (.ifCond .ne 18, 3) := by decide +kernel
theorem dd_M_crash_96 : decode cb_M_crash 96 = .ok (.aload_n 0, 1) := by decide +kernel
theorem dd_M_crash_97 : decode cb_M_crash 97 = .ok (.getfield 66, 3) := by decide +kernel
theorem dd_M_crash_100 : decode cb_M_crash 100 = .ok (.iload_n 3, 1) := by decide +kernel
theorem dd_M_crash_101 : decode cb_M_crash 101 = .ok (.iaload, 1) := by decide +kernel
theorem dd_M_crash_102 : decode cb_M_crash 102 = .ok (.iload_n 1, 1) := by decide +kernel
theorem dd_M_crash_103 : decode cb_M_crash 103 = .ok (.if_icmp .ne 8, 3) := by decide +kernel
theorem dd_M_crash_106 : decode cb_M_crash 106 = .ok (.aload_n 0, 1) := by decide +kernel
theorem dd_M_crash_107 : decode cb_M_crash 107 = .ok (.iload_n 3, 1) := by decide +kernel
theorem dd_M_crash_108 : decode cb_M_crash 108 = .ok (.invokevirtual 132, 3) := by decide +kernel
theorem dd_M_crash_111 : decode cb_M_crash 111 = .ok (.iinc 3 (-1), 3) := by decide +kernel
theorem dd_M_crash_114 : decode cb_M_crash 114 = .ok (.goto (-31), 3) := by decide +kernel
theorem dd_M_crash_117 : decode cb_M_crash 117 = .ok (.iconst 1, 1) := by decide +kernel
theorem dd_M_crash_118 : decode cb_M_crash 118 = .ok (.ireturn, 1) := by decide +kernel
theorem dd_M_stop_0 : decode cb_M_stop 0 = .ok (.aload_n 0, 1) := by decide +kernel
theorem dd_M_stop_1 : decode cb_M_stop 1 = .ok (.iload_n 1, 1) := by decide +kernel
theorem dd_M_stop_2 : decode cb_M_stop 2 = .ok (.invokevirtual 94, 3) := by decide +kernel
theorem dd_M_stop_5 : decode cb_M_stop 5 = .ok (.ifCond .ne 14, 3) := by decide +kernel
theorem dd_M_stop_8 : decode cb_M_stop 8 = .ok (.aload_n 0, 1) := by decide +kernel
theorem dd_M_stop_9 : decode cb_M_stop 9 = .ok (.getfield 7, 3) := by decide +kernel
theorem dd_M_stop_12 : decode cb_M_stop 12 = .ok (.iload_n 1, 1) := by decide +kernel
theorem dd_M_stop_13 : decode cb_M_stop 13 = .ok (.iaload, 1) := by decide +kernel
theorem dd_M_stop_14 : decode cb_M_stop 14 = .ok (.bipush 6, 2) := by decide +kernel
theorem dd_M_stop_16 : decode cb_M_stop 16 = .ok (.if_icmp .ne 5, 3) := by decide +kernel
theorem dd_M_stop_19 : decode cb_M_stop 19 = .ok (.iconst 0, 1) := by decide +kernel
theorem dd_M_stop_20 : decode cb_M_stop 20 = .ok (.ireturn, 1) := by decide +kernel
theorem dd_M_stop_21 : decode cb_M_stop 21 = .ok (.aload_n 0, 1) := by decide +kernel
theorem dd_M_stop_22 : decode cb_M_stop 22 = .ok (.getfield 7, 3) := by decide +kernel
theorem dd_M_stop_25 : decode cb_M_stop 25 = .ok (.iload_n 1, 1) := by decide +kernel
theorem dd_M_stop_26 : decode cb_M_stop 26 = .ok (.bipush 6, 2) := by decide +kernel
theorem dd_M_stop_28 : decode cb_M_stop 28 = .ok (.iastore, 1) := by decide +kernel
theorem dd_M_stop_29 : decode cb_M_stop 29 = .ok (.iconst 1, 1) := by decide +kernel
theorem dd_M_stop_30 : decode cb_M_stop 30 = .ok (.ireturn, 1) := by decide +kernel
theorem dd_M_phase_0 : decode cb_M_phase 0 = .ok (.aload_n 0, 1) := by decide +kernel
theorem dd_M_phase_1 : decode cb_M_phase 1 = .ok (.iload_n 1, 1) := by decide +kernel
theorem dd_M_phase_2 : decode cb_M_phase 2 = .ok (.invokevirtual 94, 3) := by decide +kernel
theorem dd_M_phase_5 : decode cb_M_phase 5 = .ok (.ifCond .eq 7, 3) := by decide +kernel
theorem dd_M_phase_8 : decode cb_M_phase 8 = .ok (.iconst (-1), 1) := by decide +kernel
theorem dd_M_phase_9 : decode cb_M_phase 9 = .ok (.goto 9, 3) := by decide +kernel
theorem dd_M_phase_12 : decode cb_M_phase 12 = .ok (.aload_n 0, 1) := by decide +kernel
theorem dd_M_phase_13 : decode cb_M_phase 13 = .ok (.getfield 7, 3) := by decide +kernel
theorem dd_M_phase_16 : decode cb_M_phase 16 = .ok (.iload_n 1, 1) := by decide +kernel
theorem dd_M_phase_17 : decode cb_M_phase 17 = .ok (.iaload, 1) := by decide +kernel
theorem dd_M_phase_18 : decode cb_M_phase 18 = .ok (.ireturn, 1) := by decide +kernel
theorem dd_M_heard_0 : decode cb_M_heard 0 = .ok (.aload_n 0, 1) := by decide +kernel
end
section
theorem dd_M_heard_1 : decode cb_M_heard 1 = .ok (.iload_n 1, 1) := by decide +kernel
theorem dd_M_heard_2 : decode cb_M_heard 2 = .ok (.invokevirtual 94, 3) := by decide +kernel
theorem dd_M_heard_5 : decode cb_M_heard 5 = .ok (.ifCond .eq 7, 3) := by decide +kernel
theorem dd_M_heard_8 : decode cb_M_heard 8 = .ok (.iconst (-1), 1) := by decide +kernel
theorem dd_M_heard_9 : decode cb_M_heard 9 = .ok (.goto 33, 3) := by decide +kernel
theorem dd_M_heard_12 : decode cb_M_heard 12 = .ok (.aload_n 0, 1) := by decide +kernel
theorem dd_M_heard_13 : decode cb_M_heard 13 = .ok (.getfield 7, 3) := by decide +kernel
theorem dd_M_heard_16 : decode cb_M_heard 16 = .ok (.iload_n 1, 1) := by decide +kernel
theorem dd_M_heard_17 : decode cb_M_heard 17 = .ok (.iaload, 1) := by decide +kernel
theorem dd_M_heard_18 : decode cb_M_heard 18 = .ok (.ifCond .eq 14, 3) := by decide +kernel
theorem dd_M_heard_21 : decode cb_M_heard 21 = .ok (.aload_n 0, 1) := by decide +kernel
theorem dd_M_heard_22 : decode cb_M_heard 22 = .ok (.getfield 7, 3) := by decide +kernel
theorem dd_M_heard_25 : decode cb_M_heard 25 = .ok (.iload_n 1, 1) := by decide +kernel
theorem dd_M_heard_26 : decode cb_M_heard 26 = .ok (.iaload, 1) := by decide +kernel
theorem dd_M_heard_27 : decode cb_M_heard 27 = .ok (.bipush 6, 2) := by decide +kernel
theorem dd_M_heard_29 : decode cb_M_heard 29 = .ok (.if_icmp .ne 7, 3) := by decide +kernel
theorem dd_M_heard_32 : decode cb_M_heard 32 = .ok (.iconst 0, 1) := by decide +kernel
theorem dd_M_heard_33 : decode cb_M_heard 33 = .ok (.goto 9, 3) := by decide +kernel
theorem dd_M_heard_36 : decode cb_M_heard 36 = .ok (.aload_n 0, 1) := by decide +kernel
theorem dd_M_heard_37 : decode cb_M_heard 37 = .ok (.getfield 16, 3) := by decide +kernel
theorem dd_M_heard_40 : decode cb_M_heard 40 = .ok (.iload_n 1, 1) := by decide +kernel
theorem dd_M_heard_41 : decode cb_M_heard 41 = .ok (.iaload, 1) := by decide +kernel
theorem dd_M_heard_42 : decode cb_M_heard 42 = .ok (.ireturn, 1) := by decide +kernel
theorem dd_M_tag_0 : decode cb_M_tag 0 = .ok (.aload_n 0, 1) := by decide +kernel
theorem dd_M_tag_1 : decode cb_M_tag 1 = .ok (.iload_n 1, 1) := by decide +kernel
theorem dd_M_tag_2 : decode cb_M_tag 2 = .ok (.invokevirtual 94, 3) := by decide +kernel
theorem dd_M_tag_5 : decode cb_M_tag 5 = .ok (.ifCond .eq 7, 3) := by decide +kernel
theorem dd_M_tag_8 : decode cb_M_tag 8 = .ok (.iconst (-1), 1) := by decide +kernel
theorem dd_M_tag_9 : decode cb_M_tag 9 = .ok (.goto 9, 3) := by decide +kernel
theorem dd_M_tag_12 : decode cb_M_tag 12 = .ok (.aload_n 0, 1) := by decide +kernel
theorem dd_M_tag_13 : decode cb_M_tag 13 = .ok (.getfield 25, 3) := by decide +kernel
theorem dd_M_tag_16 : decode cb_M_tag 16 = .ok (.iload_n 1, 1) := by decide +kernel
theorem dd_M_tag_17 : decode cb_M_tag 17 = .ok (.iaload, 1) := by decide +kernel
theorem dd_M_tag_18 : decode cb_M_tag 18 = .ok (.ireturn, 1) := by decide +kernel
theorem dd_M_result_0 : decode cb_M_result 0 = .ok (.aload_n 0, 1) := by decide +kernel
theorem dd_M_result_1 : decode cb_M_result 1 = .ok (.iload_n 1, 1) := by decide +kernel
theorem dd_M_result_2 : decode cb_M_result 2 = .ok (.invokevirtual 94, 3) := by decide +kernel
theorem dd_M_result_5 : decode cb_M_result 5 = .ok (.ifCond .eq 7, 3) := by decide +kernel
theorem dd_M_result_8 : decode cb_M_result 8 = .ok (.lconst 0, 1) := by decide +kernel
theorem dd_M_result_9 : decode cb_M_result 9 = .ok (.goto 9, 3) := by decide +kernel
theorem dd_M_result_12 : decode cb_M_result 12 = .ok (.aload_n 0, 1) := by decide +kernel
theorem dd_M_result_13 : decode cb_M_result 13 = .ok (.getfield 38, 3) := by decide +kernel
theorem dd_M_result_16 : decode cb_M_result 16 = .ok (.iload_n 1, 1) := by decide +kernel
theorem dd_M_result_17 : decode cb_M_result 17 = .ok (.laload, 1) := by decide +kernel
theorem dd_M_result_18 : decode cb_M_result 18 = .ok (.lreturn, 1) := by decide +kernel
theorem dd_M_finished_0 : decode cb_M_finished 0 = .ok (.aload_n 0, 1) := by decide +kernel
theorem dd_M_finished_1 : decode cb_M_finished 1 = .ok (.iload_n 1, 1) := by decide +kernel
theorem dd_M_finished_2 : decode cb_M_finished 2 = .ok (.invokevirtual 94, 3) := by decide +kernel
theorem dd_M_finished_5 : decode cb_M_finished 5 = .ok (.ifCond .eq 7, 3) := by decide +kernel
theorem dd_M_finished_8 : decode cb_M_finished 8 = .ok (.iconst (-1), 1) := by decide +kernel
theorem dd_M_finished_9 : decode cb_M_finished 9 = .ok (.goto 9, 3) := by decide +kernel
theorem dd_M_finished_12 : decode cb_M_finished 12 = .ok (.aload_n 0, 1) := by decide +kernel
theorem dd_M_finished_13 : decode cb_M_finished 13 = .ok (.getfield 28, 3) := by decide +kernel
theorem dd_M_finished_16 : decode cb_M_finished 16 = .ok (.iload_n 1, 1) := by decide +kernel
theorem dd_M_finished_17 : decode cb_M_finished 17 = .ok (.iaload, 1) := by decide +kernel
theorem dd_M_finished_18 : decode cb_M_finished 18 = .ok (.ireturn, 1) := by decide +kernel
theorem dd_M_held_0 : decode cb_M_held 0 = .ok (.aload_n 0, 1) := by decide +kernel
theorem dd_M_held_1 : decode cb_M_held 1 = .ok (.iload_n 1, 1) := by decide +kernel
theorem dd_M_held_2 : decode cb_M_held 2 = .ok (.invokevirtual 98, 3) := by decide +kernel
theorem dd_M_held_5 : decode cb_M_held 5 = .ok (.ifCond .eq 7, 3) := by decide +kernel
theorem dd_M_held_8 : decode cb_M_held 8 = .ok (.iconst (-1), 1) := by decide +kernel
theorem dd_M_held_9 : decode cb_M_held 9 = .ok (.goto 9, 3) := by decide +kernel
theorem dd_M_held_12 : decode cb_M_held 12 = .ok (.aload_n 0, 1) := by decide +kernel
theorem dd_M_held_13 : decode cb_M_held 13 = .ok (.getfield 48, 3) := by decide +kernel
theorem dd_M_held_16 : decode cb_M_held 16 = .ok (.iload_n 1, 1) := by decide +kernel
theorem dd_M_held_17 : decode cb_M_held 17 = .ok (.iaload, 1) := by decide +kernel
theorem dd_M_held_18 : decode cb_M_held 18 = .ok (.ireturn, 1) := by decide +kernel
theorem dd_M_heldTag_0 : decode cb_M_heldTag 0 = .ok (.aload_n 0, 1) := by decide +kernel
theorem dd_M_heldTag_1 : decode cb_M_heldTag 1 = .ok (.iload_n 1, 1) := by decide +kernel
theorem dd_M_heldTag_2 : decode cb_M_heldTag 2 = .ok (.invokevirtual 98, 3) := by decide +kernel
theorem dd_M_heldTag_5 : decode cb_M_heldTag 5 = .ok (.ifCond .eq 5, 3) := by decide +kernel
theorem dd_M_heldTag_8 : decode cb_M_heldTag 8 = .ok (.iconst (-1), 1) := by decide +kernel
theorem dd_M_heldTag_9 : decode cb_M_heldTag 9 = .ok (.ireturn, 1) := by decide +kernel
theorem dd_M_heldTag_10 : decode cb_M_heldTag 10 = .ok (.iconst 5, 1) := by decide +kernel
theorem dd_M_heldTag_11 : decode cb_M_heldTag 11 = .ok (.iload_n 1, 1) := by decide +kernel
theorem dd_M_heldTag_12 : decode cb_M_heldTag 12 = .ok (.imul, 1) := by decide +kernel
theorem dd_M_heldTag_13 : decode cb_M_heldTag 13 = .ok (.istore_n 3, 1) := by decide +kernel
theorem dd_M_heldTag_14 : decode cb_M_heldTag 14 = .ok (.iload_n 3, 1) := by decide +kernel
theorem dd_M_heldTag_15 : decode cb_M_heldTag 15 = .ok (.iconst 5, 1) := by decide +kernel
theorem dd_M_heldTag_16 : decode cb_M_heldTag 16 = .ok (.iload_n 1, 1) := by decide +kernel
theorem dd_M_heldTag_17 : decode cb_M_heldTag 17 = .ok (.imul, 1) := by decide +kernel
theorem dd_M_heldTag_18 : decode cb_M_heldTag 18 = .ok (.aload_n 0, 1) := by decide +kernel
theorem dd_M_heldTag_19 : decode cb_M_heldTag 19 = .ok (.getfield 48, 3) := by decide +kernel
theorem dd_M_heldTag_22 : decode cb_M_heldTag 22 = .ok (.iload_n 1, 1) := by decide +kernel
theorem dd_M_heldTag_23 : decode cb_M_heldTag 23 = .ok (.iaload, 1) := by decide +kernel
theorem dd_M_heldTag_24 : decode cb_M_heldTag 24 = .ok (.iadd, 1) := by decide +kernel
theorem dd_M_heldTag_25 : decode cb_M_heldTag 25 = .ok (.if_icmp .ge 77, 3) := by decide +kernel
theorem dd_M_heldTag_28 : decode cb_M_heldTag 28 = .ok (.iconst 0, 1) := by decide +kernel
theorem dd_M_heldTag_29 : decode cb_M_heldTag 29 = .ok (.istore 4, 2) := by decide +kernel
theorem dd_M_heldTag_31 : decode cb_M_heldTag 31 = .ok (.iconst 5, 1) := by decide +kernel
theorem dd_M_heldTag_32 : decode cb_M_heldTag 32 = .ok (.iload_n 1, 1) := by decide +kernel
theorem dd_M_heldTag_33 : decode cb_M_heldTag 33 = .ok (.imul, 1) := by decide +kernel
theorem dd_M_heldTag_34 : decode cb_M_heldTag 34 = .ok (.istore 5, 2) := by decide +kernel
theorem dd_M_heldTag_36 : decode cb_M_heldTag 36 = .ok (.iload 5, 2) := by decide +kernel
theorem dd_M_heldTag_38 : decode cb_M_heldTag 38 = .ok (.iconst 5, 1) := by decide +kernel
theorem dd_M_heldTag_39 : decode cb_M_heldTag 39 = .ok (.iload_n 1, 1) := by decide +kernel
theorem dd_M_heldTag_40 : decode cb_M_heldTag 40 = .ok (.imul, 1) := by decide +kernel
theorem dd_M_heldTag_41 : decode cb_M_heldTag 41 = .ok (.aload_n 0, 1) := by decide +kernel
theorem dd_M_heldTag_42 : decode cb_M_heldTag 42 = .ok (.getfield 48, 3) := by decide +kernel
theorem dd_M_heldTag_45 : decode cb_M_heldTag 45 = .ok (.iload_n 1, 1) := by decide +kernel
theorem dd_M_heldTag_46 : decode cb_M_heldTag 46 = .ok (.iaload, 1) := by decide +kernel
theorem dd_M_heldTag_47 : decode cb_M_heldTag 47 = .ok (.iadd, 1) := by decide +kernel
theorem dd_M_heldTag_48 : decode cb_M_heldTag 48 = .ok (.if_icmp .ge 35, 3) := by decide +kernel
theorem dd_M_heldTag_51 : decode cb_M_heldTag 51 = .ok (.iload 4, 2) := by decide +kernel
theorem dd_M_heldTag_53 : decode cb_M_heldTag 53 = .ok (.aload_n 0, 1) := by decide +kernel
theorem dd_M_heldTag_54 : decode cb_M_heldTag 54 = .ok (.getfield 51, 3) := by decide +kernel
theorem dd_M_heldTag_57 : decode cb_M_heldTag 57 = .ok (.iload 5, 2) := by decide +kernel
theorem dd_M_heldTag_59 : decode cb_M_heldTag 59 = .ok (.iaload, 1) := by decide +kernel
theorem dd_M_heldTag_60 : decode cb_M_heldTag 60 = .ok (.aload_n 0, 1) := by decide +kernel
theorem dd_M_heldTag_61 : decode cb_M_heldTag 61 = .ok (.getfield 51, 3) := by decide +kernel
theorem dd_M_heldTag_64 : decode cb_M_heldTag 64 = .ok (.iload_n 3, 1) := by decide +kernel
theorem dd_M_heldTag_65 : decode cb_M_heldTag 65 = .ok (.iaload, 1) := by decide +kernel
theorem dd_M_heldTag_66 : decode cb_M_heldTag 66 = .ok (.if_icmp .le 7, 3) := by decide +kernel
theorem dd_M_heldTag_69 : decode cb_M_heldTag 69 = .ok (.iconst 1, 1) := by decide +kernel
theorem dd_M_heldTag_70 : decode cb_M_heldTag 70 = .ok (.goto 4, 3) := by decide +kernel
theorem dd_M_heldTag_73 : decode cb_M_heldTag 73 = .ok (.iconst 0, 1) := by decide +kernel
theorem dd_M_heldTag_74 : decode cb_M_heldTag 74 = .ok (.iadd, 1) := by decide +kernel
theorem dd_M_heldTag_75 : decode cb_M_heldTag 75 = .ok (.istore 4, 2) := by decide +kernel
theorem dd_M_heldTag_77 : decode cb_M_heldTag 77 = .ok (.iinc 5 1, 3) := by decide +kernel
theorem dd_M_heldTag_80 : decode cb_M_heldTag 80 = .ok (.goto (-44), 3) := by decide +kernel
theorem dd_M_heldTag_83 : decode cb_M_heldTag 83 = .ok (.iload 4, 2) := by decide +kernel
theorem dd_M_heldTag_85 : decode cb_M_heldTag 85 = .ok (.iload_n 2, 1) := by decide +kernel
theorem dd_M_heldTag_86 : decode cb_M_heldTag 86 = .ok (.if_icmp .ne 10, 3) := by decide +kernel
theorem dd_M_heldTag_89 : decode cb_M_heldTag 89 = .ok (.aload_n 0, 1) := by decide +kernel
theorem dd_M_heldTag_90 : decode cb_M_heldTag 90 = .ok (.getfield 51, 3) := by decide +kernel
theorem dd_M_heldTag_93 : decode cb_M_heldTag 93 = .ok (.iload_n 3, 1) := by decide +kernel
theorem dd_M_heldTag_94 : decode cb_M_heldTag 94 = .ok (.iaload, 1) := by decide +kernel
theorem dd_M_heldTag_95 : decode cb_M_heldTag 95 = .ok (.ireturn, 1) := by decide +kernel
theorem dd_M_heldTag_96 : decode cb_M_heldTag 96 = .ok (.iinc 3 1, 3) := by decide +kernel
theorem dd_M_heldTag_99 : decode cb_M_heldTag 99 = .ok (.goto (-85), 3) := by decide +kernel
theorem dd_M_heldTag_102 : decode cb_M_heldTag 102 = .ok (.iconst (-1), 1) := by decide +kernel
theorem dd_M_heldTag_103 : decode cb_M_heldTag 103 = .ok (.ireturn, 1) := by decide +kernel
theorem dd_M_product_0 : decode cb_M_product 0 = .ok (.iconst 0, 1) := by decide +kernel
theorem dd_M_product_1 : decode cb_M_product 1 = .ok (.istore_n 3, 1) := by decide +kernel
theorem dd_M_product_2 : decode cb_M_product 2 = .ok (.iconst 0, 1) := by decide +kernel
theorem dd_M_product_3 : decode cb_M_product 3 = .ok (.istore 4, 2) := by decide +kernel
theorem dd_M_product_5 : decode cb_M_product 5 = .ok (.iload 4, 2) := by decide +kernel
theorem dd_M_product_7 : decode cb_M_product 7 = .ok (.bipush 8, 2) := by decide +kernel
theorem dd_M_product_9 : decode cb_M_product 9 = .ok (.if_icmp .ge 26, 3) := by decide +kernel
theorem dd_M_product_12 : decode cb_M_product 12 = .ok (.iload_n 2, 1) := by decide +kernel
theorem dd_M_product_13 : decode cb_M_product 13 = .ok (.iload 4, 2) := by decide +kernel
theorem dd_M_product_15 : decode cb_M_product 15 = .ok (.ishr, 1) := by decide +kernel
theorem dd_M_product_16 : decode cb_M_product 16 = .ok (.iconst 1, 1) := by decide +kernel
theorem dd_M_product_17 : decode cb_M_product 17 = .ok (.iand, 1) := by decide +kernel
theorem dd_M_product_18 : decode cb_M_product 18 = .ok (.iconst 1, 1) := by decide +kernel
theorem dd_M_product_19 : decode cb_M_product 19 = .ok (.if_icmp .ne 10, 3) := by decide +kernel
theorem dd_M_product_22 : decode cb_M_product 22 = .ok (.iload_n 3, 1) := by decide +kernel
theorem dd_M_product_23 : decode cb_M_product 23 = .ok (.iload_n 1, 1) := by decide +kernel
theorem dd_M_product_24 : decode cb_M_product 24 = .ok (.iload 4, 2) := by decide +kernel
theorem dd_M_product_26 : decode cb_M_product 26 = .ok (.ishl, 1) := by decide +kernel
theorem dd_M_product_27 : decode cb_M_product 27 = .ok (.ixor, 1) := by decide +kernel
theorem dd_M_product_28 : decode cb_M_product 28 = .ok (.istore_n 3, 1) := by decide +kernel
theorem dd_M_product_29 : decode cb_M_product 29 = .ok (.iinc 4 1, 3) := by decide +kernel
theorem dd_M_product_32 : decode cb_M_product 32 = .ok (.goto (-27), 3) := by decide +kernel
theorem dd_M_product_35 : decode cb_M_product 35 = .ok (.bipush 14, 2) := by decide +kernel
theorem dd_M_product_37 : decode cb_M_product 37 = .ok (.istore 4, 2) := by decide +kernel
theorem dd_M_product_39 : decode cb_M_product 39 = .ok (.iload 4, 2) := by decide +kernel
theorem dd_M_product_41 : decode cb_M_product 41 = .ok (.bipush 8, 2) := by decide +kernel
theorem dd_M_product_43 : decode cb_M_product 43 = .ok (.if_icmp .lt 31, 3) := by decide +kernel
theorem dd_M_product_46 : decode cb_M_product 46 = .ok (.iload_n 3, 1) := by decide +kernel
theorem dd_M_product_47 : decode cb_M_product 47 = .ok (.iload 4, 2) := by decide +kernel
theorem dd_M_product_49 : decode cb_M_product 49 = .ok (.ishr, 1) := by decide +kernel
theorem dd_M_product_50 : decode cb_M_product 50 = .ok (.iconst 1, 1) := by decide +kernel
theorem dd_M_product_51 : decode cb_M_product 51 = .ok (.iand, 1) := by decide +kernel
theorem dd_M_product_52 : decode cb_M_product 52 = .ok (.iconst 1, 1) := by decide +kernel
theorem dd_M_product_53 : decode cb_M_product 53 = .ok (.if_icmp .ne 15, 3) := by decide +kernel
theorem dd_M_product_56 : decode cb_M_product 56 = .ok (.iload_n 3, 1) := by decide +kernel
theorem dd_M_product_57 : decode cb_M_product 57 = .ok (.sipush 285, 3) := by decide +kernel
theorem dd_M_product_60 : decode cb_M_product 60 = .ok (.iload 4, 2) := by decide +kernel
theorem dd_M_product_62 : decode cb_M_product 62 = .ok (.bipush 8, 2) := by decide +kernel
theorem dd_M_product_64 : decode cb_M_product 64 = .ok (.isub, 1) := by decide +kernel
theorem dd_M_product_65 : decode cb_M_product 65 = .ok (.ishl, 1) := by decide +kernel
theorem dd_M_product_66 : decode cb_M_product 66 = .ok (.ixor, 1) := by decide +kernel
theorem dd_M_product_67 : decode cb_M_product 67 = .ok (.istore_n 3, 1) := by decide +kernel
theorem dd_M_product_68 : decode cb_M_product 68 = .ok (.iinc 4 (-1), 3) := by decide +kernel
theorem dd_M_product_71 : decode cb_M_product 71 = .ok (.goto (-32), 3) := by decide +kernel
theorem dd_M_product_74 : decode cb_M_product 74 = .ok (.iload_n 3, 1) := by decide +kernel
theorem dd_M_product_75 : decode cb_M_product 75 = .ok (.ireturn, 1) := by decide +kernel
theorem dd_M_fragment_0 : decode cb_M_fragment 0 = .ok (.aload_n 0, 1) := by decide +kernel
theorem dd_M_fragment_1 : decode cb_M_fragment 1 = .ok (.iload_n 1, 1) := by decide +kernel
theorem dd_M_fragment_2 : decode cb_M_fragment 2 = .ok (.invokevirtual 98, 3) := by decide +kernel
theorem dd_M_fragment_5 : decode cb_M_fragment 5 = .ok (.ifCond .ne 25, 3) := by decide +kernel
theorem dd_M_fragment_8 : decode cb_M_fragment 8 = .ok (.iload_n 3, 1) := by decide +kernel
theorem dd_M_fragment_9 : decode cb_M_fragment 9 = .ok (.ifCond .lt 21, 3) := by decide +kernel
theorem dd_M_fragment_12 : decode cb_M_fragment 12 = .ok (.iload_n 3, 1) := by decide +kernel
theorem dd_M_fragment_13 : decode cb_M_fragment 13 = .ok (.bipush 8, 2) := by decide +kernel
theorem dd_M_fragment_15 : decode cb_M_fragment 15 = .ok (.aload_n 0, 1) := by decide +kernel
theorem dd_M_fragment_16 : decode cb_M_fragment 16 = .ok (.getfield 85, 3) := by decide +kernel
theorem dd_M_fragment_19 : decode cb_M_fragment 19 = .ok (.iadd, 1) := by decide +kernel
theorem dd_M_fragment_20 : decode cb_M_fragment 20 = .ok (.iconst 1, 1) := by decide +kernel
theorem dd_M_fragment_21 : decode cb_M_fragment 21 = .ok (.isub, 1) := by decide +kernel
theorem dd_M_fragment_22 : decode cb_M_fragment 22 = .ok (.aload_n 0, 1) := by decide +kernel
theorem dd_M_fragment_23 : decode cb_M_fragment 23 = .ok (.getfield 85, 3) := by decide +kernel
theorem dd_M_fragment_26 : decode cb_M_fragment 26 = .ok (.idiv, 1) := by decide +kernel
theorem dd_M_fragment_27 : decode cb_M_fragment 27 = .ok (.if_icmp .lt 5, 3) := by decide +kernel
theorem dd_M_fragment_30 : decode cb_M_fragment 30 = .ok (.iconst (-1), 1) := by decide +kernel
theorem dd_M_fragment_31 : decode cb_M_fragment 31 = .ok (.ireturn, 1) := by decide +kernel
theorem dd_M_fragment_32 : decode cb_M_fragment 32 = .ok (.aload_n 0, 1) := by decide +kernel
theorem dd_M_fragment_33 : decode cb_M_fragment 33 = .ok (.iload_n 1, 1) := by decide +kernel
theorem dd_M_fragment_34 : decode cb_M_fragment 34 = .ok (.iload_n 2, 1) := by decide +kernel
theorem dd_M_fragment_35 : decode cb_M_fragment 35 = .ok (.invokevirtual 124, 3) := by decide +kernel
theorem dd_M_fragment_38 : decode cb_M_fragment 38 = .ok (.istore 4, 2) := by decide +kernel
theorem dd_M_fragment_40 : decode cb_M_fragment 40 = .ok (.iload 4, 2) := by decide +kernel
theorem dd_M_fragment_42 : decode cb_M_fragment 42 = .ok (.ifCond .ge 5, 3) := by decide +kernel
theorem dd_M_fragment_45 : decode cb_M_fragment 45 = .ok (.iconst (-1), 1) := by decide +kernel
theorem dd_M_fragment_46 : decode cb_M_fragment 46 = .ok (.ireturn, 1) := by decide +kernel
theorem dd_M_fragment_47 : decode cb_M_fragment 47 = .ok (.iconst 0, 1) := by decide +kernel
theorem dd_M_fragment_48 : decode cb_M_fragment 48 = .ok (.istore 5, 2) := by decide +kernel
theorem dd_M_fragment_50 : decode cb_M_fragment 50 = .ok (.iconst 1, 1) := by decide +kernel
theorem dd_M_fragment_51 : decode cb_M_fragment 51 = .ok (.istore 6, 2) := by decide +kernel
theorem dd_M_fragment_53 : decode cb_M_fragment 53 = .ok (.iconst 0, 1) := by decide +kernel
theorem dd_M_fragment_54 : decode cb_M_fragment 54 = .ok (.istore 7, 2) := by decide +kernel
theorem dd_M_fragment_56 : decode cb_M_fragment 56 = .ok (.iload 7, 2) := by decide +kernel
theorem dd_M_fragment_58 : decode cb_M_fragment 58 = .ok (.aload_n 0, 1) := by decide +kernel
theorem dd_M_fragment_59 : decode cb_M_fragment 59 = .ok (.getfield 85, 3) := by decide +kernel
theorem dd_M_fragment_62 : decode cb_M_fragment 62 = .ok (.if_icmp .ge 75, 3) := by decide +kernel
theorem dd_M_fragment_65 : decode cb_M_fragment 65 = .ok (.iload_n 3, 1) := by decide +kernel
theorem dd_M_fragment_66 : decode cb_M_fragment 66 = .ok (.aload_n 0, 1) := by decide +kernel
theorem dd_M_fragment_67 : decode cb_M_fragment 67 = .ok (.getfield 85, 3) := by decide +kernel
theorem dd_M_fragment_70 : decode cb_M_fragment 70 = .ok (.imul, 1) := by decide +kernel
theorem dd_M_fragment_71 : decode cb_M_fragment 71 = .ok (.iload 7, 2) := by decide +kernel
theorem dd_M_fragment_73 : decode cb_M_fragment 73 = .ok (.iadd, 1) := by decide +kernel
theorem dd_M_fragment_74 : decode cb_M_fragment 74 = .ok (.istore 8, 2) := by decide +kernel
theorem dd_M_fragment_76 : decode cb_M_fragment 76 = .ok (.iload 8, 2) := by decide +kernel
theorem dd_M_fragment_78 : decode cb_M_fragment 78 = .ok (.bipush 8, 2) := by decide +kernel
theorem dd_M_fragment_80 : decode cb_M_fragment 80 = .ok (.if_icmp .ge 24, 3) := by decide +kernel
theorem dd_M_fragment_83 : decode cb_M_fragment 83 = .ok (.aload_n 0, 1) := by decide +kernel
theorem dd_M_fragment_84 : decode cb_M_fragment 84 = .ok (.getfield 54, 3) := by decide +kernel
theorem dd_M_fragment_87 : decode cb_M_fragment 87 = .ok (.iload 4, 2) := by decide +kernel
theorem dd_M_fragment_89 : decode cb_M_fragment 89 = .ok (.laload, 1) := by decide +kernel
theorem dd_M_fragment_90 : decode cb_M_fragment 90 = .ok (.bipush 8, 2) := by decide +kernel
theorem dd_M_fragment_92 : decode cb_M_fragment 92 = .ok (.iload 8, 2) := by decide +kernel
theorem dd_M_fragment_94 : decode cb_M_fragment 94 = .ok (.imul, 1) := by decide +kernel
theorem dd_M_fragment_95 : decode cb_M_fragment 95 = .ok (.lshr, 1) := by decide +kernel
theorem dd_M_fragment_96 : decode cb_M_fragment 96 = .ok (.ldc2_w 143, 3) := by decide +kernel
theorem dd_M_fragment_99 : decode cb_M_fragment 99 = .ok (.land, 1) := by decide +kernel
theorem dd_M_fragment_100 : decode cb_M_fragment 100 = .ok (.l2i, 1) := by decide +kernel
theorem dd_M_fragment_101 : decode cb_M_fragment 101 = .ok (.goto 4, 3) := by decide +kernel
theorem dd_M_fragment_104 : decode cb_M_fragment 104 = .ok (.iconst 0, 1) := by decide +kernel
theorem dd_M_fragment_105 : decode cb_M_fragment 105 = .ok (.istore 9, 2) := by decide +kernel
theorem dd_M_fragment_107 : decode cb_M_fragment 107 = .ok (.iload 5, 2) := by decide +kernel
theorem dd_M_fragment_109 : decode cb_M_fragment 109 = .ok (.aload_n 0, 1) := by decide +kernel
theorem dd_M_fragment_110 : decode cb_M_fragment 110 = .ok (.iload 9, 2) := by decide +kernel
theorem dd_M_fragment_112 : decode cb_M_fragment 112 = .ok (.iload 6, 2) := by decide +kernel
theorem dd_M_fragment_114 : decode cb_M_fragment 114 = .ok (.invokevirtual 145, 3) := by decide +kernel
theorem dd_M_fragment_117 : decode cb_M_fragment 117 = .ok (.ixor, 1) := by decide +kernel
theorem dd_M_fragment_118 : decode cb_M_fragment 118 = .ok (.istore 5, 2) := by decide +kernel
theorem dd_M_fragment_120 : decode cb_M_fragment 120 = .ok (.aload_n 0, 1) := by decide +kernel
theorem dd_M_fragment_121 : decode cb_M_fragment 121 = .ok (.iload 6, 2) := by decide +kernel
theorem dd_M_fragment_123 : decode cb_M_fragment 123 = .ok (.iload_n 1, 1) := by decide +kernel
theorem dd_M_fragment_124 : decode cb_M_fragment 124 = .ok (.iconst 1, 1) := by decide +kernel
theorem dd_M_fragment_125 : decode cb_M_fragment 125 = .ok (.iadd, 1) := by decide +kernel
theorem dd_M_fragment_126 : decode cb_M_fragment 126 = .ok (.invokevirtual 145, 3) := by decide +kernel
theorem dd_M_fragment_129 : decode cb_M_fragment 129 = .ok (.istore 6, 2) := by decide +kernel
theorem dd_M_fragment_131 : decode cb_M_fragment 131 = .ok (.iinc 7 1, 3) := by decide +kernel
theorem dd_M_fragment_134 : decode cb_M_fragment 134 = .ok (.goto (-78), 3) := by decide +kernel
theorem dd_M_fragment_137 : decode cb_M_fragment 137 = .ok (.iload 5, 2) := by decide +kernel
theorem dd_M_fragment_139 : decode cb_M_fragment 139 = .ok (.ireturn, 1) := by decide +kernel
theorem dd_M_seal_0 : decode cb_M_seal 0 = .ok (.aload_n 0, 1) := by decide +kernel
theorem dd_M_seal_1 : decode cb_M_seal 1 = .ok (.iload_n 1, 1) := by decide +kernel
theorem dd_M_seal_2 : decode cb_M_seal 2 = .ok (.invokevirtual 98, 3) := by decide +kernel
theorem dd_M_seal_5 : decode cb_M_seal 5 = .ok (.ifCond .eq 7, 3) := by decide +kernel
theorem dd_M_seal_8 : decode cb_M_seal 8 = .ok (.iconst (-1), 1) := by decide +kernel
theorem dd_M_seal_9 : decode cb_M_seal 9 = .ok (.goto 9, 3) := by decide +kernel
theorem dd_M_seal_12 : decode cb_M_seal 12 = .ok (.aload_n 0, 1) := by decide +kernel
theorem dd_M_seal_13 : decode cb_M_seal 13 = .ok (.getfield 45, 3) := by decide +kernel
theorem dd_M_seal_16 : decode cb_M_seal 16 = .ok (.iload_n 1, 1) := by decide +kernel
theorem dd_M_seal_17 : decode cb_M_seal 17 = .ok (.iaload, 1) := by decide +kernel
theorem dd_M_seal_18 : decode cb_M_seal 18 = .ok (.ireturn, 1) := by decide +kernel
end
section
-- places of the fixed arrays of references
section FA
variable {p : Program} {l : Launch} {e : Env} {R : Room} {s : State} {m : MethodId} {args : Array Value} {below : List Frame} {meth : Method} {c : Code} {H : Heap} {locs : List Loc} {cells slots : Nat} {Q : State → Prop}
variable {cc : ByteArray} {pc : Nat} {ls : Array Slot} {rest : List Value} {own : String} {nL : Nat} {x : fy} {S : fm}
theorem f_ald3 (cx : fX own cc nL p c s m args x) (hP : fP x S H) (hv : fv x 3 0) {z : Int32} {j : Nat} (hz : z = nI j) (hj : j < 5) (hdg : decode cc pc = .ok (.aaload, 1)) (kk : W p l e R s m args below meth c H locs cells slots Q (F0 m (pc + 1) ls (.ref (xa x 7 j) :: rest))) : W p l e R s m args below meth c H locs cells slots Q (F0 m pc ls (.int z :: .ref (xa x 3 0) :: rest)) := f_aalds 3 (f := fun j => some (xa x 7 j)) cx hP (hv.at S) rfl rfl hz hj rfl hdg kk
theorem f_ald4 (cx : fX own cc nL p c s m args x) (hP : fP x S H) (hv : fv x 4 0) {z : Int32} {j : Nat} (hz : z = nI j) (hj : j < xN x) (hdg : decode cc pc = .ok (.aaload, 1)) (kk : W p l e R s m args below meth c H locs cells slots Q (F0 m (pc + 1) ls (.ref (xa x 10 j) :: rest))) : W p l e R s m args below meth c H locs cells slots Q (F0 m pc ls (.int z :: .ref (xa x 4 0) :: rest)) := f_aalds 4 (f := fun j => some (xa x 10 j)) cx hP (hv.at S) rfl rfl hz hj rfl hdg kk
theorem f_ald5 (cx : fX own cc nL p c s m args x) (hP : fP x S H) (hv : fv x 5 0) {z : Int32} {j : Nat} (hz : z = nI j) (hj : j < 5 * xN x) (hdg : decode cc pc = .ok (.aaload, 1)) (kk : W p l e R s m args below meth c H locs cells slots Q (F0 m (pc + 1) ls (.ref (xa x 13 j) :: rest))) : W p l e R s m args below meth c H locs cells slots Q (F0 m pc ls (.int z :: .ref (xa x 5 0) :: rest)) := f_aalds 5 (f := fun j => some (xa x 13 j)) cx hP (hv.at S) rfl rfl hz hj rfl hdg kk
theorem f_ald6 (cx : fX own cc nL p c s m args x) (hP : fP x S H) (hv : fv x 6 0) {z : Int32} {j : Nat} (hz : z = nI j) (hj : j < 5 * xN x) (hdg : decode cc pc = .ok (.aaload, 1)) (kk : W p l e R s m args below meth c H locs cells slots Q (F0 m (pc + 1) ls (.ref (xa x 13 (100 + j)) :: rest))) : W p l e R s m args below meth c H locs cells slots Q (F0 m pc ls (.int z :: .ref (xa x 6 0) :: rest)) := f_aalds 5 (f := fun j => some (xa x 13 (100 + j))) cx hP (hv.at S) rfl rfl hz hj rfl hdg kk
end FA
end
section
-- bytes as BitVec 8: the product, bilinear, commutative, associative; inverses; interpolation
def gf_x (a : BitVec 8) : BitVec 8 := (a <<< 1) ^^^ (if a.msb then 29#8 else 0#8)
def gf_p : Nat → BitVec 8 → BitVec 8
  | 0, a => a
  | n + 1, a => gf_x (gf_p n a)
/-- the first n bits of b: the sum of a, shifted -/
def gf_s : Nat → BitVec 8 → BitVec 8 → BitVec 8
  | 0, _, _ => 0#8
  | n + 1, a, b => gf_s n a b ^^^ (if b.getLsbD n then gf_p n a else 0#8)
def gf_m (a b : BitVec 8) : BitVec 8 := gf_s 8 a b
theorem gf_x4 (a b c d : BitVec 8) : (a ^^^ b) ^^^ (c ^^^ d) = (a ^^^ c) ^^^ (b ^^^ d) := by
  rw [BitVec.xor_assoc, BitVec.xor_assoc, ← BitVec.xor_assoc b c d, BitVec.xor_comm b c, BitVec.xor_assoc c b d]
theorem gf_xl : ∀ a b : BitVec 8, gf_x (a ^^^ b) = gf_x a ^^^ gf_x b := by
  intro a b
  unfold gf_x
  rw [BitVec.msb_xor, BitVec.shiftLeft_xor_distrib]
  rw [gf_x4 (a <<< 1) _ (b <<< 1)]
  congr 1
  cases a.msb <;> cases b.msb <;> decide
theorem gf_pl (n : Nat) (a b : BitVec 8) : gf_p n (a ^^^ b) = gf_p n a ^^^ gf_p n b := by
  induction n with
  | zero => rfl
  | succ n ih => show gf_x _ = _; rw [ih, gf_xl]; rfl
theorem gf_sl (n : Nat) (a a' b : BitVec 8) : gf_s n (a ^^^ a') b = gf_s n a b ^^^ gf_s n a' b := by
  induction n with
  | zero => simp [gf_s]
  | succ n ih =>
    show gf_s n _ b ^^^ _ = _
    rw [ih, gf_pl]
    cases h : b.getLsbD n <;> simp [gf_s, h, gf_x4]
theorem gf_sr (n : Nat) (a b b' : BitVec 8) : gf_s n a (b ^^^ b') = gf_s n a b ^^^ gf_s n a b' := by
  induction n with
  | zero => simp [gf_s]
  | succ n ih =>
    show gf_s n a _ ^^^ _ = (gf_s n a b ^^^ _) ^^^ (gf_s n a b' ^^^ _)
    rw [ih, gf_x4]
    congr 1
    rw [BitVec.getLsbD_xor]
    cases b.getLsbD n <;> cases b'.getLsbD n <;> simp
theorem gf_ml (a a' b : BitVec 8) : gf_m (a ^^^ a') b = gf_m a b ^^^ gf_m a' b := gf_sl 8 a a' b
theorem gf_mr (a b b' : BitVec 8) : gf_m a (b ^^^ b') = gf_m a b ^^^ gf_m a b' := gf_sr 8 a b b'
/-- a byte is the sum of its bits -/
def gf_e (i : Nat) : BitVec 8 := 1#8 <<< i
def gf_c (a : BitVec 8) (i : Nat) : BitVec 8 := if a.getLsbD i then gf_e i else 0#8
theorem gf_bits : ∀ a : BitVec 8, a = gf_c a 0 ^^^ (gf_c a 1 ^^^ (gf_c a 2 ^^^ (gf_c a 3 ^^^ (gf_c a 4 ^^^ (gf_c a 5 ^^^ (gf_c a 6 ^^^ gf_c a 7)))))) := by decide +kernel
theorem gf_lin {n : Nat} (f g : BitVec 8 → BitVec n) (hf : ∀ a b, f (a ^^^ b) = f a ^^^ f b) (hg : ∀ a b, g (a ^^^ b) = g a ^^^ g b) (h : ∀ i, i < 8 → f (gf_e i) = g (gf_e i)) (a : BitVec 8) : f a = g a := by
  have f0 : f 0#8 = 0#n := by have := hf 0#8 0#8; simpa using this
  have g0 : g 0#8 = 0#n := by have := hg 0#8 0#8; simpa using this
  have hc : ∀ i, i < 8 → f (gf_c a i) = g (gf_c a i) := by
    intro i hi
    unfold gf_c
    cases a.getLsbD i
    · simp [f0, g0]
    · simpa using h i hi
  rw [gf_bits a]
  simp only [hf, hg]
  rw [hc 0 (by decide), hc 1 (by decide), hc 2 (by decide), hc 3 (by decide), hc 4 (by decide), hc 5 (by decide), hc 6 (by decide), hc 7 (by decide)]
theorem gf_comm (a b : BitVec 8) : gf_m a b = gf_m b a := by
  refine gf_lin (fun a => gf_m a b) (fun a => gf_m b a) (fun x y => gf_ml x y b) (fun x y => gf_mr b x y) (fun i hi => ?_) a
  refine gf_lin (fun b => gf_m (gf_e i) b) (fun b => gf_m b (gf_e i)) (fun x y => gf_mr _ x y) (fun x y => gf_ml x y _) (fun j hj => ?_) b
  have : ∀ i, i < 8 → ∀ j, j < 8 → gf_m (gf_e i) (gf_e j) = gf_m (gf_e j) (gf_e i) := by decide +kernel
  exact this i hi j hj
theorem gf_assoc (a b d : BitVec 8) : gf_m (gf_m a b) d = gf_m a (gf_m b d) := by
  refine gf_lin (fun a => gf_m (gf_m a b) d) (fun a => gf_m a (gf_m b d)) (fun x y => by show gf_m (gf_m _ _) _ = _; rw [gf_ml, gf_ml]) (fun x y => gf_ml x y _) (fun i hi => ?_) a
  refine gf_lin (fun b => gf_m (gf_m (gf_e i) b) d) (fun b => gf_m (gf_e i) (gf_m b d)) (fun x y => by show gf_m (gf_m _ _) _ = _; rw [gf_mr, gf_ml]) (fun x y => by show gf_m _ (gf_m _ _) = _; rw [gf_ml, gf_mr]) (fun j hj => ?_) b
  refine gf_lin (fun d => gf_m (gf_m (gf_e i) (gf_e j)) d) (fun d => gf_m (gf_e i) (gf_m (gf_e j) d)) (fun x y => gf_mr _ x y) (fun x y => by show gf_m _ (gf_m _ _) = _; rw [gf_mr, gf_mr]) (fun k hk => ?_) d
  have : ∀ i, i < 8 → ∀ j, j < 8 → ∀ k, k < 8 → gf_m (gf_m (gf_e i) (gf_e j)) (gf_e k) = gf_m (gf_e i) (gf_m (gf_e j) (gf_e k)) := by decide +kernel
  exact this i hi j hj k hk
theorem gf_one (a : BitVec 8) : gf_m a 1#8 = a := by
  have : ∀ a : BitVec 8, gf_m a 1#8 = a := by decide +kernel
  exact this a
theorem gf_zero (a : BitVec 8) : gf_m a 0#8 = 0#8 := by
  have := gf_mr a 0#8 0#8
  simpa using this
theorem gf_zl (a : BitVec 8) : gf_m 0#8 a = 0#8 := by rw [gf_comm, gf_zero]
theorem gf_ol (a : BitVec 8) : gf_m 1#8 a = a := by rw [gf_comm, gf_one]
/-- the power 254 -/
def gf_q : Nat → BitVec 8 → BitVec 8
  | 0, a => a
  | n + 1, a => gf_m (gf_q n a) (gf_q n a)
def gf_r : Nat → BitVec 8 → BitVec 8
  | 0, _ => 1#8
  | n + 1, a => gf_m (gf_r n a) (gf_q (n + 1) a)
def gf_i (a : BitVec 8) : BitVec 8 := gf_r 7 a
theorem gf_inv : ∀ a : BitVec 8, a.toNat < 8 → a ≠ 0#8 → gf_m a (gf_i a) = 1#8 := by
  have : ∀ n : Fin 8, BitVec.ofNat 8 n.val ≠ 0#8 → gf_m (BitVec.ofNat 8 n.val) (gf_i (BitVec.ofNat 8 n.val)) = 1#8 := by decide +kernel
  intro a ha h0
  have h1 := this ⟨a.toNat, ha⟩
  simp only [BitVec.ofNat_toNat, BitVec.setWidth_eq] at h1
  exact h1 h0
-- the complete symmetric sums of the points X a .. X (a + l - 1)
def gf_h (X : Nat → BitVec 8) : Nat → Nat → Nat → BitVec 8
  | 0, _, _ => 1#8
  | _ + 1, _, 0 => 0#8
  | n + 1, a, l + 1 => gf_h X (n + 1) a l ^^^ gf_m (X (a + l)) (gf_h X n a (l + 1))
termination_by n _ l => (n, l)
theorem gf_h0 (X : Nat → BitVec 8) (a l : Nat) : gf_h X 0 a l = 1#8 := by simp [gf_h]
theorem gf_hz (X : Nat → BitVec 8) (n a : Nat) : gf_h X (n + 1) a 0 = 0#8 := by simp [gf_h]
theorem gf_hb (X : Nat → BitVec 8) (n a l : Nat) : gf_h X (n + 1) a (l + 1) = gf_h X (n + 1) a l ^^^ gf_m (X (a + l)) (gf_h X n a (l + 1)) := by rw [gf_h]
/-- from the front -/
theorem gf_hf (X : Nat → BitVec 8) : ∀ n l a, gf_h X (n + 1) a (l + 1) = gf_h X (n + 1) (a + 1) l ^^^ gf_m (X a) (gf_h X n a (l + 1)) := by
  intro n
  induction n with
  | zero =>
    intro l
    induction l with
    | zero => intro a; rw [gf_hb X 0 a 0, gf_hz, gf_hz, Nat.add_zero]
    | succ l ih =>
      intro a
      rw [gf_hb X 0 a (l + 1), ih a, gf_hb X 0 (a + 1) l, gf_h0, gf_h0, gf_h0, show a + 1 + l = a + (l + 1) by omega]
      rw [BitVec.xor_assoc, BitVec.xor_assoc, BitVec.xor_comm (gf_m (X a) 1#8)]
  | succ n ihn =>
    intro l
    induction l with
    | zero => intro a; rw [gf_hb X (n + 1) a 0, gf_hz, gf_hz, Nat.add_zero]
    | succ l ih =>
      intro a
      have t1 := gf_hb X n a (l + 1)
      have t2 := ihn (l + 1) a
      have hL : gf_m (X (a + (l + 1))) (gf_h X (n + 1) a (l + 1 + 1)) = gf_m (X (a + (l + 1))) (gf_h X (n + 1) (a + 1) (l + 1)) ^^^ gf_m (X (a + (l + 1))) (gf_m (X a) (gf_h X n a (l + 1 + 1))) := by rw [t2, gf_mr]
      have hR : gf_m (X a) (gf_h X (n + 1) a (l + 1 + 1)) = gf_m (X a) (gf_h X (n + 1) a (l + 1)) ^^^ gf_m (X a) (gf_m (X (a + (l + 1))) (gf_h X n a (l + 1 + 1))) := by rw [t1, gf_mr]
      have e1 : gf_m (X (a + (l + 1))) (gf_m (X a) (gf_h X n a (l + 1 + 1))) = gf_m (X a) (gf_m (X (a + (l + 1))) (gf_h X n a (l + 1 + 1))) := by rw [← gf_assoc, ← gf_assoc, gf_comm (X a)]
      rw [gf_hb X (n + 1) a (l + 1), ih a, gf_hb X (n + 1) (a + 1) l, show a + 1 + l = a + (l + 1) by omega, hL, hR, e1]
      exact gf_x4 _ _ _ _
/-- the divided difference of a power -/
theorem gf_hd (X : Nat → BitVec 8) (n a l : Nat) : gf_m (X (a + l) ^^^ X a) (gf_h X n a (l + 1)) = gf_h X (n + 1) (a + 1) l ^^^ gf_h X (n + 1) a l := by
  have h1 := gf_hb X n a l
  have h2 := gf_hf X n l a
  rw [gf_ml]
  rw [h1] at h2
  have h3 : ∀ p q r t : BitVec 8, p ^^^ q = r ^^^ t → q ^^^ t = r ^^^ p := by
    intro p q r t h
    have : q = p ^^^ (r ^^^ t) := by rw [← h, ← BitVec.xor_assoc, BitVec.xor_self, BitVec.zero_xor]
    rw [this, BitVec.xor_assoc, BitVec.xor_assoc, BitVec.xor_self, BitVec.xor_zero, BitVec.xor_comm]
  exact h3 _ _ _ _ h2
/-- sums -/
def gf_sum (f : Nat → BitVec 8) : Nat → BitVec 8
  | 0 => 0#8
  | n + 1 => gf_sum f n ^^^ f n
theorem gf_sum_x (f g : Nat → BitVec 8) (n : Nat) : gf_sum (fun m => f m ^^^ g m) n = gf_sum f n ^^^ gf_sum g n := by
  induction n with
  | zero => simp [gf_sum]
  | succ n ih => simp only [gf_sum]; rw [ih, gf_x4]
theorem gf_sum_m (y : BitVec 8) (f : Nat → BitVec 8) (n : Nat) : gf_sum (fun m => gf_m y (f m)) n = gf_m y (gf_sum f n) := by
  induction n with
  | zero => simp [gf_sum, gf_zero]
  | succ n ih => simp only [gf_sum]; rw [ih, gf_mr]
theorem gf_sum_c {f g : Nat → BitVec 8} {n : Nat} (h : ∀ m, m < n → f m = g m) : gf_sum f n = gf_sum g n := by
  induction n with
  | zero => rfl
  | succ n ih => simp only [gf_sum]; rw [ih (fun m hm => h m (by omega)), h n (by omega)]
theorem gf_sum_0 (n : Nat) : gf_sum (fun _ => 0#8) n = 0#8 := by
  induction n with
  | zero => rfl
  | succ n ih => simp [gf_sum, ih]
theorem gf_sum_1 {f : Nat → BitVec 8} {n k : Nat} (hk : k < n) (h : ∀ m, m ≠ k → f m = 0#8) : gf_sum f n = f k := by
  induction n with
  | zero => omega
  | succ n ih =>
    simp only [gf_sum]
    by_cases hn : n = k
    · subst hn
      rw [gf_sum_c (g := fun _ => 0#8) (fun m hm => h m (by omega)), gf_sum_0, BitVec.zero_xor]
    · rw [ih (by omega), h n hn, BitVec.xor_zero]
def gf_hm (X : Nat → BitVec 8) (m t a l : Nat) : BitVec 8 := if m < t then 0#8 else gf_h X (m - t) a l
/-- divided differences of the polynomial with the coefficients c: the entry t, i of Newton's scheme -/
def gf_D (c X : Nat → BitVec 8) (K t i : Nat) : BitVec 8 := gf_sum (fun m => gf_m (c m) (gf_hm X m t (i - t) (t + 1))) K
/-- the entries on the way back -/
def gf_E (c X : Nat → BitVec 8) (K s i : Nat) : BitVec 8 := gf_sum (fun m => gf_m (c m) (gf_hm X m i 0 s)) K
theorem gf_Dstep (c X : Nat → BitVec 8) (K t i : Nat) (hti : t + 1 ≤ i) (y : BitVec 8) (hy : gf_m (X i ^^^ X (i - (t + 1))) y = 1#8) : gf_m (gf_D c X K t i ^^^ gf_D c X K t (i - 1)) y = gf_D c X K (t + 1) i := by
  unfold gf_D
  rw [← gf_sum_x]
  have e : ∀ m, (gf_m (c m) (gf_hm X m t (i - t) (t + 1)) ^^^ gf_m (c m) (gf_hm X m t (i - 1 - t) (t + 1))) = gf_m (X i ^^^ X (i - (t + 1))) (gf_m (c m) (gf_hm X m (t + 1) (i - (t + 1)) (t + 1 + 1))) := by
    intro m
    rw [← gf_mr, ← gf_assoc, gf_comm (X i ^^^ X (i - (t + 1))), gf_assoc]
    congr 1
    unfold gf_hm
    by_cases h1 : m < t
    · rw [if_pos h1, if_pos h1, if_pos (by omega), gf_zero, BitVec.xor_self]
    · rw [if_neg h1, if_neg h1]
      by_cases h2 : m < t + 1
      · rw [if_pos h2, show m - t = 0 by omega, gf_h0, gf_h0, gf_zero, BitVec.xor_self]
      · rw [if_neg h2]
        have := gf_hd X (m - (t + 1)) (i - (t + 1)) (t + 1)
        rw [show i - (t + 1) + (t + 1) = i by omega, show m - (t + 1) + 1 = m - t by omega, show i - (t + 1) + 1 = i - t by omega] at this
        rw [this, show i - 1 - t = i - (t + 1) by omega]
  rw [show (fun m => gf_m (c m) (gf_hm X m t (i - t) (t + 1)) ^^^ gf_m (c m) (gf_hm X m t (i - 1 - t) (t + 1))) = fun m => gf_m (X i ^^^ X (i - (t + 1))) (gf_m (c m) (gf_hm X m (t + 1) (i - (t + 1)) (t + 1 + 1))) from funext e]
  rw [gf_sum_m, gf_comm, ← gf_assoc, gf_comm y, hy, gf_ol]
theorem gf_DE (c X : Nat → BitVec 8) (K i : Nat) : gf_D c X K i i = gf_E c X K (i + 1) i := by
  unfold gf_D gf_E
  rw [Nat.sub_self]
theorem gf_Estep (c X : Nat → BitVec 8) (K s i : Nat) : gf_E c X K (s + 1) i ^^^ gf_m (X s) (gf_E c X K (s + 1) (i + 1)) = gf_E c X K s i := by
  unfold gf_E
  rw [← gf_sum_m, ← gf_sum_x]
  congr 1
  funext m
  rw [← gf_assoc, gf_comm (X s), gf_assoc, ← gf_mr]
  congr 1
  unfold gf_hm
  by_cases h1 : m < i
  · rw [if_pos h1, if_pos h1, if_pos (by omega), gf_zero, BitVec.xor_self]
  · rw [if_neg h1, if_neg h1]
    by_cases h2 : m < i + 1
    · rw [if_pos h2, show m - i = 0 by omega, gf_h0, gf_h0, gf_zero, BitVec.xor_zero]
    · rw [if_neg h2]
      have := gf_hb X (m - (i + 1)) 0 s
      rw [show m - (i + 1) + 1 = m - i by omega, Nat.zero_add] at this
      rw [this, BitVec.xor_assoc, BitVec.xor_self, BitVec.xor_zero]
theorem gf_E0 (c X : Nat → BitVec 8) (K i : Nat) (hi : i < K) : gf_E c X K 0 i = c i := by
  unfold gf_E
  rw [gf_sum_1 hi]
  · unfold gf_hm
    rw [if_neg (by omega), Nat.sub_self, gf_h0, gf_one]
  · intro m hm
    unfold gf_hm
    by_cases h1 : m < i
    · rw [if_pos h1, gf_zero]
    · rw [if_neg h1, show m - i = (m - i - 1) + 1 by omega, gf_hz, gf_zero]
/-- the last entry never changes -/
theorem gf_Elast (c X : Nat → BitVec 8) (K s : Nat) (hK : 0 < K) : gf_E c X K s (K - 1) = c (K - 1) := by
  unfold gf_E
  have : ∀ m, m < K → gf_m (c m) (gf_hm X m (K - 1) 0 s) = gf_m (c m) (gf_hm X m (K - 1) 0 0) := by
    intro m hm
    unfold gf_hm
    by_cases h1 : m < K - 1
    · rw [if_pos h1, if_pos h1]
    · rw [if_neg h1, if_neg h1, show m - (K - 1) = 0 by omega, gf_h0, gf_h0]
  rw [gf_sum_c this]
  exact gf_E0 c X K (K - 1) (by omega)
/-- powers -/
def gf_w (x : BitVec 8) : Nat → BitVec 8
  | 0 => 1#8
  | n + 1 => gf_m (gf_w x n) x
theorem gf_hw (X : Nat → BitVec 8) (n i : Nat) : gf_h X n i 1 = gf_w (X i) n := by
  induction n with
  | zero => rw [gf_h0]; rfl
  | succ n ih => rw [gf_hb, gf_hz, BitVec.zero_xor, ih, gf_comm]; rfl
/-- Horner's sum of the upper n of K coefficients -/
def gf_o (c : Nat → BitVec 8) (x : BitVec 8) (K : Nat) : Nat → BitVec 8
  | 0 => 0#8
  | n + 1 => gf_m (gf_o c x K n) x ^^^ c (K - (n + 1))
def gf_v (c : Nat → BitVec 8) (x : BitVec 8) (K : Nat) : BitVec 8 := gf_sum (fun m => gf_m (c m) (gf_w x m)) K
theorem gf_v_front (c : Nat → BitVec 8) (x : BitVec 8) (n : Nat) : gf_v c x (n + 1) = gf_m (gf_v (fun m => c (m + 1)) x n) x ^^^ c 0 := by
  induction n with
  | zero => simp [gf_v, gf_sum, gf_w, gf_one, gf_zl]
  | succ n ih =>
    have e1 : gf_v c x (n + 1 + 1) = gf_v c x (n + 1) ^^^ gf_m (c (n + 1)) (gf_w x (n + 1)) := rfl
    have e2 : gf_v (fun m => c (m + 1)) x (n + 1) = gf_v (fun m => c (m + 1)) x n ^^^ gf_m (c (n + 1)) (gf_w x n) := rfl
    rw [e1, ih, e2, gf_ml, gf_assoc]
    show _ ^^^ gf_m (c (n + 1)) (gf_m (gf_w x n) x) = _
    rw [BitVec.xor_assoc, BitVec.xor_comm (c 0), ← BitVec.xor_assoc]
theorem gf_ov (c : Nat → BitVec 8) (x : BitVec 8) (K : Nat) : ∀ n, n ≤ K → gf_o c x K n = gf_v (fun m => c (K - n + m)) x n := by
  intro n
  induction n with
  | zero => intro _; rfl
  | succ n ih =>
    intro h
    rw [gf_v_front]
    show gf_m (gf_o c x K n) x ^^^ c (K - (n + 1)) = _
    rw [ih (by omega)]
    congr 3
    · funext m
      show c (K - n + m) = c (K - (n + 1) + (m + 1))
      rw [show K - (n + 1) + (m + 1) = K - n + m by omega]
theorem gf_horner (c : Nat → BitVec 8) (x : BitVec 8) (K : Nat) : gf_o c x K K = gf_v c x K := by
  rw [gf_ov c x K K (Nat.le_refl _)]
  congr 1
  funext m
  rw [Nat.sub_self, Nat.zero_add]
theorem gf_vD (c X : Nat → BitVec 8) (K i : Nat) : gf_v c (X i) K = gf_D c X K 0 i := by
  unfold gf_v gf_D
  congr 1
  funext m
  unfold gf_hm
  rw [if_neg (by omega), Nat.sub_zero, Nat.sub_zero, gf_hw]
end
section
-- Java's numbers and bytes
theorem by_256 {P : BitVec 8 → Prop} (h : ∀ n, n < 256 → P (BitVec.ofNat 8 n)) (v : BitVec 8) : P v := by
  have := h v.toNat v.isLt
  simpa using this
theorem bx_x (a b : Nat) : nI a ^^^ nI b = nI (a ^^^ b) := by
  apply Int32.toBitVec_inj.1
  show BitVec.ofNat 32 a ^^^ BitVec.ofNat 32 b = BitVec.ofNat 32 (a ^^^ b)
  apply BitVec.eq_of_getLsbD_eq
  intro i hi
  simp [hi]
theorem bI_xor (u v : BitVec 8) : bI u ^^^ bI v = bI (u ^^^ v) := by
  unfold bI
  rw [bx_x, BitVec.toNat_xor]
theorem bI_0 : bI 0#8 = 0 := by decide +kernel
theorem bI_1 : bI 1#8 = 1 := by decide +kernel
theorem bI_lt (v : BitVec 8) : v.toNat < 256 := v.isLt
theorem bI_inj {u v : BitVec 8} (h : bI u = bI v) : u = v := by
  unfold bI at h
  have hu := u.isLt
  have hv := v.isLt
  exact BitVec.eq_of_toNat_eq ((nI_eq (by omega) (by omega)).mp h)
theorem bI_of {n : Nat} (h : n < 256) : nI n = bI (BitVec.ofNat 8 n) := by
  unfold bI
  rw [BitVec.toNat_ofNat, Nat.mod_eq_of_lt h]
-- times: one bit on
theorem bt_sh0 : ∀ n, n < 256 → ((bI (BitVec.ofNat 8 n) <<< ((1 : Int32) &&& 31)) &&& 256 = 0 → bI (BitVec.ofNat 8 n) <<< ((1 : Int32) &&& 31) = bI (gf_x (BitVec.ofNat 8 n))) ∧ (¬ (bI (BitVec.ofNat 8 n) <<< ((1 : Int32) &&& 31)) &&& 256 = 0 → (bI (BitVec.ofNat 8 n) <<< ((1 : Int32) &&& 31)) ^^^ 285 = bI (gf_x (BitVec.ofNat 8 n))) := by decide +kernel
theorem bt_sh (v : BitVec 8) : ((bI v <<< ((1 : Int32) &&& 31)) &&& 256 = 0 → bI v <<< ((1 : Int32) &&& 31) = bI (gf_x v)) ∧ (¬ (bI v <<< ((1 : Int32) &&& 31)) &&& 256 = 0 → (bI v <<< ((1 : Int32) &&& 31)) ^^^ 285 = bI (gf_x v)) := by_256 (P := fun v => ((bI v <<< ((1 : Int32) &&& 31)) &&& 256 = 0 → bI v <<< ((1 : Int32) &&& 31) = bI (gf_x v)) ∧ (¬ (bI v <<< ((1 : Int32) &&& 31)) &&& 256 = 0 → (bI v <<< ((1 : Int32) &&& 31)) ^^^ 285 = bI (gf_x v))) bt_sh0 v
theorem bt_bit0 : ∀ n, n < 256 → ∀ i, i < 8 → ((bI (BitVec.ofNat 8 n) >>> (nI i &&& 31)) &&& 1 = 0 ↔ (BitVec.ofNat 8 n).getLsbD i = false) := by decide +kernel
theorem bt_bit (v : BitVec 8) {i : Nat} (hi : i < 8) : (bI v >>> (nI i &&& 31)) &&& 1 = 0 ↔ v.getLsbD i = false := by_256 (P := fun v => ∀ i, i < 8 → ((bI v >>> (nI i &&& 31)) &&& 1 = 0 ↔ v.getLsbD i = false)) bt_bit0 v i hi
theorem gf_s1 (i : Nat) (a b : BitVec 8) : gf_s (i + 1) a b = gf_s i a b ^^^ (if b.getLsbD i then gf_p i a else 0#8) := rfl
theorem gf_st {i : Nat} {a b : BitVec 8} (h : b.getLsbD i = true) : gf_s (i + 1) a b = gf_s i a b ^^^ gf_p i a := by rw [gf_s1, h]; rfl
theorem gf_sf {i : Nat} {a b : BitVec 8} (h : b.getLsbD i = false) : gf_s (i + 1) a b = gf_s i a b := by rw [gf_s1, h]; simp
-- bytes of a long
def by8 (w : Int64) (j : Nat) : BitVec 8 := (w.toBitVec >>> (8 * j)).setWidth 8
def pl8 (v : BitVec 8) (j : Nat) : Int64 := Int64.ofBitVec ((v.setWidth 64) <<< (8 * j))
theorem by8_bit (w : Int64) (j i : Nat) (hi : i < 8) : (by8 w j).getLsbD i = w.toBitVec.getLsbD (8 * j + i) := by
  unfold by8
  simp [hi]
theorem by8_big (w : Int64) {j : Nat} (hj : 8 ≤ j) : by8 w j = 0#8 := by
  apply BitVec.eq_of_getLsbD_eq
  intro i hi
  rw [by8_bit w j i hi, BitVec.getLsbD_of_ge _ _ (by omega)]
  simp
theorem by8_ext {a b : Int64} (h : ∀ j, j < 8 → by8 a j = by8 b j) : a = b := by
  apply Int64.toBitVec_inj.1
  apply BitVec.eq_of_getLsbD_eq
  intro i hi
  have h1 := congrArg (fun v => v.getLsbD (i % 8)) (h (i / 8) (by omega))
  simp only [by8_bit _ _ _ (Nat.mod_lt i (by decide : 8 > 0))] at h1
  rw [show 8 * (i / 8) + i % 8 = i by omega] at h1
  exact h1
theorem by8_or (a b : Int64) (j : Nat) : by8 (a ||| b) j = by8 a j ||| by8 b j := by
  apply BitVec.eq_of_getLsbD_eq
  intro i hi
  rw [by8_bit _ _ _ hi, BitVec.getLsbD_or, by8_bit _ _ _ hi, by8_bit _ _ _ hi, Int64.toBitVec_or, BitVec.getLsbD_or]
theorem by8_0 (j : Nat) : by8 0 j = 0#8 := by
  apply BitVec.eq_of_getLsbD_eq
  intro i hi
  rw [by8_bit _ _ _ hi]
  simp
theorem by8_pl (v : BitVec 8) {i j : Nat} (hj : j < 8) : by8 (pl8 v i) j = if i = j then v else 0#8 := by
  apply BitVec.eq_of_getLsbD_eq
  intro q hq
  rw [by8_bit _ _ _ hq]
  show ((v.setWidth 64) <<< (8 * i)).getLsbD (8 * j + q) = _
  rw [BitVec.getLsbD_shiftLeft]
  by_cases h : i = j
  · subst h
    rw [if_pos rfl]
    simp [show 8 * i + q < 64 by omega, show ¬ 8 * i + q < 8 * i by omega, show 8 * i + q - 8 * i = q by omega, show q < 64 by omega]
  · rw [if_neg h]
    by_cases h2 : 8 * j + q < 8 * i
    · simp [h2]
    · rw [BitVec.getLsbD_setWidth, BitVec.getLsbD_of_ge v _ (by omega)]
      simp
theorem by8_sh0 : ∀ j, j < 8 → ((8 : Int32) * nI j).toInt64.toUInt64 &&& Int64.toUInt64 63 = UInt64.ofNat (8 * j) := by decide +kernel
theorem by8_sh1 : ∀ j, j < 8 → ((8 : Int32) * nI j).toInt64 &&& 63 = lN (8 * j) := by decide +kernel
theorem by8_255 : ∀ i, i < 32 → (255 : Int32).toBitVec.getLsbD i = decide (i < 8) := by decide +kernel
theorem by8_255l : ∀ i, i < 64 → (255 : Int64).toBitVec.getLsbD i = decide (i < 8) := by decide +kernel
theorem bI_bit (v : BitVec 8) {i : Nat} (hi : i < 32) : (bI v).toBitVec.getLsbD i = v.getLsbD i := by
  show (BitVec.ofNat 32 v.toNat).getLsbD i = v.toNat.testBit i
  rw [BitVec.getLsbD_ofNat]
  simp [hi]
theorem by8_ushr (w : Int64) {k : Nat} (hk : k < 64) : (w.toUInt64 >>> UInt64.ofNat k).toInt64.toBitVec = w.toBitVec >>> k := by
  apply BitVec.eq_of_toNat_eq
  show (w.toUInt64 >>> UInt64.ofNat k).toNat = _
  have h1 : (UInt64.ofNat k).toNat = k := by
    show (BitVec.ofNat 64 k).toNat = k
    rw [BitVec.toNat_ofNat, Nat.mod_eq_of_lt (by omega)]
  rw [UInt64.toNat_shiftRight, h1, Nat.mod_eq_of_lt hk, BitVec.toNat_ushiftRight]
  rfl
/-- the program's byteAt -/
theorem by8_at (w : Int64) {j : Nat} (hj : j < 8) : (w.toUInt64 >>> (((8 : Int32) * nI j).toInt64.toUInt64 &&& Int64.toUInt64 63)).toInt64.toInt32 &&& 255 = bI (by8 w j) := by
  rw [by8_sh0 j hj]
  apply Int32.toBitVec_inj.1
  apply BitVec.eq_of_getLsbD_eq
  intro i hi
  rw [bI_bit _ hi, Int32.toBitVec_and, BitVec.getLsbD_and, by8_255 i hi, Int64.toBitVec_toInt32, by8_ushr w (by omega)]
  by_cases h8 : i < 8
  · rw [by8_bit w j i h8, BitVec.getLsbD_signExtend, BitVec.getLsbD_ushiftRight]
    simp [h8, hi, show i < 64 by omega]
  · rw [BitVec.getLsbD_of_ge (by8 w j) i (by omega)]
    simp [h8]
/-- the program's placed -/
theorem pl8_at (v : BitVec 8) {j : Nat} (hj : j < 8) : (bI v).toInt64 <<< (((8 : Int32) * nI j).toInt64 &&& 63) = pl8 v j := by
  rw [by8_sh1 j hj]
  apply Int64.toBitVec_inj.1
  rw [Int64.toBitVec_shiftLeft]
  have e1 : (bI v).toInt64.toBitVec = v.setWidth 64 := by
    have h : (bI v).toInt64 = lN v.toNat := nI_l (by have := v.isLt; omega)
    rw [h]
    show BitVec.ofNat 64 v.toNat = _
    apply BitVec.eq_of_toNat_eq
    rw [BitVec.toNat_ofNat, BitVec.toNat_setWidth]
  have e2 : ∀ j, j < 8 → ((lN (8 * j)).toBitVec.smod 64#64) = BitVec.ofNat 64 (8 * j) := by decide +kernel
  rw [e1]
  show (BitVec.setWidth 64 v) <<< ((lN (8 * j)).toBitVec.smod 64#64) = BitVec.setWidth 64 v <<< (8 * j)
  rw [e2 j hj]
  apply BitVec.eq_of_toNat_eq
  rw [BitVec.shiftLeft_eq', BitVec.toNat_ofNat, Nat.mod_eq_of_lt (show 8 * j < 2 ^ 64 by omega)]
/-- the reference's byte -/
theorem by8_mod (w : Int64) {j : Nat} (hj : j < 8) : ((w >>> (((8 : Int32) * nI j).toInt64 &&& 63)) &&& 255).toInt32 = bI (by8 w j) := by
  rw [by8_sh1 j hj]
  apply Int32.toBitVec_inj.1
  apply BitVec.eq_of_getLsbD_eq
  intro i hi
  have e2 : ∀ j, j < 8 → ((lN (8 * j)).toBitVec.smod 64#64).toNat = 8 * j := by decide +kernel
  rw [bI_bit _ hi, Int64.toBitVec_toInt32, Int64.toBitVec_and, Int64.toBitVec_shiftRight]
  by_cases h8 : i < 8
  · rw [by8_bit w j i h8]
    rw [BitVec.getLsbD_signExtend, BitVec.getLsbD_and, by8_255l i (by omega), BitVec.sshiftRight_eq']
    rw [show ((lN (8 * j)).toBitVec.smod 64).toNat = 8 * j from e2 j hj, BitVec.getLsbD_sshiftRight]
    simp [h8, hi, show i < 64 by omega, show 8 * j + i < 64 by omega, show ¬ 64 ≤ i by omega]
  · rw [BitVec.getLsbD_of_ge (by8 w j) i (by omega), BitVec.getLsbD_signExtend, BitVec.getLsbD_and, by8_255l i (by omega)]
    simp [h8, show i < 64 by omega]
theorem pl8_big (v : BitVec 8) {j : Nat} (hj : 8 ≤ j) : pl8 v j = 0 := by
  refine by8_ext (fun i hi => ?_)
  rw [by8_pl v hi, if_neg (by omega), by8_0]
end
section
-- contracts of Code, by wip/whole/gen/c_code.py
set_option maxHeartbeats 4000000 in
set_option maxRecDepth 100000 in
theorem ct_K_pointOf (l : Launch) (x : fy) (S : fm) (z : Int32) : Met l mn_K_pointOf (gw_ws mn_K_pointOf cb_K_pointOf 1 (some .int)) ({ frames := 0, cells := 0, slots := 0, locals := 0 } : Room) (fPc x (S) [.int z]) (fQi x (S) (z + 1)) 0 0 (fun q => xs x ≤ q) := by
  refine f_met (by decide) (Nat.le_of_ble_eq_true rfl) ?_
  intro p e s m below meth c0 cx hr hlocks hnm hP hS ls hl
  have cx : fX rn_K cb_K_pointOf 1 p c0 s m [.int z].toArray x := cx
  have hx := cx.1.1
  have hb := cx.1.2.1
  have hl : lv_has ls 1 [(0, .int z)] := hl
  refine lv_iload_n (pc := 0) hx hb dd_K_pointOf_0 rfl (lv_at hl 0 rfl) ?_
  refine lv_iconst (pc := 1) (v := 1) hx hb dd_K_pointOf_1 (by decide) ?_
  refine lv_iadd (pc := 2) hx hb dd_K_pointOf_2 ?_
  exact f_iret (pc := 3) cx hr hlocks hP hS rfl rfl dd_K_pointOf_3
set_option maxHeartbeats 4000000 in
set_option maxRecDepth 100000 in
theorem ct_K_byteAt (l : Launch) (x : fy) (S : fm) (w : Int64) (j : Nat) (hj : j < 1000) : Met l mn_K_byteAt (gw_ws mn_K_byteAt cb_K_byteAt 3 (some .int)) ({ frames := 0, cells := 0, slots := 0, locals := 0 } : Room) (fPc x (S) [.long w, .int (nI j)]) (fQi x (S) (bI (by8 w j))) 0 0 (fun q => xs x ≤ q) := by
  refine f_met (by decide) (Nat.le_of_ble_eq_true rfl) ?_
  intro p e s m below meth c0 cx hr hlocks hnm hP hS ls hl
  have cx : fX rn_K cb_K_byteAt 3 p c0 s m [.long w, .int (nI j)].toArray x := cx
  have hx := cx.1.1
  have hb := cx.1.2.1
  have hl : lv_has ls 3 [(0, .long w), (2, .int (nI j))] := hl
  refine lv_iload_n (pc := 0) hx hb dd_K_byteAt_0 rfl (lv_at hl 1 rfl) ?_
  refine lv_if_lt (pc := 1) (tgt := 24) hx hb dd_K_byteAt_1 (by decide) (fun h1 => ?_) (fun h1 => ?_)
  · -- 1: t to 24
    exact absurd h1 (nI_pos (by omega))
  · -- 1: f to 4
    refine lv_iload_n (pc := 4) hx hb dd_K_byteAt_4 rfl (lv_at hl 1 rfl) ?_
    refine lv_bipush (pc := 5) (v := nI 8) hx hb dd_K_byteAt_5 (by decide) ?_
    refine lv_icmp_ge (pc := 7) (tgt := 24) hx hb dd_K_byteAt_7 (by decide) (fun h7 => ?_) (fun h7 => ?_)
    · -- 7: t to 24
      have h := (nI_leI (by omega) (by omega)).mp h7
      have e0 : (0 : Int32) = bI (by8 w j) := by rw [by8_big w h]; exact bI_0.symm
      refine lv_iconst (pc := 24) (v := 0) hx hb dd_K_byteAt_24 (by decide) ?_
      exact f_iret (pc := 25) cx hr hlocks hP hS (by assumption) rfl dd_K_byteAt_25
    · -- 7: f to 10
      have h : j < 8 := Nat.lt_of_not_le (fun q => h7 ((nI_leI (by omega) (by omega)).mpr q))
      have e0 := by8_at w h
      refine lv_lload_n (pc := 10) hx hb dd_K_byteAt_10 rfl (lv_at hl 0 rfl) ?_
      refine lv_bipush (pc := 11) (v := 8) hx hb dd_K_byteAt_11 (by decide) ?_
      refine lv_iload_n (pc := 13) hx hb dd_K_byteAt_13 rfl (lv_at hl 1 rfl) ?_
      refine lv_imul (pc := 14) hx hb dd_K_byteAt_14 ?_
      refine lv_lushr (pc := 15) hx hb dd_K_byteAt_15 rfl ?_
      refine lv_l2i (pc := 16) hx hb dd_K_byteAt_16 rfl ?_
      refine lv_sipush (pc := 17) (v := 255) hx hb dd_K_byteAt_17 (by decide) ?_
      refine lv_iand (pc := 20) hx hb dd_K_byteAt_20 ?_
      refine lv_goto (pc := 21) (tgt := 25) hx hb dd_K_byteAt_21 (by decide) ?_
      exact f_iret (pc := 25) cx hr hlocks hP hS (by assumption) rfl dd_K_byteAt_25
set_option maxHeartbeats 4000000 in
set_option maxRecDepth 100000 in
theorem ct_K_placed (l : Launch) (x : fy) (S : fm) (v : BitVec 8) (j : Nat) (hj : j < 1000) : Met l mn_K_placed (gw_ws mn_K_placed cb_K_placed 2 (some .long)) ({ frames := 0, cells := 0, slots := 0, locals := 0 } : Room) (fPc x (S) [.int (bI v), .int (nI j)]) (fQl x (S) (pl8 v j)) 0 0 (fun q => xs x ≤ q) := by
  refine f_met (by decide) (Nat.le_of_ble_eq_true rfl) ?_
  intro p e s m below meth c0 cx hr hlocks hnm hP hS ls hl
  have cx : fX rn_K cb_K_placed 2 p c0 s m [.int (bI v), .int (nI j)].toArray x := cx
  have hx := cx.1.1
  have hb := cx.1.2.1
  have hl : lv_has ls 2 [(0, .int (bI v)), (1, .int (nI j))] := hl
  refine lv_iload_n (pc := 0) hx hb dd_K_placed_0 rfl (lv_at hl 1 rfl) ?_
  refine lv_if_lt (pc := 1) (tgt := 20) hx hb dd_K_placed_1 (by decide) (fun h1 => ?_) (fun h1 => ?_)
  · -- 1: t to 20
    exact absurd h1 (nI_pos (by omega))
  · -- 1: f to 4
    refine lv_iload_n (pc := 4) hx hb dd_K_placed_4 rfl (lv_at hl 1 rfl) ?_
    refine lv_bipush (pc := 5) (v := nI 8) hx hb dd_K_placed_5 (by decide) ?_
    refine lv_icmp_ge (pc := 7) (tgt := 20) hx hb dd_K_placed_7 (by decide) (fun h7 => ?_) (fun h7 => ?_)
    · -- 7: t to 20
      have h := (nI_leI (by omega) (by omega)).mp h7
      have e0 : (0 : Int64) = pl8 v j := (pl8_big v h).symm
      refine lv_lconst (pc := 20) (v := 0) hx hb dd_K_placed_20 (by decide) ?_
      exact f_lret (pc := 21) cx hr hlocks hP hS (by assumption) rfl dd_K_placed_21
    · -- 7: f to 10
      have h : j < 8 := Nat.lt_of_not_le (fun q => h7 ((nI_leI (by omega) (by omega)).mpr q))
      have e0 := pl8_at v h
      refine lv_iload_n (pc := 10) hx hb dd_K_placed_10 rfl (lv_at hl 0 rfl) ?_
      refine lv_i2l (pc := 11) hx hb dd_K_placed_11 rfl ?_
      refine lv_bipush (pc := 12) (v := 8) hx hb dd_K_placed_12 (by decide) ?_
      refine lv_iload_n (pc := 14) hx hb dd_K_placed_14 rfl (lv_at hl 1 rfl) ?_
      refine lv_imul (pc := 15) hx hb dd_K_placed_15 ?_
      refine lv_lshl (pc := 16) hx hb dd_K_placed_16 rfl ?_
      refine lv_goto (pc := 17) (tgt := 21) hx hb dd_K_placed_17 (by decide) ?_
      exact f_lret (pc := 21) cx hr hlocks hP hS (by assumption) rfl dd_K_placed_21
set_option maxHeartbeats 4000000 in
set_option maxRecDepth 100000 in
theorem ct_K_times (l : Launch) (x : fy) (S : fm) (a b : BitVec 8) : Met l mn_K_times (gw_ws mn_K_times cb_K_times 5 (some .int)) ({ frames := 0, cells := 0, slots := 0, locals := 0 } : Room) (fPc x (S) [.int (bI a), .int (bI b)]) (fQi x (S) (bI (gf_m a b))) 0 0 (fun q => xs x ≤ q) := by
  refine f_met (by decide) (Nat.le_of_ble_eq_true rfl) ?_
  intro p e s m below meth c0 cx hr hlocks hnm hP hS ls hl
  have cx : fX rn_K cb_K_times 5 p c0 s m [.int (bI a), .int (bI b)].toArray x := cx
  have hx := cx.1.1
  have hb := cx.1.2.1
  have hl : lv_has ls 5 [(0, .int (bI a)), (1, .int (bI b))] := hl
  have loop : ∀ (n i : Nat) (su sh : Int32), i ≤ 8 → 8 - i < n → su = bI (gf_s i a b) → sh = bI (gf_p i a) → ∀ ls : Array Slot, lv_has ls 5 [(4, .int (nI i)), (3, .int sh), (2, .int su), (0, .int (bI a)), (1, .int (bI b))] → W p l e ({ frames := 0, cells := 0, slots := 0, locals := 0 } : Room) s m [.int (bI a), .int (bI b)].toArray below meth c0 s.heap [] 0 0 (MQ below (fQi x (S) (bI (gf_m a b))) [.int (bI a), .int (bI b)].toArray s 0 0 (fun q => xs x ≤ q)) (F0 m 7 ls []) := by
    intro n
    induction n with
    | zero => intro i su sh _ h; omega
    | succ n ih =>
      intro i su sh hi hn e1 e2 ls hl
      subst e1; subst e2
      refine lv_iload (pc := 7) hx hb dd_K_times_7 (lv_at hl 0 rfl) ?_
      refine lv_bipush (pc := 9) (v := nI 8) hx hb dd_K_times_9 (by decide) ?_
      refine lv_icmp_ge (pc := 11) (tgt := 51) hx hb dd_K_times_11 (by decide) (fun h11 => ?_) (fun h11 => ?_)
      · -- 11: t to 51
        have h := (nI_leI (by omega) (by omega)).mp h11
        have hi8 : i = 8 := by omega
        subst hi8
        refine lv_iload_n (pc := 51) hx hb dd_K_times_51 rfl (lv_at hl 2 rfl) ?_
        exact f_iret (pc := 52) cx hr hlocks hP hS rfl rfl dd_K_times_52
      · -- 11: f to 14
        have h : i < 8 := Nat.lt_of_not_le (fun q => h11 ((nI_leI (by omega) (by omega)).mpr q))
        refine lv_iload_n (pc := 14) hx hb dd_K_times_14 rfl (lv_at hl 4 rfl) ?_
        refine lv_iload (pc := 15) hx hb dd_K_times_15 (lv_at hl 0 rfl) ?_
        refine lv_ishr (pc := 17) hx hb dd_K_times_17 ?_
        refine lv_iconst (pc := 18) (v := 1) hx hb dd_K_times_18 (by decide) ?_
        refine lv_iand (pc := 19) hx hb dd_K_times_19 ?_
        refine lv_if_eq (pc := 20) (tgt := 27) hx hb dd_K_times_20 (by decide) (fun h20 => ?_) (fun h20 => ?_)
        · -- 20: t to 27
          have hbit := (bt_bit b h).mp h20
          have hsu : bI (gf_s i a b) = bI (gf_s (i + 1) a b) := by rw [gf_sf hbit]
          refine lv_iload_n (pc := 27) hx hb dd_K_times_27 rfl (lv_at hl 1 rfl) ?_
          refine lv_iconst (pc := 28) (v := 1) hx hb dd_K_times_28 (by decide) ?_
          refine lv_ishl (pc := 29) hx hb dd_K_times_29 ?_
          refine lv_istore_n (pc := 30) (lv' := [(3, _), (4, _), (2, _), (0, _), (1, _)]) hx hb dd_K_times_30 rfl hl (Nat.le_of_ble_eq_true rfl) rfl (fun ls hl => ?_)
          refine lv_iload_n (pc := 31) hx hb dd_K_times_31 rfl (lv_at hl 0 rfl) ?_
          refine lv_sipush (pc := 32) (v := 256) hx hb dd_K_times_32 (by decide) ?_
          refine lv_iand (pc := 35) hx hb dd_K_times_35 ?_
          refine lv_if_eq (pc := 36) (tgt := 45) hx hb dd_K_times_36 (by decide) (fun h36 => ?_) (fun h36 => ?_)
          · -- 36: t to 45
            have hsh := (bt_sh (gf_p i a)).1 h36
            refine lv_iinc (pc := 45) (k := 1) (lv' := [(4, _), (3, _), (2, _), (0, _), (1, _)]) hx hb dd_K_times_45 hl rfl (f_inc1 i) (Nat.le_of_ble_eq_true rfl) rfl (fun ls hl => ?_)
            refine lv_goto (pc := 48) (tgt := 7) hx hb dd_K_times_48 (by decide) ?_
            exact ih (i + 1) _ _ (by omega) (by omega) hsu hsh ls (lv_sub hl [0, 1, 2, 3, 4] rfl)
          · -- 36: f to 39
            have hsh := (bt_sh (gf_p i a)).2 h36
            refine lv_iload_n (pc := 39) hx hb dd_K_times_39 rfl (lv_at hl 0 rfl) ?_
            refine lv_sipush (pc := 40) (v := 285) hx hb dd_K_times_40 (by decide) ?_
            refine lv_ixor (pc := 43) hx hb dd_K_times_43 ?_
            refine lv_istore_n (pc := 44) (lv' := [(3, _), (4, _), (2, _), (0, _), (1, _)]) hx hb dd_K_times_44 rfl hl (Nat.le_of_ble_eq_true rfl) rfl (fun ls hl => ?_)
            refine lv_iinc (pc := 45) (k := 1) (lv' := [(4, _), (3, _), (2, _), (0, _), (1, _)]) hx hb dd_K_times_45 hl rfl (f_inc1 i) (Nat.le_of_ble_eq_true rfl) rfl (fun ls hl => ?_)
            refine lv_goto (pc := 48) (tgt := 7) hx hb dd_K_times_48 (by decide) ?_
            exact ih (i + 1) _ _ (by omega) (by omega) hsu hsh ls (lv_sub hl [0, 1, 2, 3, 4] rfl)
        · -- 20: f to 23
          have hbit : b.getLsbD i = true := by
            cases hz : b.getLsbD i with
            | true => rfl
            | false => exact absurd ((bt_bit b h).mpr hz) h20
          have hsu : bI (gf_s i a b) ^^^ bI (gf_p i a) = bI (gf_s (i + 1) a b) := by rw [gf_st hbit, bI_xor]
          refine lv_iload_n (pc := 23) hx hb dd_K_times_23 rfl (lv_at hl 2 rfl) ?_
          refine lv_iload_n (pc := 24) hx hb dd_K_times_24 rfl (lv_at hl 1 rfl) ?_
          refine lv_ixor (pc := 25) hx hb dd_K_times_25 ?_
          refine lv_istore_n (pc := 26) (lv' := [(2, _), (4, _), (3, _), (0, _), (1, _)]) hx hb dd_K_times_26 rfl hl (Nat.le_of_ble_eq_true rfl) rfl (fun ls hl => ?_)
          refine lv_iload_n (pc := 27) hx hb dd_K_times_27 rfl (lv_at hl 2 rfl) ?_
          refine lv_iconst (pc := 28) (v := 1) hx hb dd_K_times_28 (by decide) ?_
          refine lv_ishl (pc := 29) hx hb dd_K_times_29 ?_
          refine lv_istore_n (pc := 30) (lv' := [(3, _), (2, _), (4, _), (0, _), (1, _)]) hx hb dd_K_times_30 rfl hl (Nat.le_of_ble_eq_true rfl) rfl (fun ls hl => ?_)
          refine lv_iload_n (pc := 31) hx hb dd_K_times_31 rfl (lv_at hl 0 rfl) ?_
          refine lv_sipush (pc := 32) (v := 256) hx hb dd_K_times_32 (by decide) ?_
          refine lv_iand (pc := 35) hx hb dd_K_times_35 ?_
          refine lv_if_eq (pc := 36) (tgt := 45) hx hb dd_K_times_36 (by decide) (fun h36 => ?_) (fun h36 => ?_)
          · -- 36: t to 45
            have hsh := (bt_sh (gf_p i a)).1 h36
            refine lv_iinc (pc := 45) (k := 2) (lv' := [(4, _), (3, _), (2, _), (0, _), (1, _)]) hx hb dd_K_times_45 hl rfl (f_inc1 i) (Nat.le_of_ble_eq_true rfl) rfl (fun ls hl => ?_)
            refine lv_goto (pc := 48) (tgt := 7) hx hb dd_K_times_48 (by decide) ?_
            exact ih (i + 1) _ _ (by omega) (by omega) hsu hsh ls (lv_sub hl [0, 1, 2, 3, 4] rfl)
          · -- 36: f to 39
            have hsh := (bt_sh (gf_p i a)).2 h36
            refine lv_iload_n (pc := 39) hx hb dd_K_times_39 rfl (lv_at hl 0 rfl) ?_
            refine lv_sipush (pc := 40) (v := 285) hx hb dd_K_times_40 (by decide) ?_
            refine lv_ixor (pc := 43) hx hb dd_K_times_43 ?_
            refine lv_istore_n (pc := 44) (lv' := [(3, _), (2, _), (4, _), (0, _), (1, _)]) hx hb dd_K_times_44 rfl hl (Nat.le_of_ble_eq_true rfl) rfl (fun ls hl => ?_)
            refine lv_iinc (pc := 45) (k := 2) (lv' := [(4, _), (3, _), (2, _), (0, _), (1, _)]) hx hb dd_K_times_45 hl rfl (f_inc1 i) (Nat.le_of_ble_eq_true rfl) rfl (fun ls hl => ?_)
            refine lv_goto (pc := 48) (tgt := 7) hx hb dd_K_times_48 (by decide) ?_
            exact ih (i + 1) _ _ (by omega) (by omega) hsu hsh ls (lv_sub hl [0, 1, 2, 3, 4] rfl)
  refine lv_iconst (pc := 0) (v := 0) hx hb dd_K_times_0 (by decide) ?_
  refine lv_istore_n (pc := 1) (lv' := [(2, _), (0, _), (1, _)]) hx hb dd_K_times_1 rfl hl (Nat.le_of_ble_eq_true rfl) rfl (fun ls hl => ?_)
  refine lv_iload_n (pc := 2) hx hb dd_K_times_2 rfl (lv_at hl 1 rfl) ?_
  refine lv_istore_n (pc := 3) (lv' := [(3, _), (2, _), (0, _), (1, _)]) hx hb dd_K_times_3 rfl hl (Nat.le_of_ble_eq_true rfl) rfl (fun ls hl => ?_)
  refine lv_iconst (pc := 4) (v := nI 0) hx hb dd_K_times_4 (by decide) ?_
  refine lv_istore (pc := 5) (lv' := [(4, _), (3, _), (2, _), (0, _), (1, _)]) hx hb dd_K_times_5 hl (Nat.le_of_ble_eq_true rfl) rfl (fun ls hl => ?_)
  exact loop 9 0 _ _ (by omega) (by omega) bI_0.symm rfl ls (lv_sub hl [0, 1, 2, 3, 4] rfl)
set_option maxHeartbeats 4000000 in
set_option maxRecDepth 100000 in
theorem ct_K_inverse (l : Launch) (x : fy) (S : fm) (a : BitVec 8) : Met l mn_K_inverse (gw_ws mn_K_inverse cb_K_inverse 4 (some .int)) ({ frames := 1, cells := 0, slots := 0, locals := 24 } : Room) (fPc x (S) [.int (bI a)]) (fQi x (S) (bI (gf_i a))) 0 0 (fun q => xs x ≤ q) := by
  refine f_met (by decide) (Nat.le_of_ble_eq_true rfl) ?_
  intro p e s m below meth c0 cx hr hlocks hnm hP hS ls hl
  have cx : fX rn_K cb_K_inverse 4 p c0 s m [.int (bI a)].toArray x := cx
  have hx := cx.1.1
  have hb := cx.1.2.1
  have hl : lv_has ls 4 [(0, .int (bI a))] := hl
  have loop : ∀ (n i : Nat) (rs pw : Int32) (H : Heap) (locs : List Loc), i ≤ 7 → 7 - i < n → rs = bI (gf_r i a) → pw = bI (gf_q i a) → fP x S H → fS x s.heap H locs → ∀ ls : Array Slot, lv_has ls 4 [(3, .int (nI (i + 1))), (2, .int rs), (1, .int pw), (0, .int (bI a))] → W p l e ({ frames := 1, cells := 0, slots := 0, locals := 24 } : Room) s m [.int (bI a)].toArray below meth c0 H locs 0 0 (MQ below (fQi x (S) (bI (gf_i a))) [.int (bI a)].toArray s 0 0 (fun q => xs x ≤ q)) (F0 m 6 ls []) := by
    intro n
    induction n with
    | zero => intro i rs pw H locs _ h; omega
    | succ n ih =>
      intro i rs pw H locs hi hn e1 e2 hP hS ls hl
      subst e1; subst e2
      refine lv_iload_n (pc := 6) hx hb dd_K_inverse_6 rfl (lv_at hl 0 rfl) ?_
      refine lv_bipush (pc := 7) (v := nI 8) hx hb dd_K_inverse_7 (by decide) ?_
      refine lv_icmp_ge (pc := 9) (tgt := 30) hx hb dd_K_inverse_9 (by decide) (fun h9 => ?_) (fun h9 => ?_)
      · -- 9: t to 30
        have h := (nI_leI (by omega) (by omega)).mp h9
        have hi8 : i = 7 := by omega
        subst hi8
        refine lv_iload_n (pc := 30) hx hb dd_K_inverse_30 rfl (lv_at hl 1 rfl) ?_
        exact f_iret (pc := 31) cx hr hlocks hP hS rfl rfl dd_K_inverse_31
      · -- 9: f to 12
        have h : i + 1 < 8 := Nat.lt_of_not_le (fun q => h9 ((nI_leI (by omega) (by omega)).mpr q))
        refine lv_iload_n (pc := 12) hx hb dd_K_inverse_12 rfl (lv_at hl 2 rfl) ?_
        refine lv_iload_n (pc := 13) hx hb dd_K_inverse_13 rfl (lv_at hl 2 rfl) ?_
        refine k_K_K_times (pc := 14) cx hl hP hS (ct_K_times l x S (gf_q i a) (gf_q i a)) ⟨⟨rfl, rfl⟩, ⟨(Nat.le_of_ble_eq_true rfl), (Nat.le_of_ble_eq_true rfl)⟩, (Nat.le_of_ble_eq_true rfl), (Nat.le_of_ble_eq_true rfl)⟩ (Nat.le_of_ble_eq_true rfl) dd_K_inverse_14 (fun H locs hP hS => ?_)
        refine lv_istore_n (pc := 17) (lv' := [(1, _), (3, _), (2, _), (0, _)]) hx hb dd_K_inverse_17 rfl hl (Nat.le_of_ble_eq_true rfl) rfl (fun ls hl => ?_)
        refine lv_iload_n (pc := 18) hx hb dd_K_inverse_18 rfl (lv_at hl 2 rfl) ?_
        refine lv_iload_n (pc := 19) hx hb dd_K_inverse_19 rfl (lv_at hl 0 rfl) ?_
        refine k_K_K_times (pc := 20) cx hl hP hS (ct_K_times l x S (gf_r i a) (gf_q (i + 1) a)) ⟨⟨rfl, rfl⟩, ⟨(Nat.le_of_ble_eq_true rfl), (Nat.le_of_ble_eq_true rfl)⟩, (Nat.le_of_ble_eq_true rfl), (Nat.le_of_ble_eq_true rfl)⟩ (Nat.le_of_ble_eq_true rfl) dd_K_inverse_20 (fun H locs hP hS => ?_)
        refine lv_istore_n (pc := 23) (lv' := [(2, _), (1, _), (3, _), (0, _)]) hx hb dd_K_inverse_23 rfl hl (Nat.le_of_ble_eq_true rfl) rfl (fun ls hl => ?_)
        refine lv_iinc (pc := 24) (k := 2) (lv' := [(3, _), (2, _), (1, _), (0, _)]) hx hb dd_K_inverse_24 hl rfl (f_inc1 (i + 1)) (Nat.le_of_ble_eq_true rfl) rfl (fun ls hl => ?_)
        refine lv_goto (pc := 27) (tgt := 6) hx hb dd_K_inverse_27 (by decide) ?_
        exact ih (i + 1) _ _ _ _ (by omega) (by omega) rfl rfl hP hS ls (lv_sub hl [0, 1, 2, 3] rfl)
  refine lv_iload_n (pc := 0) hx hb dd_K_inverse_0 rfl (lv_at hl 0 rfl) ?_
  refine lv_istore_n (pc := 1) (lv' := [(1, _), (0, _)]) hx hb dd_K_inverse_1 rfl hl (Nat.le_of_ble_eq_true rfl) rfl (fun ls hl => ?_)
  refine lv_iconst (pc := 2) (v := 1) hx hb dd_K_inverse_2 (by decide) ?_
  refine lv_istore_n (pc := 3) (lv' := [(2, _), (1, _), (0, _)]) hx hb dd_K_inverse_3 rfl hl (Nat.le_of_ble_eq_true rfl) rfl (fun ls hl => ?_)
  refine lv_iconst (pc := 4) (v := nI 1) hx hb dd_K_inverse_4 (by decide) ?_
  refine lv_istore_n (pc := 5) (lv' := [(3, _), (2, _), (1, _), (0, _)]) hx hb dd_K_inverse_5 rfl hl (Nat.le_of_ble_eq_true rfl) rfl (fun ls hl => ?_)
  exact loop 8 0 _ _ _ _ (by omega) (by omega) bI_1.symm rfl hP hS ls (lv_sub hl [0, 1, 2, 3] rfl)
end
section
-- what each method of the program does to the memory
def en8 (K : Nat) (w : Int64) (s r : Nat) : BitVec 8 := gf_o (fun i => by8 w (r * K + i)) (BitVec.ofNat 8 (s + 1)) K K
def enF (K : Nat) (w : Int64) (s : Nat) : Nat → Int64
  | 0 => 0
  | r + 1 => enF K w s r ||| pl8 (en8 K w s r) r
def enc (x : fy) (w : Int64) (s : Nat) : Int64 := enF (xK x) w s (xR x)
-- the column, as numbers: cb says its bytes
def cb (u : Nat → Nat) : Nat → BitVec 8 := fun j => BitVec.ofNat 8 (u j)
def ipA (X : Nat → BitVec 8) (t : Nat) : Nat → (Nat → Nat) → Nat → Nat
  | 0, u => u
  | n + 1, u => ipA X t n (va_up u (t + n) (gf_m (cb u (t + n) ^^^ cb u (t + n - 1)) (gf_i (X (t + n) ^^^ X n))).toNat)
def ipB (X : Nat → BitVec 8) (K : Nat) : Nat → (Nat → Nat) → Nat → Nat
  | 0, u => u
  | n + 1, u => ipB X K n (ipA X (K - (n + 1)) (n + 1) u)
def ipC (X : Nat → BitVec 8) (K st : Nat) : Nat → (Nat → Nat) → Nat → Nat
  | 0, u => u
  | m + 1, u => ipC X K st m (va_up u (K - 1 - (m + 1)) (cb u (K - 1 - (m + 1)) ^^^ gf_m (X st) (cb u (K - 1 - (m + 1) + 1))).toNat)
def ipD (X : Nat → BitVec 8) (K : Nat) : Nat → (Nat → Nat) → Nat → Nat
  | 0, u => u
  | n + 1, u => ipD X K n (ipC X K n (K - 1 - n) u)
def ipol (X : Nat → BitVec 8) (K : Nat) (u : Nat → Nat) : Nat → Nat := ipD X K (K - 1) (ipB X K (K - 1) u)
def pts (S : fm) (c : Nat) : Nat → BitVec 8 := fun j => BitVec.ofNat 8 (mU S 8 c j + 1)
/-- the column is filled: the first n places -/
def cfil (S : fm) (c r : Nat) : Nat → (Nat → Nat) → Nat → Nat
  | 0, u => u
  | n + 1, u => va_up (cfil S c r n u) n (by8 (mJ S 9 c n) r).toNat
def ccol (x : fy) (S : fm) (c r : Nat) (u : Nat → Nat) : Nat → Nat := ipol (pts S c) (xK x) (cfil S c r (xK x) u)
/-- the block, out of a column: the first n places -/
def dblk (K r : Nat) (u : Nat → Nat) : Nat → Int64 → Int64
  | 0, w => w
  | n + 1, w => dblk K r u n w ||| pl8 (cb u n) (r * K + n)
def decU (x : fy) (S : fm) (c : Nat) : Nat → (Nat → Nat)
  | 0 => mU S 2 0
  | r + 1 => ccol x S c r (decU x S c r)
def decW (x : fy) (S : fm) (c : Nat) : Nat → Int64
  | 0 => 0
  | r + 1 => dblk (xK x) r (decU x S c (r + 1)) (xK x) (decW x S c r)
-- rows of letters
def e_app (S : fm) (r a : Nat) : fm := if mU S 13 r 1 < 7 then sU (sA S 14 r (mU S 13 r 1) (some a)) 13 r 1 (mU S 13 r 1 + 1) else S
def tkA {α : Type} (f : Nat → α) (j n : Nat) : Nat → α := fun q => if j ≤ q ∧ q < n then f (q + 1) else f q
def e_take (S : fm) (r j : Nat) : fm := rA (sU S 13 r 1 (mU S 13 r 1 - 1)) 14 r (va_up (tkA (mA S 14 r) j (mU S 13 r 1 - 1)) (mU S 13 r 1 - 1) none)
def loA (f : Nat → Option Nat) (n : Nat) : Nat → Option Nat := fun q => if q < n then none else f q
def e_lose (S : fm) (r : Nat) : fm := sU (rA S 14 r (loA (mA S 14 r) 7)) 13 r 1 0
-- clients
def q_work (S : fm) (c : Nat) : Bool := !mB S 7 c 4 && decide (mI S 7 c 5 ≠ 0)
def e_enter (S : fm) (c : Nat) (ph : Int32) : fm := sU (sI (sI (sI (sI S 7 c 5 ph) 7 c 6 (mI S 7 c 6 + 1)) 7 c 7 0) 7 c 8 0) 7 c 3 0
def q_counts (S : fm) (c a : Nat) : Bool := q_work S c && decide (mI S 15 a 1 = mI S 7 c 6)
def jmax (a b : Int32) : Int32 := if a < b then b else a
def jmin (a b : Int32) : Int32 := if b < a then b else a
def e_hear1 (S : fm) (c a : Nat) : fm := sI (sI S 7 c 7 (mI S 7 c 7 + 1)) 7 c 8 (jmax (mI S 7 c 8) (mI S 15 a 4))
def e_hear2 (S : fm) (c a s : Nat) : fm := sU (sJ (sU S 8 c (mU S 7 c 3) s) 9 c (mU S 7 c 3) (mJ S 15 a 3)) 7 c 3 (mU S 7 c 3 + 1)
def e_hear (x : fy) (S : fm) (c a s : Nat) : fm := if mB S 15 a 5 = true ∧ mU S 7 c 3 < xK x then e_hear2 (e_hear1 S c a) c a s else e_hear1 S c a
def e_finish (S : fm) (c : Nat) : fm := sI (sI S 7 c 5 0) 7 c 12 (mI S 7 c 12 + 1)
-- servers
/-- where a tag goes: scanned from n down -/
def insp (f : Nat → Int32) (t : Int32) : Nat → Nat
  | 0 => 0
  | n + 1 => if f n < t then insp f t n else n + 1
def insA {α : Type} (f : Nat → α) (p n : Nat) (v : α) : Nat → α := fun q => if q = p then v else if p < q ∧ q ≤ n then f (q - 1) else f q
def e_store (x : fy) (S : fm) (s : Nat) (t : Int32) (w : Int64) : fm := sU (rJ (rI S 11 s (insA (mI S 11 s) (insp (mI S 11 s) t (mU S 10 s 3)) (mU S 10 s 3) t)) 12 s (insA (mJ S 12 s) (insp (mI S 11 s) t (mU S 10 s 3)) (mU S 10 s 3) w)) 10 s 3 (min (mU S 10 s 3 + 1) (xD x + 1))
def e_raise (S : fm) (s : Nat) (t : Int32) : fm := sI S 10 s 4 (jmax (mI S 10 s 4) t)
def q_place (S : fm) (s : Nat) (t : Int32) : Option Nat := (List.range (mU S 10 s 3)).find? (fun i => decide (mI S 11 s i = t))
def oI (o : Option Nat) : Int32 := match o with
  | some i => nI i
  | none => -1
def e_encl (S : fm) (s a : Nat) : fm := match q_place S s (mI S 15 a 2) with
  | some i => sJ (sB S 15 a 5 true) 15 a 3 (mJ S 12 s i)
  | none => S
def e_answer (x : fy) (S : fm) (s a : Nat) : fm :=
  if mI S 15 a 0 = 2 then e_store x S s (mI S 15 a 2) (mJ S 15 a 3)
  else if mI S 15 a 0 = 3 then e_raise S s (mI S 15 a 2)
  else if mI S 15 a 0 = 5 then e_encl (e_raise S s (mI S 15 a 2)) s a
  else sI S 15 a 4 (mI S 10 s 4)
-- the register
def q_crowd (x : fy) (S : fm) (c : Nat) : Bool := (List.range (xN x)).any (fun s => !mB S 10 s 5 && decide (4 < mU S 13 (c * xN x + s) 1 + mU S 13 (100 + (c * xN x + s)) 1))
/-- a new letter: an empty sheet at the heap's end -/
def e_newL (S : fm) : fm := rZ (rB (rJ (rI S 15 (mZ S) (fun _ => 0)) 15 (mZ S) (fun _ => 0)) 15 (mZ S) (fun _ => false)) (mZ S + 1)
def e_initL (S : fm) (a : Nat) (ph bg tg : Int32) : fm := sI (sI (sI S 15 a 0 ph) 15 a 1 bg) 15 a 2 tg
def e_req (x : fy) (S : fm) (c s : Nat) : fm :=
  if mI S 7 c 5 = 2 then sJ (e_initL (e_newL S) (mZ S) (mI S 7 c 5) (mI S 7 c 6) (mI S 7 c 9)) 15 (mZ S) 3 (enc x (mJ S 7 c 10) s)
  else e_initL (e_newL S) (mZ S) (mI S 7 c 5) (mI S 7 c 6) (mI S 7 c 9)
def e_bg1 (x : fy) (S : fm) (c s : Nat) : fm := if mB S 10 s 5 = true then S else e_app (e_req x S c s) (c * xN x + s) (mZ S)
def e_bgs (x : fy) (S : fm) (c : Nat) : Nat → fm
  | 0 => S
  | s + 1 => e_bg1 x (e_bgs x S c s) c s
def e_begin (x : fy) (S : fm) (c : Nat) (ph : Int32) : fm := e_bgs x (e_enter S c ph) c (xN x)
end
section
-- a new letter
section FN
variable {p : Program} {l : Launch} {e : Env} {R : Room} {s : State} {m : MethodId} {args : Array Value} {below : List Frame} {meth : Method} {c : Code} {H : Heap} {locs : List Loc} {cells slots : Nat} {Q : State → Prop}
variable {cc : ByteArray} {pc : Nat} {ls : Array Slot} {rest : List Value} {own : String} {nL : Nat} {x : fy} {S : fm} {a : Nat} {H0 : Heap}
theorem f_oi {idx : Nat} {lv : List (Nat × Value)} (w1 : Cond.methodLink own idx objectInit ∈ gw_tbl) (cx : fX own cc nL p c s m args x) (hl : lv_has ls nL lv) (hfr : 1 ≤ R.frames) (hlo : (rest.map fun v => v.category).sum + 12 ≤ R.locals) (hdg : decode cc pc = .ok (.invokespecial idx, 3)) (kk : W p l e R s m args below meth c H locs cells slots Q (F0 m (pc + 3) ls rest)) : W p l e R s m args below meth c H locs cells slots Q (F0 m pc ls (.ref a :: rest)) :=
  W.objInit cx.1.1 cx.1.2.1 cx.1.2.2.2.1 (cx.1.2.2.2.2 _ w1) (cx.1.2.2.2.2 _ im_O_init) (cx.1.2.2.2.2 _ co_O_init) rfl (by rw [cx.1.2.2.1]; exact hl.1) rfl hdg hfr (by show 2 * 0 + _ + 12 ≤ _; omega) kk
theorem fc_newL : fc x (e_newL S) 15 (mZ S) = .inr (2, [.int 0, .int 0, .int 0, .long 0, .int 0, .int (b2 false)]) := by
  show fcr x 15 (mZ S) (mI (e_newL S) 15 (mZ S)) (mJ (e_newL S) 15 (mZ S)) (mB (e_newL S) 15 (mZ S)) _ _ = _
  rw [show mI (e_newL S) 15 (mZ S) = fun _ => 0 from u2_s, show mJ (e_newL S) 15 (mZ S) = fun _ => 0 from u2_s, show mB (e_newL S) 15 (mZ S) = fun _ => false from u2_s]
  rfl
theorem fc_newL_n {k i : Nat} (h : ¬ (k = 15 ∧ i = mZ S)) : fc x (e_newL S) k i = fc x S k i := by
  show fcr x k i (mI (e_newL S) k i) (mJ (e_newL S) k i) (mB (e_newL S) k i) _ _ = _
  rw [show mI (e_newL S) k i = mI S k i from u2_n h, show mJ (e_newL S) k i = mJ S k i from u2_n h, show mB (e_newL S) k i = mB S k i from u2_n h]
  rfl
theorem fP_newL {H1 : Heap} (hP : fP x S H) (hn : va_at (xd x) cls_all (H.size, .inr (2, [.int 0, .int 0, .int 0, .long 0, .int 0, .int (b2 false)])) H1) (z : H1.size = H.size + 1) (o1 : ∀ q, q < H.size → H1[q]? = H[q]?) : fP x (e_newL S) H1 := by
  obtain ⟨hO, hb, hz, hw⟩ := hP
  have hZ : mZ (e_newL S) = mZ S + 1 := rfl
  refine ⟨hO, by omega, by omega, fun q e he => ?_⟩
  obtain ⟨k, i, hq, rfl⟩ := wd.at he
  by_cases hqz : q = mZ S
  · have : k = 15 ∧ i = mZ S := by
      rcases hq with hq | ⟨-, -, -, h5, h6⟩
      · have := (hO.1 _ _ _ hq).2.2.1
        omega
      · exact ⟨h5, h6.trans hqz⟩
    obtain ⟨rfl, rfl⟩ := this
    rw [fc_newL, hqz, ← hz]
    exact hn
  · have hq' : fat x S q k i := by
      rcases hq with hq | ⟨h1, h2, h4, h5⟩
      · exact Or.inl hq
      · exact Or.inr ⟨h1, h2, by omega, h5⟩
    have hki : ¬ (k = 15 ∧ i = mZ S) := by
      rintro ⟨h1, h2⟩
      rcases hq with hq | ⟨-, -, -, h5, h6⟩
      · exact (hO.1 _ _ _ hq).2.2.2 h1
      · omega
    rw [fc_newL_n hki]
    have h1 := hw _ _ hq'.cell
    exact h1.kept (o1 q h1.lt)
theorem fvL_new (hP : fP x S H) : fvL x (e_newL S) (mZ S) := by
  refine ⟨?_, hP.2.1, Nat.lt_succ_self _⟩
  cases h : xl x (mZ S) with
  | none => rfl
  | some q =>
    have := (hP.1.1 _ q.1 q.2 h).2.2.1
    have := hP.2.1
    omega
theorem f_newL {index : Nat} (w1 : Cond.classLink own index rn_L ∈ gw_tbl) (cx : fX own cc nL p c s m args x) (hP : fP x S H) (hS : fS x H0 H locs) (hcells : cells + 1 ≤ R.cells) (hslots : slots + 6 ≤ R.slots) (hdg : decode cc pc = .ok (.new index, 3))
    (kk : ∀ H1 : Heap, fP x (e_newL S) H1 → fS x H0 H1 locs → fvL x (e_newL S) (mZ S) → W p l e R s m args below meth c H1 locs (cells + 1) (slots + 6) Q (F0 m (pc + 3) ls (.ref (mZ S) :: rest))) : W p l e R s m args below meth c H locs cells slots Q (F0 m pc ls rest) := by
  have hts := cx.1.2.2.2.2
  have hKn := cx.2.1 2 _ rfl
  refine W.newcK cx.1.1 cx.1.2.1 cx.1.2.2.2.1 (hts _ w1) (hts _ is_L) (hts _ in_L) rfl hdg hcells hslots hKn.2.1 hP.2.2.1 fun H1 kC hkC e1 z1 o1 => ?_
  have hz := hP.2.2.1
  refine kk H1 (fP_newL hP ?_ (by omega) (fun q hq => o1 q (by omega))) ⟨Nat.le_trans hS.1 (by omega), fun q h1 h2 => (o1 q (by have := hS.1; omega)).trans (hS.2.1 q h1 h2), hS.2.2⟩ (fvL_new hP)
  rw [hz]
  refine ⟨_, rfl, (u_born ty_L hts wf_L hKn hkC e1 tk_L).to (fun j hj => ?_)⟩
  match j, hj with
  | 0, _ => rfl
  | 1, _ => rfl
  | 2, _ => rfl
  | 3, _ => rfl
  | 4, _ => rfl
  | 5, _ => rfl
  | n + 6, hj => exact absurd hj (by show ¬ n + 6 < 6; omega)
end FN
end
section
-- K fragments of one block, of different servers, give the block
theorem cb_up (u : Nat → Nat) (j : Nat) (v : BitVec 8) : cb (va_up u j v.toNat) = va_up (cb u) j v := by
  funext q
  unfold cb va_up
  by_cases h : q = j
  · rw [if_pos h, if_pos h]; simp
  · rw [if_neg h, if_neg h]
section DEC
variable {c X : Nat → BitVec 8} {K : Nat}
theorem dec_A (hX : ∀ i j, i < K → j < K → i ≠ j → gf_m (X i ^^^ X j) (gf_i (X i ^^^ X j)) = 1#8) (t : Nat) (ht : 1 ≤ t) : ∀ n u, t + n ≤ K → (∀ i, i < K → cb u i = if t + n ≤ i then gf_D c X K t i else if t ≤ i then gf_D c X K (t - 1) i else gf_D c X K i i) →
    ∀ i, i < K → cb (ipA X t n u) i = if t ≤ i then gf_D c X K t i else gf_D c X K i i := by
  intro n
  induction n with
  | zero =>
    intro u hn h i hi
    show cb u i = _
    rw [h i hi]
    by_cases h1 : t ≤ i
    · rw [if_pos (by omega), if_pos h1]
    · rw [if_neg (by omega), if_neg h1, if_neg h1]
  | succ n ih =>
    intro u hn h
    refine ih _ (by omega) (fun i hi => ?_)
    rw [cb_up]
    unfold va_up
    by_cases hit : i = t + n
    · subst hit
      rw [if_pos rfl, if_pos (Nat.le_refl _)]
      have e1 := h (t + n) hi
      rw [if_neg (by omega), if_pos (by omega)] at e1
      have e2 := h (t + n - 1) (by omega)
      rw [if_neg (by omega)] at e2
      have e3 : cb u (t + n - 1) = gf_D c X K (t - 1) (t + n - 1) := by
        rw [e2]
        by_cases h1 : t ≤ t + n - 1
        · rw [if_pos h1]
        · rw [if_neg h1, show t + n - 1 = t - 1 by omega]
      rw [e1, e3]
      have := gf_Dstep c X K (t - 1) (t + n) (by omega) (gf_i (X (t + n) ^^^ X n)) (by rw [show t + n - (t - 1 + 1) = n by omega]; exact hX _ _ hi (by omega) (by omega))
      rw [show t - 1 + 1 = t by omega] at this
      exact this
    · rw [if_neg hit, h i hi]
      by_cases h1 : t + n ≤ i
      · rw [if_pos h1, if_pos (by omega)]
      · rw [if_neg h1, if_neg (by omega)]
theorem dec_B (hX : ∀ i j, i < K → j < K → i ≠ j → gf_m (X i ^^^ X j) (gf_i (X i ^^^ X j)) = 1#8) : ∀ n u, n + 1 ≤ K → (∀ i, i < K → cb u i = if K - n - 1 ≤ i then gf_D c X K (K - n - 1) i else gf_D c X K i i) → ∀ i, i < K → cb (ipB X K n u) i = gf_D c X K i i := by
  intro n
  induction n with
  | zero =>
    intro u hn h i hi
    show cb u i = _
    rw [h i hi]
    by_cases h1 : K - 0 - 1 ≤ i
    · rw [if_pos h1, show K - 0 - 1 = i by omega]
    · rw [if_neg h1]
  | succ n ih =>
    intro u hn h
    refine ih _ (by omega) (fun i hi => ?_)
    rw [dec_A hX (K - (n + 1)) (by omega) (n + 1) u (by omega) (fun j hj => ?_) i hi]
    · rw [show K - n - 1 = K - (n + 1) by omega]
    · rw [if_neg (by omega), h j hj]
      by_cases h1 : K - (n + 1) ≤ j
      · rw [if_pos h1, if_pos (by omega), show K - (n + 1) - 1 = K - (n + 1) - 1 from rfl]
      · rw [if_neg h1]
        by_cases h2 : K - (n + 1) - 1 ≤ j
        · rw [if_pos h2, show K - (n + 1) - 1 = j by omega]
        · rw [if_neg h2]
theorem dec_C (st : Nat) (hst : st + 1 ≤ K) : ∀ m u, m ≤ K - 1 - st → (∀ i, i < K → cb u i = if i < st then gf_E c X K (i + 1) i else if i < K - 1 - m then gf_E c X K st i else gf_E c X K (st + 1) i) →
    ∀ i, i < K → cb (ipC X K st m u) i = if i < st then gf_E c X K (i + 1) i else gf_E c X K st i := by
  intro m
  induction m with
  | zero =>
    intro u hm h i hi
    show cb u i = _
    rw [h i hi]
    by_cases h1 : i < st
    · rw [if_pos h1, if_pos h1]
    · rw [if_neg h1, if_neg h1]
      by_cases h2 : i < K - 1 - 0
      · rw [if_pos h2]
      · rw [if_neg h2, show i = K - 1 by omega, gf_Elast c X K _ (by omega), gf_Elast c X K _ (by omega)]
  | succ m ih =>
    intro u hm h
    refine ih _ (by omega) (fun i hi => ?_)
    rw [cb_up]
    unfold va_up
    by_cases hit : i = K - 1 - (m + 1)
    · subst hit
      rw [if_pos rfl, if_neg (by omega), if_pos (by omega)]
      have e1 := h (K - 1 - (m + 1)) hi
      rw [if_neg (by omega), if_neg (by omega)] at e1
      have e2 := h (K - 1 - (m + 1) + 1) (by omega)
      rw [if_neg (by omega), if_neg (by omega)] at e2
      rw [e1, e2]
      exact gf_Estep c X K st _
    · rw [if_neg hit, h i hi]
      by_cases h1 : i < st
      · rw [if_pos h1, if_pos h1]
      · rw [if_neg h1, if_neg h1]
        by_cases h2 : i < K - 1 - (m + 1)
        · rw [if_pos h2, if_pos (by omega)]
        · rw [if_neg h2, if_neg (by omega)]
theorem dec_D : ∀ n u, n + 1 ≤ K → (∀ i, i < K → cb u i = if i < n then gf_E c X K (i + 1) i else gf_E c X K n i) → ∀ i, i < K → cb (ipD X K n u) i = c i := by
  intro n
  induction n with
  | zero =>
    intro u hn h i hi
    show cb u i = _
    rw [h i hi, if_neg (by omega), gf_E0 c X K i hi]
  | succ n ih =>
    intro u hn h
    refine ih _ (by omega) (fun i hi => ?_)
    rw [dec_C n (by omega) (K - 1 - n) u (Nat.le_refl _) (fun j hj => ?_) i hi]
    rw [h j hj]
    by_cases h1 : j < n
    · rw [if_pos (by omega), if_pos h1]
    · rw [if_neg h1, if_neg (show ¬ j < K - 1 - (K - 1 - n) by omega)]
      by_cases h2 : j < n + 1
      · rw [if_pos h2, show j = n by omega]
      · rw [if_neg h2]
theorem dec_ip (hK : 1 ≤ K) (hX : ∀ i j, i < K → j < K → i ≠ j → gf_m (X i ^^^ X j) (gf_i (X i ^^^ X j)) = 1#8) (u : Nat → Nat) (h : ∀ i, i < K → cb u i = gf_v c (X i) K) : ∀ i, i < K → cb (ipol X K u) i = c i := by
  unfold ipol
  refine dec_D (K - 1) _ (by omega) (fun i hi => ?_)
  rw [dec_B hX (c := c) (K - 1) u (by omega) (fun j hj => ?_) i hi]
  · rw [gf_DE]
    by_cases h1 : i < K - 1
    · rw [if_pos h1]
    · rw [if_neg h1, show i = K - 1 by omega, gf_Elast c X K _ (by omega), gf_Elast c X K _ (by omega)]
  · rw [if_pos (by omega), show K - (K - 1) - 1 = 0 by omega, h j hj, gf_vD]
end DEC
theorem by8_enF (K : Nat) (w : Int64) (s : Nat) : ∀ n j, j < 8 → by8 (enF K w s n) j = if j < n then en8 K w s j else 0#8 := by
  intro n
  induction n with
  | zero => intro j hj; rw [if_neg (by omega)]; exact by8_0 j
  | succ n ih =>
    intro j hj
    show by8 (enF K w s n ||| pl8 (en8 K w s n) n) j = _
    rw [by8_or, ih j hj, by8_pl _ hj]
    by_cases h1 : j < n
    · rw [if_pos h1, if_neg (by omega), if_pos (by omega)]; simp
    · rw [if_neg h1]
      by_cases h2 : n = j
      · subst h2; rw [if_pos rfl, if_pos (by omega)]; simp
      · rw [if_neg h2, if_neg (by omega)]; simp
theorem cb_cfil (S : fm) (c r : Nat) (u : Nat → Nat) : ∀ n j, j < n → cb (cfil S c r n u) j = by8 (mJ S 9 c j) r := by
  intro n
  induction n with
  | zero => intro j hj; omega
  | succ n ih =>
    intro j hj
    show cb (va_up (cfil S c r n u) n (by8 (mJ S 9 c n) r).toNat) j = _
    rw [cb_up]
    unfold va_up
    by_cases h : j = n
    · rw [if_pos h, h]
    · rw [if_neg h]; exact ih j (by omega)
theorem by8_dblk (K r : Nat) (u : Nat → Nat) (w : Int64) : ∀ n j, j < 8 → by8 (dblk K r u n w) j = by8 w j ||| (if r * K ≤ j ∧ j < r * K + n then cb u (j - r * K) else 0#8) := by
  intro n
  induction n with
  | zero => intro j hj; rw [if_neg (by omega)]; simp [dblk]
  | succ n ih =>
    intro j hj
    show by8 (dblk K r u n w ||| pl8 (cb u n) (r * K + n)) j = _
    rw [by8_or, ih j hj, by8_pl _ hj]
    by_cases h1 : r * K ≤ j ∧ j < r * K + n
    · rw [if_pos h1, if_neg (by omega), if_pos (by omega)]; simp
    · rw [if_neg h1]
      by_cases h2 : r * K + n = j
      · rw [if_pos h2, if_pos (by omega), show j - r * K = n by omega]; simp
      · rw [if_neg h2, if_neg (by omega)]; simp
theorem xR_facts (x : fy) (hO : fO x) : xR x ≤ 8 ∧ 8 ≤ xR x * xK x ∧ 1 ≤ xR x := by
  obtain ⟨-, -, h1, h2, h3, h4, -⟩ := hO
  unfold xR
  have h : xK x = 1 ∨ xK x = 2 ∨ xK x = 3 ∨ xK x = 4 ∨ xK x = 5 ∨ xK x = 6 ∨ xK x = 7 := by omega
  rcases h with h | h | h | h | h | h | h <;> rw [h] <;> decide
theorem pts_inv (S : fm) (c K : Nat) (h7 : ∀ j, j < K → mU S 8 c j < 7) (hd : ∀ i j, i < K → j < K → i ≠ j → mU S 8 c i ≠ mU S 8 c j) : ∀ i j, i < K → j < K → i ≠ j → gf_m (pts S c i ^^^ pts S c j) (gf_i (pts S c i ^^^ pts S c j)) = 1#8 := by
  intro i j hi hj hij
  have h1 := h7 i hi
  have h2 := h7 j hj
  have h3 := hd i j hi hj hij
  have key : ∀ a, a < 7 → ∀ b, b < 7 → a ≠ b → gf_m (BitVec.ofNat 8 (a + 1) ^^^ BitVec.ofNat 8 (b + 1)) (gf_i (BitVec.ofNat 8 (a + 1) ^^^ BitVec.ofNat 8 (b + 1))) = 1#8 := by decide +kernel
  exact key _ h1 _ h2 h3
theorem dec_ok (x : fy) (S : fm) (c : Nat) (w : Int64) (hO : fO x) (h7 : ∀ j, j < xK x → mU S 8 c j < 7) (hd : ∀ i j, i < xK x → j < xK x → i ≠ j → mU S 8 c i ≠ mU S 8 c j) (hf : ∀ j, j < xK x → mJ S 9 c j = enc x w (mU S 8 c j)) : decW x S c (xR x) = w := by
  obtain ⟨hR8, hRK, hR1⟩ := xR_facts x hO
  have hK1 : 1 ≤ xK x := hO.2.2.2.2.1
  have key : ∀ r, r ≤ xR x → ∀ j, j < 8 → by8 (decW x S c r) j = if j < r * xK x then by8 w j else 0#8 := by
    intro r
    induction r with
    | zero => intro _ j hj; rw [if_neg (by omega)]; exact by8_0 j
    | succ r ih =>
      intro hr j hj
      show by8 (dblk (xK x) r (decU x S c (r + 1)) (xK x) (decW x S c r)) j = _
      rw [by8_dblk _ _ _ _ _ j hj, ih (by omega) j hj, Nat.succ_mul]
      have hcol : ∀ i, i < xK x → cb (decU x S c (r + 1)) i = by8 w (r * xK x + i) := by
        show ∀ i, i < xK x → cb (ipol (pts S c) (xK x) (cfil S c r (xK x) (decU x S c r))) i = _
        refine dec_ip hK1 (pts_inv S c (xK x) h7 hd) _ (fun i hi => ?_)
        rw [cb_cfil S c r _ _ i hi, hf i hi]
        show by8 (enF (xK x) w (mU S 8 c i) (xR x)) r = _
        rw [by8_enF _ _ _ _ r (by omega), if_pos (by omega)]
        exact gf_horner _ _ _
      by_cases h1 : j < r * xK x
      · rw [if_pos h1, if_neg (by omega), if_pos (by omega)]; simp
      · rw [if_neg h1]
        by_cases h2 : j < r * xK x + xK x
        · rw [if_pos (by omega), if_pos h2, hcol _ (by omega), show r * xK x + (j - r * xK x) = j by omega]; simp
        · rw [if_neg (by omega), if_neg h2]; simp
  refine by8_ext (fun j hj => ?_)
  rw [key (xR x) (Nat.le_refl _) j hj, if_pos (by omega)]
end
section
-- what each method of the reference does to the memory
def mL (S : fm) : Nat := mU S 16 0 18
def n_send (S : fm) (b : Bool) (c s : Nat) (p w : Int32) : fm := sU (sJ (sI (sB (sI (sI (sI (sI (sB S 39 0 (mL S) b) 41 0 (mL S) (nI c)) 42 0 (mL S) (nI s)) 44 0 (mL S) p) 43 0 (mL S) w) 40 0 (mL S) false) 45 0 (mL S) (mI S 28 0 c)) 46 0 (mL S) (mJ S 30 0 c)) 16 0 18 (mL S + 1)
def n_shift (S : fm) (at_ n : Nat) : fm := rJ (rI (rI (rI (rI (rI (rB (rB S 39 0 (tkA (mB S 39 0) at_ n)) 40 0 (tkA (mB S 40 0) at_ n)) 41 0 (tkA (mI S 41 0) at_ n)) 42 0 (tkA (mI S 42 0) at_ n)) 43 0 (tkA (mI S 43 0) at_ n)) 44 0 (tkA (mI S 44 0) at_ n)) 45 0 (tkA (mI S 45 0) at_ n)) 46 0 (tkA (mJ S 46 0) at_ n)
def n_lose (S : fm) (at_ : Nat) : fm := n_shift (sU S 16 0 18 (mL S - 1)) at_ (mL S - 1)
def n_match (S : fm) (b : Bool) (c s : Nat) (i : Nat) : Bool := (mB S 39 0 i == b) && (decide (mI S 41 0 i = nI c) && decide (mI S 42 0 i = nI s))
def n_cnt (S : fm) (b : Bool) (c s : Nat) : Nat → Nat
  | 0 => 0
  | n + 1 => if n_match S b c s n = true then n_cnt S b c s n + 1 else n_cnt S b c s n
def n_seek (S : fm) (b : Bool) (c s : Nat) (j : Int32) : Option Nat := (List.range (mL S)).find? (fun i => n_match S b c s i && decide (nI (n_cnt S b c s i) = j))
def n_crowd (x : fy) (S : fm) (c : Nat) : Bool := (List.range (xN x)).any (fun s => !mB S 33 0 s && decide (4 < n_cnt S false c s (mL S) + n_cnt S true c s (mL S)))
def n_beg0 (S : fm) (c : Nat) (p : Int32) : fm := sI (sI (sI (sI (sI S 23 0 c p) 24 0 c (mI S 24 0 c + 1)) 25 0 c 0) 26 0 c 0) 27 0 c 0
def n_beg1 (S : fm) (c s : Nat) (p : Int32) : fm := if mB S 33 0 s = true then S else n_send S false c s p (mI S 24 0 c)
def n_begs (S : fm) (c : Nat) (p : Int32) : Nat → fm
  | 0 => S
  | s + 1 => n_beg1 (n_begs S c p s) c s p
def n_begin (x : fy) (S : fm) (c : Nat) (p : Int32) : fm := n_begs (n_beg0 S c p) c p (xN x)
def n_refuse (x : fy) (S : fm) (c : Nat) : Int32 := if mI S 23 0 c = 6 then -2 else if mI S 23 0 c ≠ 0 then -3 else if n_crowd x S c = true then -4 else 0
def n_write (x : fy) (S : fm) (c : Nat) (w : Int64) : fm := if n_refuse x S c = 0 then n_begin x (sJ S 30 0 c w) c 1 else S
def n_read (x : fy) (S : fm) (c : Nat) : fm := if n_refuse x S c = 0 then n_begin x S c 4 else S
def n_agr (x : fy) (S : fm) (c : Nat) : Int32 := if mI S 23 0 c = 6 then -2 else if mI S 23 0 c ≠ 5 ∨ mI S 25 0 c < nI (xQ x) then -3 else if n_crowd x S c = true then -4 else 0
def n_again (x : fy) (S : fm) (c : Nat) : fm := if n_agr x S c = 0 then n_begin x S c 4 else S
def n_place (S : fm) (s : Nat) (t : Int32) : Option Nat := ((List.range (mU S 35 0 s)).find? (fun q => decide (mI S 36 0 (5 * s + q) = t))).map (fun q => 5 * s + q)
/-- the lowest tag's place among the first n -/
def n_low (f : Nat → Int32) (b : Nat) : Nat → Nat
  | 0 => b
  | n + 1 => if f (b + n) < f (n_low f b n) then b + n else n_low f b n
def n_put (S : fm) (s : Nat) (t : Int32) (w : Int64) : fm := match n_place S s t with
  | some i => sJ (sI S 36 0 i t) 37 0 i w
  | none => sJ (sI (sU S 35 0 s (mU S 35 0 s + 1)) 36 0 (5 * s + mU S 35 0 s) t) 37 0 (5 * s + mU S 35 0 s) w
def n_drop (S : fm) (s : Nat) : fm := sJ (sI (sU S 35 0 s (mU S 35 0 s - 1)) 36 0 (n_low (mI S 36 0) (5 * s) (mU S 35 0 s)) (mI S 36 0 (5 * s + (mU S 35 0 s - 1)))) 37 0 (n_low (mI S 36 0) (5 * s) (mU S 35 0 s)) (mJ S 37 0 (5 * s + (mU S 35 0 s - 1)))
def n_store (x : fy) (S : fm) (s : Nat) (t : Int32) (w : Int64) : fm := if xD x + 1 < mU (n_put S s t w) 35 0 s then n_drop (n_put S s t w) s else n_put S s t w
def n_dlA (x : fy) (S : fm) (s : Nat) (p t : Int32) (w : Int64) : fm := if p = 2 then n_store x S s t w else S
def n_dlB (S : fm) (s : Nat) (p t : Int32) : fm := if (p = 3 ∨ p = 5) ∧ mI S 34 0 s < t then sI S 34 0 s t else S
def n_dlP (S : fm) (s : Nat) (p t : Int32) : Option Nat := if p = 5 then n_place S s t else none
def n_dlC (S : fm) (c s : Nat) (p w : Int32) (o : Option Nat) : fm := sJ (sB (sI (n_send S true c s p w) 45 0 (mL S) (mI S 34 0 s)) 40 0 (mL S) o.isSome) 46 0 (mL S) (match o with | some i => mJ S 37 0 i | none => 0)
def n_dl (x : fy) (S : fm) (c s at_ : Nat) : fm := n_dlC (n_dlB (n_dlA x (n_lose S at_) s (mI S 44 0 at_) (mI S 45 0 at_) (mJ S 46 0 at_)) s (mI S 44 0 at_) (mI S 45 0 at_)) c s (mI S 44 0 at_) (mI S 43 0 at_) (n_dlP (n_dlB (n_dlA x (n_lose S at_) s (mI S 44 0 at_) (mI S 45 0 at_) (mJ S 46 0 at_)) s (mI S 44 0 at_) (mI S 45 0 at_)) s (mI S 44 0 at_) (mI S 45 0 at_))
def n_counts (S : fm) (c at_ : Nat) : Bool := decide (mI S 23 0 c ≠ 0) && (decide (mI S 23 0 c ≠ 6) && decide (mI S 43 0 at_ = mI S 24 0 c))
def n_hr1 (S : fm) (c : Nat) (sl : Int32) : fm := sI (sI S 25 0 c (mI S 25 0 c + 1)) 27 0 c (jmax (mI S 27 0 c) sl)
def n_hr2 (S : fm) (c : Nat) (has : Bool) (w : Int64) : fm := if has = true then sJ (sI S 26 0 c (mI S 26 0 c + 1)) 31 0 c w else S
def n_more (x : fy) (S : fm) (c : Nat) : Prop := mI S 25 0 c < nI (xQ x) ∨ (mI S 23 0 c = 5 ∧ mI S 26 0 c < nI (xK x))
def n_endS (S : fm) (c : Nat) : fm := sI (sI (sJ S 32 0 c (if mI S 23 0 c = 5 then mJ S 31 0 c else mJ S 32 0 c)) 23 0 c 0) 29 0 c (mI S 29 0 c + 1)
def n_tagS (S : fm) (c : Nat) : fm := if mI S 23 0 c = 1 then sI S 28 0 c (8 * (mI S 27 0 c / 8 + 1) + nI c) else if mI S 23 0 c = 4 then sI S 28 0 c (mI S 27 0 c) else S
end
section
-- contracts of Row, by wip/whole/gen/c_row.py
theorem tkA_step {α : Type} (f : Nat → α) (j i : Nat) (h : j ≤ i) : va_up (tkA f j i) i (f (i + 1)) = tkA f j (i + 1) := by
  funext q
  unfold va_up tkA
  by_cases hq : q = i
  · rw [if_pos hq, if_pos (by omega), hq]
  · rw [if_neg hq]
    by_cases h2 : j ≤ q ∧ q < i
    · rw [if_pos h2, if_pos (by omega)]
    · rw [if_neg h2, if_neg (by omega)]
theorem tkA_0 {α : Type} (f : Nat → α) (j : Nat) : tkA f j j = f := by
  funext q
  unfold tkA
  rw [if_neg (by omega)]
theorem tkA_at {α : Type} (f : Nat → α) (j i : Nat) : tkA f j i (i + 1) = f (i + 1) := if_neg (by omega)
theorem loA_step (f : Nat → Option Nat) (i : Nat) : va_up (loA f i) i none = loA f (i + 1) := by
  funext q
  unfold va_up loA
  by_cases hq : q = i
  · rw [if_pos hq, if_pos (by omega)]
  · rw [if_neg hq]
    by_cases h2 : q < i
    · rw [if_pos h2, if_pos (by omega)]
    · rw [if_neg h2, if_neg (by omega)]
theorem loA_0 (f : Nat → Option Nat) : loA f 0 = f := by
  funext q
  unfold loA
  rw [if_neg (by omega)]
theorem mU_same (S : fm) (k i j v : Nat) : mU (sU S k i j v) k i j = v := by rw [mU_sU, if_pos ⟨rfl, rfl, rfl⟩]
set_option maxHeartbeats 4000000 in
set_option maxRecDepth 100000 in
theorem ct_R_append (l : Launch) (x : fy) (S : fm) (r a : Nat) (hv : fv x 13 r) (hv2 : fv x 14 r) (ha : fvL x S a) (hn : mU S 13 r 1 ≤ 7) : Met l mn_R_append (gw_ws mn_R_append cb_R_append 2 none) ({ frames := 0, cells := 0, slots := 0, locals := 0 } : Room) (fPc x (S) [.ref (xa x 13 r), .ref a]) (fQv x (e_app S r a)) 0 0 (fun q => xs x ≤ q) := by
  refine f_met (by decide) (Nat.le_of_ble_eq_true rfl) ?_
  intro p e s m below meth c0 cx hr hlocks hnm hP hS ls hl
  have cx : fX rn_R cb_R_append 2 p c0 s m [.ref (xa x 13 r), .ref a].toArray x := cx
  have hx := cx.1.1
  have hb := cx.1.2.1
  have hl : lv_has ls 2 [(0, .ref (xa x 13 r)), (1, .ref a)] := hl
  refine lv_aload_n (pc := 0) hx hb dd_R_append_0 rfl (lv_at hl 0 rfl) ?_
  refine g_R_R_size (pc := 1) cx hP (by assumption) dd_R_append_1 ?_
  refine lv_aload_n (pc := 4) hx hb dd_R_append_4 rfl (lv_at hl 0 rfl) ?_
  refine g_R_R_letters (pc := 5) cx hP (by assumption) dd_R_append_5 ?_
  refine f_alen 6 (pc := 8) cx hP (fv.at (by assumption) _) rfl rfl dd_R_append_8 ?_
  refine lv_icmp_ge (pc := 9) (tgt := 32) hx hb dd_R_append_9 (by decide) (fun h9 => ?_) (fun h9 => ?_)
  · -- 9: t to 32
    have h := (nI_leI (by omega) (by omega)).mp h9
    have e0 : S = e_app S r a := by unfold e_app; rw [if_neg (by omega)]
    exact f_vret (pc := 32) cx hr hlocks hP hS e0 dd_R_append_32
  · -- 9: f to 12
    have h : mU S 13 r 1 < 7 := Nat.lt_of_not_le (fun q => h9 ((nI_leI (by omega) (by omega)).mpr q))
    have e0 : sU (sA S 14 r (mU S 13 r 1) (some a)) 13 r 1 (mU S 13 r 1 + 1) = e_app S r a := by unfold e_app; rw [if_pos h]
    refine lv_aload_n (pc := 12) hx hb dd_R_append_12 rfl (lv_at hl 0 rfl) ?_
    refine g_R_R_letters (pc := 13) cx hP (by assumption) dd_R_append_13 ?_
    refine lv_aload_n (pc := 16) hx hb dd_R_append_16 rfl (lv_at hl 0 rfl) ?_
    refine g_R_R_size (pc := 17) cx hP (by assumption) dd_R_append_17 ?_
    refine lv_aload_n (pc := 20) hx hb dd_R_append_20 rfl (lv_at hl 1 rfl) ?_
    refine f_aast (pc := 21) cx hP hS (fv.at (by assumption) _) (by assumption) (fun _ => rfl) rfl (by omega) dd_R_append_21 (fun H locs hP hS => ?_)
    refine lv_aload_n (pc := 22) hx hb dd_R_append_22 rfl (lv_at hl 0 rfl) ?_
    refine lv_dup (pc := 23) hx hb dd_R_append_23 rfl ?_
    refine g_R_R_size (pc := 24) cx hP (by assumption) dd_R_append_24 ?_
    refine lv_iconst (pc := 27) (v := 1) hx hb dd_R_append_27 (by decide) ?_
    refine lv_iadd (pc := 28) hx hb dd_R_append_28 ?_
    refine p_R_R_size (pc := 29) cx hP hS (by assumption) (nI_1 _) dd_R_append_29 (fun H locs hP hS => ?_)
    exact f_vret (pc := 32) cx hr hlocks hP hS e0 dd_R_append_32
set_option maxHeartbeats 4000000 in
set_option maxRecDepth 100000 in
theorem ct_R_take_no (l : Launch) (x : fy) (S : fm) (r : Nat) (z : Int32) (hv : fv x 13 r) (hv2 : fv x 14 r) (hz : z < 0 ∨ nI (mU S 13 r 1) ≤ z) : Met l mn_R_take (gw_ws mn_R_take cb_R_take 4 (some (.object "SealedFragmentRegister$Letter"))) ({ frames := 0, cells := 0, slots := 0, locals := 0 } : Room) (fPc x (S) [.ref (xa x 13 r), .int z]) (fQq x (S) (none)) 0 0 (fun q => xs x ≤ q) := by
  refine f_met (by decide) (Nat.le_of_ble_eq_true rfl) ?_
  intro p e s m below meth c0 cx hr hlocks hnm hP hS ls hl
  have cx : fX rn_R cb_R_take 4 p c0 s m [.ref (xa x 13 r), .int z].toArray x := cx
  have hx := cx.1.1
  have hb := cx.1.2.1
  have hl : lv_has ls 4 [(0, .ref (xa x 13 r)), (1, .int z)] := hl
  refine lv_iload_n (pc := 0) hx hb dd_R_take_0 rfl (lv_at hl 1 rfl) ?_
  refine lv_if_lt (pc := 1) (tgt := 12) hx hb dd_R_take_1 (by decide) (fun h1 => ?_) (fun h1 => ?_)
  · -- 1: t to 12
    refine lv_null (pc := 12) hx hb dd_R_take_12 ?_
    exact f_qret (pc := 13) cx hr hlocks hP hS rfl rfl dd_R_take_13
  · -- 1: f to 4
    refine lv_iload_n (pc := 4) hx hb dd_R_take_4 rfl (lv_at hl 1 rfl) ?_
    refine lv_aload_n (pc := 5) hx hb dd_R_take_5 rfl (lv_at hl 0 rfl) ?_
    refine g_R_R_size (pc := 6) cx hP (by assumption) dd_R_take_6 ?_
    refine lv_icmp_lt (pc := 9) (tgt := 14) hx hb dd_R_take_9 (by decide) (fun h9 => ?_) (fun h9 => ?_)
    · -- 9: t to 14
      exact absurd h9 (fun q => hz.elim h1 (fun q2 => absurd q (Int32.not_lt.mpr q2)))
    · -- 9: f to 12
      refine lv_null (pc := 12) hx hb dd_R_take_12 ?_
      exact f_qret (pc := 13) cx hr hlocks hP hS rfl rfl dd_R_take_13
set_option maxHeartbeats 4000000 in
set_option maxRecDepth 100000 in
theorem ct_R_take (l : Launch) (x : fy) (S : fm) (r j b : Nat) (hv : fv x 13 r) (hv2 : fv x 14 r) (hj : j < mU S 13 r 1) (hn : mU S 13 r 1 ≤ 7) (hA : ∀ q, q < mU S 13 r 1 → ∃ b, mA S 14 r q = some b ∧ fvL x S b) (hbb : mA S 14 r j = some b) : Met l mn_R_take (gw_ws mn_R_take cb_R_take 4 (some (.object "SealedFragmentRegister$Letter"))) ({ frames := 0, cells := 0, slots := 0, locals := 0 } : Room) (fPc x (S) [.ref (xa x 13 r), .int (nI j)]) (fQq x (e_take S r j) (some b)) 0 0 (fun q => xs x ≤ q) := by
  refine f_met (by decide) (Nat.le_of_ble_eq_true rfl) ?_
  intro p e s m below meth c0 cx hr hlocks hnm hP hS ls hl
  have cx : fX rn_R cb_R_take 4 p c0 s m [.ref (xa x 13 r), .int (nI j)].toArray x := cx
  have hx := cx.1.1
  have hb := cx.1.2.1
  have hl : lv_has ls 4 [(0, .ref (xa x 13 r)), (1, .int (nI j))] := hl
  have loop : ∀ (n i : Nat) (H : Heap) (locs : List Loc), j ≤ i → i ≤ mU S 13 r 1 - 1 → mU S 13 r 1 - 1 - i < n → fP x (rA (sU S 13 r 1 (mU S 13 r 1 - 1)) 14 r (tkA (mA S 14 r) j (i))) H → fS x s.heap H locs → ∀ ls : Array Slot, lv_has ls 4 [(3, .int (nI i)), (2, .ref b), (0, .ref (xa x 13 r)), (1, .int (nI j))] → W p l e ({ frames := 0, cells := 0, slots := 0, locals := 0 } : Room) s m [.ref (xa x 13 r), .int (nI j)].toArray below meth c0 H locs 0 0 (MQ below (fQq x (e_take S r j) (some b)) [.ref (xa x 13 r), .int (nI j)].toArray s 0 0 (fun q => xs x ≤ q)) (F0 m 33 ls []) := by
    intro n
    induction n with
    | zero => intro i H locs _ _ h; omega
    | succ n ih =>
      intro i H locs hji hi hn1 hP hS ls hl
      have hsz : nI (mU (rA (sU S 13 r 1 (mU S 13 r 1 - 1)) 14 r (tkA (mA S 14 r) j (i))) 13 r 1) = nI (mU S 13 r 1 - 1) := by rw [mU_rA, mU_same]
      have hrow : mA (rA (sU S 13 r 1 (mU S 13 r 1 - 1)) 14 r (tkA (mA S 14 r) j (i))) 14 r = tkA (mA S 14 r) j i := u2_s
      refine lv_iload_n (pc := 33) hx hb dd_R_take_33 rfl (lv_at hl 0 rfl) ?_
      refine lv_aload_n (pc := 34) hx hb dd_R_take_34 rfl (lv_at hl 2 rfl) ?_
      refine g_R_R_size (pc := 35) cx hP (by assumption) dd_R_take_35 ?_
      refine f_topi hsz ?_
      refine lv_icmp_ge (pc := 38) (tgt := 61) hx hb dd_R_take_38 (by decide) (fun h38 => ?_) (fun h38 => ?_)
      · -- 38: t to 61
        have h := (nI_leI (by omega) (by omega)).mp h38
        have hie : i = mU S 13 r 1 - 1 := by omega
        subst hie
        have e0 : sA (rA (sU S 13 r 1 (mU S 13 r 1 - 1)) 14 r (tkA (mA S 14 r) j (mU S 13 r 1 - 1))) 14 r (mU S 13 r 1 - 1) none = e_take S r j := by rw [sA_rA]; rfl
        refine lv_aload_n (pc := 61) hx hb dd_R_take_61 rfl (lv_at hl 2 rfl) ?_
        refine g_R_R_letters (pc := 62) cx hP (by assumption) dd_R_take_62 ?_
        refine lv_aload_n (pc := 65) hx hb dd_R_take_65 rfl (lv_at hl 2 rfl) ?_
        refine g_R_R_size (pc := 66) cx hP (by assumption) dd_R_take_66 ?_
        refine f_topi hsz ?_
        refine lv_null (pc := 69) hx hb dd_R_take_69 ?_
        refine f_aastN (pc := 70) cx hP hS (fv.at (by assumption) _) (fun _ => rfl) rfl (by omega) dd_R_take_70 (fun H locs hP hS => ?_)
        refine lv_aload_n (pc := 71) hx hb dd_R_take_71 rfl (lv_at hl 1 rfl) ?_
        exact f_qret (pc := 72) cx hr hlocks hP hS rfl e0 dd_R_take_72
      · -- 38: f to 41
        have h : i < mU S 13 r 1 - 1 := Nat.lt_of_not_le (fun q => h38 ((nI_leI (by omega) (by omega)).mpr q))
        have e1 : sA (rA (sU S 13 r 1 (mU S 13 r 1 - 1)) 14 r (tkA (mA S 14 r) j (i))) 14 r i (mA (rA (sU S 13 r 1 (mU S 13 r 1 - 1)) 14 r (tkA (mA S 14 r) j (i))) 14 r (i + 1)) = rA (sU S 13 r 1 (mU S 13 r 1 - 1)) 14 r (tkA (mA S 14 r) j (i + 1)) := by rw [sA_rA, hrow, tkA_at, tkA_step _ _ _ hji]
        refine lv_aload_n (pc := 41) hx hb dd_R_take_41 rfl (lv_at hl 2 rfl) ?_
        refine g_R_R_letters (pc := 42) cx hP (by assumption) dd_R_take_42 ?_
        refine lv_iload_n (pc := 45) hx hb dd_R_take_45 rfl (lv_at hl 0 rfl) ?_
        refine lv_aload_n (pc := 46) hx hb dd_R_take_46 rfl (lv_at hl 2 rfl) ?_
        refine g_R_R_letters (pc := 47) cx hP (by assumption) dd_R_take_47 ?_
        refine lv_iload_n (pc := 50) hx hb dd_R_take_50 rfl (lv_at hl 0 rfl) ?_
        refine lv_iconst (pc := 51) (v := 1) hx hb dd_R_take_51 (by decide) ?_
        refine lv_iadd (pc := 52) hx hb dd_R_take_52 ?_
        refine f_aald 6 (pc := 53) cx hP (fv.at (by assumption) _) rfl rfl (nI_1 i) (by omega) dd_R_take_53 ?_
        refine f_aastO (pc := 54) cx hP hS (fv.at (by assumption) _) (fun b2 hb2 => by obtain ⟨b3, h3, h4⟩ := hA (i + 1) (by omega); rw [hrow, tkA_at, h3] at hb2; cases hb2; exact h4) (fun _ => rfl) rfl (by omega) dd_R_take_54 (fun H locs hP hS => ?_)
        rw [e1] at hP
        refine lv_iinc (pc := 55) (k := 0) (lv' := [(3, _), (2, _), (0, _), (1, _)]) hx hb dd_R_take_55 hl rfl (f_inc1 i) (Nat.le_of_ble_eq_true rfl) rfl (fun ls hl => ?_)
        refine lv_goto (pc := 58) (tgt := 33) hx hb dd_R_take_58 (by decide) ?_
        exact ih (i + 1) _ _ (by omega) (by omega) (by omega) hP hS ls (lv_sub hl [0, 1, 2, 3] rfl)
  refine lv_iload_n (pc := 0) hx hb dd_R_take_0 rfl (lv_at hl 1 rfl) ?_
  refine lv_if_lt (pc := 1) (tgt := 12) hx hb dd_R_take_1 (by decide) (fun h1 => ?_) (fun h1 => ?_)
  · -- 1: t to 12
    exact absurd h1 (nI_pos (by omega))
  · -- 1: f to 4
    refine lv_iload_n (pc := 4) hx hb dd_R_take_4 rfl (lv_at hl 1 rfl) ?_
    refine lv_aload_n (pc := 5) hx hb dd_R_take_5 rfl (lv_at hl 0 rfl) ?_
    refine g_R_R_size (pc := 6) cx hP (by assumption) dd_R_take_6 ?_
    refine lv_icmp_lt (pc := 9) (tgt := 14) hx hb dd_R_take_9 (by decide) (fun h9 => ?_) (fun h9 => ?_)
    · -- 9: t to 14
      refine lv_aload_n (pc := 14) hx hb dd_R_take_14 rfl (lv_at hl 0 rfl) ?_
      refine g_R_R_letters (pc := 15) cx hP (by assumption) dd_R_take_15 ?_
      refine lv_iload_n (pc := 18) hx hb dd_R_take_18 rfl (lv_at hl 1 rfl) ?_
      refine f_aald 6 (pc := 19) cx hP (fv.at (by assumption) _) rfl rfl rfl (by omega) dd_R_take_19 ?_
      refine f_st (w := [.ref b]) (by rw [hbb]; rfl) ?_
      refine lv_astore_n (pc := 20) (lv' := [(2, _), (0, _), (1, _)]) hx hb dd_R_take_20 rfl hl (Nat.le_of_ble_eq_true rfl) rfl (fun ls hl => ?_)
      refine lv_aload_n (pc := 21) hx hb dd_R_take_21 rfl (lv_at hl 1 rfl) ?_
      refine lv_dup (pc := 22) hx hb dd_R_take_22 rfl ?_
      refine g_R_R_size (pc := 23) cx hP (by assumption) dd_R_take_23 ?_
      refine lv_iconst (pc := 26) (v := 1) hx hb dd_R_take_26 (by decide) ?_
      refine lv_isub (pc := 27) hx hb dd_R_take_27 ?_
      refine p_R_R_size (pc := 28) cx hP hS (by assumption) (f_pred (by omega)) dd_R_take_28 (fun H locs hP hS => ?_)
      refine lv_iload_n (pc := 31) hx hb dd_R_take_31 rfl (lv_at hl 2 rfl) ?_
      refine lv_istore_n (pc := 32) (lv' := [(3, _), (2, _), (0, _), (1, _)]) hx hb dd_R_take_32 rfl hl (Nat.le_of_ble_eq_true rfl) rfl (fun ls hl => ?_)
      have e2 : sU S 13 r 1 (mU S 13 r 1 - 1) = rA (sU S 13 r 1 (mU S 13 r 1 - 1)) 14 r (tkA (mA S 14 r) j (j)) := by rw [tkA_0]; exact (rA_self (sU S 13 r 1 (mU S 13 r 1 - 1)) 14 r).symm
      rw [e2] at hP
      exact loop (mU S 13 r 1) j _ _ (Nat.le_refl _) (by omega) (by omega) hP hS ls (lv_sub hl [0, 1, 2, 3] rfl)
    · -- 9: f to 12
      exact absurd ((nI_ltI (by omega) (by omega)).mpr hj) h9
set_option maxHeartbeats 4000000 in
set_option maxRecDepth 100000 in
theorem ct_R_lose (l : Launch) (x : fy) (S : fm) (r : Nat) (hv : fv x 13 r) (hv2 : fv x 14 r) : Met l mn_R_lose (gw_ws mn_R_lose cb_R_lose 2 none) ({ frames := 0, cells := 0, slots := 0, locals := 0 } : Room) (fPc x (S) [.ref (xa x 13 r)]) (fQv x (e_lose S r)) 0 0 (fun q => xs x ≤ q) := by
  refine f_met (by decide) (Nat.le_of_ble_eq_true rfl) ?_
  intro p e s m below meth c0 cx hr hlocks hnm hP hS ls hl
  have cx : fX rn_R cb_R_lose 2 p c0 s m [.ref (xa x 13 r)].toArray x := cx
  have hx := cx.1.1
  have hb := cx.1.2.1
  have hl : lv_has ls 2 [(0, .ref (xa x 13 r))] := hl
  have loop : ∀ (n i : Nat) (H : Heap) (locs : List Loc), i ≤ 7 → 7 - i < n → fP x (rA S 14 r (loA (mA S 14 r) (i))) H → fS x s.heap H locs → ∀ ls : Array Slot, lv_has ls 2 [(1, .int (nI i)), (0, .ref (xa x 13 r))] → W p l e ({ frames := 0, cells := 0, slots := 0, locals := 0 } : Room) s m [.ref (xa x 13 r)].toArray below meth c0 H locs 0 0 (MQ below (fQv x (e_lose S r)) [.ref (xa x 13 r)].toArray s 0 0 (fun q => xs x ≤ q)) (F0 m 2 ls []) := by
    intro n
    induction n with
    | zero => intro i H locs _ h; omega
    | succ n ih =>
      intro i H locs hi hn1 hP hS ls hl
      refine lv_iload_n (pc := 2) hx hb dd_R_lose_2 rfl (lv_at hl 0 rfl) ?_
      refine lv_aload_n (pc := 3) hx hb dd_R_lose_3 rfl (lv_at hl 1 rfl) ?_
      refine g_R_R_letters (pc := 4) cx hP (by assumption) dd_R_lose_4 ?_
      refine f_alen 6 (pc := 7) cx hP (fv.at (by assumption) _) rfl rfl dd_R_lose_7 ?_
      refine lv_icmp_ge (pc := 8) (tgt := 24) hx hb dd_R_lose_8 (by decide) (fun h8 => ?_) (fun h8 => ?_)
      · -- 8: t to 24
        have h := (nI_leI (by omega) (by omega)).mp h8
        have hie : i = 7 := by omega
        subst hie
        refine lv_aload_n (pc := 24) hx hb dd_R_lose_24 rfl (lv_at hl 1 rfl) ?_
        refine lv_iconst (pc := 25) (v := nI 0) hx hb dd_R_lose_25 (by decide) ?_
        refine p_R_R_size (pc := 26) cx hP hS (by assumption) rfl dd_R_lose_26 (fun H locs hP hS => ?_)
        exact f_vret (pc := 29) cx hr hlocks hP hS rfl dd_R_lose_29
      · -- 8: f to 11
        have h : i < 7 := Nat.lt_of_not_le (fun q => h8 ((nI_leI (by omega) (by omega)).mpr q))
        have e1 : sA (rA S 14 r (loA (mA S 14 r) (i))) 14 r i none = rA S 14 r (loA (mA S 14 r) (i + 1)) := by rw [sA_rA, loA_step]
        refine lv_aload_n (pc := 11) hx hb dd_R_lose_11 rfl (lv_at hl 1 rfl) ?_
        refine g_R_R_letters (pc := 12) cx hP (by assumption) dd_R_lose_12 ?_
        refine lv_iload_n (pc := 15) hx hb dd_R_lose_15 rfl (lv_at hl 0 rfl) ?_
        refine lv_null (pc := 16) hx hb dd_R_lose_16 ?_
        refine f_aastN (pc := 17) cx hP hS (fv.at (by assumption) _) (fun _ => rfl) rfl (by omega) dd_R_lose_17 (fun H locs hP hS => ?_)
        rw [e1] at hP
        refine lv_iinc (pc := 18) (k := 0) (lv' := [(1, _), (0, _)]) hx hb dd_R_lose_18 hl rfl (f_inc1 i) (Nat.le_of_ble_eq_true rfl) rfl (fun ls hl => ?_)
        refine lv_goto (pc := 21) (tgt := 2) hx hb dd_R_lose_21 (by decide) ?_
        exact ih (i + 1) _ _ (by omega) (by omega) hP hS ls (lv_sub hl [0, 1] rfl)
  refine lv_iconst (pc := 0) (v := nI 0) hx hb dd_R_lose_0 (by decide) ?_
  refine lv_istore_n (pc := 1) (lv' := [(1, _), (0, _)]) hx hb dd_R_lose_1 rfl hl (Nat.le_of_ble_eq_true rfl) rfl (fun ls hl => ?_)
  have e2 : S = rA S 14 r (loA (mA S 14 r) (0)) := by rw [loA_0]; exact (rA_self S 14 r).symm
  rw [e2] at hP
  exact loop 8 0 _ _ (by omega) (by omega) hP hS ls (lv_sub hl [0, 1] rfl)
end
section
-- contracts of Client, Server and Letter, by wip/whole/gen/c_cs.py
theorem f_min {a b : Nat} (ha : a < 2 ^ 31) (hb : b < 2 ^ 31) : (if nI b < nI a then nI b else nI a) = nI (min a b) := by
  by_cases h : b < a
  · rw [if_pos ((nI_ltI hb ha).mpr h), Nat.min_eq_right (by omega)]
  · rw [if_neg (fun q => h ((nI_ltI hb ha).mp q)), Nat.min_eq_left (by omega)]
theorem fr_some {p : Nat → Bool} {n i : Nat} (hi : i < n) (hp : p i = true) (h : ∀ k, k < i → p k = false) : (List.range n).find? p = some i := by
  rw [List.find?_range_eq_some]
  exact ⟨hp, List.mem_range.mpr hi, fun k hk => by rw [h k hk]; rfl⟩
theorem fr_none {p : Nat → Bool} {n : Nat} (h : ∀ k, k < n → p k = false) : (List.range n).find? p = none := by
  rw [List.find?_eq_none]
  intro k hk
  rw [h k (List.mem_range.mp hk)]
  decide
def shA {α : Type} (f : Nat → α) (q n : Nat) : Nat → α := fun i => if q < i ∧ i ≤ n then f (i - 1) else f i
theorem shA_0 {α : Type} (f : Nat → α) (n : Nat) : shA f n n = f := by
  funext i; unfold shA; rw [if_neg (by omega)]
theorem shA_at {α : Type} (f : Nat → α) (q n : Nat) : shA f (q + 1) n q = f q := by
  unfold shA; rw [if_neg (by omega)]
theorem shA_step {α : Type} (f : Nat → α) (q n : Nat) (h : q + 1 ≤ n) : va_up (shA f (q + 1) n) (q + 1) (f q) = shA f q n := by
  funext i
  unfold va_up shA
  by_cases hi : i = q + 1
  · rw [if_pos hi, if_pos (by omega), hi]; rfl
  · rw [if_neg hi]
    by_cases h2 : q + 1 < i ∧ i ≤ n
    · rw [if_pos h2, if_pos (by omega)]
    · rw [if_neg h2, if_neg (by omega)]
theorem shA_end {α : Type} (f : Nat → α) (q n : Nat) (v : α) : va_up (shA f q n) q v = insA f q n v := rfl
set_option maxHeartbeats 4000000 in
set_option maxRecDepth 100000 in
theorem ct_C_isAtWork (l : Launch) (x : fy) (S : fm) (c : Nat) (hv : fv x 7 c) : Met l mn_C_isAtWork (gw_ws mn_C_isAtWork cb_C_isAtWork 1 (some .boolean)) ({ frames := 0, cells := 0, slots := 0, locals := 0 } : Room) (fPc x (S) [.ref (xa x 7 c)]) (fQi x (S) (b2 (q_work S c))) 0 0 (fun q => xs x ≤ q) := by
  refine f_met (by decide) (Nat.le_of_ble_eq_true rfl) ?_
  intro p e s m below meth c0 cx hr hlocks hnm hP hS ls hl
  have cx : fX rn_C cb_C_isAtWork 1 p c0 s m [.ref (xa x 7 c)].toArray x := cx
  have hx := cx.1.1
  have hb := cx.1.2.1
  have hl : lv_has ls 1 [(0, .ref (xa x 7 c))] := hl
  refine lv_aload_n (pc := 0) hx hb dd_C_isAtWork_0 rfl (lv_at hl 0 rfl) ?_
  refine g_C_C_crashed (pc := 1) cx hP (by assumption) dd_C_isAtWork_1 ?_
  refine f_neB (pc := 4) (tgt := 18) cx dd_C_isAtWork_4 (by decide) (fun h4 => ?_) (fun h4 => ?_)
  · -- 4: t to 18
    refine lv_iconst (pc := 18) (v := 0) hx hb dd_C_isAtWork_18 (by decide) ?_
    exact f_zret (pc := 19) cx hr hlocks hP hS (by simp [q_work, b2, *]) rfl dd_C_isAtWork_19
  · -- 4: f to 7
    refine lv_aload_n (pc := 7) hx hb dd_C_isAtWork_7 rfl (lv_at hl 0 rfl) ?_
    refine g_C_C_phase (pc := 8) cx hP (by assumption) dd_C_isAtWork_8 ?_
    refine lv_if_eq (pc := 11) (tgt := 18) hx hb dd_C_isAtWork_11 (by decide) (fun h11 => ?_) (fun h11 => ?_)
    · -- 11: t to 18
      refine lv_iconst (pc := 18) (v := 0) hx hb dd_C_isAtWork_18 (by decide) ?_
      exact f_zret (pc := 19) cx hr hlocks hP hS (by simp [q_work, b2, *]) rfl dd_C_isAtWork_19
    · -- 11: f to 14
      refine lv_iconst (pc := 14) (v := 1) hx hb dd_C_isAtWork_14 (by decide) ?_
      refine lv_goto (pc := 15) (tgt := 19) hx hb dd_C_isAtWork_15 (by decide) ?_
      exact f_zret (pc := 19) cx hr hlocks hP hS (by simp [q_work, b2, *]) rfl dd_C_isAtWork_19
set_option maxHeartbeats 4000000 in
set_option maxRecDepth 100000 in
theorem ct_C_enter (l : Launch) (x : fy) (S : fm) (c : Nat) (ph : Int32) (hv : fv x 7 c) : Met l mn_C_enter (gw_ws mn_C_enter cb_C_enter 2 none) ({ frames := 0, cells := 0, slots := 0, locals := 0 } : Room) (fPc x (S) [.ref (xa x 7 c), .int ph]) (fQv x (e_enter S c ph)) 0 0 (fun q => xs x ≤ q) := by
  refine f_met (by decide) (Nat.le_of_ble_eq_true rfl) ?_
  intro p e s m below meth c0 cx hr hlocks hnm hP hS ls hl
  have cx : fX rn_C cb_C_enter 2 p c0 s m [.ref (xa x 7 c), .int ph].toArray x := cx
  have hx := cx.1.1
  have hb := cx.1.2.1
  have hl : lv_has ls 2 [(0, .ref (xa x 7 c)), (1, .int ph)] := hl
  refine lv_aload_n (pc := 0) hx hb dd_C_enter_0 rfl (lv_at hl 0 rfl) ?_
  refine lv_iload_n (pc := 1) hx hb dd_C_enter_1 rfl (lv_at hl 1 rfl) ?_
  refine p_C_C_phase (pc := 2) cx hP hS (by assumption) dd_C_enter_2 (fun H locs hP hS => ?_)
  refine lv_aload_n (pc := 5) hx hb dd_C_enter_5 rfl (lv_at hl 0 rfl) ?_
  refine lv_dup (pc := 6) hx hb dd_C_enter_6 rfl ?_
  refine g_C_C_beginning (pc := 7) cx hP (by assumption) dd_C_enter_7 ?_
  refine lv_iconst (pc := 10) (v := 1) hx hb dd_C_enter_10 (by decide) ?_
  refine lv_iadd (pc := 11) hx hb dd_C_enter_11 ?_
  refine p_C_C_beginning (pc := 12) cx hP hS (by assumption) dd_C_enter_12 (fun H locs hP hS => ?_)
  refine lv_aload_n (pc := 15) hx hb dd_C_enter_15 rfl (lv_at hl 0 rfl) ?_
  refine lv_iconst (pc := 16) (v := 0) hx hb dd_C_enter_16 (by decide) ?_
  refine p_C_C_heard (pc := 17) cx hP hS (by assumption) dd_C_enter_17 (fun H locs hP hS => ?_)
  refine lv_aload_n (pc := 20) hx hb dd_C_enter_20 rfl (lv_at hl 0 rfl) ?_
  refine lv_iconst (pc := 21) (v := 0) hx hb dd_C_enter_21 (by decide) ?_
  refine p_C_C_highestSeal (pc := 22) cx hP hS (by assumption) dd_C_enter_22 (fun H locs hP hS => ?_)
  refine lv_aload_n (pc := 25) hx hb dd_C_enter_25 rfl (lv_at hl 0 rfl) ?_
  refine lv_iconst (pc := 26) (v := 0) hx hb dd_C_enter_26 (by decide) ?_
  refine p_C_C_fragmentCount (pc := 27) cx hP hS (by assumption) rfl dd_C_enter_27 (fun H locs hP hS => ?_)
  exact f_vret (pc := 30) cx hr hlocks hP hS (by simp [e_enter, mI_sI]) dd_C_enter_30
set_option maxHeartbeats 4000000 in
set_option maxRecDepth 100000 in
theorem ct_C_counts (l : Launch) (x : fy) (S : fm) (c a : Nat) (hv : fv x 7 c) (ha : fvL x S a) : Met l mn_C_counts (gw_ws mn_C_counts cb_C_counts 2 (some .boolean)) ({ frames := 1, cells := 0, slots := 0, locals := 20 } : Room) (fPc x (S) [.ref (xa x 7 c), .ref a]) (fQi x (S) (b2 (q_counts S c a))) 0 0 (fun q => xs x ≤ q) := by
  refine f_met (by decide) (Nat.le_of_ble_eq_true rfl) ?_
  intro p e s m below meth c0 cx hr hlocks hnm hP hS ls hl
  have cx : fX rn_C cb_C_counts 2 p c0 s m [.ref (xa x 7 c), .ref a].toArray x := cx
  have hx := cx.1.1
  have hb := cx.1.2.1
  have hl : lv_has ls 2 [(0, .ref (xa x 7 c)), (1, .ref a)] := hl
  refine lv_aload_n (pc := 0) hx hb dd_C_counts_0 rfl (lv_at hl 0 rfl) ?_
  refine k_C_C_isAtWork (pc := 1) cx hl hP hS (by assumption) (ct_C_isAtWork l x _ c hv) ⟨⟨rfl, rfl⟩, ⟨(Nat.le_of_ble_eq_true rfl), (Nat.le_of_ble_eq_true rfl)⟩, (Nat.le_of_ble_eq_true rfl), (Nat.le_of_ble_eq_true rfl)⟩ (Nat.le_of_ble_eq_true rfl) dd_C_counts_1 (fun H locs hP hS => ?_)
  refine f_eqB (pc := 4) (tgt := 22) cx dd_C_counts_4 (by decide) (fun h4 => ?_) (fun h4 => ?_)
  · -- 4: t to 22
    refine lv_iconst (pc := 22) (v := 0) hx hb dd_C_counts_22 (by decide) ?_
    exact f_zret (pc := 23) cx hr hlocks hP hS (by simp [q_counts, b2, *]) rfl dd_C_counts_23
  · -- 4: f to 7
    refine lv_aload_n (pc := 7) hx hb dd_C_counts_7 rfl (lv_at hl 1 rfl) ?_
    refine g_C_L_beginning (pc := 8) cx hP (by assumption) dd_C_counts_8 ?_
    refine lv_aload_n (pc := 11) hx hb dd_C_counts_11 rfl (lv_at hl 0 rfl) ?_
    refine g_C_C_beginning (pc := 12) cx hP (by assumption) dd_C_counts_12 ?_
    refine lv_icmp_ne (pc := 15) (tgt := 22) hx hb dd_C_counts_15 (by decide) (fun h15 => ?_) (fun h15 => ?_)
    · -- 15: t to 22
      refine lv_iconst (pc := 22) (v := 0) hx hb dd_C_counts_22 (by decide) ?_
      exact f_zret (pc := 23) cx hr hlocks hP hS (by simp [q_counts, b2, *]) rfl dd_C_counts_23
    · -- 15: f to 18
      refine lv_iconst (pc := 18) (v := 1) hx hb dd_C_counts_18 (by decide) ?_
      refine lv_goto (pc := 19) (tgt := 23) hx hb dd_C_counts_19 (by decide) ?_
      exact f_zret (pc := 23) cx hr hlocks hP hS (by simp [q_counts, b2, *]) rfl dd_C_counts_23
set_option maxHeartbeats 4000000 in
set_option maxRecDepth 100000 in
theorem ct_C_take (l : Launch) (x : fy) (S : fm) (c a s0 : Nat) (hv : fv x 7 c) (hv8 : fv x 8 c) (hv9 : fv x 9 c) (ha : fvL x S a) (hK : xK x ≤ 7) (hn : mU S 7 c 3 ≤ 7) : Met l mn_C_take (gw_ws mn_C_take cb_C_take 3 none) ({ frames := 1, cells := 0, slots := 0, locals := 21 } : Room) (fPc x (S) [.ref (xa x 7 c), .ref a, .int (nI s0)]) (fQv x (e_hear x S c a s0)) 0 0 (fun q => xs x ≤ q) := by
  refine f_met (by decide) (Nat.le_of_ble_eq_true rfl) ?_
  intro p e s m below meth c0 cx hr hlocks hnm hP hS ls hl
  have cx : fX rn_C cb_C_take 3 p c0 s m [.ref (xa x 7 c), .ref a, .int (nI s0)].toArray x := cx
  have hx := cx.1.1
  have hb := cx.1.2.1
  have hl : lv_has ls 3 [(0, .ref (xa x 7 c)), (1, .ref a), (2, .int (nI s0))] := hl
  refine lv_aload_n (pc := 0) hx hb dd_C_take_0 rfl (lv_at hl 0 rfl) ?_
  refine lv_dup (pc := 1) hx hb dd_C_take_1 rfl ?_
  refine g_C_C_heard (pc := 2) cx hP (by assumption) dd_C_take_2 ?_
  refine lv_iconst (pc := 5) (v := 1) hx hb dd_C_take_5 (by decide) ?_
  refine lv_iadd (pc := 6) hx hb dd_C_take_6 ?_
  refine p_C_C_heard (pc := 7) cx hP hS (by assumption) dd_C_take_7 (fun H locs hP hS => ?_)
  refine lv_aload_n (pc := 10) hx hb dd_C_take_10 rfl (lv_at hl 0 rfl) ?_
  refine lv_aload_n (pc := 11) hx hb dd_C_take_11 rfl (lv_at hl 0 rfl) ?_
  refine g_C_C_highestSeal (pc := 12) cx hP (by assumption) dd_C_take_12 ?_
  refine lv_aload_n (pc := 15) hx hb dd_C_take_15 rfl (lv_at hl 1 rfl) ?_
  refine g_C_L_seal (pc := 16) cx hP (by assumption) dd_C_take_16 ?_
  refine k_C_J_max (pc := 19) cx hl ⟨(Nat.le_of_ble_eq_true rfl), (Nat.le_of_ble_eq_true rfl), (Nat.le_of_ble_eq_true rfl), (Nat.le_of_ble_eq_true rfl)⟩ dd_C_take_19 ?_
  refine p_C_C_highestSeal (pc := 22) cx hP hS (by assumption) dd_C_take_22 (fun H locs hP hS => ?_)
  have hP := f_eqS (T' := e_hear1 S c a) hP (by simp [e_hear1, jmax, mI_sI])
  refine lv_aload_n (pc := 25) hx hb dd_C_take_25 rfl (lv_at hl 1 rfl) ?_
  refine g_C_L_bearsFragment (pc := 26) cx hP (by assumption) dd_C_take_26 ?_
  refine f_eqB (pc := 29) (tgt := 77) cx dd_C_take_29 (by decide) (fun h29 => ?_) (fun h29 => ?_)
  · -- 29: t to 77
    have e0 : e_hear1 S c a = e_hear x S c a s0 := by unfold e_hear; rw [if_neg (fun q => by rw [show mB S 15 a 5 = false from h29] at q; cases q.1)]
    exact f_vret (pc := 77) cx hr hlocks hP hS e0 dd_C_take_77
  · -- 29: f to 32
    refine lv_aload_n (pc := 32) hx hb dd_C_take_32 rfl (lv_at hl 0 rfl) ?_
    refine g_C_C_fragmentCount (pc := 33) cx hP (by assumption) dd_C_take_33 ?_
    refine lv_aload_n (pc := 36) hx hb dd_C_take_36 rfl (lv_at hl 0 rfl) ?_
    refine g_C_C_fragments (pc := 37) cx hP (by assumption) dd_C_take_37 ?_
    refine f_alen 1 (pc := 40) cx hP (fv.at (by assumption) _) rfl rfl dd_C_take_40 ?_
    refine lv_icmp_ge (pc := 41) (tgt := 77) hx hb dd_C_take_41 (by decide) (fun h41 => ?_) (fun h41 => ?_)
    · -- 41: t to 77
      have h := (nI_leI (by omega) (show mU S 7 c 3 < 2 ^ 31 by omega)).mp h41
      have e0 : e_hear1 S c a = e_hear x S c a s0 := by unfold e_hear; rw [if_neg (fun q => by omega)]
      exact f_vret (pc := 77) cx hr hlocks hP hS e0 dd_C_take_77
    · -- 41: f to 44
      have h : mU S 7 c 3 < xK x := Nat.lt_of_not_le (fun q => h41 ((nI_leI (by omega) (show mU S 7 c 3 < 2 ^ 31 by omega)).mpr q))
      have e0 : e_hear2 (e_hear1 S c a) c a s0 = e_hear x S c a s0 := by unfold e_hear; rw [if_pos ⟨h29, h⟩]
      refine lv_aload_n (pc := 44) hx hb dd_C_take_44 rfl (lv_at hl 0 rfl) ?_
      refine g_C_C_sources (pc := 45) cx hP (by assumption) dd_C_take_45 ?_
      refine lv_aload_n (pc := 48) hx hb dd_C_take_48 rfl (lv_at hl 0 rfl) ?_
      refine g_C_C_fragmentCount (pc := 49) cx hP (by assumption) dd_C_take_49 ?_
      refine lv_iload_n (pc := 52) hx hb dd_C_take_52 rfl (lv_at hl 2 rfl) ?_
      refine f_iastU (pc := 53) cx hP hS (fv.at (by assumption) _) (fun _ => rfl) rfl rfl h dd_C_take_53 (fun H locs hP hS => ?_)
      refine lv_aload_n (pc := 54) hx hb dd_C_take_54 rfl (lv_at hl 0 rfl) ?_
      refine g_C_C_fragments (pc := 55) cx hP (by assumption) dd_C_take_55 ?_
      refine lv_aload_n (pc := 58) hx hb dd_C_take_58 rfl (lv_at hl 0 rfl) ?_
      refine g_C_C_fragmentCount (pc := 59) cx hP (by assumption) dd_C_take_59 ?_
      refine lv_aload_n (pc := 62) hx hb dd_C_take_62 rfl (lv_at hl 1 rfl) ?_
      refine g_C_L_fragment (pc := 63) cx hP (by assumption) dd_C_take_63 ?_
      refine f_last (pc := 66) cx hP hS (fv.at (by assumption) _) (fun _ => rfl) rfl h dd_C_take_66 (fun H locs hP hS => ?_)
      refine lv_aload_n (pc := 67) hx hb dd_C_take_67 rfl (lv_at hl 0 rfl) ?_
      refine lv_dup (pc := 68) hx hb dd_C_take_68 rfl ?_
      refine g_C_C_fragmentCount (pc := 69) cx hP (by assumption) dd_C_take_69 ?_
      refine lv_iconst (pc := 72) (v := 1) hx hb dd_C_take_72 (by decide) ?_
      refine lv_iadd (pc := 73) hx hb dd_C_take_73 ?_
      refine p_C_C_fragmentCount (pc := 74) cx hP hS (by assumption) (nI_1 _) dd_C_take_74 (fun H locs hP hS => ?_)
      have hP := f_eqS (T' := e_hear2 (e_hear1 S c a) c a s0) hP (by simp [e_hear2, mU_sU, mU_sJ, mJ_sU])
      exact f_vret (pc := 77) cx hr hlocks hP hS e0 dd_C_take_77
set_option maxHeartbeats 4000000 in
set_option maxRecDepth 100000 in
theorem ct_C_hasAll (l : Launch) (x : fy) (S : fm) (c : Nat) (hv : fv x 7 c) (hv9 : fv x 9 c) (hK : xK x ≤ 7) (hn : mU S 7 c 3 ≤ 7) : Met l mn_C_hasAllFragments (gw_ws mn_C_hasAllFragments cb_C_hasAllFragments 1 (some .boolean)) ({ frames := 0, cells := 0, slots := 0, locals := 0 } : Room) (fPc x (S) [.ref (xa x 7 c)]) (fQi x (S) (b2 (decide (mU S 7 c 3 = xK x)))) 0 0 (fun q => xs x ≤ q) := by
  refine f_met (by decide) (Nat.le_of_ble_eq_true rfl) ?_
  intro p e s m below meth c0 cx hr hlocks hnm hP hS ls hl
  have cx : fX rn_C cb_C_hasAllFragments 1 p c0 s m [.ref (xa x 7 c)].toArray x := cx
  have hx := cx.1.1
  have hb := cx.1.2.1
  have hl : lv_has ls 1 [(0, .ref (xa x 7 c))] := hl
  refine lv_aload_n (pc := 0) hx hb dd_C_hasAllFragments_0 rfl (lv_at hl 0 rfl) ?_
  refine g_C_C_fragmentCount (pc := 1) cx hP (by assumption) dd_C_hasAllFragments_1 ?_
  refine lv_aload_n (pc := 4) hx hb dd_C_hasAllFragments_4 rfl (lv_at hl 0 rfl) ?_
  refine g_C_C_fragments (pc := 5) cx hP (by assumption) dd_C_hasAllFragments_5 ?_
  refine f_alen 1 (pc := 8) cx hP (fv.at (by assumption) _) rfl rfl dd_C_hasAllFragments_8 ?_
  refine lv_icmp_ne (pc := 9) (tgt := 16) hx hb dd_C_hasAllFragments_9 (by decide) (fun h9 => ?_) (fun h9 => ?_)
  · -- 9: t to 16
    have h : ¬ mU S 7 c 3 = xK x := fun q => h9 (by rw [q])
    refine lv_iconst (pc := 16) (v := 0) hx hb dd_C_hasAllFragments_16 (by decide) ?_
    exact f_zret (pc := 17) cx hr hlocks hP hS (by simp [b2, h]) rfl dd_C_hasAllFragments_17
  · -- 9: f to 12
    have h := (nI_eq (by omega) (by omega)).mp h9
    refine lv_iconst (pc := 12) (v := 1) hx hb dd_C_hasAllFragments_12 (by decide) ?_
    refine lv_goto (pc := 13) (tgt := 17) hx hb dd_C_hasAllFragments_13 (by decide) ?_
    exact f_zret (pc := 17) cx hr hlocks hP hS (by simp [b2, h]) rfl dd_C_hasAllFragments_17
set_option maxHeartbeats 4000000 in
set_option maxRecDepth 100000 in
theorem ct_C_finish (l : Launch) (x : fy) (S : fm) (c : Nat) (hv : fv x 7 c) : Met l mn_C_finish (gw_ws mn_C_finish cb_C_finish 1 none) ({ frames := 0, cells := 0, slots := 0, locals := 0 } : Room) (fPc x (S) [.ref (xa x 7 c)]) (fQv x (e_finish S c)) 0 0 (fun q => xs x ≤ q) := by
  refine f_met (by decide) (Nat.le_of_ble_eq_true rfl) ?_
  intro p e s m below meth c0 cx hr hlocks hnm hP hS ls hl
  have cx : fX rn_C cb_C_finish 1 p c0 s m [.ref (xa x 7 c)].toArray x := cx
  have hx := cx.1.1
  have hb := cx.1.2.1
  have hl : lv_has ls 1 [(0, .ref (xa x 7 c))] := hl
  refine lv_aload_n (pc := 0) hx hb dd_C_finish_0 rfl (lv_at hl 0 rfl) ?_
  refine lv_iconst (pc := 1) (v := 0) hx hb dd_C_finish_1 (by decide) ?_
  refine p_C_C_phase (pc := 2) cx hP hS (by assumption) dd_C_finish_2 (fun H locs hP hS => ?_)
  refine lv_aload_n (pc := 5) hx hb dd_C_finish_5 rfl (lv_at hl 0 rfl) ?_
  refine lv_dup (pc := 6) hx hb dd_C_finish_6 rfl ?_
  refine g_C_C_finished (pc := 7) cx hP (by assumption) dd_C_finish_7 ?_
  refine lv_iconst (pc := 10) (v := 1) hx hb dd_C_finish_10 (by decide) ?_
  refine lv_iadd (pc := 11) hx hb dd_C_finish_11 ?_
  refine p_C_C_finished (pc := 12) cx hP hS (by assumption) dd_C_finish_12 (fun H locs hP hS => ?_)
  exact f_vret (pc := 15) cx hr hlocks hP hS (by simp [e_finish, mI_sI]) dd_C_finish_15
set_option maxHeartbeats 4000000 in
set_option maxRecDepth 100000 in
theorem ct_S_raiseSeal (l : Launch) (x : fy) (S : fm) (s0 : Nat) (t : Int32) (hv : fv x 10 s0) : Met l mn_S_raiseSeal (gw_ws mn_S_raiseSeal cb_S_raiseSeal 2 none) ({ frames := 1, cells := 0, slots := 0, locals := 21 } : Room) (fPc x (S) [.ref (xa x 10 s0), .int t]) (fQv x (e_raise S s0 t)) 0 0 (fun q => xs x ≤ q) := by
  refine f_met (by decide) (Nat.le_of_ble_eq_true rfl) ?_
  intro p e s m below meth c0 cx hr hlocks hnm hP hS ls hl
  have cx : fX rn_S cb_S_raiseSeal 2 p c0 s m [.ref (xa x 10 s0), .int t].toArray x := cx
  have hx := cx.1.1
  have hb := cx.1.2.1
  have hl : lv_has ls 2 [(0, .ref (xa x 10 s0)), (1, .int t)] := hl
  refine lv_aload_n (pc := 0) hx hb dd_S_raiseSeal_0 rfl (lv_at hl 0 rfl) ?_
  refine lv_aload_n (pc := 1) hx hb dd_S_raiseSeal_1 rfl (lv_at hl 0 rfl) ?_
  refine g_S_S_seal (pc := 2) cx hP (by assumption) dd_S_raiseSeal_2 ?_
  refine lv_iload_n (pc := 5) hx hb dd_S_raiseSeal_5 rfl (lv_at hl 1 rfl) ?_
  refine k_S_J_max (pc := 6) cx hl ⟨(Nat.le_of_ble_eq_true rfl), (Nat.le_of_ble_eq_true rfl), (Nat.le_of_ble_eq_true rfl), (Nat.le_of_ble_eq_true rfl)⟩ dd_S_raiseSeal_6 ?_
  refine p_S_S_seal (pc := 9) cx hP hS (by assumption) dd_S_raiseSeal_9 (fun H locs hP hS => ?_)
  exact f_vret (pc := 12) cx hr hlocks hP hS rfl dd_S_raiseSeal_12
set_option maxHeartbeats 4000000 in
set_option maxRecDepth 100000 in
theorem ct_S_placeOf (l : Launch) (x : fy) (S : fm) (s0 : Nat) (t : Int32) (hv : fv x 10 s0) (hv11 : fv x 11 s0) (hn : mU S 10 s0 3 ≤ xD x + 1) (hD : xD x ≤ 3) : Met l mn_S_placeOf (gw_ws mn_S_placeOf cb_S_placeOf 3 (some .int)) ({ frames := 0, cells := 0, slots := 0, locals := 0 } : Room) (fPc x (S) [.ref (xa x 10 s0), .int t]) (fQi x (S) (oI (q_place S s0 t))) 0 0 (fun q => xs x ≤ q) := by
  refine f_met (by decide) (Nat.le_of_ble_eq_true rfl) ?_
  intro p e s m below meth c0 cx hr hlocks hnm hP hS ls hl
  have cx : fX rn_S cb_S_placeOf 3 p c0 s m [.ref (xa x 10 s0), .int t].toArray x := cx
  have hx := cx.1.1
  have hb := cx.1.2.1
  have hl : lv_has ls 3 [(0, .ref (xa x 10 s0)), (1, .int t)] := hl
  have loop : ∀ (n i : Nat), i ≤ mU S 10 s0 3 → mU S 10 s0 3 - i < n → (∀ k, k < i → ¬ mI S 11 s0 k = t) → ∀ ls : Array Slot, lv_has ls 3 [(2, .int (nI i)), (0, .ref (xa x 10 s0)), (1, .int t)] → W p l e ({ frames := 0, cells := 0, slots := 0, locals := 0 } : Room) s m [.ref (xa x 10 s0), .int t].toArray below meth c0 s.heap [] 0 0 (MQ below (fQi x (S) (oI (q_place S s0 t))) [.ref (xa x 10 s0), .int t].toArray s 0 0 (fun q => xs x ≤ q)) (F0 m 2 ls []) := by
    intro n
    induction n with
    | zero => intro i _ h; omega
    | succ n ih =>
      intro i hi hn1 hk ls hl
      refine lv_iload_n (pc := 2) hx hb dd_S_placeOf_2 rfl (lv_at hl 0 rfl) ?_
      refine lv_aload_n (pc := 3) hx hb dd_S_placeOf_3 rfl (lv_at hl 1 rfl) ?_
      refine g_S_S_count (pc := 4) cx hP (by assumption) dd_S_placeOf_4 ?_
      refine lv_icmp_ge (pc := 7) (tgt := 28) hx hb dd_S_placeOf_7 (by decide) (fun h7 => ?_) (fun h7 => ?_)
      · -- 7: t to 28
        have h := (nI_leI (by omega) (by omega)).mp h7
        have e0 : (-1 : Int32) = oI (q_place S s0 t) := by unfold q_place; rw [fr_none (fun k hk2 => decide_eq_false (hk k (by omega)))]; rfl
        refine lv_iconst (pc := 28) (v := (-1)) hx hb dd_S_placeOf_28 (by decide) ?_
        exact f_iret (pc := 29) cx hr hlocks hP hS e0 rfl dd_S_placeOf_29
      · -- 7: f to 10
        have h : i < mU S 10 s0 3 := Nat.lt_of_not_le (fun q => h7 ((nI_leI (by omega) (by omega)).mpr q))
        refine lv_aload_n (pc := 10) hx hb dd_S_placeOf_10 rfl (lv_at hl 1 rfl) ?_
        refine g_S_S_tags (pc := 11) cx hP (by assumption) dd_S_placeOf_11 ?_
        refine lv_iload_n (pc := 14) hx hb dd_S_placeOf_14 rfl (lv_at hl 0 rfl) ?_
        refine f_iald (pc := 15) cx hP (fv.at (by assumption) _) rfl rfl (by omega) dd_S_placeOf_15 ?_
        refine lv_iload_n (pc := 16) hx hb dd_S_placeOf_16 rfl (lv_at hl 2 rfl) ?_
        refine lv_icmp_ne (pc := 17) (tgt := 22) hx hb dd_S_placeOf_17 (by decide) (fun h17 => ?_) (fun h17 => ?_)
        · -- 17: t to 22
          refine lv_iinc (pc := 22) (k := 0) (lv' := [(2, _), (0, _), (1, _)]) hx hb dd_S_placeOf_22 hl rfl (f_inc1 i) (Nat.le_of_ble_eq_true rfl) rfl (fun ls hl => ?_)
          refine lv_goto (pc := 25) (tgt := 2) hx hb dd_S_placeOf_25 (by decide) ?_
          exact ih (i + 1) (by omega) (by omega) (lt_s hk h17) ls (lv_sub hl [0, 1, 2] rfl)
        · -- 17: f to 20
          have e0 : nI i = oI (q_place S s0 t) := by unfold q_place; rw [fr_some h (decide_eq_true h17) (fun k hk2 => decide_eq_false (hk k hk2))]; rfl
          refine lv_iload_n (pc := 20) hx hb dd_S_placeOf_20 rfl (lv_at hl 0 rfl) ?_
          exact f_iret (pc := 21) cx hr hlocks hP hS e0 rfl dd_S_placeOf_21
  refine lv_iconst (pc := 0) (v := nI 0) hx hb dd_S_placeOf_0 (by decide) ?_
  refine lv_istore_n (pc := 1) (lv' := [(2, _), (0, _), (1, _)]) hx hb dd_S_placeOf_1 rfl hl (Nat.le_of_ble_eq_true rfl) rfl (fun ls hl => ?_)
  exact loop (mU S 10 s0 3 + 1) 0 (by omega) (by omega) lt_0 ls (lv_sub hl [0, 1, 2] rfl)
set_option maxHeartbeats 4000000 in
set_option maxRecDepth 100000 in
theorem ct_S_enclose (l : Launch) (x : fy) (S : fm) (s0 a : Nat) (hv : fv x 10 s0) (hv11 : fv x 11 s0) (hv12 : fv x 12 s0) (ha : fvL x S a) (hn : mU S 10 s0 3 ≤ xD x + 1) (hD : xD x ≤ 3) : Met l mn_S_enclose (gw_ws mn_S_enclose cb_S_enclose 3 none) ({ frames := 1, cells := 0, slots := 0, locals := 22 } : Room) (fPc x (S) [.ref (xa x 10 s0), .ref a]) (fQv x (e_encl S s0 a)) 0 0 (fun q => xs x ≤ q) := by
  refine f_met (by decide) (Nat.le_of_ble_eq_true rfl) ?_
  intro p e s m below meth c0 cx hr hlocks hnm hP hS ls hl
  have cx : fX rn_S cb_S_enclose 3 p c0 s m [.ref (xa x 10 s0), .ref a].toArray x := cx
  have hx := cx.1.1
  have hb := cx.1.2.1
  have hl : lv_has ls 3 [(0, .ref (xa x 10 s0)), (1, .ref a)] := hl
  refine lv_aload_n (pc := 0) hx hb dd_S_enclose_0 rfl (lv_at hl 0 rfl) ?_
  refine lv_aload_n (pc := 1) hx hb dd_S_enclose_1 rfl (lv_at hl 1 rfl) ?_
  refine g_S_L_tag (pc := 2) cx hP (by assumption) dd_S_enclose_2 ?_
  refine k_S_S_placeOf (pc := 5) cx hl hP hS (by assumption) (ct_S_placeOf l x _ s0 _ hv hv11 hn hD) ⟨⟨rfl, rfl⟩, ⟨(Nat.le_of_ble_eq_true rfl), (Nat.le_of_ble_eq_true rfl)⟩, (Nat.le_of_ble_eq_true rfl), (Nat.le_of_ble_eq_true rfl)⟩ (Nat.le_of_ble_eq_true rfl) dd_S_enclose_5 (fun H locs hP hS => ?_)
  refine lv_istore_n (pc := 8) (lv' := [(2, _), (0, _), (1, _)]) hx hb dd_S_enclose_8 rfl hl (Nat.le_of_ble_eq_true rfl) rfl (fun ls hl => ?_)
  cases hq : q_place S s0 (mI S 15 a 2) with
  | none =>
    have e0 : S = e_encl S s0 a := by unfold e_encl; rw [hq]
    rw [hq] at hl
    refine lv_iload_n (pc := 9) hx hb dd_S_enclose_9 rfl (lv_at hl 0 rfl) ?_
    refine lv_if_lt (pc := 10) (tgt := 28) hx hb dd_S_enclose_10 (by decide) (fun h10 => ?_) (fun h10 => ?_)
    · -- 10: t to 28
      exact f_vret (pc := 28) cx hr hlocks hP hS e0 dd_S_enclose_28
    · -- 10: f to 13
      exact absurd (by decide) h10
  | some i =>
    have hi : i < mU S 10 s0 3 := List.mem_range.mp (List.mem_of_find?_eq_some hq)
    have e0 : sJ (sB S 15 a 5 true) 15 a 3 (mJ S 12 s0 i) = e_encl S s0 a := by unfold e_encl; rw [hq]
    rw [hq] at hl
    refine lv_iload_n (pc := 9) hx hb dd_S_enclose_9 rfl (lv_at hl 0 rfl) ?_
    refine lv_if_lt (pc := 10) (tgt := 28) hx hb dd_S_enclose_10 (by decide) (fun h10 => ?_) (fun h10 => ?_)
    · -- 10: t to 28
      exact absurd h10 (nI_pos (by omega))
    · -- 10: f to 13
      refine lv_aload_n (pc := 13) hx hb dd_S_enclose_13 rfl (lv_at hl 2 rfl) ?_
      refine lv_iconst (pc := 14) (v := b2 true) hx hb dd_S_enclose_14 (by decide) ?_
      refine p_S_L_bearsFragment (pc := 15) cx hP hS (by assumption) rfl dd_S_enclose_15 (fun H locs hP hS => ?_)
      refine lv_aload_n (pc := 18) hx hb dd_S_enclose_18 rfl (lv_at hl 2 rfl) ?_
      refine lv_aload_n (pc := 19) hx hb dd_S_enclose_19 rfl (lv_at hl 1 rfl) ?_
      refine g_S_S_fragments (pc := 20) cx hP (by assumption) dd_S_enclose_20 ?_
      refine lv_iload_n (pc := 23) hx hb dd_S_enclose_23 rfl (lv_at hl 0 rfl) ?_
      refine f_lald (pc := 24) cx hP (fv.at (by assumption) _) rfl rfl (by omega) dd_S_enclose_24 ?_
      refine p_S_L_fragment (pc := 25) cx hP hS (by assumption) dd_S_enclose_25 (fun H locs hP hS => ?_)
      exact f_vret (pc := 28) cx hr hlocks hP hS e0 dd_S_enclose_28
set_option maxHeartbeats 4000000 in
set_option maxRecDepth 100000 in
theorem ct_S_store (l : Launch) (x : fy) (S : fm) (s0 : Nat) (t : Int32) (w : Int64) (hv : fv x 10 s0) (hv11 : fv x 11 s0) (hv12 : fv x 12 s0) (hn : mU S 10 s0 3 ≤ xD x + 1) (hD : xD x ≤ 3) : Met l mn_S_store (gw_ws mn_S_store cb_S_store 5 none) ({ frames := 1, cells := 0, slots := 0, locals := 21 } : Room) (fPc x (S) [.ref (xa x 10 s0), .int t, .long w]) (fQv x (e_store x S s0 t w)) 0 0 (fun q => xs x ≤ q) := by
  refine f_met (by decide) (Nat.le_of_ble_eq_true rfl) ?_
  intro p e s m below meth c0 cx hr hlocks hnm hP hS ls hl
  have cx : fX rn_S cb_S_store 5 p c0 s m [.ref (xa x 10 s0), .int t, .long w].toArray x := cx
  have hx := cx.1.1
  have hb := cx.1.2.1
  have hl : lv_has ls 5 [(0, .ref (xa x 10 s0)), (1, .int t), (2, .long w)] := hl
  have fin : ∀ (q : Nat) (H : Heap) (locs : List Loc), q ≤ mU S 10 s0 3 → insp (mI S 11 s0) t (mU S 10 s0 3) = q → fP x (rJ (rI S 11 s0 (shA (mI S 11 s0) (q) (mU S 10 s0 3))) 12 s0 (shA (mJ S 12 s0) (q) (mU S 10 s0 3))) H → fS x s.heap H locs → ∀ ls : Array Slot, lv_has ls 5 [(4, .int (nI q)), (0, .ref (xa x 10 s0)), (1, .int t), (2, .long w)] → W p l e ({ frames := 1, cells := 0, slots := 0, locals := 21 } : Room) s m [.ref (xa x 10 s0), .int t, .long w].toArray below meth c0 H locs 0 0 (MQ below (fQv x (e_store x S s0 t w)) [.ref (xa x 10 s0), .int t, .long w].toArray s 0 0 (fun q => xs x ≤ q)) (F0 m 62 ls []) := by
    intro q H locs hq hi hP hS ls hl
    refine lv_aload_n (pc := 62) hx hb dd_S_store_62 rfl (lv_at hl 1 rfl) ?_
    refine g_S_S_tags (pc := 63) cx hP (by assumption) dd_S_store_63 ?_
    refine lv_iload (pc := 66) hx hb dd_S_store_66 (lv_at hl 0 rfl) ?_
    refine lv_iload_n (pc := 68) hx hb dd_S_store_68 rfl (lv_at hl 2 rfl) ?_
    refine f_iast (pc := 69) cx hP hS (fv.at (by assumption) _) (fun _ => rfl) rfl (by omega) dd_S_store_69 (fun H locs hP hS => ?_)
    refine lv_aload_n (pc := 70) hx hb dd_S_store_70 rfl (lv_at hl 1 rfl) ?_
    refine g_S_S_fragments (pc := 71) cx hP (by assumption) dd_S_store_71 ?_
    refine lv_iload (pc := 74) hx hb dd_S_store_74 (lv_at hl 0 rfl) ?_
    refine lv_lload_n (pc := 76) hx hb dd_S_store_76 rfl (lv_at hl 3 rfl) ?_
    refine f_last (pc := 77) cx hP hS (fv.at (by assumption) _) (fun _ => rfl) rfl (by omega) dd_S_store_77 (fun H locs hP hS => ?_)
    have hP := f_eqS (T' := rJ (rI S 11 s0 (insA (mI S 11 s0) q (mU S 10 s0 3) t)) 12 s0 (insA (mJ S 12 s0) q (mU S 10 s0 3) w)) hP (by rw [sI_rJ, sI_rI, sJ_rJ]; rfl)
    refine lv_aload_n (pc := 78) hx hb dd_S_store_78 rfl (lv_at hl 1 rfl) ?_
    refine lv_aload_n (pc := 79) hx hb dd_S_store_79 rfl (lv_at hl 1 rfl) ?_
    refine g_S_S_count (pc := 80) cx hP (by assumption) dd_S_store_80 ?_
    refine lv_iconst (pc := 83) (v := 1) hx hb dd_S_store_83 (by decide) ?_
    refine lv_iadd (pc := 84) hx hb dd_S_store_84 ?_
    refine f_topi (nI_1 _) ?_
    refine lv_aload_n (pc := 85) hx hb dd_S_store_85 rfl (lv_at hl 1 rfl) ?_
    refine g_S_S_mostTags (pc := 86) cx hP (by assumption) dd_S_store_86 ?_
    refine k_S_J_min (pc := 89) cx hl ⟨(Nat.le_of_ble_eq_true rfl), (Nat.le_of_ble_eq_true rfl), (Nat.le_of_ble_eq_true rfl), (Nat.le_of_ble_eq_true rfl)⟩ dd_S_store_89 ?_
    refine f_topi (f_min (show mU S 10 s0 3 + 1 < 2 ^ 31 by omega) (by omega)) ?_
    refine p_S_S_count (pc := 92) cx hP hS (by assumption) rfl dd_S_store_92 (fun H locs hP hS => ?_)
    exact f_vret (pc := 95) cx hr hlocks hP hS (by unfold e_store; rw [hi]; rfl) dd_S_store_95
  have loop : ∀ (n q : Nat) (H : Heap) (locs : List Loc), q ≤ mU S 10 s0 3 → q < n → insp (mI S 11 s0) t (mU S 10 s0 3) = insp (mI S 11 s0) t q → fP x (rJ (rI S 11 s0 (shA (mI S 11 s0) (q) (mU S 10 s0 3))) 12 s0 (shA (mJ S 12 s0) (q) (mU S 10 s0 3))) H → fS x s.heap H locs → ∀ ls : Array Slot, lv_has ls 5 [(4, .int (nI q)), (0, .ref (xa x 10 s0)), (1, .int t), (2, .long w)] → W p l e ({ frames := 1, cells := 0, slots := 0, locals := 21 } : Room) s m [.ref (xa x 10 s0), .int t, .long w].toArray below meth c0 H locs 0 0 (MQ below (fQv x (e_store x S s0 t w)) [.ref (xa x 10 s0), .int t, .long w].toArray s 0 0 (fun q => xs x ≤ q)) (F0 m 6 ls []) := by
    intro n
    induction n with
    | zero => intro q H locs _ h; omega
    | succ n ih =>
      intro q H locs hq hn1 hi hP hS ls hl
      cases q with
      | zero =>
        refine lv_iload (pc := 6) hx hb dd_S_store_6 (lv_at hl 0 rfl) ?_
        refine lv_if_le (pc := 8) (tgt := 62) hx hb dd_S_store_8 (by decide) (fun h8 => ?_) (fun h8 => ?_)
        · -- 8: t to 62
          exact fin 0 _ _ (by omega) hi hP hS ls (lv_sub hl [0, 1, 2, 3] rfl)
        · -- 8: f to 11
          exact absurd (by decide) h8
      | succ q =>
        have hr1 : mI (rJ (rI S 11 s0 (shA (mI S 11 s0) (q + 1) (mU S 10 s0 3))) 12 s0 (shA (mJ S 12 s0) (q + 1) (mU S 10 s0 3))) 11 s0 = shA (mI S 11 s0) (q + 1) (mU S 10 s0 3) := u2_s
        have hr2 : mJ (rJ (rI S 11 s0 (shA (mI S 11 s0) (q + 1) (mU S 10 s0 3))) 12 s0 (shA (mJ S 12 s0) (q + 1) (mU S 10 s0 3))) 12 s0 = shA (mJ S 12 s0) (q + 1) (mU S 10 s0 3) := u2_s
        refine lv_iload (pc := 6) hx hb dd_S_store_6 (lv_at hl 0 rfl) ?_
        refine lv_if_le (pc := 8) (tgt := 62) hx hb dd_S_store_8 (by decide) (fun h8 => ?_) (fun h8 => ?_)
        · -- 8: t to 62
          exact absurd h8 (nI_nle (by omega) (by omega))
        · -- 8: f to 11
          refine lv_aload_n (pc := 11) hx hb dd_S_store_11 rfl (lv_at hl 1 rfl) ?_
          refine g_S_S_tags (pc := 12) cx hP (by assumption) dd_S_store_12 ?_
          refine lv_iload (pc := 15) hx hb dd_S_store_15 (lv_at hl 0 rfl) ?_
          refine lv_iconst (pc := 17) (v := 1) hx hb dd_S_store_17 (by decide) ?_
          refine lv_isub (pc := 18) hx hb dd_S_store_18 ?_
          refine f_topi (nI_pred q) ?_
          refine f_iald (pc := 19) cx hP (fv.at (by assumption) _) rfl rfl (by omega) dd_S_store_19 ?_
          refine lv_iload_n (pc := 20) hx hb dd_S_store_20 rfl (lv_at hl 2 rfl) ?_
          refine lv_icmp_ge (pc := 21) (tgt := 62) hx hb dd_S_store_21 (by decide) (fun h21 => ?_) (fun h21 => ?_)
          · -- 21: t to 62
            have hlt : ¬ mI S 11 s0 q < t := by rw [hr1, shA_at] at h21; exact Int32.not_lt.mpr h21
            exact fin (q + 1) _ _ (by omega) (by rw [hi]; unfold insp; rw [if_neg hlt]) hP hS ls (lv_sub hl [0, 1, 2, 3] rfl)
          · -- 21: f to 24
            have hlt : mI S 11 s0 q < t := by rw [hr1, shA_at] at h21; exact Int32.not_le.mp h21
            refine lv_aload_n (pc := 24) hx hb dd_S_store_24 rfl (lv_at hl 1 rfl) ?_
            refine g_S_S_tags (pc := 25) cx hP (by assumption) dd_S_store_25 ?_
            refine lv_iload (pc := 28) hx hb dd_S_store_28 (lv_at hl 0 rfl) ?_
            refine lv_aload_n (pc := 30) hx hb dd_S_store_30 rfl (lv_at hl 1 rfl) ?_
            refine g_S_S_tags (pc := 31) cx hP (by assumption) dd_S_store_31 ?_
            refine lv_iload (pc := 34) hx hb dd_S_store_34 (lv_at hl 0 rfl) ?_
            refine lv_iconst (pc := 36) (v := 1) hx hb dd_S_store_36 (by decide) ?_
            refine lv_isub (pc := 37) hx hb dd_S_store_37 ?_
            refine f_topi (nI_pred q) ?_
            refine f_iald (pc := 38) cx hP (fv.at (by assumption) _) rfl rfl (by omega) dd_S_store_38 ?_
            refine f_iast (pc := 39) cx hP hS (fv.at (by assumption) _) (fun _ => rfl) rfl (by omega) dd_S_store_39 (fun H locs hP hS => ?_)
            refine lv_aload_n (pc := 40) hx hb dd_S_store_40 rfl (lv_at hl 1 rfl) ?_
            refine g_S_S_fragments (pc := 41) cx hP (by assumption) dd_S_store_41 ?_
            refine lv_iload (pc := 44) hx hb dd_S_store_44 (lv_at hl 0 rfl) ?_
            refine lv_aload_n (pc := 46) hx hb dd_S_store_46 rfl (lv_at hl 1 rfl) ?_
            refine g_S_S_fragments (pc := 47) cx hP (by assumption) dd_S_store_47 ?_
            refine lv_iload (pc := 50) hx hb dd_S_store_50 (lv_at hl 0 rfl) ?_
            refine lv_iconst (pc := 52) (v := 1) hx hb dd_S_store_52 (by decide) ?_
            refine lv_isub (pc := 53) hx hb dd_S_store_53 ?_
            refine f_topi (nI_pred q) ?_
            refine f_lald (pc := 54) cx hP (fv.at (by assumption) _) rfl rfl (by omega) dd_S_store_54 ?_
            refine f_last (pc := 55) cx hP hS (fv.at (by assumption) _) (fun _ => rfl) rfl (by omega) dd_S_store_55 (fun H locs hP hS => ?_)
            have hP := f_eqS (T' := rJ (rI S 11 s0 (shA (mI S 11 s0) (q) (mU S 10 s0 3))) 12 s0 (shA (mJ S 12 s0) (q) (mU S 10 s0 3))) hP (by rw [mJ_sI, hr1, hr2, shA_at, shA_at, sI_rJ, sI_rI, sJ_rJ, shA_step _ _ _ (by omega), shA_step _ _ _ (by omega)])
            refine lv_iinc (pc := 56) (k := 0) (lv' := [(4, _), (0, _), (1, _), (2, _)]) hx hb dd_S_store_56 hl rfl (f_dec1 q) (Nat.le_of_ble_eq_true rfl) rfl (fun ls hl => ?_)
            refine lv_goto (pc := 59) (tgt := 6) hx hb dd_S_store_59 (by decide) ?_
            exact ih q _ _ (by omega) (by omega) (by rw [hi]; show (if mI S 11 s0 q < t then _ else _) = _; rw [if_pos hlt]) hP hS ls (lv_sub hl [0, 1, 2, 3] rfl)
  refine lv_aload_n (pc := 0) hx hb dd_S_store_0 rfl (lv_at hl 0 rfl) ?_
  refine g_S_S_count (pc := 1) cx hP (by assumption) dd_S_store_1 ?_
  refine lv_istore (pc := 4) (lv' := [(4, _), (0, _), (1, _), (2, _)]) hx hb dd_S_store_4 hl (Nat.le_of_ble_eq_true rfl) rfl (fun ls hl => ?_)
  have hP := f_eqS (T' := rJ (rI S 11 s0 (shA (mI S 11 s0) (mU S 10 s0 3) (mU S 10 s0 3))) 12 s0 (shA (mJ S 12 s0) (mU S 10 s0 3) (mU S 10 s0 3))) hP (by rw [shA_0, shA_0, rI_self, rJ_self])
  exact loop (mU S 10 s0 3 + 1) (mU S 10 s0 3) _ _ (Nat.le_refl _) (by omega) rfl hP hS ls (lv_sub hl [0, 1, 2, 3] rfl)
set_option maxHeartbeats 4000000 in
set_option maxRecDepth 100000 in
theorem ct_S_answer (l : Launch) (x : fy) (S : fm) (s0 a : Nat) (hv : fv x 10 s0) (hv11 : fv x 11 s0) (hv12 : fv x 12 s0) (ha : fvL x S a) (hn : mU S 10 s0 3 ≤ xD x + 1) (hD : xD x ≤ 3) : Met l mn_S_answer (gw_ws mn_S_answer cb_S_answer 2 none) ({ frames := 2, cells := 0, slots := 0, locals := 45 } : Room) (fPc x (S) [.ref (xa x 10 s0), .ref a]) (fQv x (e_answer x S s0 a)) 0 0 (fun q => xs x ≤ q) := by
  refine f_met (by decide) (Nat.le_of_ble_eq_true rfl) ?_
  intro p e s m below meth c0 cx hr hlocks hnm hP hS ls hl
  have cx : fX rn_S cb_S_answer 2 p c0 s m [.ref (xa x 10 s0), .ref a].toArray x := cx
  have hx := cx.1.1
  have hb := cx.1.2.1
  have hl : lv_has ls 2 [(0, .ref (xa x 10 s0)), (1, .ref a)] := hl
  refine lv_aload_n (pc := 0) hx hb dd_S_answer_0 rfl (lv_at hl 1 rfl) ?_
  refine g_S_L_phase (pc := 1) cx hP (by assumption) dd_S_answer_1 ?_
  by_cases hs2 : mI S 15 a 0 = 2
  · refine f_topi hs2 ?_
    refine lv_tableIn (pc := 4) (off := 32) (tgt := 36) hx hb dd_S_answer_4 (by decide) (by decide) (by decide) (by decide) ?_
    refine lv_aload_n (pc := 36) hx hb dd_S_answer_36 rfl (lv_at hl 0 rfl) ?_
    refine lv_aload_n (pc := 37) hx hb dd_S_answer_37 rfl (lv_at hl 1 rfl) ?_
    refine g_S_L_tag (pc := 38) cx hP (by assumption) dd_S_answer_38 ?_
    refine lv_aload_n (pc := 41) hx hb dd_S_answer_41 rfl (lv_at hl 1 rfl) ?_
    refine g_S_L_fragment (pc := 42) cx hP (by assumption) dd_S_answer_42 ?_
    refine k_S_S_store (pc := 45) cx hl hP hS (by assumption) (ct_S_store l x _ s0 _ _ hv hv11 hv12 hn hD) ⟨⟨rfl, rfl⟩, ⟨(Nat.le_of_ble_eq_true rfl), (Nat.le_of_ble_eq_true rfl)⟩, (Nat.le_of_ble_eq_true rfl), (Nat.le_of_ble_eq_true rfl)⟩ (Nat.le_of_ble_eq_true rfl) dd_S_answer_45 (fun H locs hP hS => ?_)
    refine lv_goto (pc := 48) (tgt := 86) hx hb dd_S_answer_48 (by decide) ?_
    exact f_vret (pc := 86) cx hr hlocks hP hS (by simp [e_answer, *]) dd_S_answer_86
  by_cases hs3 : mI S 15 a 0 = 3
  · refine f_topi hs3 ?_
    refine lv_tableIn (pc := 4) (off := 47) (tgt := 51) hx hb dd_S_answer_4 (by decide) (by decide) (by decide) (by decide) ?_
    refine lv_aload_n (pc := 51) hx hb dd_S_answer_51 rfl (lv_at hl 0 rfl) ?_
    refine lv_aload_n (pc := 52) hx hb dd_S_answer_52 rfl (lv_at hl 1 rfl) ?_
    refine g_S_L_tag (pc := 53) cx hP (by assumption) dd_S_answer_53 ?_
    refine k_S_S_raiseSeal (pc := 56) cx hl hP hS (by assumption) (ct_S_raiseSeal l x _ s0 _ hv) ⟨⟨rfl, rfl⟩, ⟨(Nat.le_of_ble_eq_true rfl), (Nat.le_of_ble_eq_true rfl)⟩, (Nat.le_of_ble_eq_true rfl), (Nat.le_of_ble_eq_true rfl)⟩ (Nat.le_of_ble_eq_true rfl) dd_S_answer_56 (fun H locs hP hS => ?_)
    refine lv_goto (pc := 59) (tgt := 86) hx hb dd_S_answer_59 (by decide) ?_
    exact f_vret (pc := 86) cx hr hlocks hP hS (by simp [e_answer, *]) dd_S_answer_86
  by_cases hs4 : mI S 15 a 0 = 4
  · refine f_topi hs4 ?_
    refine lv_tableIn (pc := 4) (off := 74) (tgt := 78) hx hb dd_S_answer_4 (by decide) (by decide) (by decide) (by decide) ?_
    refine lv_aload_n (pc := 78) hx hb dd_S_answer_78 rfl (lv_at hl 1 rfl) ?_
    refine lv_aload_n (pc := 79) hx hb dd_S_answer_79 rfl (lv_at hl 0 rfl) ?_
    refine g_S_S_seal (pc := 80) cx hP (by assumption) dd_S_answer_80 ?_
    refine p_S_L_seal (pc := 83) cx hP hS (by assumption) dd_S_answer_83 (fun H locs hP hS => ?_)
    exact f_vret (pc := 86) cx hr hlocks hP hS (by simp [e_answer, *]) dd_S_answer_86
  by_cases hs5 : mI S 15 a 0 = 5
  · refine f_topi hs5 ?_
    refine lv_tableIn (pc := 4) (off := 58) (tgt := 62) hx hb dd_S_answer_4 (by decide) (by decide) (by decide) (by decide) ?_
    refine lv_aload_n (pc := 62) hx hb dd_S_answer_62 rfl (lv_at hl 0 rfl) ?_
    refine lv_aload_n (pc := 63) hx hb dd_S_answer_63 rfl (lv_at hl 1 rfl) ?_
    refine g_S_L_tag (pc := 64) cx hP (by assumption) dd_S_answer_64 ?_
    refine k_S_S_raiseSeal (pc := 67) cx hl hP hS (by assumption) (ct_S_raiseSeal l x _ s0 _ hv) ⟨⟨rfl, rfl⟩, ⟨(Nat.le_of_ble_eq_true rfl), (Nat.le_of_ble_eq_true rfl)⟩, (Nat.le_of_ble_eq_true rfl), (Nat.le_of_ble_eq_true rfl)⟩ (Nat.le_of_ble_eq_true rfl) dd_S_answer_67 (fun H locs hP hS => ?_)
    refine lv_aload_n (pc := 70) hx hb dd_S_answer_70 rfl (lv_at hl 0 rfl) ?_
    refine lv_aload_n (pc := 71) hx hb dd_S_answer_71 rfl (lv_at hl 1 rfl) ?_
    refine k_S_S_enclose (pc := 72) cx hl hP hS (by assumption) (ct_S_enclose l x _ s0 a hv hv11 hv12 ha hn hD) ⟨⟨rfl, rfl⟩, ⟨(Nat.le_of_ble_eq_true rfl), (Nat.le_of_ble_eq_true rfl)⟩, (Nat.le_of_ble_eq_true rfl), (Nat.le_of_ble_eq_true rfl)⟩ (Nat.le_of_ble_eq_true rfl) dd_S_answer_72 (fun H locs hP hS => ?_)
    refine lv_goto (pc := 75) (tgt := 86) hx hb dd_S_answer_75 (by decide) ?_
    exact f_vret (pc := 86) cx hr hlocks hP hS (by simp [e_answer, *]) dd_S_answer_86
  have hn2 := lv_neT (a := 2) hs2 (by decide)
  have hn3 := lv_neT (a := 3) hs3 (by decide)
  have hn4 := lv_neT (a := 4) hs4 (by decide)
  have hn5 := lv_neT (a := 5) hs5 (by decide)
  refine lv_tableOut (pc := 4) (tgt := 78) hx hb dd_S_answer_4 (by omega) (by decide) ?_
  refine lv_aload_n (pc := 78) hx hb dd_S_answer_78 rfl (lv_at hl 1 rfl) ?_
  refine lv_aload_n (pc := 79) hx hb dd_S_answer_79 rfl (lv_at hl 0 rfl) ?_
  refine g_S_S_seal (pc := 80) cx hP (by assumption) dd_S_answer_80 ?_
  refine p_S_L_seal (pc := 83) cx hP hS (by assumption) dd_S_answer_83 (fun H locs hP hS => ?_)
  exact f_vret (pc := 86) cx hr hlocks hP hS (by simp [e_answer, *]) dd_S_answer_86
set_option maxHeartbeats 4000000 in
set_option maxRecDepth 100000 in
theorem ct_L_init (l : Launch) (x : fy) (S : fm) (a : Nat) (ph bg tg : Int32) (ha : fvL x S a) : Met l mn_L_init (gw_ws mn_L_init cb_L_init 4 none) ({ frames := 1, cells := 0, slots := 0, locals := 21 } : Room) (fPc x (S) [.ref a, .int ph, .int bg, .int tg]) (fQv x (e_initL S a ph bg tg)) 0 0 (fun q => xs x ≤ q) := by
  refine f_met (by decide) (Nat.le_of_ble_eq_true rfl) ?_
  intro p e s m below meth c0 cx hr hlocks hnm hP hS ls hl
  have cx : fX rn_L cb_L_init 4 p c0 s m [.ref a, .int ph, .int bg, .int tg].toArray x := cx
  have hx := cx.1.1
  have hb := cx.1.2.1
  have hl : lv_has ls 4 [(0, .ref a), (1, .int ph), (2, .int bg), (3, .int tg)] := hl
  refine lv_aload_n (pc := 0) hx hb dd_L_init_0 rfl (lv_at hl 0 rfl) ?_
  refine f_oi (pc := 1) ml_L_O_init cx hl (Nat.le_of_ble_eq_true rfl) (Nat.le_of_ble_eq_true rfl) dd_L_init_1 ?_
  refine lv_aload_n (pc := 4) hx hb dd_L_init_4 rfl (lv_at hl 0 rfl) ?_
  refine lv_iload_n (pc := 5) hx hb dd_L_init_5 rfl (lv_at hl 1 rfl) ?_
  refine p_L_L_phase (pc := 6) cx hnm hP hS (by assumption) dd_L_init_6 (fun H locs hP hS => ?_)
  refine lv_aload_n (pc := 9) hx hb dd_L_init_9 rfl (lv_at hl 0 rfl) ?_
  refine lv_iload_n (pc := 10) hx hb dd_L_init_10 rfl (lv_at hl 2 rfl) ?_
  refine p_L_L_beginning (pc := 11) cx hnm hP hS (by assumption) dd_L_init_11 (fun H locs hP hS => ?_)
  refine lv_aload_n (pc := 14) hx hb dd_L_init_14 rfl (lv_at hl 0 rfl) ?_
  refine lv_iload_n (pc := 15) hx hb dd_L_init_15 rfl (lv_at hl 3 rfl) ?_
  refine p_L_L_tag (pc := 16) cx hnm hP hS (by assumption) dd_L_init_16 (fun H locs hP hS => ?_)
  exact f_vret (pc := 19) cx hr hlocks hP hS rfl dd_L_init_19
end
section
-- contracts of encode, by wip/whole/gen/c_enc.py
theorem f_m1 (z : Int32) : z + Int32.ofInt (-1) = z - 1 := by
  show z + (-1) = z - 1
  rw [Int32.sub_eq_add_neg]
theorem f_pt {s : Nat} (hs : s < 7) : nI s + 1 = bI (BitVec.ofNat 8 (s + 1)) := by rw [nI_1, bI_of (by omega)]
theorem f_rk {r K p : Nat} : nI r * nI K + nI p = nI (r * K + p) := by rw [pk_mul, nI_add]
theorem f_rkb {r K p : Nat} (hr : r < 8) (hK : K ≤ 7) (hp : p < K) : r * K + p < 1000 := by
  have : r * K ≤ 7 * 7 := Nat.mul_le_mul (by omega) hK
  omega
set_option maxHeartbeats 4000000 in
set_option maxRecDepth 100000 in
theorem ct_K_encode (l : Launch) (x : fy) (S : fm) (w : Int64) (s0 : Nat) (hv : fv x 1 0) (hs : s0 < 7) (hO : fO x) : Met l mn_K_encode (gw_ws mn_K_encode cb_K_encode 9 (some .long)) ({ frames := 1, cells := 0, slots := 0, locals := 24 } : Room) (fPc x (S) [.ref (xa x 1 0), .long w, .int (nI s0)]) (fQl x (S) (enc x w s0)) 0 0 (fun q => xs x ≤ q) := by
  refine f_met (by decide) (Nat.le_of_ble_eq_true rfl) ?_
  intro p e s m below meth c0 cx hr hlocks hnm hP hS ls hl
  have cx : fX rn_K cb_K_encode 9 p c0 s m [.ref (xa x 1 0), .long w, .int (nI s0)].toArray x := cx
  have hx := cx.1.1
  have hb := cx.1.2.1
  have hl : lv_has ls 9 [(0, .ref (xa x 1 0)), (1, .long w), (3, .int (nI s0))] := hl
  have hR := xR_facts x hO
  have hK : xK x ≤ 7 := by have := hO; unfold fO at this; omega
  have inner : ∀ (r : Nat) (fr : Int64), r < xR x → (∀ (H : Heap) (locs : List Loc), fP x S H → fS x s.heap H locs → ∀ ls : Array Slot, lv_has ls 9 [(7, .int (bI (en8 (xK x) w s0 r))), (6, .int (nI r)), (4, .long fr), (0, .ref (xa x 1 0)), (1, .long w), (3, .int (nI s0))] → W p l e ({ frames := 1, cells := 0, slots := 0, locals := 24 } : Room) s m [.ref (xa x 1 0), .long w, .int (nI s0)].toArray below meth c0 H locs 0 0 (MQ below (fQl x (S) (enc x w s0)) [.ref (xa x 1 0), .long w, .int (nI s0)].toArray s 0 0 (fun q => xs x ≤ q)) (F0 m 63 ls [])) → ∀ (q : Nat) (va : Int32) (H : Heap) (locs : List Loc), q ≤ xK x → va = bI (gf_o (fun i => by8 w (r * xK x + i)) (BitVec.ofNat 8 (s0 + 1)) (xK x) (xK x - q)) → fP x S H → fS x s.heap H locs → ∀ ls : Array Slot, lv_has ls 9 [(8, .int (nI q - 1)), (7, .int va), (6, .int (nI r)), (4, .long fr), (0, .ref (xa x 1 0)), (1, .long w), (3, .int (nI s0))] → W p l e ({ frames := 1, cells := 0, slots := 0, locals := 24 } : Room) s m [.ref (xa x 1 0), .long w, .int (nI s0)].toArray below meth c0 H locs 0 0 (MQ below (fQl x (S) (enc x w s0)) [.ref (xa x 1 0), .long w, .int (nI s0)].toArray s 0 0 (fun q => xs x ≤ q)) (F0 m 26 ls []) := by
    intro r fr hrr kk q
    induction q with
    | zero =>
      intro va H locs hq ev hP hS ls hl
      subst ev
      refine lv_iload (pc := 26) hx hb dd_K_encode_26 (lv_at hl 0 rfl) ?_
      refine lv_if_lt (pc := 28) (tgt := 63) hx hb dd_K_encode_28 (by decide) (fun h28 => ?_) (fun h28 => ?_)
      · -- 28: t to 63
        exact kk _ _ hP hS ls (lv_sub hl [1, 2, 3, 4, 5, 6] rfl)
      · -- 28: f to 31
        exact absurd (by decide) h28
    | succ q ih =>
      intro va H locs hq ev hP hS ls hl
      subst ev
      rw [nI_pred] at hl
      refine lv_iload (pc := 26) hx hb dd_K_encode_26 (lv_at hl 0 rfl) ?_
      refine lv_if_lt (pc := 28) (tgt := 63) hx hb dd_K_encode_28 (by decide) (fun h28 => ?_) (fun h28 => ?_)
      · -- 28: t to 63
        exact absurd h28 (nI_pos (by omega))
      · -- 28: f to 31
        refine lv_iload (pc := 31) hx hb dd_K_encode_31 (lv_at hl 1 rfl) ?_
        refine lv_iload_n (pc := 33) hx hb dd_K_encode_33 rfl (lv_at hl 6 rfl) ?_
        refine k_K_K_pointOf (pc := 34) cx hl hP hS (ct_K_pointOf l x S _) ⟨⟨rfl, rfl⟩, ⟨(Nat.le_of_ble_eq_true rfl), (Nat.le_of_ble_eq_true rfl)⟩, (Nat.le_of_ble_eq_true rfl), (Nat.le_of_ble_eq_true rfl)⟩ (Nat.le_of_ble_eq_true rfl) dd_K_encode_34 (fun H locs hP hS => ?_)
        refine f_topi (f_pt hs) ?_
        refine k_K_K_times (pc := 37) cx hl hP hS (ct_K_times l x S (gf_o (fun i => by8 w (r * xK x + i)) (BitVec.ofNat 8 (s0 + 1)) (xK x) (xK x - (q + 1))) (BitVec.ofNat 8 (s0 + 1))) ⟨⟨rfl, rfl⟩, ⟨(Nat.le_of_ble_eq_true rfl), (Nat.le_of_ble_eq_true rfl)⟩, (Nat.le_of_ble_eq_true rfl), (Nat.le_of_ble_eq_true rfl)⟩ (Nat.le_of_ble_eq_true rfl) dd_K_encode_37 (fun H locs hP hS => ?_)
        refine lv_lload_n (pc := 40) hx hb dd_K_encode_40 rfl (lv_at hl 5 rfl) ?_
        refine lv_iload (pc := 41) hx hb dd_K_encode_41 (lv_at hl 2 rfl) ?_
        refine lv_aload_n (pc := 43) hx hb dd_K_encode_43 rfl (lv_at hl 4 rfl) ?_
        refine g_K_K_needed (pc := 44) cx hP (by assumption) dd_K_encode_44 ?_
        refine lv_imul (pc := 47) hx hb dd_K_encode_47 ?_
        refine lv_iload (pc := 48) hx hb dd_K_encode_48 (lv_at hl 0 rfl) ?_
        refine lv_iadd (pc := 50) hx hb dd_K_encode_50 ?_
        refine f_topi f_rk ?_
        refine k_K_K_byteAt (pc := 51) cx hl hP hS (ct_K_byteAt l x S w (r * xK x + q) (f_rkb (by omega) hK (by omega))) ⟨⟨rfl, rfl⟩, ⟨(Nat.le_of_ble_eq_true rfl), (Nat.le_of_ble_eq_true rfl)⟩, (Nat.le_of_ble_eq_true rfl), (Nat.le_of_ble_eq_true rfl)⟩ (Nat.le_of_ble_eq_true rfl) dd_K_encode_51 (fun H locs hP hS => ?_)
        refine lv_ixor (pc := 54) hx hb dd_K_encode_54 ?_
        refine lv_istore (pc := 55) (lv' := [(7, _), (8, _), (6, _), (4, _), (0, _), (1, _), (3, _)]) hx hb dd_K_encode_55 hl (Nat.le_of_ble_eq_true rfl) rfl (fun ls hl => ?_)
        refine lv_iinc (pc := 57) (k := 1) (lv' := [(8, _), (7, _), (6, _), (4, _), (0, _), (1, _), (3, _)]) hx hb dd_K_encode_57 hl rfl (f_m1 (nI q)) (Nat.le_of_ble_eq_true rfl) rfl (fun ls hl => ?_)
        refine lv_goto (pc := 60) (tgt := 26) hx hb dd_K_encode_60 (by decide) ?_
        exact ih _ _ _ (by omega) (by rw [show xK x - q = xK x - (q + 1) + 1 by omega]; show _ = bI (gf_m _ _ ^^^ _); rw [show xK x - (xK x - (q + 1) + 1) = q by omega, bI_xor]) hP hS ls (lv_sub hl [0, 1, 2, 3, 4, 5, 6] rfl)
  have outer : ∀ (n r : Nat) (fr : Int64) (H : Heap) (locs : List Loc), r ≤ xR x → xR x - r < n → fr = enF (xK x) w s0 r → fP x S H → fS x s.heap H locs → ∀ ls : Array Slot, lv_has ls 9 [(6, .int (nI r)), (4, .long fr), (0, .ref (xa x 1 0)), (1, .long w), (3, .int (nI s0))] → W p l e ({ frames := 1, cells := 0, slots := 0, locals := 24 } : Room) s m [.ref (xa x 1 0), .long w, .int (nI s0)].toArray below meth c0 H locs 0 0 (MQ below (fQl x (S) (enc x w s0)) [.ref (xa x 1 0), .long w, .int (nI s0)].toArray s 0 0 (fun q => xs x ≤ q)) (F0 m 6 ls []) := by
    intro n
    induction n with
    | zero => intro r fr H locs _ h; omega
    | succ n ih =>
      intro r fr H locs hrr hn ef hP hS ls hl
      subst ef
      refine lv_iload (pc := 6) hx hb dd_K_encode_6 (lv_at hl 0 rfl) ?_
      refine lv_aload_n (pc := 8) hx hb dd_K_encode_8 rfl (lv_at hl 2 rfl) ?_
      refine g_K_K_length (pc := 9) cx hP (by assumption) dd_K_encode_9 ?_
      refine lv_icmp_ge (pc := 12) (tgt := 81) hx hb dd_K_encode_12 (by decide) (fun h12 => ?_) (fun h12 => ?_)
      · -- 12: t to 81
        have h := (nI_leI (by omega) (by omega)).mp h12
        have hre : r = xR x := by omega
        subst hre
        refine lv_lload (pc := 81) hx hb dd_K_encode_81 (lv_at hl 1 rfl) ?_
        exact f_lret (pc := 83) cx hr hlocks hP hS rfl rfl dd_K_encode_83
      · -- 12: f to 15
        have h : r < xR x := Nat.lt_of_not_le (fun q => h12 ((nI_leI (by omega) (by omega)).mpr q))
        refine lv_iconst (pc := 15) (v := 0) hx hb dd_K_encode_15 (by decide) ?_
        refine lv_istore (pc := 16) (lv' := [(7, _), (6, _), (4, _), (0, _), (1, _), (3, _)]) hx hb dd_K_encode_16 hl (Nat.le_of_ble_eq_true rfl) rfl (fun ls hl => ?_)
        refine lv_aload_n (pc := 18) hx hb dd_K_encode_18 rfl (lv_at hl 3 rfl) ?_
        refine g_K_K_needed (pc := 19) cx hP (by assumption) dd_K_encode_19 ?_
        refine lv_iconst (pc := 22) (v := 1) hx hb dd_K_encode_22 (by decide) ?_
        refine lv_isub (pc := 23) hx hb dd_K_encode_23 ?_
        refine lv_istore (pc := 24) (lv' := [(8, _), (7, _), (6, _), (4, _), (0, _), (1, _), (3, _)]) hx hb dd_K_encode_24 hl (Nat.le_of_ble_eq_true rfl) rfl (fun ls hl => ?_)
        refine inner r _ h (fun H locs hP hS ls hl => ?_) (xK x) _ _ _ (Nat.le_refl _) (by rw [Nat.sub_self]; exact bI_0.symm) hP hS ls (lv_sub hl [0, 1, 2, 3, 4, 5, 6] rfl)
        refine lv_lload (pc := 63) hx hb dd_K_encode_63 (lv_at hl 2 rfl) ?_
        refine lv_iload (pc := 65) hx hb dd_K_encode_65 (lv_at hl 0 rfl) ?_
        refine lv_iload (pc := 67) hx hb dd_K_encode_67 (lv_at hl 1 rfl) ?_
        refine k_K_K_placed (pc := 69) cx hl hP hS (ct_K_placed l x S (en8 (xK x) w s0 r) r (by omega)) ⟨⟨rfl, rfl⟩, ⟨(Nat.le_of_ble_eq_true rfl), (Nat.le_of_ble_eq_true rfl)⟩, (Nat.le_of_ble_eq_true rfl), (Nat.le_of_ble_eq_true rfl)⟩ (Nat.le_of_ble_eq_true rfl) dd_K_encode_69 (fun H locs hP hS => ?_)
        refine lv_lor (pc := 72) hx hb dd_K_encode_72 ?_
        refine lv_lstore (pc := 73) (lv' := [(4, _), (7, _), (6, _), (0, _), (1, _), (3, _)]) hx hb dd_K_encode_73 hl (Nat.le_of_ble_eq_true rfl) rfl (fun ls hl => ?_)
        refine lv_iinc (pc := 75) (k := 2) (lv' := [(6, _), (4, _), (7, _), (0, _), (1, _), (3, _)]) hx hb dd_K_encode_75 hl rfl (f_inc1 r) (Nat.le_of_ble_eq_true rfl) rfl (fun ls hl => ?_)
        refine lv_goto (pc := 78) (tgt := 6) hx hb dd_K_encode_78 (by decide) ?_
        exact ih (r + 1) _ _ _ (by omega) (by omega) rfl hP hS ls (lv_sub hl [0, 1, 3, 4, 5] rfl)
  refine lv_lconst (pc := 0) (v := 0) hx hb dd_K_encode_0 (by decide) ?_
  refine lv_lstore (pc := 1) (lv' := [(4, _), (0, _), (1, _), (3, _)]) hx hb dd_K_encode_1 hl (Nat.le_of_ble_eq_true rfl) rfl (fun ls hl => ?_)
  refine lv_iconst (pc := 3) (v := nI 0) hx hb dd_K_encode_3 (by decide) ?_
  refine lv_istore (pc := 4) (lv' := [(6, _), (4, _), (0, _), (1, _), (3, _)]) hx hb dd_K_encode_4 hl (Nat.le_of_ble_eq_true rfl) rfl (fun ls hl => ?_)
  exact outer (xR x + 1) 0 _ _ _ (by omega) (by omega) rfl hP hS ls (lv_sub hl [0, 1, 2, 3, 4] rfl)
end
section
-- the register's methods on the memory
def q_cl (z : Int32) : Bool := !decide (z < 0) && !decide (5 ≤ z)
def q_sv (x : fy) (z : Int32) : Bool := !decide (z < 0) && !decide (nI (xN x) ≤ z)
theorem q_cl_of {z : Int32} (h : q_cl z = true) : ∃ c, c < 5 ∧ z = nI c := by
  unfold q_cl at h
  simp only [Bool.and_eq_true, Bool.not_eq_true', decide_eq_false_iff_not] at h
  rcases pk_ix z (n := 5) (by decide) with h1 | h1 | h1
  · exact absurd h1 h.1
  · exact absurd h1 h.2
  · exact h1
theorem q_cl_in {c : Nat} (h : c < 5) : q_cl (nI c) = true := by
  unfold q_cl
  simp only [Bool.and_eq_true, Bool.not_eq_true', decide_eq_false_iff_not]
  exact ⟨nI_pos (by omega), fun q => by have := (nI_leI (a := 5) (by decide) (by omega)).mp q; omega⟩
theorem q_sv_of {x : fy} {z : Int32} (hO : fO x) (h : q_sv x z = true) : ∃ s, s < xN x ∧ z = nI s := by
  unfold q_sv at h
  have hN : xN x ≤ 7 := hO.2.2.2.1
  simp only [Bool.and_eq_true, Bool.not_eq_true', decide_eq_false_iff_not] at h
  rcases pk_ix z (n := xN x) (by omega) with h1 | h1 | h1
  · exact absurd h1 h.1
  · exact absurd h1 h.2
  · exact h1
theorem q_sv_in {x : fy} {s : Nat} (hO : fO x) (h : s < xN x) : q_sv x (nI s) = true := by
  unfold q_sv
  have hN : xN x ≤ 7 := hO.2.2.2.1
  simp only [Bool.and_eq_true, Bool.not_eq_true', decide_eq_false_iff_not]
  exact ⟨nI_pos (by omega), fun q => by have := (nI_leI (a := xN x) (by omega) (by omega)).mp q; omega⟩
theorem row_lt {c s N : Nat} (hc : c < 5) (hs : s < N) : c * N + s < 5 * N := by
  have : c * N ≤ 4 * N := Nat.mul_le_mul_right N (by omega)
  omega
def fL (x : fy) : Prop := fv x 0 0 ∧ fv x 1 0 ∧ fv x 2 0 ∧ fv x 3 0 ∧ fv x 4 0 ∧ fv x 5 0 ∧ fv x 6 0 ∧ (∀ c, c < 5 → fv x 7 c ∧ fv x 8 c ∧ fv x 9 c) ∧ (∀ s, s < xN x → fv x 10 s ∧ fv x 11 s ∧ fv x 12 s) ∧ (∀ r, r < 5 * xN x → fv x 13 r ∧ fv x 14 r ∧ fv x 13 (100 + r) ∧ fv x 14 (100 + r))
/-- what every walk needs of the memory -/
def fI (x : fy) (S : fm) : Prop := (∀ r, mU S 13 r 1 ≤ 7) ∧ (∀ r q, q < mU S 13 r 1 → ∃ b, mA S 14 r q = some b ∧ fvL x S b) ∧ (∀ s, mU S 10 s 3 ≤ xD x + 1) ∧ (∀ c, mU S 7 c 3 ≤ 7) ∧ (∀ c j, mU S 8 c j < 7)
def q_refuse (x : fy) (S : fm) (c : Nat) : Int32 := if mB S 7 c 4 = true then -2 else if q_work S c = true then -3 else if q_crowd x S c = true then -4 else 0
def e_write (x : fy) (S : fm) (c : Nat) (w : Int64) : fm := if q_refuse x S c = 0 then e_begin x (sJ S 7 c 10 w) c 1 else S
def e_read (x : fy) (S : fm) (c : Nat) : fm := if q_refuse x S c = 0 then e_begin x S c 4 else S
def q_again (x : fy) (S : fm) (c : Nat) : Int32 := if mB S 7 c 4 = true then -2 else if ¬ mI S 7 c 5 = 5 ∨ mI S 7 c 7 < nI (xQ x) then -3 else if q_crowd x S c = true then -4 else 0
def e_again (x : fy) (S : fm) (c : Nat) : fm := if q_again x S c = 0 then e_begin x S c 4 else S
def q_enough (x : fy) (S : fm) (c : Nat) : Bool := !decide (mI S 7 c 7 < nI (xQ x)) && (decide (¬ mI S 7 c 5 = 5) || decide (mU S 7 c 3 = xK x))
def e_end (x : fy) (S : fm) (c : Nat) : fm :=
  if mI S 7 c 5 = 1 then e_begin x (sI S 7 c 9 (8 * (mI S 7 c 8 / 8 + 1) + nI c)) c 2
  else if mI S 7 c 5 = 2 then e_begin x S c 3
  else if mI S 7 c 5 = 4 then e_begin x (sI S 7 c 9 (mI S 7 c 8)) c 5
  else if mI S 7 c 5 = 5 then e_finish (sJ (rU S 2 0 (decU x S c (xR x))) 7 c 11 (decW x S c (xR x))) c
  else e_finish S c
def q_end (S : fm) (c : Nat) : Int32 := if mI S 7 c 5 = 1 ∨ mI S 7 c 5 = 2 ∨ mI S 7 c 5 = 4 then 2 else 3
def e_deliver (x : fy) (S : fm) (c s j a : Nat) : fm := e_app (e_answer x (e_take S (c * xN x + s) j) s a) (100 + (c * xN x + s)) a
def e_crs (x : fy) (S : fm) (s : Nat) : Nat → fm
  | 0 => S
  | c + 1 => e_lose (e_crs x S s c) (c * xN x + s)
def e_crash (x : fy) (S : fm) (s : Nat) : fm := e_crs x (sI (sB S 10 s 5 true) 0 0 7 (mI S 0 0 7 + 1)) s 5
theorem e_app_le (S : fm) (r a : Nat) (h : ∀ r, mU S 13 r 1 ≤ 7) : ∀ q, mU (e_app S r a) 13 q 1 ≤ 7 := by
  intro q
  unfold e_app
  split
  next h1 =>
    rw [mU_sU]
    split
    · omega
    · exact h q
  next => exact h q
theorem e_req_U (x : fy) (S : fm) (c s : Nat) : mU (e_req x S c s) = mU S := by
  unfold e_req
  split <;> rfl
theorem e_bgs_le (x : fy) (S : fm) (c : Nat) (h : ∀ r, mU S 13 r 1 ≤ 7) : ∀ n r, mU (e_bgs x S c n) 13 r 1 ≤ 7 := by
  intro n
  induction n with
  | zero => exact h
  | succ n ih =>
    show ∀ r, mU (e_bg1 x (e_bgs x S c n) c n) 13 r 1 ≤ 7
    unfold e_bg1
    split
    · exact ih
    · exact e_app_le _ _ _ (fun r => by rw [e_req_U]; exact ih r)
end
section
-- contracts of the register, by wip/whole/gen/c_reg.py
set_option maxHeartbeats 4000000 in
set_option maxRecDepth 100000 in
theorem ct_X_isClient (l : Launch) (x : fy) (S : fm) (hL : fL x) (z : Int32) : Met l mn_X_isClient (gw_ws mn_X_isClient cb_X_isClient 2 (some .boolean)) ({ frames := 0, cells := 0, slots := 0, locals := 0 } : Room) (fPc x (S) [.ref (xa x 0 0), .int z]) (fQi x (S) (b2 (q_cl z))) 0 0 (fun q => xs x ≤ q) := by
  refine f_met (by decide) (Nat.le_of_ble_eq_true rfl) ?_
  intro p e s m below meth c0 cx hr hlocks hnm hP hS ls hl
  have cx : fX rn_X cb_X_isClient 2 p c0 s m [.ref (xa x 0 0), .int z].toArray x := cx
  have hx := cx.1.1
  have hb := cx.1.2.1
  have hl : lv_has ls 2 [(0, .ref (xa x 0 0)), (1, .int z)] := hl
  obtain ⟨v0, v1, v2, v3, v4, v5, v6, vC, vS, vR⟩ := hL
  refine lv_iload_n (pc := 0) hx hb dd_X_isClient_0 rfl (lv_at hl 1 rfl) ?_
  refine lv_if_lt (pc := 1) (tgt := 13) hx hb dd_X_isClient_1 (by decide) (fun h1 => ?_) (fun h1 => ?_)
  · -- 1: t to 13
    refine lv_iconst (pc := 13) (v := 0) hx hb dd_X_isClient_13 (by decide) ?_
    exact f_zret (pc := 14) cx hr hlocks hP hS (by simp [q_cl, b2, *]) rfl dd_X_isClient_14
  · -- 1: f to 4
    refine lv_iload_n (pc := 4) hx hb dd_X_isClient_4 rfl (lv_at hl 1 rfl) ?_
    refine lv_iconst (pc := 5) (v := 5) hx hb dd_X_isClient_5 (by decide) ?_
    refine lv_icmp_ge (pc := 6) (tgt := 13) hx hb dd_X_isClient_6 (by decide) (fun h6 => ?_) (fun h6 => ?_)
    · -- 6: t to 13
      refine lv_iconst (pc := 13) (v := 0) hx hb dd_X_isClient_13 (by decide) ?_
      exact f_zret (pc := 14) cx hr hlocks hP hS (by simp [q_cl, b2, *]) rfl dd_X_isClient_14
    · -- 6: f to 9
      refine lv_iconst (pc := 9) (v := 1) hx hb dd_X_isClient_9 (by decide) ?_
      refine lv_goto (pc := 10) (tgt := 14) hx hb dd_X_isClient_10 (by decide) ?_
      exact f_zret (pc := 14) cx hr hlocks hP hS (by simp [q_cl, b2, *]) rfl dd_X_isClient_14
set_option maxHeartbeats 4000000 in
set_option maxRecDepth 100000 in
theorem ct_X_isServer (l : Launch) (x : fy) (S : fm) (hL : fL x) (z : Int32) : Met l mn_X_isServer (gw_ws mn_X_isServer cb_X_isServer 2 (some .boolean)) ({ frames := 0, cells := 0, slots := 0, locals := 0 } : Room) (fPc x (S) [.ref (xa x 0 0), .int z]) (fQi x (S) (b2 (q_sv x z))) 0 0 (fun q => xs x ≤ q) := by
  refine f_met (by decide) (Nat.le_of_ble_eq_true rfl) ?_
  intro p e s m below meth c0 cx hr hlocks hnm hP hS ls hl
  have cx : fX rn_X cb_X_isServer 2 p c0 s m [.ref (xa x 0 0), .int z].toArray x := cx
  have hx := cx.1.1
  have hb := cx.1.2.1
  have hl : lv_has ls 2 [(0, .ref (xa x 0 0)), (1, .int z)] := hl
  obtain ⟨v0, v1, v2, v3, v4, v5, v6, vC, vS, vR⟩ := hL
  refine lv_iload_n (pc := 0) hx hb dd_X_isServer_0 rfl (lv_at hl 1 rfl) ?_
  refine lv_if_lt (pc := 1) (tgt := 17) hx hb dd_X_isServer_1 (by decide) (fun h1 => ?_) (fun h1 => ?_)
  · -- 1: t to 17
    refine lv_iconst (pc := 17) (v := 0) hx hb dd_X_isServer_17 (by decide) ?_
    exact f_zret (pc := 18) cx hr hlocks hP hS (by simp [q_sv, b2, *]) rfl dd_X_isServer_18
  · -- 1: f to 4
    refine lv_iload_n (pc := 4) hx hb dd_X_isServer_4 rfl (lv_at hl 1 rfl) ?_
    refine lv_aload_n (pc := 5) hx hb dd_X_isServer_5 rfl (lv_at hl 0 rfl) ?_
    refine g_X_X_servers (pc := 6) cx hP (by assumption) dd_X_isServer_6 ?_
    refine f_alen 4 (pc := 9) cx hP (fv.at (by assumption) _) rfl rfl dd_X_isServer_9 ?_
    refine lv_icmp_ge (pc := 10) (tgt := 17) hx hb dd_X_isServer_10 (by decide) (fun h10 => ?_) (fun h10 => ?_)
    · -- 10: t to 17
      refine lv_iconst (pc := 17) (v := 0) hx hb dd_X_isServer_17 (by decide) ?_
      exact f_zret (pc := 18) cx hr hlocks hP hS (by simp [q_sv, b2, *]) rfl dd_X_isServer_18
    · -- 10: f to 13
      refine lv_iconst (pc := 13) (v := 1) hx hb dd_X_isServer_13 (by decide) ?_
      refine lv_goto (pc := 14) (tgt := 18) hx hb dd_X_isServer_14 (by decide) ?_
      exact f_zret (pc := 18) cx hr hlocks hP hS (by simp [q_sv, b2, *]) rfl dd_X_isServer_18
set_option maxHeartbeats 4000000 in
set_option maxRecDepth 100000 in
theorem ct_X_rowOf (l : Launch) (x : fy) (S : fm) (hL : fL x) (c s0 : Nat) : Met l mn_X_rowOf (gw_ws mn_X_rowOf cb_X_rowOf 3 (some .int)) ({ frames := 0, cells := 0, slots := 0, locals := 0 } : Room) (fPc x (S) [.ref (xa x 0 0), .int (nI c), .int (nI s0)]) (fQi x (S) (nI (c * xN x + s0))) 0 0 (fun q => xs x ≤ q) := by
  refine f_met (by decide) (Nat.le_of_ble_eq_true rfl) ?_
  intro p e s m below meth c0 cx hr hlocks hnm hP hS ls hl
  have cx : fX rn_X cb_X_rowOf 3 p c0 s m [.ref (xa x 0 0), .int (nI c), .int (nI s0)].toArray x := cx
  have hx := cx.1.1
  have hb := cx.1.2.1
  have hl : lv_has ls 3 [(0, .ref (xa x 0 0)), (1, .int (nI c)), (2, .int (nI s0))] := hl
  obtain ⟨v0, v1, v2, v3, v4, v5, v6, vC, vS, vR⟩ := hL
  refine lv_iload_n (pc := 0) hx hb dd_X_rowOf_0 rfl (lv_at hl 1 rfl) ?_
  refine lv_aload_n (pc := 1) hx hb dd_X_rowOf_1 rfl (lv_at hl 0 rfl) ?_
  refine g_X_X_servers (pc := 2) cx hP (by assumption) dd_X_rowOf_2 ?_
  refine f_alen 4 (pc := 5) cx hP (fv.at (by assumption) _) rfl rfl dd_X_rowOf_5 ?_
  refine lv_imul (pc := 6) hx hb dd_X_rowOf_6 ?_
  refine lv_iload_n (pc := 7) hx hb dd_X_rowOf_7 rfl (lv_at hl 2 rfl) ?_
  refine lv_iadd (pc := 8) hx hb dd_X_rowOf_8 ?_
  exact f_iret (pc := 9) cx hr hlocks hP hS f_rk rfl dd_X_rowOf_9
set_option maxHeartbeats 4000000 in
set_option maxRecDepth 100000 in
theorem ct_X_isCrowded (l : Launch) (x : fy) (S : fm) (hL : fL x) (c : Nat) (hc : c < 5) (hO : fO x) (hI : fI x S) : Met l mn_X_isCrowded (gw_ws mn_X_isCrowded cb_X_isCrowded 4 (some .boolean)) ({ frames := 1, cells := 0, slots := 0, locals := 22 } : Room) (fPc x (S) [.ref (xa x 0 0), .int (nI c)]) (fQi x (S) (b2 (q_crowd x S c))) 0 0 (fun q => xs x ≤ q) := by
  refine f_met (by decide) (Nat.le_of_ble_eq_true rfl) ?_
  intro p e s m below meth c0 cx hr hlocks hnm hP hS ls hl
  have cx : fX rn_X cb_X_isCrowded 4 p c0 s m [.ref (xa x 0 0), .int (nI c)].toArray x := cx
  have hx := cx.1.1
  have hb := cx.1.2.1
  have hl : lv_has ls 4 [(0, .ref (xa x 0 0)), (1, .int (nI c))] := hl
  obtain ⟨v0, v1, v2, v3, v4, v5, v6, vC, vS, vR⟩ := hL
  have hN : xN x ≤ 7 := hO.2.2.2.1
  have loop : ∀ (n i : Nat) (H : Heap) (locs : List Loc), i ≤ xN x → xN x - i < n → (∀ k, k < i → (!mB S 10 k 5 && decide (4 < mU S 13 (c * xN x + k) 1 + mU S 13 (100 + (c * xN x + k)) 1)) = false) → fP x S H → fS x s.heap H locs → ∀ ls : Array Slot, lv_has ls 4 [(2, .int (nI i)), (0, .ref (xa x 0 0)), (1, .int (nI c))] → W p l e ({ frames := 1, cells := 0, slots := 0, locals := 22 } : Room) s m [.ref (xa x 0 0), .int (nI c)].toArray below meth c0 H locs 0 0 (MQ below (fQi x (S) (b2 (q_crowd x S c))) [.ref (xa x 0 0), .int (nI c)].toArray s 0 0 (fun q => xs x ≤ q)) (F0 m 2 ls []) := by
    intro n
    induction n with
    | zero => intro i H locs _ h; omega
    | succ n ih =>
      intro i H locs hi hn1 hk hP hS ls hl
      refine lv_iload_n (pc := 2) hx hb dd_X_isCrowded_2 rfl (lv_at hl 0 rfl) ?_
      refine lv_aload_n (pc := 3) hx hb dd_X_isCrowded_3 rfl (lv_at hl 1 rfl) ?_
      refine g_X_X_servers (pc := 4) cx hP (by assumption) dd_X_isCrowded_4 ?_
      refine f_alen 4 (pc := 7) cx hP (fv.at (by assumption) _) rfl rfl dd_X_isCrowded_7 ?_
      refine lv_icmp_ge (pc := 8) (tgt := 66) hx hb dd_X_isCrowded_8 (by decide) (fun h8 => ?_) (fun h8 => ?_)
      · -- 8: t to 66
        have h := (nI_leI (by omega) (by omega)).mp h8
        have e0 : (0 : Int32) = b2 (q_crowd x S c) := by
          have : q_crowd x S c = false := by
            unfold q_crowd
            rw [List.any_eq_false]
            intro k hk2
            rw [hk k (by have := List.mem_range.mp hk2; omega)]
            decide
          rw [this]; rfl
        refine lv_iconst (pc := 66) (v := 0) hx hb dd_X_isCrowded_66 (by decide) ?_
        exact f_zret (pc := 67) cx hr hlocks hP hS e0 rfl dd_X_isCrowded_67
      · -- 8: f to 11
        have h : i < xN x := Nat.lt_of_not_le (fun q => h8 ((nI_leI (by omega) (by omega)).mpr q))
        obtain ⟨v10, v11, v12⟩ := vS i h
        obtain ⟨v13, v14, v13r, v14r⟩ := vR _ (row_lt hc h)
        have hq1 := hI.1 (c * xN x + i)
        have hq2 := hI.1 (100 + (c * xN x + i))
        refine lv_aload_n (pc := 11) hx hb dd_X_isCrowded_11 rfl (lv_at hl 1 rfl) ?_
        refine g_X_X_requestRows (pc := 12) cx hP (by assumption) dd_X_isCrowded_12 ?_
        refine lv_aload_n (pc := 15) hx hb dd_X_isCrowded_15 rfl (lv_at hl 1 rfl) ?_
        refine lv_iload_n (pc := 16) hx hb dd_X_isCrowded_16 rfl (lv_at hl 2 rfl) ?_
        refine lv_iload_n (pc := 17) hx hb dd_X_isCrowded_17 rfl (lv_at hl 0 rfl) ?_
        refine k_X_X_rowOf (pc := 18) cx hl hP hS (by assumption) (ct_X_rowOf l x S ⟨v0, v1, v2, v3, v4, v5, v6, vC, vS, vR⟩ c i) ⟨⟨rfl, rfl⟩, ⟨(Nat.le_of_ble_eq_true rfl), (Nat.le_of_ble_eq_true rfl)⟩, (Nat.le_of_ble_eq_true rfl), (Nat.le_of_ble_eq_true rfl)⟩ (Nat.le_of_ble_eq_true rfl) dd_X_isCrowded_18 (fun H locs hP hS => ?_)
        refine f_ald5 (pc := 21) cx hP (by assumption) rfl (row_lt hc h) dd_X_isCrowded_21 ?_
        refine g_X_R_size (pc := 22) cx hP (by assumption) dd_X_isCrowded_22 ?_
        refine lv_aload_n (pc := 25) hx hb dd_X_isCrowded_25 rfl (lv_at hl 1 rfl) ?_
        refine g_X_X_replyRows (pc := 26) cx hP (by assumption) dd_X_isCrowded_26 ?_
        refine lv_aload_n (pc := 29) hx hb dd_X_isCrowded_29 rfl (lv_at hl 1 rfl) ?_
        refine lv_iload_n (pc := 30) hx hb dd_X_isCrowded_30 rfl (lv_at hl 2 rfl) ?_
        refine lv_iload_n (pc := 31) hx hb dd_X_isCrowded_31 rfl (lv_at hl 0 rfl) ?_
        refine k_X_X_rowOf (pc := 32) cx hl hP hS (by assumption) (ct_X_rowOf l x S ⟨v0, v1, v2, v3, v4, v5, v6, vC, vS, vR⟩ c i) ⟨⟨rfl, rfl⟩, ⟨(Nat.le_of_ble_eq_true rfl), (Nat.le_of_ble_eq_true rfl)⟩, (Nat.le_of_ble_eq_true rfl), (Nat.le_of_ble_eq_true rfl)⟩ (Nat.le_of_ble_eq_true rfl) dd_X_isCrowded_32 (fun H locs hP hS => ?_)
        refine f_ald6 (pc := 35) cx hP (by assumption) rfl (row_lt hc h) dd_X_isCrowded_35 ?_
        refine g_X_R_size (pc := 36) cx hP (by assumption) dd_X_isCrowded_36 ?_
        refine lv_iadd (pc := 39) hx hb dd_X_isCrowded_39 ?_
        refine f_topi (nI_add _ _) ?_
        refine lv_istore_n (pc := 40) (lv' := [(3, _), (2, _), (0, _), (1, _)]) hx hb dd_X_isCrowded_40 rfl hl (Nat.le_of_ble_eq_true rfl) rfl (fun ls hl => ?_)
        refine lv_aload_n (pc := 41) hx hb dd_X_isCrowded_41 rfl (lv_at hl 2 rfl) ?_
        refine g_X_X_servers (pc := 42) cx hP (by assumption) dd_X_isCrowded_42 ?_
        refine lv_iload_n (pc := 45) hx hb dd_X_isCrowded_45 rfl (lv_at hl 1 rfl) ?_
        refine f_ald4 (pc := 46) cx hP (by assumption) rfl (by omega) dd_X_isCrowded_46 ?_
        refine g_X_S_crashed (pc := 47) cx hP (by assumption) dd_X_isCrowded_47 ?_
        refine f_neB (pc := 50) (tgt := 60) cx dd_X_isCrowded_50 (by decide) (fun h50 => ?_) (fun h50 => ?_)
        · -- 50: t to 60
          have e0 : (!mB S 10 i 5 && decide (4 < mU S 13 (c * xN x + i) 1 + mU S 13 (100 + (c * xN x + i)) 1)) = false := by rw [h50]; rfl
          refine lv_iinc (pc := 60) (k := 1) (lv' := [(2, _), (3, _), (0, _), (1, _)]) hx hb dd_X_isCrowded_60 hl rfl (f_inc1 i) (Nat.le_of_ble_eq_true rfl) rfl (fun ls hl => ?_)
          refine lv_goto (pc := 63) (tgt := 2) hx hb dd_X_isCrowded_63 (by decide) ?_
          exact ih (i + 1) _ _ (by omega) (by omega) (lt_s hk e0) hP hS ls (lv_sub hl [0, 2, 3] rfl)
        · -- 50: f to 53
          refine lv_iload_n (pc := 53) hx hb dd_X_isCrowded_53 rfl (lv_at hl 0 rfl) ?_
          refine lv_iconst (pc := 54) (v := nI 4) hx hb dd_X_isCrowded_54 (by decide) ?_
          refine lv_icmp_le (pc := 55) (tgt := 60) hx hb dd_X_isCrowded_55 (by decide) (fun h55 => ?_) (fun h55 => ?_)
          · -- 55: t to 60
            have h2 := (nI_leI (by omega) (by omega)).mp h55
            have e0 : (!mB S 10 i 5 && decide (4 < mU S 13 (c * xN x + i) 1 + mU S 13 (100 + (c * xN x + i)) 1)) = false := by rw [decide_eq_false (by omega), Bool.and_false]
            refine lv_iinc (pc := 60) (k := 1) (lv' := [(2, _), (3, _), (0, _), (1, _)]) hx hb dd_X_isCrowded_60 hl rfl (f_inc1 i) (Nat.le_of_ble_eq_true rfl) rfl (fun ls hl => ?_)
            refine lv_goto (pc := 63) (tgt := 2) hx hb dd_X_isCrowded_63 (by decide) ?_
            exact ih (i + 1) _ _ (by omega) (by omega) (lt_s hk e0) hP hS ls (lv_sub hl [0, 2, 3] rfl)
          · -- 55: f to 58
            have h2 : 4 < mU S 13 (c * xN x + i) 1 + mU S 13 (100 + (c * xN x + i)) 1 := Nat.lt_of_not_le (fun q => h55 ((nI_leI (by omega) (by omega)).mpr q))
            have e0 : (1 : Int32) = b2 (q_crowd x S c) := by
              have : q_crowd x S c = true := by
                unfold q_crowd
                rw [List.any_eq_true]
                exact ⟨i, List.mem_range.mpr h, by rw [h50, decide_eq_true h2]; rfl⟩
              rw [this]; rfl
            refine lv_iconst (pc := 58) (v := 1) hx hb dd_X_isCrowded_58 (by decide) ?_
            exact f_zret (pc := 59) cx hr hlocks hP hS e0 rfl dd_X_isCrowded_59
  refine lv_iconst (pc := 0) (v := nI 0) hx hb dd_X_isCrowded_0 (by decide) ?_
  refine lv_istore_n (pc := 1) (lv' := [(2, _), (0, _), (1, _)]) hx hb dd_X_isCrowded_1 rfl hl (Nat.le_of_ble_eq_true rfl) rfl (fun ls hl => ?_)
  exact loop (xN x + 1) 0 _ _ (by omega) (by omega) lt_0 hP hS ls (lv_sub hl [0, 1, 2] rfl)
set_option maxHeartbeats 4000000 in
set_option maxRecDepth 100000 in
theorem ct_X_requestTo (l : Launch) (x : fy) (S : fm) (hL : fL x) (s0 c : Nat) (hs : s0 < xN x) (hc : c < 5) (hO : fO x) : Met l mn_X_requestTo (gw_ws mn_X_requestTo cb_X_requestTo 4 (some (.object "SealedFragmentRegister$Letter"))) ({ frames := 2, cells := 1, slots := 6, locals := 52 } : Room) (fPc x (S) [.ref (xa x 0 0), .int (nI s0), .ref (xa x 7 c)]) (fQq x (e_req x S c s0) (some (mZ S))) 1 6 (fun q => xs x ≤ q) := by
  refine f_met (by decide) (Nat.le_of_ble_eq_true rfl) ?_
  intro p e s m below meth c0 cx hr hlocks hnm hP hS ls hl
  have cx : fX rn_X cb_X_requestTo 4 p c0 s m [.ref (xa x 0 0), .int (nI s0), .ref (xa x 7 c)].toArray x := cx
  have hx := cx.1.1
  have hb := cx.1.2.1
  have hl : lv_has ls 4 [(0, .ref (xa x 0 0)), (1, .int (nI s0)), (2, .ref (xa x 7 c))] := hl
  obtain ⟨v0, v1, v2, v3, v4, v5, v6, vC, vS, vR⟩ := hL
  obtain ⟨v7, v8, v9⟩ := vC c hc
  have hN : xN x ≤ 7 := hO.2.2.2.1
  refine f_newL (pc := 0) kl_X_L cx hP hS (Nat.le_of_ble_eq_true rfl) (Nat.le_of_ble_eq_true rfl) dd_X_requestTo_0 (fun H hP hS hfv => ?_)
  refine lv_dup (pc := 3) hx hb dd_X_requestTo_3 rfl ?_
  refine lv_aload_n (pc := 4) hx hb dd_X_requestTo_4 rfl (lv_at hl 2 rfl) ?_
  refine g_X_C_phase (pc := 5) cx hP (by assumption) dd_X_requestTo_5 ?_
  refine lv_aload_n (pc := 8) hx hb dd_X_requestTo_8 rfl (lv_at hl 2 rfl) ?_
  refine g_X_C_beginning (pc := 9) cx hP (by assumption) dd_X_requestTo_9 ?_
  refine lv_aload_n (pc := 12) hx hb dd_X_requestTo_12 rfl (lv_at hl 2 rfl) ?_
  refine g_X_C_tag (pc := 13) cx hP (by assumption) dd_X_requestTo_13 ?_
  refine k_X_L_init (pc := 16) cx hl hP hS (ct_L_init l x (e_newL S) (mZ S) (mI S 7 c 5) (mI S 7 c 6) (mI S 7 c 9) hfv) ⟨⟨rfl, rfl⟩, ⟨(Nat.le_of_ble_eq_true rfl), (Nat.le_of_ble_eq_true rfl)⟩, (Nat.le_of_ble_eq_true rfl), (Nat.le_of_ble_eq_true rfl)⟩ (Nat.le_of_ble_eq_true rfl) dd_X_requestTo_16 (fun H locs hP hS => ?_)
  have hfv : fvL x (e_initL (e_newL S) (mZ S) (mI S 7 c 5) (mI S 7 c 6) (mI S 7 c 9)) (mZ S) := hfv
  refine lv_astore_n (pc := 19) (lv' := [(3, _), (0, _), (1, _), (2, _)]) hx hb dd_X_requestTo_19 rfl hl (Nat.le_of_ble_eq_true rfl) rfl (fun ls hl => ?_)
  refine lv_aload_n (pc := 20) hx hb dd_X_requestTo_20 rfl (lv_at hl 3 rfl) ?_
  refine g_X_C_phase (pc := 21) cx hP (by assumption) dd_X_requestTo_21 ?_
  refine lv_iconst (pc := 24) (v := 2) hx hb dd_X_requestTo_24 (by decide) ?_
  refine lv_icmp_ne (pc := 25) (tgt := 44) hx hb dd_X_requestTo_25 (by decide) (fun h25 => ?_) (fun h25 => ?_)
  · -- 25: t to 44
    have h25 : ¬ mI S 7 c 5 = 2 := h25
    have e0 : e_initL (e_newL S) (mZ S) (mI S 7 c 5) (mI S 7 c 6) (mI S 7 c 9) = e_req x S c s0 := by unfold e_req; rw [if_neg h25]
    refine lv_aload_n (pc := 44) hx hb dd_X_requestTo_44 rfl (lv_at hl 0 rfl) ?_
    refine W.widen (k := 1) (n := 6) (Nat.le_of_ble_eq_true rfl) (Nat.le_of_ble_eq_true rfl) ?_
    exact f_qret (pc := 45) cx hr hlocks hP hS rfl e0 dd_X_requestTo_45
  · -- 25: f to 28
    have h25 : mI S 7 c 5 = 2 := h25
    have e0 : sJ (e_initL (e_newL S) (mZ S) (mI S 7 c 5) (mI S 7 c 6) (mI S 7 c 9)) 15 (mZ S) 3 (enc x (mJ S 7 c 10) s0) = e_req x S c s0 := by unfold e_req; rw [if_pos h25]
    refine lv_aload_n (pc := 28) hx hb dd_X_requestTo_28 rfl (lv_at hl 0 rfl) ?_
    refine lv_aload_n (pc := 29) hx hb dd_X_requestTo_29 rfl (lv_at hl 1 rfl) ?_
    refine g_X_X_code (pc := 30) cx hP (by assumption) dd_X_requestTo_30 ?_
    refine lv_aload_n (pc := 33) hx hb dd_X_requestTo_33 rfl (lv_at hl 3 rfl) ?_
    refine g_X_C_block (pc := 34) cx hP (by assumption) dd_X_requestTo_34 ?_
    refine lv_iload_n (pc := 37) hx hb dd_X_requestTo_37 rfl (lv_at hl 2 rfl) ?_
    refine k_X_K_encode (pc := 38) cx hl hP hS (by assumption) (ct_K_encode l x _ (mJ S 7 c 10) s0 v1 (by omega) hO) ⟨⟨rfl, rfl⟩, ⟨(Nat.le_of_ble_eq_true rfl), (Nat.le_of_ble_eq_true rfl)⟩, (Nat.le_of_ble_eq_true rfl), (Nat.le_of_ble_eq_true rfl)⟩ (Nat.le_of_ble_eq_true rfl) dd_X_requestTo_38 (fun H locs hP hS => ?_)
    refine p_X_L_fragment (pc := 41) cx hP hS (by assumption) dd_X_requestTo_41 (fun H locs hP hS => ?_)
    refine lv_aload_n (pc := 44) hx hb dd_X_requestTo_44 rfl (lv_at hl 0 rfl) ?_
    refine W.widen (k := 1) (n := 6) (Nat.le_of_ble_eq_true rfl) (Nat.le_of_ble_eq_true rfl) ?_
    exact f_qret (pc := 45) cx hr hlocks hP hS rfl e0 dd_X_requestTo_45
set_option maxHeartbeats 4000000 in
set_option maxRecDepth 100000 in
theorem ct_X_beginPhase (l : Launch) (x : fy) (S : fm) (hL : fL x) (c : Nat) (ph : Int32) (hc : c < 5) (hO : fO x) (h7 : ∀ r, mU S 13 r 1 ≤ 7) : Met l mn_X_beginPhase (gw_ws mn_X_beginPhase cb_X_beginPhase 4 none) ({ frames := 3, cells := 7, slots := 42, locals := 75 } : Room) (fPc x (S) [.ref (xa x 0 0), .ref (xa x 7 c), .int ph]) (fQv x (e_begin x S c ph)) 7 42 (fun q => xs x ≤ q) := by
  refine f_met (by decide) (Nat.le_of_ble_eq_true rfl) ?_
  intro p e s m below meth c0 cx hr hlocks hnm hP hS ls hl
  have cx : fX rn_X cb_X_beginPhase 4 p c0 s m [.ref (xa x 0 0), .ref (xa x 7 c), .int ph].toArray x := cx
  have hx := cx.1.1
  have hb := cx.1.2.1
  have hl : lv_has ls 4 [(0, .ref (xa x 0 0)), (1, .ref (xa x 7 c)), (2, .int ph)] := hl
  obtain ⟨v0, v1, v2, v3, v4, v5, v6, vC, vS, vR⟩ := hL
  obtain ⟨v7, v8, v9⟩ := vC c hc
  have hN : xN x ≤ 7 := hO.2.2.2.1
  have h7e : ∀ r, mU (e_enter S c ph) 13 r 1 ≤ 7 := fun r => by unfold e_enter; rw [mU_sU, if_neg (by omega)]; exact h7 r
  have loop : ∀ (n i : Nat) (H : Heap) (locs : List Loc), i ≤ xN x → xN x - i < n → fP x (e_bgs x (e_enter S c ph) c (i)) H → fS x s.heap H locs → ∀ ls : Array Slot, lv_has ls 4 [(3, .int (nI i)), (0, .ref (xa x 0 0)), (1, .ref (xa x 7 c)), (2, .int ph)] → W p l e ({ frames := 3, cells := 7, slots := 42, locals := 75 } : Room) s m [.ref (xa x 0 0), .ref (xa x 7 c), .int ph].toArray below meth c0 H locs i (6 * i) (MQ below (fQv x (e_begin x S c ph)) [.ref (xa x 0 0), .ref (xa x 7 c), .int ph].toArray s 7 42 (fun q => xs x ≤ q)) (F0 m 7 ls []) := by
    intro n
    induction n with
    | zero => intro i H locs _ h; omega
    | succ n ih =>
      intro i H locs hi hn1 hP hS ls hl
      refine lv_iload_n (pc := 7) hx hb dd_X_beginPhase_7 rfl (lv_at hl 0 rfl) ?_
      refine lv_aload_n (pc := 8) hx hb dd_X_beginPhase_8 rfl (lv_at hl 1 rfl) ?_
      refine g_X_X_servers (pc := 9) cx hP (by assumption) dd_X_beginPhase_9 ?_
      refine f_alen 4 (pc := 12) cx hP (fv.at (by assumption) _) rfl rfl dd_X_beginPhase_12 ?_
      refine lv_icmp_ge (pc := 13) (tgt := 57) hx hb dd_X_beginPhase_13 (by decide) (fun h13 => ?_) (fun h13 => ?_)
      · -- 13: t to 57
        have h := (nI_leI (by omega) (by omega)).mp h13
        have hie : i = xN x := by omega
        subst hie
        refine W.widen (k := 7) (n := 42) (by omega) (by omega) ?_
        exact f_vret (pc := 57) cx hr hlocks hP hS rfl dd_X_beginPhase_57
      · -- 13: f to 16
        have h : i < xN x := Nat.lt_of_not_le (fun q => h13 ((nI_leI (by omega) (by omega)).mpr q))
        obtain ⟨v10, v11, v12⟩ := vS i h
        obtain ⟨v13, v14, v13r, v14r⟩ := vR _ (row_lt hc h)
        refine lv_aload_n (pc := 16) hx hb dd_X_beginPhase_16 rfl (lv_at hl 1 rfl) ?_
        refine g_X_X_servers (pc := 17) cx hP (by assumption) dd_X_beginPhase_17 ?_
        refine lv_iload_n (pc := 20) hx hb dd_X_beginPhase_20 rfl (lv_at hl 0 rfl) ?_
        refine f_ald4 (pc := 21) cx hP (by assumption) rfl (by omega) dd_X_beginPhase_21 ?_
        refine g_X_S_crashed (pc := 22) cx hP (by assumption) dd_X_beginPhase_22 ?_
        refine f_neB (pc := 25) (tgt := 51) cx dd_X_beginPhase_25 (by decide) (fun h25 => ?_) (fun h25 => ?_)
        · -- 25: t to 51
          have e0 : e_bgs x (e_enter S c ph) c (i) = e_bgs x (e_enter S c ph) c (i + 1) := by show _ = e_bg1 x (e_bgs x (e_enter S c ph) c (i)) c i; unfold e_bg1; rw [if_pos h25]
          refine lv_iinc (pc := 51) (k := 0) (lv' := [(3, _), (0, _), (1, _), (2, _)]) hx hb dd_X_beginPhase_51 hl rfl (f_inc1 i) (Nat.le_of_ble_eq_true rfl) rfl (fun ls hl => ?_)
          refine lv_goto (pc := 54) (tgt := 7) hx hb dd_X_beginPhase_54 (by decide) ?_
          refine W.widen (k := i + 1) (n := 6 * (i + 1)) (by omega) (by omega) ?_
          exact ih (i + 1) _ _ (by omega) (by omega) (f_eqS hP e0) hS ls (lv_sub hl [0, 1, 2, 3] rfl)
        · -- 25: f to 28
          have e0 : e_app (e_req x (e_bgs x (e_enter S c ph) c (i)) c i) (c * xN x + i) (mZ (e_bgs x (e_enter S c ph) c (i))) = e_bgs x (e_enter S c ph) c (i + 1) := by show _ = e_bg1 x (e_bgs x (e_enter S c ph) c (i)) c i; unfold e_bg1; rw [if_neg (by rw [h25]; decide)]
          have hfa : fvL x (e_req x (e_bgs x (e_enter S c ph) c (i)) c i) (mZ (e_bgs x (e_enter S c ph) c (i))) := by
            have := fvL_new hP
            unfold e_req
            split <;> exact this
          have hle : mU (e_req x (e_bgs x (e_enter S c ph) c (i)) c i) 13 (c * xN x + i) 1 ≤ 7 := by rw [e_req_U]; exact e_bgs_le x _ c h7e i _
          refine lv_aload_n (pc := 28) hx hb dd_X_beginPhase_28 rfl (lv_at hl 1 rfl) ?_
          refine g_X_X_requestRows (pc := 29) cx hP (by assumption) dd_X_beginPhase_29 ?_
          refine lv_aload_n (pc := 32) hx hb dd_X_beginPhase_32 rfl (lv_at hl 1 rfl) ?_
          refine lv_aload_n (pc := 33) hx hb dd_X_beginPhase_33 rfl (lv_at hl 2 rfl) ?_
          refine g_X_C_number (pc := 34) cx hP (by assumption) dd_X_beginPhase_34 ?_
          refine lv_iload_n (pc := 37) hx hb dd_X_beginPhase_37 rfl (lv_at hl 0 rfl) ?_
          refine k_X_X_rowOf (pc := 38) cx hl hP hS (by assumption) (ct_X_rowOf l x _ ⟨v0, v1, v2, v3, v4, v5, v6, vC, vS, vR⟩ c i) ⟨⟨rfl, rfl⟩, ⟨(Nat.le_of_ble_eq_true rfl), (Nat.le_of_ble_eq_true rfl)⟩, (by show i + 0 ≤ 7; omega), (by show 6 * i + 0 ≤ 42; omega)⟩ (Nat.le_of_ble_eq_true rfl) dd_X_beginPhase_38 (fun H locs hP hS => ?_)
          refine f_ald5 (pc := 41) cx hP (by assumption) rfl (row_lt hc h) dd_X_beginPhase_41 ?_
          refine lv_aload_n (pc := 42) hx hb dd_X_beginPhase_42 rfl (lv_at hl 1 rfl) ?_
          refine lv_iload_n (pc := 43) hx hb dd_X_beginPhase_43 rfl (lv_at hl 0 rfl) ?_
          refine lv_aload_n (pc := 44) hx hb dd_X_beginPhase_44 rfl (lv_at hl 2 rfl) ?_
          refine k_X_X_requestTo (pc := 45) cx hl hP hS (by assumption) (ct_X_requestTo l x _ ⟨v0, v1, v2, v3, v4, v5, v6, vC, vS, vR⟩ i c h hc hO) ⟨⟨rfl, rfl⟩, ⟨(Nat.le_of_ble_eq_true rfl), (Nat.le_of_ble_eq_true rfl)⟩, (by show i + 0 + 1 ≤ 7; omega), (by show 6 * i + 0 + 6 ≤ 42; omega)⟩ (Nat.le_of_ble_eq_true rfl) dd_X_beginPhase_45 (fun H locs hP hS => ?_)
          refine f_st (w := [.ref (mZ (e_bgs x (e_enter S c ph) c (i))), .ref (xa x 13 (c * xN x + i))]) rfl ?_
          refine k_X_R_append (pc := 48) cx hl hP hS (by assumption) (ct_R_append l x _ (c * xN x + i) (mZ (e_bgs x (e_enter S c ph) c (i))) v13 v14 hfa hle) ⟨⟨rfl, rfl⟩, ⟨(Nat.le_of_ble_eq_true rfl), (Nat.le_of_ble_eq_true rfl)⟩, (by show i + 0 + 1 + 0 ≤ 7; omega), (by show 6 * i + 0 + 6 + 0 ≤ 42; omega)⟩ (Nat.le_of_ble_eq_true rfl) dd_X_beginPhase_48 (fun H locs hP hS => ?_)
          refine lv_iinc (pc := 51) (k := 0) (lv' := [(3, _), (0, _), (1, _), (2, _)]) hx hb dd_X_beginPhase_51 hl rfl (f_inc1 i) (Nat.le_of_ble_eq_true rfl) rfl (fun ls hl => ?_)
          refine lv_goto (pc := 54) (tgt := 7) hx hb dd_X_beginPhase_54 (by decide) ?_
          refine W.widen (k := i + 1) (n := 6 * (i + 1)) (by omega) (by omega) ?_
          exact ih (i + 1) _ _ (by omega) (by omega) (f_eqS hP e0) hS ls (lv_sub hl [0, 1, 2, 3] rfl)
  refine lv_aload_n (pc := 0) hx hb dd_X_beginPhase_0 rfl (lv_at hl 1 rfl) ?_
  refine lv_iload_n (pc := 1) hx hb dd_X_beginPhase_1 rfl (lv_at hl 2 rfl) ?_
  refine k_X_C_enter (pc := 2) cx hl hP hS (by assumption) (ct_C_enter l x S c ph v7) ⟨⟨rfl, rfl⟩, ⟨(Nat.le_of_ble_eq_true rfl), (Nat.le_of_ble_eq_true rfl)⟩, (Nat.le_of_ble_eq_true rfl), (Nat.le_of_ble_eq_true rfl)⟩ (Nat.le_of_ble_eq_true rfl) dd_X_beginPhase_2 (fun H locs hP hS => ?_)
  refine lv_iconst (pc := 5) (v := nI 0) hx hb dd_X_beginPhase_5 (by decide) ?_
  refine lv_istore_n (pc := 6) (lv' := [(3, _), (0, _), (1, _), (2, _)]) hx hb dd_X_beginPhase_6 rfl hl (Nat.le_of_ble_eq_true rfl) rfl (fun ls hl => ?_)
  exact loop (xN x + 1) 0 _ _ (by omega) (by omega) hP hS ls (lv_sub hl [0, 1, 2, 3] rfl)
end
section
-- contracts of interpolate and decode, by wip/whole/gen/c_dec.py
theorem f_dec {n : Nat} (h : 0 < n) : nI n + Int32.ofInt (-1) = nI (n - 1) := by
  obtain ⟨k, rfl⟩ : ∃ k, n = k + 1 := ⟨n - 1, by omega⟩
  rw [f_dec1]; rfl
theorem f_sub2 {K : Nat} (h : 1 ≤ K) : nI K - 2 = nI (K - 1) - 1 := by
  obtain ⟨k, rfl⟩ : ∃ k, K = k + 1 := ⟨K - 1, by omega⟩
  rw [show k + 1 - 1 = k from rfl, ← nI_1]
  have h1 : ∀ z : Int32, z + 1 - 2 = z - 1 := by
    intro z
    rw [Int32.sub_eq_add_neg, Int32.sub_eq_add_neg, Int32.add_assoc]
    rfl
  exact h1 _
theorem f_sbs (t p : Nat) : nI (t + p) - nI t = nI p := by rw [pk_sub (by omega), Nat.add_sub_cancel_left]
set_option maxHeartbeats 4000000 in
set_option maxRecDepth 100000 in
theorem ct_K_interp (l : Launch) (x : fy) (S : fm) (c : Nat) (v1 : fv x 1 0) (v2 : fv x 2 0) (v8 : fv x 8 c) (hO : fO x) (h7 : ∀ j, mU S 8 c j < 7) : Met l mn_K_interpolate (gw_ws mn_K_interpolate cb_K_interpolate 5 none) ({ frames := 2, cells := 0, slots := 0, locals := 47 } : Room) (fPc x (S) [.ref (xa x 1 0), .ref (xa x 8 c)]) (fQv x (rU S 2 0 (ipol (pts S c) (xK x) (mU S 2 0)))) 0 0 (fun q => xs x ≤ q) := by
  refine f_met (by decide) (Nat.le_of_ble_eq_true rfl) ?_
  intro p e s m below meth c0 cx hr hlocks hnm hP hS ls hl
  have cx : fX rn_K cb_K_interpolate 5 p c0 s m [.ref (xa x 1 0), .ref (xa x 8 c)].toArray x := cx
  have hx := cx.1.1
  have hb := cx.1.2.1
  have hl : lv_has ls 5 [(0, .ref (xa x 1 0)), (1, .ref (xa x 8 c))] := hl
  have hK : xK x ≤ 7 := by have := hO; unfold fO at this; omega
  have hK1 : 1 ≤ xK x := hO.2.2.2.2.1
  have in2 : ∀ (st : Nat) (U2 : Nat → Nat), st + 1 ≤ xK x → (∀ (H : Heap) (locs : List Loc), fP x (rU S 2 0 (U2)) H → fS x s.heap H locs → ∀ ls : Array Slot, lv_has ls 5 [(2, .int (nI st)), (0, .ref (xa x 1 0)), (1, .ref (xa x 8 c))] → W p l e ({ frames := 2, cells := 0, slots := 0, locals := 47 } : Room) s m [.ref (xa x 1 0), .ref (xa x 8 c)].toArray below meth c0 H locs 0 0 (MQ below (fQv x (rU S 2 0 (ipol (pts S c) (xK x) (mU S 2 0)))) [.ref (xa x 1 0), .ref (xa x 8 c)].toArray s 0 0 (fun q => xs x ≤ q)) (F0 m 135 ls [])) → ∀ (q : Nat) (u : Nat → Nat) (H : Heap) (locs : List Loc), q ≤ xK x - 1 - st → ipC (pts S c) (xK x) st q u = U2 → fP x (rU S 2 0 (u)) H → fS x s.heap H locs → ∀ ls : Array Slot, lv_has ls 5 [(3, .int (nI (xK x - 1 - q))), (2, .int (nI st)), (0, .ref (xa x 1 0)), (1, .ref (xa x 8 c))] → W p l e ({ frames := 2, cells := 0, slots := 0, locals := 47 } : Room) s m [.ref (xa x 1 0), .ref (xa x 8 c)].toArray below meth c0 H locs 0 0 (MQ below (fQv x (rU S 2 0 (ipol (pts S c) (xK x) (mU S 2 0)))) [.ref (xa x 1 0), .ref (xa x 8 c)].toArray s 0 0 (fun q => xs x ≤ q)) (F0 m 93 ls []) := by
    intro st U2 hst kk q
    induction q with
    | zero =>
      intro u H locs hq hU hP hS ls hl
      rw [Nat.sub_zero] at hl
      refine lv_iload_n (pc := 93) hx hb dd_K_interpolate_93 rfl (lv_at hl 0 rfl) ?_
      refine lv_aload_n (pc := 94) hx hb dd_K_interpolate_94 rfl (lv_at hl 2 rfl) ?_
      refine g_K_K_needed (pc := 95) cx hP (by assumption) dd_K_interpolate_95 ?_
      refine lv_iconst (pc := 98) (v := 1) hx hb dd_K_interpolate_98 (by decide) ?_
      refine lv_isub (pc := 99) hx hb dd_K_interpolate_99 ?_
      refine f_topi (f_pred (by omega)) ?_
      refine lv_icmp_ge (pc := 100) (tgt := 135) hx hb dd_K_interpolate_100 (by decide) (fun h100 => ?_) (fun h100 => ?_)
      · -- 100: t to 135
        exact kk _ _ (f_eqS hP (by rw [← hU]; rfl)) hS ls (lv_sub hl [1, 2, 3] rfl)
      · -- 100: f to 103
        exact absurd ((nI_leI (by omega) (by omega)).mpr (Nat.le_refl _)) h100
    | succ q ih =>
      intro u H locs hq hU hP hS ls hl
      refine lv_iload_n (pc := 93) hx hb dd_K_interpolate_93 rfl (lv_at hl 0 rfl) ?_
      refine lv_aload_n (pc := 94) hx hb dd_K_interpolate_94 rfl (lv_at hl 2 rfl) ?_
      refine g_K_K_needed (pc := 95) cx hP (by assumption) dd_K_interpolate_95 ?_
      refine lv_iconst (pc := 98) (v := 1) hx hb dd_K_interpolate_98 (by decide) ?_
      refine lv_isub (pc := 99) hx hb dd_K_interpolate_99 ?_
      refine f_topi (f_pred (by omega)) ?_
      refine lv_icmp_ge (pc := 100) (tgt := 135) hx hb dd_K_interpolate_100 (by decide) (fun h100 => ?_) (fun h100 => ?_)
      · -- 100: t to 135
        exact absurd ((nI_leI (by omega) (by omega)).mp h100) (by omega)
      · -- 100: f to 103
        refine lv_aload_n (pc := 103) hx hb dd_K_interpolate_103 rfl (lv_at hl 2 rfl) ?_
        refine g_K_K_column (pc := 104) cx hP (by assumption) dd_K_interpolate_104 ?_
        refine lv_iload_n (pc := 107) hx hb dd_K_interpolate_107 rfl (lv_at hl 0 rfl) ?_
        refine lv_dup2_11 (pc := 108) hx hb dd_K_interpolate_108 rfl rfl ?_
        refine f_iald (pc := 109) cx hP (fv.at (by assumption) _) rfl rfl (by omega) dd_K_interpolate_109 ?_
        refine lv_aload_n (pc := 110) hx hb dd_K_interpolate_110 rfl (lv_at hl 3 rfl) ?_
        refine lv_iload_n (pc := 111) hx hb dd_K_interpolate_111 rfl (lv_at hl 1 rfl) ?_
        refine f_iald (pc := 112) cx hP (fv.at (by assumption) _) rfl rfl (by omega) dd_K_interpolate_112 ?_
        refine k_K_K_pointOf (pc := 113) cx hl hP hS (ct_K_pointOf l x _ _) ⟨⟨rfl, rfl⟩, ⟨(Nat.le_of_ble_eq_true rfl), (Nat.le_of_ble_eq_true rfl)⟩, (Nat.le_of_ble_eq_true rfl), (Nat.le_of_ble_eq_true rfl)⟩ (Nat.le_of_ble_eq_true rfl) dd_K_interpolate_113 (fun H locs hP hS => ?_)
        refine f_topi (f_pt (h7 st)) ?_
        refine lv_aload_n (pc := 116) hx hb dd_K_interpolate_116 rfl (lv_at hl 2 rfl) ?_
        refine g_K_K_column (pc := 117) cx hP (by assumption) dd_K_interpolate_117 ?_
        refine lv_iload_n (pc := 120) hx hb dd_K_interpolate_120 rfl (lv_at hl 0 rfl) ?_
        refine lv_iconst (pc := 121) (v := 1) hx hb dd_K_interpolate_121 (by decide) ?_
        refine lv_iadd (pc := 122) hx hb dd_K_interpolate_122 ?_
        refine f_topi (nI_1 _) ?_
        refine f_iald (pc := 123) cx hP (fv.at (by assumption) _) rfl rfl (by omega) dd_K_interpolate_123 ?_
        refine k_K_K_times (pc := 124) cx hl hP hS (ct_K_times l x _ (pts S c st) (cb u (xK x - 1 - (q + 1) + 1))) ⟨⟨rfl, rfl⟩, ⟨(Nat.le_of_ble_eq_true rfl), (Nat.le_of_ble_eq_true rfl)⟩, (Nat.le_of_ble_eq_true rfl), (Nat.le_of_ble_eq_true rfl)⟩ (Nat.le_of_ble_eq_true rfl) dd_K_interpolate_124 (fun H locs hP hS => ?_)
        refine lv_ixor (pc := 127) hx hb dd_K_interpolate_127 ?_
        refine f_topi (bI_xor (cb u (xK x - 1 - (q + 1))) _) ?_
        refine f_iastY (pc := 128) cx hP hS (fv.at (by assumption) _) (fun _ => rfl) rfl rfl (by omega) dd_K_interpolate_128 (fun H locs hP hS => ?_)
        have hP := f_eqS (T' := rU S 2 0 (va_up u (xK x - 1 - (q + 1)) (cb u (xK x - 1 - (q + 1)) ^^^ gf_m (pts S c st) (cb u (xK x - 1 - (q + 1) + 1))).toNat)) hP (by rw [sU_rU])
        refine lv_iinc (pc := 129) (k := 0) (lv' := [(3, _), (2, _), (0, _), (1, _)]) hx hb dd_K_interpolate_129 hl rfl (f_inc1 _) (Nat.le_of_ble_eq_true rfl) rfl (fun ls hl => ?_)
        refine lv_goto (pc := 132) (tgt := 93) hx hb dd_K_interpolate_132 (by decide) ?_
        rw [show xK x - 1 - (q + 1) + 1 = xK x - 1 - q by omega] at hl
        exact ih _ _ _ (by omega) hU hP hS ls (lv_sub hl [0, 1, 2, 3] rfl)
  have ou2 : ∀ (n : Nat) (u : Nat → Nat) (H : Heap) (locs : List Loc), n + 1 ≤ xK x → ipD (pts S c) (xK x) n u = ipol (pts S c) (xK x) (mU S 2 0) → fP x (rU S 2 0 (u)) H → fS x s.heap H locs → ∀ ls : Array Slot, lv_has ls 5 [(2, .int (nI n - 1)), (0, .ref (xa x 1 0)), (1, .ref (xa x 8 c))] → W p l e ({ frames := 2, cells := 0, slots := 0, locals := 47 } : Room) s m [.ref (xa x 1 0), .ref (xa x 8 c)].toArray below meth c0 H locs 0 0 (MQ below (fQv x (rU S 2 0 (ipol (pts S c) (xK x) (mU S 2 0)))) [.ref (xa x 1 0), .ref (xa x 8 c)].toArray s 0 0 (fun q => xs x ≤ q)) (F0 m 87 ls []) := by
    intro n
    induction n with
    | zero =>
      intro u H locs hn hU hP hS ls hl
      refine lv_iload_n (pc := 87) hx hb dd_K_interpolate_87 rfl (lv_at hl 0 rfl) ?_
      refine lv_if_lt (pc := 88) (tgt := 141) hx hb dd_K_interpolate_88 (by decide) (fun h88 => ?_) (fun h88 => ?_)
      · -- 88: t to 141
        exact f_vret (pc := 141) cx hr hlocks hP hS (by rw [← hU]; rfl) dd_K_interpolate_141
      · -- 88: f to 91
        exact absurd (by decide) h88
    | succ n ih =>
      intro u H locs hn hU hP hS ls hl
      rw [nI_pred] at hl
      refine lv_iload_n (pc := 87) hx hb dd_K_interpolate_87 rfl (lv_at hl 0 rfl) ?_
      refine lv_if_lt (pc := 88) (tgt := 141) hx hb dd_K_interpolate_88 (by decide) (fun h88 => ?_) (fun h88 => ?_)
      · -- 88: t to 141
        exact absurd h88 (nI_pos (by omega))
      · -- 88: f to 91
        refine lv_iload_n (pc := 91) hx hb dd_K_interpolate_91 rfl (lv_at hl 0 rfl) ?_
        refine lv_istore_n (pc := 92) (lv' := [(3, _), (2, _), (0, _), (1, _)]) hx hb dd_K_interpolate_92 rfl hl (Nat.le_of_ble_eq_true rfl) rfl (fun ls hl => ?_)
        have hl := (lv_sub hl [0, 1, 2, 3] rfl)
        have hl : lv_has ls 5 [(3, .int (nI n)), (2, .int (nI n)), (0, .ref (xa x 1 0)), (1, .ref (xa x 8 c))] := hl
        have hl : lv_has ls 5 [(3, .int (nI (xK x - 1 - (xK x - 1 - n)))), (2, .int (nI n)), (0, .ref (xa x 1 0)), (1, .ref (xa x 8 c))] := by rw [show xK x - 1 - (xK x - 1 - n) = n by omega]; exact hl
        refine in2 n _ (by omega) (fun H locs hP hS ls hl => ?_) (xK x - 1 - n) u _ _ (Nat.le_refl _) rfl hP hS ls hl
        refine lv_iinc (pc := 135) (k := 0) (lv' := [(2, _), (0, _), (1, _)]) hx hb dd_K_interpolate_135 hl rfl (f_m1 (nI n)) (Nat.le_of_ble_eq_true rfl) rfl (fun ls hl => ?_)
        refine lv_goto (pc := 138) (tgt := 87) hx hb dd_K_interpolate_138 (by decide) ?_
        exact ih _ _ _ (by omega) hU hP hS ls (lv_sub hl [0, 1, 2] rfl)
  have in1 : ∀ (t : Nat) (U2 : Nat → Nat), 1 ≤ t → (∀ (H : Heap) (locs : List Loc), fP x (rU S 2 0 (U2)) H → fS x s.heap H locs → ∀ ls : Array Slot, lv_has ls 5 [(2, .int (nI t)), (0, .ref (xa x 1 0)), (1, .ref (xa x 8 c))] → W p l e ({ frames := 2, cells := 0, slots := 0, locals := 47 } : Room) s m [.ref (xa x 1 0), .ref (xa x 8 c)].toArray below meth c0 H locs 0 0 (MQ below (fQv x (rU S 2 0 (ipol (pts S c) (xK x) (mU S 2 0)))) [.ref (xa x 1 0), .ref (xa x 8 c)].toArray s 0 0 (fun q => xs x ≤ q)) (F0 m 74 ls [])) → ∀ (q : Nat) (u : Nat → Nat) (H : Heap) (locs : List Loc), t + q ≤ xK x → ipA (pts S c) t q u = U2 → fP x (rU S 2 0 (u)) H → fS x s.heap H locs → ∀ ls : Array Slot, lv_has ls 5 [(3, .int (nI (t + q - 1))), (2, .int (nI t)), (0, .ref (xa x 1 0)), (1, .ref (xa x 8 c))] → W p l e ({ frames := 2, cells := 0, slots := 0, locals := 47 } : Room) s m [.ref (xa x 1 0), .ref (xa x 8 c)].toArray below meth c0 H locs 0 0 (MQ below (fQv x (rU S 2 0 (ipol (pts S c) (xK x) (mU S 2 0)))) [.ref (xa x 1 0), .ref (xa x 8 c)].toArray s 0 0 (fun q => xs x ≤ q)) (F0 m 17 ls []) := by
    intro t U2 ht kk q
    induction q with
    | zero =>
      intro u H locs hq hU hP hS ls hl
      refine lv_iload_n (pc := 17) hx hb dd_K_interpolate_17 rfl (lv_at hl 0 rfl) ?_
      refine lv_iload_n (pc := 18) hx hb dd_K_interpolate_18 rfl (lv_at hl 1 rfl) ?_
      refine lv_icmp_lt (pc := 19) (tgt := 74) hx hb dd_K_interpolate_19 (by decide) (fun h19 => ?_) (fun h19 => ?_)
      · -- 19: t to 74
        exact kk _ _ (f_eqS hP (by rw [← hU]; rfl)) hS ls (lv_sub hl [1, 2, 3] rfl)
      · -- 19: f to 22
        exact absurd ((nI_ltI (by omega) (by omega)).mpr (by omega)) h19
    | succ q ih =>
      intro u H locs hq hU hP hS ls hl
      rw [show t + (q + 1) - 1 = t + q by omega] at hl
      refine lv_iload_n (pc := 17) hx hb dd_K_interpolate_17 rfl (lv_at hl 0 rfl) ?_
      refine lv_iload_n (pc := 18) hx hb dd_K_interpolate_18 rfl (lv_at hl 1 rfl) ?_
      refine lv_icmp_lt (pc := 19) (tgt := 74) hx hb dd_K_interpolate_19 (by decide) (fun h19 => ?_) (fun h19 => ?_)
      · -- 19: t to 74
        exact absurd ((nI_ltI (by omega) (by omega)).mp h19) (by omega)
      · -- 19: f to 22
        refine lv_aload_n (pc := 22) hx hb dd_K_interpolate_22 rfl (lv_at hl 3 rfl) ?_
        refine lv_iload_n (pc := 23) hx hb dd_K_interpolate_23 rfl (lv_at hl 0 rfl) ?_
        refine f_iald (pc := 24) cx hP (fv.at (by assumption) _) rfl rfl (by omega) dd_K_interpolate_24 ?_
        refine k_K_K_pointOf (pc := 25) cx hl hP hS (ct_K_pointOf l x _ _) ⟨⟨rfl, rfl⟩, ⟨(Nat.le_of_ble_eq_true rfl), (Nat.le_of_ble_eq_true rfl)⟩, (Nat.le_of_ble_eq_true rfl), (Nat.le_of_ble_eq_true rfl)⟩ (Nat.le_of_ble_eq_true rfl) dd_K_interpolate_25 (fun H locs hP hS => ?_)
        refine f_topi (f_pt (h7 (t + q))) ?_
        refine lv_aload_n (pc := 28) hx hb dd_K_interpolate_28 rfl (lv_at hl 3 rfl) ?_
        refine lv_iload_n (pc := 29) hx hb dd_K_interpolate_29 rfl (lv_at hl 0 rfl) ?_
        refine lv_iload_n (pc := 30) hx hb dd_K_interpolate_30 rfl (lv_at hl 1 rfl) ?_
        refine lv_isub (pc := 31) hx hb dd_K_interpolate_31 ?_
        refine f_topi (f_sbs t q) ?_
        refine f_iald (pc := 32) cx hP (fv.at (by assumption) _) rfl rfl (by omega) dd_K_interpolate_32 ?_
        refine k_K_K_pointOf (pc := 33) cx hl hP hS (ct_K_pointOf l x _ _) ⟨⟨rfl, rfl⟩, ⟨(Nat.le_of_ble_eq_true rfl), (Nat.le_of_ble_eq_true rfl)⟩, (Nat.le_of_ble_eq_true rfl), (Nat.le_of_ble_eq_true rfl)⟩ (Nat.le_of_ble_eq_true rfl) dd_K_interpolate_33 (fun H locs hP hS => ?_)
        refine f_topi (f_pt (h7 q)) ?_
        refine lv_ixor (pc := 36) hx hb dd_K_interpolate_36 ?_
        refine f_topi (bI_xor (pts S c (t + q)) (pts S c q)) ?_
        refine lv_istore (pc := 37) (lv' := [(4, _), (3, _), (2, _), (0, _), (1, _)]) hx hb dd_K_interpolate_37 hl (Nat.le_of_ble_eq_true rfl) rfl (fun ls hl => ?_)
        refine lv_aload_n (pc := 39) hx hb dd_K_interpolate_39 rfl (lv_at hl 3 rfl) ?_
        refine g_K_K_column (pc := 40) cx hP (by assumption) dd_K_interpolate_40 ?_
        refine lv_iload_n (pc := 43) hx hb dd_K_interpolate_43 rfl (lv_at hl 1 rfl) ?_
        refine lv_aload_n (pc := 44) hx hb dd_K_interpolate_44 rfl (lv_at hl 3 rfl) ?_
        refine g_K_K_column (pc := 45) cx hP (by assumption) dd_K_interpolate_45 ?_
        refine lv_iload_n (pc := 48) hx hb dd_K_interpolate_48 rfl (lv_at hl 1 rfl) ?_
        refine f_iald (pc := 49) cx hP (fv.at (by assumption) _) rfl rfl (by omega) dd_K_interpolate_49 ?_
        refine lv_aload_n (pc := 50) hx hb dd_K_interpolate_50 rfl (lv_at hl 3 rfl) ?_
        refine g_K_K_column (pc := 51) cx hP (by assumption) dd_K_interpolate_51 ?_
        refine lv_iload_n (pc := 54) hx hb dd_K_interpolate_54 rfl (lv_at hl 1 rfl) ?_
        refine lv_iconst (pc := 55) (v := 1) hx hb dd_K_interpolate_55 (by decide) ?_
        refine lv_isub (pc := 56) hx hb dd_K_interpolate_56 ?_
        refine f_topi (f_pred (by omega)) ?_
        refine f_iald (pc := 57) cx hP (fv.at (by assumption) _) rfl rfl (by omega) dd_K_interpolate_57 ?_
        refine lv_ixor (pc := 58) hx hb dd_K_interpolate_58 ?_
        refine f_topi (bI_xor (cb u (t + q)) (cb u (t + q - 1))) ?_
        refine lv_iload (pc := 59) hx hb dd_K_interpolate_59 (lv_at hl 0 rfl) ?_
        refine k_K_K_inverse (pc := 61) cx hl hP hS (ct_K_inverse l x _ (pts S c (t + q) ^^^ pts S c q)) ⟨⟨rfl, rfl⟩, ⟨(Nat.le_of_ble_eq_true rfl), (Nat.le_of_ble_eq_true rfl)⟩, (Nat.le_of_ble_eq_true rfl), (Nat.le_of_ble_eq_true rfl)⟩ (Nat.le_of_ble_eq_true rfl) dd_K_interpolate_61 (fun H locs hP hS => ?_)
        refine k_K_K_times (pc := 64) cx hl hP hS (ct_K_times l x _ (cb u (t + q) ^^^ cb u (t + q - 1)) (gf_i (pts S c (t + q) ^^^ pts S c q))) ⟨⟨rfl, rfl⟩, ⟨(Nat.le_of_ble_eq_true rfl), (Nat.le_of_ble_eq_true rfl)⟩, (Nat.le_of_ble_eq_true rfl), (Nat.le_of_ble_eq_true rfl)⟩ (Nat.le_of_ble_eq_true rfl) dd_K_interpolate_64 (fun H locs hP hS => ?_)
        refine f_iastY (pc := 67) cx hP hS (fv.at (by assumption) _) (fun _ => rfl) rfl rfl (by omega) dd_K_interpolate_67 (fun H locs hP hS => ?_)
        have hP := f_eqS (T' := rU S 2 0 (va_up u (t + q) (gf_m (cb u (t + q) ^^^ cb u (t + q - 1)) (gf_i (pts S c (t + q) ^^^ pts S c q))).toNat)) hP (by rw [sU_rU])
        refine lv_iinc (pc := 68) (k := 1) (lv' := [(3, _), (4, _), (2, _), (0, _), (1, _)]) hx hb dd_K_interpolate_68 hl rfl (f_dec (by omega)) (Nat.le_of_ble_eq_true rfl) rfl (fun ls hl => ?_)
        refine lv_goto (pc := 71) (tgt := 17) hx hb dd_K_interpolate_71 (by decide) ?_
        exact ih _ _ _ (by omega) hU hP hS ls (lv_sub hl [0, 2, 3, 4] rfl)
  have ou1 : ∀ (n t : Nat) (u : Nat → Nat) (H : Heap) (locs : List Loc), 1 ≤ t → t + n = xK x → ipB (pts S c) (xK x) n u = ipB (pts S c) (xK x) (xK x - 1) (mU S 2 0) → fP x (rU S 2 0 (u)) H → fS x s.heap H locs → ∀ ls : Array Slot, lv_has ls 5 [(2, .int (nI t)), (0, .ref (xa x 1 0)), (1, .ref (xa x 8 c))] → W p l e ({ frames := 2, cells := 0, slots := 0, locals := 47 } : Room) s m [.ref (xa x 1 0), .ref (xa x 8 c)].toArray below meth c0 H locs 0 0 (MQ below (fQv x (rU S 2 0 (ipol (pts S c) (xK x) (mU S 2 0)))) [.ref (xa x 1 0), .ref (xa x 8 c)].toArray s 0 0 (fun q => xs x ≤ q)) (F0 m 2 ls []) := by
    intro n
    induction n with
    | zero =>
      intro t u H locs ht hn hU hP hS ls hl
      refine lv_iload_n (pc := 2) hx hb dd_K_interpolate_2 rfl (lv_at hl 0 rfl) ?_
      refine lv_aload_n (pc := 3) hx hb dd_K_interpolate_3 rfl (lv_at hl 1 rfl) ?_
      refine g_K_K_needed (pc := 4) cx hP (by assumption) dd_K_interpolate_4 ?_
      refine lv_icmp_ge (pc := 7) (tgt := 80) hx hb dd_K_interpolate_7 (by decide) (fun hh7 => ?_) (fun hh7 => ?_)
      · -- 7: t to 80
        refine lv_aload_n (pc := 80) hx hb dd_K_interpolate_80 rfl (lv_at hl 1 rfl) ?_
        refine g_K_K_needed (pc := 81) cx hP (by assumption) dd_K_interpolate_81 ?_
        refine lv_iconst (pc := 84) (v := 2) hx hb dd_K_interpolate_84 (by decide) ?_
        refine lv_isub (pc := 85) hx hb dd_K_interpolate_85 ?_
        refine f_topi (f_sub2 hK1) ?_
        refine lv_istore_n (pc := 86) (lv' := [(2, _), (0, _), (1, _)]) hx hb dd_K_interpolate_86 rfl hl (Nat.le_of_ble_eq_true rfl) rfl (fun ls hl => ?_)
        exact ou2 (xK x - 1) u _ _ (by omega) (by rw [show u = ipB (pts S c) (xK x) (xK x - 1) (mU S 2 0) from hU]; rfl) hP hS ls (lv_sub hl [0, 1, 2] rfl)
      · -- 7: f to 10
        exact absurd ((nI_leI (by omega) (by omega)).mpr (by omega)) hh7
    | succ n ih =>
      intro t u H locs ht hn hU hP hS ls hl
      refine lv_iload_n (pc := 2) hx hb dd_K_interpolate_2 rfl (lv_at hl 0 rfl) ?_
      refine lv_aload_n (pc := 3) hx hb dd_K_interpolate_3 rfl (lv_at hl 1 rfl) ?_
      refine g_K_K_needed (pc := 4) cx hP (by assumption) dd_K_interpolate_4 ?_
      refine lv_icmp_ge (pc := 7) (tgt := 80) hx hb dd_K_interpolate_7 (by decide) (fun hh7 => ?_) (fun hh7 => ?_)
      · -- 7: t to 80
        exact absurd ((nI_leI (by omega) (by omega)).mp hh7) (by omega)
      · -- 7: f to 10
        refine lv_aload_n (pc := 10) hx hb dd_K_interpolate_10 rfl (lv_at hl 1 rfl) ?_
        refine g_K_K_needed (pc := 11) cx hP (by assumption) dd_K_interpolate_11 ?_
        refine lv_iconst (pc := 14) (v := 1) hx hb dd_K_interpolate_14 (by decide) ?_
        refine lv_isub (pc := 15) hx hb dd_K_interpolate_15 ?_
        refine f_topi (f_pred (by omega)) ?_
        refine lv_istore_n (pc := 16) (lv' := [(3, _), (2, _), (0, _), (1, _)]) hx hb dd_K_interpolate_16 rfl hl (Nat.le_of_ble_eq_true rfl) rfl (fun ls hl => ?_)
        have hl := (lv_sub hl [0, 1, 2, 3] rfl)
        have hl : lv_has ls 5 [(3, .int (nI (t + (n + 1) - 1))), (2, .int (nI t)), (0, .ref (xa x 1 0)), (1, .ref (xa x 8 c))] := by rw [show t + (n + 1) - 1 = xK x - 1 by omega]; exact hl
        refine in1 t _ ht (fun H locs hP hS ls hl => ?_) (n + 1) u _ _ (by omega) rfl hP hS ls hl
        refine lv_iinc (pc := 74) (k := 0) (lv' := [(2, _), (0, _), (1, _)]) hx hb dd_K_interpolate_74 hl rfl (f_inc1 t) (Nat.le_of_ble_eq_true rfl) rfl (fun ls hl => ?_)
        refine lv_goto (pc := 77) (tgt := 2) hx hb dd_K_interpolate_77 (by decide) ?_
        exact ih (t + 1) _ _ _ (by omega) (by omega) (by rw [← hU]; show _ = ipB _ _ n (ipA _ (xK x - (n + 1)) (n + 1) u); rw [show xK x - (n + 1) = t by omega]) hP hS ls (lv_sub hl [0, 1, 2] rfl)
  refine lv_iconst (pc := 0) (v := nI 1) hx hb dd_K_interpolate_0 (by decide) ?_
  refine lv_istore_n (pc := 1) (lv' := [(2, _), (0, _), (1, _)]) hx hb dd_K_interpolate_1 rfl hl (Nat.le_of_ble_eq_true rfl) rfl (fun ls hl => ?_)
  have hP := f_eqS (T' := rU S 2 0 (mU S 2 0)) hP (by rw [rU_self])
  exact ou1 (xK x - 1) 1 _ _ _ (by omega) (by omega) rfl hP hS ls (lv_sub hl [0, 1, 2] rfl)
set_option maxHeartbeats 4000000 in
set_option maxRecDepth 100000 in
theorem ct_K_decode (l : Launch) (x : fy) (S : fm) (c : Nat) (v1 : fv x 1 0) (v2 : fv x 2 0) (v8 : fv x 8 c) (hO : fO x) (h7 : ∀ j, mU S 8 c j < 7) (v9 : fv x 9 c) : Met l mn_K_decode (gw_ws mn_K_decode cb_K_decode 7 (some .long)) ({ frames := 3, cells := 0, slots := 0, locals := 71 } : Room) (fPc x (S) [.ref (xa x 1 0), .ref (xa x 8 c), .ref (xa x 9 c)]) (fQl x (rU S 2 0 (decU x S c (xR x))) (decW x S c (xR x))) 0 0 (fun q => xs x ≤ q) := by
  refine f_met (by decide) (Nat.le_of_ble_eq_true rfl) ?_
  intro p e s m below meth c0 cx hr hlocks hnm hP hS ls hl
  have cx : fX rn_K cb_K_decode 7 p c0 s m [.ref (xa x 1 0), .ref (xa x 8 c), .ref (xa x 9 c)].toArray x := cx
  have hx := cx.1.1
  have hb := cx.1.2.1
  have hl : lv_has ls 7 [(0, .ref (xa x 1 0)), (1, .ref (xa x 8 c)), (2, .ref (xa x 9 c))] := hl
  have hR := xR_facts x hO
  have hK : xK x ≤ 7 := by have := hO; unfold fO at this; omega
  have fil : ∀ (r : Nat) (w : Int64) (u0 : Nat → Nat), r < xR x → (∀ (H : Heap) (locs : List Loc), fP x (rU S 2 0 (cfil S c r (xK x) u0)) H → fS x s.heap H locs → ∀ ls : Array Slot, lv_has ls 7 [(5, .int (nI r)), (3, .long (w)), (0, .ref (xa x 1 0)), (1, .ref (xa x 8 c)), (2, .ref (xa x 9 c))] → W p l e ({ frames := 3, cells := 0, slots := 0, locals := 71 } : Room) s m [.ref (xa x 1 0), .ref (xa x 8 c), .ref (xa x 9 c)].toArray below meth c0 H locs 0 0 (MQ below (fQl x (rU S 2 0 (decU x S c (xR x))) (decW x S c (xR x))) [.ref (xa x 1 0), .ref (xa x 8 c), .ref (xa x 9 c)].toArray s 0 0 (fun q => xs x ≤ q)) (F0 m 48 ls [])) → ∀ (n i : Nat) (H : Heap) (locs : List Loc), i + n = xK x → fP x (rU S 2 0 (cfil S c r i u0)) H → fS x s.heap H locs → ∀ ls : Array Slot, lv_has ls 7 [(6, .int (nI i)), (5, .int (nI r)), (3, .long (w)), (0, .ref (xa x 1 0)), (1, .ref (xa x 8 c)), (2, .ref (xa x 9 c))] → W p l e ({ frames := 3, cells := 0, slots := 0, locals := 71 } : Room) s m [.ref (xa x 1 0), .ref (xa x 8 c), .ref (xa x 9 c)].toArray below meth c0 H locs 0 0 (MQ below (fQl x (rU S 2 0 (decU x S c (xR x))) (decW x S c (xR x))) [.ref (xa x 1 0), .ref (xa x 8 c), .ref (xa x 9 c)].toArray s 0 0 (fun q => xs x ≤ q)) (F0 m 17 ls []) := by
    intro r w u0 hrr kk n
    induction n with
    | zero =>
      intro i H locs hi hP hS ls hl
      have hi : i = xK x := by omega
      subst hi
      refine lv_iload (pc := 17) hx hb dd_K_decode_17 (lv_at hl 0 rfl) ?_
      refine lv_aload_n (pc := 19) hx hb dd_K_decode_19 rfl (lv_at hl 3 rfl) ?_
      refine g_K_K_needed (pc := 20) cx hP (by assumption) dd_K_decode_20 ?_
      refine lv_icmp_ge (pc := 23) (tgt := 48) hx hb dd_K_decode_23 (by decide) (fun h23 => ?_) (fun h23 => ?_)
      · -- 23: t to 48
        exact kk _ _ hP hS ls (lv_sub hl [1, 2, 3, 4, 5] rfl)
      · -- 23: f to 26
        exact absurd ((nI_leI (by omega) (by omega)).mpr (Nat.le_refl _)) h23
    | succ n ih =>
      intro i H locs hi hP hS ls hl
      refine lv_iload (pc := 17) hx hb dd_K_decode_17 (lv_at hl 0 rfl) ?_
      refine lv_aload_n (pc := 19) hx hb dd_K_decode_19 rfl (lv_at hl 3 rfl) ?_
      refine g_K_K_needed (pc := 20) cx hP (by assumption) dd_K_decode_20 ?_
      refine lv_icmp_ge (pc := 23) (tgt := 48) hx hb dd_K_decode_23 (by decide) (fun h23 => ?_) (fun h23 => ?_)
      · -- 23: t to 48
        exact absurd ((nI_leI (by omega) (by omega)).mp h23) (by omega)
      · -- 23: f to 26
        refine lv_aload_n (pc := 26) hx hb dd_K_decode_26 rfl (lv_at hl 3 rfl) ?_
        refine g_K_K_column (pc := 27) cx hP (by assumption) dd_K_decode_27 ?_
        refine lv_iload (pc := 30) hx hb dd_K_decode_30 (lv_at hl 0 rfl) ?_
        refine lv_aload_n (pc := 32) hx hb dd_K_decode_32 rfl (lv_at hl 5 rfl) ?_
        refine lv_iload (pc := 33) hx hb dd_K_decode_33 (lv_at hl 0 rfl) ?_
        refine f_lald (pc := 35) cx hP (fv.at (by assumption) _) rfl rfl (by omega) dd_K_decode_35 ?_
        refine lv_iload (pc := 36) hx hb dd_K_decode_36 (lv_at hl 1 rfl) ?_
        refine k_K_K_byteAt (pc := 38) cx hl hP hS (ct_K_byteAt l x _ (mJ S 9 c i) r (by omega)) ⟨⟨rfl, rfl⟩, ⟨(Nat.le_of_ble_eq_true rfl), (Nat.le_of_ble_eq_true rfl)⟩, (Nat.le_of_ble_eq_true rfl), (Nat.le_of_ble_eq_true rfl)⟩ (Nat.le_of_ble_eq_true rfl) dd_K_decode_38 (fun H locs hP hS => ?_)
        refine f_iastY (pc := 41) cx hP hS (fv.at (by assumption) _) (fun _ => rfl) rfl rfl (by omega) dd_K_decode_41 (fun H locs hP hS => ?_)
        have hP := f_eqS (T' := rU S 2 0 (cfil S c r (i + 1) u0)) hP (by rw [sU_rU]; rfl)
        refine lv_iinc (pc := 42) (k := 0) (lv' := [(6, _), (5, _), (3, _), (0, _), (1, _), (2, _)]) hx hb dd_K_decode_42 hl rfl (f_inc1 i) (Nat.le_of_ble_eq_true rfl) rfl (fun ls hl => ?_)
        refine lv_goto (pc := 45) (tgt := 17) hx hb dd_K_decode_45 (by decide) ?_
        exact ih (i + 1) _ _ (by omega) hP hS ls (lv_sub hl [0, 1, 2, 3, 4, 5] rfl)
  have plc : ∀ (r : Nat) (w0 : Int64) (u : Nat → Nat), r < xR x → (∀ (H : Heap) (locs : List Loc), fP x (rU S 2 0 (u)) H → fS x s.heap H locs → ∀ ls : Array Slot, lv_has ls 7 [(5, .int (nI r)), (3, .long (dblk (xK x) r u (xK x) w0)), (0, .ref (xa x 1 0)), (1, .ref (xa x 8 c)), (2, .ref (xa x 9 c))] → W p l e ({ frames := 3, cells := 0, slots := 0, locals := 71 } : Room) s m [.ref (xa x 1 0), .ref (xa x 8 c), .ref (xa x 9 c)].toArray below meth c0 H locs 0 0 (MQ below (fQl x (rU S 2 0 (decU x S c (xR x))) (decW x S c (xR x))) [.ref (xa x 1 0), .ref (xa x 8 c), .ref (xa x 9 c)].toArray s 0 0 (fun q => xs x ≤ q)) (F0 m 94 ls [])) → ∀ (n i : Nat) (H : Heap) (locs : List Loc), i + n = xK x → fP x (rU S 2 0 (u)) H → fS x s.heap H locs → ∀ ls : Array Slot, lv_has ls 7 [(6, .int (nI i)), (5, .int (nI r)), (3, .long (dblk (xK x) r u i w0)), (0, .ref (xa x 1 0)), (1, .ref (xa x 8 c)), (2, .ref (xa x 9 c))] → W p l e ({ frames := 3, cells := 0, slots := 0, locals := 71 } : Room) s m [.ref (xa x 1 0), .ref (xa x 8 c), .ref (xa x 9 c)].toArray below meth c0 H locs 0 0 (MQ below (fQl x (rU S 2 0 (decU x S c (xR x))) (decW x S c (xR x))) [.ref (xa x 1 0), .ref (xa x 8 c), .ref (xa x 9 c)].toArray s 0 0 (fun q => xs x ≤ q)) (F0 m 56 ls []) := by
    intro r w0 u hrr kk n
    induction n with
    | zero =>
      intro i H locs hi hP hS ls hl
      have hi : i = xK x := by omega
      subst hi
      refine lv_iload (pc := 56) hx hb dd_K_decode_56 (lv_at hl 0 rfl) ?_
      refine lv_aload_n (pc := 58) hx hb dd_K_decode_58 rfl (lv_at hl 3 rfl) ?_
      refine g_K_K_needed (pc := 59) cx hP (by assumption) dd_K_decode_59 ?_
      refine lv_icmp_ge (pc := 62) (tgt := 94) hx hb dd_K_decode_62 (by decide) (fun h62 => ?_) (fun h62 => ?_)
      · -- 62: t to 94
        exact kk _ _ hP hS ls (lv_sub hl [1, 2, 3, 4, 5] rfl)
      · -- 62: f to 65
        exact absurd ((nI_leI (by omega) (by omega)).mpr (Nat.le_refl _)) h62
    | succ n ih =>
      intro i H locs hi hP hS ls hl
      refine lv_iload (pc := 56) hx hb dd_K_decode_56 (lv_at hl 0 rfl) ?_
      refine lv_aload_n (pc := 58) hx hb dd_K_decode_58 rfl (lv_at hl 3 rfl) ?_
      refine g_K_K_needed (pc := 59) cx hP (by assumption) dd_K_decode_59 ?_
      refine lv_icmp_ge (pc := 62) (tgt := 94) hx hb dd_K_decode_62 (by decide) (fun h62 => ?_) (fun h62 => ?_)
      · -- 62: t to 94
        exact absurd ((nI_leI (by omega) (by omega)).mp h62) (by omega)
      · -- 62: f to 65
        refine lv_lload_n (pc := 65) hx hb dd_K_decode_65 rfl (lv_at hl 2 rfl) ?_
        refine lv_aload_n (pc := 66) hx hb dd_K_decode_66 rfl (lv_at hl 3 rfl) ?_
        refine g_K_K_column (pc := 67) cx hP (by assumption) dd_K_decode_67 ?_
        refine lv_iload (pc := 70) hx hb dd_K_decode_70 (lv_at hl 0 rfl) ?_
        refine f_iald (pc := 72) cx hP (fv.at (by assumption) _) rfl rfl (by omega) dd_K_decode_72 ?_
        refine lv_iload (pc := 73) hx hb dd_K_decode_73 (lv_at hl 1 rfl) ?_
        refine lv_aload_n (pc := 75) hx hb dd_K_decode_75 rfl (lv_at hl 3 rfl) ?_
        refine g_K_K_needed (pc := 76) cx hP (by assumption) dd_K_decode_76 ?_
        refine lv_imul (pc := 79) hx hb dd_K_decode_79 ?_
        refine lv_iload (pc := 80) hx hb dd_K_decode_80 (lv_at hl 0 rfl) ?_
        refine lv_iadd (pc := 82) hx hb dd_K_decode_82 ?_
        refine f_topi f_rk ?_
        refine k_K_K_placed (pc := 83) cx hl hP hS (ct_K_placed l x _ (cb u i) (r * xK x + i) (f_rkb (by omega) hK (by omega))) ⟨⟨rfl, rfl⟩, ⟨(Nat.le_of_ble_eq_true rfl), (Nat.le_of_ble_eq_true rfl)⟩, (Nat.le_of_ble_eq_true rfl), (Nat.le_of_ble_eq_true rfl)⟩ (Nat.le_of_ble_eq_true rfl) dd_K_decode_83 (fun H locs hP hS => ?_)
        refine lv_lor (pc := 86) hx hb dd_K_decode_86 ?_
        refine lv_lstore_n (pc := 87) (lv' := [(3, _), (6, _), (5, _), (0, _), (1, _), (2, _)]) hx hb dd_K_decode_87 rfl hl (Nat.le_of_ble_eq_true rfl) rfl (fun ls hl => ?_)
        refine lv_iinc (pc := 88) (k := 1) (lv' := [(6, _), (3, _), (5, _), (0, _), (1, _), (2, _)]) hx hb dd_K_decode_88 hl rfl (f_inc1 i) (Nat.le_of_ble_eq_true rfl) rfl (fun ls hl => ?_)
        refine lv_goto (pc := 91) (tgt := 56) hx hb dd_K_decode_91 (by decide) ?_
        exact ih (i + 1) _ _ (by omega) hP hS ls (lv_sub hl [0, 2, 1, 3, 4, 5] rfl)
  have outer : ∀ (n r : Nat) (H : Heap) (locs : List Loc), r + n = xR x → fP x (rU S 2 0 (decU x S c r)) H → fS x s.heap H locs → ∀ ls : Array Slot, lv_has ls 7 [(5, .int (nI r)), (3, .long (decW x S c r)), (0, .ref (xa x 1 0)), (1, .ref (xa x 8 c)), (2, .ref (xa x 9 c))] → W p l e ({ frames := 3, cells := 0, slots := 0, locals := 71 } : Room) s m [.ref (xa x 1 0), .ref (xa x 8 c), .ref (xa x 9 c)].toArray below meth c0 H locs 0 0 (MQ below (fQl x (rU S 2 0 (decU x S c (xR x))) (decW x S c (xR x))) [.ref (xa x 1 0), .ref (xa x 8 c), .ref (xa x 9 c)].toArray s 0 0 (fun q => xs x ≤ q)) (F0 m 5 ls []) := by
    intro n
    induction n with
    | zero =>
      intro r H locs hrn hP hS ls hl
      have hrn : r = xR x := by omega
      subst hrn
      refine lv_iload (pc := 5) hx hb dd_K_decode_5 (lv_at hl 0 rfl) ?_
      refine lv_aload_n (pc := 7) hx hb dd_K_decode_7 rfl (lv_at hl 2 rfl) ?_
      refine g_K_K_length (pc := 8) cx hP (by assumption) dd_K_decode_8 ?_
      refine lv_icmp_ge (pc := 11) (tgt := 100) hx hb dd_K_decode_11 (by decide) (fun h11 => ?_) (fun h11 => ?_)
      · -- 11: t to 100
        refine lv_lload_n (pc := 100) hx hb dd_K_decode_100 rfl (lv_at hl 1 rfl) ?_
        exact f_lret (pc := 101) cx hr hlocks hP hS rfl rfl dd_K_decode_101
      · -- 11: f to 14
        exact absurd ((nI_leI (by omega) (by omega)).mpr (Nat.le_refl _)) h11
    | succ n ih =>
      intro r H locs hrn hP hS ls hl
      refine lv_iload (pc := 5) hx hb dd_K_decode_5 (lv_at hl 0 rfl) ?_
      refine lv_aload_n (pc := 7) hx hb dd_K_decode_7 rfl (lv_at hl 2 rfl) ?_
      refine g_K_K_length (pc := 8) cx hP (by assumption) dd_K_decode_8 ?_
      refine lv_icmp_ge (pc := 11) (tgt := 100) hx hb dd_K_decode_11 (by decide) (fun h11 => ?_) (fun h11 => ?_)
      · -- 11: t to 100
        exact absurd ((nI_leI (by omega) (by omega)).mp h11) (by omega)
      · -- 11: f to 14
        refine lv_iconst (pc := 14) (v := nI 0) hx hb dd_K_decode_14 (by decide) ?_
        refine lv_istore (pc := 15) (lv' := [(6, _), (5, _), (3, _), (0, _), (1, _), (2, _)]) hx hb dd_K_decode_15 hl (Nat.le_of_ble_eq_true rfl) rfl (fun ls hl => ?_)
        refine fil r _ (decU x S c r) (by omega) (fun H locs hP hS ls hl => ?_) (xK x) 0 _ _ (by omega) hP hS ls (lv_sub hl [0, 1, 2, 3, 4, 5] rfl)
        refine lv_aload_n (pc := 48) hx hb dd_K_decode_48 rfl (lv_at hl 2 rfl) ?_
        refine lv_aload_n (pc := 49) hx hb dd_K_decode_49 rfl (lv_at hl 3 rfl) ?_
        refine k_K_K_interpolate (pc := 50) cx hl hP hS (by assumption) (ct_K_interp l x _ c v1 v2 v8 hO h7) ⟨⟨rfl, rfl⟩, ⟨(Nat.le_of_ble_eq_true rfl), (Nat.le_of_ble_eq_true rfl)⟩, (Nat.le_of_ble_eq_true rfl), (Nat.le_of_ble_eq_true rfl)⟩ (Nat.le_of_ble_eq_true rfl) dd_K_decode_50 (fun H locs hP hS => ?_)
        have hP := f_eqS (T' := rU S 2 0 (decU x S c (r + 1))) hP (by rw [rU_rU]; rfl)
        refine lv_iconst (pc := 53) (v := nI 0) hx hb dd_K_decode_53 (by decide) ?_
        refine lv_istore (pc := 54) (lv' := [(6, _), (5, _), (3, _), (0, _), (1, _), (2, _)]) hx hb dd_K_decode_54 hl (Nat.le_of_ble_eq_true rfl) rfl (fun ls hl => ?_)
        refine plc r _ (decU x S c (r + 1)) (by omega) (fun H locs hP hS ls hl => ?_) (xK x) 0 _ _ (by omega) hP hS ls (lv_sub hl [0, 1, 2, 3, 4, 5] rfl)
        refine lv_iinc (pc := 94) (k := 0) (lv' := [(5, _), (3, _), (0, _), (1, _), (2, _)]) hx hb dd_K_decode_94 hl rfl (f_inc1 r) (Nat.le_of_ble_eq_true rfl) rfl (fun ls hl => ?_)
        refine lv_goto (pc := 97) (tgt := 5) hx hb dd_K_decode_97 (by decide) ?_
        exact ih (r + 1) _ _ (by omega) hP hS ls (lv_sub hl [0, 1, 2, 3, 4] rfl)
  refine lv_lconst (pc := 0) (v := 0) hx hb dd_K_decode_0 (by decide) ?_
  refine lv_lstore_n (pc := 1) (lv' := [(3, _), (0, _), (1, _), (2, _)]) hx hb dd_K_decode_1 rfl hl (Nat.le_of_ble_eq_true rfl) rfl (fun ls hl => ?_)
  refine lv_iconst (pc := 2) (v := nI 0) hx hb dd_K_decode_2 (by decide) ?_
  refine lv_istore (pc := 3) (lv' := [(5, _), (3, _), (0, _), (1, _), (2, _)]) hx hb dd_K_decode_3 hl (Nat.le_of_ble_eq_true rfl) rfl (fun ls hl => ?_)
  have hP := f_eqS (T' := rU S 2 0 (decU x S c 0)) hP (by show _ = rU S 2 0 (mU S 2 0); rw [rU_self])
  exact outer (xR x) 0 _ _ (by omega) hP hS ls (lv_sub hl [0, 1, 2, 3, 4] rfl)
end
section
-- lists out of rows of the memory
def mk {α : Type} (f : Nat → α) (n : Nat) : List α := (List.range n).map f
theorem mk_len {α : Type} (f : Nat → α) (n : Nat) : (mk f n).length = n := by simp [mk]
theorem mk_get {α : Type} (f : Nat → α) (n j : Nat) : (mk f n)[j]? = if j < n then some (f j) else none := by
  unfold mk
  rw [List.getElem?_map]
  by_cases h : j < n
  · rw [if_pos h, List.getElem?_range h]; rfl
  · rw [if_neg h, List.getElem?_eq_none (by simp; omega)]; rfl
theorem mk_congr {α : Type} {f g : Nat → α} {n : Nat} (h : ∀ j, j < n → f j = g j) : mk f n = mk g n := by
  apply List.ext_getElem?
  intro j
  rw [mk_get, mk_get]
  by_cases hj : j < n
  · rw [if_pos hj, if_pos hj, h j hj]
  · rw [if_neg hj, if_neg hj]
theorem mk_succ {α : Type} (f : Nat → α) (n : Nat) : mk f (n + 1) = mk f n ++ [f n] := by simp [mk, List.range_succ]
theorem mk_snoc {α : Type} (f : Nat → α) (n : Nat) (v : α) : mk (va_up f n v) (n + 1) = mk f n ++ [v] := by
  rw [mk_succ, show va_up f n v n = v from if_pos rfl]
  congr 1
  exact mk_congr (fun j hj => if_neg (by omega))
theorem mk_erase {α : Type} (f : Nat → α) {n j : Nat} (hj : j < n) : mk (tkA f j (n - 1)) (n - 1) = (mk f n).eraseIdx j := by
  apply List.ext_getElem?
  intro i
  rw [mk_get, List.getElem?_eraseIdx, mk_get, mk_get]
  unfold tkA
  by_cases h1 : i < j
  · simp [h1, show i < n - 1 by omega, show i < n by omega, show ¬ j ≤ i by omega]
  · rw [if_neg h1]
    by_cases h2 : i < n - 1
    · simp [h2, show i + 1 < n by omega, show j ≤ i by omega]
    · simp [h2, show ¬ i + 1 < n by omega]
theorem mk_mem {α : Type} {f : Nat → α} {n : Nat} {v : α} : v ∈ mk f n ↔ ∃ j, j < n ∧ f j = v := by
  unfold mk
  simp [List.mem_map, List.mem_range]
/-- an element that doesn't count is taken out -/
theorem fl_no {α : Type} (p : α → Bool) : ∀ (l : List α) (i : Nat) (v : α), l[i]? = some v → p v = false → (l.eraseIdx i).filter p = l.filter p := by
  intro l
  induction l with
  | nil => intro i v h; simp at h
  | cons a l ih =>
    intro i v h hp
    cases i with
    | zero =>
      simp at h
      subst h
      simp [hp]
    | succ i =>
      simp at h
      simp only [List.eraseIdx_cons_succ, List.filter_cons]
      rw [ih i v h hp]
/-- one that counts -/
theorem fl_yes {α : Type} (p : α → Bool) : ∀ (l : List α) (i : Nat) (v : α), l[i]? = some v → p v = true → (l.eraseIdx i).filter p = (l.filter p).eraseIdx ((l.take i).filter p).length ∧ (l.filter p)[((l.take i).filter p).length]? = some v := by
  intro l
  induction l with
  | nil => intro i v h; simp at h
  | cons a l ih =>
    intro i v h hp
    cases i with
    | zero =>
      simp at h
      subst h
      simp [hp]
    | succ i =>
      simp at h
      obtain ⟨h1, h2⟩ := ih i v h hp
      simp only [List.eraseIdx_cons_succ, List.filter_cons, List.take_succ_cons]
      by_cases ha : p a = true
      · simp [ha, h1, h2]
      · simp [ha, h1, h2]
/-- the j-th that counts is somewhere -/
theorem fl_find {α : Type} (p : α → Bool) : ∀ (l : List α) (j : Nat), j < (l.filter p).length → ∃ i v, l[i]? = some v ∧ p v = true ∧ ((l.take i).filter p).length = j := by
  intro l
  induction l with
  | nil => intro j h; simp at h
  | cons a l ih =>
    intro j h
    by_cases ha : p a = true
    · cases j with
      | zero => exact ⟨0, a, by simp, ha, by simp⟩
      | succ j =>
        simp [ha] at h
        obtain ⟨i, v, h1, h2, h3⟩ := ih j h
        exact ⟨i + 1, v, by simpa using h1, h2, by simp [ha, h3]⟩
    · simp [ha] at h
      obtain ⟨i, v, h1, h2, h3⟩ := ih j h
      exact ⟨i + 1, v, by simpa using h1, h2, by simp [ha, h3]⟩
theorem fl_le {α : Type} (p : α → Bool) (l : List α) (i : Nat) : ((l.take i).filter p).length ≤ (l.filter p).length := by
  have h : (l.take i ++ l.drop i).filter p = l.filter p := by rw [List.take_append_drop]
  rw [← h, List.filter_append, List.length_append]
  omega
theorem mk_take {α : Type} (f : Nat → α) {n i : Nat} (h : i ≤ n) : (mk f n).take i = mk f i := by
  apply List.ext_getElem?
  intro j
  rw [List.getElem?_take, mk_get, mk_get]
  by_cases hj : j < i
  · rw [if_pos hj, if_pos hj, if_pos (by omega)]
  · rw [if_neg hj, if_neg hj]
end
section
-- what the walks of the larger methods need of the memory between their calls
def q_hr (x : fy) (S : fm) (c s j a : Nat) : Int32 := if q_counts (e_take S (100 + (c * xN x + s)) j) c a = true then (if q_enough x (e_hear x (e_take S (100 + (c * xN x + s)) j) c a s) c = true then q_end (e_hear x (e_take S (100 + (c * xN x + s)) j) c a s) c else 1) else 0
def e_hr (x : fy) (S : fm) (c s j a : Nat) : fm := if q_counts (e_take S (100 + (c * xN x + s)) j) c a = true then (if q_enough x (e_hear x (e_take S (100 + (c * xN x + s)) j) c a s) c = true then e_end x (e_hear x (e_take S (100 + (c * xN x + s)) j) c a s) c else e_hear x (e_take S (100 + (c * xN x + s)) j) c a s) else e_take S (100 + (c * xN x + s)) j
def q_crash (x : fy) (S : fm) (s : Nat) : Bool := !mB S 10 s 5 && decide (mI S 0 0 7 < nI (xM x))
def q_frag (S : fm) (s : Nat) (t : Int32) (r : Nat) : Int32 := match q_place S s t with
  | some i => bI (by8 (mJ S 12 s i) r)
  | none => -1
theorem e_take_le (S : fm) (r j : Nat) (h : ∀ q, mU S 13 q 1 ≤ 7) : ∀ q, mU (e_take S r j) 13 q 1 ≤ 7 := by
  intro q
  unfold e_take
  rw [mU_rA, mU_sU]
  split
  · have := h r; omega
  · exact h q
theorem e_hear1_U (S : fm) (c a : Nat) : mU (e_hear1 S c a) = mU S := rfl
theorem e_hear_U13 (x : fy) (S : fm) (c a s q : Nat) : mU (e_hear x S c a s) 13 q 1 = mU S 13 q 1 := by
  unfold e_hear
  split
  · unfold e_hear2
    rw [mU_sU, if_neg (by omega), mU_sJ, mU_sU, if_neg (by omega), e_hear1_U]
  · rfl
theorem e_hear_fc (x : fy) (S : fm) (c a s : Nat) (hK : xK x ≤ 7) (h : mU S 7 c 3 ≤ 7) : mU (e_hear x S c a s) 7 c 3 ≤ 7 := by
  unfold e_hear
  split
  next h1 =>
    unfold e_hear2
    rw [mU_sU, if_pos ⟨rfl, rfl, rfl⟩, e_hear1_U]
    omega
  next => exact h
theorem e_hear_src (x : fy) (S : fm) (c a s j : Nat) (hs : s < 7) (h : mU S 8 c j < 7) : mU (e_hear x S c a s) 8 c j < 7 := by
  unfold e_hear
  split
  · unfold e_hear2
    rw [mU_sU, if_neg (by omega), mU_sJ, mU_sU]
    split
    · exact hs
    · exact h
  · exact h
theorem e_answer_U13 (x : fy) (S : fm) (s a : Nat) : mU (e_answer x S s a) 13 = mU S 13 := by
  unfold e_answer
  split
  · rfl
  · split
    · rfl
    · split
      · unfold e_encl
        split <;> rfl
      · rfl
theorem e_answer_Z (x : fy) (S : fm) (s a : Nat) : mZ (e_answer x S s a) = mZ S := by
  unfold e_answer
  split
  · rfl
  · split
    · rfl
    · split
      · unfold e_encl
        split <;> rfl
      · rfl
theorem e_lose_Z (S : fm) (r : Nat) : mZ (e_lose S r) = mZ S := rfl
end
section
-- contracts of the register, by wip/whole/gen/c_reg2.py
set_option maxHeartbeats 4000000 in
set_option maxRecDepth 100000 in
theorem ct_X_enough (l : Launch) (x : fy) (S : fm) (hL : fL x) (c : Nat) (hc : c < 5) (hO : fO x) (hn : mU S 7 c 3 ≤ 7) : Met l mn_X_hasHeardEnough (gw_ws mn_X_hasHeardEnough cb_X_hasHeardEnough 2 (some .boolean)) ({ frames := 1, cells := 0, slots := 0, locals := 20 } : Room) (fPc x (S) [.ref (xa x 0 0), .ref (xa x 7 c)]) (fQi x (S) (b2 (q_enough x S c))) 0 0 (fun q => xs x ≤ q) := by
  refine f_met (by decide) (Nat.le_of_ble_eq_true rfl) ?_
  intro p e s m below meth c0 cx hr hlocks hnm hP hS ls hl
  have cx : fX rn_X cb_X_hasHeardEnough 2 p c0 s m [.ref (xa x 0 0), .ref (xa x 7 c)].toArray x := cx
  have hx := cx.1.1
  have hb := cx.1.2.1
  have hl : lv_has ls 2 [(0, .ref (xa x 0 0)), (1, .ref (xa x 7 c))] := hl
  obtain ⟨v0, v1, v2, v3, v4, v5, v6, vC, vS, vR⟩ := hL
  obtain ⟨v7, v8, v9⟩ := vC c hc
  have hK : xK x ≤ 7 := by have := hO; unfold fO at this; omega
  refine lv_aload_n (pc := 0) hx hb dd_X_hasHeardEnough_0 rfl (lv_at hl 1 rfl) ?_
  refine g_X_C_heard (pc := 1) cx hP (by assumption) dd_X_hasHeardEnough_1 ?_
  refine lv_aload_n (pc := 4) hx hb dd_X_hasHeardEnough_4 rfl (lv_at hl 0 rfl) ?_
  refine g_X_X_quorumSize (pc := 5) cx hP (by assumption) dd_X_hasHeardEnough_5 ?_
  refine lv_icmp_lt (pc := 8) (tgt := 30) hx hb dd_X_hasHeardEnough_8 (by decide) (fun h8 => ?_) (fun h8 => ?_)
  · -- 8: t to 30
    refine lv_iconst (pc := 30) (v := 0) hx hb dd_X_hasHeardEnough_30 (by decide) ?_
    exact f_zret (pc := 31) cx hr hlocks hP hS (by simp [q_enough, b2, *] <;> simp_all) rfl dd_X_hasHeardEnough_31
  · -- 8: f to 11
    refine lv_aload_n (pc := 11) hx hb dd_X_hasHeardEnough_11 rfl (lv_at hl 1 rfl) ?_
    refine g_X_C_phase (pc := 12) cx hP (by assumption) dd_X_hasHeardEnough_12 ?_
    refine lv_iconst (pc := 15) (v := 5) hx hb dd_X_hasHeardEnough_15 (by decide) ?_
    refine lv_icmp_ne (pc := 16) (tgt := 26) hx hb dd_X_hasHeardEnough_16 (by decide) (fun h16 => ?_) (fun h16 => ?_)
    · -- 16: t to 26
      refine lv_iconst (pc := 26) (v := 1) hx hb dd_X_hasHeardEnough_26 (by decide) ?_
      refine lv_goto (pc := 27) (tgt := 31) hx hb dd_X_hasHeardEnough_27 (by decide) ?_
      exact f_zret (pc := 31) cx hr hlocks hP hS (by simp [q_enough, b2, *] <;> simp_all) rfl dd_X_hasHeardEnough_31
    · -- 16: f to 19
      refine lv_aload_n (pc := 19) hx hb dd_X_hasHeardEnough_19 rfl (lv_at hl 1 rfl) ?_
      refine k_X_C_hasAllFragments (pc := 20) cx hl hP hS (by assumption) (ct_C_hasAll l x S c v7 v9 hK hn) ⟨⟨rfl, rfl⟩, ⟨(Nat.le_of_ble_eq_true rfl), (Nat.le_of_ble_eq_true rfl)⟩, (Nat.le_of_ble_eq_true rfl), (Nat.le_of_ble_eq_true rfl)⟩ (Nat.le_of_ble_eq_true rfl) dd_X_hasHeardEnough_20 (fun H locs hP hS => ?_)
      refine f_eqB (pc := 23) (tgt := 30) cx dd_X_hasHeardEnough_23 (by decide) (fun h23 => ?_) (fun h23 => ?_)
      · -- 23: t to 30
        refine lv_iconst (pc := 30) (v := 0) hx hb dd_X_hasHeardEnough_30 (by decide) ?_
        exact f_zret (pc := 31) cx hr hlocks hP hS (by simp [q_enough, b2, *] <;> simp_all) rfl dd_X_hasHeardEnough_31
      · -- 23: f to 26
        refine lv_iconst (pc := 26) (v := 1) hx hb dd_X_hasHeardEnough_26 (by decide) ?_
        refine lv_goto (pc := 27) (tgt := 31) hx hb dd_X_hasHeardEnough_27 (by decide) ?_
        exact f_zret (pc := 31) cx hr hlocks hP hS (by simp [q_enough, b2, *] <;> simp_all) rfl dd_X_hasHeardEnough_31
set_option maxHeartbeats 4000000 in
set_option maxRecDepth 100000 in
theorem ct_X_endPhase (l : Launch) (x : fy) (S : fm) (hL : fL x) (c : Nat) (hc : c < 5) (hO : fO x) (h7r : ∀ r, mU S 13 r 1 ≤ 7) (h7s : ∀ j, mU S 8 c j < 7) : Met l mn_X_endPhase (gw_ws mn_X_endPhase cb_X_endPhase 3 (some .int)) ({ frames := 4, cells := 7, slots := 42, locals := 98 } : Room) (fPc x (S) [.ref (xa x 0 0), .ref (xa x 7 c)]) (fQi x (e_end x S c) (q_end S c)) 7 42 (fun q => xs x ≤ q) := by
  refine f_met (by decide) (Nat.le_of_ble_eq_true rfl) ?_
  intro p e s m below meth c0 cx hr hlocks hnm hP hS ls hl
  have cx : fX rn_X cb_X_endPhase 3 p c0 s m [.ref (xa x 0 0), .ref (xa x 7 c)].toArray x := cx
  have hx := cx.1.1
  have hb := cx.1.2.1
  have hl : lv_has ls 3 [(0, .ref (xa x 0 0)), (1, .ref (xa x 7 c))] := hl
  obtain ⟨v0, v1, v2, v3, v4, v5, v6, vC, vS, vR⟩ := hL
  obtain ⟨v7, v8, v9⟩ := vC c hc
  refine lv_aload_n (pc := 0) hx hb dd_X_endPhase_0 rfl (lv_at hl 1 rfl) ?_
  refine g_X_C_phase (pc := 1) cx hP (by assumption) dd_X_endPhase_1 ?_
  by_cases hs1 : mI S 7 c 5 = 1
  · refine f_topi hs1 ?_
    refine lv_tableIn (pc := 4) (off := 36) (tgt := 40) hx hb dd_X_endPhase_4 (by decide) (by decide) (by decide) (by decide) ?_
    refine lv_aload_n (pc := 40) hx hb dd_X_endPhase_40 rfl (lv_at hl 1 rfl) ?_
    refine g_X_C_highestSeal (pc := 41) cx hP (by assumption) dd_X_endPhase_41 ?_
    refine lv_bipush (pc := 44) (v := 8) hx hb dd_X_endPhase_44 (by decide) ?_
    refine lv_idiv (pc := 46) hx hb dd_X_endPhase_46 (by decide) ?_
    refine lv_iconst (pc := 47) (v := 1) hx hb dd_X_endPhase_47 (by decide) ?_
    refine lv_iadd (pc := 48) hx hb dd_X_endPhase_48 ?_
    refine lv_istore_n (pc := 49) (lv' := [(2, _), (0, _), (1, _)]) hx hb dd_X_endPhase_49 rfl hl (Nat.le_of_ble_eq_true rfl) rfl (fun ls hl => ?_)
    refine lv_aload_n (pc := 50) hx hb dd_X_endPhase_50 rfl (lv_at hl 2 rfl) ?_
    refine lv_bipush (pc := 51) (v := 8) hx hb dd_X_endPhase_51 (by decide) ?_
    refine lv_iload_n (pc := 53) hx hb dd_X_endPhase_53 rfl (lv_at hl 0 rfl) ?_
    refine lv_imul (pc := 54) hx hb dd_X_endPhase_54 ?_
    refine lv_aload_n (pc := 55) hx hb dd_X_endPhase_55 rfl (lv_at hl 2 rfl) ?_
    refine g_X_C_number (pc := 56) cx hP (by assumption) dd_X_endPhase_56 ?_
    refine lv_iadd (pc := 59) hx hb dd_X_endPhase_59 ?_
    refine p_X_C_tag (pc := 60) cx hP hS (by assumption) dd_X_endPhase_60 (fun H locs hP hS => ?_)
    refine lv_aload_n (pc := 63) hx hb dd_X_endPhase_63 rfl (lv_at hl 1 rfl) ?_
    refine lv_aload_n (pc := 64) hx hb dd_X_endPhase_64 rfl (lv_at hl 2 rfl) ?_
    refine lv_iconst (pc := 65) (v := 2) hx hb dd_X_endPhase_65 (by decide) ?_
    refine k_X_X_beginPhase (pc := 66) cx hl hP hS (by assumption) (ct_X_beginPhase l x _ ⟨v0, v1, v2, v3, v4, v5, v6, vC, vS, vR⟩ c _ hc hO h7r) ⟨⟨rfl, rfl⟩, ⟨(Nat.le_of_ble_eq_true rfl), (Nat.le_of_ble_eq_true rfl)⟩, (Nat.le_of_ble_eq_true rfl), (Nat.le_of_ble_eq_true rfl)⟩ (Nat.le_of_ble_eq_true rfl) dd_X_endPhase_66 (fun H locs hP hS => ?_)
    refine lv_iconst (pc := 69) (v := 2) hx hb dd_X_endPhase_69 (by decide) ?_
    refine W.widen (k := 7) (n := 42) (Nat.le_of_ble_eq_true rfl) (Nat.le_of_ble_eq_true rfl) ?_
    exact f_iret (pc := 70) cx hr hlocks hP hS (by simp [q_end, *]) (by simp [e_end, *]) dd_X_endPhase_70
  by_cases hs2 : mI S 7 c 5 = 2
  · refine f_topi hs2 ?_
    refine lv_tableIn (pc := 4) (off := 67) (tgt := 71) hx hb dd_X_endPhase_4 (by decide) (by decide) (by decide) (by decide) ?_
    refine lv_aload_n (pc := 71) hx hb dd_X_endPhase_71 rfl (lv_at hl 0 rfl) ?_
    refine lv_aload_n (pc := 72) hx hb dd_X_endPhase_72 rfl (lv_at hl 1 rfl) ?_
    refine lv_iconst (pc := 73) (v := 3) hx hb dd_X_endPhase_73 (by decide) ?_
    refine k_X_X_beginPhase (pc := 74) cx hl hP hS (by assumption) (ct_X_beginPhase l x _ ⟨v0, v1, v2, v3, v4, v5, v6, vC, vS, vR⟩ c _ hc hO h7r) ⟨⟨rfl, rfl⟩, ⟨(Nat.le_of_ble_eq_true rfl), (Nat.le_of_ble_eq_true rfl)⟩, (Nat.le_of_ble_eq_true rfl), (Nat.le_of_ble_eq_true rfl)⟩ (Nat.le_of_ble_eq_true rfl) dd_X_endPhase_74 (fun H locs hP hS => ?_)
    refine lv_iconst (pc := 77) (v := 2) hx hb dd_X_endPhase_77 (by decide) ?_
    refine W.widen (k := 7) (n := 42) (Nat.le_of_ble_eq_true rfl) (Nat.le_of_ble_eq_true rfl) ?_
    exact f_iret (pc := 78) cx hr hlocks hP hS (by simp [q_end, *]) (by simp [e_end, *]) dd_X_endPhase_78
  by_cases hs3 : mI S 7 c 5 = 3
  · refine f_topi hs3 ?_
    refine lv_tableIn (pc := 4) (off := 116) (tgt := 120) hx hb dd_X_endPhase_4 (by decide) (by decide) (by decide) (by decide) ?_
    refine lv_aload_n (pc := 120) hx hb dd_X_endPhase_120 rfl (lv_at hl 1 rfl) ?_
    refine k_X_C_finish (pc := 121) cx hl hP hS (by assumption) (ct_C_finish l x _ c v7) ⟨⟨rfl, rfl⟩, ⟨(Nat.le_of_ble_eq_true rfl), (Nat.le_of_ble_eq_true rfl)⟩, (Nat.le_of_ble_eq_true rfl), (Nat.le_of_ble_eq_true rfl)⟩ (Nat.le_of_ble_eq_true rfl) dd_X_endPhase_121 (fun H locs hP hS => ?_)
    refine lv_iconst (pc := 124) (v := 3) hx hb dd_X_endPhase_124 (by decide) ?_
    refine W.widen (k := 7) (n := 42) (Nat.le_of_ble_eq_true rfl) (Nat.le_of_ble_eq_true rfl) ?_
    exact f_iret (pc := 125) cx hr hlocks hP hS (by simp [q_end, *]) (by simp [e_end, *]) dd_X_endPhase_125
  by_cases hs4 : mI S 7 c 5 = 4
  · refine f_topi hs4 ?_
    refine lv_tableIn (pc := 4) (off := 75) (tgt := 79) hx hb dd_X_endPhase_4 (by decide) (by decide) (by decide) (by decide) ?_
    refine lv_aload_n (pc := 79) hx hb dd_X_endPhase_79 rfl (lv_at hl 1 rfl) ?_
    refine lv_aload_n (pc := 80) hx hb dd_X_endPhase_80 rfl (lv_at hl 1 rfl) ?_
    refine g_X_C_highestSeal (pc := 81) cx hP (by assumption) dd_X_endPhase_81 ?_
    refine p_X_C_tag (pc := 84) cx hP hS (by assumption) dd_X_endPhase_84 (fun H locs hP hS => ?_)
    refine lv_aload_n (pc := 87) hx hb dd_X_endPhase_87 rfl (lv_at hl 0 rfl) ?_
    refine lv_aload_n (pc := 88) hx hb dd_X_endPhase_88 rfl (lv_at hl 1 rfl) ?_
    refine lv_iconst (pc := 89) (v := 5) hx hb dd_X_endPhase_89 (by decide) ?_
    refine k_X_X_beginPhase (pc := 90) cx hl hP hS (by assumption) (ct_X_beginPhase l x _ ⟨v0, v1, v2, v3, v4, v5, v6, vC, vS, vR⟩ c _ hc hO h7r) ⟨⟨rfl, rfl⟩, ⟨(Nat.le_of_ble_eq_true rfl), (Nat.le_of_ble_eq_true rfl)⟩, (Nat.le_of_ble_eq_true rfl), (Nat.le_of_ble_eq_true rfl)⟩ (Nat.le_of_ble_eq_true rfl) dd_X_endPhase_90 (fun H locs hP hS => ?_)
    refine lv_iconst (pc := 93) (v := 2) hx hb dd_X_endPhase_93 (by decide) ?_
    refine W.widen (k := 7) (n := 42) (Nat.le_of_ble_eq_true rfl) (Nat.le_of_ble_eq_true rfl) ?_
    exact f_iret (pc := 94) cx hr hlocks hP hS (by simp [q_end, *]) (by simp [e_end, *]) dd_X_endPhase_94
  by_cases hs5 : mI S 7 c 5 = 5
  · refine f_topi hs5 ?_
    refine lv_tableIn (pc := 4) (off := 91) (tgt := 95) hx hb dd_X_endPhase_4 (by decide) (by decide) (by decide) (by decide) ?_
    refine lv_aload_n (pc := 95) hx hb dd_X_endPhase_95 rfl (lv_at hl 1 rfl) ?_
    refine lv_aload_n (pc := 96) hx hb dd_X_endPhase_96 rfl (lv_at hl 0 rfl) ?_
    refine g_X_X_code (pc := 97) cx hP (by assumption) dd_X_endPhase_97 ?_
    refine lv_aload_n (pc := 100) hx hb dd_X_endPhase_100 rfl (lv_at hl 1 rfl) ?_
    refine g_X_C_sources (pc := 101) cx hP (by assumption) dd_X_endPhase_101 ?_
    refine lv_aload_n (pc := 104) hx hb dd_X_endPhase_104 rfl (lv_at hl 1 rfl) ?_
    refine g_X_C_fragments (pc := 105) cx hP (by assumption) dd_X_endPhase_105 ?_
    refine k_X_K_decode (pc := 108) cx hl hP hS (by assumption) (ct_K_decode l x S c v1 v2 v8 hO h7s v9) ⟨⟨rfl, rfl⟩, ⟨(Nat.le_of_ble_eq_true rfl), (Nat.le_of_ble_eq_true rfl)⟩, (Nat.le_of_ble_eq_true rfl), (Nat.le_of_ble_eq_true rfl)⟩ (Nat.le_of_ble_eq_true rfl) dd_X_endPhase_108 (fun H locs hP hS => ?_)
    refine p_X_C_result (pc := 111) cx hP hS (by assumption) dd_X_endPhase_111 (fun H locs hP hS => ?_)
    refine lv_aload_n (pc := 114) hx hb dd_X_endPhase_114 rfl (lv_at hl 1 rfl) ?_
    refine k_X_C_finish (pc := 115) cx hl hP hS (by assumption) (ct_C_finish l x _ c v7) ⟨⟨rfl, rfl⟩, ⟨(Nat.le_of_ble_eq_true rfl), (Nat.le_of_ble_eq_true rfl)⟩, (Nat.le_of_ble_eq_true rfl), (Nat.le_of_ble_eq_true rfl)⟩ (Nat.le_of_ble_eq_true rfl) dd_X_endPhase_115 (fun H locs hP hS => ?_)
    refine lv_iconst (pc := 118) (v := 3) hx hb dd_X_endPhase_118 (by decide) ?_
    refine W.widen (k := 7) (n := 42) (Nat.le_of_ble_eq_true rfl) (Nat.le_of_ble_eq_true rfl) ?_
    exact f_iret (pc := 119) cx hr hlocks hP hS (by simp [q_end, *]) (by simp [e_end, *]) dd_X_endPhase_119
  have hn1 := lv_neT (a := 1) hs1 (by decide)
  have hn2 := lv_neT (a := 2) hs2 (by decide)
  have hn3 := lv_neT (a := 3) hs3 (by decide)
  have hn4 := lv_neT (a := 4) hs4 (by decide)
  have hn5 := lv_neT (a := 5) hs5 (by decide)
  refine lv_tableOut (pc := 4) (tgt := 120) hx hb dd_X_endPhase_4 (by omega) (by decide) ?_
  refine lv_aload_n (pc := 120) hx hb dd_X_endPhase_120 rfl (lv_at hl 1 rfl) ?_
  refine k_X_C_finish (pc := 121) cx hl hP hS (by assumption) (ct_C_finish l x _ c v7) ⟨⟨rfl, rfl⟩, ⟨(Nat.le_of_ble_eq_true rfl), (Nat.le_of_ble_eq_true rfl)⟩, (Nat.le_of_ble_eq_true rfl), (Nat.le_of_ble_eq_true rfl)⟩ (Nat.le_of_ble_eq_true rfl) dd_X_endPhase_121 (fun H locs hP hS => ?_)
  refine lv_iconst (pc := 124) (v := 3) hx hb dd_X_endPhase_124 (by decide) ?_
  refine W.widen (k := 7) (n := 42) (Nat.le_of_ble_eq_true rfl) (Nat.le_of_ble_eq_true rfl) ?_
  exact f_iret (pc := 125) cx hr hlocks hP hS (by simp [q_end, *]) (by simp [e_end, *]) dd_X_endPhase_125
set_option maxHeartbeats 4000000 in
set_option maxRecDepth 100000 in
theorem ct_X_refusal_no (l : Launch) (x : fy) (S : fm) (hL : fL x) (z : Int32) (hz : q_cl z = false) : Met l mn_X_refusalToBegin (gw_ws mn_X_refusalToBegin cb_X_refusalToBegin 2 (some .int)) ({ frames := 2, cells := 0, slots := 0, locals := 45 } : Room) (fPc x (S) [.ref (xa x 0 0), .int z]) (fQi x (S) (-1)) 0 0 (fun q => xs x ≤ q) := by
  refine f_met (by decide) (Nat.le_of_ble_eq_true rfl) ?_
  intro p e s m below meth c0 cx hr hlocks hnm hP hS ls hl
  have cx : fX rn_X cb_X_refusalToBegin 2 p c0 s m [.ref (xa x 0 0), .int z].toArray x := cx
  have hx := cx.1.1
  have hb := cx.1.2.1
  have hl : lv_has ls 2 [(0, .ref (xa x 0 0)), (1, .int z)] := hl
  obtain ⟨v0, v1, v2, v3, v4, v5, v6, vC, vS, vR⟩ := hL
  refine lv_aload_n (pc := 0) hx hb dd_X_refusalToBegin_0 rfl (lv_at hl 0 rfl) ?_
  refine lv_iload_n (pc := 1) hx hb dd_X_refusalToBegin_1 rfl (lv_at hl 1 rfl) ?_
  refine k_X_X_isClient (pc := 2) cx hl hP hS (by assumption) (ct_X_isClient l x S ⟨v0, v1, v2, v3, v4, v5, v6, vC, vS, vR⟩ z) ⟨⟨rfl, rfl⟩, ⟨(Nat.le_of_ble_eq_true rfl), (Nat.le_of_ble_eq_true rfl)⟩, (Nat.le_of_ble_eq_true rfl), (Nat.le_of_ble_eq_true rfl)⟩ (Nat.le_of_ble_eq_true rfl) dd_X_refusalToBegin_2 (fun H locs hP hS => ?_)
  refine f_neB (pc := 5) (tgt := 10) cx dd_X_refusalToBegin_5 (by decide) (fun h5 => ?_) (fun h5 => ?_)
  · -- 5: t to 10
    exact absurd (hz.symm.trans h5) (by decide)
  · -- 5: f to 8
    refine lv_iconst (pc := 8) (v := (-1)) hx hb dd_X_refusalToBegin_8 (by decide) ?_
    exact f_iret (pc := 9) cx hr hlocks hP hS rfl rfl dd_X_refusalToBegin_9
set_option maxHeartbeats 4000000 in
set_option maxRecDepth 100000 in
theorem ct_X_refusal (l : Launch) (x : fy) (S : fm) (hL : fL x) (c : Nat) (hc : c < 5) (hO : fO x) (hI : fI x S) : Met l mn_X_refusalToBegin (gw_ws mn_X_refusalToBegin cb_X_refusalToBegin 2 (some .int)) ({ frames := 2, cells := 0, slots := 0, locals := 45 } : Room) (fPc x (S) [.ref (xa x 0 0), .int (nI c)]) (fQi x (S) (q_refuse x S c)) 0 0 (fun q => xs x ≤ q) := by
  refine f_met (by decide) (Nat.le_of_ble_eq_true rfl) ?_
  intro p e s m below meth c0 cx hr hlocks hnm hP hS ls hl
  have cx : fX rn_X cb_X_refusalToBegin 2 p c0 s m [.ref (xa x 0 0), .int (nI c)].toArray x := cx
  have hx := cx.1.1
  have hb := cx.1.2.1
  have hl : lv_has ls 2 [(0, .ref (xa x 0 0)), (1, .int (nI c))] := hl
  obtain ⟨v0, v1, v2, v3, v4, v5, v6, vC, vS, vR⟩ := hL
  obtain ⟨v7, v8, v9⟩ := vC c hc
  refine lv_aload_n (pc := 0) hx hb dd_X_refusalToBegin_0 rfl (lv_at hl 0 rfl) ?_
  refine lv_iload_n (pc := 1) hx hb dd_X_refusalToBegin_1 rfl (lv_at hl 1 rfl) ?_
  refine k_X_X_isClient (pc := 2) cx hl hP hS (by assumption) (ct_X_isClient l x S ⟨v0, v1, v2, v3, v4, v5, v6, vC, vS, vR⟩ (nI c)) ⟨⟨rfl, rfl⟩, ⟨(Nat.le_of_ble_eq_true rfl), (Nat.le_of_ble_eq_true rfl)⟩, (Nat.le_of_ble_eq_true rfl), (Nat.le_of_ble_eq_true rfl)⟩ (Nat.le_of_ble_eq_true rfl) dd_X_refusalToBegin_2 (fun H locs hP hS => ?_)
  refine f_neB (pc := 5) (tgt := 10) cx dd_X_refusalToBegin_5 (by decide) (fun h5 => ?_) (fun h5 => ?_)
  · -- 5: t to 10
    refine lv_aload_n (pc := 10) hx hb dd_X_refusalToBegin_10 rfl (lv_at hl 0 rfl) ?_
    refine g_X_X_clients (pc := 11) cx hP (by assumption) dd_X_refusalToBegin_11 ?_
    refine lv_iload_n (pc := 14) hx hb dd_X_refusalToBegin_14 rfl (lv_at hl 1 rfl) ?_
    refine f_ald3 (pc := 15) cx hP (by assumption) rfl (by omega) dd_X_refusalToBegin_15 ?_
    refine g_X_C_crashed (pc := 16) cx hP (by assumption) dd_X_refusalToBegin_16 ?_
    refine f_eqB (pc := 19) (tgt := 25) cx dd_X_refusalToBegin_19 (by decide) (fun h19 => ?_) (fun h19 => ?_)
    · -- 19: t to 25
      refine lv_aload_n (pc := 25) hx hb dd_X_refusalToBegin_25 rfl (lv_at hl 0 rfl) ?_
      refine g_X_X_clients (pc := 26) cx hP (by assumption) dd_X_refusalToBegin_26 ?_
      refine lv_iload_n (pc := 29) hx hb dd_X_refusalToBegin_29 rfl (lv_at hl 1 rfl) ?_
      refine f_ald3 (pc := 30) cx hP (by assumption) rfl (by omega) dd_X_refusalToBegin_30 ?_
      refine k_X_C_isAtWork (pc := 31) cx hl hP hS (by assumption) (ct_C_isAtWork l x S c v7) ⟨⟨rfl, rfl⟩, ⟨(Nat.le_of_ble_eq_true rfl), (Nat.le_of_ble_eq_true rfl)⟩, (Nat.le_of_ble_eq_true rfl), (Nat.le_of_ble_eq_true rfl)⟩ (Nat.le_of_ble_eq_true rfl) dd_X_refusalToBegin_31 (fun H locs hP hS => ?_)
      refine f_eqB (pc := 34) (tgt := 40) cx dd_X_refusalToBegin_34 (by decide) (fun h34 => ?_) (fun h34 => ?_)
      · -- 34: t to 40
        refine lv_aload_n (pc := 40) hx hb dd_X_refusalToBegin_40 rfl (lv_at hl 0 rfl) ?_
        refine lv_iload_n (pc := 41) hx hb dd_X_refusalToBegin_41 rfl (lv_at hl 1 rfl) ?_
        refine k_X_X_isCrowded (pc := 42) cx hl hP hS (by assumption) (ct_X_isCrowded l x S ⟨v0, v1, v2, v3, v4, v5, v6, vC, vS, vR⟩ c hc hO hI) ⟨⟨rfl, rfl⟩, ⟨(Nat.le_of_ble_eq_true rfl), (Nat.le_of_ble_eq_true rfl)⟩, (Nat.le_of_ble_eq_true rfl), (Nat.le_of_ble_eq_true rfl)⟩ (Nat.le_of_ble_eq_true rfl) dd_X_refusalToBegin_42 (fun H locs hP hS => ?_)
        refine f_eqB (pc := 45) (tgt := 53) cx dd_X_refusalToBegin_45 (by decide) (fun h45 => ?_) (fun h45 => ?_)
        · -- 45: t to 53
          refine lv_iconst (pc := 53) (v := 0) hx hb dd_X_refusalToBegin_53 (by decide) ?_
          exact f_iret (pc := 54) cx hr hlocks hP hS (by simp [q_refuse, *]) rfl dd_X_refusalToBegin_54
        · -- 45: f to 48
          refine lv_bipush (pc := 48) (v := (-4)) hx hb dd_X_refusalToBegin_48 (by decide) ?_
          refine lv_goto (pc := 50) (tgt := 54) hx hb dd_X_refusalToBegin_50 (by decide) ?_
          exact f_iret (pc := 54) cx hr hlocks hP hS (by simp [q_refuse, *]) rfl dd_X_refusalToBegin_54
      · -- 34: f to 37
        refine lv_bipush (pc := 37) (v := (-3)) hx hb dd_X_refusalToBegin_37 (by decide) ?_
        exact f_iret (pc := 39) cx hr hlocks hP hS (by simp [q_refuse, *]) rfl dd_X_refusalToBegin_39
    · -- 19: f to 22
      refine lv_bipush (pc := 22) (v := (-2)) hx hb dd_X_refusalToBegin_22 (by decide) ?_
      exact f_iret (pc := 24) cx hr hlocks hP hS (by simp [q_refuse, *]) rfl dd_X_refusalToBegin_24
  · -- 5: f to 8
    exact absurd (h5.symm.trans (q_cl_in hc)) (by decide)
set_option maxHeartbeats 4000000 in
set_option maxRecDepth 100000 in
theorem ct_X_write_no (l : Launch) (x : fy) (S : fm) (hL : fL x) (z : Int32) (w : Int64) (hz : q_cl z = false) : Met l mn_X_write (gw_ws mn_X_write cb_X_write 5 (some .int)) ({ frames := 4, cells := 7, slots := 42, locals := 98 } : Room) (fPc x (S) [.ref (xa x 0 0), .int z, .long w]) (fQi x (S) (-1)) 7 42 (fun q => xs x ≤ q) := by
  refine f_met (by decide) (Nat.le_of_ble_eq_true rfl) ?_
  intro p e s m below meth c0 cx hr hlocks hnm hP hS ls hl
  have cx : fX rn_X cb_X_write 5 p c0 s m [.ref (xa x 0 0), .int z, .long w].toArray x := cx
  have hx := cx.1.1
  have hb := cx.1.2.1
  have hl : lv_has ls 5 [(0, .ref (xa x 0 0)), (1, .int z), (2, .long w)] := hl
  obtain ⟨v0, v1, v2, v3, v4, v5, v6, vC, vS, vR⟩ := hL
  refine lv_aload_n (pc := 0) hx hb dd_X_write_0 rfl (lv_at hl 0 rfl) ?_
  refine lv_iload_n (pc := 1) hx hb dd_X_write_1 rfl (lv_at hl 1 rfl) ?_
  refine k_X_X_refusalToBegin (pc := 2) cx hl hP hS (by assumption) (ct_X_refusal_no l x S ⟨v0, v1, v2, v3, v4, v5, v6, vC, vS, vR⟩ z hz) ⟨⟨rfl, rfl⟩, ⟨(Nat.le_of_ble_eq_true rfl), (Nat.le_of_ble_eq_true rfl)⟩, (Nat.le_of_ble_eq_true rfl), (Nat.le_of_ble_eq_true rfl)⟩ (Nat.le_of_ble_eq_true rfl) dd_X_write_2 (fun H locs hP hS => ?_)
  refine lv_istore (pc := 5) (lv' := [(4, _), (0, _), (1, _), (2, _)]) hx hb dd_X_write_5 hl (Nat.le_of_ble_eq_true rfl) rfl (fun ls hl => ?_)
  refine lv_iload (pc := 7) hx hb dd_X_write_7 (lv_at hl 0 rfl) ?_
  refine lv_if_eq (pc := 9) (tgt := 15) hx hb dd_X_write_9 (by decide) (fun h9 => ?_) (fun h9 => ?_)
  · -- 9: t to 15
    exact absurd h9 (by decide)
  · -- 9: f to 12
    refine lv_iload (pc := 12) hx hb dd_X_write_12 (lv_at hl 0 rfl) ?_
    refine W.widen (k := 7) (n := 42) (Nat.le_of_ble_eq_true rfl) (Nat.le_of_ble_eq_true rfl) ?_
    exact f_iret (pc := 14) cx hr hlocks hP hS rfl rfl dd_X_write_14
set_option maxHeartbeats 4000000 in
set_option maxRecDepth 100000 in
theorem ct_X_write (l : Launch) (x : fy) (S : fm) (hL : fL x) (c : Nat) (w : Int64) (hc : c < 5) (hO : fO x) (hI : fI x S) : Met l mn_X_write (gw_ws mn_X_write cb_X_write 5 (some .int)) ({ frames := 4, cells := 7, slots := 42, locals := 98 } : Room) (fPc x (S) [.ref (xa x 0 0), .int (nI c), .long w]) (fQi x (e_write x S c w) (q_refuse x S c)) 7 42 (fun q => xs x ≤ q) := by
  refine f_met (by decide) (Nat.le_of_ble_eq_true rfl) ?_
  intro p e s m below meth c0 cx hr hlocks hnm hP hS ls hl
  have cx : fX rn_X cb_X_write 5 p c0 s m [.ref (xa x 0 0), .int (nI c), .long w].toArray x := cx
  have hx := cx.1.1
  have hb := cx.1.2.1
  have hl : lv_has ls 5 [(0, .ref (xa x 0 0)), (1, .int (nI c)), (2, .long w)] := hl
  obtain ⟨v0, v1, v2, v3, v4, v5, v6, vC, vS, vR⟩ := hL
  obtain ⟨v7, v8, v9⟩ := vC c hc
  refine lv_aload_n (pc := 0) hx hb dd_X_write_0 rfl (lv_at hl 0 rfl) ?_
  refine lv_iload_n (pc := 1) hx hb dd_X_write_1 rfl (lv_at hl 1 rfl) ?_
  refine k_X_X_refusalToBegin (pc := 2) cx hl hP hS (by assumption) (ct_X_refusal l x S ⟨v0, v1, v2, v3, v4, v5, v6, vC, vS, vR⟩ c hc hO hI) ⟨⟨rfl, rfl⟩, ⟨(Nat.le_of_ble_eq_true rfl), (Nat.le_of_ble_eq_true rfl)⟩, (Nat.le_of_ble_eq_true rfl), (Nat.le_of_ble_eq_true rfl)⟩ (Nat.le_of_ble_eq_true rfl) dd_X_write_2 (fun H locs hP hS => ?_)
  refine lv_istore (pc := 5) (lv' := [(4, _), (0, _), (1, _), (2, _)]) hx hb dd_X_write_5 hl (Nat.le_of_ble_eq_true rfl) rfl (fun ls hl => ?_)
  refine lv_iload (pc := 7) hx hb dd_X_write_7 (lv_at hl 0 rfl) ?_
  refine lv_if_eq (pc := 9) (tgt := 15) hx hb dd_X_write_9 (by decide) (fun h9 => ?_) (fun h9 => ?_)
  · -- 9: t to 15
    refine lv_aload_n (pc := 15) hx hb dd_X_write_15 rfl (lv_at hl 1 rfl) ?_
    refine g_X_X_clients (pc := 16) cx hP (by assumption) dd_X_write_16 ?_
    refine lv_iload_n (pc := 19) hx hb dd_X_write_19 rfl (lv_at hl 2 rfl) ?_
    refine f_ald3 (pc := 20) cx hP (by assumption) rfl (by omega) dd_X_write_20 ?_
    refine lv_lload_n (pc := 21) hx hb dd_X_write_21 rfl (lv_at hl 3 rfl) ?_
    refine p_X_C_block (pc := 22) cx hP hS (by assumption) dd_X_write_22 (fun H locs hP hS => ?_)
    refine lv_aload_n (pc := 25) hx hb dd_X_write_25 rfl (lv_at hl 1 rfl) ?_
    refine lv_aload_n (pc := 26) hx hb dd_X_write_26 rfl (lv_at hl 1 rfl) ?_
    refine g_X_X_clients (pc := 27) cx hP (by assumption) dd_X_write_27 ?_
    refine lv_iload_n (pc := 30) hx hb dd_X_write_30 rfl (lv_at hl 2 rfl) ?_
    refine f_ald3 (pc := 31) cx hP (by assumption) rfl (by omega) dd_X_write_31 ?_
    refine lv_iconst (pc := 32) (v := 1) hx hb dd_X_write_32 (by decide) ?_
    refine k_X_X_beginPhase (pc := 33) cx hl hP hS (by assumption) (ct_X_beginPhase l x _ ⟨v0, v1, v2, v3, v4, v5, v6, vC, vS, vR⟩ c _ hc hO hI.1) ⟨⟨rfl, rfl⟩, ⟨(Nat.le_of_ble_eq_true rfl), (Nat.le_of_ble_eq_true rfl)⟩, (Nat.le_of_ble_eq_true rfl), (Nat.le_of_ble_eq_true rfl)⟩ (Nat.le_of_ble_eq_true rfl) dd_X_write_33 (fun H locs hP hS => ?_)
    refine lv_iconst (pc := 36) (v := 0) hx hb dd_X_write_36 (by decide) ?_
    refine W.widen (k := 7) (n := 42) (Nat.le_of_ble_eq_true rfl) (Nat.le_of_ble_eq_true rfl) ?_
    exact f_iret (pc := 37) cx hr hlocks hP hS (by first | rfl | exact h9.symm) (by simp [e_write, h9]) dd_X_write_37
  · -- 9: f to 12
    refine lv_iload (pc := 12) hx hb dd_X_write_12 (lv_at hl 0 rfl) ?_
    refine W.widen (k := 7) (n := 42) (Nat.le_of_ble_eq_true rfl) (Nat.le_of_ble_eq_true rfl) ?_
    exact f_iret (pc := 14) cx hr hlocks hP hS (by first | rfl | exact h9.symm) (by simp [e_write, h9]) dd_X_write_14
set_option maxHeartbeats 4000000 in
set_option maxRecDepth 100000 in
theorem ct_X_read_no (l : Launch) (x : fy) (S : fm) (hL : fL x) (z : Int32) (hz : q_cl z = false) : Met l mn_X_read (gw_ws mn_X_read cb_X_read 3 (some .int)) ({ frames := 4, cells := 7, slots := 42, locals := 98 } : Room) (fPc x (S) [.ref (xa x 0 0), .int z]) (fQi x (S) (-1)) 7 42 (fun q => xs x ≤ q) := by
  refine f_met (by decide) (Nat.le_of_ble_eq_true rfl) ?_
  intro p e s m below meth c0 cx hr hlocks hnm hP hS ls hl
  have cx : fX rn_X cb_X_read 3 p c0 s m [.ref (xa x 0 0), .int z].toArray x := cx
  have hx := cx.1.1
  have hb := cx.1.2.1
  have hl : lv_has ls 3 [(0, .ref (xa x 0 0)), (1, .int z)] := hl
  obtain ⟨v0, v1, v2, v3, v4, v5, v6, vC, vS, vR⟩ := hL
  refine lv_aload_n (pc := 0) hx hb dd_X_read_0 rfl (lv_at hl 0 rfl) ?_
  refine lv_iload_n (pc := 1) hx hb dd_X_read_1 rfl (lv_at hl 1 rfl) ?_
  refine k_X_X_refusalToBegin (pc := 2) cx hl hP hS (by assumption) (ct_X_refusal_no l x S ⟨v0, v1, v2, v3, v4, v5, v6, vC, vS, vR⟩ z hz) ⟨⟨rfl, rfl⟩, ⟨(Nat.le_of_ble_eq_true rfl), (Nat.le_of_ble_eq_true rfl)⟩, (Nat.le_of_ble_eq_true rfl), (Nat.le_of_ble_eq_true rfl)⟩ (Nat.le_of_ble_eq_true rfl) dd_X_read_2 (fun H locs hP hS => ?_)
  refine lv_istore_n (pc := 5) (lv' := [(2, _), (0, _), (1, _)]) hx hb dd_X_read_5 rfl hl (Nat.le_of_ble_eq_true rfl) rfl (fun ls hl => ?_)
  refine lv_iload_n (pc := 6) hx hb dd_X_read_6 rfl (lv_at hl 0 rfl) ?_
  refine lv_if_eq (pc := 7) (tgt := 12) hx hb dd_X_read_7 (by decide) (fun h7 => ?_) (fun h7 => ?_)
  · -- 7: t to 12
    exact absurd h7 (by decide)
  · -- 7: f to 10
    refine lv_iload_n (pc := 10) hx hb dd_X_read_10 rfl (lv_at hl 0 rfl) ?_
    refine W.widen (k := 7) (n := 42) (Nat.le_of_ble_eq_true rfl) (Nat.le_of_ble_eq_true rfl) ?_
    exact f_iret (pc := 11) cx hr hlocks hP hS rfl rfl dd_X_read_11
set_option maxHeartbeats 4000000 in
set_option maxRecDepth 100000 in
theorem ct_X_read (l : Launch) (x : fy) (S : fm) (hL : fL x) (c : Nat) (hc : c < 5) (hO : fO x) (hI : fI x S) : Met l mn_X_read (gw_ws mn_X_read cb_X_read 3 (some .int)) ({ frames := 4, cells := 7, slots := 42, locals := 98 } : Room) (fPc x (S) [.ref (xa x 0 0), .int (nI c)]) (fQi x (e_read x S c) (q_refuse x S c)) 7 42 (fun q => xs x ≤ q) := by
  refine f_met (by decide) (Nat.le_of_ble_eq_true rfl) ?_
  intro p e s m below meth c0 cx hr hlocks hnm hP hS ls hl
  have cx : fX rn_X cb_X_read 3 p c0 s m [.ref (xa x 0 0), .int (nI c)].toArray x := cx
  have hx := cx.1.1
  have hb := cx.1.2.1
  have hl : lv_has ls 3 [(0, .ref (xa x 0 0)), (1, .int (nI c))] := hl
  obtain ⟨v0, v1, v2, v3, v4, v5, v6, vC, vS, vR⟩ := hL
  obtain ⟨v7, v8, v9⟩ := vC c hc
  refine lv_aload_n (pc := 0) hx hb dd_X_read_0 rfl (lv_at hl 0 rfl) ?_
  refine lv_iload_n (pc := 1) hx hb dd_X_read_1 rfl (lv_at hl 1 rfl) ?_
  refine k_X_X_refusalToBegin (pc := 2) cx hl hP hS (by assumption) (ct_X_refusal l x S ⟨v0, v1, v2, v3, v4, v5, v6, vC, vS, vR⟩ c hc hO hI) ⟨⟨rfl, rfl⟩, ⟨(Nat.le_of_ble_eq_true rfl), (Nat.le_of_ble_eq_true rfl)⟩, (Nat.le_of_ble_eq_true rfl), (Nat.le_of_ble_eq_true rfl)⟩ (Nat.le_of_ble_eq_true rfl) dd_X_read_2 (fun H locs hP hS => ?_)
  refine lv_istore_n (pc := 5) (lv' := [(2, _), (0, _), (1, _)]) hx hb dd_X_read_5 rfl hl (Nat.le_of_ble_eq_true rfl) rfl (fun ls hl => ?_)
  refine lv_iload_n (pc := 6) hx hb dd_X_read_6 rfl (lv_at hl 0 rfl) ?_
  refine lv_if_eq (pc := 7) (tgt := 12) hx hb dd_X_read_7 (by decide) (fun h7 => ?_) (fun h7 => ?_)
  · -- 7: t to 12
    refine lv_aload_n (pc := 12) hx hb dd_X_read_12 rfl (lv_at hl 1 rfl) ?_
    refine lv_aload_n (pc := 13) hx hb dd_X_read_13 rfl (lv_at hl 1 rfl) ?_
    refine g_X_X_clients (pc := 14) cx hP (by assumption) dd_X_read_14 ?_
    refine lv_iload_n (pc := 17) hx hb dd_X_read_17 rfl (lv_at hl 2 rfl) ?_
    refine f_ald3 (pc := 18) cx hP (by assumption) rfl (by omega) dd_X_read_18 ?_
    refine lv_iconst (pc := 19) (v := 4) hx hb dd_X_read_19 (by decide) ?_
    refine k_X_X_beginPhase (pc := 20) cx hl hP hS (by assumption) (ct_X_beginPhase l x _ ⟨v0, v1, v2, v3, v4, v5, v6, vC, vS, vR⟩ c _ hc hO hI.1) ⟨⟨rfl, rfl⟩, ⟨(Nat.le_of_ble_eq_true rfl), (Nat.le_of_ble_eq_true rfl)⟩, (Nat.le_of_ble_eq_true rfl), (Nat.le_of_ble_eq_true rfl)⟩ (Nat.le_of_ble_eq_true rfl) dd_X_read_20 (fun H locs hP hS => ?_)
    refine lv_iconst (pc := 23) (v := 0) hx hb dd_X_read_23 (by decide) ?_
    refine W.widen (k := 7) (n := 42) (Nat.le_of_ble_eq_true rfl) (Nat.le_of_ble_eq_true rfl) ?_
    exact f_iret (pc := 24) cx hr hlocks hP hS (by first | rfl | exact h7.symm) (by simp [e_read, h7]) dd_X_read_24
  · -- 7: f to 10
    refine lv_iload_n (pc := 10) hx hb dd_X_read_10 rfl (lv_at hl 0 rfl) ?_
    refine W.widen (k := 7) (n := 42) (Nat.le_of_ble_eq_true rfl) (Nat.le_of_ble_eq_true rfl) ?_
    exact f_iret (pc := 11) cx hr hlocks hP hS (by first | rfl | exact h7.symm) (by simp [e_read, h7]) dd_X_read_11
set_option maxHeartbeats 4000000 in
set_option maxRecDepth 100000 in
theorem ct_X_again_no (l : Launch) (x : fy) (S : fm) (hL : fL x) (z : Int32) (hz : q_cl z = false) : Met l mn_X_again (gw_ws mn_X_again cb_X_again 3 (some .int)) ({ frames := 4, cells := 7, slots := 42, locals := 98 } : Room) (fPc x (S) [.ref (xa x 0 0), .int z]) (fQi x (S) (-1)) 7 42 (fun q => xs x ≤ q) := by
  refine f_met (by decide) (Nat.le_of_ble_eq_true rfl) ?_
  intro p e s m below meth c0 cx hr hlocks hnm hP hS ls hl
  have cx : fX rn_X cb_X_again 3 p c0 s m [.ref (xa x 0 0), .int z].toArray x := cx
  have hx := cx.1.1
  have hb := cx.1.2.1
  have hl : lv_has ls 3 [(0, .ref (xa x 0 0)), (1, .int z)] := hl
  obtain ⟨v0, v1, v2, v3, v4, v5, v6, vC, vS, vR⟩ := hL
  refine lv_aload_n (pc := 0) hx hb dd_X_again_0 rfl (lv_at hl 0 rfl) ?_
  refine lv_iload_n (pc := 1) hx hb dd_X_again_1 rfl (lv_at hl 1 rfl) ?_
  refine k_X_X_isClient (pc := 2) cx hl hP hS (by assumption) (ct_X_isClient l x S ⟨v0, v1, v2, v3, v4, v5, v6, vC, vS, vR⟩ z) ⟨⟨rfl, rfl⟩, ⟨(Nat.le_of_ble_eq_true rfl), (Nat.le_of_ble_eq_true rfl)⟩, (Nat.le_of_ble_eq_true rfl), (Nat.le_of_ble_eq_true rfl)⟩ (Nat.le_of_ble_eq_true rfl) dd_X_again_2 (fun H locs hP hS => ?_)
  refine f_neB (pc := 5) (tgt := 10) cx dd_X_again_5 (by decide) (fun h5 => ?_) (fun h5 => ?_)
  · -- 5: t to 10
    exact absurd (hz.symm.trans h5) (by decide)
  · -- 5: f to 8
    refine lv_iconst (pc := 8) (v := (-1)) hx hb dd_X_again_8 (by decide) ?_
    refine W.widen (k := 7) (n := 42) (Nat.le_of_ble_eq_true rfl) (Nat.le_of_ble_eq_true rfl) ?_
    exact f_iret (pc := 9) cx hr hlocks hP hS rfl rfl dd_X_again_9
set_option maxHeartbeats 4000000 in
set_option maxRecDepth 100000 in
theorem ct_X_again (l : Launch) (x : fy) (S : fm) (hL : fL x) (c : Nat) (hc : c < 5) (hO : fO x) (hI : fI x S) : Met l mn_X_again (gw_ws mn_X_again cb_X_again 3 (some .int)) ({ frames := 4, cells := 7, slots := 42, locals := 98 } : Room) (fPc x (S) [.ref (xa x 0 0), .int (nI c)]) (fQi x (e_again x S c) (q_again x S c)) 7 42 (fun q => xs x ≤ q) := by
  refine f_met (by decide) (Nat.le_of_ble_eq_true rfl) ?_
  intro p e s m below meth c0 cx hr hlocks hnm hP hS ls hl
  have cx : fX rn_X cb_X_again 3 p c0 s m [.ref (xa x 0 0), .int (nI c)].toArray x := cx
  have hx := cx.1.1
  have hb := cx.1.2.1
  have hl : lv_has ls 3 [(0, .ref (xa x 0 0)), (1, .int (nI c))] := hl
  obtain ⟨v0, v1, v2, v3, v4, v5, v6, vC, vS, vR⟩ := hL
  obtain ⟨v7, v8, v9⟩ := vC c hc
  refine lv_aload_n (pc := 0) hx hb dd_X_again_0 rfl (lv_at hl 0 rfl) ?_
  refine lv_iload_n (pc := 1) hx hb dd_X_again_1 rfl (lv_at hl 1 rfl) ?_
  refine k_X_X_isClient (pc := 2) cx hl hP hS (by assumption) (ct_X_isClient l x S ⟨v0, v1, v2, v3, v4, v5, v6, vC, vS, vR⟩ (nI c)) ⟨⟨rfl, rfl⟩, ⟨(Nat.le_of_ble_eq_true rfl), (Nat.le_of_ble_eq_true rfl)⟩, (Nat.le_of_ble_eq_true rfl), (Nat.le_of_ble_eq_true rfl)⟩ (Nat.le_of_ble_eq_true rfl) dd_X_again_2 (fun H locs hP hS => ?_)
  refine f_neB (pc := 5) (tgt := 10) cx dd_X_again_5 (by decide) (fun h5 => ?_) (fun h5 => ?_)
  · -- 5: t to 10
    refine lv_aload_n (pc := 10) hx hb dd_X_again_10 rfl (lv_at hl 0 rfl) ?_
    refine g_X_X_clients (pc := 11) cx hP (by assumption) dd_X_again_11 ?_
    refine lv_iload_n (pc := 14) hx hb dd_X_again_14 rfl (lv_at hl 1 rfl) ?_
    refine f_ald3 (pc := 15) cx hP (by assumption) rfl (by omega) dd_X_again_15 ?_
    refine lv_astore_n (pc := 16) (lv' := [(2, _), (0, _), (1, _)]) hx hb dd_X_again_16 rfl hl (Nat.le_of_ble_eq_true rfl) rfl (fun ls hl => ?_)
    refine lv_aload_n (pc := 17) hx hb dd_X_again_17 rfl (lv_at hl 0 rfl) ?_
    refine g_X_C_crashed (pc := 18) cx hP (by assumption) dd_X_again_18 ?_
    refine f_eqB (pc := 21) (tgt := 27) cx dd_X_again_21 (by decide) (fun h21 => ?_) (fun h21 => ?_)
    · -- 21: t to 27
      refine lv_aload_n (pc := 27) hx hb dd_X_again_27 rfl (lv_at hl 0 rfl) ?_
      refine g_X_C_phase (pc := 28) cx hP (by assumption) dd_X_again_28 ?_
      refine lv_iconst (pc := 31) (v := 5) hx hb dd_X_again_31 (by decide) ?_
      refine lv_icmp_ne (pc := 32) (tgt := 46) hx hb dd_X_again_32 (by decide) (fun h32 => ?_) (fun h32 => ?_)
      · -- 32: t to 46
        refine lv_bipush (pc := 46) (v := (-3)) hx hb dd_X_again_46 (by decide) ?_
        refine W.widen (k := 7) (n := 42) (Nat.le_of_ble_eq_true rfl) (Nat.le_of_ble_eq_true rfl) ?_
        exact f_iret (pc := 48) cx hr hlocks hP hS (by simp [q_again, *] <;> simp_all) (by simp [e_again, q_again, *] <;> simp_all) dd_X_again_48
      · -- 32: f to 35
        refine lv_aload_n (pc := 35) hx hb dd_X_again_35 rfl (lv_at hl 0 rfl) ?_
        refine g_X_C_heard (pc := 36) cx hP (by assumption) dd_X_again_36 ?_
        refine lv_aload_n (pc := 39) hx hb dd_X_again_39 rfl (lv_at hl 1 rfl) ?_
        refine g_X_X_quorumSize (pc := 40) cx hP (by assumption) dd_X_again_40 ?_
        refine lv_icmp_ge (pc := 43) (tgt := 49) hx hb dd_X_again_43 (by decide) (fun h43 => ?_) (fun h43 => ?_)
        · -- 43: t to 49
          have h43b : ¬ mI S 7 c 7 < nI (xQ x) := Int32.not_lt.mpr h43
          refine lv_aload_n (pc := 49) hx hb dd_X_again_49 rfl (lv_at hl 1 rfl) ?_
          refine lv_iload_n (pc := 50) hx hb dd_X_again_50 rfl (lv_at hl 2 rfl) ?_
          refine k_X_X_isCrowded (pc := 51) cx hl hP hS (by assumption) (ct_X_isCrowded l x S ⟨v0, v1, v2, v3, v4, v5, v6, vC, vS, vR⟩ c hc hO hI) ⟨⟨rfl, rfl⟩, ⟨(Nat.le_of_ble_eq_true rfl), (Nat.le_of_ble_eq_true rfl)⟩, (Nat.le_of_ble_eq_true rfl), (Nat.le_of_ble_eq_true rfl)⟩ (Nat.le_of_ble_eq_true rfl) dd_X_again_51 (fun H locs hP hS => ?_)
          refine f_eqB (pc := 54) (tgt := 60) cx dd_X_again_54 (by decide) (fun h54 => ?_) (fun h54 => ?_)
          · -- 54: t to 60
            refine lv_aload_n (pc := 60) hx hb dd_X_again_60 rfl (lv_at hl 1 rfl) ?_
            refine lv_aload_n (pc := 61) hx hb dd_X_again_61 rfl (lv_at hl 0 rfl) ?_
            refine lv_iconst (pc := 62) (v := 4) hx hb dd_X_again_62 (by decide) ?_
            refine k_X_X_beginPhase (pc := 63) cx hl hP hS (by assumption) (ct_X_beginPhase l x _ ⟨v0, v1, v2, v3, v4, v5, v6, vC, vS, vR⟩ c _ hc hO hI.1) ⟨⟨rfl, rfl⟩, ⟨(Nat.le_of_ble_eq_true rfl), (Nat.le_of_ble_eq_true rfl)⟩, (Nat.le_of_ble_eq_true rfl), (Nat.le_of_ble_eq_true rfl)⟩ (Nat.le_of_ble_eq_true rfl) dd_X_again_63 (fun H locs hP hS => ?_)
            refine lv_iconst (pc := 66) (v := 0) hx hb dd_X_again_66 (by decide) ?_
            refine W.widen (k := 7) (n := 42) (Nat.le_of_ble_eq_true rfl) (Nat.le_of_ble_eq_true rfl) ?_
            exact f_iret (pc := 67) cx hr hlocks hP hS (by simp [q_again, *] <;> simp_all) (by simp [e_again, q_again, *] <;> simp_all) dd_X_again_67
          · -- 54: f to 57
            refine lv_bipush (pc := 57) (v := (-4)) hx hb dd_X_again_57 (by decide) ?_
            refine W.widen (k := 7) (n := 42) (Nat.le_of_ble_eq_true rfl) (Nat.le_of_ble_eq_true rfl) ?_
            exact f_iret (pc := 59) cx hr hlocks hP hS (by simp [q_again, *] <;> simp_all) (by simp [e_again, q_again, *] <;> simp_all) dd_X_again_59
        · -- 43: f to 46
          have h43b : mI S 7 c 7 < nI (xQ x) := Int32.not_le.mp h43
          refine lv_bipush (pc := 46) (v := (-3)) hx hb dd_X_again_46 (by decide) ?_
          refine W.widen (k := 7) (n := 42) (Nat.le_of_ble_eq_true rfl) (Nat.le_of_ble_eq_true rfl) ?_
          exact f_iret (pc := 48) cx hr hlocks hP hS (by simp [q_again, *] <;> simp_all) (by simp [e_again, q_again, *] <;> simp_all) dd_X_again_48
    · -- 21: f to 24
      refine lv_bipush (pc := 24) (v := (-2)) hx hb dd_X_again_24 (by decide) ?_
      refine W.widen (k := 7) (n := 42) (Nat.le_of_ble_eq_true rfl) (Nat.le_of_ble_eq_true rfl) ?_
      exact f_iret (pc := 26) cx hr hlocks hP hS (by simp [q_again, *] <;> simp_all) (by simp [e_again, q_again, *] <;> simp_all) dd_X_again_26
  · -- 5: f to 8
    exact absurd (h5.symm.trans (q_cl_in hc)) (by decide)
set_option maxHeartbeats 4000000 in
set_option maxRecDepth 100000 in
theorem ct_X_phase_no (l : Launch) (x : fy) (S : fm) (hL : fL x) (z : Int32) (hz : q_cl z = false) : Met l mn_X_phase (gw_ws mn_X_phase cb_X_phase 2 (some .int)) ({ frames := 1, cells := 0, slots := 0, locals := 21 } : Room) (fPc x (S) [.ref (xa x 0 0), .int z]) (fQi x (S) (-1)) 0 0 (fun q => xs x ≤ q) := by
  refine f_met (by decide) (Nat.le_of_ble_eq_true rfl) ?_
  intro p e s m below meth c0 cx hr hlocks hnm hP hS ls hl
  have cx : fX rn_X cb_X_phase 2 p c0 s m [.ref (xa x 0 0), .int z].toArray x := cx
  have hx := cx.1.1
  have hb := cx.1.2.1
  have hl : lv_has ls 2 [(0, .ref (xa x 0 0)), (1, .int z)] := hl
  obtain ⟨v0, v1, v2, v3, v4, v5, v6, vC, vS, vR⟩ := hL
  refine lv_aload_n (pc := 0) hx hb dd_X_phase_0 rfl (lv_at hl 0 rfl) ?_
  refine lv_iload_n (pc := 1) hx hb dd_X_phase_1 rfl (lv_at hl 1 rfl) ?_
  refine k_X_X_isClient (pc := 2) cx hl hP hS (by assumption) (ct_X_isClient l x S ⟨v0, v1, v2, v3, v4, v5, v6, vC, vS, vR⟩ z) ⟨⟨rfl, rfl⟩, ⟨(Nat.le_of_ble_eq_true rfl), (Nat.le_of_ble_eq_true rfl)⟩, (Nat.le_of_ble_eq_true rfl), (Nat.le_of_ble_eq_true rfl)⟩ (Nat.le_of_ble_eq_true rfl) dd_X_phase_2 (fun H locs hP hS => ?_)
  refine f_neB (pc := 5) (tgt := 10) cx dd_X_phase_5 (by decide) (fun h5 => ?_) (fun h5 => ?_)
  · -- 5: t to 10
    exact absurd (hz.symm.trans h5) (by decide)
  · -- 5: f to 8
    refine lv_iconst (pc := 8) (v := (-1)) hx hb dd_X_phase_8 (by decide) ?_
    exact f_iret (pc := 9) cx hr hlocks hP hS rfl rfl dd_X_phase_9
set_option maxHeartbeats 4000000 in
set_option maxRecDepth 100000 in
theorem ct_X_phase (l : Launch) (x : fy) (S : fm) (hL : fL x) (c : Nat) (hc : c < 5) : Met l mn_X_phase (gw_ws mn_X_phase cb_X_phase 2 (some .int)) ({ frames := 1, cells := 0, slots := 0, locals := 21 } : Room) (fPc x (S) [.ref (xa x 0 0), .int (nI c)]) (fQi x (S) (if mB S 7 c 4 = true then 6 else mI S 7 c 5)) 0 0 (fun q => xs x ≤ q) := by
  refine f_met (by decide) (Nat.le_of_ble_eq_true rfl) ?_
  intro p e s m below meth c0 cx hr hlocks hnm hP hS ls hl
  have cx : fX rn_X cb_X_phase 2 p c0 s m [.ref (xa x 0 0), .int (nI c)].toArray x := cx
  have hx := cx.1.1
  have hb := cx.1.2.1
  have hl : lv_has ls 2 [(0, .ref (xa x 0 0)), (1, .int (nI c))] := hl
  obtain ⟨v0, v1, v2, v3, v4, v5, v6, vC, vS, vR⟩ := hL
  obtain ⟨v7, v8, v9⟩ := vC c hc
  refine lv_aload_n (pc := 0) hx hb dd_X_phase_0 rfl (lv_at hl 0 rfl) ?_
  refine lv_iload_n (pc := 1) hx hb dd_X_phase_1 rfl (lv_at hl 1 rfl) ?_
  refine k_X_X_isClient (pc := 2) cx hl hP hS (by assumption) (ct_X_isClient l x S ⟨v0, v1, v2, v3, v4, v5, v6, vC, vS, vR⟩ (nI c)) ⟨⟨rfl, rfl⟩, ⟨(Nat.le_of_ble_eq_true rfl), (Nat.le_of_ble_eq_true rfl)⟩, (Nat.le_of_ble_eq_true rfl), (Nat.le_of_ble_eq_true rfl)⟩ (Nat.le_of_ble_eq_true rfl) dd_X_phase_2 (fun H locs hP hS => ?_)
  refine f_neB (pc := 5) (tgt := 10) cx dd_X_phase_5 (by decide) (fun h5 => ?_) (fun h5 => ?_)
  · -- 5: t to 10
    refine lv_aload_n (pc := 10) hx hb dd_X_phase_10 rfl (lv_at hl 0 rfl) ?_
    refine g_X_X_clients (pc := 11) cx hP (by assumption) dd_X_phase_11 ?_
    refine lv_iload_n (pc := 14) hx hb dd_X_phase_14 rfl (lv_at hl 1 rfl) ?_
    refine f_ald3 (pc := 15) cx hP (by assumption) rfl (by omega) dd_X_phase_15 ?_
    refine g_X_C_crashed (pc := 16) cx hP (by assumption) dd_X_phase_16 ?_
    refine f_eqB (pc := 19) (tgt := 27) cx dd_X_phase_19 (by decide) (fun h19 => ?_) (fun h19 => ?_)
    · -- 19: t to 27
      refine lv_aload_n (pc := 27) hx hb dd_X_phase_27 rfl (lv_at hl 0 rfl) ?_
      refine g_X_X_clients (pc := 28) cx hP (by assumption) dd_X_phase_28 ?_
      refine lv_iload_n (pc := 31) hx hb dd_X_phase_31 rfl (lv_at hl 1 rfl) ?_
      refine f_ald3 (pc := 32) cx hP (by assumption) rfl (by omega) dd_X_phase_32 ?_
      refine g_X_C_phase (pc := 33) cx hP (by assumption) dd_X_phase_33 ?_
      exact f_iret (pc := 36) cx hr hlocks hP hS (by simp [*]) rfl dd_X_phase_36
    · -- 19: f to 22
      refine lv_bipush (pc := 22) (v := 6) hx hb dd_X_phase_22 (by decide) ?_
      refine lv_goto (pc := 24) (tgt := 36) hx hb dd_X_phase_24 (by decide) ?_
      exact f_iret (pc := 36) cx hr hlocks hP hS (by simp [*]) rfl dd_X_phase_36
  · -- 5: f to 8
    exact absurd (h5.symm.trans (q_cl_in hc)) (by decide)
set_option maxHeartbeats 4000000 in
set_option maxRecDepth 100000 in
theorem ct_X_heard_no (l : Launch) (x : fy) (S : fm) (hL : fL x) (z : Int32) (hz : q_cl z = false) : Met l mn_X_heard (gw_ws mn_X_heard cb_X_heard 2 (some .int)) ({ frames := 1, cells := 0, slots := 0, locals := 21 } : Room) (fPc x (S) [.ref (xa x 0 0), .int z]) (fQi x (S) (-1)) 0 0 (fun q => xs x ≤ q) := by
  refine f_met (by decide) (Nat.le_of_ble_eq_true rfl) ?_
  intro p e s m below meth c0 cx hr hlocks hnm hP hS ls hl
  have cx : fX rn_X cb_X_heard 2 p c0 s m [.ref (xa x 0 0), .int z].toArray x := cx
  have hx := cx.1.1
  have hb := cx.1.2.1
  have hl : lv_has ls 2 [(0, .ref (xa x 0 0)), (1, .int z)] := hl
  obtain ⟨v0, v1, v2, v3, v4, v5, v6, vC, vS, vR⟩ := hL
  refine lv_aload_n (pc := 0) hx hb dd_X_heard_0 rfl (lv_at hl 0 rfl) ?_
  refine lv_iload_n (pc := 1) hx hb dd_X_heard_1 rfl (lv_at hl 1 rfl) ?_
  refine k_X_X_isClient (pc := 2) cx hl hP hS (by assumption) (ct_X_isClient l x S ⟨v0, v1, v2, v3, v4, v5, v6, vC, vS, vR⟩ z) ⟨⟨rfl, rfl⟩, ⟨(Nat.le_of_ble_eq_true rfl), (Nat.le_of_ble_eq_true rfl)⟩, (Nat.le_of_ble_eq_true rfl), (Nat.le_of_ble_eq_true rfl)⟩ (Nat.le_of_ble_eq_true rfl) dd_X_heard_2 (fun H locs hP hS => ?_)
  refine f_neB (pc := 5) (tgt := 10) cx dd_X_heard_5 (by decide) (fun h5 => ?_) (fun h5 => ?_)
  · -- 5: t to 10
    exact absurd (hz.symm.trans h5) (by decide)
  · -- 5: f to 8
    refine lv_iconst (pc := 8) (v := (-1)) hx hb dd_X_heard_8 (by decide) ?_
    exact f_iret (pc := 9) cx hr hlocks hP hS rfl rfl dd_X_heard_9
set_option maxHeartbeats 4000000 in
set_option maxRecDepth 100000 in
theorem ct_X_heard (l : Launch) (x : fy) (S : fm) (hL : fL x) (c : Nat) (hc : c < 5) : Met l mn_X_heard (gw_ws mn_X_heard cb_X_heard 2 (some .int)) ({ frames := 1, cells := 0, slots := 0, locals := 21 } : Room) (fPc x (S) [.ref (xa x 0 0), .int (nI c)]) (fQi x (S) (if q_work S c = true then mI S 7 c 7 else 0)) 0 0 (fun q => xs x ≤ q) := by
  refine f_met (by decide) (Nat.le_of_ble_eq_true rfl) ?_
  intro p e s m below meth c0 cx hr hlocks hnm hP hS ls hl
  have cx : fX rn_X cb_X_heard 2 p c0 s m [.ref (xa x 0 0), .int (nI c)].toArray x := cx
  have hx := cx.1.1
  have hb := cx.1.2.1
  have hl : lv_has ls 2 [(0, .ref (xa x 0 0)), (1, .int (nI c))] := hl
  obtain ⟨v0, v1, v2, v3, v4, v5, v6, vC, vS, vR⟩ := hL
  obtain ⟨v7, v8, v9⟩ := vC c hc
  refine lv_aload_n (pc := 0) hx hb dd_X_heard_0 rfl (lv_at hl 0 rfl) ?_
  refine lv_iload_n (pc := 1) hx hb dd_X_heard_1 rfl (lv_at hl 1 rfl) ?_
  refine k_X_X_isClient (pc := 2) cx hl hP hS (by assumption) (ct_X_isClient l x S ⟨v0, v1, v2, v3, v4, v5, v6, vC, vS, vR⟩ (nI c)) ⟨⟨rfl, rfl⟩, ⟨(Nat.le_of_ble_eq_true rfl), (Nat.le_of_ble_eq_true rfl)⟩, (Nat.le_of_ble_eq_true rfl), (Nat.le_of_ble_eq_true rfl)⟩ (Nat.le_of_ble_eq_true rfl) dd_X_heard_2 (fun H locs hP hS => ?_)
  refine f_neB (pc := 5) (tgt := 10) cx dd_X_heard_5 (by decide) (fun h5 => ?_) (fun h5 => ?_)
  · -- 5: t to 10
    refine lv_aload_n (pc := 10) hx hb dd_X_heard_10 rfl (lv_at hl 0 rfl) ?_
    refine g_X_X_clients (pc := 11) cx hP (by assumption) dd_X_heard_11 ?_
    refine lv_iload_n (pc := 14) hx hb dd_X_heard_14 rfl (lv_at hl 1 rfl) ?_
    refine f_ald3 (pc := 15) cx hP (by assumption) rfl (by omega) dd_X_heard_15 ?_
    refine k_X_C_isAtWork (pc := 16) cx hl hP hS (by assumption) (ct_C_isAtWork l x S c v7) ⟨⟨rfl, rfl⟩, ⟨(Nat.le_of_ble_eq_true rfl), (Nat.le_of_ble_eq_true rfl)⟩, (Nat.le_of_ble_eq_true rfl), (Nat.le_of_ble_eq_true rfl)⟩ (Nat.le_of_ble_eq_true rfl) dd_X_heard_16 (fun H locs hP hS => ?_)
    refine f_eqB (pc := 19) (tgt := 34) cx dd_X_heard_19 (by decide) (fun h19 => ?_) (fun h19 => ?_)
    · -- 19: t to 34
      refine lv_iconst (pc := 34) (v := 0) hx hb dd_X_heard_34 (by decide) ?_
      exact f_iret (pc := 35) cx hr hlocks hP hS (by simp [*]) rfl dd_X_heard_35
    · -- 19: f to 22
      refine lv_aload_n (pc := 22) hx hb dd_X_heard_22 rfl (lv_at hl 0 rfl) ?_
      refine g_X_X_clients (pc := 23) cx hP (by assumption) dd_X_heard_23 ?_
      refine lv_iload_n (pc := 26) hx hb dd_X_heard_26 rfl (lv_at hl 1 rfl) ?_
      refine f_ald3 (pc := 27) cx hP (by assumption) rfl (by omega) dd_X_heard_27 ?_
      refine g_X_C_heard (pc := 28) cx hP (by assumption) dd_X_heard_28 ?_
      refine lv_goto (pc := 31) (tgt := 35) hx hb dd_X_heard_31 (by decide) ?_
      exact f_iret (pc := 35) cx hr hlocks hP hS (by simp [*]) rfl dd_X_heard_35
  · -- 5: f to 8
    exact absurd (h5.symm.trans (q_cl_in hc)) (by decide)
set_option maxHeartbeats 4000000 in
set_option maxRecDepth 100000 in
theorem ct_X_tag_no (l : Launch) (x : fy) (S : fm) (hL : fL x) (z : Int32) (hz : q_cl z = false) : Met l mn_X_tag (gw_ws mn_X_tag cb_X_tag 2 (some .int)) ({ frames := 1, cells := 0, slots := 0, locals := 21 } : Room) (fPc x (S) [.ref (xa x 0 0), .int z]) (fQi x (S) (-1)) 0 0 (fun q => xs x ≤ q) := by
  refine f_met (by decide) (Nat.le_of_ble_eq_true rfl) ?_
  intro p e s m below meth c0 cx hr hlocks hnm hP hS ls hl
  have cx : fX rn_X cb_X_tag 2 p c0 s m [.ref (xa x 0 0), .int z].toArray x := cx
  have hx := cx.1.1
  have hb := cx.1.2.1
  have hl : lv_has ls 2 [(0, .ref (xa x 0 0)), (1, .int z)] := hl
  obtain ⟨v0, v1, v2, v3, v4, v5, v6, vC, vS, vR⟩ := hL
  refine lv_aload_n (pc := 0) hx hb dd_X_tag_0 rfl (lv_at hl 0 rfl) ?_
  refine lv_iload_n (pc := 1) hx hb dd_X_tag_1 rfl (lv_at hl 1 rfl) ?_
  refine k_X_X_isClient (pc := 2) cx hl hP hS (by assumption) (ct_X_isClient l x S ⟨v0, v1, v2, v3, v4, v5, v6, vC, vS, vR⟩ z) ⟨⟨rfl, rfl⟩, ⟨(Nat.le_of_ble_eq_true rfl), (Nat.le_of_ble_eq_true rfl)⟩, (Nat.le_of_ble_eq_true rfl), (Nat.le_of_ble_eq_true rfl)⟩ (Nat.le_of_ble_eq_true rfl) dd_X_tag_2 (fun H locs hP hS => ?_)
  refine f_eqB (pc := 5) (tgt := 20) cx dd_X_tag_5 (by decide) (fun h5 => ?_) (fun h5 => ?_)
  · -- 5: t to 20
    refine lv_iconst (pc := 20) (v := (-1)) hx hb dd_X_tag_20 (by decide) ?_
    exact f_iret (pc := 21) cx hr hlocks hP hS rfl rfl dd_X_tag_21
  · -- 5: f to 8
    exact absurd (hz.symm.trans h5) (by decide)
set_option maxHeartbeats 4000000 in
set_option maxRecDepth 100000 in
theorem ct_X_tag (l : Launch) (x : fy) (S : fm) (hL : fL x) (c : Nat) (hc : c < 5) : Met l mn_X_tag (gw_ws mn_X_tag cb_X_tag 2 (some .int)) ({ frames := 1, cells := 0, slots := 0, locals := 21 } : Room) (fPc x (S) [.ref (xa x 0 0), .int (nI c)]) (fQi x (S) (mI S 7 c 9)) 0 0 (fun q => xs x ≤ q) := by
  refine f_met (by decide) (Nat.le_of_ble_eq_true rfl) ?_
  intro p e s m below meth c0 cx hr hlocks hnm hP hS ls hl
  have cx : fX rn_X cb_X_tag 2 p c0 s m [.ref (xa x 0 0), .int (nI c)].toArray x := cx
  have hx := cx.1.1
  have hb := cx.1.2.1
  have hl : lv_has ls 2 [(0, .ref (xa x 0 0)), (1, .int (nI c))] := hl
  obtain ⟨v0, v1, v2, v3, v4, v5, v6, vC, vS, vR⟩ := hL
  obtain ⟨v7, v8, v9⟩ := vC c hc
  refine lv_aload_n (pc := 0) hx hb dd_X_tag_0 rfl (lv_at hl 0 rfl) ?_
  refine lv_iload_n (pc := 1) hx hb dd_X_tag_1 rfl (lv_at hl 1 rfl) ?_
  refine k_X_X_isClient (pc := 2) cx hl hP hS (by assumption) (ct_X_isClient l x S ⟨v0, v1, v2, v3, v4, v5, v6, vC, vS, vR⟩ (nI c)) ⟨⟨rfl, rfl⟩, ⟨(Nat.le_of_ble_eq_true rfl), (Nat.le_of_ble_eq_true rfl)⟩, (Nat.le_of_ble_eq_true rfl), (Nat.le_of_ble_eq_true rfl)⟩ (Nat.le_of_ble_eq_true rfl) dd_X_tag_2 (fun H locs hP hS => ?_)
  refine f_eqB (pc := 5) (tgt := 20) cx dd_X_tag_5 (by decide) (fun h5 => ?_) (fun h5 => ?_)
  · -- 5: t to 20
    exact absurd (h5.symm.trans (q_cl_in hc)) (by decide)
  · -- 5: f to 8
    refine lv_aload_n (pc := 8) hx hb dd_X_tag_8 rfl (lv_at hl 0 rfl) ?_
    refine g_X_X_clients (pc := 9) cx hP (by assumption) dd_X_tag_9 ?_
    refine lv_iload_n (pc := 12) hx hb dd_X_tag_12 rfl (lv_at hl 1 rfl) ?_
    refine f_ald3 (pc := 13) cx hP (by assumption) rfl (by omega) dd_X_tag_13 ?_
    refine g_X_C_tag (pc := 14) cx hP (by assumption) dd_X_tag_14 ?_
    refine lv_goto (pc := 17) (tgt := 21) hx hb dd_X_tag_17 (by decide) ?_
    exact f_iret (pc := 21) cx hr hlocks hP hS rfl rfl dd_X_tag_21
set_option maxHeartbeats 4000000 in
set_option maxRecDepth 100000 in
theorem ct_X_result_no (l : Launch) (x : fy) (S : fm) (hL : fL x) (z : Int32) (hz : q_cl z = false) : Met l mn_X_result (gw_ws mn_X_result cb_X_result 2 (some .long)) ({ frames := 1, cells := 0, slots := 0, locals := 21 } : Room) (fPc x (S) [.ref (xa x 0 0), .int z]) (fQl x (S) (0)) 0 0 (fun q => xs x ≤ q) := by
  refine f_met (by decide) (Nat.le_of_ble_eq_true rfl) ?_
  intro p e s m below meth c0 cx hr hlocks hnm hP hS ls hl
  have cx : fX rn_X cb_X_result 2 p c0 s m [.ref (xa x 0 0), .int z].toArray x := cx
  have hx := cx.1.1
  have hb := cx.1.2.1
  have hl : lv_has ls 2 [(0, .ref (xa x 0 0)), (1, .int z)] := hl
  obtain ⟨v0, v1, v2, v3, v4, v5, v6, vC, vS, vR⟩ := hL
  refine lv_aload_n (pc := 0) hx hb dd_X_result_0 rfl (lv_at hl 0 rfl) ?_
  refine lv_iload_n (pc := 1) hx hb dd_X_result_1 rfl (lv_at hl 1 rfl) ?_
  refine k_X_X_isClient (pc := 2) cx hl hP hS (by assumption) (ct_X_isClient l x S ⟨v0, v1, v2, v3, v4, v5, v6, vC, vS, vR⟩ z) ⟨⟨rfl, rfl⟩, ⟨(Nat.le_of_ble_eq_true rfl), (Nat.le_of_ble_eq_true rfl)⟩, (Nat.le_of_ble_eq_true rfl), (Nat.le_of_ble_eq_true rfl)⟩ (Nat.le_of_ble_eq_true rfl) dd_X_result_2 (fun H locs hP hS => ?_)
  refine f_eqB (pc := 5) (tgt := 20) cx dd_X_result_5 (by decide) (fun h5 => ?_) (fun h5 => ?_)
  · -- 5: t to 20
    refine lv_lconst (pc := 20) (v := 0) hx hb dd_X_result_20 (by decide) ?_
    exact f_lret (pc := 21) cx hr hlocks hP hS rfl rfl dd_X_result_21
  · -- 5: f to 8
    exact absurd (hz.symm.trans h5) (by decide)
set_option maxHeartbeats 4000000 in
set_option maxRecDepth 100000 in
theorem ct_X_result (l : Launch) (x : fy) (S : fm) (hL : fL x) (c : Nat) (hc : c < 5) : Met l mn_X_result (gw_ws mn_X_result cb_X_result 2 (some .long)) ({ frames := 1, cells := 0, slots := 0, locals := 21 } : Room) (fPc x (S) [.ref (xa x 0 0), .int (nI c)]) (fQl x (S) (mJ S 7 c 11)) 0 0 (fun q => xs x ≤ q) := by
  refine f_met (by decide) (Nat.le_of_ble_eq_true rfl) ?_
  intro p e s m below meth c0 cx hr hlocks hnm hP hS ls hl
  have cx : fX rn_X cb_X_result 2 p c0 s m [.ref (xa x 0 0), .int (nI c)].toArray x := cx
  have hx := cx.1.1
  have hb := cx.1.2.1
  have hl : lv_has ls 2 [(0, .ref (xa x 0 0)), (1, .int (nI c))] := hl
  obtain ⟨v0, v1, v2, v3, v4, v5, v6, vC, vS, vR⟩ := hL
  obtain ⟨v7, v8, v9⟩ := vC c hc
  refine lv_aload_n (pc := 0) hx hb dd_X_result_0 rfl (lv_at hl 0 rfl) ?_
  refine lv_iload_n (pc := 1) hx hb dd_X_result_1 rfl (lv_at hl 1 rfl) ?_
  refine k_X_X_isClient (pc := 2) cx hl hP hS (by assumption) (ct_X_isClient l x S ⟨v0, v1, v2, v3, v4, v5, v6, vC, vS, vR⟩ (nI c)) ⟨⟨rfl, rfl⟩, ⟨(Nat.le_of_ble_eq_true rfl), (Nat.le_of_ble_eq_true rfl)⟩, (Nat.le_of_ble_eq_true rfl), (Nat.le_of_ble_eq_true rfl)⟩ (Nat.le_of_ble_eq_true rfl) dd_X_result_2 (fun H locs hP hS => ?_)
  refine f_eqB (pc := 5) (tgt := 20) cx dd_X_result_5 (by decide) (fun h5 => ?_) (fun h5 => ?_)
  · -- 5: t to 20
    exact absurd (h5.symm.trans (q_cl_in hc)) (by decide)
  · -- 5: f to 8
    refine lv_aload_n (pc := 8) hx hb dd_X_result_8 rfl (lv_at hl 0 rfl) ?_
    refine g_X_X_clients (pc := 9) cx hP (by assumption) dd_X_result_9 ?_
    refine lv_iload_n (pc := 12) hx hb dd_X_result_12 rfl (lv_at hl 1 rfl) ?_
    refine f_ald3 (pc := 13) cx hP (by assumption) rfl (by omega) dd_X_result_13 ?_
    refine g_X_C_result (pc := 14) cx hP (by assumption) dd_X_result_14 ?_
    refine lv_goto (pc := 17) (tgt := 21) hx hb dd_X_result_17 (by decide) ?_
    exact f_lret (pc := 21) cx hr hlocks hP hS rfl rfl dd_X_result_21
set_option maxHeartbeats 4000000 in
set_option maxRecDepth 100000 in
theorem ct_X_finished_no (l : Launch) (x : fy) (S : fm) (hL : fL x) (z : Int32) (hz : q_cl z = false) : Met l mn_X_finished (gw_ws mn_X_finished cb_X_finished 2 (some .int)) ({ frames := 1, cells := 0, slots := 0, locals := 21 } : Room) (fPc x (S) [.ref (xa x 0 0), .int z]) (fQi x (S) (-1)) 0 0 (fun q => xs x ≤ q) := by
  refine f_met (by decide) (Nat.le_of_ble_eq_true rfl) ?_
  intro p e s m below meth c0 cx hr hlocks hnm hP hS ls hl
  have cx : fX rn_X cb_X_finished 2 p c0 s m [.ref (xa x 0 0), .int z].toArray x := cx
  have hx := cx.1.1
  have hb := cx.1.2.1
  have hl : lv_has ls 2 [(0, .ref (xa x 0 0)), (1, .int z)] := hl
  obtain ⟨v0, v1, v2, v3, v4, v5, v6, vC, vS, vR⟩ := hL
  refine lv_aload_n (pc := 0) hx hb dd_X_finished_0 rfl (lv_at hl 0 rfl) ?_
  refine lv_iload_n (pc := 1) hx hb dd_X_finished_1 rfl (lv_at hl 1 rfl) ?_
  refine k_X_X_isClient (pc := 2) cx hl hP hS (by assumption) (ct_X_isClient l x S ⟨v0, v1, v2, v3, v4, v5, v6, vC, vS, vR⟩ z) ⟨⟨rfl, rfl⟩, ⟨(Nat.le_of_ble_eq_true rfl), (Nat.le_of_ble_eq_true rfl)⟩, (Nat.le_of_ble_eq_true rfl), (Nat.le_of_ble_eq_true rfl)⟩ (Nat.le_of_ble_eq_true rfl) dd_X_finished_2 (fun H locs hP hS => ?_)
  refine f_eqB (pc := 5) (tgt := 20) cx dd_X_finished_5 (by decide) (fun h5 => ?_) (fun h5 => ?_)
  · -- 5: t to 20
    refine lv_iconst (pc := 20) (v := (-1)) hx hb dd_X_finished_20 (by decide) ?_
    exact f_iret (pc := 21) cx hr hlocks hP hS rfl rfl dd_X_finished_21
  · -- 5: f to 8
    exact absurd (hz.symm.trans h5) (by decide)
set_option maxHeartbeats 4000000 in
set_option maxRecDepth 100000 in
theorem ct_X_finished (l : Launch) (x : fy) (S : fm) (hL : fL x) (c : Nat) (hc : c < 5) : Met l mn_X_finished (gw_ws mn_X_finished cb_X_finished 2 (some .int)) ({ frames := 1, cells := 0, slots := 0, locals := 21 } : Room) (fPc x (S) [.ref (xa x 0 0), .int (nI c)]) (fQi x (S) (mI S 7 c 12)) 0 0 (fun q => xs x ≤ q) := by
  refine f_met (by decide) (Nat.le_of_ble_eq_true rfl) ?_
  intro p e s m below meth c0 cx hr hlocks hnm hP hS ls hl
  have cx : fX rn_X cb_X_finished 2 p c0 s m [.ref (xa x 0 0), .int (nI c)].toArray x := cx
  have hx := cx.1.1
  have hb := cx.1.2.1
  have hl : lv_has ls 2 [(0, .ref (xa x 0 0)), (1, .int (nI c))] := hl
  obtain ⟨v0, v1, v2, v3, v4, v5, v6, vC, vS, vR⟩ := hL
  obtain ⟨v7, v8, v9⟩ := vC c hc
  refine lv_aload_n (pc := 0) hx hb dd_X_finished_0 rfl (lv_at hl 0 rfl) ?_
  refine lv_iload_n (pc := 1) hx hb dd_X_finished_1 rfl (lv_at hl 1 rfl) ?_
  refine k_X_X_isClient (pc := 2) cx hl hP hS (by assumption) (ct_X_isClient l x S ⟨v0, v1, v2, v3, v4, v5, v6, vC, vS, vR⟩ (nI c)) ⟨⟨rfl, rfl⟩, ⟨(Nat.le_of_ble_eq_true rfl), (Nat.le_of_ble_eq_true rfl)⟩, (Nat.le_of_ble_eq_true rfl), (Nat.le_of_ble_eq_true rfl)⟩ (Nat.le_of_ble_eq_true rfl) dd_X_finished_2 (fun H locs hP hS => ?_)
  refine f_eqB (pc := 5) (tgt := 20) cx dd_X_finished_5 (by decide) (fun h5 => ?_) (fun h5 => ?_)
  · -- 5: t to 20
    exact absurd (h5.symm.trans (q_cl_in hc)) (by decide)
  · -- 5: f to 8
    refine lv_aload_n (pc := 8) hx hb dd_X_finished_8 rfl (lv_at hl 0 rfl) ?_
    refine g_X_X_clients (pc := 9) cx hP (by assumption) dd_X_finished_9 ?_
    refine lv_iload_n (pc := 12) hx hb dd_X_finished_12 rfl (lv_at hl 1 rfl) ?_
    refine f_ald3 (pc := 13) cx hP (by assumption) rfl (by omega) dd_X_finished_13 ?_
    refine g_X_C_finished (pc := 14) cx hP (by assumption) dd_X_finished_14 ?_
    refine lv_goto (pc := 17) (tgt := 21) hx hb dd_X_finished_17 (by decide) ?_
    exact f_iret (pc := 21) cx hr hlocks hP hS rfl rfl dd_X_finished_21
set_option maxHeartbeats 4000000 in
set_option maxRecDepth 100000 in
theorem ct_X_held_no (l : Launch) (x : fy) (S : fm) (hL : fL x) (z : Int32) (hz : q_sv x z = false) : Met l mn_X_held (gw_ws mn_X_held cb_X_held 2 (some .int)) ({ frames := 1, cells := 0, slots := 0, locals := 21 } : Room) (fPc x (S) [.ref (xa x 0 0), .int z]) (fQi x (S) (-1)) 0 0 (fun q => xs x ≤ q) := by
  refine f_met (by decide) (Nat.le_of_ble_eq_true rfl) ?_
  intro p e s m below meth c0 cx hr hlocks hnm hP hS ls hl
  have cx : fX rn_X cb_X_held 2 p c0 s m [.ref (xa x 0 0), .int z].toArray x := cx
  have hx := cx.1.1
  have hb := cx.1.2.1
  have hl : lv_has ls 2 [(0, .ref (xa x 0 0)), (1, .int z)] := hl
  obtain ⟨v0, v1, v2, v3, v4, v5, v6, vC, vS, vR⟩ := hL
  refine lv_aload_n (pc := 0) hx hb dd_X_held_0 rfl (lv_at hl 0 rfl) ?_
  refine lv_iload_n (pc := 1) hx hb dd_X_held_1 rfl (lv_at hl 1 rfl) ?_
  refine k_X_X_isServer (pc := 2) cx hl hP hS (by assumption) (ct_X_isServer l x S ⟨v0, v1, v2, v3, v4, v5, v6, vC, vS, vR⟩ z) ⟨⟨rfl, rfl⟩, ⟨(Nat.le_of_ble_eq_true rfl), (Nat.le_of_ble_eq_true rfl)⟩, (Nat.le_of_ble_eq_true rfl), (Nat.le_of_ble_eq_true rfl)⟩ (Nat.le_of_ble_eq_true rfl) dd_X_held_2 (fun H locs hP hS => ?_)
  refine f_eqB (pc := 5) (tgt := 20) cx dd_X_held_5 (by decide) (fun h5 => ?_) (fun h5 => ?_)
  · -- 5: t to 20
    refine lv_iconst (pc := 20) (v := (-1)) hx hb dd_X_held_20 (by decide) ?_
    exact f_iret (pc := 21) cx hr hlocks hP hS rfl rfl dd_X_held_21
  · -- 5: f to 8
    exact absurd (hz.symm.trans h5) (by decide)
set_option maxHeartbeats 4000000 in
set_option maxRecDepth 100000 in
theorem ct_X_held (l : Launch) (x : fy) (S : fm) (hL : fL x) (s0 : Nat) (hs : s0 < xN x) (hO : fO x) : Met l mn_X_held (gw_ws mn_X_held cb_X_held 2 (some .int)) ({ frames := 1, cells := 0, slots := 0, locals := 21 } : Room) (fPc x (S) [.ref (xa x 0 0), .int (nI s0)]) (fQi x (S) (nI (mU S 10 s0 3))) 0 0 (fun q => xs x ≤ q) := by
  refine f_met (by decide) (Nat.le_of_ble_eq_true rfl) ?_
  intro p e s m below meth c0 cx hr hlocks hnm hP hS ls hl
  have cx : fX rn_X cb_X_held 2 p c0 s m [.ref (xa x 0 0), .int (nI s0)].toArray x := cx
  have hx := cx.1.1
  have hb := cx.1.2.1
  have hl : lv_has ls 2 [(0, .ref (xa x 0 0)), (1, .int (nI s0))] := hl
  obtain ⟨v0, v1, v2, v3, v4, v5, v6, vC, vS, vR⟩ := hL
  obtain ⟨v10, v11, v12⟩ := vS s0 hs
  refine lv_aload_n (pc := 0) hx hb dd_X_held_0 rfl (lv_at hl 0 rfl) ?_
  refine lv_iload_n (pc := 1) hx hb dd_X_held_1 rfl (lv_at hl 1 rfl) ?_
  refine k_X_X_isServer (pc := 2) cx hl hP hS (by assumption) (ct_X_isServer l x S ⟨v0, v1, v2, v3, v4, v5, v6, vC, vS, vR⟩ (nI s0)) ⟨⟨rfl, rfl⟩, ⟨(Nat.le_of_ble_eq_true rfl), (Nat.le_of_ble_eq_true rfl)⟩, (Nat.le_of_ble_eq_true rfl), (Nat.le_of_ble_eq_true rfl)⟩ (Nat.le_of_ble_eq_true rfl) dd_X_held_2 (fun H locs hP hS => ?_)
  refine f_eqB (pc := 5) (tgt := 20) cx dd_X_held_5 (by decide) (fun h5 => ?_) (fun h5 => ?_)
  · -- 5: t to 20
    exact absurd (h5.symm.trans (q_sv_in hO hs)) (by decide)
  · -- 5: f to 8
    refine lv_aload_n (pc := 8) hx hb dd_X_held_8 rfl (lv_at hl 0 rfl) ?_
    refine g_X_X_servers (pc := 9) cx hP (by assumption) dd_X_held_9 ?_
    refine lv_iload_n (pc := 12) hx hb dd_X_held_12 rfl (lv_at hl 1 rfl) ?_
    refine f_ald4 (pc := 13) cx hP (by assumption) rfl (by omega) dd_X_held_13 ?_
    refine g_X_S_count (pc := 14) cx hP (by assumption) dd_X_held_14 ?_
    refine lv_goto (pc := 17) (tgt := 21) hx hb dd_X_held_17 (by decide) ?_
    exact f_iret (pc := 21) cx hr hlocks hP hS rfl rfl dd_X_held_21
set_option maxHeartbeats 4000000 in
set_option maxRecDepth 100000 in
theorem ct_X_seal_no (l : Launch) (x : fy) (S : fm) (hL : fL x) (z : Int32) (hz : q_sv x z = false) : Met l mn_X_seal (gw_ws mn_X_seal cb_X_seal 2 (some .int)) ({ frames := 1, cells := 0, slots := 0, locals := 21 } : Room) (fPc x (S) [.ref (xa x 0 0), .int z]) (fQi x (S) (-1)) 0 0 (fun q => xs x ≤ q) := by
  refine f_met (by decide) (Nat.le_of_ble_eq_true rfl) ?_
  intro p e s m below meth c0 cx hr hlocks hnm hP hS ls hl
  have cx : fX rn_X cb_X_seal 2 p c0 s m [.ref (xa x 0 0), .int z].toArray x := cx
  have hx := cx.1.1
  have hb := cx.1.2.1
  have hl : lv_has ls 2 [(0, .ref (xa x 0 0)), (1, .int z)] := hl
  obtain ⟨v0, v1, v2, v3, v4, v5, v6, vC, vS, vR⟩ := hL
  refine lv_aload_n (pc := 0) hx hb dd_X_seal_0 rfl (lv_at hl 0 rfl) ?_
  refine lv_iload_n (pc := 1) hx hb dd_X_seal_1 rfl (lv_at hl 1 rfl) ?_
  refine k_X_X_isServer (pc := 2) cx hl hP hS (by assumption) (ct_X_isServer l x S ⟨v0, v1, v2, v3, v4, v5, v6, vC, vS, vR⟩ z) ⟨⟨rfl, rfl⟩, ⟨(Nat.le_of_ble_eq_true rfl), (Nat.le_of_ble_eq_true rfl)⟩, (Nat.le_of_ble_eq_true rfl), (Nat.le_of_ble_eq_true rfl)⟩ (Nat.le_of_ble_eq_true rfl) dd_X_seal_2 (fun H locs hP hS => ?_)
  refine f_eqB (pc := 5) (tgt := 20) cx dd_X_seal_5 (by decide) (fun h5 => ?_) (fun h5 => ?_)
  · -- 5: t to 20
    refine lv_iconst (pc := 20) (v := (-1)) hx hb dd_X_seal_20 (by decide) ?_
    exact f_iret (pc := 21) cx hr hlocks hP hS rfl rfl dd_X_seal_21
  · -- 5: f to 8
    exact absurd (hz.symm.trans h5) (by decide)
set_option maxHeartbeats 4000000 in
set_option maxRecDepth 100000 in
theorem ct_X_seal (l : Launch) (x : fy) (S : fm) (hL : fL x) (s0 : Nat) (hs : s0 < xN x) (hO : fO x) : Met l mn_X_seal (gw_ws mn_X_seal cb_X_seal 2 (some .int)) ({ frames := 1, cells := 0, slots := 0, locals := 21 } : Room) (fPc x (S) [.ref (xa x 0 0), .int (nI s0)]) (fQi x (S) (mI S 10 s0 4)) 0 0 (fun q => xs x ≤ q) := by
  refine f_met (by decide) (Nat.le_of_ble_eq_true rfl) ?_
  intro p e s m below meth c0 cx hr hlocks hnm hP hS ls hl
  have cx : fX rn_X cb_X_seal 2 p c0 s m [.ref (xa x 0 0), .int (nI s0)].toArray x := cx
  have hx := cx.1.1
  have hb := cx.1.2.1
  have hl : lv_has ls 2 [(0, .ref (xa x 0 0)), (1, .int (nI s0))] := hl
  obtain ⟨v0, v1, v2, v3, v4, v5, v6, vC, vS, vR⟩ := hL
  obtain ⟨v10, v11, v12⟩ := vS s0 hs
  refine lv_aload_n (pc := 0) hx hb dd_X_seal_0 rfl (lv_at hl 0 rfl) ?_
  refine lv_iload_n (pc := 1) hx hb dd_X_seal_1 rfl (lv_at hl 1 rfl) ?_
  refine k_X_X_isServer (pc := 2) cx hl hP hS (by assumption) (ct_X_isServer l x S ⟨v0, v1, v2, v3, v4, v5, v6, vC, vS, vR⟩ (nI s0)) ⟨⟨rfl, rfl⟩, ⟨(Nat.le_of_ble_eq_true rfl), (Nat.le_of_ble_eq_true rfl)⟩, (Nat.le_of_ble_eq_true rfl), (Nat.le_of_ble_eq_true rfl)⟩ (Nat.le_of_ble_eq_true rfl) dd_X_seal_2 (fun H locs hP hS => ?_)
  refine f_eqB (pc := 5) (tgt := 20) cx dd_X_seal_5 (by decide) (fun h5 => ?_) (fun h5 => ?_)
  · -- 5: t to 20
    exact absurd (h5.symm.trans (q_sv_in hO hs)) (by decide)
  · -- 5: f to 8
    refine lv_aload_n (pc := 8) hx hb dd_X_seal_8 rfl (lv_at hl 0 rfl) ?_
    refine g_X_X_servers (pc := 9) cx hP (by assumption) dd_X_seal_9 ?_
    refine lv_iload_n (pc := 12) hx hb dd_X_seal_12 rfl (lv_at hl 1 rfl) ?_
    refine f_ald4 (pc := 13) cx hP (by assumption) rfl (by omega) dd_X_seal_13 ?_
    refine g_X_S_seal (pc := 14) cx hP (by assumption) dd_X_seal_14 ?_
    refine lv_goto (pc := 17) (tgt := 21) hx hb dd_X_seal_17 (by decide) ?_
    exact f_iret (pc := 21) cx hr hlocks hP hS rfl rfl dd_X_seal_21
set_option maxHeartbeats 4000000 in
set_option maxRecDepth 100000 in
theorem ct_X_heldTag_no (l : Launch) (x : fy) (S : fm) (hL : fL x) (z i : Int32) (hz : q_sv x z = false) : Met l mn_X_heldTag (gw_ws mn_X_heldTag cb_X_heldTag 3 (some .int)) ({ frames := 1, cells := 0, slots := 0, locals := 21 } : Room) (fPc x (S) [.ref (xa x 0 0), .int z, .int i]) (fQi x (S) (-1)) 0 0 (fun q => xs x ≤ q) := by
  refine f_met (by decide) (Nat.le_of_ble_eq_true rfl) ?_
  intro p e s m below meth c0 cx hr hlocks hnm hP hS ls hl
  have cx : fX rn_X cb_X_heldTag 3 p c0 s m [.ref (xa x 0 0), .int z, .int i].toArray x := cx
  have hx := cx.1.1
  have hb := cx.1.2.1
  have hl : lv_has ls 3 [(0, .ref (xa x 0 0)), (1, .int z), (2, .int i)] := hl
  obtain ⟨v0, v1, v2, v3, v4, v5, v6, vC, vS, vR⟩ := hL
  refine lv_aload_n (pc := 0) hx hb dd_X_heldTag_0 rfl (lv_at hl 0 rfl) ?_
  refine lv_iload_n (pc := 1) hx hb dd_X_heldTag_1 rfl (lv_at hl 1 rfl) ?_
  refine k_X_X_isServer (pc := 2) cx hl hP hS (by assumption) (ct_X_isServer l x S ⟨v0, v1, v2, v3, v4, v5, v6, vC, vS, vR⟩ z) ⟨⟨rfl, rfl⟩, ⟨(Nat.le_of_ble_eq_true rfl), (Nat.le_of_ble_eq_true rfl)⟩, (Nat.le_of_ble_eq_true rfl), (Nat.le_of_ble_eq_true rfl)⟩ (Nat.le_of_ble_eq_true rfl) dd_X_heldTag_2 (fun H locs hP hS => ?_)
  refine f_eqB (pc := 5) (tgt := 25) cx dd_X_heldTag_5 (by decide) (fun h5 => ?_) (fun h5 => ?_)
  · -- 5: t to 25
    refine lv_iconst (pc := 25) (v := (-1)) hx hb dd_X_heldTag_25 (by decide) ?_
    exact f_iret (pc := 26) cx hr hlocks hP hS rfl rfl dd_X_heldTag_26
  · -- 5: f to 8
    exact absurd (hz.symm.trans h5) (by decide)
set_option maxHeartbeats 4000000 in
set_option maxRecDepth 100000 in
theorem ct_X_heldTag_bad (l : Launch) (x : fy) (S : fm) (hL : fL x) (s0 : Nat) (i : Int32) (hs : s0 < xN x) (hO : fO x) (hi : i < 0 ∨ nI (mU S 10 s0 3) ≤ i) : Met l mn_X_heldTag (gw_ws mn_X_heldTag cb_X_heldTag 3 (some .int)) ({ frames := 1, cells := 0, slots := 0, locals := 21 } : Room) (fPc x (S) [.ref (xa x 0 0), .int (nI s0), .int i]) (fQi x (S) (-1)) 0 0 (fun q => xs x ≤ q) := by
  refine f_met (by decide) (Nat.le_of_ble_eq_true rfl) ?_
  intro p e s m below meth c0 cx hr hlocks hnm hP hS ls hl
  have cx : fX rn_X cb_X_heldTag 3 p c0 s m [.ref (xa x 0 0), .int (nI s0), .int i].toArray x := cx
  have hx := cx.1.1
  have hb := cx.1.2.1
  have hl : lv_has ls 3 [(0, .ref (xa x 0 0)), (1, .int (nI s0)), (2, .int i)] := hl
  obtain ⟨v0, v1, v2, v3, v4, v5, v6, vC, vS, vR⟩ := hL
  obtain ⟨v10, v11, v12⟩ := vS s0 hs
  refine lv_aload_n (pc := 0) hx hb dd_X_heldTag_0 rfl (lv_at hl 0 rfl) ?_
  refine lv_iload_n (pc := 1) hx hb dd_X_heldTag_1 rfl (lv_at hl 1 rfl) ?_
  refine k_X_X_isServer (pc := 2) cx hl hP hS (by assumption) (ct_X_isServer l x S ⟨v0, v1, v2, v3, v4, v5, v6, vC, vS, vR⟩ (nI s0)) ⟨⟨rfl, rfl⟩, ⟨(Nat.le_of_ble_eq_true rfl), (Nat.le_of_ble_eq_true rfl)⟩, (Nat.le_of_ble_eq_true rfl), (Nat.le_of_ble_eq_true rfl)⟩ (Nat.le_of_ble_eq_true rfl) dd_X_heldTag_2 (fun H locs hP hS => ?_)
  refine f_eqB (pc := 5) (tgt := 25) cx dd_X_heldTag_5 (by decide) (fun h5 => ?_) (fun h5 => ?_)
  · -- 5: t to 25
    exact absurd (h5.symm.trans (q_sv_in hO hs)) (by decide)
  · -- 5: f to 8
    refine lv_iload_n (pc := 8) hx hb dd_X_heldTag_8 rfl (lv_at hl 2 rfl) ?_
    refine lv_if_lt (pc := 9) (tgt := 25) hx hb dd_X_heldTag_9 (by decide) (fun h9 => ?_) (fun h9 => ?_)
    · -- 9: t to 25
      refine lv_iconst (pc := 25) (v := (-1)) hx hb dd_X_heldTag_25 (by decide) ?_
      exact f_iret (pc := 26) cx hr hlocks hP hS rfl rfl dd_X_heldTag_26
    · -- 9: f to 12
      refine lv_iload_n (pc := 12) hx hb dd_X_heldTag_12 rfl (lv_at hl 2 rfl) ?_
      refine lv_aload_n (pc := 13) hx hb dd_X_heldTag_13 rfl (lv_at hl 0 rfl) ?_
      refine g_X_X_servers (pc := 14) cx hP (by assumption) dd_X_heldTag_14 ?_
      refine lv_iload_n (pc := 17) hx hb dd_X_heldTag_17 rfl (lv_at hl 1 rfl) ?_
      refine f_ald4 (pc := 18) cx hP (by assumption) rfl (by omega) dd_X_heldTag_18 ?_
      refine g_X_S_count (pc := 19) cx hP (by assumption) dd_X_heldTag_19 ?_
      refine lv_icmp_lt (pc := 22) (tgt := 27) hx hb dd_X_heldTag_22 (by decide) (fun h22 => ?_) (fun h22 => ?_)
      · -- 22: t to 27
        exact absurd h22 (fun q => hi.elim h9 (fun q2 => absurd q (Int32.not_lt.mpr q2)))
      · -- 22: f to 25
        refine lv_iconst (pc := 25) (v := (-1)) hx hb dd_X_heldTag_25 (by decide) ?_
        exact f_iret (pc := 26) cx hr hlocks hP hS rfl rfl dd_X_heldTag_26
set_option maxHeartbeats 4000000 in
set_option maxRecDepth 100000 in
theorem ct_X_heldTag (l : Launch) (x : fy) (S : fm) (hL : fL x) (s0 j : Nat) (hs : s0 < xN x) (hO : fO x) (hj : j < mU S 10 s0 3) (hI : fI x S) : Met l mn_X_heldTag (gw_ws mn_X_heldTag cb_X_heldTag 3 (some .int)) ({ frames := 1, cells := 0, slots := 0, locals := 21 } : Room) (fPc x (S) [.ref (xa x 0 0), .int (nI s0), .int (nI j)]) (fQi x (S) (mI S 11 s0 j)) 0 0 (fun q => xs x ≤ q) := by
  refine f_met (by decide) (Nat.le_of_ble_eq_true rfl) ?_
  intro p e s m below meth c0 cx hr hlocks hnm hP hS ls hl
  have cx : fX rn_X cb_X_heldTag 3 p c0 s m [.ref (xa x 0 0), .int (nI s0), .int (nI j)].toArray x := cx
  have hx := cx.1.1
  have hb := cx.1.2.1
  have hl : lv_has ls 3 [(0, .ref (xa x 0 0)), (1, .int (nI s0)), (2, .int (nI j))] := hl
  obtain ⟨v0, v1, v2, v3, v4, v5, v6, vC, vS, vR⟩ := hL
  obtain ⟨v10, v11, v12⟩ := vS s0 hs
  have hcn := hI.2.2.1 s0
  have hD : xD x ≤ 3 := by have := hO; unfold fO at this; omega
  refine lv_aload_n (pc := 0) hx hb dd_X_heldTag_0 rfl (lv_at hl 0 rfl) ?_
  refine lv_iload_n (pc := 1) hx hb dd_X_heldTag_1 rfl (lv_at hl 1 rfl) ?_
  refine k_X_X_isServer (pc := 2) cx hl hP hS (by assumption) (ct_X_isServer l x S ⟨v0, v1, v2, v3, v4, v5, v6, vC, vS, vR⟩ (nI s0)) ⟨⟨rfl, rfl⟩, ⟨(Nat.le_of_ble_eq_true rfl), (Nat.le_of_ble_eq_true rfl)⟩, (Nat.le_of_ble_eq_true rfl), (Nat.le_of_ble_eq_true rfl)⟩ (Nat.le_of_ble_eq_true rfl) dd_X_heldTag_2 (fun H locs hP hS => ?_)
  refine f_eqB (pc := 5) (tgt := 25) cx dd_X_heldTag_5 (by decide) (fun h5 => ?_) (fun h5 => ?_)
  · -- 5: t to 25
    exact absurd (h5.symm.trans (q_sv_in hO hs)) (by decide)
  · -- 5: f to 8
    refine lv_iload_n (pc := 8) hx hb dd_X_heldTag_8 rfl (lv_at hl 2 rfl) ?_
    refine lv_if_lt (pc := 9) (tgt := 25) hx hb dd_X_heldTag_9 (by decide) (fun h9 => ?_) (fun h9 => ?_)
    · -- 9: t to 25
      exact absurd h9 (nI_pos (by omega))
    · -- 9: f to 12
      refine lv_iload_n (pc := 12) hx hb dd_X_heldTag_12 rfl (lv_at hl 2 rfl) ?_
      refine lv_aload_n (pc := 13) hx hb dd_X_heldTag_13 rfl (lv_at hl 0 rfl) ?_
      refine g_X_X_servers (pc := 14) cx hP (by assumption) dd_X_heldTag_14 ?_
      refine lv_iload_n (pc := 17) hx hb dd_X_heldTag_17 rfl (lv_at hl 1 rfl) ?_
      refine f_ald4 (pc := 18) cx hP (by assumption) rfl (by omega) dd_X_heldTag_18 ?_
      refine g_X_S_count (pc := 19) cx hP (by assumption) dd_X_heldTag_19 ?_
      refine lv_icmp_lt (pc := 22) (tgt := 27) hx hb dd_X_heldTag_22 (by decide) (fun h22 => ?_) (fun h22 => ?_)
      · -- 22: t to 27
        refine lv_aload_n (pc := 27) hx hb dd_X_heldTag_27 rfl (lv_at hl 0 rfl) ?_
        refine g_X_X_servers (pc := 28) cx hP (by assumption) dd_X_heldTag_28 ?_
        refine lv_iload_n (pc := 31) hx hb dd_X_heldTag_31 rfl (lv_at hl 1 rfl) ?_
        refine f_ald4 (pc := 32) cx hP (by assumption) rfl (by omega) dd_X_heldTag_32 ?_
        refine g_X_S_tags (pc := 33) cx hP (by assumption) dd_X_heldTag_33 ?_
        refine lv_iload_n (pc := 36) hx hb dd_X_heldTag_36 rfl (lv_at hl 2 rfl) ?_
        refine f_iald (pc := 37) cx hP (fv.at (by assumption) _) rfl rfl (by omega) dd_X_heldTag_37 ?_
        exact f_iret (pc := 38) cx hr hlocks hP hS rfl rfl dd_X_heldTag_38
      · -- 22: f to 25
        exact absurd ((nI_ltI (by omega) (by omega)).mpr hj) h22
set_option maxHeartbeats 4000000 in
set_option maxRecDepth 100000 in
theorem ct_X_fragment_no (l : Launch) (x : fy) (S : fm) (hL : fL x) (z t i : Int32) (hz : q_sv x z = false) : Met l mn_X_fragment (gw_ws mn_X_fragment cb_X_fragment 5 (some .int)) ({ frames := 1, cells := 0, slots := 0, locals := 22 } : Room) (fPc x (S) [.ref (xa x 0 0), .int z, .int t, .int i]) (fQi x (S) (-1)) 0 0 (fun q => xs x ≤ q) := by
  refine f_met (by decide) (Nat.le_of_ble_eq_true rfl) ?_
  intro p e s m below meth c0 cx hr hlocks hnm hP hS ls hl
  have cx : fX rn_X cb_X_fragment 5 p c0 s m [.ref (xa x 0 0), .int z, .int t, .int i].toArray x := cx
  have hx := cx.1.1
  have hb := cx.1.2.1
  have hl : lv_has ls 5 [(0, .ref (xa x 0 0)), (1, .int z), (2, .int t), (3, .int i)] := hl
  obtain ⟨v0, v1, v2, v3, v4, v5, v6, vC, vS, vR⟩ := hL
  refine lv_aload_n (pc := 0) hx hb dd_X_fragment_0 rfl (lv_at hl 0 rfl) ?_
  refine lv_iload_n (pc := 1) hx hb dd_X_fragment_1 rfl (lv_at hl 1 rfl) ?_
  refine k_X_X_isServer (pc := 2) cx hl hP hS (by assumption) (ct_X_isServer l x S ⟨v0, v1, v2, v3, v4, v5, v6, vC, vS, vR⟩ z) ⟨⟨rfl, rfl⟩, ⟨(Nat.le_of_ble_eq_true rfl), (Nat.le_of_ble_eq_true rfl)⟩, (Nat.le_of_ble_eq_true rfl), (Nat.le_of_ble_eq_true rfl)⟩ (Nat.le_of_ble_eq_true rfl) dd_X_fragment_2 (fun H locs hP hS => ?_)
  refine f_eqB (pc := 5) (tgt := 23) cx dd_X_fragment_5 (by decide) (fun h5 => ?_) (fun h5 => ?_)
  · -- 5: t to 23
    refine lv_iconst (pc := 23) (v := (-1)) hx hb dd_X_fragment_23 (by decide) ?_
    exact f_iret (pc := 24) cx hr hlocks hP hS rfl rfl dd_X_fragment_24
  · -- 5: f to 8
    exact absurd (hz.symm.trans h5) (by decide)
set_option maxHeartbeats 4000000 in
set_option maxRecDepth 100000 in
theorem ct_X_fragment_bad (l : Launch) (x : fy) (S : fm) (hL : fL x) (s0 : Nat) (t i : Int32) (hs : s0 < xN x) (hO : fO x) (hi : i < 0 ∨ nI (xR x) ≤ i) : Met l mn_X_fragment (gw_ws mn_X_fragment cb_X_fragment 5 (some .int)) ({ frames := 1, cells := 0, slots := 0, locals := 22 } : Room) (fPc x (S) [.ref (xa x 0 0), .int (nI s0), .int t, .int i]) (fQi x (S) (-1)) 0 0 (fun q => xs x ≤ q) := by
  refine f_met (by decide) (Nat.le_of_ble_eq_true rfl) ?_
  intro p e s m below meth c0 cx hr hlocks hnm hP hS ls hl
  have cx : fX rn_X cb_X_fragment 5 p c0 s m [.ref (xa x 0 0), .int (nI s0), .int t, .int i].toArray x := cx
  have hx := cx.1.1
  have hb := cx.1.2.1
  have hl : lv_has ls 5 [(0, .ref (xa x 0 0)), (1, .int (nI s0)), (2, .int t), (3, .int i)] := hl
  obtain ⟨v0, v1, v2, v3, v4, v5, v6, vC, vS, vR⟩ := hL
  obtain ⟨v10, v11, v12⟩ := vS s0 hs
  refine lv_aload_n (pc := 0) hx hb dd_X_fragment_0 rfl (lv_at hl 0 rfl) ?_
  refine lv_iload_n (pc := 1) hx hb dd_X_fragment_1 rfl (lv_at hl 1 rfl) ?_
  refine k_X_X_isServer (pc := 2) cx hl hP hS (by assumption) (ct_X_isServer l x S ⟨v0, v1, v2, v3, v4, v5, v6, vC, vS, vR⟩ (nI s0)) ⟨⟨rfl, rfl⟩, ⟨(Nat.le_of_ble_eq_true rfl), (Nat.le_of_ble_eq_true rfl)⟩, (Nat.le_of_ble_eq_true rfl), (Nat.le_of_ble_eq_true rfl)⟩ (Nat.le_of_ble_eq_true rfl) dd_X_fragment_2 (fun H locs hP hS => ?_)
  refine f_eqB (pc := 5) (tgt := 23) cx dd_X_fragment_5 (by decide) (fun h5 => ?_) (fun h5 => ?_)
  · -- 5: t to 23
    exact absurd (h5.symm.trans (q_sv_in hO hs)) (by decide)
  · -- 5: f to 8
    refine lv_iload_n (pc := 8) hx hb dd_X_fragment_8 rfl (lv_at hl 3 rfl) ?_
    refine lv_if_lt (pc := 9) (tgt := 23) hx hb dd_X_fragment_9 (by decide) (fun h9 => ?_) (fun h9 => ?_)
    · -- 9: t to 23
      refine lv_iconst (pc := 23) (v := (-1)) hx hb dd_X_fragment_23 (by decide) ?_
      exact f_iret (pc := 24) cx hr hlocks hP hS rfl rfl dd_X_fragment_24
    · -- 9: f to 12
      refine lv_iload_n (pc := 12) hx hb dd_X_fragment_12 rfl (lv_at hl 3 rfl) ?_
      refine lv_aload_n (pc := 13) hx hb dd_X_fragment_13 rfl (lv_at hl 0 rfl) ?_
      refine g_X_X_code (pc := 14) cx hP (by assumption) dd_X_fragment_14 ?_
      refine g_X_K_length (pc := 17) cx hP (by assumption) dd_X_fragment_17 ?_
      refine lv_icmp_lt (pc := 20) (tgt := 25) hx hb dd_X_fragment_20 (by decide) (fun h20 => ?_) (fun h20 => ?_)
      · -- 20: t to 25
        exact absurd h20 (fun q => hi.elim h9 (fun q2 => absurd q (Int32.not_lt.mpr q2)))
      · -- 20: f to 23
        refine lv_iconst (pc := 23) (v := (-1)) hx hb dd_X_fragment_23 (by decide) ?_
        exact f_iret (pc := 24) cx hr hlocks hP hS rfl rfl dd_X_fragment_24
set_option maxHeartbeats 4000000 in
set_option maxRecDepth 100000 in
theorem ct_X_fragment (l : Launch) (x : fy) (S : fm) (hL : fL x) (s0 r : Nat) (t : Int32) (hs : s0 < xN x) (hO : fO x) (hr0 : r < xR x) (hI : fI x S) : Met l mn_X_fragment (gw_ws mn_X_fragment cb_X_fragment 5 (some .int)) ({ frames := 1, cells := 0, slots := 0, locals := 22 } : Room) (fPc x (S) [.ref (xa x 0 0), .int (nI s0), .int t, .int (nI r)]) (fQi x (S) (q_frag S s0 t r)) 0 0 (fun q => xs x ≤ q) := by
  refine f_met (by decide) (Nat.le_of_ble_eq_true rfl) ?_
  intro p e s m below meth c0 cx hr hlocks hnm hP hS ls hl
  have cx : fX rn_X cb_X_fragment 5 p c0 s m [.ref (xa x 0 0), .int (nI s0), .int t, .int (nI r)].toArray x := cx
  have hx := cx.1.1
  have hb := cx.1.2.1
  have hl : lv_has ls 5 [(0, .ref (xa x 0 0)), (1, .int (nI s0)), (2, .int t), (3, .int (nI r))] := hl
  obtain ⟨v0, v1, v2, v3, v4, v5, v6, vC, vS, vR⟩ := hL
  obtain ⟨v10, v11, v12⟩ := vS s0 hs
  have hcn := hI.2.2.1 s0
  have hD : xD x ≤ 3 := by have := hO; unfold fO at this; omega
  have hR := xR_facts x hO
  refine lv_aload_n (pc := 0) hx hb dd_X_fragment_0 rfl (lv_at hl 0 rfl) ?_
  refine lv_iload_n (pc := 1) hx hb dd_X_fragment_1 rfl (lv_at hl 1 rfl) ?_
  refine k_X_X_isServer (pc := 2) cx hl hP hS (by assumption) (ct_X_isServer l x S ⟨v0, v1, v2, v3, v4, v5, v6, vC, vS, vR⟩ (nI s0)) ⟨⟨rfl, rfl⟩, ⟨(Nat.le_of_ble_eq_true rfl), (Nat.le_of_ble_eq_true rfl)⟩, (Nat.le_of_ble_eq_true rfl), (Nat.le_of_ble_eq_true rfl)⟩ (Nat.le_of_ble_eq_true rfl) dd_X_fragment_2 (fun H locs hP hS => ?_)
  refine f_eqB (pc := 5) (tgt := 23) cx dd_X_fragment_5 (by decide) (fun h5 => ?_) (fun h5 => ?_)
  · -- 5: t to 23
    exact absurd (h5.symm.trans (q_sv_in hO hs)) (by decide)
  · -- 5: f to 8
    refine lv_iload_n (pc := 8) hx hb dd_X_fragment_8 rfl (lv_at hl 3 rfl) ?_
    refine lv_if_lt (pc := 9) (tgt := 23) hx hb dd_X_fragment_9 (by decide) (fun h9 => ?_) (fun h9 => ?_)
    · -- 9: t to 23
      exact absurd h9 (nI_pos (by omega))
    · -- 9: f to 12
      refine lv_iload_n (pc := 12) hx hb dd_X_fragment_12 rfl (lv_at hl 3 rfl) ?_
      refine lv_aload_n (pc := 13) hx hb dd_X_fragment_13 rfl (lv_at hl 0 rfl) ?_
      refine g_X_X_code (pc := 14) cx hP (by assumption) dd_X_fragment_14 ?_
      refine g_X_K_length (pc := 17) cx hP (by assumption) dd_X_fragment_17 ?_
      refine lv_icmp_lt (pc := 20) (tgt := 25) hx hb dd_X_fragment_20 (by decide) (fun h20 => ?_) (fun h20 => ?_)
      · -- 20: t to 25
        refine lv_aload_n (pc := 25) hx hb dd_X_fragment_25 rfl (lv_at hl 0 rfl) ?_
        refine g_X_X_servers (pc := 26) cx hP (by assumption) dd_X_fragment_26 ?_
        refine lv_iload_n (pc := 29) hx hb dd_X_fragment_29 rfl (lv_at hl 1 rfl) ?_
        refine f_ald4 (pc := 30) cx hP (by assumption) rfl (by omega) dd_X_fragment_30 ?_
        refine lv_iload_n (pc := 31) hx hb dd_X_fragment_31 rfl (lv_at hl 2 rfl) ?_
        refine k_X_S_placeOf (pc := 32) cx hl hP hS (by assumption) (ct_S_placeOf l x S s0 t v10 v11 hcn hD) ⟨⟨rfl, rfl⟩, ⟨(Nat.le_of_ble_eq_true rfl), (Nat.le_of_ble_eq_true rfl)⟩, (Nat.le_of_ble_eq_true rfl), (Nat.le_of_ble_eq_true rfl)⟩ (Nat.le_of_ble_eq_true rfl) dd_X_fragment_32 (fun H locs hP hS => ?_)
        refine lv_istore (pc := 35) (lv' := [(4, _), (0, _), (1, _), (2, _), (3, _)]) hx hb dd_X_fragment_35 hl (Nat.le_of_ble_eq_true rfl) rfl (fun ls hl => ?_)
        cases hq : q_place S s0 t with
        | none =>
          rw [hq] at hl
          refine lv_iload (pc := 37) hx hb dd_X_fragment_37 (lv_at hl 0 rfl) ?_
          refine lv_if_ge (pc := 39) (tgt := 46) hx hb dd_X_fragment_39 (by decide) (fun h39 => ?_) (fun h39 => ?_)
          · -- 39: t to 46
            exact absurd h39 (by decide)
          · -- 39: f to 42
            refine lv_iconst (pc := 42) (v := (-1)) hx hb dd_X_fragment_42 (by decide) ?_
            refine lv_goto (pc := 43) (tgt := 62) hx hb dd_X_fragment_43 (by decide) ?_
            exact f_iret (pc := 62) cx hr hlocks hP hS (by simp [q_frag, hq]) rfl dd_X_fragment_62
        | some i =>
          have hi : i < mU S 10 s0 3 := List.mem_range.mp (List.mem_of_find?_eq_some hq)
          rw [hq] at hl
          refine lv_iload (pc := 37) hx hb dd_X_fragment_37 (lv_at hl 0 rfl) ?_
          refine lv_if_ge (pc := 39) (tgt := 46) hx hb dd_X_fragment_39 (by decide) (fun h39 => ?_) (fun h39 => ?_)
          · -- 39: t to 46
            refine lv_aload_n (pc := 46) hx hb dd_X_fragment_46 rfl (lv_at hl 1 rfl) ?_
            refine g_X_X_servers (pc := 47) cx hP (by assumption) dd_X_fragment_47 ?_
            refine lv_iload_n (pc := 50) hx hb dd_X_fragment_50 rfl (lv_at hl 2 rfl) ?_
            refine f_ald4 (pc := 51) cx hP (by assumption) rfl (by omega) dd_X_fragment_51 ?_
            refine g_X_S_fragments (pc := 52) cx hP (by assumption) dd_X_fragment_52 ?_
            refine lv_iload (pc := 55) hx hb dd_X_fragment_55 (lv_at hl 0 rfl) ?_
            refine f_lald (pc := 57) cx hP (fv.at (by assumption) _) rfl rfl (by omega) dd_X_fragment_57 ?_
            refine lv_iload_n (pc := 58) hx hb dd_X_fragment_58 rfl (lv_at hl 4 rfl) ?_
            refine k_X_K_byteAt (pc := 59) cx hl hP hS (ct_K_byteAt l x S (mJ S 12 s0 i) r (by omega)) ⟨⟨rfl, rfl⟩, ⟨(Nat.le_of_ble_eq_true rfl), (Nat.le_of_ble_eq_true rfl)⟩, (Nat.le_of_ble_eq_true rfl), (Nat.le_of_ble_eq_true rfl)⟩ (Nat.le_of_ble_eq_true rfl) dd_X_fragment_59 (fun H locs hP hS => ?_)
            exact f_iret (pc := 62) cx hr hlocks hP hS (by simp [q_frag, hq]) rfl dd_X_fragment_62
          · -- 39: f to 42
            exact absurd (nI_pos' (by omega)) h39
      · -- 20: f to 23
        exact absurd ((nI_ltI (by omega) (by omega)).mpr hr0) h20
set_option maxHeartbeats 4000000 in
set_option maxRecDepth 100000 in
theorem ct_X_requests_no (l : Launch) (x : fy) (S : fm) (hL : fL x) (z y : Int32) (hz : q_cl z = false ∨ q_sv x y = false) : Met l mn_X_requests (gw_ws mn_X_requests cb_X_requests 3 (some .int)) ({ frames := 1, cells := 0, slots := 0, locals := 22 } : Room) (fPc x (S) [.ref (xa x 0 0), .int z, .int y]) (fQi x (S) (-1)) 0 0 (fun q => xs x ≤ q) := by
  refine f_met (by decide) (Nat.le_of_ble_eq_true rfl) ?_
  intro p e s m below meth c0 cx hr hlocks hnm hP hS ls hl
  have cx : fX rn_X cb_X_requests 3 p c0 s m [.ref (xa x 0 0), .int z, .int y].toArray x := cx
  have hx := cx.1.1
  have hb := cx.1.2.1
  have hl : lv_has ls 3 [(0, .ref (xa x 0 0)), (1, .int z), (2, .int y)] := hl
  obtain ⟨v0, v1, v2, v3, v4, v5, v6, vC, vS, vR⟩ := hL
  refine lv_aload_n (pc := 0) hx hb dd_X_requests_0 rfl (lv_at hl 0 rfl) ?_
  refine lv_iload_n (pc := 1) hx hb dd_X_requests_1 rfl (lv_at hl 1 rfl) ?_
  refine k_X_X_isClient (pc := 2) cx hl hP hS (by assumption) (ct_X_isClient l x S ⟨v0, v1, v2, v3, v4, v5, v6, vC, vS, vR⟩ z) ⟨⟨rfl, rfl⟩, ⟨(Nat.le_of_ble_eq_true rfl), (Nat.le_of_ble_eq_true rfl)⟩, (Nat.le_of_ble_eq_true rfl), (Nat.le_of_ble_eq_true rfl)⟩ (Nat.le_of_ble_eq_true rfl) dd_X_requests_2 (fun H locs hP hS => ?_)
  refine f_eqB (pc := 5) (tgt := 33) cx dd_X_requests_5 (by decide) (fun h5 => ?_) (fun h5 => ?_)
  · -- 5: t to 33
    refine lv_iconst (pc := 33) (v := (-1)) hx hb dd_X_requests_33 (by decide) ?_
    exact f_iret (pc := 34) cx hr hlocks hP hS rfl rfl dd_X_requests_34
  · -- 5: f to 8
    refine lv_aload_n (pc := 8) hx hb dd_X_requests_8 rfl (lv_at hl 0 rfl) ?_
    refine lv_iload_n (pc := 9) hx hb dd_X_requests_9 rfl (lv_at hl 2 rfl) ?_
    refine k_X_X_isServer (pc := 10) cx hl hP hS (by assumption) (ct_X_isServer l x S ⟨v0, v1, v2, v3, v4, v5, v6, vC, vS, vR⟩ y) ⟨⟨rfl, rfl⟩, ⟨(Nat.le_of_ble_eq_true rfl), (Nat.le_of_ble_eq_true rfl)⟩, (Nat.le_of_ble_eq_true rfl), (Nat.le_of_ble_eq_true rfl)⟩ (Nat.le_of_ble_eq_true rfl) dd_X_requests_10 (fun H locs hP hS => ?_)
    refine f_eqB (pc := 13) (tgt := 33) cx dd_X_requests_13 (by decide) (fun h13 => ?_) (fun h13 => ?_)
    · -- 13: t to 33
      refine lv_iconst (pc := 33) (v := (-1)) hx hb dd_X_requests_33 (by decide) ?_
      exact f_iret (pc := 34) cx hr hlocks hP hS rfl rfl dd_X_requests_34
    · -- 13: f to 16
      exact hz.elim (fun q => absurd (q.symm.trans h5) (by decide)) (fun q => absurd (q.symm.trans h13) (by decide))
set_option maxHeartbeats 4000000 in
set_option maxRecDepth 100000 in
theorem ct_X_requests (l : Launch) (x : fy) (S : fm) (hL : fL x) (c s0 : Nat) (hc : c < 5) (hs : s0 < xN x) (hO : fO x) : Met l mn_X_requests (gw_ws mn_X_requests cb_X_requests 3 (some .int)) ({ frames := 1, cells := 0, slots := 0, locals := 22 } : Room) (fPc x (S) [.ref (xa x 0 0), .int (nI c), .int (nI s0)]) (fQi x (S) (nI (mU S 13 (c * xN x + s0) 1))) 0 0 (fun q => xs x ≤ q) := by
  refine f_met (by decide) (Nat.le_of_ble_eq_true rfl) ?_
  intro p e s m below meth c0 cx hr hlocks hnm hP hS ls hl
  have cx : fX rn_X cb_X_requests 3 p c0 s m [.ref (xa x 0 0), .int (nI c), .int (nI s0)].toArray x := cx
  have hx := cx.1.1
  have hb := cx.1.2.1
  have hl : lv_has ls 3 [(0, .ref (xa x 0 0)), (1, .int (nI c)), (2, .int (nI s0))] := hl
  obtain ⟨v0, v1, v2, v3, v4, v5, v6, vC, vS, vR⟩ := hL
  obtain ⟨v13, v14, v13r, v14r⟩ := vR _ (row_lt hc hs)
  have hN : xN x ≤ 7 := hO.2.2.2.1
  refine lv_aload_n (pc := 0) hx hb dd_X_requests_0 rfl (lv_at hl 0 rfl) ?_
  refine lv_iload_n (pc := 1) hx hb dd_X_requests_1 rfl (lv_at hl 1 rfl) ?_
  refine k_X_X_isClient (pc := 2) cx hl hP hS (by assumption) (ct_X_isClient l x S ⟨v0, v1, v2, v3, v4, v5, v6, vC, vS, vR⟩ (nI c)) ⟨⟨rfl, rfl⟩, ⟨(Nat.le_of_ble_eq_true rfl), (Nat.le_of_ble_eq_true rfl)⟩, (Nat.le_of_ble_eq_true rfl), (Nat.le_of_ble_eq_true rfl)⟩ (Nat.le_of_ble_eq_true rfl) dd_X_requests_2 (fun H locs hP hS => ?_)
  refine f_eqB (pc := 5) (tgt := 33) cx dd_X_requests_5 (by decide) (fun h5 => ?_) (fun h5 => ?_)
  · -- 5: t to 33
    exact absurd (h5.symm.trans (q_cl_in hc)) (by decide)
  · -- 5: f to 8
    refine lv_aload_n (pc := 8) hx hb dd_X_requests_8 rfl (lv_at hl 0 rfl) ?_
    refine lv_iload_n (pc := 9) hx hb dd_X_requests_9 rfl (lv_at hl 2 rfl) ?_
    refine k_X_X_isServer (pc := 10) cx hl hP hS (by assumption) (ct_X_isServer l x S ⟨v0, v1, v2, v3, v4, v5, v6, vC, vS, vR⟩ (nI s0)) ⟨⟨rfl, rfl⟩, ⟨(Nat.le_of_ble_eq_true rfl), (Nat.le_of_ble_eq_true rfl)⟩, (Nat.le_of_ble_eq_true rfl), (Nat.le_of_ble_eq_true rfl)⟩ (Nat.le_of_ble_eq_true rfl) dd_X_requests_10 (fun H locs hP hS => ?_)
    refine f_eqB (pc := 13) (tgt := 33) cx dd_X_requests_13 (by decide) (fun h13 => ?_) (fun h13 => ?_)
    · -- 13: t to 33
      exact absurd (h13.symm.trans (q_sv_in hO hs)) (by decide)
    · -- 13: f to 16
      refine lv_aload_n (pc := 16) hx hb dd_X_requests_16 rfl (lv_at hl 0 rfl) ?_
      refine g_X_X_requestRows (pc := 17) cx hP (by assumption) dd_X_requests_17 ?_
      refine lv_aload_n (pc := 20) hx hb dd_X_requests_20 rfl (lv_at hl 0 rfl) ?_
      refine lv_iload_n (pc := 21) hx hb dd_X_requests_21 rfl (lv_at hl 1 rfl) ?_
      refine lv_iload_n (pc := 22) hx hb dd_X_requests_22 rfl (lv_at hl 2 rfl) ?_
      refine k_X_X_rowOf (pc := 23) cx hl hP hS (by assumption) (ct_X_rowOf l x S ⟨v0, v1, v2, v3, v4, v5, v6, vC, vS, vR⟩ c s0) ⟨⟨rfl, rfl⟩, ⟨(Nat.le_of_ble_eq_true rfl), (Nat.le_of_ble_eq_true rfl)⟩, (Nat.le_of_ble_eq_true rfl), (Nat.le_of_ble_eq_true rfl)⟩ (Nat.le_of_ble_eq_true rfl) dd_X_requests_23 (fun H locs hP hS => ?_)
      refine f_ald5 (pc := 26) cx hP (by assumption) rfl (row_lt hc hs) dd_X_requests_26 ?_
      refine g_X_R_size (pc := 27) cx hP (by assumption) dd_X_requests_27 ?_
      refine lv_goto (pc := 30) (tgt := 34) hx hb dd_X_requests_30 (by decide) ?_
      exact f_iret (pc := 34) cx hr hlocks hP hS rfl rfl dd_X_requests_34
set_option maxHeartbeats 4000000 in
set_option maxRecDepth 100000 in
theorem ct_X_replies_no (l : Launch) (x : fy) (S : fm) (hL : fL x) (z y : Int32) (hz : q_cl z = false ∨ q_sv x y = false) : Met l mn_X_replies (gw_ws mn_X_replies cb_X_replies 3 (some .int)) ({ frames := 1, cells := 0, slots := 0, locals := 22 } : Room) (fPc x (S) [.ref (xa x 0 0), .int z, .int y]) (fQi x (S) (-1)) 0 0 (fun q => xs x ≤ q) := by
  refine f_met (by decide) (Nat.le_of_ble_eq_true rfl) ?_
  intro p e s m below meth c0 cx hr hlocks hnm hP hS ls hl
  have cx : fX rn_X cb_X_replies 3 p c0 s m [.ref (xa x 0 0), .int z, .int y].toArray x := cx
  have hx := cx.1.1
  have hb := cx.1.2.1
  have hl : lv_has ls 3 [(0, .ref (xa x 0 0)), (1, .int z), (2, .int y)] := hl
  obtain ⟨v0, v1, v2, v3, v4, v5, v6, vC, vS, vR⟩ := hL
  refine lv_aload_n (pc := 0) hx hb dd_X_replies_0 rfl (lv_at hl 0 rfl) ?_
  refine lv_iload_n (pc := 1) hx hb dd_X_replies_1 rfl (lv_at hl 1 rfl) ?_
  refine k_X_X_isClient (pc := 2) cx hl hP hS (by assumption) (ct_X_isClient l x S ⟨v0, v1, v2, v3, v4, v5, v6, vC, vS, vR⟩ z) ⟨⟨rfl, rfl⟩, ⟨(Nat.le_of_ble_eq_true rfl), (Nat.le_of_ble_eq_true rfl)⟩, (Nat.le_of_ble_eq_true rfl), (Nat.le_of_ble_eq_true rfl)⟩ (Nat.le_of_ble_eq_true rfl) dd_X_replies_2 (fun H locs hP hS => ?_)
  refine f_eqB (pc := 5) (tgt := 33) cx dd_X_replies_5 (by decide) (fun h5 => ?_) (fun h5 => ?_)
  · -- 5: t to 33
    refine lv_iconst (pc := 33) (v := (-1)) hx hb dd_X_replies_33 (by decide) ?_
    exact f_iret (pc := 34) cx hr hlocks hP hS rfl rfl dd_X_replies_34
  · -- 5: f to 8
    refine lv_aload_n (pc := 8) hx hb dd_X_replies_8 rfl (lv_at hl 0 rfl) ?_
    refine lv_iload_n (pc := 9) hx hb dd_X_replies_9 rfl (lv_at hl 2 rfl) ?_
    refine k_X_X_isServer (pc := 10) cx hl hP hS (by assumption) (ct_X_isServer l x S ⟨v0, v1, v2, v3, v4, v5, v6, vC, vS, vR⟩ y) ⟨⟨rfl, rfl⟩, ⟨(Nat.le_of_ble_eq_true rfl), (Nat.le_of_ble_eq_true rfl)⟩, (Nat.le_of_ble_eq_true rfl), (Nat.le_of_ble_eq_true rfl)⟩ (Nat.le_of_ble_eq_true rfl) dd_X_replies_10 (fun H locs hP hS => ?_)
    refine f_eqB (pc := 13) (tgt := 33) cx dd_X_replies_13 (by decide) (fun h13 => ?_) (fun h13 => ?_)
    · -- 13: t to 33
      refine lv_iconst (pc := 33) (v := (-1)) hx hb dd_X_replies_33 (by decide) ?_
      exact f_iret (pc := 34) cx hr hlocks hP hS rfl rfl dd_X_replies_34
    · -- 13: f to 16
      exact hz.elim (fun q => absurd (q.symm.trans h5) (by decide)) (fun q => absurd (q.symm.trans h13) (by decide))
set_option maxHeartbeats 4000000 in
set_option maxRecDepth 100000 in
theorem ct_X_replies (l : Launch) (x : fy) (S : fm) (hL : fL x) (c s0 : Nat) (hc : c < 5) (hs : s0 < xN x) (hO : fO x) : Met l mn_X_replies (gw_ws mn_X_replies cb_X_replies 3 (some .int)) ({ frames := 1, cells := 0, slots := 0, locals := 22 } : Room) (fPc x (S) [.ref (xa x 0 0), .int (nI c), .int (nI s0)]) (fQi x (S) (nI (mU S 13 (100 + (c * xN x + s0)) 1))) 0 0 (fun q => xs x ≤ q) := by
  refine f_met (by decide) (Nat.le_of_ble_eq_true rfl) ?_
  intro p e s m below meth c0 cx hr hlocks hnm hP hS ls hl
  have cx : fX rn_X cb_X_replies 3 p c0 s m [.ref (xa x 0 0), .int (nI c), .int (nI s0)].toArray x := cx
  have hx := cx.1.1
  have hb := cx.1.2.1
  have hl : lv_has ls 3 [(0, .ref (xa x 0 0)), (1, .int (nI c)), (2, .int (nI s0))] := hl
  obtain ⟨v0, v1, v2, v3, v4, v5, v6, vC, vS, vR⟩ := hL
  obtain ⟨v13, v14, v13r, v14r⟩ := vR _ (row_lt hc hs)
  have hN : xN x ≤ 7 := hO.2.2.2.1
  refine lv_aload_n (pc := 0) hx hb dd_X_replies_0 rfl (lv_at hl 0 rfl) ?_
  refine lv_iload_n (pc := 1) hx hb dd_X_replies_1 rfl (lv_at hl 1 rfl) ?_
  refine k_X_X_isClient (pc := 2) cx hl hP hS (by assumption) (ct_X_isClient l x S ⟨v0, v1, v2, v3, v4, v5, v6, vC, vS, vR⟩ (nI c)) ⟨⟨rfl, rfl⟩, ⟨(Nat.le_of_ble_eq_true rfl), (Nat.le_of_ble_eq_true rfl)⟩, (Nat.le_of_ble_eq_true rfl), (Nat.le_of_ble_eq_true rfl)⟩ (Nat.le_of_ble_eq_true rfl) dd_X_replies_2 (fun H locs hP hS => ?_)
  refine f_eqB (pc := 5) (tgt := 33) cx dd_X_replies_5 (by decide) (fun h5 => ?_) (fun h5 => ?_)
  · -- 5: t to 33
    exact absurd (h5.symm.trans (q_cl_in hc)) (by decide)
  · -- 5: f to 8
    refine lv_aload_n (pc := 8) hx hb dd_X_replies_8 rfl (lv_at hl 0 rfl) ?_
    refine lv_iload_n (pc := 9) hx hb dd_X_replies_9 rfl (lv_at hl 2 rfl) ?_
    refine k_X_X_isServer (pc := 10) cx hl hP hS (by assumption) (ct_X_isServer l x S ⟨v0, v1, v2, v3, v4, v5, v6, vC, vS, vR⟩ (nI s0)) ⟨⟨rfl, rfl⟩, ⟨(Nat.le_of_ble_eq_true rfl), (Nat.le_of_ble_eq_true rfl)⟩, (Nat.le_of_ble_eq_true rfl), (Nat.le_of_ble_eq_true rfl)⟩ (Nat.le_of_ble_eq_true rfl) dd_X_replies_10 (fun H locs hP hS => ?_)
    refine f_eqB (pc := 13) (tgt := 33) cx dd_X_replies_13 (by decide) (fun h13 => ?_) (fun h13 => ?_)
    · -- 13: t to 33
      exact absurd (h13.symm.trans (q_sv_in hO hs)) (by decide)
    · -- 13: f to 16
      refine lv_aload_n (pc := 16) hx hb dd_X_replies_16 rfl (lv_at hl 0 rfl) ?_
      refine g_X_X_replyRows (pc := 17) cx hP (by assumption) dd_X_replies_17 ?_
      refine lv_aload_n (pc := 20) hx hb dd_X_replies_20 rfl (lv_at hl 0 rfl) ?_
      refine lv_iload_n (pc := 21) hx hb dd_X_replies_21 rfl (lv_at hl 1 rfl) ?_
      refine lv_iload_n (pc := 22) hx hb dd_X_replies_22 rfl (lv_at hl 2 rfl) ?_
      refine k_X_X_rowOf (pc := 23) cx hl hP hS (by assumption) (ct_X_rowOf l x S ⟨v0, v1, v2, v3, v4, v5, v6, vC, vS, vR⟩ c s0) ⟨⟨rfl, rfl⟩, ⟨(Nat.le_of_ble_eq_true rfl), (Nat.le_of_ble_eq_true rfl)⟩, (Nat.le_of_ble_eq_true rfl), (Nat.le_of_ble_eq_true rfl)⟩ (Nat.le_of_ble_eq_true rfl) dd_X_replies_23 (fun H locs hP hS => ?_)
      refine f_ald6 (pc := 26) cx hP (by assumption) rfl (row_lt hc hs) dd_X_replies_26 ?_
      refine g_X_R_size (pc := 27) cx hP (by assumption) dd_X_replies_27 ?_
      refine lv_goto (pc := 30) (tgt := 34) hx hb dd_X_replies_30 (by decide) ?_
      exact f_iret (pc := 34) cx hr hlocks hP hS rfl rfl dd_X_replies_34
set_option maxHeartbeats 4000000 in
set_option maxRecDepth 100000 in
theorem ct_X_quorum (l : Launch) (x : fy) (S : fm) (hL : fL x)  : Met l mn_X_quorum (gw_ws mn_X_quorum cb_X_quorum 1 (some .int)) ({ frames := 0, cells := 0, slots := 0, locals := 0 } : Room) (fPc x (S) [.ref (xa x 0 0)]) (fQi x (S) (nI (xQ x))) 0 0 (fun q => xs x ≤ q) := by
  refine f_met (by decide) (Nat.le_of_ble_eq_true rfl) ?_
  intro p e s m below meth c0 cx hr hlocks hnm hP hS ls hl
  have cx : fX rn_X cb_X_quorum 1 p c0 s m [.ref (xa x 0 0)].toArray x := cx
  have hx := cx.1.1
  have hb := cx.1.2.1
  have hl : lv_has ls 1 [(0, .ref (xa x 0 0))] := hl
  obtain ⟨v0, v1, v2, v3, v4, v5, v6, vC, vS, vR⟩ := hL
  refine lv_aload_n (pc := 0) hx hb dd_X_quorum_0 rfl (lv_at hl 0 rfl) ?_
  refine g_X_X_quorumSize (pc := 1) cx hP (by assumption) dd_X_quorum_1 ?_
  exact f_iret (pc := 4) cx hr hlocks hP hS rfl rfl dd_X_quorum_4
set_option maxHeartbeats 4000000 in
set_option maxRecDepth 100000 in
theorem ct_X_stop_no (l : Launch) (x : fy) (S : fm) (hL : fL x) (z : Int32) (hz : q_cl z = false) : Met l mn_X_stop (gw_ws mn_X_stop cb_X_stop 2 (some .boolean)) ({ frames := 1, cells := 0, slots := 0, locals := 21 } : Room) (fPc x (S) [.ref (xa x 0 0), .int z]) (fQi x (S) (b2 (false))) 0 0 (fun q => xs x ≤ q) := by
  refine f_met (by decide) (Nat.le_of_ble_eq_true rfl) ?_
  intro p e s m below meth c0 cx hr hlocks hnm hP hS ls hl
  have cx : fX rn_X cb_X_stop 2 p c0 s m [.ref (xa x 0 0), .int z].toArray x := cx
  have hx := cx.1.1
  have hb := cx.1.2.1
  have hl : lv_has ls 2 [(0, .ref (xa x 0 0)), (1, .int z)] := hl
  obtain ⟨v0, v1, v2, v3, v4, v5, v6, vC, vS, vR⟩ := hL
  refine lv_aload_n (pc := 0) hx hb dd_X_stop_0 rfl (lv_at hl 0 rfl) ?_
  refine lv_iload_n (pc := 1) hx hb dd_X_stop_1 rfl (lv_at hl 1 rfl) ?_
  refine k_X_X_isClient (pc := 2) cx hl hP hS (by assumption) (ct_X_isClient l x S ⟨v0, v1, v2, v3, v4, v5, v6, vC, vS, vR⟩ z) ⟨⟨rfl, rfl⟩, ⟨(Nat.le_of_ble_eq_true rfl), (Nat.le_of_ble_eq_true rfl)⟩, (Nat.le_of_ble_eq_true rfl), (Nat.le_of_ble_eq_true rfl)⟩ (Nat.le_of_ble_eq_true rfl) dd_X_stop_2 (fun H locs hP hS => ?_)
  refine f_eqB (pc := 5) (tgt := 20) cx dd_X_stop_5 (by decide) (fun h5 => ?_) (fun h5 => ?_)
  · -- 5: t to 20
    refine lv_iconst (pc := 20) (v := 0) hx hb dd_X_stop_20 (by decide) ?_
    exact f_zret (pc := 21) cx hr hlocks hP hS rfl rfl dd_X_stop_21
  · -- 5: f to 8
    exact absurd (hz.symm.trans h5) (by decide)
set_option maxHeartbeats 4000000 in
set_option maxRecDepth 100000 in
theorem ct_X_stop (l : Launch) (x : fy) (S : fm) (hL : fL x) (c : Nat) (hc : c < 5) : Met l mn_X_stop (gw_ws mn_X_stop cb_X_stop 2 (some .boolean)) ({ frames := 1, cells := 0, slots := 0, locals := 21 } : Room) (fPc x (S) [.ref (xa x 0 0), .int (nI c)]) (fQi x (if mB S 7 c 4 = true then S else sB S 7 c 4 true) (b2 (!mB S 7 c 4))) 0 0 (fun q => xs x ≤ q) := by
  refine f_met (by decide) (Nat.le_of_ble_eq_true rfl) ?_
  intro p e s m below meth c0 cx hr hlocks hnm hP hS ls hl
  have cx : fX rn_X cb_X_stop 2 p c0 s m [.ref (xa x 0 0), .int (nI c)].toArray x := cx
  have hx := cx.1.1
  have hb := cx.1.2.1
  have hl : lv_has ls 2 [(0, .ref (xa x 0 0)), (1, .int (nI c))] := hl
  obtain ⟨v0, v1, v2, v3, v4, v5, v6, vC, vS, vR⟩ := hL
  obtain ⟨v7, v8, v9⟩ := vC c hc
  refine lv_aload_n (pc := 0) hx hb dd_X_stop_0 rfl (lv_at hl 0 rfl) ?_
  refine lv_iload_n (pc := 1) hx hb dd_X_stop_1 rfl (lv_at hl 1 rfl) ?_
  refine k_X_X_isClient (pc := 2) cx hl hP hS (by assumption) (ct_X_isClient l x S ⟨v0, v1, v2, v3, v4, v5, v6, vC, vS, vR⟩ (nI c)) ⟨⟨rfl, rfl⟩, ⟨(Nat.le_of_ble_eq_true rfl), (Nat.le_of_ble_eq_true rfl)⟩, (Nat.le_of_ble_eq_true rfl), (Nat.le_of_ble_eq_true rfl)⟩ (Nat.le_of_ble_eq_true rfl) dd_X_stop_2 (fun H locs hP hS => ?_)
  refine f_eqB (pc := 5) (tgt := 20) cx dd_X_stop_5 (by decide) (fun h5 => ?_) (fun h5 => ?_)
  · -- 5: t to 20
    exact absurd (h5.symm.trans (q_cl_in hc)) (by decide)
  · -- 5: f to 8
    refine lv_aload_n (pc := 8) hx hb dd_X_stop_8 rfl (lv_at hl 0 rfl) ?_
    refine g_X_X_clients (pc := 9) cx hP (by assumption) dd_X_stop_9 ?_
    refine lv_iload_n (pc := 12) hx hb dd_X_stop_12 rfl (lv_at hl 1 rfl) ?_
    refine f_ald3 (pc := 13) cx hP (by assumption) rfl (by omega) dd_X_stop_13 ?_
    refine g_X_C_crashed (pc := 14) cx hP (by assumption) dd_X_stop_14 ?_
    refine f_eqB (pc := 17) (tgt := 22) cx dd_X_stop_17 (by decide) (fun h17 => ?_) (fun h17 => ?_)
    · -- 17: t to 22
      refine lv_aload_n (pc := 22) hx hb dd_X_stop_22 rfl (lv_at hl 0 rfl) ?_
      refine g_X_X_clients (pc := 23) cx hP (by assumption) dd_X_stop_23 ?_
      refine lv_iload_n (pc := 26) hx hb dd_X_stop_26 rfl (lv_at hl 1 rfl) ?_
      refine f_ald3 (pc := 27) cx hP (by assumption) rfl (by omega) dd_X_stop_27 ?_
      refine lv_iconst (pc := 28) (v := b2 true) hx hb dd_X_stop_28 (by decide) ?_
      refine p_X_C_crashed (pc := 29) cx hP hS (by assumption) rfl dd_X_stop_29 (fun H locs hP hS => ?_)
      refine lv_iconst (pc := 32) (v := 1) hx hb dd_X_stop_32 (by decide) ?_
      exact f_zret (pc := 33) cx hr hlocks hP hS (by simp [b2, *]) (by simp [*]) dd_X_stop_33
    · -- 17: f to 20
      refine lv_iconst (pc := 20) (v := 0) hx hb dd_X_stop_20 (by decide) ?_
      exact f_zret (pc := 21) cx hr hlocks hP hS (by simp [b2, *]) (by simp [*]) dd_X_stop_21
set_option maxHeartbeats 4000000 in
set_option maxRecDepth 100000 in
theorem ct_X_crash_no (l : Launch) (x : fy) (S : fm) (hL : fL x) (z : Int32) (hz : q_sv x z = false) : Met l mn_X_crash (gw_ws mn_X_crash cb_X_crash 3 (some .boolean)) ({ frames := 1, cells := 0, slots := 0, locals := 22 } : Room) (fPc x (S) [.ref (xa x 0 0), .int z]) (fQi x (S) (b2 (false))) 0 0 (fun q => xs x ≤ q) := by
  refine f_met (by decide) (Nat.le_of_ble_eq_true rfl) ?_
  intro p e s m below meth c0 cx hr hlocks hnm hP hS ls hl
  have cx : fX rn_X cb_X_crash 3 p c0 s m [.ref (xa x 0 0), .int z].toArray x := cx
  have hx := cx.1.1
  have hb := cx.1.2.1
  have hl : lv_has ls 3 [(0, .ref (xa x 0 0)), (1, .int z)] := hl
  obtain ⟨v0, v1, v2, v3, v4, v5, v6, vC, vS, vR⟩ := hL
  refine lv_aload_n (pc := 0) hx hb dd_X_crash_0 rfl (lv_at hl 0 rfl) ?_
  refine lv_iload_n (pc := 1) hx hb dd_X_crash_1 rfl (lv_at hl 1 rfl) ?_
  refine k_X_X_isServer (pc := 2) cx hl hP hS (by assumption) (ct_X_isServer l x S ⟨v0, v1, v2, v3, v4, v5, v6, vC, vS, vR⟩ z) ⟨⟨rfl, rfl⟩, ⟨(Nat.le_of_ble_eq_true rfl), (Nat.le_of_ble_eq_true rfl)⟩, (Nat.le_of_ble_eq_true rfl), (Nat.le_of_ble_eq_true rfl)⟩ (Nat.le_of_ble_eq_true rfl) dd_X_crash_2 (fun H locs hP hS => ?_)
  refine f_eqB (pc := 5) (tgt := 31) cx dd_X_crash_5 (by decide) (fun h5 => ?_) (fun h5 => ?_)
  · -- 5: t to 31
    refine lv_iconst (pc := 31) (v := 0) hx hb dd_X_crash_31 (by decide) ?_
    exact f_zret (pc := 32) cx hr hlocks hP hS rfl rfl dd_X_crash_32
  · -- 5: f to 8
    exact absurd (hz.symm.trans h5) (by decide)
set_option maxHeartbeats 4000000 in
set_option maxRecDepth 100000 in
theorem ct_X_crash (l : Launch) (x : fy) (S : fm) (hL : fL x) (s0 : Nat) (hs : s0 < xN x) (hO : fO x) : Met l mn_X_crash (gw_ws mn_X_crash cb_X_crash 3 (some .boolean)) ({ frames := 1, cells := 0, slots := 0, locals := 22 } : Room) (fPc x (S) [.ref (xa x 0 0), .int (nI s0)]) (fQi x (if q_crash x S s0 = true then e_crash x S s0 else S) (b2 (q_crash x S s0))) 0 0 (fun q => xs x ≤ q) := by
  refine f_met (by decide) (Nat.le_of_ble_eq_true rfl) ?_
  intro p e s m below meth c0 cx hr hlocks hnm hP hS ls hl
  have cx : fX rn_X cb_X_crash 3 p c0 s m [.ref (xa x 0 0), .int (nI s0)].toArray x := cx
  have hx := cx.1.1
  have hb := cx.1.2.1
  have hl : lv_has ls 3 [(0, .ref (xa x 0 0)), (1, .int (nI s0))] := hl
  obtain ⟨v0, v1, v2, v3, v4, v5, v6, vC, vS, vR⟩ := hL
  obtain ⟨v10, v11, v12⟩ := vS s0 hs
  have hN : xN x ≤ 7 := hO.2.2.2.1
  have loop : q_crash x S s0 = true → ∀ (n i : Nat) (H : Heap) (locs : List Loc), i + n = 5 → fP x (e_crs x (sI (sB S 10 s0 5 true) 0 0 7 (mI S 0 0 7 + 1)) s0 (i)) H → fS x s.heap H locs → ∀ ls : Array Slot, lv_has ls 3 [(2, .int (nI i)), (0, .ref (xa x 0 0)), (1, .int (nI s0))] → W p l e ({ frames := 1, cells := 0, slots := 0, locals := 22 } : Room) s m [.ref (xa x 0 0), .int (nI s0)].toArray below meth c0 H locs 0 0 (MQ below (fQi x (if q_crash x S s0 = true then e_crash x S s0 else S) (b2 (q_crash x S s0))) [.ref (xa x 0 0), .int (nI s0)].toArray s 0 0 (fun q => xs x ≤ q)) (F0 m 55 ls []) := by
    intro hq n
    induction n with
    | zero =>
      intro i H locs hi hP hS ls hl
      have hi : i = 5 := by omega
      subst hi
      refine lv_iload_n (pc := 55) hx hb dd_X_crash_55 rfl (lv_at hl 0 rfl) ?_
      refine lv_iconst (pc := 56) (v := nI 5) hx hb dd_X_crash_56 (by decide) ?_
      refine lv_icmp_ge (pc := 57) (tgt := 80) hx hb dd_X_crash_57 (by decide) (fun h57 => ?_) (fun h57 => ?_)
      · -- 57: t to 80
        refine lv_iconst (pc := 80) (v := 1) hx hb dd_X_crash_80 (by decide) ?_
        exact f_zret (pc := 81) cx hr hlocks hP hS (by rw [hq]; rfl) (by rw [if_pos hq]; rfl) dd_X_crash_81
      · -- 57: f to 60
        exact absurd ((nI_leI (by omega) (by omega)).mpr (Nat.le_refl _)) h57
    | succ n ih =>
      intro i H locs hi hP hS ls hl
      obtain ⟨v13, v14, v13r, v14r⟩ := vR _ (row_lt (show i < 5 by omega) hs)
      refine lv_iload_n (pc := 55) hx hb dd_X_crash_55 rfl (lv_at hl 0 rfl) ?_
      refine lv_iconst (pc := 56) (v := nI 5) hx hb dd_X_crash_56 (by decide) ?_
      refine lv_icmp_ge (pc := 57) (tgt := 80) hx hb dd_X_crash_57 (by decide) (fun h57 => ?_) (fun h57 => ?_)
      · -- 57: t to 80
        exact absurd ((nI_leI (by omega) (by omega)).mp h57) (by omega)
      · -- 57: f to 60
        refine lv_aload_n (pc := 60) hx hb dd_X_crash_60 rfl (lv_at hl 1 rfl) ?_
        refine g_X_X_requestRows (pc := 61) cx hP (by assumption) dd_X_crash_61 ?_
        refine lv_aload_n (pc := 64) hx hb dd_X_crash_64 rfl (lv_at hl 1 rfl) ?_
        refine lv_iload_n (pc := 65) hx hb dd_X_crash_65 rfl (lv_at hl 0 rfl) ?_
        refine lv_iload_n (pc := 66) hx hb dd_X_crash_66 rfl (lv_at hl 2 rfl) ?_
        refine k_X_X_rowOf (pc := 67) cx hl hP hS (by assumption) (ct_X_rowOf l x _ ⟨v0, v1, v2, v3, v4, v5, v6, vC, vS, vR⟩ i s0) ⟨⟨rfl, rfl⟩, ⟨(Nat.le_of_ble_eq_true rfl), (Nat.le_of_ble_eq_true rfl)⟩, (Nat.le_of_ble_eq_true rfl), (Nat.le_of_ble_eq_true rfl)⟩ (Nat.le_of_ble_eq_true rfl) dd_X_crash_67 (fun H locs hP hS => ?_)
        refine f_ald5 (pc := 70) cx hP (by assumption) rfl (row_lt (by omega) hs) dd_X_crash_70 ?_
        refine k_X_R_lose (pc := 71) cx hl hP hS (by assumption) (ct_R_lose l x _ (i * xN x + s0) v13 v14) ⟨⟨rfl, rfl⟩, ⟨(Nat.le_of_ble_eq_true rfl), (Nat.le_of_ble_eq_true rfl)⟩, (Nat.le_of_ble_eq_true rfl), (Nat.le_of_ble_eq_true rfl)⟩ (Nat.le_of_ble_eq_true rfl) dd_X_crash_71 (fun H locs hP hS => ?_)
        refine lv_iinc (pc := 74) (k := 0) (lv' := [(2, _), (0, _), (1, _)]) hx hb dd_X_crash_74 hl rfl (f_inc1 i) (Nat.le_of_ble_eq_true rfl) rfl (fun ls hl => ?_)
        refine lv_goto (pc := 77) (tgt := 55) hx hb dd_X_crash_77 (by decide) ?_
        exact ih (i + 1) _ _ (by omega) hP hS ls (lv_sub hl [0, 1, 2] rfl)
  refine lv_aload_n (pc := 0) hx hb dd_X_crash_0 rfl (lv_at hl 0 rfl) ?_
  refine lv_iload_n (pc := 1) hx hb dd_X_crash_1 rfl (lv_at hl 1 rfl) ?_
  refine k_X_X_isServer (pc := 2) cx hl hP hS (by assumption) (ct_X_isServer l x S ⟨v0, v1, v2, v3, v4, v5, v6, vC, vS, vR⟩ (nI s0)) ⟨⟨rfl, rfl⟩, ⟨(Nat.le_of_ble_eq_true rfl), (Nat.le_of_ble_eq_true rfl)⟩, (Nat.le_of_ble_eq_true rfl), (Nat.le_of_ble_eq_true rfl)⟩ (Nat.le_of_ble_eq_true rfl) dd_X_crash_2 (fun H locs hP hS => ?_)
  refine f_eqB (pc := 5) (tgt := 31) cx dd_X_crash_5 (by decide) (fun h5 => ?_) (fun h5 => ?_)
  · -- 5: t to 31
    exact absurd (h5.symm.trans (q_sv_in hO hs)) (by decide)
  · -- 5: f to 8
    refine lv_aload_n (pc := 8) hx hb dd_X_crash_8 rfl (lv_at hl 0 rfl) ?_
    refine g_X_X_servers (pc := 9) cx hP (by assumption) dd_X_crash_9 ?_
    refine lv_iload_n (pc := 12) hx hb dd_X_crash_12 rfl (lv_at hl 1 rfl) ?_
    refine f_ald4 (pc := 13) cx hP (by assumption) rfl (by omega) dd_X_crash_13 ?_
    refine g_X_S_crashed (pc := 14) cx hP (by assumption) dd_X_crash_14 ?_
    refine f_neB (pc := 17) (tgt := 31) cx dd_X_crash_17 (by decide) (fun h17 => ?_) (fun h17 => ?_)
    · -- 17: t to 31
      refine lv_iconst (pc := 31) (v := 0) hx hb dd_X_crash_31 (by decide) ?_
      exact f_zret (pc := 32) cx hr hlocks hP hS (by simp [q_crash, b2, *]) (by simp [q_crash, *]) dd_X_crash_32
    · -- 17: f to 20
      refine lv_aload_n (pc := 20) hx hb dd_X_crash_20 rfl (lv_at hl 0 rfl) ?_
      refine g_X_X_crashes (pc := 21) cx hP (by assumption) dd_X_crash_21 ?_
      refine lv_aload_n (pc := 24) hx hb dd_X_crash_24 rfl (lv_at hl 0 rfl) ?_
      refine g_X_X_mostCrashes (pc := 25) cx hP (by assumption) dd_X_crash_25 ?_
      refine lv_icmp_lt (pc := 28) (tgt := 33) hx hb dd_X_crash_28 (by decide) (fun h28 => ?_) (fun h28 => ?_)
      · -- 28: t to 33
        refine lv_aload_n (pc := 33) hx hb dd_X_crash_33 rfl (lv_at hl 0 rfl) ?_
        refine g_X_X_servers (pc := 34) cx hP (by assumption) dd_X_crash_34 ?_
        refine lv_iload_n (pc := 37) hx hb dd_X_crash_37 rfl (lv_at hl 1 rfl) ?_
        refine f_ald4 (pc := 38) cx hP (by assumption) rfl (by omega) dd_X_crash_38 ?_
        refine lv_iconst (pc := 39) (v := b2 true) hx hb dd_X_crash_39 (by decide) ?_
        refine p_X_S_crashed (pc := 40) cx hP hS (by assumption) rfl dd_X_crash_40 (fun H locs hP hS => ?_)
        refine lv_aload_n (pc := 43) hx hb dd_X_crash_43 rfl (lv_at hl 0 rfl) ?_
        refine lv_dup (pc := 44) hx hb dd_X_crash_44 rfl ?_
        refine g_X_X_crashes (pc := 45) cx hP (by assumption) dd_X_crash_45 ?_
        refine lv_iconst (pc := 48) (v := 1) hx hb dd_X_crash_48 (by decide) ?_
        refine lv_iadd (pc := 49) hx hb dd_X_crash_49 ?_
        refine p_X_X_crashes (pc := 50) cx hP hS (by assumption) dd_X_crash_50 (fun H locs hP hS => ?_)
        refine lv_iconst (pc := 53) (v := nI 0) hx hb dd_X_crash_53 (by decide) ?_
        refine lv_istore_n (pc := 54) (lv' := [(2, _), (0, _), (1, _)]) hx hb dd_X_crash_54 rfl hl (Nat.le_of_ble_eq_true rfl) rfl (fun ls hl => ?_)
        exact loop (by simp [q_crash, *]) 5 0 _ _ (by omega) hP hS ls (lv_sub hl [0, 1, 2] rfl)
      · -- 28: f to 31
        refine lv_iconst (pc := 31) (v := 0) hx hb dd_X_crash_31 (by decide) ?_
        exact f_zret (pc := 32) cx hr hlocks hP hS (by simp [q_crash, b2, *]) (by simp [q_crash, *]) dd_X_crash_32
end
section
-- contracts of deliver and hear, by wip/whole/gen/c_reg2.py
set_option maxHeartbeats 4000000 in
set_option maxRecDepth 100000 in
theorem ct_X_deliver_no (l : Launch) (x : fy) (S : fm) (hL : fL x) (z y j : Int32) (hz : q_cl z = false ∨ q_sv x y = false) : Met l mn_X_deliver (gw_ws mn_X_deliver cb_X_deliver 5 (some .int)) ({ frames := 3, cells := 0, slots := 0, locals := 66 } : Room) (fPc x (S) [.ref (xa x 0 0), .int z, .int y, .int j]) (fQi x (S) (-1)) 0 0 (fun q => xs x ≤ q) := by
  refine f_met (by decide) (Nat.le_of_ble_eq_true rfl) ?_
  intro p e s m below meth c0 cx hr hlocks hnm hP hS ls hl
  have cx : fX rn_X cb_X_deliver 5 p c0 s m [.ref (xa x 0 0), .int z, .int y, .int j].toArray x := cx
  have hx := cx.1.1
  have hb := cx.1.2.1
  have hl : lv_has ls 5 [(0, .ref (xa x 0 0)), (1, .int z), (2, .int y), (3, .int j)] := hl
  obtain ⟨v0, v1, v2, v3, v4, v5, v6, vC, vS, vR⟩ := hL
  refine lv_aload_n (pc := 0) hx hb dd_X_deliver_0 rfl (lv_at hl 0 rfl) ?_
  refine lv_iload_n (pc := 1) hx hb dd_X_deliver_1 rfl (lv_at hl 1 rfl) ?_
  refine k_X_X_isClient (pc := 2) cx hl hP hS (by assumption) (ct_X_isClient l x S ⟨v0, v1, v2, v3, v4, v5, v6, vC, vS, vR⟩ z) ⟨⟨rfl, rfl⟩, ⟨(Nat.le_of_ble_eq_true rfl), (Nat.le_of_ble_eq_true rfl)⟩, (Nat.le_of_ble_eq_true rfl), (Nat.le_of_ble_eq_true rfl)⟩ (Nat.le_of_ble_eq_true rfl) dd_X_deliver_2 (fun H locs hP hS => ?_)
  refine f_eqB (pc := 5) (tgt := 16) cx dd_X_deliver_5 (by decide) (fun h5 => ?_) (fun h5 => ?_)
  · -- 5: t to 16
    refine lv_iconst (pc := 16) (v := (-1)) hx hb dd_X_deliver_16 (by decide) ?_
    exact f_iret (pc := 17) cx hr hlocks hP hS rfl rfl dd_X_deliver_17
  · -- 5: f to 8
    refine lv_aload_n (pc := 8) hx hb dd_X_deliver_8 rfl (lv_at hl 0 rfl) ?_
    refine lv_iload_n (pc := 9) hx hb dd_X_deliver_9 rfl (lv_at hl 2 rfl) ?_
    refine k_X_X_isServer (pc := 10) cx hl hP hS (by assumption) (ct_X_isServer l x S ⟨v0, v1, v2, v3, v4, v5, v6, vC, vS, vR⟩ y) ⟨⟨rfl, rfl⟩, ⟨(Nat.le_of_ble_eq_true rfl), (Nat.le_of_ble_eq_true rfl)⟩, (Nat.le_of_ble_eq_true rfl), (Nat.le_of_ble_eq_true rfl)⟩ (Nat.le_of_ble_eq_true rfl) dd_X_deliver_10 (fun H locs hP hS => ?_)
    refine f_neB (pc := 13) (tgt := 18) cx dd_X_deliver_13 (by decide) (fun h13 => ?_) (fun h13 => ?_)
    · -- 13: t to 18
      exact hz.elim (fun q => absurd (q.symm.trans h5) (by decide)) (fun q => absurd (q.symm.trans h13) (by decide))
    · -- 13: f to 16
      refine lv_iconst (pc := 16) (v := (-1)) hx hb dd_X_deliver_16 (by decide) ?_
      exact f_iret (pc := 17) cx hr hlocks hP hS rfl rfl dd_X_deliver_17
set_option maxHeartbeats 4000000 in
set_option maxRecDepth 100000 in
theorem ct_X_deliver_none (l : Launch) (x : fy) (S : fm) (hL : fL x) (c s0 : Nat) (j : Int32) (hc : c < 5) (hs : s0 < xN x) (hO : fO x) (hj : j < 0 ∨ nI (mU S 13 (c * xN x + s0) 1) ≤ j) : Met l mn_X_deliver (gw_ws mn_X_deliver cb_X_deliver 5 (some .int)) ({ frames := 3, cells := 0, slots := 0, locals := 66 } : Room) (fPc x (S) [.ref (xa x 0 0), .int (nI c), .int (nI s0), .int j]) (fQi x (S) (-2)) 0 0 (fun q => xs x ≤ q) := by
  refine f_met (by decide) (Nat.le_of_ble_eq_true rfl) ?_
  intro p e s m below meth c0 cx hr hlocks hnm hP hS ls hl
  have cx : fX rn_X cb_X_deliver 5 p c0 s m [.ref (xa x 0 0), .int (nI c), .int (nI s0), .int j].toArray x := cx
  have hx := cx.1.1
  have hb := cx.1.2.1
  have hl : lv_has ls 5 [(0, .ref (xa x 0 0)), (1, .int (nI c)), (2, .int (nI s0)), (3, .int j)] := hl
  obtain ⟨v0, v1, v2, v3, v4, v5, v6, vC, vS, vR⟩ := hL
  obtain ⟨v13, v14, v13r, v14r⟩ := vR _ (row_lt hc hs)
  have hN : xN x ≤ 7 := hO.2.2.2.1
  refine lv_aload_n (pc := 0) hx hb dd_X_deliver_0 rfl (lv_at hl 0 rfl) ?_
  refine lv_iload_n (pc := 1) hx hb dd_X_deliver_1 rfl (lv_at hl 1 rfl) ?_
  refine k_X_X_isClient (pc := 2) cx hl hP hS (by assumption) (ct_X_isClient l x S ⟨v0, v1, v2, v3, v4, v5, v6, vC, vS, vR⟩ (nI c)) ⟨⟨rfl, rfl⟩, ⟨(Nat.le_of_ble_eq_true rfl), (Nat.le_of_ble_eq_true rfl)⟩, (Nat.le_of_ble_eq_true rfl), (Nat.le_of_ble_eq_true rfl)⟩ (Nat.le_of_ble_eq_true rfl) dd_X_deliver_2 (fun H locs hP hS => ?_)
  refine f_eqB (pc := 5) (tgt := 16) cx dd_X_deliver_5 (by decide) (fun h5 => ?_) (fun h5 => ?_)
  · -- 5: t to 16
    exact absurd (h5.symm.trans (q_cl_in hc)) (by decide)
  · -- 5: f to 8
    refine lv_aload_n (pc := 8) hx hb dd_X_deliver_8 rfl (lv_at hl 0 rfl) ?_
    refine lv_iload_n (pc := 9) hx hb dd_X_deliver_9 rfl (lv_at hl 2 rfl) ?_
    refine k_X_X_isServer (pc := 10) cx hl hP hS (by assumption) (ct_X_isServer l x S ⟨v0, v1, v2, v3, v4, v5, v6, vC, vS, vR⟩ (nI s0)) ⟨⟨rfl, rfl⟩, ⟨(Nat.le_of_ble_eq_true rfl), (Nat.le_of_ble_eq_true rfl)⟩, (Nat.le_of_ble_eq_true rfl), (Nat.le_of_ble_eq_true rfl)⟩ (Nat.le_of_ble_eq_true rfl) dd_X_deliver_10 (fun H locs hP hS => ?_)
    refine f_neB (pc := 13) (tgt := 18) cx dd_X_deliver_13 (by decide) (fun h13 => ?_) (fun h13 => ?_)
    · -- 13: t to 18
      refine lv_aload_n (pc := 18) hx hb dd_X_deliver_18 rfl (lv_at hl 0 rfl) ?_
      refine g_X_X_requestRows (pc := 19) cx hP (by assumption) dd_X_deliver_19 ?_
      refine lv_aload_n (pc := 22) hx hb dd_X_deliver_22 rfl (lv_at hl 0 rfl) ?_
      refine lv_iload_n (pc := 23) hx hb dd_X_deliver_23 rfl (lv_at hl 1 rfl) ?_
      refine lv_iload_n (pc := 24) hx hb dd_X_deliver_24 rfl (lv_at hl 2 rfl) ?_
      refine k_X_X_rowOf (pc := 25) cx hl hP hS (by assumption) (ct_X_rowOf l x _ ⟨v0, v1, v2, v3, v4, v5, v6, vC, vS, vR⟩ c s0) ⟨⟨rfl, rfl⟩, ⟨(Nat.le_of_ble_eq_true rfl), (Nat.le_of_ble_eq_true rfl)⟩, (Nat.le_of_ble_eq_true rfl), (Nat.le_of_ble_eq_true rfl)⟩ (Nat.le_of_ble_eq_true rfl) dd_X_deliver_25 (fun H locs hP hS => ?_)
      refine f_ald5 (pc := 28) cx hP (by assumption) rfl (row_lt hc hs) dd_X_deliver_28 ?_
      refine lv_iload_n (pc := 29) hx hb dd_X_deliver_29 rfl (lv_at hl 3 rfl) ?_
      refine k_X_R_take (pc := 30) cx hl hP hS (by assumption) (ct_R_take_no l x S (c * xN x + s0) j v13 v14 hj) ⟨⟨rfl, rfl⟩, ⟨(Nat.le_of_ble_eq_true rfl), (Nat.le_of_ble_eq_true rfl)⟩, (Nat.le_of_ble_eq_true rfl), (Nat.le_of_ble_eq_true rfl)⟩ (Nat.le_of_ble_eq_true rfl) dd_X_deliver_30 (fun H locs hP hS => ?_)
      refine f_st (w := [.null]) rfl ?_
      refine lv_astoreN (pc := 33) (lv' := [(4, _), (0, _), (1, _), (2, _), (3, _)]) hx hb dd_X_deliver_33 hl (Nat.le_of_ble_eq_true rfl) rfl (fun ls hl => ?_)
      refine lv_aloadN (pc := 35) hx hb dd_X_deliver_35 (lv_at hl 0 rfl) ?_
      refine lv_ifnonnullN (pc := 37) hx hb dd_X_deliver_37 ?_
      refine lv_bipush (pc := 40) (v := (-2)) hx hb dd_X_deliver_40 (by decide) ?_
      exact f_iret (pc := 42) cx hr hlocks hP hS rfl rfl dd_X_deliver_42
    · -- 13: f to 16
      exact absurd (h13.symm.trans (q_sv_in hO hs)) (by decide)
set_option maxHeartbeats 4000000 in
set_option maxRecDepth 100000 in
theorem ct_X_hear_no (l : Launch) (x : fy) (S : fm) (hL : fL x) (z y j : Int32) (hz : q_cl z = false ∨ q_sv x y = false) : Met l mn_X_hear (gw_ws mn_X_hear cb_X_hear 6 (some .int)) ({ frames := 5, cells := 7, slots := 42, locals := 120 } : Room) (fPc x (S) [.ref (xa x 0 0), .int z, .int y, .int j]) (fQi x (S) (-1)) 7 42 (fun q => xs x ≤ q) := by
  refine f_met (by decide) (Nat.le_of_ble_eq_true rfl) ?_
  intro p e s m below meth c0 cx hr hlocks hnm hP hS ls hl
  have cx : fX rn_X cb_X_hear 6 p c0 s m [.ref (xa x 0 0), .int z, .int y, .int j].toArray x := cx
  have hx := cx.1.1
  have hb := cx.1.2.1
  have hl : lv_has ls 6 [(0, .ref (xa x 0 0)), (1, .int z), (2, .int y), (3, .int j)] := hl
  obtain ⟨v0, v1, v2, v3, v4, v5, v6, vC, vS, vR⟩ := hL
  refine lv_aload_n (pc := 0) hx hb dd_X_hear_0 rfl (lv_at hl 0 rfl) ?_
  refine lv_iload_n (pc := 1) hx hb dd_X_hear_1 rfl (lv_at hl 1 rfl) ?_
  refine k_X_X_isClient (pc := 2) cx hl hP hS (by assumption) (ct_X_isClient l x S ⟨v0, v1, v2, v3, v4, v5, v6, vC, vS, vR⟩ z) ⟨⟨rfl, rfl⟩, ⟨(Nat.le_of_ble_eq_true rfl), (Nat.le_of_ble_eq_true rfl)⟩, (Nat.le_of_ble_eq_true rfl), (Nat.le_of_ble_eq_true rfl)⟩ (Nat.le_of_ble_eq_true rfl) dd_X_hear_2 (fun H locs hP hS => ?_)
  refine f_eqB (pc := 5) (tgt := 16) cx dd_X_hear_5 (by decide) (fun h5 => ?_) (fun h5 => ?_)
  · -- 5: t to 16
    refine lv_iconst (pc := 16) (v := (-1)) hx hb dd_X_hear_16 (by decide) ?_
    refine W.widen (k := 7) (n := 42) (Nat.le_of_ble_eq_true rfl) (Nat.le_of_ble_eq_true rfl) ?_
    exact f_iret (pc := 17) cx hr hlocks hP hS rfl rfl dd_X_hear_17
  · -- 5: f to 8
    refine lv_aload_n (pc := 8) hx hb dd_X_hear_8 rfl (lv_at hl 0 rfl) ?_
    refine lv_iload_n (pc := 9) hx hb dd_X_hear_9 rfl (lv_at hl 2 rfl) ?_
    refine k_X_X_isServer (pc := 10) cx hl hP hS (by assumption) (ct_X_isServer l x S ⟨v0, v1, v2, v3, v4, v5, v6, vC, vS, vR⟩ y) ⟨⟨rfl, rfl⟩, ⟨(Nat.le_of_ble_eq_true rfl), (Nat.le_of_ble_eq_true rfl)⟩, (Nat.le_of_ble_eq_true rfl), (Nat.le_of_ble_eq_true rfl)⟩ (Nat.le_of_ble_eq_true rfl) dd_X_hear_10 (fun H locs hP hS => ?_)
    refine f_neB (pc := 13) (tgt := 18) cx dd_X_hear_13 (by decide) (fun h13 => ?_) (fun h13 => ?_)
    · -- 13: t to 18
      exact hz.elim (fun q => absurd (q.symm.trans h5) (by decide)) (fun q => absurd (q.symm.trans h13) (by decide))
    · -- 13: f to 16
      refine lv_iconst (pc := 16) (v := (-1)) hx hb dd_X_hear_16 (by decide) ?_
      refine W.widen (k := 7) (n := 42) (Nat.le_of_ble_eq_true rfl) (Nat.le_of_ble_eq_true rfl) ?_
      exact f_iret (pc := 17) cx hr hlocks hP hS rfl rfl dd_X_hear_17
set_option maxHeartbeats 4000000 in
set_option maxRecDepth 100000 in
theorem ct_X_hear_none (l : Launch) (x : fy) (S : fm) (hL : fL x) (c s0 : Nat) (j : Int32) (hc : c < 5) (hs : s0 < xN x) (hO : fO x) (hj : j < 0 ∨ nI (mU S 13 (100 + (c * xN x + s0)) 1) ≤ j) : Met l mn_X_hear (gw_ws mn_X_hear cb_X_hear 6 (some .int)) ({ frames := 5, cells := 7, slots := 42, locals := 120 } : Room) (fPc x (S) [.ref (xa x 0 0), .int (nI c), .int (nI s0), .int j]) (fQi x (S) (-2)) 7 42 (fun q => xs x ≤ q) := by
  refine f_met (by decide) (Nat.le_of_ble_eq_true rfl) ?_
  intro p e s m below meth c0 cx hr hlocks hnm hP hS ls hl
  have cx : fX rn_X cb_X_hear 6 p c0 s m [.ref (xa x 0 0), .int (nI c), .int (nI s0), .int j].toArray x := cx
  have hx := cx.1.1
  have hb := cx.1.2.1
  have hl : lv_has ls 6 [(0, .ref (xa x 0 0)), (1, .int (nI c)), (2, .int (nI s0)), (3, .int j)] := hl
  obtain ⟨v0, v1, v2, v3, v4, v5, v6, vC, vS, vR⟩ := hL
  obtain ⟨v13, v14, v13r, v14r⟩ := vR _ (row_lt hc hs)
  have hN : xN x ≤ 7 := hO.2.2.2.1
  refine lv_aload_n (pc := 0) hx hb dd_X_hear_0 rfl (lv_at hl 0 rfl) ?_
  refine lv_iload_n (pc := 1) hx hb dd_X_hear_1 rfl (lv_at hl 1 rfl) ?_
  refine k_X_X_isClient (pc := 2) cx hl hP hS (by assumption) (ct_X_isClient l x S ⟨v0, v1, v2, v3, v4, v5, v6, vC, vS, vR⟩ (nI c)) ⟨⟨rfl, rfl⟩, ⟨(Nat.le_of_ble_eq_true rfl), (Nat.le_of_ble_eq_true rfl)⟩, (Nat.le_of_ble_eq_true rfl), (Nat.le_of_ble_eq_true rfl)⟩ (Nat.le_of_ble_eq_true rfl) dd_X_hear_2 (fun H locs hP hS => ?_)
  refine f_eqB (pc := 5) (tgt := 16) cx dd_X_hear_5 (by decide) (fun h5 => ?_) (fun h5 => ?_)
  · -- 5: t to 16
    exact absurd (h5.symm.trans (q_cl_in hc)) (by decide)
  · -- 5: f to 8
    refine lv_aload_n (pc := 8) hx hb dd_X_hear_8 rfl (lv_at hl 0 rfl) ?_
    refine lv_iload_n (pc := 9) hx hb dd_X_hear_9 rfl (lv_at hl 2 rfl) ?_
    refine k_X_X_isServer (pc := 10) cx hl hP hS (by assumption) (ct_X_isServer l x S ⟨v0, v1, v2, v3, v4, v5, v6, vC, vS, vR⟩ (nI s0)) ⟨⟨rfl, rfl⟩, ⟨(Nat.le_of_ble_eq_true rfl), (Nat.le_of_ble_eq_true rfl)⟩, (Nat.le_of_ble_eq_true rfl), (Nat.le_of_ble_eq_true rfl)⟩ (Nat.le_of_ble_eq_true rfl) dd_X_hear_10 (fun H locs hP hS => ?_)
    refine f_neB (pc := 13) (tgt := 18) cx dd_X_hear_13 (by decide) (fun h13 => ?_) (fun h13 => ?_)
    · -- 13: t to 18
      refine lv_aload_n (pc := 18) hx hb dd_X_hear_18 rfl (lv_at hl 0 rfl) ?_
      refine g_X_X_replyRows (pc := 19) cx hP (by assumption) dd_X_hear_19 ?_
      refine lv_aload_n (pc := 22) hx hb dd_X_hear_22 rfl (lv_at hl 0 rfl) ?_
      refine lv_iload_n (pc := 23) hx hb dd_X_hear_23 rfl (lv_at hl 1 rfl) ?_
      refine lv_iload_n (pc := 24) hx hb dd_X_hear_24 rfl (lv_at hl 2 rfl) ?_
      refine k_X_X_rowOf (pc := 25) cx hl hP hS (by assumption) (ct_X_rowOf l x _ ⟨v0, v1, v2, v3, v4, v5, v6, vC, vS, vR⟩ c s0) ⟨⟨rfl, rfl⟩, ⟨(Nat.le_of_ble_eq_true rfl), (Nat.le_of_ble_eq_true rfl)⟩, (Nat.le_of_ble_eq_true rfl), (Nat.le_of_ble_eq_true rfl)⟩ (Nat.le_of_ble_eq_true rfl) dd_X_hear_25 (fun H locs hP hS => ?_)
      refine f_ald6 (pc := 28) cx hP (by assumption) rfl (row_lt hc hs) dd_X_hear_28 ?_
      refine lv_iload_n (pc := 29) hx hb dd_X_hear_29 rfl (lv_at hl 3 rfl) ?_
      refine k_X_R_take (pc := 30) cx hl hP hS (by assumption) (ct_R_take_no l x S (100 + (c * xN x + s0)) j v13r v14r hj) ⟨⟨rfl, rfl⟩, ⟨(Nat.le_of_ble_eq_true rfl), (Nat.le_of_ble_eq_true rfl)⟩, (Nat.le_of_ble_eq_true rfl), (Nat.le_of_ble_eq_true rfl)⟩ (Nat.le_of_ble_eq_true rfl) dd_X_hear_30 (fun H locs hP hS => ?_)
      refine f_st (w := [.null]) rfl ?_
      refine lv_astoreN (pc := 33) (lv' := [(4, _), (0, _), (1, _), (2, _), (3, _)]) hx hb dd_X_hear_33 hl (Nat.le_of_ble_eq_true rfl) rfl (fun ls hl => ?_)
      refine lv_aloadN (pc := 35) hx hb dd_X_hear_35 (lv_at hl 0 rfl) ?_
      refine lv_ifnonnullN (pc := 37) hx hb dd_X_hear_37 ?_
      refine lv_bipush (pc := 40) (v := (-2)) hx hb dd_X_hear_40 (by decide) ?_
      refine W.widen (k := 7) (n := 42) (Nat.le_of_ble_eq_true rfl) (Nat.le_of_ble_eq_true rfl) ?_
      exact f_iret (pc := 42) cx hr hlocks hP hS rfl rfl dd_X_hear_42
    · -- 13: f to 16
      exact absurd (h13.symm.trans (q_sv_in hO hs)) (by decide)
set_option maxHeartbeats 4000000 in
set_option maxRecDepth 100000 in
theorem ct_X_deliver (l : Launch) (x : fy) (S : fm) (hL : fL x) (c s0 j a : Nat) (hc : c < 5) (hs : s0 < xN x) (hO : fO x) (hI : fI x S) (hj : j < mU S 13 (c * xN x + s0) 1) (ha : mA S 14 (c * xN x + s0) j = some a) : Met l mn_X_deliver (gw_ws mn_X_deliver cb_X_deliver 5 (some .int)) ({ frames := 3, cells := 0, slots := 0, locals := 66 } : Room) (fPc x (S) [.ref (xa x 0 0), .int (nI c), .int (nI s0), .int (nI j)]) (fQi x (e_deliver x S c s0 j a) (mI (e_deliver x S c s0 j a) 15 a 0)) 0 0 (fun q => xs x ≤ q) := by
  refine f_met (by decide) (Nat.le_of_ble_eq_true rfl) ?_
  intro p e s m below meth c0 cx hr hlocks hnm hP hS ls hl
  have cx : fX rn_X cb_X_deliver 5 p c0 s m [.ref (xa x 0 0), .int (nI c), .int (nI s0), .int (nI j)].toArray x := cx
  have hx := cx.1.1
  have hb := cx.1.2.1
  have hl : lv_has ls 5 [(0, .ref (xa x 0 0)), (1, .int (nI c)), (2, .int (nI s0)), (3, .int (nI j))] := hl
  obtain ⟨v0, v1, v2, v3, v4, v5, v6, vC, vS, vR⟩ := hL
  obtain ⟨v13, v14, v13r, v14r⟩ := vR _ (row_lt hc hs)
  have hN : xN x ≤ 7 := hO.2.2.2.1
  obtain ⟨v10, v11, v12⟩ := vS s0 hs
  have hfa : fvL x S a := by obtain ⟨b, h1, h2⟩ := hI.2.1 _ j hj; rw [ha] at h1; cases h1; exact h2
  have hD : xD x ≤ 3 := by have := hO; unfold fO at this; omega
  refine lv_aload_n (pc := 0) hx hb dd_X_deliver_0 rfl (lv_at hl 0 rfl) ?_
  refine lv_iload_n (pc := 1) hx hb dd_X_deliver_1 rfl (lv_at hl 1 rfl) ?_
  refine k_X_X_isClient (pc := 2) cx hl hP hS (by assumption) (ct_X_isClient l x S ⟨v0, v1, v2, v3, v4, v5, v6, vC, vS, vR⟩ (nI c)) ⟨⟨rfl, rfl⟩, ⟨(Nat.le_of_ble_eq_true rfl), (Nat.le_of_ble_eq_true rfl)⟩, (Nat.le_of_ble_eq_true rfl), (Nat.le_of_ble_eq_true rfl)⟩ (Nat.le_of_ble_eq_true rfl) dd_X_deliver_2 (fun H locs hP hS => ?_)
  refine f_eqB (pc := 5) (tgt := 16) cx dd_X_deliver_5 (by decide) (fun h5 => ?_) (fun h5 => ?_)
  · -- 5: t to 16
    exact absurd (h5.symm.trans (q_cl_in hc)) (by decide)
  · -- 5: f to 8
    refine lv_aload_n (pc := 8) hx hb dd_X_deliver_8 rfl (lv_at hl 0 rfl) ?_
    refine lv_iload_n (pc := 9) hx hb dd_X_deliver_9 rfl (lv_at hl 2 rfl) ?_
    refine k_X_X_isServer (pc := 10) cx hl hP hS (by assumption) (ct_X_isServer l x S ⟨v0, v1, v2, v3, v4, v5, v6, vC, vS, vR⟩ (nI s0)) ⟨⟨rfl, rfl⟩, ⟨(Nat.le_of_ble_eq_true rfl), (Nat.le_of_ble_eq_true rfl)⟩, (Nat.le_of_ble_eq_true rfl), (Nat.le_of_ble_eq_true rfl)⟩ (Nat.le_of_ble_eq_true rfl) dd_X_deliver_10 (fun H locs hP hS => ?_)
    refine f_neB (pc := 13) (tgt := 18) cx dd_X_deliver_13 (by decide) (fun h13 => ?_) (fun h13 => ?_)
    · -- 13: t to 18
      refine lv_aload_n (pc := 18) hx hb dd_X_deliver_18 rfl (lv_at hl 0 rfl) ?_
      refine g_X_X_requestRows (pc := 19) cx hP (by assumption) dd_X_deliver_19 ?_
      refine lv_aload_n (pc := 22) hx hb dd_X_deliver_22 rfl (lv_at hl 0 rfl) ?_
      refine lv_iload_n (pc := 23) hx hb dd_X_deliver_23 rfl (lv_at hl 1 rfl) ?_
      refine lv_iload_n (pc := 24) hx hb dd_X_deliver_24 rfl (lv_at hl 2 rfl) ?_
      refine k_X_X_rowOf (pc := 25) cx hl hP hS (by assumption) (ct_X_rowOf l x _ ⟨v0, v1, v2, v3, v4, v5, v6, vC, vS, vR⟩ c s0) ⟨⟨rfl, rfl⟩, ⟨(Nat.le_of_ble_eq_true rfl), (Nat.le_of_ble_eq_true rfl)⟩, (Nat.le_of_ble_eq_true rfl), (Nat.le_of_ble_eq_true rfl)⟩ (Nat.le_of_ble_eq_true rfl) dd_X_deliver_25 (fun H locs hP hS => ?_)
      refine f_ald5 (pc := 28) cx hP (by assumption) rfl (row_lt hc hs) dd_X_deliver_28 ?_
      refine lv_iload_n (pc := 29) hx hb dd_X_deliver_29 rfl (lv_at hl 3 rfl) ?_
      refine k_X_R_take (pc := 30) cx hl hP hS (by assumption) (ct_R_take l x S (c * xN x + s0) j a v13 v14 hj (hI.1 _) (hI.2.1 _) ha) ⟨⟨rfl, rfl⟩, ⟨(Nat.le_of_ble_eq_true rfl), (Nat.le_of_ble_eq_true rfl)⟩, (Nat.le_of_ble_eq_true rfl), (Nat.le_of_ble_eq_true rfl)⟩ (Nat.le_of_ble_eq_true rfl) dd_X_deliver_30 (fun H locs hP hS => ?_)
      refine f_st (w := [.ref a]) rfl ?_
      refine lv_astore (pc := 33) (lv' := [(4, _), (0, _), (1, _), (2, _), (3, _)]) hx hb dd_X_deliver_33 hl (Nat.le_of_ble_eq_true rfl) rfl (fun ls hl => ?_)
      refine lv_aload (pc := 35) hx hb dd_X_deliver_35 (lv_at hl 0 rfl) ?_
      refine lv_ifnonnull (pc := 37) (tgt := 43) hx hb dd_X_deliver_37 (by decide) ?_
      refine lv_aload_n (pc := 43) hx hb dd_X_deliver_43 rfl (lv_at hl 1 rfl) ?_
      refine g_X_X_servers (pc := 44) cx hP (by assumption) dd_X_deliver_44 ?_
      refine lv_iload_n (pc := 47) hx hb dd_X_deliver_47 rfl (lv_at hl 3 rfl) ?_
      refine f_ald4 (pc := 48) cx hP (by assumption) rfl (by omega) dd_X_deliver_48 ?_
      refine lv_aload (pc := 49) hx hb dd_X_deliver_49 (lv_at hl 0 rfl) ?_
      refine k_X_S_answer (pc := 51) cx hl hP hS (by assumption) (ct_S_answer l x (e_take S (c * xN x + s0) j) s0 a v10 v11 v12 hfa (hI.2.2.1 s0) hD) ⟨⟨rfl, rfl⟩, ⟨(Nat.le_of_ble_eq_true rfl), (Nat.le_of_ble_eq_true rfl)⟩, (Nat.le_of_ble_eq_true rfl), (Nat.le_of_ble_eq_true rfl)⟩ (Nat.le_of_ble_eq_true rfl) dd_X_deliver_51 (fun H locs hP hS => ?_)
      have hfa : fvL x (e_answer x (e_take S (c * xN x + s0) j) s0 a) a := ⟨hfa.1, hfa.2.1, by rw [e_answer_Z]; exact hfa.2.2⟩
      refine lv_aload_n (pc := 54) hx hb dd_X_deliver_54 rfl (lv_at hl 1 rfl) ?_
      refine g_X_X_replyRows (pc := 55) cx hP (by assumption) dd_X_deliver_55 ?_
      refine lv_aload_n (pc := 58) hx hb dd_X_deliver_58 rfl (lv_at hl 1 rfl) ?_
      refine lv_iload_n (pc := 59) hx hb dd_X_deliver_59 rfl (lv_at hl 2 rfl) ?_
      refine lv_iload_n (pc := 60) hx hb dd_X_deliver_60 rfl (lv_at hl 3 rfl) ?_
      refine k_X_X_rowOf (pc := 61) cx hl hP hS (by assumption) (ct_X_rowOf l x _ ⟨v0, v1, v2, v3, v4, v5, v6, vC, vS, vR⟩ c s0) ⟨⟨rfl, rfl⟩, ⟨(Nat.le_of_ble_eq_true rfl), (Nat.le_of_ble_eq_true rfl)⟩, (Nat.le_of_ble_eq_true rfl), (Nat.le_of_ble_eq_true rfl)⟩ (Nat.le_of_ble_eq_true rfl) dd_X_deliver_61 (fun H locs hP hS => ?_)
      refine f_ald6 (pc := 64) cx hP (by assumption) rfl (row_lt hc hs) dd_X_deliver_64 ?_
      refine lv_aload (pc := 65) hx hb dd_X_deliver_65 (lv_at hl 0 rfl) ?_
      refine k_X_R_append (pc := 67) cx hl hP hS (by assumption) (ct_R_append l x _ (100 + (c * xN x + s0)) a v13r v14r hfa (by rw [e_answer_U13]; exact e_take_le S _ _ hI.1 _)) ⟨⟨rfl, rfl⟩, ⟨(Nat.le_of_ble_eq_true rfl), (Nat.le_of_ble_eq_true rfl)⟩, (Nat.le_of_ble_eq_true rfl), (Nat.le_of_ble_eq_true rfl)⟩ (Nat.le_of_ble_eq_true rfl) dd_X_deliver_67 (fun H locs hP hS => ?_)
      have hfa : fvL x (e_deliver x S c s0 j a) a := ⟨hfa.1, hfa.2.1, by unfold e_deliver e_app; split <;> exact hfa.2.2⟩
      refine lv_aload (pc := 70) hx hb dd_X_deliver_70 (lv_at hl 0 rfl) ?_
      refine g_X_L_phase (pc := 72) cx hP (by assumption) dd_X_deliver_72 ?_
      exact f_iret (pc := 75) cx hr hlocks hP hS rfl rfl dd_X_deliver_75
    · -- 13: f to 16
      exact absurd (h13.symm.trans (q_sv_in hO hs)) (by decide)
set_option maxHeartbeats 4000000 in
set_option maxRecDepth 100000 in
theorem ct_X_hear (l : Launch) (x : fy) (S : fm) (hL : fL x) (c s0 j a : Nat) (hc : c < 5) (hs : s0 < xN x) (hO : fO x) (hI : fI x S) (hj : j < mU S 13 (100 + (c * xN x + s0)) 1) (ha : mA S 14 (100 + (c * xN x + s0)) j = some a) : Met l mn_X_hear (gw_ws mn_X_hear cb_X_hear 6 (some .int)) ({ frames := 5, cells := 7, slots := 42, locals := 120 } : Room) (fPc x (S) [.ref (xa x 0 0), .int (nI c), .int (nI s0), .int (nI j)]) (fQi x (e_hr x S c s0 j a) (q_hr x S c s0 j a)) 7 42 (fun q => xs x ≤ q) := by
  refine f_met (by decide) (Nat.le_of_ble_eq_true rfl) ?_
  intro p e s m below meth c0 cx hr hlocks hnm hP hS ls hl
  have cx : fX rn_X cb_X_hear 6 p c0 s m [.ref (xa x 0 0), .int (nI c), .int (nI s0), .int (nI j)].toArray x := cx
  have hx := cx.1.1
  have hb := cx.1.2.1
  have hl : lv_has ls 6 [(0, .ref (xa x 0 0)), (1, .int (nI c)), (2, .int (nI s0)), (3, .int (nI j))] := hl
  obtain ⟨v0, v1, v2, v3, v4, v5, v6, vC, vS, vR⟩ := hL
  obtain ⟨v13, v14, v13r, v14r⟩ := vR _ (row_lt hc hs)
  have hN : xN x ≤ 7 := hO.2.2.2.1
  obtain ⟨v7, v8, v9⟩ := vC c hc
  have hfa : fvL x S a := by obtain ⟨b, h1, h2⟩ := hI.2.1 _ j hj; rw [ha] at h1; cases h1; exact h2
  have hK : xK x ≤ 7 := by have := hO; unfold fO at this; omega
  refine lv_aload_n (pc := 0) hx hb dd_X_hear_0 rfl (lv_at hl 0 rfl) ?_
  refine lv_iload_n (pc := 1) hx hb dd_X_hear_1 rfl (lv_at hl 1 rfl) ?_
  refine k_X_X_isClient (pc := 2) cx hl hP hS (by assumption) (ct_X_isClient l x S ⟨v0, v1, v2, v3, v4, v5, v6, vC, vS, vR⟩ (nI c)) ⟨⟨rfl, rfl⟩, ⟨(Nat.le_of_ble_eq_true rfl), (Nat.le_of_ble_eq_true rfl)⟩, (Nat.le_of_ble_eq_true rfl), (Nat.le_of_ble_eq_true rfl)⟩ (Nat.le_of_ble_eq_true rfl) dd_X_hear_2 (fun H locs hP hS => ?_)
  refine f_eqB (pc := 5) (tgt := 16) cx dd_X_hear_5 (by decide) (fun h5 => ?_) (fun h5 => ?_)
  · -- 5: t to 16
    exact absurd (h5.symm.trans (q_cl_in hc)) (by decide)
  · -- 5: f to 8
    refine lv_aload_n (pc := 8) hx hb dd_X_hear_8 rfl (lv_at hl 0 rfl) ?_
    refine lv_iload_n (pc := 9) hx hb dd_X_hear_9 rfl (lv_at hl 2 rfl) ?_
    refine k_X_X_isServer (pc := 10) cx hl hP hS (by assumption) (ct_X_isServer l x S ⟨v0, v1, v2, v3, v4, v5, v6, vC, vS, vR⟩ (nI s0)) ⟨⟨rfl, rfl⟩, ⟨(Nat.le_of_ble_eq_true rfl), (Nat.le_of_ble_eq_true rfl)⟩, (Nat.le_of_ble_eq_true rfl), (Nat.le_of_ble_eq_true rfl)⟩ (Nat.le_of_ble_eq_true rfl) dd_X_hear_10 (fun H locs hP hS => ?_)
    refine f_neB (pc := 13) (tgt := 18) cx dd_X_hear_13 (by decide) (fun h13 => ?_) (fun h13 => ?_)
    · -- 13: t to 18
      refine lv_aload_n (pc := 18) hx hb dd_X_hear_18 rfl (lv_at hl 0 rfl) ?_
      refine g_X_X_replyRows (pc := 19) cx hP (by assumption) dd_X_hear_19 ?_
      refine lv_aload_n (pc := 22) hx hb dd_X_hear_22 rfl (lv_at hl 0 rfl) ?_
      refine lv_iload_n (pc := 23) hx hb dd_X_hear_23 rfl (lv_at hl 1 rfl) ?_
      refine lv_iload_n (pc := 24) hx hb dd_X_hear_24 rfl (lv_at hl 2 rfl) ?_
      refine k_X_X_rowOf (pc := 25) cx hl hP hS (by assumption) (ct_X_rowOf l x _ ⟨v0, v1, v2, v3, v4, v5, v6, vC, vS, vR⟩ c s0) ⟨⟨rfl, rfl⟩, ⟨(Nat.le_of_ble_eq_true rfl), (Nat.le_of_ble_eq_true rfl)⟩, (Nat.le_of_ble_eq_true rfl), (Nat.le_of_ble_eq_true rfl)⟩ (Nat.le_of_ble_eq_true rfl) dd_X_hear_25 (fun H locs hP hS => ?_)
      refine f_ald6 (pc := 28) cx hP (by assumption) rfl (row_lt hc hs) dd_X_hear_28 ?_
      refine lv_iload_n (pc := 29) hx hb dd_X_hear_29 rfl (lv_at hl 3 rfl) ?_
      refine k_X_R_take (pc := 30) cx hl hP hS (by assumption) (ct_R_take l x S (100 + (c * xN x + s0)) j a v13r v14r hj (hI.1 _) (hI.2.1 _) ha) ⟨⟨rfl, rfl⟩, ⟨(Nat.le_of_ble_eq_true rfl), (Nat.le_of_ble_eq_true rfl)⟩, (Nat.le_of_ble_eq_true rfl), (Nat.le_of_ble_eq_true rfl)⟩ (Nat.le_of_ble_eq_true rfl) dd_X_hear_30 (fun H locs hP hS => ?_)
      refine f_st (w := [.ref a]) rfl ?_
      refine lv_astore (pc := 33) (lv' := [(4, _), (0, _), (1, _), (2, _), (3, _)]) hx hb dd_X_hear_33 hl (Nat.le_of_ble_eq_true rfl) rfl (fun ls hl => ?_)
      refine lv_aload (pc := 35) hx hb dd_X_hear_35 (lv_at hl 0 rfl) ?_
      refine lv_ifnonnull (pc := 37) (tgt := 43) hx hb dd_X_hear_37 (by decide) ?_
      refine lv_aload_n (pc := 43) hx hb dd_X_hear_43 rfl (lv_at hl 1 rfl) ?_
      refine g_X_X_clients (pc := 44) cx hP (by assumption) dd_X_hear_44 ?_
      refine lv_iload_n (pc := 47) hx hb dd_X_hear_47 rfl (lv_at hl 2 rfl) ?_
      refine f_ald3 (pc := 48) cx hP (by assumption) rfl (by omega) dd_X_hear_48 ?_
      refine lv_astore (pc := 49) (lv' := [(5, _), (4, _), (0, _), (1, _), (2, _), (3, _)]) hx hb dd_X_hear_49 hl (Nat.le_of_ble_eq_true rfl) rfl (fun ls hl => ?_)
      refine lv_aload (pc := 51) hx hb dd_X_hear_51 (lv_at hl 0 rfl) ?_
      refine lv_aload (pc := 53) hx hb dd_X_hear_53 (lv_at hl 1 rfl) ?_
      refine k_X_C_counts (pc := 55) cx hl hP hS (by assumption) (ct_C_counts l x (e_take S (100 + (c * xN x + s0)) j) c a v7 hfa) ⟨⟨rfl, rfl⟩, ⟨(Nat.le_of_ble_eq_true rfl), (Nat.le_of_ble_eq_true rfl)⟩, (Nat.le_of_ble_eq_true rfl), (Nat.le_of_ble_eq_true rfl)⟩ (Nat.le_of_ble_eq_true rfl) dd_X_hear_55 (fun H locs hP hS => ?_)
      refine f_neB (pc := 58) (tgt := 63) cx dd_X_hear_58 (by decide) (fun h58 => ?_) (fun h58 => ?_)
      · -- 58: t to 63
        refine lv_aload (pc := 63) hx hb dd_X_hear_63 (lv_at hl 0 rfl) ?_
        refine lv_aload (pc := 65) hx hb dd_X_hear_65 (lv_at hl 1 rfl) ?_
        refine lv_iload_n (pc := 67) hx hb dd_X_hear_67 rfl (lv_at hl 4 rfl) ?_
        refine k_X_C_take (pc := 68) cx hl hP hS (by assumption) (ct_C_take l x (e_take S (100 + (c * xN x + s0)) j) c a s0 v7 v8 v9 hfa hK (hI.2.2.2.1 c)) ⟨⟨rfl, rfl⟩, ⟨(Nat.le_of_ble_eq_true rfl), (Nat.le_of_ble_eq_true rfl)⟩, (Nat.le_of_ble_eq_true rfl), (Nat.le_of_ble_eq_true rfl)⟩ (Nat.le_of_ble_eq_true rfl) dd_X_hear_68 (fun H locs hP hS => ?_)
        refine lv_aload_n (pc := 71) hx hb dd_X_hear_71 rfl (lv_at hl 2 rfl) ?_
        refine lv_aload (pc := 72) hx hb dd_X_hear_72 (lv_at hl 0 rfl) ?_
        refine k_X_X_hasHeardEnough (pc := 74) cx hl hP hS (by assumption) (ct_X_enough l x (e_hear x (e_take S (100 + (c * xN x + s0)) j) c a s0) ⟨v0, v1, v2, v3, v4, v5, v6, vC, vS, vR⟩ c hc hO (e_hear_fc x _ c a s0 hK (hI.2.2.2.1 c))) ⟨⟨rfl, rfl⟩, ⟨(Nat.le_of_ble_eq_true rfl), (Nat.le_of_ble_eq_true rfl)⟩, (Nat.le_of_ble_eq_true rfl), (Nat.le_of_ble_eq_true rfl)⟩ (Nat.le_of_ble_eq_true rfl) dd_X_hear_74 (fun H locs hP hS => ?_)
        refine f_eqB (pc := 77) (tgt := 89) cx dd_X_hear_77 (by decide) (fun h77 => ?_) (fun h77 => ?_)
        · -- 77: t to 89
          refine lv_iconst (pc := 89) (v := 1) hx hb dd_X_hear_89 (by decide) ?_
          refine W.widen (k := 7) (n := 42) (Nat.le_of_ble_eq_true rfl) (Nat.le_of_ble_eq_true rfl) ?_
          exact f_iret (pc := 90) cx hr hlocks hP hS (by simp [q_hr, *]) (by simp [e_hr, *]) dd_X_hear_90
        · -- 77: f to 80
          refine lv_aload_n (pc := 80) hx hb dd_X_hear_80 rfl (lv_at hl 2 rfl) ?_
          refine lv_aload (pc := 81) hx hb dd_X_hear_81 (lv_at hl 0 rfl) ?_
          refine k_X_X_endPhase (pc := 83) cx hl hP hS (by assumption) (ct_X_endPhase l x (e_hear x (e_take S (100 + (c * xN x + s0)) j) c a s0) ⟨v0, v1, v2, v3, v4, v5, v6, vC, vS, vR⟩ c hc hO (fun r => by rw [e_hear_U13]; exact e_take_le S _ _ hI.1 r) (fun q => e_hear_src x _ c a s0 q (by omega) (hI.2.2.2.2 c q))) ⟨⟨rfl, rfl⟩, ⟨(Nat.le_of_ble_eq_true rfl), (Nat.le_of_ble_eq_true rfl)⟩, (Nat.le_of_ble_eq_true rfl), (Nat.le_of_ble_eq_true rfl)⟩ (Nat.le_of_ble_eq_true rfl) dd_X_hear_83 (fun H locs hP hS => ?_)
          refine lv_goto (pc := 86) (tgt := 90) hx hb dd_X_hear_86 (by decide) ?_
          refine W.widen (k := 7) (n := 42) (Nat.le_of_ble_eq_true rfl) (Nat.le_of_ble_eq_true rfl) ?_
          exact f_iret (pc := 90) cx hr hlocks hP hS (by simp [q_hr, *]) (by simp [e_hr, *]) dd_X_hear_90
      · -- 58: f to 61
        refine lv_iconst (pc := 61) (v := 0) hx hb dd_X_hear_61 (by decide) ?_
        refine W.widen (k := 7) (n := 42) (Nat.le_of_ble_eq_true rfl) (Nat.le_of_ble_eq_true rfl) ?_
        exact f_iret (pc := 62) cx hr hlocks hP hS (by simp [q_hr, *]) (by simp [e_hr, *]) dd_X_hear_62
    · -- 13: f to 16
      exact absurd (h13.symm.trans (q_sv_in hO hs)) (by decide)
end
section
-- the reference's layout, and small rows
def fM (x : fy) : Prop := fv x 16 0 ∧ fv x 23 0 ∧ fv x 24 0 ∧ fv x 25 0 ∧ fv x 26 0 ∧ fv x 27 0 ∧ fv x 28 0 ∧ fv x 29 0 ∧ fv x 30 0 ∧ fv x 31 0 ∧ fv x 32 0 ∧ fv x 33 0 ∧ fv x 34 0 ∧ fv x 35 0 ∧ fv x 36 0 ∧ fv x 37 0 ∧ fv x 39 0 ∧ fv x 40 0 ∧ fv x 41 0 ∧ fv x 42 0 ∧ fv x 43 0 ∧ fv x 44 0 ∧ fv x 45 0 ∧ fv x 46 0
theorem q_le4 (z : Int32) : z ≤ 4 ↔ ¬ (5 : Int32) ≤ z := by
  rw [Int32.le_iff_toInt_le, Int32.le_iff_toInt_le, show (4 : Int32).toInt = 4 by decide, show (5 : Int32).toInt = 5 by decide]
  omega
theorem b2_inj {a b : Bool} : b2 a = b2 b ↔ a = b := by cases a <;> cases b <;> decide
theorem n_quo (x : fy) (hO : fO x) : nI (xN x) - (nI (xN x) - nI (xK x)) / 2 = nI (xQ x) := by
  have h1 : xK x ≤ xN x := by have := hO; unfold fO at this; omega
  have h2 : xN x ≤ 7 := hO.2.2.2.1
  rw [pk_sub h1, show (2 : Int32) = nI 2 from rfl, pk_div (by omega) (by omega) (by omega), pk_sub (by omega)]
  rfl
theorem n_half (x : fy) (hO : fO x) : (nI (xN x) - nI (xK x)) / 2 = nI (xM x) := by
  have h1 : xK x ≤ xN x := by have := hO; unfold fO at this; omega
  have h2 : xN x ≤ 7 := hO.2.2.2.1
  rw [pk_sub h1, show (2 : Int32) = nI 2 from rfl, pk_div (by omega) (by omega) (by omega)]
  rfl
theorem u2_comm {α : Type} (F : Nat → Nat → Nat → α) {k i a b : Nat} (f g : Nat → α) (h : ¬ (a = k ∧ b = i)) : u2 (u2 F k i f) a b g = u2 (u2 F a b g) k i f := by
  funext p q
  unfold u2
  by_cases h1 : p = a ∧ q = b
  · rw [if_pos h1, if_neg (fun h2 => h ⟨h1.1.symm.trans h2.1, h1.2.symm.trans h2.2⟩), if_pos h1]
  · rw [if_neg h1]
    by_cases h2 : p = k ∧ q = i
    · rw [if_pos h2, if_pos h2]
    · rw [if_neg h2, if_neg h2, if_neg h1]
theorem sI_ne (S : fm) {k i a b : Nat} (f : Nat → Int32) (j : Nat) (v : Int32) (h : ¬ (a = k ∧ b = i)) : sI (rI S k i f) a b j v = rI (sI S a b j v) k i f := by
  unfold sI
  rw [show mI (rI S k i f) a b = mI S a b from u2_n h]
  show (u2 (u2 S.1 k i f) a b _, _) = (u2 (u2 S.1 a b _) k i f, _)
  rw [u2_comm _ _ _ h]
  rfl
theorem sB_ne (S : fm) {k i a b : Nat} (f : Nat → Bool) (j : Nat) (v : Bool) (h : ¬ (a = k ∧ b = i)) : sB (rB S k i f) a b j v = rB (sB S a b j v) k i f := by
  unfold sB
  rw [show mB (rB S k i f) a b = mB S a b from u2_n h]
  show (_, _, u2 (u2 S.2.2.1 k i f) a b _, _) = (_, _, u2 (u2 S.2.2.1 a b _) k i f, _)
  rw [u2_comm _ _ _ h]
  rfl
theorem n_shift_0 (S : fm) (a : Nat) : n_shift S a a = S := by
  simp only [n_shift, tkA_0, rB_self, rI_self, rJ_self]
theorem n_shift_step (S : fm) (a i : Nat) (h : a ≤ i) (T : fm) (hT : T = n_shift S a i) :
    sJ (sI (sI (sI (sI (sI (sB (sB T 39 0 i (mB T 39 0 (i + 1))) 40 0 i (mB T 40 0 (i + 1))) 41 0 i (mI T 41 0 (i + 1))) 42 0 i (mI T 42 0 (i + 1))) 43 0 i (mI T 43 0 (i + 1))) 44 0 i (mI T 44 0 (i + 1))) 45 0 i (mI T 45 0 (i + 1))) 46 0 i (mJ T 46 0 (i + 1)) = n_shift S a (i + 1) := by
  have e1 : mB T 39 0 (i + 1) = mB S 39 0 (i + 1) := by rw [hT]; exact tkA_at _ _ _
  have e2 : mB T 40 0 (i + 1) = mB S 40 0 (i + 1) := by rw [hT]; exact tkA_at _ _ _
  have e3 : mI T 41 0 (i + 1) = mI S 41 0 (i + 1) := by rw [hT]; exact tkA_at _ _ _
  have e4 : mI T 42 0 (i + 1) = mI S 42 0 (i + 1) := by rw [hT]; exact tkA_at _ _ _
  have e5 : mI T 43 0 (i + 1) = mI S 43 0 (i + 1) := by rw [hT]; exact tkA_at _ _ _
  have e6 : mI T 44 0 (i + 1) = mI S 44 0 (i + 1) := by rw [hT]; exact tkA_at _ _ _
  have e7 : mI T 45 0 (i + 1) = mI S 45 0 (i + 1) := by rw [hT]; exact tkA_at _ _ _
  have e8 : mJ T 46 0 (i + 1) = mJ S 46 0 (i + 1) := by rw [hT]; exact tkA_at _ _ _
  rw [e1, e2, e3, e4, e5, e6, e7, e8, hT]
  unfold n_shift
  simp only [sB_rJ, sB_rI, sI_rJ, sI_rB]
  rw [sB_ne _ _ _ _ (by decide : ¬ (39 = 40 ∧ 0 = 0)), sB_rB, sB_rB]
  simp only [sI_ne _ _ _ _ (by decide : ¬ (41 = 45 ∧ 0 = 0)), sI_ne _ _ _ _ (by decide : ¬ (41 = 44 ∧ 0 = 0)), sI_ne _ _ _ _ (by decide : ¬ (41 = 43 ∧ 0 = 0)), sI_ne _ _ _ _ (by decide : ¬ (41 = 42 ∧ 0 = 0)), sI_ne _ _ _ _ (by decide : ¬ (42 = 45 ∧ 0 = 0)), sI_ne _ _ _ _ (by decide : ¬ (42 = 44 ∧ 0 = 0)), sI_ne _ _ _ _ (by decide : ¬ (42 = 43 ∧ 0 = 0)), sI_ne _ _ _ _ (by decide : ¬ (43 = 45 ∧ 0 = 0)), sI_ne _ _ _ _ (by decide : ¬ (43 = 44 ∧ 0 = 0)), sI_ne _ _ _ _ (by decide : ¬ (44 = 45 ∧ 0 = 0)), sI_rI, sJ_rJ, tkA_step _ _ _ h]
theorem n_match_t {S : fm} {b : Bool} {c s i : Nat} (h1 : mB S 39 0 i = b) (h2 : mI S 41 0 i = nI c) (h3 : mI S 42 0 i = nI s) : n_match S b c s i = true := by
  unfold n_match
  rw [h1, h2, h3]
  simp
theorem n_match_f {S : fm} {b : Bool} {c s i : Nat} (h : ¬ mB S 39 0 i = b ∨ ¬ mI S 41 0 i = nI c ∨ ¬ mI S 42 0 i = nI s) : n_match S b c s i = false := by
  unfold n_match
  rcases h with h | h | h <;> simp [h]
theorem n_cnt_t {S : fm} {b : Bool} {c s i : Nat} (h : n_match S b c s i = true) : n_cnt S b c s (i + 1) = n_cnt S b c s i + 1 := by show (if _ then _ else _) = _; rw [if_pos h]
theorem n_cnt_f {S : fm} {b : Bool} {c s i : Nat} (h : n_match S b c s i = false) : n_cnt S b c s (i + 1) = n_cnt S b c s i := by show (if _ then _ else _) = _; rw [if_neg (by rw [h]; decide)]
theorem n_cnt_le (S : fm) (b : Bool) (c s : Nat) : ∀ n, n_cnt S b c s n ≤ n := by
  intro n
  induction n with
  | zero => exact Nat.le_refl _
  | succ n ih =>
    rw [show n_cnt S b c s (n + 1) = if n_match S b c s n = true then n_cnt S b c s n + 1 else n_cnt S b c s n from rfl]
    split <;> omega
theorem any_succ (p : Nat → Bool) (i : Nat) : (List.range (i + 1)).any p = ((List.range i).any p || p i) := by
  rw [List.range_succ, List.any_append]
  simp
theorem n_low_le (f : Nat → Int32) (b : Nat) : ∀ n, b ≤ n_low f b n ∧ n_low f b n ≤ b + (n - 1) := by
  intro n
  induction n with
  | zero => exact ⟨Nat.le_refl _, by simp [n_low]⟩
  | succ n ih =>
    rw [show n_low f b (n + 1) = if f (b + n) < f (n_low f b n) then b + n else n_low f b n from rfl]
    split <;> omega
end
section
-- contracts of the reference, by wip/whole/gen/c_mod.py
set_option maxHeartbeats 4000000 in
set_option maxRecDepth 100000 in
theorem ct_M_noClient (l : Launch) (x : fy) (S : fm) (hM : fM x) (z : Int32) : Met l mn_M_noClient (gw_ws mn_M_noClient cb_M_noClient 2 (some .boolean)) ({ frames := 0, cells := 0, slots := 0, locals := 0 } : Room) (fPc x (S) [.ref (xa x 16 0), .int z]) (fQi x (S) (b2 (!q_cl z))) 0 0 (fun q => xs x ≤ q) := by
  refine f_met (by decide) (Nat.le_of_ble_eq_true rfl) ?_
  intro p e s m below meth c0 cx hr hlocks hnm hP hS ls hl
  have cx : fX rn_M cb_M_noClient 2 p c0 s m [.ref (xa x 16 0), .int z].toArray x := cx
  have hx := cx.1.1
  have hb := cx.1.2.1
  have hl : lv_has ls 2 [(0, .ref (xa x 16 0)), (1, .int z)] := hl
  obtain ⟨w16, w23, w24, w25, w26, w27, w28, w29, w30, w31, w32, w33, w34, w35, w36, w37, w39, w40, w41, w42, w43, w44, w45, w46⟩ := hM
  refine lv_iload_n (pc := 0) hx hb dd_M_noClient_0 rfl (lv_at hl 1 rfl) ?_
  refine lv_if_lt (pc := 1) (tgt := 9) hx hb dd_M_noClient_1 (by decide) (fun h1 => ?_) (fun h1 => ?_)
  · -- 1: t to 9
    refine lv_iconst (pc := 9) (v := 1) hx hb dd_M_noClient_9 (by decide) ?_
    refine lv_goto (pc := 10) (tgt := 14) hx hb dd_M_noClient_10 (by decide) ?_
    exact f_zret (pc := 14) cx hr hlocks hP hS (by simp [q_cl, b2, *]) rfl dd_M_noClient_14
  · -- 1: f to 4
    refine lv_iload_n (pc := 4) hx hb dd_M_noClient_4 rfl (lv_at hl 1 rfl) ?_
    refine lv_iconst (pc := 5) (v := 4) hx hb dd_M_noClient_5 (by decide) ?_
    refine lv_icmp_le (pc := 6) (tgt := 13) hx hb dd_M_noClient_6 (by decide) (fun h6 => ?_) (fun h6 => ?_)
    · -- 6: t to 13
      have h6b := (q_le4 z).mp h6
      refine lv_iconst (pc := 13) (v := 0) hx hb dd_M_noClient_13 (by decide) ?_
      exact f_zret (pc := 14) cx hr hlocks hP hS (by simp [q_cl, b2, *]) rfl dd_M_noClient_14
    · -- 6: f to 9
      have h6b : (5 : Int32) ≤ z := Decidable.of_not_not (fun q => h6 ((q_le4 z).mpr q))
      refine lv_iconst (pc := 9) (v := 1) hx hb dd_M_noClient_9 (by decide) ?_
      refine lv_goto (pc := 10) (tgt := 14) hx hb dd_M_noClient_10 (by decide) ?_
      exact f_zret (pc := 14) cx hr hlocks hP hS (by simp [q_cl, b2, *]) rfl dd_M_noClient_14
set_option maxHeartbeats 4000000 in
set_option maxRecDepth 100000 in
theorem ct_M_noServer (l : Launch) (x : fy) (S : fm) (hM : fM x) (z : Int32) : Met l mn_M_noServer (gw_ws mn_M_noServer cb_M_noServer 2 (some .boolean)) ({ frames := 0, cells := 0, slots := 0, locals := 0 } : Room) (fPc x (S) [.ref (xa x 16 0), .int z]) (fQi x (S) (b2 (!q_sv x z))) 0 0 (fun q => xs x ≤ q) := by
  refine f_met (by decide) (Nat.le_of_ble_eq_true rfl) ?_
  intro p e s m below meth c0 cx hr hlocks hnm hP hS ls hl
  have cx : fX rn_M cb_M_noServer 2 p c0 s m [.ref (xa x 16 0), .int z].toArray x := cx
  have hx := cx.1.1
  have hb := cx.1.2.1
  have hl : lv_has ls 2 [(0, .ref (xa x 16 0)), (1, .int z)] := hl
  obtain ⟨w16, w23, w24, w25, w26, w27, w28, w29, w30, w31, w32, w33, w34, w35, w36, w37, w39, w40, w41, w42, w43, w44, w45, w46⟩ := hM
  refine lv_iload_n (pc := 0) hx hb dd_M_noServer_0 rfl (lv_at hl 1 rfl) ?_
  refine lv_if_lt (pc := 1) (tgt := 12) hx hb dd_M_noServer_1 (by decide) (fun h1 => ?_) (fun h1 => ?_)
  · -- 1: t to 12
    refine lv_iconst (pc := 12) (v := 1) hx hb dd_M_noServer_12 (by decide) ?_
    refine lv_goto (pc := 13) (tgt := 17) hx hb dd_M_noServer_13 (by decide) ?_
    exact f_zret (pc := 17) cx hr hlocks hP hS (by simp [q_sv, b2, *]) rfl dd_M_noServer_17
  · -- 1: f to 4
    refine lv_iload_n (pc := 4) hx hb dd_M_noServer_4 rfl (lv_at hl 1 rfl) ?_
    refine lv_aload_n (pc := 5) hx hb dd_M_noServer_5 rfl (lv_at hl 0 rfl) ?_
    refine g_M_M_n (pc := 6) cx hP (by assumption) dd_M_noServer_6 ?_
    refine lv_icmp_lt (pc := 9) (tgt := 16) hx hb dd_M_noServer_9 (by decide) (fun h9 => ?_) (fun h9 => ?_)
    · -- 9: t to 16
      have h9b : ¬ nI (xN x) ≤ z := Int32.not_le.mpr h9
      refine lv_iconst (pc := 16) (v := 0) hx hb dd_M_noServer_16 (by decide) ?_
      exact f_zret (pc := 17) cx hr hlocks hP hS (by simp [q_sv, b2, *]) rfl dd_M_noServer_17
    · -- 9: f to 12
      have h9b : nI (xN x) ≤ z := Int32.not_lt.mp h9
      refine lv_iconst (pc := 12) (v := 1) hx hb dd_M_noServer_12 (by decide) ?_
      refine lv_goto (pc := 13) (tgt := 17) hx hb dd_M_noServer_13 (by decide) ?_
      exact f_zret (pc := 17) cx hr hlocks hP hS (by simp [q_sv, b2, *]) rfl dd_M_noServer_17
set_option maxHeartbeats 4000000 in
set_option maxRecDepth 100000 in
theorem ct_M_quorum (l : Launch) (x : fy) (S : fm) (hM : fM x) (hO : fO x) : Met l mn_M_quorum (gw_ws mn_M_quorum cb_M_quorum 1 (some .int)) ({ frames := 0, cells := 0, slots := 0, locals := 0 } : Room) (fPc x (S) [.ref (xa x 16 0)]) (fQi x (S) (nI (xQ x))) 0 0 (fun q => xs x ≤ q) := by
  refine f_met (by decide) (Nat.le_of_ble_eq_true rfl) ?_
  intro p e s m below meth c0 cx hr hlocks hnm hP hS ls hl
  have cx : fX rn_M cb_M_quorum 1 p c0 s m [.ref (xa x 16 0)].toArray x := cx
  have hx := cx.1.1
  have hb := cx.1.2.1
  have hl : lv_has ls 1 [(0, .ref (xa x 16 0))] := hl
  obtain ⟨w16, w23, w24, w25, w26, w27, w28, w29, w30, w31, w32, w33, w34, w35, w36, w37, w39, w40, w41, w42, w43, w44, w45, w46⟩ := hM
  refine lv_aload_n (pc := 0) hx hb dd_M_quorum_0 rfl (lv_at hl 0 rfl) ?_
  refine g_M_M_n (pc := 1) cx hP (by assumption) dd_M_quorum_1 ?_
  refine lv_aload_n (pc := 4) hx hb dd_M_quorum_4 rfl (lv_at hl 0 rfl) ?_
  refine g_M_M_n (pc := 5) cx hP (by assumption) dd_M_quorum_5 ?_
  refine lv_aload_n (pc := 8) hx hb dd_M_quorum_8 rfl (lv_at hl 0 rfl) ?_
  refine g_M_M_k (pc := 9) cx hP (by assumption) dd_M_quorum_9 ?_
  refine lv_isub (pc := 12) hx hb dd_M_quorum_12 ?_
  refine lv_iconst (pc := 13) (v := 2) hx hb dd_M_quorum_13 (by decide) ?_
  refine lv_idiv (pc := 14) hx hb dd_M_quorum_14 (by decide) ?_
  refine lv_isub (pc := 15) hx hb dd_M_quorum_15 ?_
  exact f_iret (pc := 16) cx hr hlocks hP hS (n_quo x hO) rfl dd_M_quorum_16
set_option maxHeartbeats 4000000 in
set_option maxRecDepth 100000 in
theorem ct_M_send (l : Launch) (x : fy) (S : fm) (hM : fM x) (b : Bool) (c s0 : Nat) (ph w : Int32) (hc : c < 5) (hl0 : mU S 16 0 18 < 256) : Met l mn_M_send (gw_ws mn_M_send cb_M_send 6 none) ({ frames := 0, cells := 0, slots := 0, locals := 0 } : Room) (fPc x (S) [.ref (xa x 16 0), .int (b2 b), .int (nI c), .int (nI s0), .int ph, .int w]) (fQv x (n_send S b c s0 ph w)) 0 0 (fun q => xs x ≤ q) := by
  refine f_met (by decide) (Nat.le_of_ble_eq_true rfl) ?_
  intro p e s m below meth c0 cx hr hlocks hnm hP hS ls hl
  have cx : fX rn_M cb_M_send 6 p c0 s m [.ref (xa x 16 0), .int (b2 b), .int (nI c), .int (nI s0), .int ph, .int w].toArray x := cx
  have hx := cx.1.1
  have hb := cx.1.2.1
  have hl : lv_has ls 6 [(0, .ref (xa x 16 0)), (1, .int (b2 b)), (2, .int (nI c)), (3, .int (nI s0)), (4, .int ph), (5, .int w)] := hl
  obtain ⟨w16, w23, w24, w25, w26, w27, w28, w29, w30, w31, w32, w33, w34, w35, w36, w37, w39, w40, w41, w42, w43, w44, w45, w46⟩ := hM
  refine lv_aload_n (pc := 0) hx hb dd_M_send_0 rfl (lv_at hl 0 rfl) ?_
  refine g_M_M_reply (pc := 1) cx hP (by assumption) dd_M_send_1 ?_
  refine lv_aload_n (pc := 4) hx hb dd_M_send_4 rfl (lv_at hl 0 rfl) ?_
  refine g_M_M_letters (pc := 5) cx hP (by assumption) dd_M_send_5 ?_
  refine lv_iload_n (pc := 8) hx hb dd_M_send_8 rfl (lv_at hl 1 rfl) ?_
  refine f_zast (pc := 9) cx hP hS (fv.at (by assumption) _) (fun _ => rfl) rfl rfl hl0 dd_M_send_9 (fun H locs hP hS => ?_)
  refine lv_aload_n (pc := 10) hx hb dd_M_send_10 rfl (lv_at hl 0 rfl) ?_
  refine g_M_M_client (pc := 11) cx hP (by assumption) dd_M_send_11 ?_
  refine lv_aload_n (pc := 14) hx hb dd_M_send_14 rfl (lv_at hl 0 rfl) ?_
  refine g_M_M_letters (pc := 15) cx hP (by assumption) dd_M_send_15 ?_
  refine lv_iload_n (pc := 18) hx hb dd_M_send_18 rfl (lv_at hl 2 rfl) ?_
  refine f_iast (pc := 19) cx hP hS (fv.at (by assumption) _) (fun _ => rfl) rfl hl0 dd_M_send_19 (fun H locs hP hS => ?_)
  refine lv_aload_n (pc := 20) hx hb dd_M_send_20 rfl (lv_at hl 0 rfl) ?_
  refine g_M_M_server (pc := 21) cx hP (by assumption) dd_M_send_21 ?_
  refine lv_aload_n (pc := 24) hx hb dd_M_send_24 rfl (lv_at hl 0 rfl) ?_
  refine g_M_M_letters (pc := 25) cx hP (by assumption) dd_M_send_25 ?_
  refine lv_iload_n (pc := 28) hx hb dd_M_send_28 rfl (lv_at hl 3 rfl) ?_
  refine f_iast (pc := 29) cx hP hS (fv.at (by assumption) _) (fun _ => rfl) rfl hl0 dd_M_send_29 (fun H locs hP hS => ?_)
  refine lv_aload_n (pc := 30) hx hb dd_M_send_30 rfl (lv_at hl 0 rfl) ?_
  refine g_M_M_kind (pc := 31) cx hP (by assumption) dd_M_send_31 ?_
  refine lv_aload_n (pc := 34) hx hb dd_M_send_34 rfl (lv_at hl 0 rfl) ?_
  refine g_M_M_letters (pc := 35) cx hP (by assumption) dd_M_send_35 ?_
  refine lv_iload (pc := 38) hx hb dd_M_send_38 (lv_at hl 4 rfl) ?_
  refine f_iast (pc := 40) cx hP hS (fv.at (by assumption) _) (fun _ => rfl) rfl hl0 dd_M_send_40 (fun H locs hP hS => ?_)
  refine lv_aload_n (pc := 41) hx hb dd_M_send_41 rfl (lv_at hl 0 rfl) ?_
  refine g_M_M_sent (pc := 42) cx hP (by assumption) dd_M_send_42 ?_
  refine lv_aload_n (pc := 45) hx hb dd_M_send_45 rfl (lv_at hl 0 rfl) ?_
  refine g_M_M_letters (pc := 46) cx hP (by assumption) dd_M_send_46 ?_
  refine lv_iload (pc := 49) hx hb dd_M_send_49 (lv_at hl 5 rfl) ?_
  refine f_iast (pc := 51) cx hP hS (fv.at (by assumption) _) (fun _ => rfl) rfl hl0 dd_M_send_51 (fun H locs hP hS => ?_)
  refine lv_aload_n (pc := 52) hx hb dd_M_send_52 rfl (lv_at hl 0 rfl) ?_
  refine g_M_M_full (pc := 53) cx hP (by assumption) dd_M_send_53 ?_
  refine lv_aload_n (pc := 56) hx hb dd_M_send_56 rfl (lv_at hl 0 rfl) ?_
  refine g_M_M_letters (pc := 57) cx hP (by assumption) dd_M_send_57 ?_
  refine lv_iconst (pc := 60) (v := 0) hx hb dd_M_send_60 (by decide) ?_
  refine f_zast (pc := 61) cx hP hS (fv.at (by assumption) _) (fun _ => rfl) (show (0 : Int32) = b2 false from rfl) rfl hl0 dd_M_send_61 (fun H locs hP hS => ?_)
  refine lv_aload_n (pc := 62) hx hb dd_M_send_62 rfl (lv_at hl 0 rfl) ?_
  refine g_M_M_what (pc := 63) cx hP (by assumption) dd_M_send_63 ?_
  refine lv_aload_n (pc := 66) hx hb dd_M_send_66 rfl (lv_at hl 0 rfl) ?_
  refine g_M_M_letters (pc := 67) cx hP (by assumption) dd_M_send_67 ?_
  refine lv_aload_n (pc := 70) hx hb dd_M_send_70 rfl (lv_at hl 0 rfl) ?_
  refine g_M_M_tags (pc := 71) cx hP (by assumption) dd_M_send_71 ?_
  refine lv_iload_n (pc := 74) hx hb dd_M_send_74 rfl (lv_at hl 2 rfl) ?_
  refine f_iald (pc := 75) cx hP (fv.at (by assumption) _) rfl rfl (by omega) dd_M_send_75 ?_
  refine f_iast (pc := 76) cx hP hS (fv.at (by assumption) _) (fun _ => rfl) rfl hl0 dd_M_send_76 (fun H locs hP hS => ?_)
  refine lv_aload_n (pc := 77) hx hb dd_M_send_77 rfl (lv_at hl 0 rfl) ?_
  refine g_M_M_load (pc := 78) cx hP (by assumption) dd_M_send_78 ?_
  refine lv_aload_n (pc := 81) hx hb dd_M_send_81 rfl (lv_at hl 0 rfl) ?_
  refine g_M_M_letters (pc := 82) cx hP (by assumption) dd_M_send_82 ?_
  refine lv_aload_n (pc := 85) hx hb dd_M_send_85 rfl (lv_at hl 0 rfl) ?_
  refine g_M_M_block (pc := 86) cx hP (by assumption) dd_M_send_86 ?_
  refine lv_iload_n (pc := 89) hx hb dd_M_send_89 rfl (lv_at hl 2 rfl) ?_
  refine f_lald (pc := 90) cx hP (fv.at (by assumption) _) rfl rfl (by omega) dd_M_send_90 ?_
  refine f_last (pc := 91) cx hP hS (fv.at (by assumption) _) (fun _ => rfl) rfl hl0 dd_M_send_91 (fun H locs hP hS => ?_)
  refine lv_aload_n (pc := 92) hx hb dd_M_send_92 rfl (lv_at hl 0 rfl) ?_
  refine lv_dup (pc := 93) hx hb dd_M_send_93 rfl ?_
  refine g_M_M_letters (pc := 94) cx hP (by assumption) dd_M_send_94 ?_
  refine lv_iconst (pc := 97) (v := 1) hx hb dd_M_send_97 (by decide) ?_
  refine lv_iadd (pc := 98) hx hb dd_M_send_98 ?_
  refine p_M_M_letters (pc := 99) cx hP hS (by assumption) (nI_1 _) dd_M_send_99 (fun H locs hP hS => ?_)
  exact f_vret (pc := 102) cx hr hlocks hP hS rfl dd_M_send_102
set_option maxHeartbeats 4000000 in
set_option maxRecDepth 100000 in
theorem ct_M_lose (l : Launch) (x : fy) (S : fm) (hM : fM x) (at_ : Nat) (ha : at_ < mL S) (hl0 : mL S ≤ 256) : Met l mn_M_lose (gw_ws mn_M_lose cb_M_lose 3 none) ({ frames := 0, cells := 0, slots := 0, locals := 0 } : Room) (fPc x (S) [.ref (xa x 16 0), .int (nI at_)]) (fQv x (n_lose S at_)) 0 0 (fun q => xs x ≤ q) := by
  refine f_met (by decide) (Nat.le_of_ble_eq_true rfl) ?_
  intro p e s m below meth c0 cx hr hlocks hnm hP hS ls hl
  have cx : fX rn_M cb_M_lose 3 p c0 s m [.ref (xa x 16 0), .int (nI at_)].toArray x := cx
  have hx := cx.1.1
  have hb := cx.1.2.1
  have hl : lv_has ls 3 [(0, .ref (xa x 16 0)), (1, .int (nI at_))] := hl
  obtain ⟨w16, w23, w24, w25, w26, w27, w28, w29, w30, w31, w32, w33, w34, w35, w36, w37, w39, w40, w41, w42, w43, w44, w45, w46⟩ := hM
  have loop : ∀ (n i : Nat) (H : Heap) (locs : List Loc), at_ ≤ i → i + n = mL S - 1 → fP x (n_shift (sU S 16 0 18 (mL S - 1)) at_ (i)) H → fS x s.heap H locs → ∀ ls : Array Slot, lv_has ls 3 [(2, .int (nI i)), (0, .ref (xa x 16 0)), (1, .int (nI at_))] → W p l e ({ frames := 0, cells := 0, slots := 0, locals := 0 } : Room) s m [.ref (xa x 16 0), .int (nI at_)].toArray below meth c0 H locs 0 0 (MQ below (fQv x (n_lose S at_)) [.ref (xa x 16 0), .int (nI at_)].toArray s 0 0 (fun q => xs x ≤ q)) (F0 m 12 ls []) := by
    intro n
    induction n with
    | zero =>
      intro i H locs hai hi hP hS ls hl
      have hi : i = mL S - 1 := by omega
      subst hi
      have hsz : nI (mU (n_shift (sU S 16 0 18 (mL S - 1)) at_ (mL S - 1)) 16 0 18) = nI (mL S - 1) := rfl
      refine lv_iload_n (pc := 12) hx hb dd_M_lose_12 rfl (lv_at hl 0 rfl) ?_
      refine lv_aload_n (pc := 13) hx hb dd_M_lose_13 rfl (lv_at hl 1 rfl) ?_
      refine g_M_M_letters (pc := 14) cx hP (by assumption) dd_M_lose_14 ?_
      refine f_topi hsz ?_
      refine lv_icmp_ge (pc := 17) (tgt := 138) hx hb dd_M_lose_17 (by decide) (fun h17 => ?_) (fun h17 => ?_)
      · -- 17: t to 138
        exact f_vret (pc := 138) cx hr hlocks hP hS rfl dd_M_lose_138
      · -- 17: f to 20
        exact absurd ((nI_leI (by omega) (by omega)).mpr (Nat.le_refl _)) h17
    | succ n ih =>
      intro i H locs hai hi hP hS ls hl
      have hsz : nI (mU (n_shift (sU S 16 0 18 (mL S - 1)) at_ (i)) 16 0 18) = nI (mL S - 1) := rfl
      have hi1 : i < 256 := by omega
      have hi2 : i + 1 < 256 := by omega
      refine lv_iload_n (pc := 12) hx hb dd_M_lose_12 rfl (lv_at hl 0 rfl) ?_
      refine lv_aload_n (pc := 13) hx hb dd_M_lose_13 rfl (lv_at hl 1 rfl) ?_
      refine g_M_M_letters (pc := 14) cx hP (by assumption) dd_M_lose_14 ?_
      refine f_topi hsz ?_
      refine lv_icmp_ge (pc := 17) (tgt := 138) hx hb dd_M_lose_17 (by decide) (fun h17 => ?_) (fun h17 => ?_)
      · -- 17: t to 138
        exact absurd ((nI_leI (by omega) (by omega)).mp h17) (by omega)
      · -- 17: f to 20
        refine lv_aload_n (pc := 20) hx hb dd_M_lose_20 rfl (lv_at hl 1 rfl) ?_
        refine g_M_M_reply (pc := 21) cx hP (by assumption) dd_M_lose_21 ?_
        refine lv_iload_n (pc := 24) hx hb dd_M_lose_24 rfl (lv_at hl 0 rfl) ?_
        refine lv_aload_n (pc := 25) hx hb dd_M_lose_25 rfl (lv_at hl 1 rfl) ?_
        refine g_M_M_reply (pc := 26) cx hP (by assumption) dd_M_lose_26 ?_
        refine lv_iload_n (pc := 29) hx hb dd_M_lose_29 rfl (lv_at hl 0 rfl) ?_
        refine lv_iconst (pc := 30) (v := 1) hx hb dd_M_lose_30 (by decide) ?_
        refine lv_iadd (pc := 31) hx hb dd_M_lose_31 ?_
        refine f_zald (pc := 32) cx hP (fv.at (by assumption) _) rfl (nI_1 i) hi2 dd_M_lose_32 ?_
        refine f_zast (pc := 33) cx hP hS (fv.at (by assumption) _) (fun _ => rfl) rfl rfl hi1 dd_M_lose_33 (fun H locs hP hS => ?_)
        refine lv_aload_n (pc := 34) hx hb dd_M_lose_34 rfl (lv_at hl 1 rfl) ?_
        refine g_M_M_full (pc := 35) cx hP (by assumption) dd_M_lose_35 ?_
        refine lv_iload_n (pc := 38) hx hb dd_M_lose_38 rfl (lv_at hl 0 rfl) ?_
        refine lv_aload_n (pc := 39) hx hb dd_M_lose_39 rfl (lv_at hl 1 rfl) ?_
        refine g_M_M_full (pc := 40) cx hP (by assumption) dd_M_lose_40 ?_
        refine lv_iload_n (pc := 43) hx hb dd_M_lose_43 rfl (lv_at hl 0 rfl) ?_
        refine lv_iconst (pc := 44) (v := 1) hx hb dd_M_lose_44 (by decide) ?_
        refine lv_iadd (pc := 45) hx hb dd_M_lose_45 ?_
        refine f_zald (pc := 46) cx hP (fv.at (by assumption) _) rfl (nI_1 i) hi2 dd_M_lose_46 ?_
        refine f_zast (pc := 47) cx hP hS (fv.at (by assumption) _) (fun _ => rfl) rfl rfl hi1 dd_M_lose_47 (fun H locs hP hS => ?_)
        refine lv_aload_n (pc := 48) hx hb dd_M_lose_48 rfl (lv_at hl 1 rfl) ?_
        refine g_M_M_client (pc := 49) cx hP (by assumption) dd_M_lose_49 ?_
        refine lv_iload_n (pc := 52) hx hb dd_M_lose_52 rfl (lv_at hl 0 rfl) ?_
        refine lv_aload_n (pc := 53) hx hb dd_M_lose_53 rfl (lv_at hl 1 rfl) ?_
        refine g_M_M_client (pc := 54) cx hP (by assumption) dd_M_lose_54 ?_
        refine lv_iload_n (pc := 57) hx hb dd_M_lose_57 rfl (lv_at hl 0 rfl) ?_
        refine lv_iconst (pc := 58) (v := 1) hx hb dd_M_lose_58 (by decide) ?_
        refine lv_iadd (pc := 59) hx hb dd_M_lose_59 ?_
        refine f_iald (pc := 60) cx hP (fv.at (by assumption) _) rfl (nI_1 i) hi2 dd_M_lose_60 ?_
        refine f_iast (pc := 61) cx hP hS (fv.at (by assumption) _) (fun _ => rfl) rfl hi1 dd_M_lose_61 (fun H locs hP hS => ?_)
        refine lv_aload_n (pc := 62) hx hb dd_M_lose_62 rfl (lv_at hl 1 rfl) ?_
        refine g_M_M_server (pc := 63) cx hP (by assumption) dd_M_lose_63 ?_
        refine lv_iload_n (pc := 66) hx hb dd_M_lose_66 rfl (lv_at hl 0 rfl) ?_
        refine lv_aload_n (pc := 67) hx hb dd_M_lose_67 rfl (lv_at hl 1 rfl) ?_
        refine g_M_M_server (pc := 68) cx hP (by assumption) dd_M_lose_68 ?_
        refine lv_iload_n (pc := 71) hx hb dd_M_lose_71 rfl (lv_at hl 0 rfl) ?_
        refine lv_iconst (pc := 72) (v := 1) hx hb dd_M_lose_72 (by decide) ?_
        refine lv_iadd (pc := 73) hx hb dd_M_lose_73 ?_
        refine f_iald (pc := 74) cx hP (fv.at (by assumption) _) rfl (nI_1 i) hi2 dd_M_lose_74 ?_
        refine f_iast (pc := 75) cx hP hS (fv.at (by assumption) _) (fun _ => rfl) rfl hi1 dd_M_lose_75 (fun H locs hP hS => ?_)
        refine lv_aload_n (pc := 76) hx hb dd_M_lose_76 rfl (lv_at hl 1 rfl) ?_
        refine g_M_M_sent (pc := 77) cx hP (by assumption) dd_M_lose_77 ?_
        refine lv_iload_n (pc := 80) hx hb dd_M_lose_80 rfl (lv_at hl 0 rfl) ?_
        refine lv_aload_n (pc := 81) hx hb dd_M_lose_81 rfl (lv_at hl 1 rfl) ?_
        refine g_M_M_sent (pc := 82) cx hP (by assumption) dd_M_lose_82 ?_
        refine lv_iload_n (pc := 85) hx hb dd_M_lose_85 rfl (lv_at hl 0 rfl) ?_
        refine lv_iconst (pc := 86) (v := 1) hx hb dd_M_lose_86 (by decide) ?_
        refine lv_iadd (pc := 87) hx hb dd_M_lose_87 ?_
        refine f_iald (pc := 88) cx hP (fv.at (by assumption) _) rfl (nI_1 i) hi2 dd_M_lose_88 ?_
        refine f_iast (pc := 89) cx hP hS (fv.at (by assumption) _) (fun _ => rfl) rfl hi1 dd_M_lose_89 (fun H locs hP hS => ?_)
        refine lv_aload_n (pc := 90) hx hb dd_M_lose_90 rfl (lv_at hl 1 rfl) ?_
        refine g_M_M_kind (pc := 91) cx hP (by assumption) dd_M_lose_91 ?_
        refine lv_iload_n (pc := 94) hx hb dd_M_lose_94 rfl (lv_at hl 0 rfl) ?_
        refine lv_aload_n (pc := 95) hx hb dd_M_lose_95 rfl (lv_at hl 1 rfl) ?_
        refine g_M_M_kind (pc := 96) cx hP (by assumption) dd_M_lose_96 ?_
        refine lv_iload_n (pc := 99) hx hb dd_M_lose_99 rfl (lv_at hl 0 rfl) ?_
        refine lv_iconst (pc := 100) (v := 1) hx hb dd_M_lose_100 (by decide) ?_
        refine lv_iadd (pc := 101) hx hb dd_M_lose_101 ?_
        refine f_iald (pc := 102) cx hP (fv.at (by assumption) _) rfl (nI_1 i) hi2 dd_M_lose_102 ?_
        refine f_iast (pc := 103) cx hP hS (fv.at (by assumption) _) (fun _ => rfl) rfl hi1 dd_M_lose_103 (fun H locs hP hS => ?_)
        refine lv_aload_n (pc := 104) hx hb dd_M_lose_104 rfl (lv_at hl 1 rfl) ?_
        refine g_M_M_what (pc := 105) cx hP (by assumption) dd_M_lose_105 ?_
        refine lv_iload_n (pc := 108) hx hb dd_M_lose_108 rfl (lv_at hl 0 rfl) ?_
        refine lv_aload_n (pc := 109) hx hb dd_M_lose_109 rfl (lv_at hl 1 rfl) ?_
        refine g_M_M_what (pc := 110) cx hP (by assumption) dd_M_lose_110 ?_
        refine lv_iload_n (pc := 113) hx hb dd_M_lose_113 rfl (lv_at hl 0 rfl) ?_
        refine lv_iconst (pc := 114) (v := 1) hx hb dd_M_lose_114 (by decide) ?_
        refine lv_iadd (pc := 115) hx hb dd_M_lose_115 ?_
        refine f_iald (pc := 116) cx hP (fv.at (by assumption) _) rfl (nI_1 i) hi2 dd_M_lose_116 ?_
        refine f_iast (pc := 117) cx hP hS (fv.at (by assumption) _) (fun _ => rfl) rfl hi1 dd_M_lose_117 (fun H locs hP hS => ?_)
        refine lv_aload_n (pc := 118) hx hb dd_M_lose_118 rfl (lv_at hl 1 rfl) ?_
        refine g_M_M_load (pc := 119) cx hP (by assumption) dd_M_lose_119 ?_
        refine lv_iload_n (pc := 122) hx hb dd_M_lose_122 rfl (lv_at hl 0 rfl) ?_
        refine lv_aload_n (pc := 123) hx hb dd_M_lose_123 rfl (lv_at hl 1 rfl) ?_
        refine g_M_M_load (pc := 124) cx hP (by assumption) dd_M_lose_124 ?_
        refine lv_iload_n (pc := 127) hx hb dd_M_lose_127 rfl (lv_at hl 0 rfl) ?_
        refine lv_iconst (pc := 128) (v := 1) hx hb dd_M_lose_128 (by decide) ?_
        refine lv_iadd (pc := 129) hx hb dd_M_lose_129 ?_
        refine f_lald (pc := 130) cx hP (fv.at (by assumption) _) rfl (nI_1 i) hi2 dd_M_lose_130 ?_
        refine f_last (pc := 131) cx hP hS (fv.at (by assumption) _) (fun _ => rfl) rfl hi1 dd_M_lose_131 (fun H locs hP hS => ?_)
        have hP := f_eqS (T' := n_shift (sU S 16 0 18 (mL S - 1)) at_ (i + 1)) hP (n_shift_step (sU S 16 0 18 (mL S - 1)) at_ i hai _ rfl)
        refine lv_iinc (pc := 132) (k := 0) (lv' := [(2, _), (0, _), (1, _)]) hx hb dd_M_lose_132 hl rfl (f_inc1 i) (Nat.le_of_ble_eq_true rfl) rfl (fun ls hl => ?_)
        refine lv_goto (pc := 135) (tgt := 12) hx hb dd_M_lose_135 (by decide) ?_
        exact ih (i + 1) _ _ (by omega) (by omega) hP hS ls (lv_sub hl [0, 1, 2] rfl)
  refine lv_aload_n (pc := 0) hx hb dd_M_lose_0 rfl (lv_at hl 0 rfl) ?_
  refine lv_dup (pc := 1) hx hb dd_M_lose_1 rfl ?_
  refine g_M_M_letters (pc := 2) cx hP (by assumption) dd_M_lose_2 ?_
  refine lv_iconst (pc := 5) (v := 1) hx hb dd_M_lose_5 (by decide) ?_
  refine lv_isub (pc := 6) hx hb dd_M_lose_6 ?_
  refine p_M_M_letters (pc := 7) cx hP hS (by assumption) (f_pred (show 0 < mL S by omega)) dd_M_lose_7 (fun H locs hP hS => ?_)
  refine lv_iload_n (pc := 10) hx hb dd_M_lose_10 rfl (lv_at hl 1 rfl) ?_
  refine lv_istore_n (pc := 11) (lv' := [(2, _), (0, _), (1, _)]) hx hb dd_M_lose_11 rfl hl (Nat.le_of_ble_eq_true rfl) rfl (fun ls hl => ?_)
  have hP := f_eqS (T' := n_shift (sU S 16 0 18 (mL S - 1)) at_ (at_)) hP (by rw [n_shift_0]; rfl)
  exact loop (mL S - 1 - at_) at_ _ _ (Nat.le_refl _) (by omega) hP hS ls (lv_sub hl [0, 1, 2] rfl)
set_option maxHeartbeats 4000000 in
set_option maxRecDepth 100000 in
theorem ct_M_count (l : Launch) (x : fy) (S : fm) (hM : fM x) (b : Bool) (c s0 : Nat) (hl0 : mU S 16 0 18 ≤ 256) : Met l mn_M_count (gw_ws mn_M_count cb_M_count 6 (some .int)) ({ frames := 0, cells := 0, slots := 0, locals := 0 } : Room) (fPc x (S) [.ref (xa x 16 0), .int (b2 b), .int (nI c), .int (nI s0)]) (fQi x (S) (nI (n_cnt S b c s0 (mL S)))) 0 0 (fun q => xs x ≤ q) := by
  refine f_met (by decide) (Nat.le_of_ble_eq_true rfl) ?_
  intro p e s m below meth c0 cx hr hlocks hnm hP hS ls hl
  have cx : fX rn_M cb_M_count 6 p c0 s m [.ref (xa x 16 0), .int (b2 b), .int (nI c), .int (nI s0)].toArray x := cx
  have hx := cx.1.1
  have hb := cx.1.2.1
  have hl : lv_has ls 6 [(0, .ref (xa x 16 0)), (1, .int (b2 b)), (2, .int (nI c)), (3, .int (nI s0))] := hl
  obtain ⟨w16, w23, w24, w25, w26, w27, w28, w29, w30, w31, w32, w33, w34, w35, w36, w37, w39, w40, w41, w42, w43, w44, w45, w46⟩ := hM
  have loop : ∀ (n i : Nat), i + n = mU S 16 0 18 → ∀ ls : Array Slot, lv_has ls 6 [(5, .int (nI i)), (4, .int (nI (n_cnt S b c s0 i))), (0, .ref (xa x 16 0)), (1, .int (b2 b)), (2, .int (nI c)), (3, .int (nI s0))] → W p l e ({ frames := 0, cells := 0, slots := 0, locals := 0 } : Room) s m [.ref (xa x 16 0), .int (b2 b), .int (nI c), .int (nI s0)].toArray below meth c0 s.heap [] 0 0 (MQ below (fQi x (S) (nI (n_cnt S b c s0 (mL S)))) [.ref (xa x 16 0), .int (b2 b), .int (nI c), .int (nI s0)].toArray s 0 0 (fun q => xs x ≤ q)) (F0 m 6 ls []) := by
    intro n
    induction n with
    | zero =>
      intro i hi ls hl
      have hi : i = mU S 16 0 18 := by omega
      subst hi
      refine lv_iload (pc := 6) hx hb dd_M_count_6 (lv_at hl 0 rfl) ?_
      refine lv_aload_n (pc := 8) hx hb dd_M_count_8 rfl (lv_at hl 2 rfl) ?_
      refine g_M_M_letters (pc := 9) cx hP (by assumption) dd_M_count_9 ?_
      refine lv_icmp_ge (pc := 12) (tgt := 57) hx hb dd_M_count_12 (by decide) (fun h12 => ?_) (fun h12 => ?_)
      · -- 12: t to 57
        refine lv_iload (pc := 57) hx hb dd_M_count_57 (lv_at hl 1 rfl) ?_
        exact f_iret (pc := 59) cx hr hlocks hP hS rfl rfl dd_M_count_59
      · -- 12: f to 15
        exact absurd ((nI_leI (by omega) (by omega)).mpr (Nat.le_refl _)) h12
    | succ n ih =>
      intro i hi ls hl
      refine lv_iload (pc := 6) hx hb dd_M_count_6 (lv_at hl 0 rfl) ?_
      refine lv_aload_n (pc := 8) hx hb dd_M_count_8 rfl (lv_at hl 2 rfl) ?_
      refine g_M_M_letters (pc := 9) cx hP (by assumption) dd_M_count_9 ?_
      refine lv_icmp_ge (pc := 12) (tgt := 57) hx hb dd_M_count_12 (by decide) (fun h12 => ?_) (fun h12 => ?_)
      · -- 12: t to 57
        exact absurd ((nI_leI (by omega) (by omega)).mp h12) (by omega)
      · -- 12: f to 15
        refine lv_aload_n (pc := 15) hx hb dd_M_count_15 rfl (lv_at hl 2 rfl) ?_
        refine g_M_M_reply (pc := 16) cx hP (by assumption) dd_M_count_16 ?_
        refine lv_iload (pc := 19) hx hb dd_M_count_19 (lv_at hl 0 rfl) ?_
        refine f_zald (pc := 21) cx hP (fv.at (by assumption) _) rfl rfl (by omega) dd_M_count_21 ?_
        refine lv_iload_n (pc := 22) hx hb dd_M_count_22 rfl (lv_at hl 3 rfl) ?_
        refine lv_icmp_ne (pc := 23) (tgt := 51) hx hb dd_M_count_23 (by decide) (fun h23 => ?_) (fun h23 => ?_)
        · -- 23: t to 51
          have hm : n_match S b c s0 i = false := n_match_f (Or.inl (fun q => h23 (by rw [q])))
          refine lv_iinc (pc := 51) (k := 0) (lv' := [(5, _), (4, _), (0, _), (1, _), (2, _), (3, _)]) hx hb dd_M_count_51 hl rfl (f_inc1 i) (Nat.le_of_ble_eq_true rfl) rfl (fun ls hl => ?_)
          refine lv_goto (pc := 54) (tgt := 6) hx hb dd_M_count_54 (by decide) ?_
          exact ih (i + 1) (by omega) ls (by first | (rw [n_cnt_f hm]; exact (lv_sub hl [0, 1, 2, 3, 4, 5] rfl)) | (rw [n_cnt_t hm]; exact (lv_sub hl [0, 1, 2, 3, 4, 5] rfl)))
        · -- 23: f to 26
          refine lv_aload_n (pc := 26) hx hb dd_M_count_26 rfl (lv_at hl 2 rfl) ?_
          refine g_M_M_client (pc := 27) cx hP (by assumption) dd_M_count_27 ?_
          refine lv_iload (pc := 30) hx hb dd_M_count_30 (lv_at hl 0 rfl) ?_
          refine f_iald (pc := 32) cx hP (fv.at (by assumption) _) rfl rfl (by omega) dd_M_count_32 ?_
          refine lv_iload_n (pc := 33) hx hb dd_M_count_33 rfl (lv_at hl 4 rfl) ?_
          refine lv_icmp_ne (pc := 34) (tgt := 51) hx hb dd_M_count_34 (by decide) (fun h34 => ?_) (fun h34 => ?_)
          · -- 34: t to 51
            have hm : n_match S b c s0 i = false := n_match_f (Or.inr (Or.inl h34))
            refine lv_iinc (pc := 51) (k := 0) (lv' := [(5, _), (4, _), (0, _), (1, _), (2, _), (3, _)]) hx hb dd_M_count_51 hl rfl (f_inc1 i) (Nat.le_of_ble_eq_true rfl) rfl (fun ls hl => ?_)
            refine lv_goto (pc := 54) (tgt := 6) hx hb dd_M_count_54 (by decide) ?_
            exact ih (i + 1) (by omega) ls (by first | (rw [n_cnt_f hm]; exact (lv_sub hl [0, 1, 2, 3, 4, 5] rfl)) | (rw [n_cnt_t hm]; exact (lv_sub hl [0, 1, 2, 3, 4, 5] rfl)))
          · -- 34: f to 37
            refine lv_aload_n (pc := 37) hx hb dd_M_count_37 rfl (lv_at hl 2 rfl) ?_
            refine g_M_M_server (pc := 38) cx hP (by assumption) dd_M_count_38 ?_
            refine lv_iload (pc := 41) hx hb dd_M_count_41 (lv_at hl 0 rfl) ?_
            refine f_iald (pc := 43) cx hP (fv.at (by assumption) _) rfl rfl (by omega) dd_M_count_43 ?_
            refine lv_iload_n (pc := 44) hx hb dd_M_count_44 rfl (lv_at hl 5 rfl) ?_
            refine lv_icmp_ne (pc := 45) (tgt := 51) hx hb dd_M_count_45 (by decide) (fun h45 => ?_) (fun h45 => ?_)
            · -- 45: t to 51
              have hm : n_match S b c s0 i = false := n_match_f (Or.inr (Or.inr h45))
              refine lv_iinc (pc := 51) (k := 0) (lv' := [(5, _), (4, _), (0, _), (1, _), (2, _), (3, _)]) hx hb dd_M_count_51 hl rfl (f_inc1 i) (Nat.le_of_ble_eq_true rfl) rfl (fun ls hl => ?_)
              refine lv_goto (pc := 54) (tgt := 6) hx hb dd_M_count_54 (by decide) ?_
              exact ih (i + 1) (by omega) ls (by first | (rw [n_cnt_f hm]; exact (lv_sub hl [0, 1, 2, 3, 4, 5] rfl)) | (rw [n_cnt_t hm]; exact (lv_sub hl [0, 1, 2, 3, 4, 5] rfl)))
            · -- 45: f to 48
              have hm : n_match S b c s0 i = true := n_match_t (b2_inj.mp h23) h34 h45
              refine lv_iinc (pc := 48) (k := 1) (lv' := [(4, _), (5, _), (0, _), (1, _), (2, _), (3, _)]) hx hb dd_M_count_48 hl rfl (f_inc1 _) (Nat.le_of_ble_eq_true rfl) rfl (fun ls hl => ?_)
              refine lv_iinc (pc := 51) (k := 1) (lv' := [(5, _), (4, _), (0, _), (1, _), (2, _), (3, _)]) hx hb dd_M_count_51 hl rfl (f_inc1 i) (Nat.le_of_ble_eq_true rfl) rfl (fun ls hl => ?_)
              refine lv_goto (pc := 54) (tgt := 6) hx hb dd_M_count_54 (by decide) ?_
              exact ih (i + 1) (by omega) ls (by first | (rw [n_cnt_f hm]; exact (lv_sub hl [0, 1, 2, 3, 4, 5] rfl)) | (rw [n_cnt_t hm]; exact (lv_sub hl [0, 1, 2, 3, 4, 5] rfl)))
  refine lv_iconst (pc := 0) (v := nI 0) hx hb dd_M_count_0 (by decide) ?_
  refine lv_istore (pc := 1) (lv' := [(4, _), (0, _), (1, _), (2, _), (3, _)]) hx hb dd_M_count_1 hl (Nat.le_of_ble_eq_true rfl) rfl (fun ls hl => ?_)
  refine lv_iconst (pc := 3) (v := nI 0) hx hb dd_M_count_3 (by decide) ?_
  refine lv_istore (pc := 4) (lv' := [(5, _), (4, _), (0, _), (1, _), (2, _), (3, _)]) hx hb dd_M_count_4 hl (Nat.le_of_ble_eq_true rfl) rfl (fun ls hl => ?_)
  exact loop (mU S 16 0 18) 0 (by omega) ls (lv_sub hl [0, 1, 2, 3, 4, 5] rfl)
set_option maxHeartbeats 4000000 in
set_option maxRecDepth 100000 in
theorem ct_M_seek (l : Launch) (x : fy) (S : fm) (hM : fM x) (b : Bool) (c s0 : Nat) (j : Int32) (hl0 : mU S 16 0 18 ≤ 256) : Met l mn_M_seek (gw_ws mn_M_seek cb_M_seek 7 (some .int)) ({ frames := 0, cells := 0, slots := 0, locals := 0 } : Room) (fPc x (S) [.ref (xa x 16 0), .int (b2 b), .int (nI c), .int (nI s0), .int j]) (fQi x (S) (oI (n_seek S b c s0 j))) 0 0 (fun q => xs x ≤ q) := by
  refine f_met (by decide) (Nat.le_of_ble_eq_true rfl) ?_
  intro p e s m below meth c0 cx hr hlocks hnm hP hS ls hl
  have cx : fX rn_M cb_M_seek 7 p c0 s m [.ref (xa x 16 0), .int (b2 b), .int (nI c), .int (nI s0), .int j].toArray x := cx
  have hx := cx.1.1
  have hb := cx.1.2.1
  have hl : lv_has ls 7 [(0, .ref (xa x 16 0)), (1, .int (b2 b)), (2, .int (nI c)), (3, .int (nI s0)), (4, .int j)] := hl
  obtain ⟨w16, w23, w24, w25, w26, w27, w28, w29, w30, w31, w32, w33, w34, w35, w36, w37, w39, w40, w41, w42, w43, w44, w45, w46⟩ := hM
  have loop : ∀ (n i : Nat), i + n = mU S 16 0 18 → (∀ k, k < i → (n_match S b c s0 k && decide (nI (n_cnt S b c s0 k) = j)) = false) → ∀ ls : Array Slot, lv_has ls 7 [(6, .int (nI i)), (5, .int (nI (n_cnt S b c s0 i))), (0, .ref (xa x 16 0)), (1, .int (b2 b)), (2, .int (nI c)), (3, .int (nI s0)), (4, .int j)] → W p l e ({ frames := 0, cells := 0, slots := 0, locals := 0 } : Room) s m [.ref (xa x 16 0), .int (b2 b), .int (nI c), .int (nI s0), .int j].toArray below meth c0 s.heap [] 0 0 (MQ below (fQi x (S) (oI (n_seek S b c s0 j))) [.ref (xa x 16 0), .int (b2 b), .int (nI c), .int (nI s0), .int j].toArray s 0 0 (fun q => xs x ≤ q)) (F0 m 6 ls []) := by
    intro n
    induction n with
    | zero =>
      intro i hi hk ls hl
      have hi : i = mU S 16 0 18 := by omega
      subst hi
      refine lv_iload (pc := 6) hx hb dd_M_seek_6 (lv_at hl 0 rfl) ?_
      refine lv_aload_n (pc := 8) hx hb dd_M_seek_8 rfl (lv_at hl 2 rfl) ?_
      refine g_M_M_letters (pc := 9) cx hP (by assumption) dd_M_seek_9 ?_
      refine lv_icmp_ge (pc := 12) (tgt := 67) hx hb dd_M_seek_12 (by decide) (fun h12 => ?_) (fun h12 => ?_)
      · -- 12: t to 67
        refine lv_iconst (pc := 67) (v := (-1)) hx hb dd_M_seek_67 (by decide) ?_
        exact f_iret (pc := 68) cx hr hlocks hP hS (by unfold n_seek; rw [fr_none (n := mL S) hk]; rfl) rfl dd_M_seek_68
      · -- 12: f to 15
        exact absurd ((nI_leI (by omega) (by omega)).mpr (Nat.le_refl _)) h12
    | succ n ih =>
      intro i hi hk ls hl
      refine lv_iload (pc := 6) hx hb dd_M_seek_6 (lv_at hl 0 rfl) ?_
      refine lv_aload_n (pc := 8) hx hb dd_M_seek_8 rfl (lv_at hl 2 rfl) ?_
      refine g_M_M_letters (pc := 9) cx hP (by assumption) dd_M_seek_9 ?_
      refine lv_icmp_ge (pc := 12) (tgt := 67) hx hb dd_M_seek_12 (by decide) (fun h12 => ?_) (fun h12 => ?_)
      · -- 12: t to 67
        exact absurd ((nI_leI (by omega) (by omega)).mp h12) (by omega)
      · -- 12: f to 15
        refine lv_aload_n (pc := 15) hx hb dd_M_seek_15 rfl (lv_at hl 2 rfl) ?_
        refine g_M_M_reply (pc := 16) cx hP (by assumption) dd_M_seek_16 ?_
        refine lv_iload (pc := 19) hx hb dd_M_seek_19 (lv_at hl 0 rfl) ?_
        refine f_zald (pc := 21) cx hP (fv.at (by assumption) _) rfl rfl (by omega) dd_M_seek_21 ?_
        refine lv_iload_n (pc := 22) hx hb dd_M_seek_22 rfl (lv_at hl 3 rfl) ?_
        refine lv_icmp_ne (pc := 23) (tgt := 61) hx hb dd_M_seek_23 (by decide) (fun h23 => ?_) (fun h23 => ?_)
        · -- 23: t to 61
          have hm : n_match S b c s0 i = false := n_match_f (Or.inl (fun q => h23 (by rw [q])))
          have hp : (n_match S b c s0 i && decide (nI (n_cnt S b c s0 i) = j)) = false := by rw [hm]; rfl
          refine lv_iinc (pc := 61) (k := 0) (lv' := [(6, _), (5, _), (0, _), (1, _), (2, _), (3, _), (4, _)]) hx hb dd_M_seek_61 hl rfl (f_inc1 i) (Nat.le_of_ble_eq_true rfl) rfl (fun ls hl => ?_)
          refine lv_goto (pc := 64) (tgt := 6) hx hb dd_M_seek_64 (by decide) ?_
          exact ih (i + 1) (by omega) (lt_s hk hp) ls (by first | (rw [n_cnt_f hm]; exact (lv_sub hl [0, 1, 2, 3, 4, 5, 6] rfl)) | (rw [n_cnt_t hm]; exact (lv_sub hl [0, 1, 2, 3, 4, 5, 6] rfl)))
        · -- 23: f to 26
          refine lv_aload_n (pc := 26) hx hb dd_M_seek_26 rfl (lv_at hl 2 rfl) ?_
          refine g_M_M_client (pc := 27) cx hP (by assumption) dd_M_seek_27 ?_
          refine lv_iload (pc := 30) hx hb dd_M_seek_30 (lv_at hl 0 rfl) ?_
          refine f_iald (pc := 32) cx hP (fv.at (by assumption) _) rfl rfl (by omega) dd_M_seek_32 ?_
          refine lv_iload_n (pc := 33) hx hb dd_M_seek_33 rfl (lv_at hl 4 rfl) ?_
          refine lv_icmp_ne (pc := 34) (tgt := 61) hx hb dd_M_seek_34 (by decide) (fun h34 => ?_) (fun h34 => ?_)
          · -- 34: t to 61
            have hm : n_match S b c s0 i = false := n_match_f (Or.inr (Or.inl h34))
            have hp : (n_match S b c s0 i && decide (nI (n_cnt S b c s0 i) = j)) = false := by rw [hm]; rfl
            refine lv_iinc (pc := 61) (k := 0) (lv' := [(6, _), (5, _), (0, _), (1, _), (2, _), (3, _), (4, _)]) hx hb dd_M_seek_61 hl rfl (f_inc1 i) (Nat.le_of_ble_eq_true rfl) rfl (fun ls hl => ?_)
            refine lv_goto (pc := 64) (tgt := 6) hx hb dd_M_seek_64 (by decide) ?_
            exact ih (i + 1) (by omega) (lt_s hk hp) ls (by first | (rw [n_cnt_f hm]; exact (lv_sub hl [0, 1, 2, 3, 4, 5, 6] rfl)) | (rw [n_cnt_t hm]; exact (lv_sub hl [0, 1, 2, 3, 4, 5, 6] rfl)))
          · -- 34: f to 37
            refine lv_aload_n (pc := 37) hx hb dd_M_seek_37 rfl (lv_at hl 2 rfl) ?_
            refine g_M_M_server (pc := 38) cx hP (by assumption) dd_M_seek_38 ?_
            refine lv_iload (pc := 41) hx hb dd_M_seek_41 (lv_at hl 0 rfl) ?_
            refine f_iald (pc := 43) cx hP (fv.at (by assumption) _) rfl rfl (by omega) dd_M_seek_43 ?_
            refine lv_iload_n (pc := 44) hx hb dd_M_seek_44 rfl (lv_at hl 5 rfl) ?_
            refine lv_icmp_ne (pc := 45) (tgt := 61) hx hb dd_M_seek_45 (by decide) (fun h45 => ?_) (fun h45 => ?_)
            · -- 45: t to 61
              have hm : n_match S b c s0 i = false := n_match_f (Or.inr (Or.inr h45))
              have hp : (n_match S b c s0 i && decide (nI (n_cnt S b c s0 i) = j)) = false := by rw [hm]; rfl
              refine lv_iinc (pc := 61) (k := 0) (lv' := [(6, _), (5, _), (0, _), (1, _), (2, _), (3, _), (4, _)]) hx hb dd_M_seek_61 hl rfl (f_inc1 i) (Nat.le_of_ble_eq_true rfl) rfl (fun ls hl => ?_)
              refine lv_goto (pc := 64) (tgt := 6) hx hb dd_M_seek_64 (by decide) ?_
              exact ih (i + 1) (by omega) (lt_s hk hp) ls (by first | (rw [n_cnt_f hm]; exact (lv_sub hl [0, 1, 2, 3, 4, 5, 6] rfl)) | (rw [n_cnt_t hm]; exact (lv_sub hl [0, 1, 2, 3, 4, 5, 6] rfl)))
            · -- 45: f to 48
              have hm : n_match S b c s0 i = true := n_match_t (b2_inj.mp h23) h34 h45
              refine lv_iload (pc := 48) hx hb dd_M_seek_48 (lv_at hl 1 rfl) ?_
              refine lv_iload (pc := 50) hx hb dd_M_seek_50 (lv_at hl 6 rfl) ?_
              refine lv_icmp_ne (pc := 52) (tgt := 58) hx hb dd_M_seek_52 (by decide) (fun h52 => ?_) (fun h52 => ?_)
              · -- 52: t to 58
                have hp : (n_match S b c s0 i && decide (nI (n_cnt S b c s0 i) = j)) = false := by rw [decide_eq_false h52, Bool.and_false]
                refine lv_iinc (pc := 58) (k := 1) (lv' := [(5, _), (6, _), (0, _), (1, _), (2, _), (3, _), (4, _)]) hx hb dd_M_seek_58 hl rfl (f_inc1 _) (Nat.le_of_ble_eq_true rfl) rfl (fun ls hl => ?_)
                refine lv_iinc (pc := 61) (k := 1) (lv' := [(6, _), (5, _), (0, _), (1, _), (2, _), (3, _), (4, _)]) hx hb dd_M_seek_61 hl rfl (f_inc1 i) (Nat.le_of_ble_eq_true rfl) rfl (fun ls hl => ?_)
                refine lv_goto (pc := 64) (tgt := 6) hx hb dd_M_seek_64 (by decide) ?_
                exact ih (i + 1) (by omega) (lt_s hk hp) ls (by first | (rw [n_cnt_f hm]; exact (lv_sub hl [0, 1, 2, 3, 4, 5, 6] rfl)) | (rw [n_cnt_t hm]; exact (lv_sub hl [0, 1, 2, 3, 4, 5, 6] rfl)))
              · -- 52: f to 55
                have hp : (n_match S b c s0 i && decide (nI (n_cnt S b c s0 i) = j)) = true := by rw [hm, decide_eq_true h52]; rfl
                refine lv_iload (pc := 55) hx hb dd_M_seek_55 (lv_at hl 0 rfl) ?_
                exact f_iret (pc := 57) cx hr hlocks hP hS (by unfold n_seek; rw [fr_some (n := mL S) (show i < mU S 16 0 18 by omega) hp hk]; rfl) rfl dd_M_seek_57
  refine lv_iconst (pc := 0) (v := nI 0) hx hb dd_M_seek_0 (by decide) ?_
  refine lv_istore (pc := 1) (lv' := [(5, _), (0, _), (1, _), (2, _), (3, _), (4, _)]) hx hb dd_M_seek_1 hl (Nat.le_of_ble_eq_true rfl) rfl (fun ls hl => ?_)
  refine lv_iconst (pc := 3) (v := nI 0) hx hb dd_M_seek_3 (by decide) ?_
  refine lv_istore (pc := 4) (lv' := [(6, _), (5, _), (0, _), (1, _), (2, _), (3, _), (4, _)]) hx hb dd_M_seek_4 hl (Nat.le_of_ble_eq_true rfl) rfl (fun ls hl => ?_)
  exact loop (mU S 16 0 18) 0 (by omega) lt_0 ls (lv_sub hl [0, 1, 2, 3, 4, 5, 6] rfl)
set_option maxHeartbeats 4000000 in
set_option maxRecDepth 100000 in
theorem ct_M_requests_no (l : Launch) (x : fy) (S : fm) (hM : fM x) (z y : Int32) (hz : q_cl z = false ∨ q_sv x y = false) : Met l mn_M_requests (gw_ws mn_M_requests cb_M_requests 3 (some .int)) ({ frames := 1, cells := 0, slots := 0, locals := 25 } : Room) (fPc x (S) [.ref (xa x 16 0), .int z, .int y]) (fQi x (S) (-1)) 0 0 (fun q => xs x ≤ q) := by
  refine f_met (by decide) (Nat.le_of_ble_eq_true rfl) ?_
  intro p e s m below meth c0 cx hr hlocks hnm hP hS ls hl
  have cx : fX rn_M cb_M_requests 3 p c0 s m [.ref (xa x 16 0), .int z, .int y].toArray x := cx
  have hx := cx.1.1
  have hb := cx.1.2.1
  have hl : lv_has ls 3 [(0, .ref (xa x 16 0)), (1, .int z), (2, .int y)] := hl
  obtain ⟨w16, w23, w24, w25, w26, w27, w28, w29, w30, w31, w32, w33, w34, w35, w36, w37, w39, w40, w41, w42, w43, w44, w45, w46⟩ := hM
  refine lv_aload_n (pc := 0) hx hb dd_M_requests_0 rfl (lv_at hl 0 rfl) ?_
  refine lv_iload_n (pc := 1) hx hb dd_M_requests_1 rfl (lv_at hl 1 rfl) ?_
  refine k_M_M_noClient (pc := 2) cx hl hP hS (by assumption) (ct_M_noClient l x _ ⟨w16, w23, w24, w25, w26, w27, w28, w29, w30, w31, w32, w33, w34, w35, w36, w37, w39, w40, w41, w42, w43, w44, w45, w46⟩ z) ⟨⟨rfl, rfl⟩, ⟨(Nat.le_of_ble_eq_true rfl), (Nat.le_of_ble_eq_true rfl)⟩, (Nat.le_of_ble_eq_true rfl), (Nat.le_of_ble_eq_true rfl)⟩ (Nat.le_of_ble_eq_true rfl) dd_M_requests_2 (fun H locs hP hS => ?_)
  refine f_neB (pc := 5) (tgt := 16) cx dd_M_requests_5 (by decide) (fun h5 => ?_) (fun h5 => ?_)
  · -- 5: t to 16
    refine lv_iconst (pc := 16) (v := (-1)) hx hb dd_M_requests_16 (by decide) ?_
    refine lv_goto (pc := 17) (tgt := 27) hx hb dd_M_requests_17 (by decide) ?_
    exact f_iret (pc := 27) cx hr hlocks hP hS rfl rfl dd_M_requests_27
  · -- 5: f to 8
    refine lv_aload_n (pc := 8) hx hb dd_M_requests_8 rfl (lv_at hl 0 rfl) ?_
    refine lv_iload_n (pc := 9) hx hb dd_M_requests_9 rfl (lv_at hl 2 rfl) ?_
    refine k_M_M_noServer (pc := 10) cx hl hP hS (by assumption) (ct_M_noServer l x _ ⟨w16, w23, w24, w25, w26, w27, w28, w29, w30, w31, w32, w33, w34, w35, w36, w37, w39, w40, w41, w42, w43, w44, w45, w46⟩ y) ⟨⟨rfl, rfl⟩, ⟨(Nat.le_of_ble_eq_true rfl), (Nat.le_of_ble_eq_true rfl)⟩, (Nat.le_of_ble_eq_true rfl), (Nat.le_of_ble_eq_true rfl)⟩ (Nat.le_of_ble_eq_true rfl) dd_M_requests_10 (fun H locs hP hS => ?_)
    refine f_eqB (pc := 13) (tgt := 20) cx dd_M_requests_13 (by decide) (fun h13 => ?_) (fun h13 => ?_)
    · -- 13: t to 20
      exact hz.elim (fun q => absurd ((congrArg not q).symm.trans h5) (by decide)) (fun q => absurd ((congrArg not q).symm.trans h13) (by decide))
    · -- 13: f to 16
      refine lv_iconst (pc := 16) (v := (-1)) hx hb dd_M_requests_16 (by decide) ?_
      refine lv_goto (pc := 17) (tgt := 27) hx hb dd_M_requests_17 (by decide) ?_
      exact f_iret (pc := 27) cx hr hlocks hP hS rfl rfl dd_M_requests_27
set_option maxHeartbeats 4000000 in
set_option maxRecDepth 100000 in
theorem ct_M_requests (l : Launch) (x : fy) (S : fm) (hM : fM x) (c s0 : Nat) (hc : c < 5) (hs : s0 < xN x) (hO : fO x) (hl0 : mU S 16 0 18 ≤ 256) : Met l mn_M_requests (gw_ws mn_M_requests cb_M_requests 3 (some .int)) ({ frames := 1, cells := 0, slots := 0, locals := 25 } : Room) (fPc x (S) [.ref (xa x 16 0), .int (nI c), .int (nI s0)]) (fQi x (S) (nI (n_cnt S false c s0 (mL S)))) 0 0 (fun q => xs x ≤ q) := by
  refine f_met (by decide) (Nat.le_of_ble_eq_true rfl) ?_
  intro p e s m below meth c0 cx hr hlocks hnm hP hS ls hl
  have cx : fX rn_M cb_M_requests 3 p c0 s m [.ref (xa x 16 0), .int (nI c), .int (nI s0)].toArray x := cx
  have hx := cx.1.1
  have hb := cx.1.2.1
  have hl : lv_has ls 3 [(0, .ref (xa x 16 0)), (1, .int (nI c)), (2, .int (nI s0))] := hl
  obtain ⟨w16, w23, w24, w25, w26, w27, w28, w29, w30, w31, w32, w33, w34, w35, w36, w37, w39, w40, w41, w42, w43, w44, w45, w46⟩ := hM
  refine lv_aload_n (pc := 0) hx hb dd_M_requests_0 rfl (lv_at hl 0 rfl) ?_
  refine lv_iload_n (pc := 1) hx hb dd_M_requests_1 rfl (lv_at hl 1 rfl) ?_
  refine k_M_M_noClient (pc := 2) cx hl hP hS (by assumption) (ct_M_noClient l x _ ⟨w16, w23, w24, w25, w26, w27, w28, w29, w30, w31, w32, w33, w34, w35, w36, w37, w39, w40, w41, w42, w43, w44, w45, w46⟩ (nI c)) ⟨⟨rfl, rfl⟩, ⟨(Nat.le_of_ble_eq_true rfl), (Nat.le_of_ble_eq_true rfl)⟩, (Nat.le_of_ble_eq_true rfl), (Nat.le_of_ble_eq_true rfl)⟩ (Nat.le_of_ble_eq_true rfl) dd_M_requests_2 (fun H locs hP hS => ?_)
  refine f_neB (pc := 5) (tgt := 16) cx dd_M_requests_5 (by decide) (fun h5 => ?_) (fun h5 => ?_)
  · -- 5: t to 16
    exact absurd ((congrArg not (q_cl_in hc)).symm.trans h5) (by decide)
  · -- 5: f to 8
    refine lv_aload_n (pc := 8) hx hb dd_M_requests_8 rfl (lv_at hl 0 rfl) ?_
    refine lv_iload_n (pc := 9) hx hb dd_M_requests_9 rfl (lv_at hl 2 rfl) ?_
    refine k_M_M_noServer (pc := 10) cx hl hP hS (by assumption) (ct_M_noServer l x _ ⟨w16, w23, w24, w25, w26, w27, w28, w29, w30, w31, w32, w33, w34, w35, w36, w37, w39, w40, w41, w42, w43, w44, w45, w46⟩ (nI s0)) ⟨⟨rfl, rfl⟩, ⟨(Nat.le_of_ble_eq_true rfl), (Nat.le_of_ble_eq_true rfl)⟩, (Nat.le_of_ble_eq_true rfl), (Nat.le_of_ble_eq_true rfl)⟩ (Nat.le_of_ble_eq_true rfl) dd_M_requests_10 (fun H locs hP hS => ?_)
    refine f_eqB (pc := 13) (tgt := 20) cx dd_M_requests_13 (by decide) (fun h13 => ?_) (fun h13 => ?_)
    · -- 13: t to 20
      refine lv_aload_n (pc := 20) hx hb dd_M_requests_20 rfl (lv_at hl 0 rfl) ?_
      refine lv_iconst (pc := 21) (v := b2 false) hx hb dd_M_requests_21 (by decide) ?_
      refine lv_iload_n (pc := 22) hx hb dd_M_requests_22 rfl (lv_at hl 1 rfl) ?_
      refine lv_iload_n (pc := 23) hx hb dd_M_requests_23 rfl (lv_at hl 2 rfl) ?_
      refine k_M_M_count (pc := 24) cx hl hP hS (by assumption) (ct_M_count l x S ⟨w16, w23, w24, w25, w26, w27, w28, w29, w30, w31, w32, w33, w34, w35, w36, w37, w39, w40, w41, w42, w43, w44, w45, w46⟩ false c s0 hl0) ⟨⟨rfl, rfl⟩, ⟨(Nat.le_of_ble_eq_true rfl), (Nat.le_of_ble_eq_true rfl)⟩, (Nat.le_of_ble_eq_true rfl), (Nat.le_of_ble_eq_true rfl)⟩ (Nat.le_of_ble_eq_true rfl) dd_M_requests_24 (fun H locs hP hS => ?_)
      exact f_iret (pc := 27) cx hr hlocks hP hS rfl rfl dd_M_requests_27
    · -- 13: f to 16
      exact absurd ((congrArg not (q_sv_in hO hs)).symm.trans h13) (by decide)
set_option maxHeartbeats 4000000 in
set_option maxRecDepth 100000 in
theorem ct_M_replies_no (l : Launch) (x : fy) (S : fm) (hM : fM x) (z y : Int32) (hz : q_cl z = false ∨ q_sv x y = false) : Met l mn_M_replies (gw_ws mn_M_replies cb_M_replies 3 (some .int)) ({ frames := 1, cells := 0, slots := 0, locals := 25 } : Room) (fPc x (S) [.ref (xa x 16 0), .int z, .int y]) (fQi x (S) (-1)) 0 0 (fun q => xs x ≤ q) := by
  refine f_met (by decide) (Nat.le_of_ble_eq_true rfl) ?_
  intro p e s m below meth c0 cx hr hlocks hnm hP hS ls hl
  have cx : fX rn_M cb_M_replies 3 p c0 s m [.ref (xa x 16 0), .int z, .int y].toArray x := cx
  have hx := cx.1.1
  have hb := cx.1.2.1
  have hl : lv_has ls 3 [(0, .ref (xa x 16 0)), (1, .int z), (2, .int y)] := hl
  obtain ⟨w16, w23, w24, w25, w26, w27, w28, w29, w30, w31, w32, w33, w34, w35, w36, w37, w39, w40, w41, w42, w43, w44, w45, w46⟩ := hM
  refine lv_aload_n (pc := 0) hx hb dd_M_replies_0 rfl (lv_at hl 0 rfl) ?_
  refine lv_iload_n (pc := 1) hx hb dd_M_replies_1 rfl (lv_at hl 1 rfl) ?_
  refine k_M_M_noClient (pc := 2) cx hl hP hS (by assumption) (ct_M_noClient l x _ ⟨w16, w23, w24, w25, w26, w27, w28, w29, w30, w31, w32, w33, w34, w35, w36, w37, w39, w40, w41, w42, w43, w44, w45, w46⟩ z) ⟨⟨rfl, rfl⟩, ⟨(Nat.le_of_ble_eq_true rfl), (Nat.le_of_ble_eq_true rfl)⟩, (Nat.le_of_ble_eq_true rfl), (Nat.le_of_ble_eq_true rfl)⟩ (Nat.le_of_ble_eq_true rfl) dd_M_replies_2 (fun H locs hP hS => ?_)
  refine f_neB (pc := 5) (tgt := 16) cx dd_M_replies_5 (by decide) (fun h5 => ?_) (fun h5 => ?_)
  · -- 5: t to 16
    refine lv_iconst (pc := 16) (v := (-1)) hx hb dd_M_replies_16 (by decide) ?_
    refine lv_goto (pc := 17) (tgt := 27) hx hb dd_M_replies_17 (by decide) ?_
    exact f_iret (pc := 27) cx hr hlocks hP hS rfl rfl dd_M_replies_27
  · -- 5: f to 8
    refine lv_aload_n (pc := 8) hx hb dd_M_replies_8 rfl (lv_at hl 0 rfl) ?_
    refine lv_iload_n (pc := 9) hx hb dd_M_replies_9 rfl (lv_at hl 2 rfl) ?_
    refine k_M_M_noServer (pc := 10) cx hl hP hS (by assumption) (ct_M_noServer l x _ ⟨w16, w23, w24, w25, w26, w27, w28, w29, w30, w31, w32, w33, w34, w35, w36, w37, w39, w40, w41, w42, w43, w44, w45, w46⟩ y) ⟨⟨rfl, rfl⟩, ⟨(Nat.le_of_ble_eq_true rfl), (Nat.le_of_ble_eq_true rfl)⟩, (Nat.le_of_ble_eq_true rfl), (Nat.le_of_ble_eq_true rfl)⟩ (Nat.le_of_ble_eq_true rfl) dd_M_replies_10 (fun H locs hP hS => ?_)
    refine f_eqB (pc := 13) (tgt := 20) cx dd_M_replies_13 (by decide) (fun h13 => ?_) (fun h13 => ?_)
    · -- 13: t to 20
      exact hz.elim (fun q => absurd ((congrArg not q).symm.trans h5) (by decide)) (fun q => absurd ((congrArg not q).symm.trans h13) (by decide))
    · -- 13: f to 16
      refine lv_iconst (pc := 16) (v := (-1)) hx hb dd_M_replies_16 (by decide) ?_
      refine lv_goto (pc := 17) (tgt := 27) hx hb dd_M_replies_17 (by decide) ?_
      exact f_iret (pc := 27) cx hr hlocks hP hS rfl rfl dd_M_replies_27
set_option maxHeartbeats 4000000 in
set_option maxRecDepth 100000 in
theorem ct_M_replies (l : Launch) (x : fy) (S : fm) (hM : fM x) (c s0 : Nat) (hc : c < 5) (hs : s0 < xN x) (hO : fO x) (hl0 : mU S 16 0 18 ≤ 256) : Met l mn_M_replies (gw_ws mn_M_replies cb_M_replies 3 (some .int)) ({ frames := 1, cells := 0, slots := 0, locals := 25 } : Room) (fPc x (S) [.ref (xa x 16 0), .int (nI c), .int (nI s0)]) (fQi x (S) (nI (n_cnt S true c s0 (mL S)))) 0 0 (fun q => xs x ≤ q) := by
  refine f_met (by decide) (Nat.le_of_ble_eq_true rfl) ?_
  intro p e s m below meth c0 cx hr hlocks hnm hP hS ls hl
  have cx : fX rn_M cb_M_replies 3 p c0 s m [.ref (xa x 16 0), .int (nI c), .int (nI s0)].toArray x := cx
  have hx := cx.1.1
  have hb := cx.1.2.1
  have hl : lv_has ls 3 [(0, .ref (xa x 16 0)), (1, .int (nI c)), (2, .int (nI s0))] := hl
  obtain ⟨w16, w23, w24, w25, w26, w27, w28, w29, w30, w31, w32, w33, w34, w35, w36, w37, w39, w40, w41, w42, w43, w44, w45, w46⟩ := hM
  refine lv_aload_n (pc := 0) hx hb dd_M_replies_0 rfl (lv_at hl 0 rfl) ?_
  refine lv_iload_n (pc := 1) hx hb dd_M_replies_1 rfl (lv_at hl 1 rfl) ?_
  refine k_M_M_noClient (pc := 2) cx hl hP hS (by assumption) (ct_M_noClient l x _ ⟨w16, w23, w24, w25, w26, w27, w28, w29, w30, w31, w32, w33, w34, w35, w36, w37, w39, w40, w41, w42, w43, w44, w45, w46⟩ (nI c)) ⟨⟨rfl, rfl⟩, ⟨(Nat.le_of_ble_eq_true rfl), (Nat.le_of_ble_eq_true rfl)⟩, (Nat.le_of_ble_eq_true rfl), (Nat.le_of_ble_eq_true rfl)⟩ (Nat.le_of_ble_eq_true rfl) dd_M_replies_2 (fun H locs hP hS => ?_)
  refine f_neB (pc := 5) (tgt := 16) cx dd_M_replies_5 (by decide) (fun h5 => ?_) (fun h5 => ?_)
  · -- 5: t to 16
    exact absurd ((congrArg not (q_cl_in hc)).symm.trans h5) (by decide)
  · -- 5: f to 8
    refine lv_aload_n (pc := 8) hx hb dd_M_replies_8 rfl (lv_at hl 0 rfl) ?_
    refine lv_iload_n (pc := 9) hx hb dd_M_replies_9 rfl (lv_at hl 2 rfl) ?_
    refine k_M_M_noServer (pc := 10) cx hl hP hS (by assumption) (ct_M_noServer l x _ ⟨w16, w23, w24, w25, w26, w27, w28, w29, w30, w31, w32, w33, w34, w35, w36, w37, w39, w40, w41, w42, w43, w44, w45, w46⟩ (nI s0)) ⟨⟨rfl, rfl⟩, ⟨(Nat.le_of_ble_eq_true rfl), (Nat.le_of_ble_eq_true rfl)⟩, (Nat.le_of_ble_eq_true rfl), (Nat.le_of_ble_eq_true rfl)⟩ (Nat.le_of_ble_eq_true rfl) dd_M_replies_10 (fun H locs hP hS => ?_)
    refine f_eqB (pc := 13) (tgt := 20) cx dd_M_replies_13 (by decide) (fun h13 => ?_) (fun h13 => ?_)
    · -- 13: t to 20
      refine lv_aload_n (pc := 20) hx hb dd_M_replies_20 rfl (lv_at hl 0 rfl) ?_
      refine lv_iconst (pc := 21) (v := b2 true) hx hb dd_M_replies_21 (by decide) ?_
      refine lv_iload_n (pc := 22) hx hb dd_M_replies_22 rfl (lv_at hl 1 rfl) ?_
      refine lv_iload_n (pc := 23) hx hb dd_M_replies_23 rfl (lv_at hl 2 rfl) ?_
      refine k_M_M_count (pc := 24) cx hl hP hS (by assumption) (ct_M_count l x S ⟨w16, w23, w24, w25, w26, w27, w28, w29, w30, w31, w32, w33, w34, w35, w36, w37, w39, w40, w41, w42, w43, w44, w45, w46⟩ true c s0 hl0) ⟨⟨rfl, rfl⟩, ⟨(Nat.le_of_ble_eq_true rfl), (Nat.le_of_ble_eq_true rfl)⟩, (Nat.le_of_ble_eq_true rfl), (Nat.le_of_ble_eq_true rfl)⟩ (Nat.le_of_ble_eq_true rfl) dd_M_replies_24 (fun H locs hP hS => ?_)
      exact f_iret (pc := 27) cx hr hlocks hP hS rfl rfl dd_M_replies_27
    · -- 13: f to 16
      exact absurd ((congrArg not (q_sv_in hO hs)).symm.trans h13) (by decide)
set_option maxHeartbeats 4000000 in
set_option maxRecDepth 100000 in
theorem ct_M_crowded (l : Launch) (x : fy) (S : fm) (hM : fM x) (c : Nat) (hO : fO x) (hl0 : mU S 16 0 18 ≤ 256) : Met l mn_M_crowded (gw_ws mn_M_crowded cb_M_crowded 5 (some .boolean)) ({ frames := 1, cells := 0, slots := 0, locals := 25 } : Room) (fPc x (S) [.ref (xa x 16 0), .int (nI c)]) (fQi x (S) (b2 (n_crowd x S c))) 0 0 (fun q => xs x ≤ q) := by
  refine f_met (by decide) (Nat.le_of_ble_eq_true rfl) ?_
  intro p e s m below meth c0 cx hr hlocks hnm hP hS ls hl
  have cx : fX rn_M cb_M_crowded 5 p c0 s m [.ref (xa x 16 0), .int (nI c)].toArray x := cx
  have hx := cx.1.1
  have hb := cx.1.2.1
  have hl : lv_has ls 5 [(0, .ref (xa x 16 0)), (1, .int (nI c))] := hl
  obtain ⟨w16, w23, w24, w25, w26, w27, w28, w29, w30, w31, w32, w33, w34, w35, w36, w37, w39, w40, w41, w42, w43, w44, w45, w46⟩ := hM
  have hN : xN x ≤ 7 := hO.2.2.2.1
  have loop : ∀ (n i : Nat) (H : Heap) (locs : List Loc), i + n = xN x → fP x S H → fS x s.heap H locs → ∀ ls : Array Slot, lv_has ls 5 [(3, .int (nI i)), (2, .int (b2 ((List.range (i)).any (fun s => (!mB S 33 0 s && decide (4 < n_cnt S false c s (mL S) + n_cnt S true c s (mL S))))))), (0, .ref (xa x 16 0)), (1, .int (nI c))] → W p l e ({ frames := 1, cells := 0, slots := 0, locals := 25 } : Room) s m [.ref (xa x 16 0), .int (nI c)].toArray below meth c0 H locs 0 0 (MQ below (fQi x (S) (b2 (n_crowd x S c))) [.ref (xa x 16 0), .int (nI c)].toArray s 0 0 (fun q => xs x ≤ q)) (F0 m 4 ls []) := by
    intro n
    induction n with
    | zero =>
      intro i H locs hi hP hS ls hl
      have hi : i = xN x := by omega
      subst hi
      refine lv_iload_n (pc := 4) hx hb dd_M_crowded_4 rfl (lv_at hl 0 rfl) ?_
      refine lv_aload_n (pc := 5) hx hb dd_M_crowded_5 rfl (lv_at hl 2 rfl) ?_
      refine g_M_M_n (pc := 6) cx hP (by assumption) dd_M_crowded_6 ?_
      refine lv_icmp_ge (pc := 9) (tgt := 60) hx hb dd_M_crowded_9 (by decide) (fun h9 => ?_) (fun h9 => ?_)
      · -- 9: t to 60
        refine lv_iload_n (pc := 60) hx hb dd_M_crowded_60 rfl (lv_at hl 1 rfl) ?_
        exact f_zret (pc := 61) cx hr hlocks hP hS rfl rfl dd_M_crowded_61
      · -- 9: f to 12
        exact absurd ((nI_leI (by omega) (by omega)).mpr (Nat.le_refl _)) h9
    | succ n ih =>
      intro i H locs hi hP hS ls hl
      have hc1 := n_cnt_le S false c i (mL S)
      have hc2 := n_cnt_le S true c i (mL S)
      have hc3 : mL S ≤ 256 := hl0
      refine lv_iload_n (pc := 4) hx hb dd_M_crowded_4 rfl (lv_at hl 0 rfl) ?_
      refine lv_aload_n (pc := 5) hx hb dd_M_crowded_5 rfl (lv_at hl 2 rfl) ?_
      refine g_M_M_n (pc := 6) cx hP (by assumption) dd_M_crowded_6 ?_
      refine lv_icmp_ge (pc := 9) (tgt := 60) hx hb dd_M_crowded_9 (by decide) (fun h9 => ?_) (fun h9 => ?_)
      · -- 9: t to 60
        exact absurd ((nI_leI (by omega) (by omega)).mp h9) (by omega)
      · -- 9: f to 12
        refine lv_aload_n (pc := 12) hx hb dd_M_crowded_12 rfl (lv_at hl 2 rfl) ?_
        refine lv_iconst (pc := 13) (v := b2 false) hx hb dd_M_crowded_13 (by decide) ?_
        refine lv_iload_n (pc := 14) hx hb dd_M_crowded_14 rfl (lv_at hl 3 rfl) ?_
        refine lv_iload_n (pc := 15) hx hb dd_M_crowded_15 rfl (lv_at hl 0 rfl) ?_
        refine k_M_M_count (pc := 16) cx hl hP hS (by assumption) (ct_M_count l x S ⟨w16, w23, w24, w25, w26, w27, w28, w29, w30, w31, w32, w33, w34, w35, w36, w37, w39, w40, w41, w42, w43, w44, w45, w46⟩ false c i hl0) ⟨⟨rfl, rfl⟩, ⟨(Nat.le_of_ble_eq_true rfl), (Nat.le_of_ble_eq_true rfl)⟩, (Nat.le_of_ble_eq_true rfl), (Nat.le_of_ble_eq_true rfl)⟩ (Nat.le_of_ble_eq_true rfl) dd_M_crowded_16 (fun H locs hP hS => ?_)
        refine lv_aload_n (pc := 19) hx hb dd_M_crowded_19 rfl (lv_at hl 2 rfl) ?_
        refine lv_iconst (pc := 20) (v := b2 true) hx hb dd_M_crowded_20 (by decide) ?_
        refine lv_iload_n (pc := 21) hx hb dd_M_crowded_21 rfl (lv_at hl 3 rfl) ?_
        refine lv_iload_n (pc := 22) hx hb dd_M_crowded_22 rfl (lv_at hl 0 rfl) ?_
        refine k_M_M_count (pc := 23) cx hl hP hS (by assumption) (ct_M_count l x S ⟨w16, w23, w24, w25, w26, w27, w28, w29, w30, w31, w32, w33, w34, w35, w36, w37, w39, w40, w41, w42, w43, w44, w45, w46⟩ true c i hl0) ⟨⟨rfl, rfl⟩, ⟨(Nat.le_of_ble_eq_true rfl), (Nat.le_of_ble_eq_true rfl)⟩, (Nat.le_of_ble_eq_true rfl), (Nat.le_of_ble_eq_true rfl)⟩ (Nat.le_of_ble_eq_true rfl) dd_M_crowded_23 (fun H locs hP hS => ?_)
        refine lv_iadd (pc := 26) hx hb dd_M_crowded_26 ?_
        refine f_topi (nI_add _ _) ?_
        refine lv_istore (pc := 27) (lv' := [(4, _), (3, _), (2, _), (0, _), (1, _)]) hx hb dd_M_crowded_27 hl (Nat.le_of_ble_eq_true rfl) rfl (fun ls hl => ?_)
        refine lv_iload_n (pc := 29) hx hb dd_M_crowded_29 rfl (lv_at hl 2 rfl) ?_
        refine f_neB (pc := 30) (tgt := 48) cx dd_M_crowded_30 (by decide) (fun h30 => ?_) (fun h30 => ?_)
        · -- 30: t to 48
          have e0 : b2 true = b2 ((List.range (i + 1)).any (fun s => (!mB S 33 0 s && decide (4 < n_cnt S false c s (mL S) + n_cnt S true c s (mL S))))) := by rw [any_succ]; rw [h30]; rfl
          refine lv_iconst (pc := 48) (v := b2 true) hx hb dd_M_crowded_48 (by decide) ?_
          refine lv_goto (pc := 49) (tgt := 53) hx hb dd_M_crowded_49 (by decide) ?_
          refine lv_istore_n (pc := 53) (lv' := [(2, _), (4, _), (3, _), (0, _), (1, _)]) hx hb dd_M_crowded_53 rfl hl (Nat.le_of_ble_eq_true rfl) rfl (fun ls hl => ?_)
          refine lv_iinc (pc := 54) (k := 2) (lv' := [(3, _), (2, _), (4, _), (0, _), (1, _)]) hx hb dd_M_crowded_54 hl rfl (f_inc1 i) (Nat.le_of_ble_eq_true rfl) rfl (fun ls hl => ?_)
          refine lv_goto (pc := 57) (tgt := 4) hx hb dd_M_crowded_57 (by decide) ?_
          rw [e0] at hl
          exact ih (i + 1) _ _ (by omega) hP hS ls (lv_sub hl [0, 1, 3, 4] rfl)
        · -- 30: f to 33
          refine lv_aload_n (pc := 33) hx hb dd_M_crowded_33 rfl (lv_at hl 3 rfl) ?_
          refine g_M_M_down (pc := 34) cx hP (by assumption) dd_M_crowded_34 ?_
          refine lv_iload_n (pc := 37) hx hb dd_M_crowded_37 rfl (lv_at hl 1 rfl) ?_
          refine f_zald (pc := 38) cx hP (fv.at (by assumption) _) rfl rfl (by omega) dd_M_crowded_38 ?_
          refine f_neB (pc := 39) (tgt := 52) cx dd_M_crowded_39 (by decide) (fun h39 => ?_) (fun h39 => ?_)
          · -- 39: t to 52
            have e0 : b2 false = b2 ((List.range (i + 1)).any (fun s => (!mB S 33 0 s && decide (4 < n_cnt S false c s (mL S) + n_cnt S true c s (mL S))))) := by rw [any_succ]; rw [h30, h39]; rfl
            refine lv_iconst (pc := 52) (v := b2 false) hx hb dd_M_crowded_52 (by decide) ?_
            refine lv_istore_n (pc := 53) (lv' := [(2, _), (4, _), (3, _), (0, _), (1, _)]) hx hb dd_M_crowded_53 rfl hl (Nat.le_of_ble_eq_true rfl) rfl (fun ls hl => ?_)
            refine lv_iinc (pc := 54) (k := 2) (lv' := [(3, _), (2, _), (4, _), (0, _), (1, _)]) hx hb dd_M_crowded_54 hl rfl (f_inc1 i) (Nat.le_of_ble_eq_true rfl) rfl (fun ls hl => ?_)
            refine lv_goto (pc := 57) (tgt := 4) hx hb dd_M_crowded_57 (by decide) ?_
            rw [e0] at hl
            exact ih (i + 1) _ _ (by omega) hP hS ls (lv_sub hl [0, 1, 3, 4] rfl)
          · -- 39: f to 42
            refine lv_iload (pc := 42) hx hb dd_M_crowded_42 (lv_at hl 0 rfl) ?_
            refine lv_iconst (pc := 44) (v := nI 4) hx hb dd_M_crowded_44 (by decide) ?_
            refine lv_icmp_le (pc := 45) (tgt := 52) hx hb dd_M_crowded_45 (by decide) (fun h45 => ?_) (fun h45 => ?_)
            · -- 45: t to 52
              have h2 := (nI_leI (by omega) (by omega)).mp h45
              have e0 : b2 false = b2 ((List.range (i + 1)).any (fun s => (!mB S 33 0 s && decide (4 < n_cnt S false c s (mL S) + n_cnt S true c s (mL S))))) := by rw [any_succ]; rw [h30, h39, decide_eq_false (by omega)]; rfl
              refine lv_iconst (pc := 52) (v := b2 false) hx hb dd_M_crowded_52 (by decide) ?_
              refine lv_istore_n (pc := 53) (lv' := [(2, _), (4, _), (3, _), (0, _), (1, _)]) hx hb dd_M_crowded_53 rfl hl (Nat.le_of_ble_eq_true rfl) rfl (fun ls hl => ?_)
              refine lv_iinc (pc := 54) (k := 2) (lv' := [(3, _), (2, _), (4, _), (0, _), (1, _)]) hx hb dd_M_crowded_54 hl rfl (f_inc1 i) (Nat.le_of_ble_eq_true rfl) rfl (fun ls hl => ?_)
              refine lv_goto (pc := 57) (tgt := 4) hx hb dd_M_crowded_57 (by decide) ?_
              rw [e0] at hl
              exact ih (i + 1) _ _ (by omega) hP hS ls (lv_sub hl [0, 1, 3, 4] rfl)
            · -- 45: f to 48
              have h2 : 4 < n_cnt S false c i (mL S) + n_cnt S true c i (mL S) := Nat.lt_of_not_le (fun q => h45 ((nI_leI (by omega) (by omega)).mpr q))
              have e0 : b2 true = b2 ((List.range (i + 1)).any (fun s => (!mB S 33 0 s && decide (4 < n_cnt S false c s (mL S) + n_cnt S true c s (mL S))))) := by rw [any_succ]; rw [h30, h39, decide_eq_true h2]; rfl
              refine lv_iconst (pc := 48) (v := b2 true) hx hb dd_M_crowded_48 (by decide) ?_
              refine lv_goto (pc := 49) (tgt := 53) hx hb dd_M_crowded_49 (by decide) ?_
              refine lv_istore_n (pc := 53) (lv' := [(2, _), (4, _), (3, _), (0, _), (1, _)]) hx hb dd_M_crowded_53 rfl hl (Nat.le_of_ble_eq_true rfl) rfl (fun ls hl => ?_)
              refine lv_iinc (pc := 54) (k := 2) (lv' := [(3, _), (2, _), (4, _), (0, _), (1, _)]) hx hb dd_M_crowded_54 hl rfl (f_inc1 i) (Nat.le_of_ble_eq_true rfl) rfl (fun ls hl => ?_)
              refine lv_goto (pc := 57) (tgt := 4) hx hb dd_M_crowded_57 (by decide) ?_
              rw [e0] at hl
              exact ih (i + 1) _ _ (by omega) hP hS ls (lv_sub hl [0, 1, 3, 4] rfl)
  refine lv_iconst (pc := 0) (v := b2 false) hx hb dd_M_crowded_0 (by decide) ?_
  refine lv_istore_n (pc := 1) (lv' := [(2, _), (0, _), (1, _)]) hx hb dd_M_crowded_1 rfl hl (Nat.le_of_ble_eq_true rfl) rfl (fun ls hl => ?_)
  refine lv_iconst (pc := 2) (v := nI 0) hx hb dd_M_crowded_2 (by decide) ?_
  refine lv_istore_n (pc := 3) (lv' := [(3, _), (2, _), (0, _), (1, _)]) hx hb dd_M_crowded_3 rfl hl (Nat.le_of_ble_eq_true rfl) rfl (fun ls hl => ?_)
  exact loop (xN x) 0 _ _ (by omega) hP hS ls (lv_sub hl [0, 1, 2, 3] rfl)
end
