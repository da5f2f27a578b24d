section
-- ===== PART A: goes FIRST, ahead of the names: the tables' words, and 'selects' of the private methods out of them =====
/-- a private method of a class that the tables say can be made, by its rows of tables_1 -/
def lw_okq (q : MethodName × Nat) : Prop := (q.1.cls ≠ "java/lang/invoke/MethodHandle" ∧ q.1.cls ≠ "java/lang/invoke/VarHandle") ∧ Cond.instantiable q.1.cls q.2 ∈ tables_1 ∧ Cond.privateMethod q.1 ∈ tables_1 ∧ Cond.instanceMethod q.1 ∈ tables_1
theorem lw_p0 : lw_okq (⟨"ShardGroups", "upNode", "(I)LShardGroups$Node;"⟩, 3) := ⟨⟨by decide +kernel, by decide +kernel⟩, List.mem_of_getElem? (i := 17) (by decide +kernel), List.mem_of_getElem? (i := 187) (by decide +kernel), List.mem_of_getElem? (i := 188) (by decide +kernel)⟩
theorem lw_p1 : lw_okq (⟨"ShardGroups", "anyNode", "(I)LShardGroups$Node;"⟩, 3) := ⟨⟨by decide +kernel, by decide +kernel⟩, List.mem_of_getElem? (i := 17) (by decide +kernel), List.mem_of_getElem? (i := 191) (by decide +kernel), List.mem_of_getElem? (i := 192) (by decide +kernel)⟩
theorem lw_p2 : lw_okq (⟨"ShardGroups", "countGrants", "(LShardGroups$Node;II)I"⟩, 3) := ⟨⟨by decide +kernel, by decide +kernel⟩, List.mem_of_getElem? (i := 17) (by decide +kernel), List.mem_of_getElem? (i := 206) (by decide +kernel), List.mem_of_getElem? (i := 207) (by decide +kernel)⟩
theorem lw_p3 : lw_okq (⟨"ShardGroups", "countAgreed", "(LShardGroups$Node;I)I"⟩, 3) := ⟨⟨by decide +kernel, by decide +kernel⟩, List.mem_of_getElem? (i := 17) (by decide +kernel), List.mem_of_getElem? (i := 272) (by decide +kernel), List.mem_of_getElem? (i := 273) (by decide +kernel)⟩
theorem lw_p4 : lw_okq (⟨"ShardGroups", "countCopies", "(III)I"⟩, 3) := ⟨⟨by decide +kernel, by decide +kernel⟩, List.mem_of_getElem? (i := 17) (by decide +kernel), List.mem_of_getElem? (i := 282) (by decide +kernel), List.mem_of_getElem? (i := 283) (by decide +kernel)⟩
theorem lw_p5 : lw_okq (⟨"ShardGroups$Change", "isAllowed", "(LShardGroups$Configuration;)Z"⟩, 4) := ⟨⟨by decide +kernel, by decide +kernel⟩, List.mem_of_getElem? (i := 311) (by decide +kernel), List.mem_of_getElem? (i := 309) (by decide +kernel), List.mem_of_getElem? (i := 310) (by decide +kernel)⟩
theorem lw_p6 : lw_okq (⟨"ShardGroups$Configuration", "balance", "()V"⟩, 3) := ⟨⟨by decide +kernel, by decide +kernel⟩, List.mem_of_getElem? (i := 31) (by decide +kernel), List.mem_of_getElem? (i := 334) (by decide +kernel), List.mem_of_getElem? (i := 335) (by decide +kernel)⟩
theorem lw_p7 : lw_okq (⟨"ShardGroups$Configuration", "most", "()I"⟩, 3) := ⟨⟨by decide +kernel, by decide +kernel⟩, List.mem_of_getElem? (i := 31) (by decide +kernel), List.mem_of_getElem? (i := 338) (by decide +kernel), List.mem_of_getElem? (i := 339) (by decide +kernel)⟩
theorem lw_p8 : lw_okq (⟨"ShardGroups$Configuration", "fewest", "()I"⟩, 3) := ⟨⟨by decide +kernel, by decide +kernel⟩, List.mem_of_getElem? (i := 31) (by decide +kernel), List.mem_of_getElem? (i := 342) (by decide +kernel), List.mem_of_getElem? (i := 343) (by decide +kernel)⟩
theorem lw_p9 : lw_okq (⟨"ShardGroups$Configuration", "leastShardOf", "(I)I"⟩, 3) := ⟨⟨by decide +kernel, by decide +kernel⟩, List.mem_of_getElem? (i := 31) (by decide +kernel), List.mem_of_getElem? (i := 346) (by decide +kernel), List.mem_of_getElem? (i := 347) (by decide +kernel)⟩
theorem lw_p10 : lw_okq (⟨"ShardGroups", "upService", "(I)LShardGroups$ServiceNode;"⟩, 3) := ⟨⟨by decide +kernel, by decide +kernel⟩, List.mem_of_getElem? (i := 17) (by decide +kernel), List.mem_of_getElem? (i := 423) (by decide +kernel), List.mem_of_getElem? (i := 424) (by decide +kernel)⟩
theorem lw_p11 : lw_okq (⟨"ShardGroups", "anyService", "(I)LShardGroups$ServiceNode;"⟩, 3) := ⟨⟨by decide +kernel, by decide +kernel⟩, List.mem_of_getElem? (i := 17) (by decide +kernel), List.mem_of_getElem? (i := 427) (by decide +kernel), List.mem_of_getElem? (i := 428) (by decide +kernel)⟩
theorem lw_p12 : lw_okq (⟨"ShardGroups", "upStore", "(I)LShardGroups$StoreNode;"⟩, 3) := ⟨⟨by decide +kernel, by decide +kernel⟩, List.mem_of_getElem? (i := 17) (by decide +kernel), List.mem_of_getElem? (i := 464) (by decide +kernel), List.mem_of_getElem? (i := 465) (by decide +kernel)⟩
theorem lw_p13 : lw_okq (⟨"ShardGroups", "anyStore", "(I)LShardGroups$StoreNode;"⟩, 3) := ⟨⟨by decide +kernel, by decide +kernel⟩, List.mem_of_getElem? (i := 17) (by decide +kernel), List.mem_of_getElem? (i := 468) (by decide +kernel), List.mem_of_getElem? (i := 469) (by decide +kernel)⟩
theorem lw_p14 : lw_okq (⟨"ShardGroups", "heldShard", "(II)LShardGroups$Shard;"⟩, 3) := ⟨⟨by decide +kernel, by decide +kernel⟩, List.mem_of_getElem? (i := 17) (by decide +kernel), List.mem_of_getElem? (i := 610) (by decide +kernel), List.mem_of_getElem? (i := 611) (by decide +kernel)⟩
theorem lw_p15 : lw_okq (⟨"ShardGroupsModel", "lastTerm", "(I)I"⟩, 14) := ⟨⟨by decide +kernel, by decide +kernel⟩, List.mem_of_getElem? (i := 628) (by decide +kernel), List.mem_of_getElem? (i := 692) (by decide +kernel), List.mem_of_getElem? (i := 693) (by decide +kernel)⟩
def lw_privs_1 : List (MethodName × Nat) := [(⟨"ShardGroups", "upNode", "(I)LShardGroups$Node;"⟩, 3), (⟨"ShardGroups", "anyNode", "(I)LShardGroups$Node;"⟩, 3), (⟨"ShardGroups", "countGrants", "(LShardGroups$Node;II)I"⟩, 3), (⟨"ShardGroups", "countAgreed", "(LShardGroups$Node;I)I"⟩, 3), (⟨"ShardGroups", "countCopies", "(III)I"⟩, 3), (⟨"ShardGroups$Change", "isAllowed", "(LShardGroups$Configuration;)Z"⟩, 4), (⟨"ShardGroups$Configuration", "balance", "()V"⟩, 3), (⟨"ShardGroups$Configuration", "most", "()I"⟩, 3), (⟨"ShardGroups$Configuration", "fewest", "()I"⟩, 3), (⟨"ShardGroups$Configuration", "leastShardOf", "(I)I"⟩, 3), (⟨"ShardGroups", "upService", "(I)LShardGroups$ServiceNode;"⟩, 3), (⟨"ShardGroups", "anyService", "(I)LShardGroups$ServiceNode;"⟩, 3), (⟨"ShardGroups", "upStore", "(I)LShardGroups$StoreNode;"⟩, 3), (⟨"ShardGroups", "anyStore", "(I)LShardGroups$StoreNode;"⟩, 3), (⟨"ShardGroups", "heldShard", "(II)LShardGroups$Shard;"⟩, 3), (⟨"ShardGroupsModel", "lastTerm", "(I)I"⟩, 14)]
theorem lw_r1 : ∀ q ∈ lw_privs_1, lw_okq q := List.forall_mem_cons.mpr ⟨lw_p0, List.forall_mem_cons.mpr ⟨lw_p1, List.forall_mem_cons.mpr ⟨lw_p2, List.forall_mem_cons.mpr ⟨lw_p3, List.forall_mem_cons.mpr ⟨lw_p4, List.forall_mem_cons.mpr ⟨lw_p5, List.forall_mem_cons.mpr ⟨lw_p6, List.forall_mem_cons.mpr ⟨lw_p7, List.forall_mem_cons.mpr ⟨lw_p8, List.forall_mem_cons.mpr ⟨lw_p9, List.forall_mem_cons.mpr ⟨lw_p10, List.forall_mem_cons.mpr ⟨lw_p11, List.forall_mem_cons.mpr ⟨lw_p12, List.forall_mem_cons.mpr ⟨lw_p13, List.forall_mem_cons.mpr ⟨lw_p14, List.forall_mem_cons.mpr ⟨lw_p15, fun _ h => absurd h List.not_mem_nil⟩⟩⟩⟩⟩⟩⟩⟩⟩⟩⟩⟩⟩⟩⟩⟩
theorem lw_p16 : lw_okq (⟨"ShardGroupsModel", "termAt", "(II)I"⟩, 14) := ⟨⟨by decide +kernel, by decide +kernel⟩, List.mem_of_getElem? (i := 628) (by decide +kernel), List.mem_of_getElem? (i := 696) (by decide +kernel), List.mem_of_getElem? (i := 697) (by decide +kernel)⟩
theorem lw_p17 : lw_okq (⟨"ShardGroupsModel", "raise", "(II)V"⟩, 14) := ⟨⟨by decide +kernel, by decide +kernel⟩, List.mem_of_getElem? (i := 628) (by decide +kernel), List.mem_of_getElem? (i := 703) (by decide +kernel), List.mem_of_getElem? (i := 704) (by decide +kernel)⟩
theorem lw_p18 : lw_okq (⟨"ShardGroupsModel", "say", "(IIIIII)V"⟩, 14) := ⟨⟨by decide +kernel, by decide +kernel⟩, List.mem_of_getElem? (i := 628) (by decide +kernel), List.mem_of_getElem? (i := 707) (by decide +kernel), List.mem_of_getElem? (i := 708) (by decide +kernel)⟩
theorem lw_p19 : lw_okq (⟨"ShardGroupsModel", "write", "(I)I"⟩, 14) := ⟨⟨by decide +kernel, by decide +kernel⟩, List.mem_of_getElem? (i := 628) (by decide +kernel), List.mem_of_getElem? (i := 711) (by decide +kernel), List.mem_of_getElem? (i := 712) (by decide +kernel)⟩
theorem lw_p20 : lw_okq (⟨"ShardGroupsModel", "copies", "(II)I"⟩, 14) := ⟨⟨by decide +kernel, by decide +kernel⟩, List.mem_of_getElem? (i := 628) (by decide +kernel), List.mem_of_getElem? (i := 719) (by decide +kernel), List.mem_of_getElem? (i := 720) (by decide +kernel)⟩
theorem lw_p21 : lw_okq (⟨"ShardGroupsModel", "noServer", "(I)Z"⟩, 14) := ⟨⟨by decide +kernel, by decide +kernel⟩, List.mem_of_getElem? (i := 628) (by decide +kernel), List.mem_of_getElem? (i := 727) (by decide +kernel), List.mem_of_getElem? (i := 728) (by decide +kernel)⟩
theorem lw_p22 : lw_okq (⟨"ShardGroupsModel", "noGroupNode", "(I)Z"⟩, 14) := ⟨⟨by decide +kernel, by decide +kernel⟩, List.mem_of_getElem? (i := 628) (by decide +kernel), List.mem_of_getElem? (i := 735) (by decide +kernel), List.mem_of_getElem? (i := 736) (by decide +kernel)⟩
theorem lw_p23 : lw_okq (⟨"ShardGroupsModel", "group", "(I)V"⟩, 14) := ⟨⟨by decide +kernel, by decide +kernel⟩, List.mem_of_getElem? (i := 628) (by decide +kernel), List.mem_of_getElem? (i := 743) (by decide +kernel), List.mem_of_getElem? (i := 744) (by decide +kernel)⟩
theorem lw_p24 : lw_okq (⟨"ShardGroupsModel", "configure", "(II)V"⟩, 14) := ⟨⟨by decide +kernel, by decide +kernel⟩, List.mem_of_getElem? (i := 628) (by decide +kernel), List.mem_of_getElem? (i := 747) (by decide +kernel), List.mem_of_getElem? (i := 748) (by decide +kernel)⟩
theorem lw_p25 : lw_okq (⟨"ShardGroupsModel", "settled", "()Z"⟩, 14) := ⟨⟨by decide +kernel, by decide +kernel⟩, List.mem_of_getElem? (i := 628) (by decide +kernel), List.mem_of_getElem? (i := 751) (by decide +kernel), List.mem_of_getElem? (i := 752) (by decide +kernel)⟩
theorem lw_p26 : lw_okq (⟨"ShardGroupsModel", "effect", "(I)V"⟩, 14) := ⟨⟨by decide +kernel, by decide +kernel⟩, List.mem_of_getElem? (i := 628) (by decide +kernel), List.mem_of_getElem? (i := 755) (by decide +kernel), List.mem_of_getElem? (i := 756) (by decide +kernel)⟩
theorem lw_p27 : lw_okq (⟨"ShardGroupsModel", "service", "(I)V"⟩, 14) := ⟨⟨by decide +kernel, by decide +kernel⟩, List.mem_of_getElem? (i := 628) (by decide +kernel), List.mem_of_getElem? (i := 759) (by decide +kernel), List.mem_of_getElem? (i := 760) (by decide +kernel)⟩
theorem lw_p28 : lw_okq (⟨"ShardGroupsModel", "alter", "(III)V"⟩, 14) := ⟨⟨by decide +kernel, by decide +kernel⟩, List.mem_of_getElem? (i := 628) (by decide +kernel), List.mem_of_getElem? (i := 763) (by decide +kernel), List.mem_of_getElem? (i := 764) (by decide +kernel)⟩
theorem lw_p29 : lw_okq (⟨"ShardGroupsModel", "extreme", "(IZ)I"⟩, 14) := ⟨⟨by decide +kernel, by decide +kernel⟩, List.mem_of_getElem? (i := 628) (by decide +kernel), List.mem_of_getElem? (i := 767) (by decide +kernel), List.mem_of_getElem? (i := 768) (by decide +kernel)⟩
theorem lw_p30 : lw_okq (⟨"ShardGroupsModel", "owned", "(II)I"⟩, 14) := ⟨⟨by decide +kernel, by decide +kernel⟩, List.mem_of_getElem? (i := 628) (by decide +kernel), List.mem_of_getElem? (i := 771) (by decide +kernel), List.mem_of_getElem? (i := 772) (by decide +kernel)⟩
theorem lw_p31 : lw_okq (⟨"ShardGroupsModel", "balance", "(I)V"⟩, 14) := ⟨⟨by decide +kernel, by decide +kernel⟩, List.mem_of_getElem? (i := 628) (by decide +kernel), List.mem_of_getElem? (i := 775) (by decide +kernel), List.mem_of_getElem? (i := 776) (by decide +kernel)⟩
def lw_privs_2 : List (MethodName × Nat) := [(⟨"ShardGroupsModel", "termAt", "(II)I"⟩, 14), (⟨"ShardGroupsModel", "raise", "(II)V"⟩, 14), (⟨"ShardGroupsModel", "say", "(IIIIII)V"⟩, 14), (⟨"ShardGroupsModel", "write", "(I)I"⟩, 14), (⟨"ShardGroupsModel", "copies", "(II)I"⟩, 14), (⟨"ShardGroupsModel", "noServer", "(I)Z"⟩, 14), (⟨"ShardGroupsModel", "noGroupNode", "(I)Z"⟩, 14), (⟨"ShardGroupsModel", "group", "(I)V"⟩, 14), (⟨"ShardGroupsModel", "configure", "(II)V"⟩, 14), (⟨"ShardGroupsModel", "settled", "()Z"⟩, 14), (⟨"ShardGroupsModel", "effect", "(I)V"⟩, 14), (⟨"ShardGroupsModel", "service", "(I)V"⟩, 14), (⟨"ShardGroupsModel", "alter", "(III)V"⟩, 14), (⟨"ShardGroupsModel", "extreme", "(IZ)I"⟩, 14), (⟨"ShardGroupsModel", "owned", "(II)I"⟩, 14), (⟨"ShardGroupsModel", "balance", "(I)V"⟩, 14)]
theorem lw_r2 : ∀ q ∈ lw_privs_2, lw_okq q := List.forall_mem_cons.mpr ⟨lw_p16, List.forall_mem_cons.mpr ⟨lw_p17, List.forall_mem_cons.mpr ⟨lw_p18, List.forall_mem_cons.mpr ⟨lw_p19, List.forall_mem_cons.mpr ⟨lw_p20, List.forall_mem_cons.mpr ⟨lw_p21, List.forall_mem_cons.mpr ⟨lw_p22, List.forall_mem_cons.mpr ⟨lw_p23, List.forall_mem_cons.mpr ⟨lw_p24, List.forall_mem_cons.mpr ⟨lw_p25, List.forall_mem_cons.mpr ⟨lw_p26, List.forall_mem_cons.mpr ⟨lw_p27, List.forall_mem_cons.mpr ⟨lw_p28, List.forall_mem_cons.mpr ⟨lw_p29, List.forall_mem_cons.mpr ⟨lw_p30, List.forall_mem_cons.mpr ⟨lw_p31, fun _ h => absurd h List.not_mem_nil⟩⟩⟩⟩⟩⟩⟩⟩⟩⟩⟩⟩⟩⟩⟩⟩
theorem lw_p32 : lw_okq (⟨"ShardGroupsModel", "has", "(II)Z"⟩, 14) := ⟨⟨by decide +kernel, by decide +kernel⟩, List.mem_of_getElem? (i := 628) (by decide +kernel), List.mem_of_getElem? (i := 815) (by decide +kernel), List.mem_of_getElem? (i := 816) (by decide +kernel)⟩
def lw_privs_3 : List (MethodName × Nat) := [(⟨"ShardGroupsModel", "has", "(II)Z"⟩, 14)]
theorem lw_r3 : ∀ q ∈ lw_privs_3, lw_okq q := List.forall_mem_cons.mpr ⟨lw_p32, fun _ h => absurd h List.not_mem_nil⟩
def lw_privs : List (MethodName × Nat) := lw_privs_1 ++ (lw_privs_2 ++ (lw_privs_3))
def lw_tbl : List Cond := k2_sels lw_privs ++ tables_1
theorem lw_privs_ok : ∀ q ∈ lw_privs, lw_okq q := by
  show ∀ q ∈ lw_privs_1 ++ (lw_privs_2 ++ (lw_privs_3)), lw_okq q
  exact List.forall_mem_append.mpr ⟨lw_r1, List.forall_mem_append.mpr ⟨lw_r2, lw_r3⟩⟩
end
section
def aWS : List Cond := lw_tbl.filter goodWord
theorem aWS_good : ∀ w ∈ aWS, (w.onTables && w.keeps) = true ∨ ∃ ty, w = .arrayClass ty := fun w h => good_of_word (List.mem_filter.mp h).2
theorem aWS_of {w : Cond} (i : Nat) (h : tables_1[i]? = some w) (hg : goodWord w = true) : w ∈ aWS := List.mem_filter.mpr ⟨List.mem_append_right _ (List.mem_of_getElem? h), hg⟩
theorem aWS_p {q : MethodName × Nat} (i : Nat) (h : lw_privs[i]? = some q) (hg : goodWord (Cond.selects q.1.cls q.1 q.1) = true) : Cond.selects q.1.cls q.1 q.1 ∈ aWS := List.mem_filter.mpr ⟨List.mem_append_left _ (List.mem_map.mpr ⟨q, List.mem_of_getElem? h, rfl⟩), hg⟩
def T_S : u_T := fun k => match k with
  | 0 => ("ShardGroups", "nodes", "[LShardGroups$Node;", true)
  | 1 => ("ShardGroups", "services", "[LShardGroups$ServiceNode;", true)
  | _ => ("ShardGroups", "stores", "[LShardGroups$StoreNode;", true)
def tt_S : Nat → FieldType := fun k => match k with
  | 0 => (.array (.object "ShardGroups$Node"))
  | 1 => (.array (.object "ShardGroups$ServiceNode"))
  | _ => (.array (.object "ShardGroups$StoreNode"))
theorem nm_S : ∀ a, a < 3 → ∀ b, b < 3 → a ≠ b → (T_S a).2.1 ≠ (T_S b).2.1 := by decide +kernel
theorem ty_S : ∀ k, k < 3 → parseFieldDescriptor (T_S k).2.2.1 = some (tt_S k) := by decide +kernel
def T_C : u_T := fun k => match k with
  | 0 => ("ShardGroups$Configuration", "members", "[Z", true)
  | 1 => ("ShardGroups$Configuration", "owners", "[I", true)
  | _ => ("ShardGroups$Configuration", "owned", "[I", true)
def tt_C : Nat → FieldType := fun k => match k with
  | 0 => (.array .boolean)
  | 1 => (.array .int)
  | _ => (.array .int)
theorem nm_C : ∀ a, a < 3 → ∀ b, b < 3 → a ≠ b → (T_C a).2.1 ≠ (T_C b).2.1 := by decide +kernel
theorem ty_C : ∀ k, k < 3 → parseFieldDescriptor (T_C k).2.2.1 = some (tt_C k) := by decide +kernel
def T_V : u_T := fun k => match k with
  | 0 => ("ShardGroups$Node", "up", "Z", false)
  | 1 => ("ShardGroups$Node", "leads", "Z", false)
  | 2 => ("ShardGroups$Node", "term", "I", false)
  | 3 => ("ShardGroups$Node", "length", "I", false)
  | 4 => ("ShardGroups$Node", "known", "I", false)
  | 5 => ("ShardGroups$Node", "log", "[LShardGroups$Entry;", true)
  | 6 => ("ShardGroups$ServiceNode", "configurations", "[LShardGroups$Configuration;", true)
  | _ => ("ShardGroups$ServiceNode", "last", "I", false)
def tt_V : Nat → FieldType := fun k => match k with
  | 0 => .boolean
  | 1 => .boolean
  | 2 => .int
  | 3 => .int
  | 4 => .int
  | 5 => (.array (.object "ShardGroups$Entry"))
  | 6 => (.array (.object "ShardGroups$Configuration"))
  | _ => .int
theorem nm_V : ∀ a, a < 8 → ∀ b, b < 8 → a ≠ b → (T_V a).2.1 ≠ (T_V b).2.1 := by decide +kernel
theorem ty_V : ∀ k, k < 8 → parseFieldDescriptor (T_V k).2.2.1 = some (tt_V k) := by decide +kernel
def T_T : u_T := fun k => match k with
  | 0 => ("ShardGroups$Node", "up", "Z", false)
  | 1 => ("ShardGroups$Node", "leads", "Z", false)
  | 2 => ("ShardGroups$Node", "term", "I", false)
  | 3 => ("ShardGroups$Node", "length", "I", false)
  | 4 => ("ShardGroups$Node", "known", "I", false)
  | 5 => ("ShardGroups$Node", "log", "[LShardGroups$Entry;", true)
  | 6 => ("ShardGroups$StoreNode", "group", "I", true)
  | 7 => ("ShardGroups$StoreNode", "number", "I", false)
  | 8 => ("ShardGroups$StoreNode", "current", "LShardGroups$Configuration;", false)
  | _ => ("ShardGroups$StoreNode", "shards", "[LShardGroups$Shard;", true)
def tt_T : Nat → FieldType := fun k => match k with
  | 0 => .boolean
  | 1 => .boolean
  | 2 => .int
  | 3 => .int
  | 4 => .int
  | 5 => (.array (.object "ShardGroups$Entry"))
  | 6 => .int
  | 7 => .int
  | 8 => (.object "ShardGroups$Configuration")
  | _ => (.array (.object "ShardGroups$Shard"))
theorem nm_T : ∀ a, a < 10 → ∀ b, b < 10 → a ≠ b → (T_T a).2.1 ≠ (T_T b).2.1 := by decide +kernel
theorem ty_T : ∀ k, k < 10 → parseFieldDescriptor (T_T k).2.2.1 = some (tt_T k) := by decide +kernel
def T_H : u_T := fun k => match k with
  | 0 => ("ShardGroups$Shard", "condition", "I", false)
  | 1 => ("ShardGroups$Shard", "values", "[I", true)
  | 2 => ("ShardGroups$Shard", "latest", "[I", true)
  | _ => ("ShardGroups$Shard", "answers", "[I", true)
def tt_H : Nat → FieldType := fun k => match k with
  | 0 => .int
  | 1 => (.array .int)
  | 2 => (.array .int)
  | _ => (.array .int)
theorem nm_H : ∀ a, a < 4 → ∀ b, b < 4 → a ≠ b → (T_H a).2.1 ≠ (T_H b).2.1 := by decide +kernel
theorem ty_H : ∀ k, k < 4 → parseFieldDescriptor (T_H k).2.2.1 = some (tt_H k) := by decide +kernel
def T_E : u_T := fun k => match k with
  | _ => ("ShardGroups$Entry", "term", "I", true)
def tt_E : Nat → FieldType := fun k => match k with
  | _ => .int
theorem nm_E : ∀ a, a < 1 → ∀ b, b < 1 → a ≠ b → (T_E a).2.1 ≠ (T_E b).2.1 := by decide +kernel
theorem ty_E : ∀ k, k < 1 → parseFieldDescriptor (T_E k).2.2.1 = some (tt_E k) := by decide +kernel
def T_G : u_T := fun k => match k with
  | 0 => ("ShardGroups$Entry", "term", "I", true)
  | 1 => ("ShardGroups$Change", "kind", "I", true)
  | 2 => ("ShardGroups$Change", "a", "I", true)
  | _ => ("ShardGroups$Change", "b", "I", true)
def tt_G : Nat → FieldType := fun k => match k with
  | 0 => .int
  | 1 => .int
  | 2 => .int
  | _ => .int
theorem nm_G : ∀ a, a < 4 → ∀ b, b < 4 → a ≠ b → (T_G a).2.1 ≠ (T_G b).2.1 := by decide +kernel
theorem ty_G : ∀ k, k < 4 → parseFieldDescriptor (T_G k).2.2.1 = some (tt_G k) := by decide +kernel
def T_F : u_T := fun k => match k with
  | 0 => ("ShardGroups$Entry", "term", "I", true)
  | 1 => ("ShardGroups$Configure", "c", "I", true)
  | _ => ("ShardGroups$Configure", "next", "LShardGroups$Configuration;", true)
def tt_F : Nat → FieldType := fun k => match k with
  | 0 => .int
  | 1 => .int
  | _ => (.object "ShardGroups$Configuration")
theorem nm_F : ∀ a, a < 3 → ∀ b, b < 3 → a ≠ b → (T_F a).2.1 ≠ (T_F b).2.1 := by decide +kernel
theorem ty_F : ∀ k, k < 3 → parseFieldDescriptor (T_F k).2.2.1 = some (tt_F k) := by decide +kernel
def T_R : u_T := fun k => match k with
  | 0 => ("ShardGroups$Entry", "term", "I", true)
  | 1 => ("ShardGroups$Request", "client", "I", true)
  | 2 => ("ShardGroups$Request", "number", "I", true)
  | 3 => ("ShardGroups$Request", "kind", "I", true)
  | 4 => ("ShardGroups$Request", "key", "I", true)
  | _ => ("ShardGroups$Request", "value", "I", true)
def tt_R : Nat → FieldType := fun k => match k with
  | 0 => .int
  | 1 => .int
  | 2 => .int
  | 3 => .int
  | 4 => .int
  | _ => .int
theorem nm_R : ∀ a, a < 6 → ∀ b, b < 6 → a ≠ b → (T_R a).2.1 ≠ (T_R b).2.1 := by decide +kernel
theorem ty_R : ∀ k, k < 6 → parseFieldDescriptor (T_R k).2.2.1 = some (tt_R k) := by decide +kernel
def T_I : u_T := fun k => match k with
  | 0 => ("ShardGroups$Entry", "term", "I", true)
  | 1 => ("ShardGroups$Insert", "shard", "I", true)
  | 2 => ("ShardGroups$Insert", "c", "I", true)
  | _ => ("ShardGroups$Insert", "contents", "LShardGroups$Shard;", true)
def tt_I : Nat → FieldType := fun k => match k with
  | 0 => .int
  | 1 => .int
  | 2 => .int
  | _ => (.object "ShardGroups$Shard")
theorem nm_I : ∀ a, a < 4 → ∀ b, b < 4 → a ≠ b → (T_I a).2.1 ≠ (T_I b).2.1 := by decide +kernel
theorem ty_I : ∀ k, k < 4 → parseFieldDescriptor (T_I k).2.2.1 = some (tt_I k) := by decide +kernel
def T_D : u_T := fun k => match k with
  | 0 => ("ShardGroups$Entry", "term", "I", true)
  | 1 => ("ShardGroups$Delete", "shard", "I", true)
  | _ => ("ShardGroups$Delete", "c", "I", true)
def tt_D : Nat → FieldType := fun k => match k with
  | 0 => .int
  | 1 => .int
  | _ => .int
theorem nm_D : ∀ a, a < 3 → ∀ b, b < 3 → a ≠ b → (T_D a).2.1 ≠ (T_D b).2.1 := by decide +kernel
theorem ty_D : ∀ k, k < 3 → parseFieldDescriptor (T_D k).2.2.1 = some (tt_D k) := by decide +kernel
def T_M : u_T := fun k => match k with
  | 0 => ("ShardGroupsModel", "off", "[Z", true)
  | 1 => ("ShardGroupsModel", "leads", "[Z", true)
  | 2 => ("ShardGroupsModel", "term", "[I", true)
  | 3 => ("ShardGroupsModel", "length", "[I", true)
  | 4 => ("ShardGroupsModel", "known", "[I", true)
  | 5 => ("ShardGroupsModel", "logs", "[I", true)
  | 6 => ("ShardGroupsModel", "entry", "[I", true)
  | 7 => ("ShardGroupsModel", "configurations", "I", false)
  | 8 => ("ShardGroupsModel", "members", "[I", true)
  | 9 => ("ShardGroupsModel", "owners", "[I", true)
  | 10 => ("ShardGroupsModel", "number", "I", false)
  | 11 => ("ShardGroupsModel", "owner", "[I", true)
  | 12 => ("ShardGroupsModel", "condition", "[I", true)
  | _ => ("ShardGroupsModel", "held", "[I", true)
def tt_M : Nat → FieldType := fun k => match k with
  | 0 => (.array .boolean)
  | 1 => (.array .boolean)
  | 2 => (.array .int)
  | 3 => (.array .int)
  | 4 => (.array .int)
  | 5 => (.array .int)
  | 6 => (.array .int)
  | 7 => .int
  | 8 => (.array .int)
  | 9 => (.array .int)
  | 10 => .int
  | 11 => (.array .int)
  | 12 => (.array .int)
  | _ => (.array .int)
theorem nm_M : ∀ a, a < 14 → ∀ b, b < 14 → a ≠ b → (T_M a).2.1 ≠ (T_M b).2.1 := by decide +kernel
theorem ty_M : ∀ k, k < 14 → parseFieldDescriptor (T_M k).2.2.1 = some (tt_M k) := by decide +kernel
def aCl : List vw_C := [("ShardGroups", T_S, 3), ("ShardGroups$Configuration", T_C, 3), ("ShardGroups$ServiceNode", T_V, 8), ("ShardGroups$StoreNode", T_T, 10), ("ShardGroups$Shard", T_H, 4), ("ShardGroups$Entry", T_E, 1), ("ShardGroups$Change", T_G, 4), ("ShardGroups$Configure", T_F, 3), ("ShardGroups$Request", T_R, 6), ("ShardGroups$Insert", T_I, 4), ("ShardGroups$Delete", T_D, 3), ("ShardGroupsModel", T_M, 14)]
def aRfL : List (List Bool) := [[true, true, true], [true, true, true], [false, false, false, false, false, true, true, false], [false, false, false, false, false, true, false, false, true, true], [false, true, true, true], [false], [false, false, false, false], [false, false, true], [false, false, false, false, false, false], [false, false, false, true], [false, false, false], [true, true, true, true, true, true, true, false, true, true, false, true, true, true]]
def aRf (ci k : Nat) : Bool := (aRfL.getD ci []).getD k false
def aT (cA : Nat → ClassId) : List (ClassId × FieldType) := [(cA 100, .int), (cA 101, .boolean), (cA 102, (.object "ShardGroups$Node")), (cA 103, (.object "ShardGroups$ServiceNode")), (cA 104, (.object "ShardGroups$StoreNode")), (cA 105, (.object "ShardGroups$Configuration")), (cA 106, (.object "ShardGroups$Entry")), (cA 107, (.object "ShardGroups$Shard"))]
def aNW : List Cond := [Cond.arrayOver (Jvm.ClassFile.FieldType.object "ShardGroups$Node"), Cond.arrayOver (Jvm.ClassFile.FieldType.object "ShardGroups$ServiceNode"), Cond.arrayOver (Jvm.ClassFile.FieldType.object "ShardGroups$StoreNode"), Cond.methodLinkNest "ShardGroups$ServiceNode" 3 ⟨"ShardGroups$Node", "<init>", "()V"⟩ "ShardGroups", Cond.arrayOver (Jvm.ClassFile.FieldType.object "ShardGroups$Entry"), Cond.arrayOver (Jvm.ClassFile.FieldType.object "ShardGroups$Configuration"), Cond.methodLinkNest "ShardGroups$StoreNode" 3 ⟨"ShardGroups$Node", "<init>", "()V"⟩ "ShardGroups", Cond.arrayOver (Jvm.ClassFile.FieldType.object "ShardGroups$Shard"), Cond.methodLinkNest "ShardGroups$StoreNode" 25 ⟨"ShardGroups$Shard", "<init>", "()V"⟩ "ShardGroups", Cond.declares ⟨"ShardGroups$Node", "carryOut", "(LShardGroups$Entry;)V"⟩, Cond.methodLinkNest "ShardGroups$Request" 31 ⟨"ShardGroups", "shardOf", "(I)I"⟩ "ShardGroups", Cond.methodLinkNest "ShardGroups$Shard" 42 ⟨"ShardGroups", "placeInShard", "(I)I"⟩ "ShardGroups", Cond.declares ⟨"ShardGroups$Node", "write", "(LShardGroups$Entry;)I"⟩, Cond.methodLinkNest "ShardGroups$Insert" 11 ⟨"ShardGroups$Shard", "<init>", "()V"⟩ "ShardGroups", Cond.declares ⟨"ShardGroups$Node", "lastNumber", "()I"⟩, Cond.castable "ShardGroups$ServiceNode" "ShardGroups$Node", Cond.castable "ShardGroups$StoreNode" "ShardGroups$Node", Cond.castable "ShardGroups$Change" "ShardGroups$Entry", Cond.castable "ShardGroups$Configure" "ShardGroups$Entry", Cond.castable "ShardGroups$Delete" "ShardGroups$Entry", Cond.castable "ShardGroups$Insert" "ShardGroups$Entry", Cond.castable "ShardGroups$Request" "ShardGroups$Entry"]
theorem aNW_same {s U : State} (hv : s.vm = U.vm) : ∀ w ∈ aNW, va_Nw w s → va_Nw w U := by
  unfold aNW
  exact List.forall_mem_cons.mpr ⟨va_AO.moved (by rw [hv]; exact Vm.Alike.refl _), List.forall_mem_cons.mpr ⟨va_AO.moved (by rw [hv]; exact Vm.Alike.refl _), List.forall_mem_cons.mpr ⟨va_AO.moved (by rw [hv]; exact Vm.Alike.refl _), List.forall_mem_cons.mpr ⟨va_Nw.same rfl hv, List.forall_mem_cons.mpr ⟨va_AO.moved (by rw [hv]; exact Vm.Alike.refl _), List.forall_mem_cons.mpr ⟨va_AO.moved (by rw [hv]; exact Vm.Alike.refl _), List.forall_mem_cons.mpr ⟨va_Nw.same rfl hv, List.forall_mem_cons.mpr ⟨va_AO.moved (by rw [hv]; exact Vm.Alike.refl _), List.forall_mem_cons.mpr ⟨va_Nw.same rfl hv, List.forall_mem_cons.mpr ⟨va_Nw.same rfl hv, List.forall_mem_cons.mpr ⟨va_Nw.same rfl hv, List.forall_mem_cons.mpr ⟨va_Nw.same rfl hv, List.forall_mem_cons.mpr ⟨va_Nw.same rfl hv, List.forall_mem_cons.mpr ⟨va_Nw.same rfl hv, List.forall_mem_cons.mpr ⟨va_Nw.same rfl hv, List.forall_mem_cons.mpr ⟨va_Nw.same rfl hv, List.forall_mem_cons.mpr ⟨va_Nw.same rfl hv, List.forall_mem_cons.mpr ⟨va_Nw.same rfl hv, List.forall_mem_cons.mpr ⟨va_Nw.same rfl hv, List.forall_mem_cons.mpr ⟨va_Nw.same rfl hv, List.forall_mem_cons.mpr ⟨va_Nw.same rfl hv, List.forall_mem_cons.mpr ⟨va_Nw.same rfl hv, fun _ h => absurd h List.not_mem_nil⟩⟩⟩⟩⟩⟩⟩⟩⟩⟩⟩⟩⟩⟩⟩⟩⟩⟩⟩⟩⟩⟩
theorem aNW_warm {s U : State} (hW : s.WarmedH U.vm) : ∀ w ∈ aNW, va_Nw w s → va_Nw w U := by
  unfold aNW
  exact List.forall_mem_cons.mpr ⟨va_AO.moved hW.alike, List.forall_mem_cons.mpr ⟨va_AO.moved hW.alike, List.forall_mem_cons.mpr ⟨va_AO.moved hW.alike, List.forall_mem_cons.mpr ⟨va_Nw.warmM hW, List.forall_mem_cons.mpr ⟨va_AO.moved hW.alike, List.forall_mem_cons.mpr ⟨va_AO.moved hW.alike, List.forall_mem_cons.mpr ⟨va_Nw.warmM hW, List.forall_mem_cons.mpr ⟨va_AO.moved hW.alike, List.forall_mem_cons.mpr ⟨va_Nw.warmM hW, List.forall_mem_cons.mpr ⟨va_Nw.warmD hW, List.forall_mem_cons.mpr ⟨va_Nw.warmM hW, List.forall_mem_cons.mpr ⟨va_Nw.warmM hW, List.forall_mem_cons.mpr ⟨va_Nw.warmD hW, List.forall_mem_cons.mpr ⟨va_Nw.warmM hW, List.forall_mem_cons.mpr ⟨va_Nw.warmD hW, List.forall_mem_cons.mpr ⟨va_Nw.warmC hW, List.forall_mem_cons.mpr ⟨va_Nw.warmC hW, List.forall_mem_cons.mpr ⟨va_Nw.warmC hW, List.forall_mem_cons.mpr ⟨va_Nw.warmC hW, List.forall_mem_cons.mpr ⟨va_Nw.warmC hW, List.forall_mem_cons.mpr ⟨va_Nw.warmC hW, List.forall_mem_cons.mpr ⟨va_Nw.warmC hW, fun _ h => absurd h List.not_mem_nil⟩⟩⟩⟩⟩⟩⟩⟩⟩⟩⟩⟩⟩⟩⟩⟩⟩⟩⟩⟩⟩⟩
theorem nw0 : Cond.arrayOver (Jvm.ClassFile.FieldType.object "ShardGroups$Node") ∈ aNW := List.mem_of_getElem? (i := 0) rfl
theorem nw1 : Cond.arrayOver (Jvm.ClassFile.FieldType.object "ShardGroups$ServiceNode") ∈ aNW := List.mem_of_getElem? (i := 1) rfl
theorem nw2 : Cond.arrayOver (Jvm.ClassFile.FieldType.object "ShardGroups$StoreNode") ∈ aNW := List.mem_of_getElem? (i := 2) rfl
theorem nw3 : Cond.methodLinkNest "ShardGroups$ServiceNode" 3 ⟨"ShardGroups$Node", "<init>", "()V"⟩ "ShardGroups" ∈ aNW := List.mem_of_getElem? (i := 3) rfl
theorem nw4 : Cond.arrayOver (Jvm.ClassFile.FieldType.object "ShardGroups$Entry") ∈ aNW := List.mem_of_getElem? (i := 4) rfl
theorem nw5 : Cond.arrayOver (Jvm.ClassFile.FieldType.object "ShardGroups$Configuration") ∈ aNW := List.mem_of_getElem? (i := 5) rfl
theorem nw6 : Cond.methodLinkNest "ShardGroups$StoreNode" 3 ⟨"ShardGroups$Node", "<init>", "()V"⟩ "ShardGroups" ∈ aNW := List.mem_of_getElem? (i := 6) rfl
theorem nw7 : Cond.arrayOver (Jvm.ClassFile.FieldType.object "ShardGroups$Shard") ∈ aNW := List.mem_of_getElem? (i := 7) rfl
theorem nw8 : Cond.methodLinkNest "ShardGroups$StoreNode" 25 ⟨"ShardGroups$Shard", "<init>", "()V"⟩ "ShardGroups" ∈ aNW := List.mem_of_getElem? (i := 8) rfl
theorem nw9 : Cond.declares ⟨"ShardGroups$Node", "carryOut", "(LShardGroups$Entry;)V"⟩ ∈ aNW := List.mem_of_getElem? (i := 9) rfl
theorem nw10 : Cond.methodLinkNest "ShardGroups$Request" 31 ⟨"ShardGroups", "shardOf", "(I)I"⟩ "ShardGroups" ∈ aNW := List.mem_of_getElem? (i := 10) rfl
theorem nw11 : Cond.methodLinkNest "ShardGroups$Shard" 42 ⟨"ShardGroups", "placeInShard", "(I)I"⟩ "ShardGroups" ∈ aNW := List.mem_of_getElem? (i := 11) rfl
theorem nw12 : Cond.declares ⟨"ShardGroups$Node", "write", "(LShardGroups$Entry;)I"⟩ ∈ aNW := List.mem_of_getElem? (i := 12) rfl
theorem nw13 : Cond.methodLinkNest "ShardGroups$Insert" 11 ⟨"ShardGroups$Shard", "<init>", "()V"⟩ "ShardGroups" ∈ aNW := List.mem_of_getElem? (i := 13) rfl
theorem nw14 : Cond.declares ⟨"ShardGroups$Node", "lastNumber", "()I"⟩ ∈ aNW := List.mem_of_getElem? (i := 14) rfl
theorem nw15 : Cond.castable "ShardGroups$ServiceNode" "ShardGroups$Node" ∈ aNW := List.mem_of_getElem? (i := 15) rfl
theorem nw16 : Cond.castable "ShardGroups$StoreNode" "ShardGroups$Node" ∈ aNW := List.mem_of_getElem? (i := 16) rfl
theorem nw17 : Cond.castable "ShardGroups$Change" "ShardGroups$Entry" ∈ aNW := List.mem_of_getElem? (i := 17) rfl
theorem nw18 : Cond.castable "ShardGroups$Configure" "ShardGroups$Entry" ∈ aNW := List.mem_of_getElem? (i := 18) rfl
theorem nw19 : Cond.castable "ShardGroups$Delete" "ShardGroups$Entry" ∈ aNW := List.mem_of_getElem? (i := 19) rfl
theorem nw20 : Cond.castable "ShardGroups$Insert" "ShardGroups$Entry" ∈ aNW := List.mem_of_getElem? (i := 20) rfl
theorem nw21 : Cond.castable "ShardGroups$Request" "ShardGroups$Entry" ∈ aNW := List.mem_of_getElem? (i := 21) rfl
end
section
theorem w0 : Cond.initialized "ShardGroupsLaw" ∈ aWS := aWS_of 0 (by decide +kernel) rfl
theorem w1 : Cond.initialized "ShardGroups" ∈ aWS := aWS_of 1 (by decide +kernel) rfl
theorem w2 : Cond.initialized "ShardGroups$Configuration" ∈ aWS := aWS_of 2 (by decide +kernel) rfl
theorem w3 : Cond.initialized "ShardGroups$Node" ∈ aWS := aWS_of 3 (by decide +kernel) rfl
theorem w4 : Cond.initialized "ShardGroups$ServiceNode" ∈ aWS := aWS_of 4 (by decide +kernel) rfl
theorem w5 : Cond.initialized "ShardGroups$StoreNode" ∈ aWS := aWS_of 5 (by decide +kernel) rfl
theorem w6 : Cond.initialized "ShardGroups$Shard" ∈ aWS := aWS_of 6 (by decide +kernel) rfl
theorem w7 : Cond.initialized "ShardGroupsModel" ∈ aWS := aWS_of 7 (by decide +kernel) rfl
theorem w8 : Cond.initialized "java/lang/Math" ∈ aWS := aWS_of 8 (by decide +kernel) rfl
theorem w9 : Cond.initialized "ShardGroups$Entry" ∈ aWS := aWS_of 9 (by decide +kernel) rfl
theorem w10 : Cond.initialized "java/lang/System" ∈ aWS := aWS_of 10 (by decide +kernel) rfl
theorem w11 : Cond.initialized "ShardGroups$Change" ∈ aWS := aWS_of 11 (by decide +kernel) rfl
theorem w12 : Cond.initialized "ShardGroups$Request" ∈ aWS := aWS_of 12 (by decide +kernel) rfl
theorem w13 : Cond.initialized "ShardGroups$Configure" ∈ aWS := aWS_of 13 (by decide +kernel) rfl
theorem w14 : Cond.initialized "ShardGroups$Insert" ∈ aWS := aWS_of 14 (by decide +kernel) rfl
theorem w15 : Cond.initialized "ShardGroups$Delete" ∈ aWS := aWS_of 15 (by decide +kernel) rfl
theorem w16 : Cond.classLink "ShardGroupsLaw" 7 "ShardGroups" ∈ aWS := aWS_of 16 (by decide +kernel) rfl
theorem w17 : Cond.instantiable "ShardGroups" 3 ∈ aWS := aWS_of 17 (by decide +kernel) rfl
theorem w18 : Cond.methodLink "ShardGroupsLaw" 9 ⟨"ShardGroups", "<init>", "()V"⟩ ∈ aWS := aWS_of 18 (by decide +kernel) rfl
theorem w19 : Cond.instanceMethod ⟨"ShardGroups", "<init>", "()V"⟩ ∈ aWS := aWS_of 19 (by decide +kernel) rfl
theorem w20 : Cond.code ⟨"ShardGroups", "<init>", "()V"⟩ prog_1_method_1_code 3 (Option.none : Option Jvm.ClassFile.FieldType) ∈ aWS := aWS_of 20 (by decide +kernel) rfl
theorem w21 : Cond.methodLink "ShardGroups" 3 ⟨"java/lang/Object", "<init>", "()V"⟩ ∈ aWS := aWS_of 21 (by decide +kernel) rfl
theorem w22 : Cond.instanceMethod ⟨"java/lang/Object", "<init>", "()V"⟩ ∈ aWS := aWS_of 22 (by decide +kernel) rfl
theorem w23 : Cond.code ⟨"java/lang/Object", "<init>", "()V"⟩ object_method_1_code 1 (Option.none : Option Jvm.ClassFile.FieldType) ∈ aWS := aWS_of 23 (by decide +kernel) rfl
theorem w24 : Cond.classLink "ShardGroups" 9 "ShardGroups$Node" ∈ aWS := aWS_of 24 (by decide +kernel) rfl
theorem w26 : Cond.classLink "ShardGroups" 15 "ShardGroups$ServiceNode" ∈ aWS := aWS_of 26 (by decide +kernel) rfl
theorem w28 : Cond.classLink "ShardGroups" 21 "ShardGroups$StoreNode" ∈ aWS := aWS_of 28 (by decide +kernel) rfl
theorem w30 : Cond.classLink "ShardGroups" 27 "ShardGroups$Configuration" ∈ aWS := aWS_of 30 (by decide +kernel) rfl
theorem w31 : Cond.instantiable "ShardGroups$Configuration" 3 ∈ aWS := aWS_of 31 (by decide +kernel) rfl
theorem w32 : Cond.methodLink "ShardGroups" 29 ⟨"ShardGroups$Configuration", "<init>", "()V"⟩ ∈ aWS := aWS_of 32 (by decide +kernel) rfl
theorem w33 : Cond.instanceMethod ⟨"ShardGroups$Configuration", "<init>", "()V"⟩ ∈ aWS := aWS_of 33 (by decide +kernel) rfl
theorem w34 : Cond.code ⟨"ShardGroups$Configuration", "<init>", "()V"⟩ prog_3_method_1_code 1 (Option.none : Option Jvm.ClassFile.FieldType) ∈ aWS := aWS_of 34 (by decide +kernel) rfl
theorem w35 : Cond.methodLink "ShardGroups$Configuration" 3 ⟨"java/lang/Object", "<init>", "()V"⟩ ∈ aWS := aWS_of 35 (by decide +kernel) rfl
theorem w36 : Cond.fieldLink "ShardGroups$Configuration" 9 "ShardGroups$Configuration" "members" "[Z" ∈ aWS := aWS_of 36 (by decide +kernel) rfl
theorem w37 : Cond.fieldLink "ShardGroups$Change" 56 "ShardGroups$Configuration" "members" "[Z" ∈ aWS := aWS_of 37 (by decide +kernel) rfl
theorem w38 : Cond.fieldLink "ShardGroups$Configuration" 15 "ShardGroups$Configuration" "owners" "[I" ∈ aWS := aWS_of 38 (by decide +kernel) rfl
theorem w39 : Cond.fieldLink "ShardGroups$StoreNode" 42 "ShardGroups$Configuration" "owners" "[I" ∈ aWS := aWS_of 39 (by decide +kernel) rfl
theorem w40 : Cond.fieldLink "ShardGroups" 172 "ShardGroups$Configuration" "owners" "[I" ∈ aWS := aWS_of 40 (by decide +kernel) rfl
theorem w41 : Cond.fieldLink "ShardGroups$Configuration" 19 "ShardGroups$Configuration" "owned" "[I" ∈ aWS := aWS_of 41 (by decide +kernel) rfl
theorem w42 : Cond.laysFinal "ShardGroups$Configuration" "ShardGroups$Configuration" "members" "[Z" ∈ aWS := aWS_of 42 (by decide +kernel) rfl
theorem w44 : Cond.laysFinal "ShardGroups$Configuration" "ShardGroups$Configuration" "owners" "[I" ∈ aWS := aWS_of 44 (by decide +kernel) rfl
theorem w46 : Cond.laysFinal "ShardGroups$Configuration" "ShardGroups$Configuration" "owned" "[I" ∈ aWS := aWS_of 46 (by decide +kernel) rfl
theorem w49 : Cond.arrayClass Jvm.ClassFile.FieldType.boolean ∈ aWS := aWS_of 49 (by decide +kernel) rfl
theorem w50 : Cond.arrayClass Jvm.ClassFile.FieldType.int ∈ aWS := aWS_of 50 (by decide +kernel) rfl
theorem w51 : Cond.instantiable "ShardGroups$ServiceNode" 8 ∈ aWS := aWS_of 51 (by decide +kernel) rfl
theorem w52 : Cond.methodLink "ShardGroups" 30 ⟨"ShardGroups$ServiceNode", "<init>", "(LShardGroups$Configuration;)V"⟩ ∈ aWS := aWS_of 52 (by decide +kernel) rfl
theorem w53 : Cond.instanceMethod ⟨"ShardGroups$ServiceNode", "<init>", "(LShardGroups$Configuration;)V"⟩ ∈ aWS := aWS_of 53 (by decide +kernel) rfl
theorem w54 : Cond.code ⟨"ShardGroups$ServiceNode", "<init>", "(LShardGroups$Configuration;)V"⟩ prog_10_method_1_code 2 (Option.none : Option Jvm.ClassFile.FieldType) ∈ aWS := aWS_of 54 (by decide +kernel) rfl
theorem w56 : Cond.instanceMethod ⟨"ShardGroups$Node", "<init>", "()V"⟩ ∈ aWS := aWS_of 56 (by decide +kernel) rfl
theorem w57 : Cond.code ⟨"ShardGroups$Node", "<init>", "()V"⟩ prog_8_method_1_code 1 (Option.none : Option Jvm.ClassFile.FieldType) ∈ aWS := aWS_of 57 (by decide +kernel) rfl
theorem w58 : Cond.methodLink "ShardGroups$Node" 3 ⟨"java/lang/Object", "<init>", "()V"⟩ ∈ aWS := aWS_of 58 (by decide +kernel) rfl
theorem w59 : Cond.classLink "ShardGroups$Node" 15 "ShardGroups$Entry" ∈ aWS := aWS_of 59 (by decide +kernel) rfl
theorem w61 : Cond.classLink "ShardGroups$ServiceNode" 9 "ShardGroups$Configuration" ∈ aWS := aWS_of 61 (by decide +kernel) rfl
theorem w63 : Cond.fieldLink "ShardGroups$ServiceNode" 11 "ShardGroups$ServiceNode" "configurations" "[LShardGroups$Configuration;" ∈ aWS := aWS_of 63 (by decide +kernel) rfl
theorem w64 : Cond.fieldLink "ShardGroups$Change" 21 "ShardGroups$ServiceNode" "configurations" "[LShardGroups$Configuration;" ∈ aWS := aWS_of 64 (by decide +kernel) rfl
theorem w65 : Cond.fieldLink "ShardGroups" 144 "ShardGroups$ServiceNode" "configurations" "[LShardGroups$Configuration;" ∈ aWS := aWS_of 65 (by decide +kernel) rfl
theorem w66 : Cond.fieldLink "ShardGroups$Change" 27 "ShardGroups$ServiceNode" "last" "I" ∈ aWS := aWS_of 66 (by decide +kernel) rfl
theorem w67 : Cond.fieldLink "ShardGroups$ServiceNode" 23 "ShardGroups$ServiceNode" "last" "I" ∈ aWS := aWS_of 67 (by decide +kernel) rfl
theorem w68 : Cond.fieldLink "ShardGroups" 139 "ShardGroups$ServiceNode" "last" "I" ∈ aWS := aWS_of 68 (by decide +kernel) rfl
theorem w69 : Cond.fieldLink "ShardGroups$Node" 9 "ShardGroups$Node" "up" "Z" ∈ aWS := aWS_of 69 (by decide +kernel) rfl
theorem w70 : Cond.fieldLink "ShardGroups" 44 "ShardGroups$Node" "up" "Z" ∈ aWS := aWS_of 70 (by decide +kernel) rfl
theorem w71 : Cond.fieldLink "ShardGroups" 217 "ShardGroups$ServiceNode" "up" "Z" ∈ aWS := aWS_of 71 (by decide +kernel) rfl
theorem w72 : Cond.sameField "ShardGroups$ServiceNode" "ShardGroups$Node" "up" "Z" ∈ aWS := aWS_of 72 (by decide +kernel) rfl
theorem w73 : Cond.fieldLink "ShardGroups" 218 "ShardGroups$StoreNode" "up" "Z" ∈ aWS := aWS_of 73 (by decide +kernel) rfl
theorem w74 : Cond.sameField "ShardGroups$StoreNode" "ShardGroups$Node" "up" "Z" ∈ aWS := aWS_of 74 (by decide +kernel) rfl
theorem w75 : Cond.fieldLink "ShardGroups" 48 "ShardGroups$Node" "leads" "Z" ∈ aWS := aWS_of 75 (by decide +kernel) rfl
theorem w76 : Cond.fieldLink "ShardGroups$Node" 25 "ShardGroups$Node" "leads" "Z" ∈ aWS := aWS_of 76 (by decide +kernel) rfl
theorem w77 : Cond.fieldLink "ShardGroups" 105 "ShardGroups$ServiceNode" "leads" "Z" ∈ aWS := aWS_of 77 (by decide +kernel) rfl
theorem w78 : Cond.sameField "ShardGroups$ServiceNode" "ShardGroups$Node" "leads" "Z" ∈ aWS := aWS_of 78 (by decide +kernel) rfl
theorem w79 : Cond.fieldLink "ShardGroups" 124 "ShardGroups$StoreNode" "leads" "Z" ∈ aWS := aWS_of 79 (by decide +kernel) rfl
theorem w80 : Cond.sameField "ShardGroups$StoreNode" "ShardGroups$Node" "leads" "Z" ∈ aWS := aWS_of 80 (by decide +kernel) rfl
theorem w81 : Cond.fieldLink "ShardGroups$Node" 21 "ShardGroups$Node" "term" "I" ∈ aWS := aWS_of 81 (by decide +kernel) rfl
theorem w82 : Cond.fieldLink "ShardGroups" 54 "ShardGroups$Node" "term" "I" ∈ aWS := aWS_of 82 (by decide +kernel) rfl
theorem w83 : Cond.fieldLink "ShardGroups" 108 "ShardGroups$ServiceNode" "term" "I" ∈ aWS := aWS_of 83 (by decide +kernel) rfl
theorem w84 : Cond.sameField "ShardGroups$ServiceNode" "ShardGroups$Node" "term" "I" ∈ aWS := aWS_of 84 (by decide +kernel) rfl
theorem w85 : Cond.fieldLink "ShardGroups" 127 "ShardGroups$StoreNode" "term" "I" ∈ aWS := aWS_of 85 (by decide +kernel) rfl
theorem w86 : Cond.sameField "ShardGroups$StoreNode" "ShardGroups$Node" "term" "I" ∈ aWS := aWS_of 86 (by decide +kernel) rfl
theorem w87 : Cond.fieldLink "ShardGroups" 94 "ShardGroups$Node" "length" "I" ∈ aWS := aWS_of 87 (by decide +kernel) rfl
theorem w88 : Cond.fieldLink "ShardGroups$Node" 40 "ShardGroups$Node" "length" "I" ∈ aWS := aWS_of 88 (by decide +kernel) rfl
theorem w89 : Cond.fieldLink "ShardGroups" 91 "ShardGroups$Node" "known" "I" ∈ aWS := aWS_of 89 (by decide +kernel) rfl
theorem w90 : Cond.fieldLink "ShardGroups$Node" 58 "ShardGroups$Node" "known" "I" ∈ aWS := aWS_of 90 (by decide +kernel) rfl
theorem w91 : Cond.fieldLink "ShardGroups$Node" 17 "ShardGroups$Node" "log" "[LShardGroups$Entry;" ∈ aWS := aWS_of 91 (by decide +kernel) rfl
theorem w92 : Cond.laysFinal "ShardGroups$ServiceNode" "ShardGroups$ServiceNode" "configurations" "[LShardGroups$Configuration;" ∈ aWS := aWS_of 92 (by decide +kernel) rfl
theorem w94 : Cond.lays "ShardGroups$ServiceNode" "ShardGroups$ServiceNode" "last" "I" ∈ aWS := aWS_of 94 (by decide +kernel) rfl
theorem w96 : Cond.lays "ShardGroups$ServiceNode" "ShardGroups$Node" "up" "Z" ∈ aWS := aWS_of 96 (by decide +kernel) rfl
theorem w98 : Cond.lays "ShardGroups$ServiceNode" "ShardGroups$Node" "leads" "Z" ∈ aWS := aWS_of 98 (by decide +kernel) rfl
theorem w100 : Cond.lays "ShardGroups$ServiceNode" "ShardGroups$Node" "term" "I" ∈ aWS := aWS_of 100 (by decide +kernel) rfl
theorem w102 : Cond.lays "ShardGroups$ServiceNode" "ShardGroups$Node" "length" "I" ∈ aWS := aWS_of 102 (by decide +kernel) rfl
theorem w104 : Cond.lays "ShardGroups$ServiceNode" "ShardGroups$Node" "known" "I" ∈ aWS := aWS_of 104 (by decide +kernel) rfl
theorem w106 : Cond.laysFinal "ShardGroups$ServiceNode" "ShardGroups$Node" "log" "[LShardGroups$Entry;" ∈ aWS := aWS_of 106 (by decide +kernel) rfl
theorem w109 : Cond.instantiable "ShardGroups$StoreNode" 10 ∈ aWS := aWS_of 109 (by decide +kernel) rfl
theorem w110 : Cond.methodLink "ShardGroups" 33 ⟨"ShardGroups", "groupOf", "(I)I"⟩ ∈ aWS := aWS_of 110 (by decide +kernel) rfl
theorem w111 : Cond.static ⟨"ShardGroups", "groupOf", "(I)I"⟩ ∈ aWS := aWS_of 111 (by decide +kernel) rfl
theorem w112 : Cond.code ⟨"ShardGroups", "groupOf", "(I)I"⟩ prog_1_method_20_code 1 (Option.some Jvm.ClassFile.FieldType.int) ∈ aWS := aWS_of 112 (by decide +kernel) rfl
theorem w113 : Cond.methodLink "ShardGroups" 37 ⟨"ShardGroups$StoreNode", "<init>", "(ILShardGroups$Configuration;)V"⟩ ∈ aWS := aWS_of 113 (by decide +kernel) rfl
theorem w114 : Cond.instanceMethod ⟨"ShardGroups$StoreNode", "<init>", "(ILShardGroups$Configuration;)V"⟩ ∈ aWS := aWS_of 114 (by decide +kernel) rfl
theorem w115 : Cond.code ⟨"ShardGroups$StoreNode", "<init>", "(ILShardGroups$Configuration;)V"⟩ prog_12_method_1_code 4 (Option.none : Option Jvm.ClassFile.FieldType) ∈ aWS := aWS_of 115 (by decide +kernel) rfl
theorem w117 : Cond.classLink "ShardGroups$StoreNode" 9 "ShardGroups$Shard" ∈ aWS := aWS_of 117 (by decide +kernel) rfl
theorem w119 : Cond.instantiable "ShardGroups$Shard" 4 ∈ aWS := aWS_of 119 (by decide +kernel) rfl
theorem w121 : Cond.instanceMethod ⟨"ShardGroups$Shard", "<init>", "()V"⟩ ∈ aWS := aWS_of 121 (by decide +kernel) rfl
theorem w122 : Cond.code ⟨"ShardGroups$Shard", "<init>", "()V"⟩ prog_11_method_1_code 1 (Option.none : Option Jvm.ClassFile.FieldType) ∈ aWS := aWS_of 122 (by decide +kernel) rfl
theorem w123 : Cond.methodLink "ShardGroups$Shard" 3 ⟨"java/lang/Object", "<init>", "()V"⟩ ∈ aWS := aWS_of 123 (by decide +kernel) rfl
theorem w124 : Cond.fieldLink "ShardGroups$Shard" 9 "ShardGroups$Shard" "condition" "I" ∈ aWS := aWS_of 124 (by decide +kernel) rfl
theorem w125 : Cond.fieldLink "ShardGroups$Delete" 24 "ShardGroups$Shard" "condition" "I" ∈ aWS := aWS_of 125 (by decide +kernel) rfl
theorem w126 : Cond.fieldLink "ShardGroups$Insert" 37 "ShardGroups$Shard" "condition" "I" ∈ aWS := aWS_of 126 (by decide +kernel) rfl
theorem w127 : Cond.fieldLink "ShardGroups$StoreNode" 35 "ShardGroups$Shard" "condition" "I" ∈ aWS := aWS_of 127 (by decide +kernel) rfl
theorem w128 : Cond.fieldLink "ShardGroups" 158 "ShardGroups$Shard" "condition" "I" ∈ aWS := aWS_of 128 (by decide +kernel) rfl
theorem w129 : Cond.fieldLink "ShardGroups$Shard" 15 "ShardGroups$Shard" "values" "[I" ∈ aWS := aWS_of 129 (by decide +kernel) rfl
theorem w130 : Cond.fieldLink "ShardGroups" 202 "ShardGroups$Shard" "values" "[I" ∈ aWS := aWS_of 130 (by decide +kernel) rfl
theorem w131 : Cond.fieldLink "ShardGroups$Shard" 19 "ShardGroups$Shard" "latest" "[I" ∈ aWS := aWS_of 131 (by decide +kernel) rfl
theorem w132 : Cond.fieldLink "ShardGroups" 208 "ShardGroups$Shard" "latest" "[I" ∈ aWS := aWS_of 132 (by decide +kernel) rfl
theorem w133 : Cond.fieldLink "ShardGroups$Shard" 22 "ShardGroups$Shard" "answers" "[I" ∈ aWS := aWS_of 133 (by decide +kernel) rfl
theorem w134 : Cond.fieldLink "ShardGroups" 211 "ShardGroups$Shard" "answers" "[I" ∈ aWS := aWS_of 134 (by decide +kernel) rfl
theorem w135 : Cond.lays "ShardGroups$Shard" "ShardGroups$Shard" "condition" "I" ∈ aWS := aWS_of 135 (by decide +kernel) rfl
theorem w137 : Cond.laysFinal "ShardGroups$Shard" "ShardGroups$Shard" "values" "[I" ∈ aWS := aWS_of 137 (by decide +kernel) rfl
theorem w139 : Cond.laysFinal "ShardGroups$Shard" "ShardGroups$Shard" "latest" "[I" ∈ aWS := aWS_of 139 (by decide +kernel) rfl
theorem w141 : Cond.laysFinal "ShardGroups$Shard" "ShardGroups$Shard" "answers" "[I" ∈ aWS := aWS_of 141 (by decide +kernel) rfl
theorem w144 : Cond.fieldLink "ShardGroups$StoreNode" 17 "ShardGroups$StoreNode" "group" "I" ∈ aWS := aWS_of 144 (by decide +kernel) rfl
theorem w145 : Cond.fieldLink "ShardGroups" 176 "ShardGroups$StoreNode" "group" "I" ∈ aWS := aWS_of 145 (by decide +kernel) rfl
theorem w146 : Cond.fieldLink "ShardGroups$Delete" 29 "ShardGroups$StoreNode" "number" "I" ∈ aWS := aWS_of 146 (by decide +kernel) rfl
theorem w147 : Cond.fieldLink "ShardGroups$Insert" 40 "ShardGroups$StoreNode" "number" "I" ∈ aWS := aWS_of 147 (by decide +kernel) rfl
theorem w148 : Cond.fieldLink "ShardGroups$StoreNode" 32 "ShardGroups$StoreNode" "number" "I" ∈ aWS := aWS_of 148 (by decide +kernel) rfl
theorem w149 : Cond.fieldLink "ShardGroups" 132 "ShardGroups$StoreNode" "number" "I" ∈ aWS := aWS_of 149 (by decide +kernel) rfl
theorem w150 : Cond.fieldLink "ShardGroups$StoreNode" 21 "ShardGroups$StoreNode" "current" "LShardGroups$Configuration;" ∈ aWS := aWS_of 150 (by decide +kernel) rfl
theorem w151 : Cond.fieldLink "ShardGroups" 168 "ShardGroups$StoreNode" "current" "LShardGroups$Configuration;" ∈ aWS := aWS_of 151 (by decide +kernel) rfl
theorem w152 : Cond.fieldLink "ShardGroups$StoreNode" 11 "ShardGroups$StoreNode" "shards" "[LShardGroups$Shard;" ∈ aWS := aWS_of 152 (by decide +kernel) rfl
theorem w153 : Cond.fieldLink "ShardGroups$Delete" 18 "ShardGroups$StoreNode" "shards" "[LShardGroups$Shard;" ∈ aWS := aWS_of 153 (by decide +kernel) rfl
theorem w154 : Cond.fieldLink "ShardGroups$Insert" 31 "ShardGroups$StoreNode" "shards" "[LShardGroups$Shard;" ∈ aWS := aWS_of 154 (by decide +kernel) rfl
theorem w155 : Cond.fieldLink "ShardGroups$Request" 25 "ShardGroups$StoreNode" "shards" "[LShardGroups$Shard;" ∈ aWS := aWS_of 155 (by decide +kernel) rfl
theorem w156 : Cond.fieldLink "ShardGroups" 154 "ShardGroups$StoreNode" "shards" "[LShardGroups$Shard;" ∈ aWS := aWS_of 156 (by decide +kernel) rfl
theorem w157 : Cond.laysFinal "ShardGroups$StoreNode" "ShardGroups$StoreNode" "group" "I" ∈ aWS := aWS_of 157 (by decide +kernel) rfl
theorem w159 : Cond.lays "ShardGroups$StoreNode" "ShardGroups$StoreNode" "number" "I" ∈ aWS := aWS_of 159 (by decide +kernel) rfl
theorem w161 : Cond.lays "ShardGroups$StoreNode" "ShardGroups$StoreNode" "current" "LShardGroups$Configuration;" ∈ aWS := aWS_of 161 (by decide +kernel) rfl
theorem w163 : Cond.laysFinal "ShardGroups$StoreNode" "ShardGroups$StoreNode" "shards" "[LShardGroups$Shard;" ∈ aWS := aWS_of 163 (by decide +kernel) rfl
theorem w165 : Cond.lays "ShardGroups$StoreNode" "ShardGroups$Node" "up" "Z" ∈ aWS := aWS_of 165 (by decide +kernel) rfl
theorem w166 : Cond.lays "ShardGroups$StoreNode" "ShardGroups$Node" "leads" "Z" ∈ aWS := aWS_of 166 (by decide +kernel) rfl
theorem w167 : Cond.lays "ShardGroups$StoreNode" "ShardGroups$Node" "term" "I" ∈ aWS := aWS_of 167 (by decide +kernel) rfl
theorem w168 : Cond.lays "ShardGroups$StoreNode" "ShardGroups$Node" "length" "I" ∈ aWS := aWS_of 168 (by decide +kernel) rfl
theorem w169 : Cond.lays "ShardGroups$StoreNode" "ShardGroups$Node" "known" "I" ∈ aWS := aWS_of 169 (by decide +kernel) rfl
theorem w170 : Cond.laysFinal "ShardGroups$StoreNode" "ShardGroups$Node" "log" "[LShardGroups$Entry;" ∈ aWS := aWS_of 170 (by decide +kernel) rfl
theorem w172 : Cond.fieldLink "ShardGroups" 11 "ShardGroups" "nodes" "[LShardGroups$Node;" ∈ aWS := aWS_of 172 (by decide +kernel) rfl
theorem w173 : Cond.fieldLink "ShardGroups" 17 "ShardGroups" "services" "[LShardGroups$ServiceNode;" ∈ aWS := aWS_of 173 (by decide +kernel) rfl
theorem w174 : Cond.fieldLink "ShardGroups" 23 "ShardGroups" "stores" "[LShardGroups$StoreNode;" ∈ aWS := aWS_of 174 (by decide +kernel) rfl
theorem w175 : Cond.laysFinal "ShardGroups" "ShardGroups" "nodes" "[LShardGroups$Node;" ∈ aWS := aWS_of 175 (by decide +kernel) rfl
theorem w177 : Cond.laysFinal "ShardGroups" "ShardGroups" "services" "[LShardGroups$ServiceNode;" ∈ aWS := aWS_of 177 (by decide +kernel) rfl
theorem w179 : Cond.laysFinal "ShardGroups" "ShardGroups" "stores" "[LShardGroups$StoreNode;" ∈ aWS := aWS_of 179 (by decide +kernel) rfl
theorem w182 : Cond.methodLink "ShardGroupsLaw" 13 ⟨"ShardGroups", "crash", "(I)Z"⟩ ∈ aWS := aWS_of 182 (by decide +kernel) rfl
theorem w183 : Cond.instanceMethod ⟨"ShardGroups", "crash", "(I)Z"⟩ ∈ aWS := aWS_of 183 (by decide +kernel) rfl
theorem w184 : Cond.selects "ShardGroups" ⟨"ShardGroups", "crash", "(I)Z"⟩ ⟨"ShardGroups", "crash", "(I)Z"⟩ ∈ aWS := aWS_of 184 (by decide +kernel) rfl
theorem w185 : Cond.code ⟨"ShardGroups", "crash", "(I)Z"⟩ prog_1_method_2_code 3 (Option.some Jvm.ClassFile.FieldType.boolean) ∈ aWS := aWS_of 185 (by decide +kernel) rfl
theorem w186 : Cond.methodLink "ShardGroups" 40 ⟨"ShardGroups", "upNode", "(I)LShardGroups$Node;"⟩ ∈ aWS := aWS_of 186 (by decide +kernel) rfl
theorem w188 : Cond.instanceMethod ⟨"ShardGroups", "upNode", "(I)LShardGroups$Node;"⟩ ∈ aWS := aWS_of 188 (by decide +kernel) rfl
theorem w189 : Cond.code ⟨"ShardGroups", "upNode", "(I)LShardGroups$Node;"⟩ prog_1_method_31_code 3 (Option.some (Jvm.ClassFile.FieldType.object "ShardGroups$Node")) ∈ aWS := aWS_of 189 (by decide +kernel) rfl
theorem w190 : Cond.methodLink "ShardGroups" 51 ⟨"ShardGroups", "anyNode", "(I)LShardGroups$Node;"⟩ ∈ aWS := aWS_of 190 (by decide +kernel) rfl
theorem w192 : Cond.instanceMethod ⟨"ShardGroups", "anyNode", "(I)LShardGroups$Node;"⟩ ∈ aWS := aWS_of 192 (by decide +kernel) rfl
theorem w193 : Cond.code ⟨"ShardGroups", "anyNode", "(I)LShardGroups$Node;"⟩ prog_1_method_28_code 2 (Option.some (Jvm.ClassFile.FieldType.object "ShardGroups$Node")) ∈ aWS := aWS_of 193 (by decide +kernel) rfl
theorem w194 : Cond.methodLink "ShardGroupsLaw" 18 ⟨"ShardGroups", "recover", "(I)Z"⟩ ∈ aWS := aWS_of 194 (by decide +kernel) rfl
theorem w195 : Cond.instanceMethod ⟨"ShardGroups", "recover", "(I)Z"⟩ ∈ aWS := aWS_of 195 (by decide +kernel) rfl
theorem w196 : Cond.selects "ShardGroups" ⟨"ShardGroups", "recover", "(I)Z"⟩ ⟨"ShardGroups", "recover", "(I)Z"⟩ ∈ aWS := aWS_of 196 (by decide +kernel) rfl
theorem w197 : Cond.code ⟨"ShardGroups", "recover", "(I)Z"⟩ prog_1_method_3_code 3 (Option.some Jvm.ClassFile.FieldType.boolean) ∈ aWS := aWS_of 197 (by decide +kernel) rfl
theorem w198 : Cond.methodLink "ShardGroupsLaw" 22 ⟨"ShardGroups", "elect", "(I)I"⟩ ∈ aWS := aWS_of 198 (by decide +kernel) rfl
theorem w199 : Cond.instanceMethod ⟨"ShardGroups", "elect", "(I)I"⟩ ∈ aWS := aWS_of 199 (by decide +kernel) rfl
theorem w200 : Cond.selects "ShardGroups" ⟨"ShardGroups", "elect", "(I)I"⟩ ⟨"ShardGroups", "elect", "(I)I"⟩ ∈ aWS := aWS_of 200 (by decide +kernel) rfl
theorem w201 : Cond.code ⟨"ShardGroups", "elect", "(I)I"⟩ prog_1_method_4_code 4 (Option.some Jvm.ClassFile.FieldType.int) ∈ aWS := aWS_of 201 (by decide +kernel) rfl
theorem w202 : Cond.methodLink "ShardGroups" 58 ⟨"java/lang/Math", "floorMod", "(II)I"⟩ ∈ aWS := aWS_of 202 (by decide +kernel) rfl
theorem w203 : Cond.static ⟨"java/lang/Math", "floorMod", "(II)I"⟩ ∈ aWS := aWS_of 203 (by decide +kernel) rfl
theorem w204 : Cond.code ⟨"java/lang/Math", "floorMod", "(II)I"⟩ prog_15_method_50_code 3 (Option.some Jvm.ClassFile.FieldType.int) ∈ aWS := aWS_of 204 (by decide +kernel) rfl
theorem w205 : Cond.methodLink "ShardGroups" 64 ⟨"ShardGroups", "countGrants", "(LShardGroups$Node;II)I"⟩ ∈ aWS := aWS_of 205 (by decide +kernel) rfl
theorem w207 : Cond.instanceMethod ⟨"ShardGroups", "countGrants", "(LShardGroups$Node;II)I"⟩ ∈ aWS := aWS_of 207 (by decide +kernel) rfl
theorem w208 : Cond.code ⟨"ShardGroups", "countGrants", "(LShardGroups$Node;II)I"⟩ prog_1_method_35_code 6 (Option.some Jvm.ClassFile.FieldType.int) ∈ aWS := aWS_of 208 (by decide +kernel) rfl
theorem w209 : Cond.methodLink "ShardGroups" 225 ⟨"ShardGroups$Node", "grants", "(LShardGroups$Node;I)Z"⟩ ∈ aWS := aWS_of 209 (by decide +kernel) rfl
theorem w210 : Cond.instanceMethod ⟨"ShardGroups$Node", "grants", "(LShardGroups$Node;I)Z"⟩ ∈ aWS := aWS_of 210 (by decide +kernel) rfl
theorem w211 : Cond.sameMethod "ShardGroups$Node" "ShardGroups$Node" "grants" "(LShardGroups$Node;I)Z" ∈ aWS := aWS_of 211 (by decide +kernel) rfl
theorem w212 : Cond.selects "ShardGroups$ServiceNode" ⟨"ShardGroups$Node", "grants", "(LShardGroups$Node;I)Z"⟩ ⟨"ShardGroups$Node", "grants", "(LShardGroups$Node;I)Z"⟩ ∈ aWS := aWS_of 212 (by decide +kernel) rfl
theorem w213 : Cond.selects "ShardGroups$StoreNode" ⟨"ShardGroups$Node", "grants", "(LShardGroups$Node;I)Z"⟩ ⟨"ShardGroups$Node", "grants", "(LShardGroups$Node;I)Z"⟩ ∈ aWS := aWS_of 213 (by decide +kernel) rfl
theorem w214 : Cond.code ⟨"ShardGroups$Node", "grants", "(LShardGroups$Node;I)Z"⟩ prog_8_method_5_code 3 (Option.some Jvm.ClassFile.FieldType.boolean) ∈ aWS := aWS_of 214 (by decide +kernel) rfl
theorem w215 : Cond.methodLink "ShardGroups$Node" 28 ⟨"ShardGroups$Node", "isBehind", "(LShardGroups$Node;)Z"⟩ ∈ aWS := aWS_of 215 (by decide +kernel) rfl
theorem w216 : Cond.instanceMethod ⟨"ShardGroups$Node", "isBehind", "(LShardGroups$Node;)Z"⟩ ∈ aWS := aWS_of 216 (by decide +kernel) rfl
theorem w217 : Cond.sameMethod "ShardGroups$Node" "ShardGroups$Node" "isBehind" "(LShardGroups$Node;)Z" ∈ aWS := aWS_of 217 (by decide +kernel) rfl
theorem w218 : Cond.selects "ShardGroups$ServiceNode" ⟨"ShardGroups$Node", "isBehind", "(LShardGroups$Node;)Z"⟩ ⟨"ShardGroups$Node", "isBehind", "(LShardGroups$Node;)Z"⟩ ∈ aWS := aWS_of 218 (by decide +kernel) rfl
theorem w219 : Cond.selects "ShardGroups$StoreNode" ⟨"ShardGroups$Node", "isBehind", "(LShardGroups$Node;)Z"⟩ ⟨"ShardGroups$Node", "isBehind", "(LShardGroups$Node;)Z"⟩ ∈ aWS := aWS_of 219 (by decide +kernel) rfl
theorem w220 : Cond.code ⟨"ShardGroups$Node", "isBehind", "(LShardGroups$Node;)Z"⟩ prog_8_method_6_code 4 (Option.some Jvm.ClassFile.FieldType.boolean) ∈ aWS := aWS_of 220 (by decide +kernel) rfl
theorem w221 : Cond.methodLink "ShardGroups$Node" 36 ⟨"ShardGroups$Node", "lastTerm", "()I"⟩ ∈ aWS := aWS_of 221 (by decide +kernel) rfl
theorem w222 : Cond.instanceMethod ⟨"ShardGroups$Node", "lastTerm", "()I"⟩ ∈ aWS := aWS_of 222 (by decide +kernel) rfl
theorem w223 : Cond.sameMethod "ShardGroups$Node" "ShardGroups$Node" "lastTerm" "()I" ∈ aWS := aWS_of 223 (by decide +kernel) rfl
theorem w224 : Cond.selects "ShardGroups$ServiceNode" ⟨"ShardGroups$Node", "lastTerm", "()I"⟩ ⟨"ShardGroups$Node", "lastTerm", "()I"⟩ ∈ aWS := aWS_of 224 (by decide +kernel) rfl
theorem w225 : Cond.selects "ShardGroups$StoreNode" ⟨"ShardGroups$Node", "lastTerm", "()I"⟩ ⟨"ShardGroups$Node", "lastTerm", "()I"⟩ ∈ aWS := aWS_of 225 (by decide +kernel) rfl
theorem w226 : Cond.code ⟨"ShardGroups$Node", "lastTerm", "()I"⟩ prog_8_method_7_code 1 (Option.some Jvm.ClassFile.FieldType.int) ∈ aWS := aWS_of 226 (by decide +kernel) rfl
theorem w227 : Cond.methodLink "ShardGroups$Node" 32 ⟨"ShardGroups$Node", "takeTerm", "(I)V"⟩ ∈ aWS := aWS_of 227 (by decide +kernel) rfl
theorem w228 : Cond.instanceMethod ⟨"ShardGroups$Node", "takeTerm", "(I)V"⟩ ∈ aWS := aWS_of 228 (by decide +kernel) rfl
theorem w229 : Cond.sameMethod "ShardGroups$Node" "ShardGroups$Node" "takeTerm" "(I)V" ∈ aWS := aWS_of 229 (by decide +kernel) rfl
theorem w230 : Cond.selects "ShardGroups$ServiceNode" ⟨"ShardGroups$Node", "takeTerm", "(I)V"⟩ ⟨"ShardGroups$Node", "takeTerm", "(I)V"⟩ ∈ aWS := aWS_of 230 (by decide +kernel) rfl
theorem w231 : Cond.selects "ShardGroups$StoreNode" ⟨"ShardGroups$Node", "takeTerm", "(I)V"⟩ ⟨"ShardGroups$Node", "takeTerm", "(I)V"⟩ ∈ aWS := aWS_of 231 (by decide +kernel) rfl
theorem w232 : Cond.code ⟨"ShardGroups$Node", "takeTerm", "(I)V"⟩ prog_8_method_4_code 2 (Option.none : Option Jvm.ClassFile.FieldType) ∈ aWS := aWS_of 232 (by decide +kernel) rfl
theorem w233 : Cond.classLink "ShardGroups" 68 "ShardGroups$Entry" ∈ aWS := aWS_of 233 (by decide +kernel) rfl
theorem w234 : Cond.instantiable "ShardGroups$Entry" 1 ∈ aWS := aWS_of 234 (by decide +kernel) rfl
theorem w235 : Cond.methodLink "ShardGroups" 70 ⟨"ShardGroups$Entry", "<init>", "(I)V"⟩ ∈ aWS := aWS_of 235 (by decide +kernel) rfl
theorem w236 : Cond.instanceMethod ⟨"ShardGroups$Entry", "<init>", "(I)V"⟩ ∈ aWS := aWS_of 236 (by decide +kernel) rfl
theorem w237 : Cond.code ⟨"ShardGroups$Entry", "<init>", "(I)V"⟩ prog_6_method_1_code 2 (Option.none : Option Jvm.ClassFile.FieldType) ∈ aWS := aWS_of 237 (by decide +kernel) rfl
theorem w238 : Cond.methodLink "ShardGroups$Entry" 1 ⟨"java/lang/Object", "<init>", "()V"⟩ ∈ aWS := aWS_of 238 (by decide +kernel) rfl
theorem w239 : Cond.fieldLink "ShardGroups$Entry" 7 "ShardGroups$Entry" "term" "I" ∈ aWS := aWS_of 239 (by decide +kernel) rfl
theorem w240 : Cond.fieldLink "ShardGroups$Node" 43 "ShardGroups$Entry" "term" "I" ∈ aWS := aWS_of 240 (by decide +kernel) rfl
theorem w241 : Cond.laysFinal "ShardGroups$Entry" "ShardGroups$Entry" "term" "I" ∈ aWS := aWS_of 241 (by decide +kernel) rfl
theorem w244 : Cond.methodLink "ShardGroups" 73 ⟨"ShardGroups$Node", "write", "(LShardGroups$Entry;)I"⟩ ∈ aWS := aWS_of 244 (by decide +kernel) rfl
theorem w245 : Cond.instanceMethod ⟨"ShardGroups$Node", "write", "(LShardGroups$Entry;)I"⟩ ∈ aWS := aWS_of 245 (by decide +kernel) rfl
theorem w246 : Cond.sameMethod "ShardGroups$Node" "ShardGroups$Node" "write" "(LShardGroups$Entry;)I" ∈ aWS := aWS_of 246 (by decide +kernel) rfl
theorem w247 : Cond.selects "ShardGroups$ServiceNode" ⟨"ShardGroups$Node", "write", "(LShardGroups$Entry;)I"⟩ ⟨"ShardGroups$Node", "write", "(LShardGroups$Entry;)I"⟩ ∈ aWS := aWS_of 247 (by decide +kernel) rfl
theorem w248 : Cond.selects "ShardGroups$StoreNode" ⟨"ShardGroups$Node", "write", "(LShardGroups$Entry;)I"⟩ ⟨"ShardGroups$Node", "write", "(LShardGroups$Entry;)I"⟩ ∈ aWS := aWS_of 248 (by decide +kernel) rfl
theorem w249 : Cond.code ⟨"ShardGroups$Node", "write", "(LShardGroups$Entry;)I"⟩ prog_8_method_9_code 2 (Option.some Jvm.ClassFile.FieldType.int) ∈ aWS := aWS_of 249 (by decide +kernel) rfl
theorem w250 : Cond.methodLink "ShardGroupsLaw" 27 ⟨"ShardGroups", "ship", "(II)I"⟩ ∈ aWS := aWS_of 250 (by decide +kernel) rfl
theorem w251 : Cond.instanceMethod ⟨"ShardGroups", "ship", "(II)I"⟩ ∈ aWS := aWS_of 251 (by decide +kernel) rfl
theorem w252 : Cond.selects "ShardGroups" ⟨"ShardGroups", "ship", "(II)I"⟩ ⟨"ShardGroups", "ship", "(II)I"⟩ ∈ aWS := aWS_of 252 (by decide +kernel) rfl
theorem w253 : Cond.code ⟨"ShardGroups", "ship", "(II)I"⟩ prog_1_method_5_code 5 (Option.some Jvm.ClassFile.FieldType.int) ∈ aWS := aWS_of 253 (by decide +kernel) rfl
theorem w254 : Cond.methodLink "ShardGroups" 77 ⟨"ShardGroups$Node", "takeTerm", "(I)V"⟩ ∈ aWS := aWS_of 254 (by decide +kernel) rfl
theorem w255 : Cond.methodLink "ShardGroups" 80 ⟨"ShardGroups$Node", "copyNextFrom", "(LShardGroups$Node;)V"⟩ ∈ aWS := aWS_of 255 (by decide +kernel) rfl
theorem w256 : Cond.instanceMethod ⟨"ShardGroups$Node", "copyNextFrom", "(LShardGroups$Node;)V"⟩ ∈ aWS := aWS_of 256 (by decide +kernel) rfl
theorem w257 : Cond.sameMethod "ShardGroups$Node" "ShardGroups$Node" "copyNextFrom" "(LShardGroups$Node;)V" ∈ aWS := aWS_of 257 (by decide +kernel) rfl
theorem w258 : Cond.selects "ShardGroups$ServiceNode" ⟨"ShardGroups$Node", "copyNextFrom", "(LShardGroups$Node;)V"⟩ ⟨"ShardGroups$Node", "copyNextFrom", "(LShardGroups$Node;)V"⟩ ∈ aWS := aWS_of 258 (by decide +kernel) rfl
theorem w259 : Cond.selects "ShardGroups$StoreNode" ⟨"ShardGroups$Node", "copyNextFrom", "(LShardGroups$Node;)V"⟩ ⟨"ShardGroups$Node", "copyNextFrom", "(LShardGroups$Node;)V"⟩ ∈ aWS := aWS_of 259 (by decide +kernel) rfl
theorem w260 : Cond.code ⟨"ShardGroups$Node", "copyNextFrom", "(LShardGroups$Node;)V"⟩ prog_8_method_10_code 2 (Option.none : Option Jvm.ClassFile.FieldType) ∈ aWS := aWS_of 260 (by decide +kernel) rfl
theorem w261 : Cond.methodLink "ShardGroups$Node" 44 ⟨"ShardGroups$Node", "countSame", "(LShardGroups$Node;)I"⟩ ∈ aWS := aWS_of 261 (by decide +kernel) rfl
theorem w262 : Cond.instanceMethod ⟨"ShardGroups$Node", "countSame", "(LShardGroups$Node;)I"⟩ ∈ aWS := aWS_of 262 (by decide +kernel) rfl
theorem w263 : Cond.sameMethod "ShardGroups$Node" "ShardGroups$Node" "countSame" "(LShardGroups$Node;)I" ∈ aWS := aWS_of 263 (by decide +kernel) rfl
theorem w264 : Cond.selects "ShardGroups$ServiceNode" ⟨"ShardGroups$Node", "countSame", "(LShardGroups$Node;)I"⟩ ⟨"ShardGroups$Node", "countSame", "(LShardGroups$Node;)I"⟩ ∈ aWS := aWS_of 264 (by decide +kernel) rfl
theorem w265 : Cond.selects "ShardGroups$StoreNode" ⟨"ShardGroups$Node", "countSame", "(LShardGroups$Node;)I"⟩ ⟨"ShardGroups$Node", "countSame", "(LShardGroups$Node;)I"⟩ ∈ aWS := aWS_of 265 (by decide +kernel) rfl
theorem w266 : Cond.code ⟨"ShardGroups$Node", "countSame", "(LShardGroups$Node;)I"⟩ prog_8_method_11_code 4 (Option.some Jvm.ClassFile.FieldType.int) ∈ aWS := aWS_of 266 (by decide +kernel) rfl
theorem w267 : Cond.methodLink "ShardGroups$Node" 52 ⟨"java/lang/Math", "min", "(II)I"⟩ ∈ aWS := aWS_of 267 (by decide +kernel) rfl
theorem w268 : Cond.static ⟨"java/lang/Math", "min", "(II)I"⟩ ∈ aWS := aWS_of 268 (by decide +kernel) rfl
theorem w269 : Cond.code ⟨"java/lang/Math", "min", "(II)I"⟩ prog_15_method_69_code 2 (Option.some Jvm.ClassFile.FieldType.int) ∈ aWS := aWS_of 269 (by decide +kernel) rfl
theorem w270 : Cond.methodLink "ShardGroups$Node" 48 ⟨"ShardGroups$Node", "write", "(LShardGroups$Entry;)I"⟩ ∈ aWS := aWS_of 270 (by decide +kernel) rfl
theorem w271 : Cond.methodLink "ShardGroups" 84 ⟨"ShardGroups", "countAgreed", "(LShardGroups$Node;I)I"⟩ ∈ aWS := aWS_of 271 (by decide +kernel) rfl
theorem w273 : Cond.instanceMethod ⟨"ShardGroups", "countAgreed", "(LShardGroups$Node;I)I"⟩ ∈ aWS := aWS_of 273 (by decide +kernel) rfl
theorem w274 : Cond.code ⟨"ShardGroups", "countAgreed", "(LShardGroups$Node;I)I"⟩ prog_1_method_36_code 4 (Option.some Jvm.ClassFile.FieldType.int) ∈ aWS := aWS_of 274 (by decide +kernel) rfl
theorem w275 : Cond.methodLink "ShardGroups" 229 ⟨"ShardGroups$Node", "hasEntry", "(II)Z"⟩ ∈ aWS := aWS_of 275 (by decide +kernel) rfl
theorem w276 : Cond.instanceMethod ⟨"ShardGroups$Node", "hasEntry", "(II)Z"⟩ ∈ aWS := aWS_of 276 (by decide +kernel) rfl
theorem w277 : Cond.sameMethod "ShardGroups$Node" "ShardGroups$Node" "hasEntry" "(II)Z" ∈ aWS := aWS_of 277 (by decide +kernel) rfl
theorem w278 : Cond.selects "ShardGroups$ServiceNode" ⟨"ShardGroups$Node", "hasEntry", "(II)Z"⟩ ⟨"ShardGroups$Node", "hasEntry", "(II)Z"⟩ ∈ aWS := aWS_of 278 (by decide +kernel) rfl
theorem w279 : Cond.selects "ShardGroups$StoreNode" ⟨"ShardGroups$Node", "hasEntry", "(II)Z"⟩ ⟨"ShardGroups$Node", "hasEntry", "(II)Z"⟩ ∈ aWS := aWS_of 279 (by decide +kernel) rfl
theorem w280 : Cond.code ⟨"ShardGroups$Node", "hasEntry", "(II)Z"⟩ prog_8_method_8_code 3 (Option.some Jvm.ClassFile.FieldType.boolean) ∈ aWS := aWS_of 280 (by decide +kernel) rfl
theorem w281 : Cond.methodLink "ShardGroups" 232 ⟨"ShardGroups", "countCopies", "(III)I"⟩ ∈ aWS := aWS_of 281 (by decide +kernel) rfl
theorem w283 : Cond.instanceMethod ⟨"ShardGroups", "countCopies", "(III)I"⟩ ∈ aWS := aWS_of 283 (by decide +kernel) rfl
theorem w284 : Cond.code ⟨"ShardGroups", "countCopies", "(III)I"⟩ prog_1_method_37_code 6 (Option.some Jvm.ClassFile.FieldType.int) ∈ aWS := aWS_of 284 (by decide +kernel) rfl
theorem w285 : Cond.methodLink "ShardGroups" 88 ⟨"ShardGroups$Node", "learn", "(I)V"⟩ ∈ aWS := aWS_of 285 (by decide +kernel) rfl
theorem w286 : Cond.instanceMethod ⟨"ShardGroups$Node", "learn", "(I)V"⟩ ∈ aWS := aWS_of 286 (by decide +kernel) rfl
theorem w287 : Cond.sameMethod "ShardGroups$Node" "ShardGroups$Node" "learn" "(I)V" ∈ aWS := aWS_of 287 (by decide +kernel) rfl
theorem w288 : Cond.selects "ShardGroups$ServiceNode" ⟨"ShardGroups$Node", "learn", "(I)V"⟩ ⟨"ShardGroups$Node", "learn", "(I)V"⟩ ∈ aWS := aWS_of 288 (by decide +kernel) rfl
theorem w289 : Cond.selects "ShardGroups$StoreNode" ⟨"ShardGroups$Node", "learn", "(I)V"⟩ ⟨"ShardGroups$Node", "learn", "(I)V"⟩ ∈ aWS := aWS_of 289 (by decide +kernel) rfl
theorem w290 : Cond.code ⟨"ShardGroups$Node", "learn", "(I)V"⟩ prog_8_method_12_code 4 (Option.none : Option Jvm.ClassFile.FieldType) ∈ aWS := aWS_of 290 (by decide +kernel) rfl
theorem w291 : Cond.methodLink "ShardGroups$Node" 61 ⟨"ShardGroups$Node", "carryOut", "(LShardGroups$Entry;)V"⟩ ∈ aWS := aWS_of 291 (by decide +kernel) rfl
theorem w293 : Cond.sameMethod "ShardGroups$Node" "ShardGroups$Node" "carryOut" "(LShardGroups$Entry;)V" ∈ aWS := aWS_of 293 (by decide +kernel) rfl
theorem w294 : Cond.selects "ShardGroups$ServiceNode" ⟨"ShardGroups$Node", "carryOut", "(LShardGroups$Entry;)V"⟩ ⟨"ShardGroups$ServiceNode", "carryOut", "(LShardGroups$Entry;)V"⟩ ∈ aWS := aWS_of 294 (by decide +kernel) rfl
theorem w295 : Cond.instanceMethod ⟨"ShardGroups$ServiceNode", "carryOut", "(LShardGroups$Entry;)V"⟩ ∈ aWS := aWS_of 295 (by decide +kernel) rfl
theorem w296 : Cond.code ⟨"ShardGroups$ServiceNode", "carryOut", "(LShardGroups$Entry;)V"⟩ prog_10_method_2_code 2 (Option.none : Option Jvm.ClassFile.FieldType) ∈ aWS := aWS_of 296 (by decide +kernel) rfl
theorem w297 : Cond.methodLink "ShardGroups$ServiceNode" 17 ⟨"ShardGroups$Entry", "changeService", "(LShardGroups$ServiceNode;)V"⟩ ∈ aWS := aWS_of 297 (by decide +kernel) rfl
theorem w298 : Cond.instanceMethod ⟨"ShardGroups$Entry", "changeService", "(LShardGroups$ServiceNode;)V"⟩ ∈ aWS := aWS_of 298 (by decide +kernel) rfl
theorem w299 : Cond.selects "ShardGroups$Entry" ⟨"ShardGroups$Entry", "changeService", "(LShardGroups$ServiceNode;)V"⟩ ⟨"ShardGroups$Entry", "changeService", "(LShardGroups$ServiceNode;)V"⟩ ∈ aWS := aWS_of 299 (by decide +kernel) rfl
theorem w300 : Cond.sameMethod "ShardGroups$Entry" "ShardGroups$Entry" "changeService" "(LShardGroups$ServiceNode;)V" ∈ aWS := aWS_of 300 (by decide +kernel) rfl
theorem w301 : Cond.selects "ShardGroups$Change" ⟨"ShardGroups$Entry", "changeService", "(LShardGroups$ServiceNode;)V"⟩ ⟨"ShardGroups$Change", "changeService", "(LShardGroups$ServiceNode;)V"⟩ ∈ aWS := aWS_of 301 (by decide +kernel) rfl
theorem w302 : Cond.instanceMethod ⟨"ShardGroups$Change", "changeService", "(LShardGroups$ServiceNode;)V"⟩ ∈ aWS := aWS_of 302 (by decide +kernel) rfl
theorem w303 : Cond.code ⟨"ShardGroups$Change", "changeService", "(LShardGroups$ServiceNode;)V"⟩ prog_2_method_2_code 4 (Option.none : Option Jvm.ClassFile.FieldType) ∈ aWS := aWS_of 303 (by decide +kernel) rfl
theorem w304 : Cond.methodLink "ShardGroups$Change" 30 ⟨"ShardGroups$ServiceNode", "isComplete", "()Z"⟩ ∈ aWS := aWS_of 304 (by decide +kernel) rfl
theorem w305 : Cond.instanceMethod ⟨"ShardGroups$ServiceNode", "isComplete", "()Z"⟩ ∈ aWS := aWS_of 305 (by decide +kernel) rfl
theorem w306 : Cond.selects "ShardGroups$ServiceNode" ⟨"ShardGroups$ServiceNode", "isComplete", "()Z"⟩ ⟨"ShardGroups$ServiceNode", "isComplete", "()Z"⟩ ∈ aWS := aWS_of 306 (by decide +kernel) rfl
theorem w307 : Cond.code ⟨"ShardGroups$ServiceNode", "isComplete", "()Z"⟩ prog_10_method_4_code 1 (Option.some Jvm.ClassFile.FieldType.boolean) ∈ aWS := aWS_of 307 (by decide +kernel) rfl
theorem w308 : Cond.methodLink "ShardGroups$Change" 34 ⟨"ShardGroups$Change", "isAllowed", "(LShardGroups$Configuration;)Z"⟩ ∈ aWS := aWS_of 308 (by decide +kernel) rfl
theorem w310 : Cond.instanceMethod ⟨"ShardGroups$Change", "isAllowed", "(LShardGroups$Configuration;)Z"⟩ ∈ aWS := aWS_of 310 (by decide +kernel) rfl
theorem w311 : Cond.instantiable "ShardGroups$Change" 4 ∈ aWS := aWS_of 311 (by decide +kernel) rfl
theorem w312 : Cond.code ⟨"ShardGroups$Change", "isAllowed", "(LShardGroups$Configuration;)Z"⟩ prog_2_method_3_code 2 (Option.some Jvm.ClassFile.FieldType.boolean) ∈ aWS := aWS_of 312 (by decide +kernel) rfl
theorem w313 : Cond.methodLink "ShardGroups$Change" 60 ⟨"ShardGroups$Configuration", "countMembers", "()I"⟩ ∈ aWS := aWS_of 313 (by decide +kernel) rfl
theorem w314 : Cond.instanceMethod ⟨"ShardGroups$Configuration", "countMembers", "()I"⟩ ∈ aWS := aWS_of 314 (by decide +kernel) rfl
theorem w315 : Cond.selects "ShardGroups$Configuration" ⟨"ShardGroups$Configuration", "countMembers", "()I"⟩ ⟨"ShardGroups$Configuration", "countMembers", "()I"⟩ ∈ aWS := aWS_of 315 (by decide +kernel) rfl
theorem w316 : Cond.code ⟨"ShardGroups$Configuration", "countMembers", "()I"⟩ prog_3_method_3_code 6 (Option.some Jvm.ClassFile.FieldType.int) ∈ aWS := aWS_of 316 (by decide +kernel) rfl
theorem w317 : Cond.classLink "ShardGroups$Change" 38 "ShardGroups$Configuration" ∈ aWS := aWS_of 317 (by decide +kernel) rfl
theorem w318 : Cond.methodLink "ShardGroups$Change" 40 ⟨"ShardGroups$Configuration", "<init>", "(LShardGroups$Configuration;)V"⟩ ∈ aWS := aWS_of 318 (by decide +kernel) rfl
theorem w319 : Cond.instanceMethod ⟨"ShardGroups$Configuration", "<init>", "(LShardGroups$Configuration;)V"⟩ ∈ aWS := aWS_of 319 (by decide +kernel) rfl
theorem w320 : Cond.code ⟨"ShardGroups$Configuration", "<init>", "(LShardGroups$Configuration;)V"⟩ prog_3_method_2_code 2 (Option.none : Option Jvm.ClassFile.FieldType) ∈ aWS := aWS_of 320 (by decide +kernel) rfl
theorem w321 : Cond.methodLink "ShardGroups$Configuration" 22 ⟨"java/lang/System", "arraycopy", "(Ljava/lang/Object;ILjava/lang/Object;II)V"⟩ ∈ aWS := aWS_of 321 (by decide +kernel) rfl
theorem w322 : Cond.static ⟨"java/lang/System", "arraycopy", "(Ljava/lang/Object;ILjava/lang/Object;II)V"⟩ ∈ aWS := aWS_of 322 (by decide +kernel) rfl
theorem w323 : Cond.native ⟨"java/lang/System", "arraycopy", "(Ljava/lang/Object;ILjava/lang/Object;II)V"⟩ ∈ aWS := aWS_of 323 (by decide +kernel) rfl
theorem w324 : Cond.methodLink "ShardGroups$Change" 43 ⟨"ShardGroups$Configuration", "join", "(I)V"⟩ ∈ aWS := aWS_of 324 (by decide +kernel) rfl
theorem w325 : Cond.instanceMethod ⟨"ShardGroups$Configuration", "join", "(I)V"⟩ ∈ aWS := aWS_of 325 (by decide +kernel) rfl
theorem w326 : Cond.selects "ShardGroups$Configuration" ⟨"ShardGroups$Configuration", "join", "(I)V"⟩ ⟨"ShardGroups$Configuration", "join", "(I)V"⟩ ∈ aWS := aWS_of 326 (by decide +kernel) rfl
theorem w327 : Cond.code ⟨"ShardGroups$Configuration", "join", "(I)V"⟩ prog_3_method_4_code 3 (Option.none : Option Jvm.ClassFile.FieldType) ∈ aWS := aWS_of 327 (by decide +kernel) rfl
theorem w328 : Cond.methodLink "ShardGroups$Configuration" 28 ⟨"ShardGroups$Configuration", "countMembers", "()I"⟩ ∈ aWS := aWS_of 328 (by decide +kernel) rfl
theorem w329 : Cond.methodLink "ShardGroups$Configuration" 32 ⟨"ShardGroups$Configuration", "give", "(II)V"⟩ ∈ aWS := aWS_of 329 (by decide +kernel) rfl
theorem w330 : Cond.instanceMethod ⟨"ShardGroups$Configuration", "give", "(II)V"⟩ ∈ aWS := aWS_of 330 (by decide +kernel) rfl
theorem w331 : Cond.selects "ShardGroups$Configuration" ⟨"ShardGroups$Configuration", "give", "(II)V"⟩ ⟨"ShardGroups$Configuration", "give", "(II)V"⟩ ∈ aWS := aWS_of 331 (by decide +kernel) rfl
theorem w332 : Cond.code ⟨"ShardGroups$Configuration", "give", "(II)V"⟩ prog_3_method_6_code 3 (Option.none : Option Jvm.ClassFile.FieldType) ∈ aWS := aWS_of 332 (by decide +kernel) rfl
theorem w333 : Cond.methodLink "ShardGroups$Configuration" 36 ⟨"ShardGroups$Configuration", "balance", "()V"⟩ ∈ aWS := aWS_of 333 (by decide +kernel) rfl
theorem w335 : Cond.instanceMethod ⟨"ShardGroups$Configuration", "balance", "()V"⟩ ∈ aWS := aWS_of 335 (by decide +kernel) rfl
theorem w336 : Cond.code ⟨"ShardGroups$Configuration", "balance", "()V"⟩ prog_3_method_7_code 4 (Option.none : Option Jvm.ClassFile.FieldType) ∈ aWS := aWS_of 336 (by decide +kernel) rfl
theorem w337 : Cond.methodLink "ShardGroups$Configuration" 42 ⟨"ShardGroups$Configuration", "most", "()I"⟩ ∈ aWS := aWS_of 337 (by decide +kernel) rfl
theorem w339 : Cond.instanceMethod ⟨"ShardGroups$Configuration", "most", "()I"⟩ ∈ aWS := aWS_of 339 (by decide +kernel) rfl
theorem w340 : Cond.code ⟨"ShardGroups$Configuration", "most", "()I"⟩ prog_3_method_8_code 3 (Option.some Jvm.ClassFile.FieldType.int) ∈ aWS := aWS_of 340 (by decide +kernel) rfl
theorem w341 : Cond.methodLink "ShardGroups$Configuration" 39 ⟨"ShardGroups$Configuration", "fewest", "()I"⟩ ∈ aWS := aWS_of 341 (by decide +kernel) rfl
theorem w343 : Cond.instanceMethod ⟨"ShardGroups$Configuration", "fewest", "()I"⟩ ∈ aWS := aWS_of 343 (by decide +kernel) rfl
theorem w344 : Cond.code ⟨"ShardGroups$Configuration", "fewest", "()I"⟩ prog_3_method_9_code 3 (Option.some Jvm.ClassFile.FieldType.int) ∈ aWS := aWS_of 344 (by decide +kernel) rfl
theorem w345 : Cond.methodLink "ShardGroups$Configuration" 45 ⟨"ShardGroups$Configuration", "leastShardOf", "(I)I"⟩ ∈ aWS := aWS_of 345 (by decide +kernel) rfl
theorem w347 : Cond.instanceMethod ⟨"ShardGroups$Configuration", "leastShardOf", "(I)I"⟩ ∈ aWS := aWS_of 347 (by decide +kernel) rfl
theorem w348 : Cond.code ⟨"ShardGroups$Configuration", "leastShardOf", "(I)I"⟩ prog_3_method_10_code 3 (Option.some Jvm.ClassFile.FieldType.int) ∈ aWS := aWS_of 348 (by decide +kernel) rfl
theorem w349 : Cond.methodLink "ShardGroups$Change" 46 ⟨"ShardGroups$Configuration", "leave", "(I)V"⟩ ∈ aWS := aWS_of 349 (by decide +kernel) rfl
theorem w350 : Cond.instanceMethod ⟨"ShardGroups$Configuration", "leave", "(I)V"⟩ ∈ aWS := aWS_of 350 (by decide +kernel) rfl
theorem w351 : Cond.selects "ShardGroups$Configuration" ⟨"ShardGroups$Configuration", "leave", "(I)V"⟩ ⟨"ShardGroups$Configuration", "leave", "(I)V"⟩ ∈ aWS := aWS_of 351 (by decide +kernel) rfl
theorem w352 : Cond.code ⟨"ShardGroups$Configuration", "leave", "(I)V"⟩ prog_3_method_5_code 3 (Option.none : Option Jvm.ClassFile.FieldType) ∈ aWS := aWS_of 352 (by decide +kernel) rfl
theorem w353 : Cond.methodLink "ShardGroups$Change" 49 ⟨"ShardGroups$Configuration", "give", "(II)V"⟩ ∈ aWS := aWS_of 353 (by decide +kernel) rfl
theorem w354 : Cond.methodLink "ShardGroups$Change" 53 ⟨"ShardGroups$ServiceNode", "add", "(LShardGroups$Configuration;)V"⟩ ∈ aWS := aWS_of 354 (by decide +kernel) rfl
theorem w355 : Cond.instanceMethod ⟨"ShardGroups$ServiceNode", "add", "(LShardGroups$Configuration;)V"⟩ ∈ aWS := aWS_of 355 (by decide +kernel) rfl
theorem w356 : Cond.selects "ShardGroups$ServiceNode" ⟨"ShardGroups$ServiceNode", "add", "(LShardGroups$Configuration;)V"⟩ ⟨"ShardGroups$ServiceNode", "add", "(LShardGroups$Configuration;)V"⟩ ∈ aWS := aWS_of 356 (by decide +kernel) rfl
theorem w357 : Cond.code ⟨"ShardGroups$ServiceNode", "add", "(LShardGroups$Configuration;)V"⟩ prog_10_method_5_code 2 (Option.none : Option Jvm.ClassFile.FieldType) ∈ aWS := aWS_of 357 (by decide +kernel) rfl
theorem w358 : Cond.selects "ShardGroups$Configure" ⟨"ShardGroups$Entry", "changeService", "(LShardGroups$ServiceNode;)V"⟩ ⟨"ShardGroups$Entry", "changeService", "(LShardGroups$ServiceNode;)V"⟩ ∈ aWS := aWS_of 358 (by decide +kernel) rfl
theorem w359 : Cond.selects "ShardGroups$Delete" ⟨"ShardGroups$Entry", "changeService", "(LShardGroups$ServiceNode;)V"⟩ ⟨"ShardGroups$Entry", "changeService", "(LShardGroups$ServiceNode;)V"⟩ ∈ aWS := aWS_of 359 (by decide +kernel) rfl
theorem w360 : Cond.selects "ShardGroups$Insert" ⟨"ShardGroups$Entry", "changeService", "(LShardGroups$ServiceNode;)V"⟩ ⟨"ShardGroups$Entry", "changeService", "(LShardGroups$ServiceNode;)V"⟩ ∈ aWS := aWS_of 360 (by decide +kernel) rfl
theorem w361 : Cond.selects "ShardGroups$Request" ⟨"ShardGroups$Entry", "changeService", "(LShardGroups$ServiceNode;)V"⟩ ⟨"ShardGroups$Entry", "changeService", "(LShardGroups$ServiceNode;)V"⟩ ∈ aWS := aWS_of 361 (by decide +kernel) rfl
theorem w362 : Cond.code ⟨"ShardGroups$Entry", "changeService", "(LShardGroups$ServiceNode;)V"⟩ prog_6_method_2_code 2 (Option.none : Option Jvm.ClassFile.FieldType) ∈ aWS := aWS_of 362 (by decide +kernel) rfl
theorem w363 : Cond.selects "ShardGroups$StoreNode" ⟨"ShardGroups$Node", "carryOut", "(LShardGroups$Entry;)V"⟩ ⟨"ShardGroups$StoreNode", "carryOut", "(LShardGroups$Entry;)V"⟩ ∈ aWS := aWS_of 363 (by decide +kernel) rfl
theorem w364 : Cond.instanceMethod ⟨"ShardGroups$StoreNode", "carryOut", "(LShardGroups$Entry;)V"⟩ ∈ aWS := aWS_of 364 (by decide +kernel) rfl
theorem w365 : Cond.code ⟨"ShardGroups$StoreNode", "carryOut", "(LShardGroups$Entry;)V"⟩ prog_12_method_2_code 2 (Option.none : Option Jvm.ClassFile.FieldType) ∈ aWS := aWS_of 365 (by decide +kernel) rfl
theorem w366 : Cond.methodLink "ShardGroups$StoreNode" 26 ⟨"ShardGroups$Entry", "changeStore", "(LShardGroups$StoreNode;)V"⟩ ∈ aWS := aWS_of 366 (by decide +kernel) rfl
theorem w367 : Cond.instanceMethod ⟨"ShardGroups$Entry", "changeStore", "(LShardGroups$StoreNode;)V"⟩ ∈ aWS := aWS_of 367 (by decide +kernel) rfl
theorem w368 : Cond.selects "ShardGroups$Entry" ⟨"ShardGroups$Entry", "changeStore", "(LShardGroups$StoreNode;)V"⟩ ⟨"ShardGroups$Entry", "changeStore", "(LShardGroups$StoreNode;)V"⟩ ∈ aWS := aWS_of 368 (by decide +kernel) rfl
theorem w369 : Cond.sameMethod "ShardGroups$Entry" "ShardGroups$Entry" "changeStore" "(LShardGroups$StoreNode;)V" ∈ aWS := aWS_of 369 (by decide +kernel) rfl
theorem w370 : Cond.selects "ShardGroups$Change" ⟨"ShardGroups$Entry", "changeStore", "(LShardGroups$StoreNode;)V"⟩ ⟨"ShardGroups$Entry", "changeStore", "(LShardGroups$StoreNode;)V"⟩ ∈ aWS := aWS_of 370 (by decide +kernel) rfl
theorem w371 : Cond.selects "ShardGroups$Configure" ⟨"ShardGroups$Entry", "changeStore", "(LShardGroups$StoreNode;)V"⟩ ⟨"ShardGroups$Configure", "changeStore", "(LShardGroups$StoreNode;)V"⟩ ∈ aWS := aWS_of 371 (by decide +kernel) rfl
theorem w372 : Cond.instanceMethod ⟨"ShardGroups$Configure", "changeStore", "(LShardGroups$StoreNode;)V"⟩ ∈ aWS := aWS_of 372 (by decide +kernel) rfl
theorem w373 : Cond.code ⟨"ShardGroups$Configure", "changeStore", "(LShardGroups$StoreNode;)V"⟩ prog_4_method_2_code 2 (Option.none : Option Jvm.ClassFile.FieldType) ∈ aWS := aWS_of 373 (by decide +kernel) rfl
theorem w374 : Cond.methodLink "ShardGroups$Configure" 17 ⟨"ShardGroups$StoreNode", "adopt", "(ILShardGroups$Configuration;)V"⟩ ∈ aWS := aWS_of 374 (by decide +kernel) rfl
theorem w375 : Cond.instanceMethod ⟨"ShardGroups$StoreNode", "adopt", "(ILShardGroups$Configuration;)V"⟩ ∈ aWS := aWS_of 375 (by decide +kernel) rfl
theorem w376 : Cond.selects "ShardGroups$StoreNode" ⟨"ShardGroups$StoreNode", "adopt", "(ILShardGroups$Configuration;)V"⟩ ⟨"ShardGroups$StoreNode", "adopt", "(ILShardGroups$Configuration;)V"⟩ ∈ aWS := aWS_of 376 (by decide +kernel) rfl
theorem w377 : Cond.code ⟨"ShardGroups$StoreNode", "adopt", "(ILShardGroups$Configuration;)V"⟩ prog_12_method_6_code 4 (Option.none : Option Jvm.ClassFile.FieldType) ∈ aWS := aWS_of 377 (by decide +kernel) rfl
theorem w378 : Cond.methodLink "ShardGroups$StoreNode" 38 ⟨"ShardGroups$StoreNode", "isSettled", "()Z"⟩ ∈ aWS := aWS_of 378 (by decide +kernel) rfl
theorem w379 : Cond.instanceMethod ⟨"ShardGroups$StoreNode", "isSettled", "()Z"⟩ ∈ aWS := aWS_of 379 (by decide +kernel) rfl
theorem w380 : Cond.selects "ShardGroups$StoreNode" ⟨"ShardGroups$StoreNode", "isSettled", "()Z"⟩ ⟨"ShardGroups$StoreNode", "isSettled", "()Z"⟩ ∈ aWS := aWS_of 380 (by decide +kernel) rfl
theorem w381 : Cond.code ⟨"ShardGroups$StoreNode", "isSettled", "()Z"⟩ prog_12_method_4_code 5 (Option.some Jvm.ClassFile.FieldType.boolean) ∈ aWS := aWS_of 381 (by decide +kernel) rfl
theorem w382 : Cond.methodLink "ShardGroups$StoreNode" 48 ⟨"ShardGroups$StoreNode", "handOver", "(LShardGroups$Shard;II)V"⟩ ∈ aWS := aWS_of 382 (by decide +kernel) rfl
theorem w383 : Cond.instanceMethod ⟨"ShardGroups$StoreNode", "handOver", "(LShardGroups$Shard;II)V"⟩ ∈ aWS := aWS_of 383 (by decide +kernel) rfl
theorem w384 : Cond.selects "ShardGroups$StoreNode" ⟨"ShardGroups$StoreNode", "handOver", "(LShardGroups$Shard;II)V"⟩ ⟨"ShardGroups$StoreNode", "handOver", "(LShardGroups$Shard;II)V"⟩ ∈ aWS := aWS_of 384 (by decide +kernel) rfl
theorem w385 : Cond.code ⟨"ShardGroups$StoreNode", "handOver", "(LShardGroups$Shard;II)V"⟩ prog_12_method_7_code 4 (Option.none : Option Jvm.ClassFile.FieldType) ∈ aWS := aWS_of 385 (by decide +kernel) rfl
theorem w386 : Cond.methodLink "ShardGroups$StoreNode" 52 ⟨"ShardGroups$Shard", "clear", "()V"⟩ ∈ aWS := aWS_of 386 (by decide +kernel) rfl
theorem w387 : Cond.instanceMethod ⟨"ShardGroups$Shard", "clear", "()V"⟩ ∈ aWS := aWS_of 387 (by decide +kernel) rfl
theorem w388 : Cond.selects "ShardGroups$Shard" ⟨"ShardGroups$Shard", "clear", "()V"⟩ ⟨"ShardGroups$Shard", "clear", "()V"⟩ ∈ aWS := aWS_of 388 (by decide +kernel) rfl
theorem w389 : Cond.code ⟨"ShardGroups$Shard", "clear", "()V"⟩ prog_11_method_3_code 2 (Option.none : Option Jvm.ClassFile.FieldType) ∈ aWS := aWS_of 389 (by decide +kernel) rfl
theorem w390 : Cond.selects "ShardGroups$Delete" ⟨"ShardGroups$Entry", "changeStore", "(LShardGroups$StoreNode;)V"⟩ ⟨"ShardGroups$Delete", "changeStore", "(LShardGroups$StoreNode;)V"⟩ ∈ aWS := aWS_of 390 (by decide +kernel) rfl
theorem w391 : Cond.instanceMethod ⟨"ShardGroups$Delete", "changeStore", "(LShardGroups$StoreNode;)V"⟩ ∈ aWS := aWS_of 391 (by decide +kernel) rfl
theorem w392 : Cond.code ⟨"ShardGroups$Delete", "changeStore", "(LShardGroups$StoreNode;)V"⟩ prog_5_method_2_code 3 (Option.none : Option Jvm.ClassFile.FieldType) ∈ aWS := aWS_of 392 (by decide +kernel) rfl
theorem w393 : Cond.selects "ShardGroups$Insert" ⟨"ShardGroups$Entry", "changeStore", "(LShardGroups$StoreNode;)V"⟩ ⟨"ShardGroups$Insert", "changeStore", "(LShardGroups$StoreNode;)V"⟩ ∈ aWS := aWS_of 393 (by decide +kernel) rfl
theorem w394 : Cond.instanceMethod ⟨"ShardGroups$Insert", "changeStore", "(LShardGroups$StoreNode;)V"⟩ ∈ aWS := aWS_of 394 (by decide +kernel) rfl
theorem w395 : Cond.code ⟨"ShardGroups$Insert", "changeStore", "(LShardGroups$StoreNode;)V"⟩ prog_7_method_2_code 3 (Option.none : Option Jvm.ClassFile.FieldType) ∈ aWS := aWS_of 395 (by decide +kernel) rfl
theorem w396 : Cond.methodLink "ShardGroups$Insert" 27 ⟨"ShardGroups$Shard", "copyContents", "(LShardGroups$Shard;)V"⟩ ∈ aWS := aWS_of 396 (by decide +kernel) rfl
theorem w397 : Cond.instanceMethod ⟨"ShardGroups$Shard", "copyContents", "(LShardGroups$Shard;)V"⟩ ∈ aWS := aWS_of 397 (by decide +kernel) rfl
theorem w398 : Cond.selects "ShardGroups$Shard" ⟨"ShardGroups$Shard", "copyContents", "(LShardGroups$Shard;)V"⟩ ⟨"ShardGroups$Shard", "copyContents", "(LShardGroups$Shard;)V"⟩ ∈ aWS := aWS_of 398 (by decide +kernel) rfl
theorem w399 : Cond.code ⟨"ShardGroups$Shard", "copyContents", "(LShardGroups$Shard;)V"⟩ prog_11_method_4_code 2 (Option.none : Option Jvm.ClassFile.FieldType) ∈ aWS := aWS_of 399 (by decide +kernel) rfl
theorem w400 : Cond.methodLink "ShardGroups$Shard" 25 ⟨"java/lang/System", "arraycopy", "(Ljava/lang/Object;ILjava/lang/Object;II)V"⟩ ∈ aWS := aWS_of 400 (by decide +kernel) rfl
theorem w401 : Cond.selects "ShardGroups$Request" ⟨"ShardGroups$Entry", "changeStore", "(LShardGroups$StoreNode;)V"⟩ ⟨"ShardGroups$Request", "changeStore", "(LShardGroups$StoreNode;)V"⟩ ∈ aWS := aWS_of 401 (by decide +kernel) rfl
theorem w402 : Cond.instanceMethod ⟨"ShardGroups$Request", "changeStore", "(LShardGroups$StoreNode;)V"⟩ ∈ aWS := aWS_of 402 (by decide +kernel) rfl
theorem w403 : Cond.code ⟨"ShardGroups$Request", "changeStore", "(LShardGroups$StoreNode;)V"⟩ prog_9_method_2_code 2 (Option.none : Option Jvm.ClassFile.FieldType) ∈ aWS := aWS_of 403 (by decide +kernel) rfl
theorem w405 : Cond.static ⟨"ShardGroups", "shardOf", "(I)I"⟩ ∈ aWS := aWS_of 405 (by decide +kernel) rfl
theorem w406 : Cond.code ⟨"ShardGroups", "shardOf", "(I)I"⟩ prog_1_method_21_code 1 (Option.some Jvm.ClassFile.FieldType.int) ∈ aWS := aWS_of 406 (by decide +kernel) rfl
theorem w407 : Cond.methodLink "ShardGroups$Request" 37 ⟨"ShardGroups$Shard", "serve", "(LShardGroups$Request;)V"⟩ ∈ aWS := aWS_of 407 (by decide +kernel) rfl
theorem w408 : Cond.instanceMethod ⟨"ShardGroups$Shard", "serve", "(LShardGroups$Request;)V"⟩ ∈ aWS := aWS_of 408 (by decide +kernel) rfl
theorem w409 : Cond.selects "ShardGroups$Shard" ⟨"ShardGroups$Shard", "serve", "(LShardGroups$Request;)V"⟩ ⟨"ShardGroups$Shard", "serve", "(LShardGroups$Request;)V"⟩ ∈ aWS := aWS_of 409 (by decide +kernel) rfl
theorem w410 : Cond.code ⟨"ShardGroups$Shard", "serve", "(LShardGroups$Request;)V"⟩ prog_11_method_5_code 3 (Option.none : Option Jvm.ClassFile.FieldType) ∈ aWS := aWS_of 410 (by decide +kernel) rfl
theorem w412 : Cond.static ⟨"ShardGroups", "placeInShard", "(I)I"⟩ ∈ aWS := aWS_of 412 (by decide +kernel) rfl
theorem w413 : Cond.code ⟨"ShardGroups", "placeInShard", "(I)I"⟩ prog_1_method_22_code 1 (Option.some Jvm.ClassFile.FieldType.int) ∈ aWS := aWS_of 413 (by decide +kernel) rfl
theorem w414 : Cond.code ⟨"ShardGroups$Entry", "changeStore", "(LShardGroups$StoreNode;)V"⟩ prog_6_method_3_code 2 (Option.none : Option Jvm.ClassFile.FieldType) ∈ aWS := aWS_of 414 (by decide +kernel) rfl
theorem w415 : Cond.methodLink "ShardGroups$Node" 65 ⟨"java/lang/Math", "max", "(II)I"⟩ ∈ aWS := aWS_of 415 (by decide +kernel) rfl
theorem w416 : Cond.static ⟨"java/lang/Math", "max", "(II)I"⟩ ∈ aWS := aWS_of 416 (by decide +kernel) rfl
theorem w417 : Cond.code ⟨"java/lang/Math", "max", "(II)I"⟩ prog_15_method_65_code 2 (Option.some Jvm.ClassFile.FieldType.int) ∈ aWS := aWS_of 417 (by decide +kernel) rfl
theorem w418 : Cond.methodLink "ShardGroupsLaw" 32 ⟨"ShardGroups", "change", "(IIII)I"⟩ ∈ aWS := aWS_of 418 (by decide +kernel) rfl
theorem w419 : Cond.instanceMethod ⟨"ShardGroups", "change", "(IIII)I"⟩ ∈ aWS := aWS_of 419 (by decide +kernel) rfl
theorem w420 : Cond.selects "ShardGroups" ⟨"ShardGroups", "change", "(IIII)I"⟩ ⟨"ShardGroups", "change", "(IIII)I"⟩ ∈ aWS := aWS_of 420 (by decide +kernel) rfl
theorem w421 : Cond.code ⟨"ShardGroups", "change", "(IIII)I"⟩ prog_1_method_6_code 6 (Option.some Jvm.ClassFile.FieldType.int) ∈ aWS := aWS_of 421 (by decide +kernel) rfl
theorem w422 : Cond.methodLink "ShardGroups" 97 ⟨"ShardGroups", "upService", "(I)LShardGroups$ServiceNode;"⟩ ∈ aWS := aWS_of 422 (by decide +kernel) rfl
theorem w424 : Cond.instanceMethod ⟨"ShardGroups", "upService", "(I)LShardGroups$ServiceNode;"⟩ ∈ aWS := aWS_of 424 (by decide +kernel) rfl
theorem w425 : Cond.code ⟨"ShardGroups", "upService", "(I)LShardGroups$ServiceNode;"⟩ prog_1_method_32_code 3 (Option.some (Jvm.ClassFile.FieldType.object "ShardGroups$ServiceNode")) ∈ aWS := aWS_of 425 (by decide +kernel) rfl
theorem w426 : Cond.methodLink "ShardGroups" 192 ⟨"ShardGroups", "anyService", "(I)LShardGroups$ServiceNode;"⟩ ∈ aWS := aWS_of 426 (by decide +kernel) rfl
theorem w428 : Cond.instanceMethod ⟨"ShardGroups", "anyService", "(I)LShardGroups$ServiceNode;"⟩ ∈ aWS := aWS_of 428 (by decide +kernel) rfl
theorem w429 : Cond.code ⟨"ShardGroups", "anyService", "(I)LShardGroups$ServiceNode;"⟩ prog_1_method_29_code 2 (Option.some (Jvm.ClassFile.FieldType.object "ShardGroups$ServiceNode")) ∈ aWS := aWS_of 429 (by decide +kernel) rfl
theorem w430 : Cond.methodLink "ShardGroups" 101 ⟨"ShardGroups", "isChange", "(III)Z"⟩ ∈ aWS := aWS_of 430 (by decide +kernel) rfl
theorem w431 : Cond.static ⟨"ShardGroups", "isChange", "(III)Z"⟩ ∈ aWS := aWS_of 431 (by decide +kernel) rfl
theorem w432 : Cond.code ⟨"ShardGroups", "isChange", "(III)Z"⟩ prog_1_method_27_code 3 (Option.some Jvm.ClassFile.FieldType.boolean) ∈ aWS := aWS_of 432 (by decide +kernel) rfl
end
section
theorem w433 : Cond.methodLink "ShardGroups" 151 ⟨"ShardGroups", "isShard", "(I)Z"⟩ ∈ aWS := aWS_of 433 (by decide +kernel) rfl
theorem w434 : Cond.static ⟨"ShardGroups", "isShard", "(I)Z"⟩ ∈ aWS := aWS_of 434 (by decide +kernel) rfl
theorem w435 : Cond.code ⟨"ShardGroups", "isShard", "(I)Z"⟩ prog_1_method_23_code 1 (Option.some Jvm.ClassFile.FieldType.boolean) ∈ aWS := aWS_of 435 (by decide +kernel) rfl
theorem w436 : Cond.methodLink "ShardGroups" 214 ⟨"ShardGroups", "isOwningGroup", "(I)Z"⟩ ∈ aWS := aWS_of 436 (by decide +kernel) rfl
theorem w437 : Cond.static ⟨"ShardGroups", "isOwningGroup", "(I)Z"⟩ ∈ aWS := aWS_of 437 (by decide +kernel) rfl
theorem w438 : Cond.code ⟨"ShardGroups", "isOwningGroup", "(I)Z"⟩ prog_1_method_26_code 1 (Option.some Jvm.ClassFile.FieldType.boolean) ∈ aWS := aWS_of 438 (by decide +kernel) rfl
theorem w439 : Cond.classLink "ShardGroups" 106 "ShardGroups$Change" ∈ aWS := aWS_of 439 (by decide +kernel) rfl
theorem w440 : Cond.methodLink "ShardGroups" 109 ⟨"ShardGroups$Change", "<init>", "(IIII)V"⟩ ∈ aWS := aWS_of 440 (by decide +kernel) rfl
theorem w441 : Cond.instanceMethod ⟨"ShardGroups$Change", "<init>", "(IIII)V"⟩ ∈ aWS := aWS_of 441 (by decide +kernel) rfl
theorem w442 : Cond.code ⟨"ShardGroups$Change", "<init>", "(IIII)V"⟩ prog_2_method_1_code 5 (Option.none : Option Jvm.ClassFile.FieldType) ∈ aWS := aWS_of 442 (by decide +kernel) rfl
theorem w443 : Cond.methodLink "ShardGroups$Change" 3 ⟨"ShardGroups$Entry", "<init>", "(I)V"⟩ ∈ aWS := aWS_of 443 (by decide +kernel) rfl
theorem w444 : Cond.fieldLink "ShardGroups$Change" 9 "ShardGroups$Change" "kind" "I" ∈ aWS := aWS_of 444 (by decide +kernel) rfl
theorem w445 : Cond.fieldLink "ShardGroups$Change" 15 "ShardGroups$Change" "a" "I" ∈ aWS := aWS_of 445 (by decide +kernel) rfl
theorem w446 : Cond.fieldLink "ShardGroups$Change" 18 "ShardGroups$Change" "b" "I" ∈ aWS := aWS_of 446 (by decide +kernel) rfl
theorem w447 : Cond.laysFinal "ShardGroups$Change" "ShardGroups$Change" "kind" "I" ∈ aWS := aWS_of 447 (by decide +kernel) rfl
theorem w449 : Cond.laysFinal "ShardGroups$Change" "ShardGroups$Change" "a" "I" ∈ aWS := aWS_of 449 (by decide +kernel) rfl
theorem w451 : Cond.laysFinal "ShardGroups$Change" "ShardGroups$Change" "b" "I" ∈ aWS := aWS_of 451 (by decide +kernel) rfl
theorem w453 : Cond.laysFinal "ShardGroups$Change" "ShardGroups$Entry" "term" "I" ∈ aWS := aWS_of 453 (by decide +kernel) rfl
theorem w455 : Cond.methodLink "ShardGroups" 112 ⟨"ShardGroups$ServiceNode", "write", "(LShardGroups$Entry;)I"⟩ ∈ aWS := aWS_of 455 (by decide +kernel) rfl
theorem w456 : Cond.sameMethod "ShardGroups$ServiceNode" "ShardGroups$Node" "write" "(LShardGroups$Entry;)I" ∈ aWS := aWS_of 456 (by decide +kernel) rfl
theorem w458 : Cond.selects "ShardGroups$ServiceNode" ⟨"ShardGroups$ServiceNode", "write", "(LShardGroups$Entry;)I"⟩ ⟨"ShardGroups$Node", "write", "(LShardGroups$Entry;)I"⟩ ∈ aWS := aWS_of 458 (by decide +kernel) rfl
theorem w459 : Cond.methodLink "ShardGroupsLaw" 37 ⟨"ShardGroups", "request", "(IIIIII)I"⟩ ∈ aWS := aWS_of 459 (by decide +kernel) rfl
theorem w460 : Cond.instanceMethod ⟨"ShardGroups", "request", "(IIIIII)I"⟩ ∈ aWS := aWS_of 460 (by decide +kernel) rfl
theorem w461 : Cond.selects "ShardGroups" ⟨"ShardGroups", "request", "(IIIIII)I"⟩ ⟨"ShardGroups", "request", "(IIIIII)I"⟩ ∈ aWS := aWS_of 461 (by decide +kernel) rfl
theorem w462 : Cond.code ⟨"ShardGroups", "request", "(IIIIII)I"⟩ prog_1_method_7_code 8 (Option.some Jvm.ClassFile.FieldType.int) ∈ aWS := aWS_of 462 (by decide +kernel) rfl
theorem w463 : Cond.methodLink "ShardGroups" 113 ⟨"ShardGroups", "upStore", "(I)LShardGroups$StoreNode;"⟩ ∈ aWS := aWS_of 463 (by decide +kernel) rfl
theorem w465 : Cond.instanceMethod ⟨"ShardGroups", "upStore", "(I)LShardGroups$StoreNode;"⟩ ∈ aWS := aWS_of 465 (by decide +kernel) rfl
theorem w466 : Cond.code ⟨"ShardGroups", "upStore", "(I)LShardGroups$StoreNode;"⟩ prog_1_method_33_code 3 (Option.some (Jvm.ClassFile.FieldType.object "ShardGroups$StoreNode")) ∈ aWS := aWS_of 466 (by decide +kernel) rfl
theorem w467 : Cond.methodLink "ShardGroups" 195 ⟨"ShardGroups", "anyStore", "(I)LShardGroups$StoreNode;"⟩ ∈ aWS := aWS_of 467 (by decide +kernel) rfl
theorem w469 : Cond.instanceMethod ⟨"ShardGroups", "anyStore", "(I)LShardGroups$StoreNode;"⟩ ∈ aWS := aWS_of 469 (by decide +kernel) rfl
theorem w470 : Cond.code ⟨"ShardGroups", "anyStore", "(I)LShardGroups$StoreNode;"⟩ prog_1_method_30_code 2 (Option.some (Jvm.ClassFile.FieldType.object "ShardGroups$StoreNode")) ∈ aWS := aWS_of 470 (by decide +kernel) rfl
theorem w471 : Cond.methodLink "ShardGroups" 117 ⟨"ShardGroups", "isClient", "(I)Z"⟩ ∈ aWS := aWS_of 471 (by decide +kernel) rfl
theorem w472 : Cond.static ⟨"ShardGroups", "isClient", "(I)Z"⟩ ∈ aWS := aWS_of 472 (by decide +kernel) rfl
theorem w473 : Cond.code ⟨"ShardGroups", "isClient", "(I)Z"⟩ prog_1_method_25_code 1 (Option.some Jvm.ClassFile.FieldType.boolean) ∈ aWS := aWS_of 473 (by decide +kernel) rfl
theorem w474 : Cond.methodLink "ShardGroups" 121 ⟨"ShardGroups", "isKey", "(I)Z"⟩ ∈ aWS := aWS_of 474 (by decide +kernel) rfl
theorem w475 : Cond.static ⟨"ShardGroups", "isKey", "(I)Z"⟩ ∈ aWS := aWS_of 475 (by decide +kernel) rfl
theorem w476 : Cond.code ⟨"ShardGroups", "isKey", "(I)Z"⟩ prog_1_method_24_code 1 (Option.some Jvm.ClassFile.FieldType.boolean) ∈ aWS := aWS_of 476 (by decide +kernel) rfl
theorem w477 : Cond.classLink "ShardGroups" 125 "ShardGroups$Request" ∈ aWS := aWS_of 477 (by decide +kernel) rfl
theorem w478 : Cond.instantiable "ShardGroups$Request" 6 ∈ aWS := aWS_of 478 (by decide +kernel) rfl
theorem w479 : Cond.methodLink "ShardGroups" 128 ⟨"ShardGroups$Request", "<init>", "(IIIIII)V"⟩ ∈ aWS := aWS_of 479 (by decide +kernel) rfl
theorem w480 : Cond.instanceMethod ⟨"ShardGroups$Request", "<init>", "(IIIIII)V"⟩ ∈ aWS := aWS_of 480 (by decide +kernel) rfl
theorem w481 : Cond.code ⟨"ShardGroups$Request", "<init>", "(IIIIII)V"⟩ prog_9_method_1_code 7 (Option.none : Option Jvm.ClassFile.FieldType) ∈ aWS := aWS_of 481 (by decide +kernel) rfl
theorem w482 : Cond.methodLink "ShardGroups$Request" 1 ⟨"ShardGroups$Entry", "<init>", "(I)V"⟩ ∈ aWS := aWS_of 482 (by decide +kernel) rfl
theorem w483 : Cond.fieldLink "ShardGroups$Request" 7 "ShardGroups$Request" "client" "I" ∈ aWS := aWS_of 483 (by decide +kernel) rfl
theorem w484 : Cond.fieldLink "ShardGroups$Shard" 36 "ShardGroups$Request" "client" "I" ∈ aWS := aWS_of 484 (by decide +kernel) rfl
theorem w485 : Cond.fieldLink "ShardGroups$Request" 13 "ShardGroups$Request" "number" "I" ∈ aWS := aWS_of 485 (by decide +kernel) rfl
theorem w486 : Cond.fieldLink "ShardGroups$Shard" 31 "ShardGroups$Request" "number" "I" ∈ aWS := aWS_of 486 (by decide +kernel) rfl
theorem w487 : Cond.fieldLink "ShardGroups$Request" 16 "ShardGroups$Request" "kind" "I" ∈ aWS := aWS_of 487 (by decide +kernel) rfl
theorem w488 : Cond.fieldLink "ShardGroups$Shard" 46 "ShardGroups$Request" "kind" "I" ∈ aWS := aWS_of 488 (by decide +kernel) rfl
theorem w489 : Cond.fieldLink "ShardGroups$Request" 19 "ShardGroups$Request" "key" "I" ∈ aWS := aWS_of 489 (by decide +kernel) rfl
theorem w490 : Cond.fieldLink "ShardGroups$Shard" 39 "ShardGroups$Request" "key" "I" ∈ aWS := aWS_of 490 (by decide +kernel) rfl
theorem w491 : Cond.fieldLink "ShardGroups$Request" 22 "ShardGroups$Request" "value" "I" ∈ aWS := aWS_of 491 (by decide +kernel) rfl
theorem w492 : Cond.fieldLink "ShardGroups$Shard" 49 "ShardGroups$Request" "value" "I" ∈ aWS := aWS_of 492 (by decide +kernel) rfl
theorem w493 : Cond.laysFinal "ShardGroups$Request" "ShardGroups$Request" "client" "I" ∈ aWS := aWS_of 493 (by decide +kernel) rfl
theorem w495 : Cond.laysFinal "ShardGroups$Request" "ShardGroups$Request" "number" "I" ∈ aWS := aWS_of 495 (by decide +kernel) rfl
theorem w497 : Cond.laysFinal "ShardGroups$Request" "ShardGroups$Request" "kind" "I" ∈ aWS := aWS_of 497 (by decide +kernel) rfl
theorem w499 : Cond.laysFinal "ShardGroups$Request" "ShardGroups$Request" "key" "I" ∈ aWS := aWS_of 499 (by decide +kernel) rfl
theorem w501 : Cond.laysFinal "ShardGroups$Request" "ShardGroups$Request" "value" "I" ∈ aWS := aWS_of 501 (by decide +kernel) rfl
theorem w503 : Cond.laysFinal "ShardGroups$Request" "ShardGroups$Entry" "term" "I" ∈ aWS := aWS_of 503 (by decide +kernel) rfl
theorem w505 : Cond.methodLink "ShardGroups" 131 ⟨"ShardGroups$StoreNode", "write", "(LShardGroups$Entry;)I"⟩ ∈ aWS := aWS_of 505 (by decide +kernel) rfl
theorem w506 : Cond.sameMethod "ShardGroups$StoreNode" "ShardGroups$Node" "write" "(LShardGroups$Entry;)I" ∈ aWS := aWS_of 506 (by decide +kernel) rfl
theorem w507 : Cond.selects "ShardGroups$StoreNode" ⟨"ShardGroups$StoreNode", "write", "(LShardGroups$Entry;)I"⟩ ⟨"ShardGroups$Node", "write", "(LShardGroups$Entry;)I"⟩ ∈ aWS := aWS_of 507 (by decide +kernel) rfl
theorem w508 : Cond.methodLink "ShardGroupsLaw" 42 ⟨"ShardGroups", "poll", "(II)I"⟩ ∈ aWS := aWS_of 508 (by decide +kernel) rfl
theorem w509 : Cond.instanceMethod ⟨"ShardGroups", "poll", "(II)I"⟩ ∈ aWS := aWS_of 509 (by decide +kernel) rfl
theorem w510 : Cond.selects "ShardGroups" ⟨"ShardGroups", "poll", "(II)I"⟩ ⟨"ShardGroups", "poll", "(II)I"⟩ ∈ aWS := aWS_of 510 (by decide +kernel) rfl
theorem w511 : Cond.code ⟨"ShardGroups", "poll", "(II)I"⟩ prog_1_method_8_code 6 (Option.some Jvm.ClassFile.FieldType.int) ∈ aWS := aWS_of 511 (by decide +kernel) rfl
theorem w512 : Cond.methodLink "ShardGroups" 135 ⟨"ShardGroups$StoreNode", "isSettled", "()Z"⟩ ∈ aWS := aWS_of 512 (by decide +kernel) rfl
theorem w513 : Cond.classLink "ShardGroups" 142 "ShardGroups$Configure" ∈ aWS := aWS_of 513 (by decide +kernel) rfl
theorem w514 : Cond.instantiable "ShardGroups$Configure" 3 ∈ aWS := aWS_of 514 (by decide +kernel) rfl
theorem w515 : Cond.methodLink "ShardGroups" 148 ⟨"ShardGroups$Configure", "<init>", "(IILShardGroups$Configuration;)V"⟩ ∈ aWS := aWS_of 515 (by decide +kernel) rfl
theorem w516 : Cond.instanceMethod ⟨"ShardGroups$Configure", "<init>", "(IILShardGroups$Configuration;)V"⟩ ∈ aWS := aWS_of 516 (by decide +kernel) rfl
theorem w517 : Cond.code ⟨"ShardGroups$Configure", "<init>", "(IILShardGroups$Configuration;)V"⟩ prog_4_method_1_code 4 (Option.none : Option Jvm.ClassFile.FieldType) ∈ aWS := aWS_of 517 (by decide +kernel) rfl
theorem w518 : Cond.methodLink "ShardGroups$Configure" 1 ⟨"ShardGroups$Entry", "<init>", "(I)V"⟩ ∈ aWS := aWS_of 518 (by decide +kernel) rfl
theorem w519 : Cond.fieldLink "ShardGroups$Configure" 7 "ShardGroups$Configure" "c" "I" ∈ aWS := aWS_of 519 (by decide +kernel) rfl
theorem w520 : Cond.fieldLink "ShardGroups$Configure" 13 "ShardGroups$Configure" "next" "LShardGroups$Configuration;" ∈ aWS := aWS_of 520 (by decide +kernel) rfl
theorem w521 : Cond.laysFinal "ShardGroups$Configure" "ShardGroups$Configure" "c" "I" ∈ aWS := aWS_of 521 (by decide +kernel) rfl
theorem w523 : Cond.laysFinal "ShardGroups$Configure" "ShardGroups$Configure" "next" "LShardGroups$Configuration;" ∈ aWS := aWS_of 523 (by decide +kernel) rfl
theorem w525 : Cond.laysFinal "ShardGroups$Configure" "ShardGroups$Entry" "term" "I" ∈ aWS := aWS_of 525 (by decide +kernel) rfl
theorem w527 : Cond.methodLink "ShardGroupsLaw" 46 ⟨"ShardGroups", "pull", "(III)I"⟩ ∈ aWS := aWS_of 527 (by decide +kernel) rfl
theorem w528 : Cond.instanceMethod ⟨"ShardGroups", "pull", "(III)I"⟩ ∈ aWS := aWS_of 528 (by decide +kernel) rfl
theorem w529 : Cond.selects "ShardGroups" ⟨"ShardGroups", "pull", "(III)I"⟩ ⟨"ShardGroups", "pull", "(III)I"⟩ ∈ aWS := aWS_of 529 (by decide +kernel) rfl
theorem w530 : Cond.code ⟨"ShardGroups", "pull", "(III)I"⟩ prog_1_method_9_code 6 (Option.some Jvm.ClassFile.FieldType.int) ∈ aWS := aWS_of 530 (by decide +kernel) rfl
theorem w531 : Cond.classLink "ShardGroups" 163 "ShardGroups$Insert" ∈ aWS := aWS_of 531 (by decide +kernel) rfl
theorem w532 : Cond.instantiable "ShardGroups$Insert" 4 ∈ aWS := aWS_of 532 (by decide +kernel) rfl
theorem w533 : Cond.methodLink "ShardGroups" 165 ⟨"ShardGroups$Insert", "<init>", "(IIILShardGroups$Shard;)V"⟩ ∈ aWS := aWS_of 533 (by decide +kernel) rfl
theorem w534 : Cond.instanceMethod ⟨"ShardGroups$Insert", "<init>", "(IIILShardGroups$Shard;)V"⟩ ∈ aWS := aWS_of 534 (by decide +kernel) rfl
theorem w535 : Cond.code ⟨"ShardGroups$Insert", "<init>", "(IIILShardGroups$Shard;)V"⟩ prog_7_method_1_code 5 (Option.none : Option Jvm.ClassFile.FieldType) ∈ aWS := aWS_of 535 (by decide +kernel) rfl
theorem w536 : Cond.methodLink "ShardGroups$Insert" 3 ⟨"ShardGroups$Entry", "<init>", "(I)V"⟩ ∈ aWS := aWS_of 536 (by decide +kernel) rfl
theorem w537 : Cond.classLink "ShardGroups$Insert" 9 "ShardGroups$Shard" ∈ aWS := aWS_of 537 (by decide +kernel) rfl
theorem w539 : Cond.fieldLink "ShardGroups$Insert" 20 "ShardGroups$Insert" "shard" "I" ∈ aWS := aWS_of 539 (by decide +kernel) rfl
theorem w540 : Cond.fieldLink "ShardGroups$Insert" 24 "ShardGroups$Insert" "c" "I" ∈ aWS := aWS_of 540 (by decide +kernel) rfl
theorem w541 : Cond.fieldLink "ShardGroups$Insert" 14 "ShardGroups$Insert" "contents" "LShardGroups$Shard;" ∈ aWS := aWS_of 541 (by decide +kernel) rfl
theorem w542 : Cond.laysFinal "ShardGroups$Insert" "ShardGroups$Insert" "shard" "I" ∈ aWS := aWS_of 542 (by decide +kernel) rfl
theorem w544 : Cond.laysFinal "ShardGroups$Insert" "ShardGroups$Insert" "c" "I" ∈ aWS := aWS_of 544 (by decide +kernel) rfl
theorem w546 : Cond.laysFinal "ShardGroups$Insert" "ShardGroups$Insert" "contents" "LShardGroups$Shard;" ∈ aWS := aWS_of 546 (by decide +kernel) rfl
theorem w548 : Cond.laysFinal "ShardGroups$Insert" "ShardGroups$Entry" "term" "I" ∈ aWS := aWS_of 548 (by decide +kernel) rfl
theorem w550 : Cond.methodLink "ShardGroupsLaw" 51 ⟨"ShardGroups", "confirm", "(III)I"⟩ ∈ aWS := aWS_of 550 (by decide +kernel) rfl
theorem w551 : Cond.instanceMethod ⟨"ShardGroups", "confirm", "(III)I"⟩ ∈ aWS := aWS_of 551 (by decide +kernel) rfl
theorem w552 : Cond.selects "ShardGroups" ⟨"ShardGroups", "confirm", "(III)I"⟩ ⟨"ShardGroups", "confirm", "(III)I"⟩ ∈ aWS := aWS_of 552 (by decide +kernel) rfl
theorem w553 : Cond.code ⟨"ShardGroups", "confirm", "(III)I"⟩ prog_1_method_10_code 6 (Option.some Jvm.ClassFile.FieldType.int) ∈ aWS := aWS_of 553 (by decide +kernel) rfl
theorem w554 : Cond.methodLink "ShardGroups" 179 ⟨"ShardGroups$StoreNode", "hasReceived", "(II)Z"⟩ ∈ aWS := aWS_of 554 (by decide +kernel) rfl
theorem w555 : Cond.instanceMethod ⟨"ShardGroups$StoreNode", "hasReceived", "(II)Z"⟩ ∈ aWS := aWS_of 555 (by decide +kernel) rfl
theorem w556 : Cond.selects "ShardGroups$StoreNode" ⟨"ShardGroups$StoreNode", "hasReceived", "(II)Z"⟩ ⟨"ShardGroups$StoreNode", "hasReceived", "(II)Z"⟩ ∈ aWS := aWS_of 556 (by decide +kernel) rfl
theorem w557 : Cond.code ⟨"ShardGroups$StoreNode", "hasReceived", "(II)Z"⟩ prog_12_method_5_code 3 (Option.some Jvm.ClassFile.FieldType.boolean) ∈ aWS := aWS_of 557 (by decide +kernel) rfl
theorem w558 : Cond.classLink "ShardGroups" 183 "ShardGroups$Delete" ∈ aWS := aWS_of 558 (by decide +kernel) rfl
theorem w559 : Cond.instantiable "ShardGroups$Delete" 3 ∈ aWS := aWS_of 559 (by decide +kernel) rfl
theorem w560 : Cond.methodLink "ShardGroups" 185 ⟨"ShardGroups$Delete", "<init>", "(III)V"⟩ ∈ aWS := aWS_of 560 (by decide +kernel) rfl
theorem w561 : Cond.instanceMethod ⟨"ShardGroups$Delete", "<init>", "(III)V"⟩ ∈ aWS := aWS_of 561 (by decide +kernel) rfl
theorem w562 : Cond.code ⟨"ShardGroups$Delete", "<init>", "(III)V"⟩ prog_5_method_1_code 4 (Option.none : Option Jvm.ClassFile.FieldType) ∈ aWS := aWS_of 562 (by decide +kernel) rfl
theorem w563 : Cond.methodLink "ShardGroups$Delete" 3 ⟨"ShardGroups$Entry", "<init>", "(I)V"⟩ ∈ aWS := aWS_of 563 (by decide +kernel) rfl
theorem w564 : Cond.fieldLink "ShardGroups$Delete" 9 "ShardGroups$Delete" "shard" "I" ∈ aWS := aWS_of 564 (by decide +kernel) rfl
theorem w565 : Cond.fieldLink "ShardGroups$Delete" 15 "ShardGroups$Delete" "c" "I" ∈ aWS := aWS_of 565 (by decide +kernel) rfl
theorem w566 : Cond.laysFinal "ShardGroups$Delete" "ShardGroups$Delete" "shard" "I" ∈ aWS := aWS_of 566 (by decide +kernel) rfl
theorem w568 : Cond.laysFinal "ShardGroups$Delete" "ShardGroups$Delete" "c" "I" ∈ aWS := aWS_of 568 (by decide +kernel) rfl
theorem w570 : Cond.laysFinal "ShardGroups$Delete" "ShardGroups$Entry" "term" "I" ∈ aWS := aWS_of 570 (by decide +kernel) rfl
theorem w572 : Cond.methodLink "ShardGroupsLaw" 55 ⟨"ShardGroups", "length", "(I)I"⟩ ∈ aWS := aWS_of 572 (by decide +kernel) rfl
theorem w573 : Cond.instanceMethod ⟨"ShardGroups", "length", "(I)I"⟩ ∈ aWS := aWS_of 573 (by decide +kernel) rfl
theorem w574 : Cond.selects "ShardGroups" ⟨"ShardGroups", "length", "(I)I"⟩ ⟨"ShardGroups", "length", "(I)I"⟩ ∈ aWS := aWS_of 574 (by decide +kernel) rfl
theorem w575 : Cond.code ⟨"ShardGroups", "length", "(I)I"⟩ prog_1_method_11_code 3 (Option.some Jvm.ClassFile.FieldType.int) ∈ aWS := aWS_of 575 (by decide +kernel) rfl
theorem w576 : Cond.methodLink "ShardGroupsLaw" 59 ⟨"ShardGroups", "known", "(I)I"⟩ ∈ aWS := aWS_of 576 (by decide +kernel) rfl
theorem w577 : Cond.instanceMethod ⟨"ShardGroups", "known", "(I)I"⟩ ∈ aWS := aWS_of 577 (by decide +kernel) rfl
theorem w578 : Cond.selects "ShardGroups" ⟨"ShardGroups", "known", "(I)I"⟩ ⟨"ShardGroups", "known", "(I)I"⟩ ∈ aWS := aWS_of 578 (by decide +kernel) rfl
theorem w579 : Cond.code ⟨"ShardGroups", "known", "(I)I"⟩ prog_1_method_12_code 3 (Option.some Jvm.ClassFile.FieldType.int) ∈ aWS := aWS_of 579 (by decide +kernel) rfl
theorem w580 : Cond.methodLink "ShardGroupsLaw" 63 ⟨"ShardGroups", "term", "(I)I"⟩ ∈ aWS := aWS_of 580 (by decide +kernel) rfl
theorem w581 : Cond.instanceMethod ⟨"ShardGroups", "term", "(I)I"⟩ ∈ aWS := aWS_of 581 (by decide +kernel) rfl
theorem w582 : Cond.selects "ShardGroups" ⟨"ShardGroups", "term", "(I)I"⟩ ⟨"ShardGroups", "term", "(I)I"⟩ ∈ aWS := aWS_of 582 (by decide +kernel) rfl
theorem w583 : Cond.code ⟨"ShardGroups", "term", "(I)I"⟩ prog_1_method_13_code 3 (Option.some Jvm.ClassFile.FieldType.int) ∈ aWS := aWS_of 583 (by decide +kernel) rfl
theorem w584 : Cond.methodLink "ShardGroupsLaw" 67 ⟨"ShardGroups", "configuration", "(I)I"⟩ ∈ aWS := aWS_of 584 (by decide +kernel) rfl
theorem w585 : Cond.instanceMethod ⟨"ShardGroups", "configuration", "(I)I"⟩ ∈ aWS := aWS_of 585 (by decide +kernel) rfl
theorem w586 : Cond.selects "ShardGroups" ⟨"ShardGroups", "configuration", "(I)I"⟩ ⟨"ShardGroups", "configuration", "(I)I"⟩ ∈ aWS := aWS_of 586 (by decide +kernel) rfl
theorem w587 : Cond.code ⟨"ShardGroups", "configuration", "(I)I"⟩ prog_1_method_14_code 3 (Option.some Jvm.ClassFile.FieldType.int) ∈ aWS := aWS_of 587 (by decide +kernel) rfl
theorem w588 : Cond.methodLink "ShardGroups" 188 ⟨"ShardGroups$Node", "lastNumber", "()I"⟩ ∈ aWS := aWS_of 588 (by decide +kernel) rfl
theorem w590 : Cond.sameMethod "ShardGroups$Node" "ShardGroups$Node" "lastNumber" "()I" ∈ aWS := aWS_of 590 (by decide +kernel) rfl
theorem w591 : Cond.selects "ShardGroups$ServiceNode" ⟨"ShardGroups$Node", "lastNumber", "()I"⟩ ⟨"ShardGroups$ServiceNode", "lastNumber", "()I"⟩ ∈ aWS := aWS_of 591 (by decide +kernel) rfl
theorem w592 : Cond.instanceMethod ⟨"ShardGroups$ServiceNode", "lastNumber", "()I"⟩ ∈ aWS := aWS_of 592 (by decide +kernel) rfl
theorem w593 : Cond.code ⟨"ShardGroups$ServiceNode", "lastNumber", "()I"⟩ prog_10_method_3_code 1 (Option.some Jvm.ClassFile.FieldType.int) ∈ aWS := aWS_of 593 (by decide +kernel) rfl
theorem w594 : Cond.selects "ShardGroups$StoreNode" ⟨"ShardGroups$Node", "lastNumber", "()I"⟩ ⟨"ShardGroups$StoreNode", "lastNumber", "()I"⟩ ∈ aWS := aWS_of 594 (by decide +kernel) rfl
theorem w595 : Cond.instanceMethod ⟨"ShardGroups$StoreNode", "lastNumber", "()I"⟩ ∈ aWS := aWS_of 595 (by decide +kernel) rfl
theorem w596 : Cond.code ⟨"ShardGroups$StoreNode", "lastNumber", "()I"⟩ prog_12_method_3_code 1 (Option.some Jvm.ClassFile.FieldType.int) ∈ aWS := aWS_of 596 (by decide +kernel) rfl
theorem w597 : Cond.methodLink "ShardGroupsLaw" 71 ⟨"ShardGroups", "owner", "(III)I"⟩ ∈ aWS := aWS_of 597 (by decide +kernel) rfl
theorem w598 : Cond.instanceMethod ⟨"ShardGroups", "owner", "(III)I"⟩ ∈ aWS := aWS_of 598 (by decide +kernel) rfl
theorem w599 : Cond.selects "ShardGroups" ⟨"ShardGroups", "owner", "(III)I"⟩ ⟨"ShardGroups", "owner", "(III)I"⟩ ∈ aWS := aWS_of 599 (by decide +kernel) rfl
theorem w600 : Cond.code ⟨"ShardGroups", "owner", "(III)I"⟩ prog_1_method_15_code 5 (Option.some Jvm.ClassFile.FieldType.int) ∈ aWS := aWS_of 600 (by decide +kernel) rfl
theorem w601 : Cond.methodLink "ShardGroupsLaw" 75 ⟨"ShardGroups", "condition", "(II)I"⟩ ∈ aWS := aWS_of 601 (by decide +kernel) rfl
theorem w602 : Cond.instanceMethod ⟨"ShardGroups", "condition", "(II)I"⟩ ∈ aWS := aWS_of 602 (by decide +kernel) rfl
theorem w603 : Cond.selects "ShardGroups" ⟨"ShardGroups", "condition", "(II)I"⟩ ⟨"ShardGroups", "condition", "(II)I"⟩ ∈ aWS := aWS_of 603 (by decide +kernel) rfl
theorem w604 : Cond.code ⟨"ShardGroups", "condition", "(II)I"⟩ prog_1_method_16_code 4 (Option.some Jvm.ClassFile.FieldType.int) ∈ aWS := aWS_of 604 (by decide +kernel) rfl
theorem w605 : Cond.methodLink "ShardGroupsLaw" 79 ⟨"ShardGroups", "value", "(II)I"⟩ ∈ aWS := aWS_of 605 (by decide +kernel) rfl
theorem w606 : Cond.instanceMethod ⟨"ShardGroups", "value", "(II)I"⟩ ∈ aWS := aWS_of 606 (by decide +kernel) rfl
theorem w607 : Cond.selects "ShardGroups" ⟨"ShardGroups", "value", "(II)I"⟩ ⟨"ShardGroups", "value", "(II)I"⟩ ∈ aWS := aWS_of 607 (by decide +kernel) rfl
theorem w608 : Cond.code ⟨"ShardGroups", "value", "(II)I"⟩ prog_1_method_17_code 4 (Option.some Jvm.ClassFile.FieldType.int) ∈ aWS := aWS_of 608 (by decide +kernel) rfl
theorem w609 : Cond.methodLink "ShardGroups" 198 ⟨"ShardGroups", "heldShard", "(II)LShardGroups$Shard;"⟩ ∈ aWS := aWS_of 609 (by decide +kernel) rfl
theorem w611 : Cond.instanceMethod ⟨"ShardGroups", "heldShard", "(II)LShardGroups$Shard;"⟩ ∈ aWS := aWS_of 611 (by decide +kernel) rfl
theorem w612 : Cond.code ⟨"ShardGroups", "heldShard", "(II)LShardGroups$Shard;"⟩ prog_1_method_34_code 5 (Option.some (Jvm.ClassFile.FieldType.object "ShardGroups$Shard")) ∈ aWS := aWS_of 612 (by decide +kernel) rfl
theorem w613 : Cond.methodLink "ShardGroups" 219 ⟨"ShardGroups", "shardOf", "(I)I"⟩ ∈ aWS := aWS_of 613 (by decide +kernel) rfl
theorem w614 : Cond.methodLink "ShardGroups" 222 ⟨"ShardGroups$Shard", "hasContents", "()Z"⟩ ∈ aWS := aWS_of 614 (by decide +kernel) rfl
theorem w615 : Cond.instanceMethod ⟨"ShardGroups$Shard", "hasContents", "()Z"⟩ ∈ aWS := aWS_of 615 (by decide +kernel) rfl
theorem w616 : Cond.selects "ShardGroups$Shard" ⟨"ShardGroups$Shard", "hasContents", "()Z"⟩ ⟨"ShardGroups$Shard", "hasContents", "()Z"⟩ ∈ aWS := aWS_of 616 (by decide +kernel) rfl
theorem w617 : Cond.code ⟨"ShardGroups$Shard", "hasContents", "()Z"⟩ prog_11_method_2_code 1 (Option.some Jvm.ClassFile.FieldType.boolean) ∈ aWS := aWS_of 617 (by decide +kernel) rfl
theorem w618 : Cond.methodLink "ShardGroups" 205 ⟨"ShardGroups", "placeInShard", "(I)I"⟩ ∈ aWS := aWS_of 618 (by decide +kernel) rfl
theorem w619 : Cond.methodLink "ShardGroupsLaw" 83 ⟨"ShardGroups", "latest", "(III)I"⟩ ∈ aWS := aWS_of 619 (by decide +kernel) rfl
theorem w620 : Cond.instanceMethod ⟨"ShardGroups", "latest", "(III)I"⟩ ∈ aWS := aWS_of 620 (by decide +kernel) rfl
theorem w621 : Cond.selects "ShardGroups" ⟨"ShardGroups", "latest", "(III)I"⟩ ⟨"ShardGroups", "latest", "(III)I"⟩ ∈ aWS := aWS_of 621 (by decide +kernel) rfl
theorem w622 : Cond.code ⟨"ShardGroups", "latest", "(III)I"⟩ prog_1_method_18_code 5 (Option.some Jvm.ClassFile.FieldType.int) ∈ aWS := aWS_of 622 (by decide +kernel) rfl
theorem w623 : Cond.methodLink "ShardGroupsLaw" 87 ⟨"ShardGroups", "answer", "(III)I"⟩ ∈ aWS := aWS_of 623 (by decide +kernel) rfl
theorem w624 : Cond.instanceMethod ⟨"ShardGroups", "answer", "(III)I"⟩ ∈ aWS := aWS_of 624 (by decide +kernel) rfl
theorem w625 : Cond.selects "ShardGroups" ⟨"ShardGroups", "answer", "(III)I"⟩ ⟨"ShardGroups", "answer", "(III)I"⟩ ∈ aWS := aWS_of 625 (by decide +kernel) rfl
theorem w626 : Cond.code ⟨"ShardGroups", "answer", "(III)I"⟩ prog_1_method_19_code 5 (Option.some Jvm.ClassFile.FieldType.int) ∈ aWS := aWS_of 626 (by decide +kernel) rfl
theorem w627 : Cond.classLink "ShardGroupsLaw" 10 "ShardGroupsModel" ∈ aWS := aWS_of 627 (by decide +kernel) rfl
theorem w628 : Cond.instantiable "ShardGroupsModel" 14 ∈ aWS := aWS_of 628 (by decide +kernel) rfl
theorem w629 : Cond.methodLink "ShardGroupsLaw" 12 ⟨"ShardGroupsModel", "<init>", "()V"⟩ ∈ aWS := aWS_of 629 (by decide +kernel) rfl
theorem w630 : Cond.instanceMethod ⟨"ShardGroupsModel", "<init>", "()V"⟩ ∈ aWS := aWS_of 630 (by decide +kernel) rfl
theorem w631 : Cond.code ⟨"ShardGroupsModel", "<init>", "()V"⟩ prog_14_method_1_code 1 (Option.none : Option Jvm.ClassFile.FieldType) ∈ aWS := aWS_of 631 (by decide +kernel) rfl
theorem w632 : Cond.methodLink "ShardGroupsModel" 1 ⟨"java/lang/Object", "<init>", "()V"⟩ ∈ aWS := aWS_of 632 (by decide +kernel) rfl
theorem w633 : Cond.fieldLink "ShardGroupsModel" 7 "ShardGroupsModel" "off" "[Z" ∈ aWS := aWS_of 633 (by decide +kernel) rfl
theorem w634 : Cond.fieldLink "ShardGroupsModel" 13 "ShardGroupsModel" "leads" "[Z" ∈ aWS := aWS_of 634 (by decide +kernel) rfl
theorem w635 : Cond.fieldLink "ShardGroupsModel" 16 "ShardGroupsModel" "term" "[I" ∈ aWS := aWS_of 635 (by decide +kernel) rfl
theorem w636 : Cond.fieldLink "ShardGroupsModel" 20 "ShardGroupsModel" "length" "[I" ∈ aWS := aWS_of 636 (by decide +kernel) rfl
theorem w637 : Cond.fieldLink "ShardGroupsModel" 23 "ShardGroupsModel" "known" "[I" ∈ aWS := aWS_of 637 (by decide +kernel) rfl
theorem w638 : Cond.fieldLink "ShardGroupsModel" 26 "ShardGroupsModel" "logs" "[I" ∈ aWS := aWS_of 638 (by decide +kernel) rfl
theorem w639 : Cond.fieldLink "ShardGroupsModel" 29 "ShardGroupsModel" "entry" "[I" ∈ aWS := aWS_of 639 (by decide +kernel) rfl
theorem w640 : Cond.fieldLink "ShardGroupsModel" 83 "ShardGroupsModel" "configurations" "I" ∈ aWS := aWS_of 640 (by decide +kernel) rfl
theorem w641 : Cond.fieldLink "ShardGroupsModel" 32 "ShardGroupsModel" "members" "[I" ∈ aWS := aWS_of 641 (by decide +kernel) rfl
theorem w642 : Cond.fieldLink "ShardGroupsModel" 35 "ShardGroupsModel" "owners" "[I" ∈ aWS := aWS_of 642 (by decide +kernel) rfl
theorem w643 : Cond.fieldLink "ShardGroupsModel" 99 "ShardGroupsModel" "number" "I" ∈ aWS := aWS_of 643 (by decide +kernel) rfl
theorem w644 : Cond.fieldLink "ShardGroupsModel" 38 "ShardGroupsModel" "owner" "[I" ∈ aWS := aWS_of 644 (by decide +kernel) rfl
theorem w645 : Cond.fieldLink "ShardGroupsModel" 41 "ShardGroupsModel" "condition" "[I" ∈ aWS := aWS_of 645 (by decide +kernel) rfl
theorem w646 : Cond.fieldLink "ShardGroupsModel" 44 "ShardGroupsModel" "held" "[I" ∈ aWS := aWS_of 646 (by decide +kernel) rfl
theorem w647 : Cond.laysFinal "ShardGroupsModel" "ShardGroupsModel" "off" "[Z" ∈ aWS := aWS_of 647 (by decide +kernel) rfl
theorem w649 : Cond.laysFinal "ShardGroupsModel" "ShardGroupsModel" "leads" "[Z" ∈ aWS := aWS_of 649 (by decide +kernel) rfl
theorem w651 : Cond.laysFinal "ShardGroupsModel" "ShardGroupsModel" "term" "[I" ∈ aWS := aWS_of 651 (by decide +kernel) rfl
theorem w653 : Cond.laysFinal "ShardGroupsModel" "ShardGroupsModel" "length" "[I" ∈ aWS := aWS_of 653 (by decide +kernel) rfl
theorem w655 : Cond.laysFinal "ShardGroupsModel" "ShardGroupsModel" "known" "[I" ∈ aWS := aWS_of 655 (by decide +kernel) rfl
theorem w657 : Cond.laysFinal "ShardGroupsModel" "ShardGroupsModel" "logs" "[I" ∈ aWS := aWS_of 657 (by decide +kernel) rfl
theorem w659 : Cond.laysFinal "ShardGroupsModel" "ShardGroupsModel" "entry" "[I" ∈ aWS := aWS_of 659 (by decide +kernel) rfl
theorem w661 : Cond.lays "ShardGroupsModel" "ShardGroupsModel" "configurations" "I" ∈ aWS := aWS_of 661 (by decide +kernel) rfl
theorem w663 : Cond.laysFinal "ShardGroupsModel" "ShardGroupsModel" "members" "[I" ∈ aWS := aWS_of 663 (by decide +kernel) rfl
theorem w665 : Cond.laysFinal "ShardGroupsModel" "ShardGroupsModel" "owners" "[I" ∈ aWS := aWS_of 665 (by decide +kernel) rfl
theorem w667 : Cond.lays "ShardGroupsModel" "ShardGroupsModel" "number" "I" ∈ aWS := aWS_of 667 (by decide +kernel) rfl
theorem w669 : Cond.laysFinal "ShardGroupsModel" "ShardGroupsModel" "owner" "[I" ∈ aWS := aWS_of 669 (by decide +kernel) rfl
theorem w671 : Cond.laysFinal "ShardGroupsModel" "ShardGroupsModel" "condition" "[I" ∈ aWS := aWS_of 671 (by decide +kernel) rfl
theorem w673 : Cond.laysFinal "ShardGroupsModel" "ShardGroupsModel" "held" "[I" ∈ aWS := aWS_of 673 (by decide +kernel) rfl
theorem w676 : Cond.methodLink "ShardGroupsLaw" 17 ⟨"ShardGroupsModel", "crash", "(I)Z"⟩ ∈ aWS := aWS_of 676 (by decide +kernel) rfl
theorem w677 : Cond.instanceMethod ⟨"ShardGroupsModel", "crash", "(I)Z"⟩ ∈ aWS := aWS_of 677 (by decide +kernel) rfl
theorem w678 : Cond.selects "ShardGroupsModel" ⟨"ShardGroupsModel", "crash", "(I)Z"⟩ ⟨"ShardGroupsModel", "crash", "(I)Z"⟩ ∈ aWS := aWS_of 678 (by decide +kernel) rfl
theorem w679 : Cond.code ⟨"ShardGroupsModel", "crash", "(I)Z"⟩ prog_14_method_5_code 2 (Option.some Jvm.ClassFile.FieldType.boolean) ∈ aWS := aWS_of 679 (by decide +kernel) rfl
theorem w680 : Cond.methodLink "ShardGroupsModel" 47 ⟨"ShardGroupsModel", "below", "(II)Z"⟩ ∈ aWS := aWS_of 680 (by decide +kernel) rfl
theorem w681 : Cond.static ⟨"ShardGroupsModel", "below", "(II)Z"⟩ ∈ aWS := aWS_of 681 (by decide +kernel) rfl
theorem w682 : Cond.code ⟨"ShardGroupsModel", "below", "(II)Z"⟩ prog_14_method_2_code 2 (Option.some Jvm.ClassFile.FieldType.boolean) ∈ aWS := aWS_of 682 (by decide +kernel) rfl
theorem w683 : Cond.methodLink "ShardGroupsLaw" 21 ⟨"ShardGroupsModel", "recover", "(I)Z"⟩ ∈ aWS := aWS_of 683 (by decide +kernel) rfl
theorem w684 : Cond.instanceMethod ⟨"ShardGroupsModel", "recover", "(I)Z"⟩ ∈ aWS := aWS_of 684 (by decide +kernel) rfl
theorem w685 : Cond.selects "ShardGroupsModel" ⟨"ShardGroupsModel", "recover", "(I)Z"⟩ ⟨"ShardGroupsModel", "recover", "(I)Z"⟩ ∈ aWS := aWS_of 685 (by decide +kernel) rfl
theorem w686 : Cond.code ⟨"ShardGroupsModel", "recover", "(I)Z"⟩ prog_14_method_6_code 2 (Option.some Jvm.ClassFile.FieldType.boolean) ∈ aWS := aWS_of 686 (by decide +kernel) rfl
theorem w687 : Cond.methodLink "ShardGroupsLaw" 26 ⟨"ShardGroupsModel", "elect", "(I)I"⟩ ∈ aWS := aWS_of 687 (by decide +kernel) rfl
theorem w688 : Cond.instanceMethod ⟨"ShardGroupsModel", "elect", "(I)I"⟩ ∈ aWS := aWS_of 688 (by decide +kernel) rfl
theorem w689 : Cond.selects "ShardGroupsModel" ⟨"ShardGroupsModel", "elect", "(I)I"⟩ ⟨"ShardGroupsModel", "elect", "(I)I"⟩ ∈ aWS := aWS_of 689 (by decide +kernel) rfl
theorem w690 : Cond.code ⟨"ShardGroupsModel", "elect", "(I)I"⟩ prog_14_method_13_code 6 (Option.some Jvm.ClassFile.FieldType.int) ∈ aWS := aWS_of 690 (by decide +kernel) rfl
theorem w691 : Cond.methodLink "ShardGroupsModel" 58 ⟨"ShardGroupsModel", "lastTerm", "(I)I"⟩ ∈ aWS := aWS_of 691 (by decide +kernel) rfl
theorem w693 : Cond.instanceMethod ⟨"ShardGroupsModel", "lastTerm", "(I)I"⟩ ∈ aWS := aWS_of 693 (by decide +kernel) rfl
theorem w694 : Cond.code ⟨"ShardGroupsModel", "lastTerm", "(I)I"⟩ prog_14_method_9_code 2 (Option.some Jvm.ClassFile.FieldType.int) ∈ aWS := aWS_of 694 (by decide +kernel) rfl
theorem w695 : Cond.methodLink "ShardGroupsModel" 55 ⟨"ShardGroupsModel", "termAt", "(II)I"⟩ ∈ aWS := aWS_of 695 (by decide +kernel) rfl
theorem w697 : Cond.instanceMethod ⟨"ShardGroupsModel", "termAt", "(II)I"⟩ ∈ aWS := aWS_of 697 (by decide +kernel) rfl
theorem w698 : Cond.code ⟨"ShardGroupsModel", "termAt", "(II)I"⟩ prog_14_method_8_code 3 (Option.some Jvm.ClassFile.FieldType.int) ∈ aWS := aWS_of 698 (by decide +kernel) rfl
theorem w699 : Cond.methodLink "ShardGroupsModel" 51 ⟨"ShardGroupsModel", "place", "(II)I"⟩ ∈ aWS := aWS_of 699 (by decide +kernel) rfl
theorem w700 : Cond.static ⟨"ShardGroupsModel", "place", "(II)I"⟩ ∈ aWS := aWS_of 700 (by decide +kernel) rfl
theorem w701 : Cond.code ⟨"ShardGroupsModel", "place", "(II)I"⟩ prog_14_method_7_code 2 (Option.some Jvm.ClassFile.FieldType.int) ∈ aWS := aWS_of 701 (by decide +kernel) rfl
theorem w702 : Cond.methodLink "ShardGroupsModel" 62 ⟨"ShardGroupsModel", "raise", "(II)V"⟩ ∈ aWS := aWS_of 702 (by decide +kernel) rfl
theorem w704 : Cond.instanceMethod ⟨"ShardGroupsModel", "raise", "(II)V"⟩ ∈ aWS := aWS_of 704 (by decide +kernel) rfl
theorem w705 : Cond.code ⟨"ShardGroupsModel", "raise", "(II)V"⟩ prog_14_method_10_code 3 (Option.none : Option Jvm.ClassFile.FieldType) ∈ aWS := aWS_of 705 (by decide +kernel) rfl
theorem w706 : Cond.methodLink "ShardGroupsModel" 66 ⟨"ShardGroupsModel", "say", "(IIIIII)V"⟩ ∈ aWS := aWS_of 706 (by decide +kernel) rfl
theorem w708 : Cond.instanceMethod ⟨"ShardGroupsModel", "say", "(IIIIII)V"⟩ ∈ aWS := aWS_of 708 (by decide +kernel) rfl
theorem w709 : Cond.code ⟨"ShardGroupsModel", "say", "(IIIIII)V"⟩ prog_14_method_11_code 8 (Option.none : Option Jvm.ClassFile.FieldType) ∈ aWS := aWS_of 709 (by decide +kernel) rfl
theorem w710 : Cond.methodLink "ShardGroupsModel" 70 ⟨"ShardGroupsModel", "write", "(I)I"⟩ ∈ aWS := aWS_of 710 (by decide +kernel) rfl
theorem w712 : Cond.instanceMethod ⟨"ShardGroupsModel", "write", "(I)I"⟩ ∈ aWS := aWS_of 712 (by decide +kernel) rfl
theorem w713 : Cond.code ⟨"ShardGroupsModel", "write", "(I)I"⟩ prog_14_method_12_code 3 (Option.some Jvm.ClassFile.FieldType.int) ∈ aWS := aWS_of 713 (by decide +kernel) rfl
theorem w714 : Cond.methodLink "ShardGroupsLaw" 31 ⟨"ShardGroupsModel", "ship", "(II)I"⟩ ∈ aWS := aWS_of 714 (by decide +kernel) rfl
theorem w715 : Cond.instanceMethod ⟨"ShardGroupsModel", "ship", "(II)I"⟩ ∈ aWS := aWS_of 715 (by decide +kernel) rfl
theorem w716 : Cond.selects "ShardGroupsModel" ⟨"ShardGroupsModel", "ship", "(II)I"⟩ ⟨"ShardGroupsModel", "ship", "(II)I"⟩ ∈ aWS := aWS_of 716 (by decide +kernel) rfl
theorem w717 : Cond.code ⟨"ShardGroupsModel", "ship", "(II)I"⟩ prog_14_method_15_code 5 (Option.some Jvm.ClassFile.FieldType.int) ∈ aWS := aWS_of 717 (by decide +kernel) rfl
theorem w718 : Cond.methodLink "ShardGroupsModel" 73 ⟨"ShardGroupsModel", "copies", "(II)I"⟩ ∈ aWS := aWS_of 718 (by decide +kernel) rfl
theorem w720 : Cond.instanceMethod ⟨"ShardGroupsModel", "copies", "(II)I"⟩ ∈ aWS := aWS_of 720 (by decide +kernel) rfl
theorem w721 : Cond.code ⟨"ShardGroupsModel", "copies", "(II)I"⟩ prog_14_method_14_code 5 (Option.some Jvm.ClassFile.FieldType.int) ∈ aWS := aWS_of 721 (by decide +kernel) rfl
theorem w722 : Cond.methodLink "ShardGroupsLaw" 36 ⟨"ShardGroupsModel", "change", "(IIII)I"⟩ ∈ aWS := aWS_of 722 (by decide +kernel) rfl
theorem w723 : Cond.instanceMethod ⟨"ShardGroupsModel", "change", "(IIII)I"⟩ ∈ aWS := aWS_of 723 (by decide +kernel) rfl
theorem w724 : Cond.selects "ShardGroupsModel" ⟨"ShardGroupsModel", "change", "(IIII)I"⟩ ⟨"ShardGroupsModel", "change", "(IIII)I"⟩ ∈ aWS := aWS_of 724 (by decide +kernel) rfl
theorem w725 : Cond.code ⟨"ShardGroupsModel", "change", "(IIII)I"⟩ prog_14_method_25_code 6 (Option.some Jvm.ClassFile.FieldType.int) ∈ aWS := aWS_of 725 (by decide +kernel) rfl
theorem w726 : Cond.methodLink "ShardGroupsModel" 108 ⟨"ShardGroupsModel", "noServer", "(I)Z"⟩ ∈ aWS := aWS_of 726 (by decide +kernel) rfl
theorem w728 : Cond.instanceMethod ⟨"ShardGroupsModel", "noServer", "(I)Z"⟩ ∈ aWS := aWS_of 728 (by decide +kernel) rfl
theorem w729 : Cond.code ⟨"ShardGroupsModel", "noServer", "(I)Z"⟩ prog_14_method_3_code 2 (Option.some Jvm.ClassFile.FieldType.boolean) ∈ aWS := aWS_of 729 (by decide +kernel) rfl
theorem w730 : Cond.methodLink "ShardGroupsLaw" 41 ⟨"ShardGroupsModel", "request", "(IIIIII)I"⟩ ∈ aWS := aWS_of 730 (by decide +kernel) rfl
theorem w731 : Cond.instanceMethod ⟨"ShardGroupsModel", "request", "(IIIIII)I"⟩ ∈ aWS := aWS_of 731 (by decide +kernel) rfl
theorem w732 : Cond.selects "ShardGroupsModel" ⟨"ShardGroupsModel", "request", "(IIIIII)I"⟩ ⟨"ShardGroupsModel", "request", "(IIIIII)I"⟩ ∈ aWS := aWS_of 732 (by decide +kernel) rfl
theorem w733 : Cond.code ⟨"ShardGroupsModel", "request", "(IIIIII)I"⟩ prog_14_method_26_code 7 (Option.some Jvm.ClassFile.FieldType.int) ∈ aWS := aWS_of 733 (by decide +kernel) rfl
theorem w734 : Cond.methodLink "ShardGroupsModel" 112 ⟨"ShardGroupsModel", "noGroupNode", "(I)Z"⟩ ∈ aWS := aWS_of 734 (by decide +kernel) rfl
theorem w736 : Cond.instanceMethod ⟨"ShardGroupsModel", "noGroupNode", "(I)Z"⟩ ∈ aWS := aWS_of 736 (by decide +kernel) rfl
theorem w737 : Cond.code ⟨"ShardGroupsModel", "noGroupNode", "(I)Z"⟩ prog_14_method_4_code 2 (Option.some Jvm.ClassFile.FieldType.boolean) ∈ aWS := aWS_of 737 (by decide +kernel) rfl
theorem w738 : Cond.methodLink "ShardGroupsLaw" 45 ⟨"ShardGroupsModel", "poll", "(II)I"⟩ ∈ aWS := aWS_of 738 (by decide +kernel) rfl
theorem w739 : Cond.instanceMethod ⟨"ShardGroupsModel", "poll", "(II)I"⟩ ∈ aWS := aWS_of 739 (by decide +kernel) rfl
theorem w740 : Cond.selects "ShardGroupsModel" ⟨"ShardGroupsModel", "poll", "(II)I"⟩ ⟨"ShardGroupsModel", "poll", "(II)I"⟩ ∈ aWS := aWS_of 740 (by decide +kernel) rfl
theorem w741 : Cond.code ⟨"ShardGroupsModel", "poll", "(II)I"⟩ prog_14_method_27_code 5 (Option.some Jvm.ClassFile.FieldType.int) ∈ aWS := aWS_of 741 (by decide +kernel) rfl
theorem w742 : Cond.methodLink "ShardGroupsModel" 115 ⟨"ShardGroupsModel", "group", "(I)V"⟩ ∈ aWS := aWS_of 742 (by decide +kernel) rfl
theorem w744 : Cond.instanceMethod ⟨"ShardGroupsModel", "group", "(I)V"⟩ ∈ aWS := aWS_of 744 (by decide +kernel) rfl
theorem w745 : Cond.code ⟨"ShardGroupsModel", "group", "(I)V"⟩ prog_14_method_24_code 8 (Option.none : Option Jvm.ClassFile.FieldType) ∈ aWS := aWS_of 745 (by decide +kernel) rfl
theorem w746 : Cond.methodLink "ShardGroupsModel" 102 ⟨"ShardGroupsModel", "configure", "(II)V"⟩ ∈ aWS := aWS_of 746 (by decide +kernel) rfl
theorem w748 : Cond.instanceMethod ⟨"ShardGroupsModel", "configure", "(II)V"⟩ ∈ aWS := aWS_of 748 (by decide +kernel) rfl
theorem w749 : Cond.code ⟨"ShardGroupsModel", "configure", "(II)V"⟩ prog_14_method_22_code 7 (Option.none : Option Jvm.ClassFile.FieldType) ∈ aWS := aWS_of 749 (by decide +kernel) rfl
theorem w750 : Cond.methodLink "ShardGroupsModel" 95 ⟨"ShardGroupsModel", "settled", "()Z"⟩ ∈ aWS := aWS_of 750 (by decide +kernel) rfl
theorem w752 : Cond.instanceMethod ⟨"ShardGroupsModel", "settled", "()Z"⟩ ∈ aWS := aWS_of 752 (by decide +kernel) rfl
theorem w753 : Cond.code ⟨"ShardGroupsModel", "settled", "()Z"⟩ prog_14_method_21_code 3 (Option.some Jvm.ClassFile.FieldType.boolean) ∈ aWS := aWS_of 753 (by decide +kernel) rfl
theorem w754 : Cond.methodLink "ShardGroupsModel" 105 ⟨"ShardGroupsModel", "effect", "(I)V"⟩ ∈ aWS := aWS_of 754 (by decide +kernel) rfl
theorem w756 : Cond.instanceMethod ⟨"ShardGroupsModel", "effect", "(I)V"⟩ ∈ aWS := aWS_of 756 (by decide +kernel) rfl
theorem w757 : Cond.code ⟨"ShardGroupsModel", "effect", "(I)V"⟩ prog_14_method_23_code 8 (Option.none : Option Jvm.ClassFile.FieldType) ∈ aWS := aWS_of 757 (by decide +kernel) rfl
theorem w758 : Cond.methodLink "ShardGroupsModel" 118 ⟨"ShardGroupsModel", "service", "(I)V"⟩ ∈ aWS := aWS_of 758 (by decide +kernel) rfl
theorem w760 : Cond.instanceMethod ⟨"ShardGroupsModel", "service", "(I)V"⟩ ∈ aWS := aWS_of 760 (by decide +kernel) rfl
theorem w761 : Cond.code ⟨"ShardGroupsModel", "service", "(I)V"⟩ prog_14_method_20_code 5 (Option.none : Option Jvm.ClassFile.FieldType) ∈ aWS := aWS_of 761 (by decide +kernel) rfl
theorem w762 : Cond.methodLink "ShardGroupsModel" 91 ⟨"ShardGroupsModel", "alter", "(III)V"⟩ ∈ aWS := aWS_of 762 (by decide +kernel) rfl
theorem w764 : Cond.instanceMethod ⟨"ShardGroupsModel", "alter", "(III)V"⟩ ∈ aWS := aWS_of 764 (by decide +kernel) rfl
theorem w765 : Cond.code ⟨"ShardGroupsModel", "alter", "(III)V"⟩ prog_14_method_19_code 9 (Option.none : Option Jvm.ClassFile.FieldType) ∈ aWS := aWS_of 765 (by decide +kernel) rfl
theorem w766 : Cond.methodLink "ShardGroupsModel" 79 ⟨"ShardGroupsModel", "extreme", "(IZ)I"⟩ ∈ aWS := aWS_of 766 (by decide +kernel) rfl
theorem w768 : Cond.instanceMethod ⟨"ShardGroupsModel", "extreme", "(IZ)I"⟩ ∈ aWS := aWS_of 768 (by decide +kernel) rfl
theorem w769 : Cond.code ⟨"ShardGroupsModel", "extreme", "(IZ)I"⟩ prog_14_method_17_code 7 (Option.some Jvm.ClassFile.FieldType.int) ∈ aWS := aWS_of 769 (by decide +kernel) rfl
theorem w770 : Cond.methodLink "ShardGroupsModel" 76 ⟨"ShardGroupsModel", "owned", "(II)I"⟩ ∈ aWS := aWS_of 770 (by decide +kernel) rfl
theorem w772 : Cond.instanceMethod ⟨"ShardGroupsModel", "owned", "(II)I"⟩ ∈ aWS := aWS_of 772 (by decide +kernel) rfl
theorem w773 : Cond.code ⟨"ShardGroupsModel", "owned", "(II)I"⟩ prog_14_method_16_code 5 (Option.some Jvm.ClassFile.FieldType.int) ∈ aWS := aWS_of 773 (by decide +kernel) rfl
theorem w774 : Cond.methodLink "ShardGroupsModel" 87 ⟨"ShardGroupsModel", "balance", "(I)V"⟩ ∈ aWS := aWS_of 774 (by decide +kernel) rfl
theorem w776 : Cond.instanceMethod ⟨"ShardGroupsModel", "balance", "(I)V"⟩ ∈ aWS := aWS_of 776 (by decide +kernel) rfl
theorem w777 : Cond.code ⟨"ShardGroupsModel", "balance", "(I)V"⟩ prog_14_method_18_code 7 (Option.none : Option Jvm.ClassFile.FieldType) ∈ aWS := aWS_of 777 (by decide +kernel) rfl
theorem w778 : Cond.methodLink "ShardGroupsLaw" 50 ⟨"ShardGroupsModel", "pull", "(III)I"⟩ ∈ aWS := aWS_of 778 (by decide +kernel) rfl
theorem w779 : Cond.instanceMethod ⟨"ShardGroupsModel", "pull", "(III)I"⟩ ∈ aWS := aWS_of 779 (by decide +kernel) rfl
theorem w780 : Cond.selects "ShardGroupsModel" ⟨"ShardGroupsModel", "pull", "(III)I"⟩ ⟨"ShardGroupsModel", "pull", "(III)I"⟩ ∈ aWS := aWS_of 780 (by decide +kernel) rfl
theorem w781 : Cond.code ⟨"ShardGroupsModel", "pull", "(III)I"⟩ prog_14_method_28_code 7 (Option.some Jvm.ClassFile.FieldType.int) ∈ aWS := aWS_of 781 (by decide +kernel) rfl
theorem w782 : Cond.methodLink "ShardGroupsLaw" 54 ⟨"ShardGroupsModel", "confirm", "(III)I"⟩ ∈ aWS := aWS_of 782 (by decide +kernel) rfl
theorem w783 : Cond.instanceMethod ⟨"ShardGroupsModel", "confirm", "(III)I"⟩ ∈ aWS := aWS_of 783 (by decide +kernel) rfl
theorem w784 : Cond.selects "ShardGroupsModel" ⟨"ShardGroupsModel", "confirm", "(III)I"⟩ ⟨"ShardGroupsModel", "confirm", "(III)I"⟩ ∈ aWS := aWS_of 784 (by decide +kernel) rfl
theorem w785 : Cond.code ⟨"ShardGroupsModel", "confirm", "(III)I"⟩ prog_14_method_29_code 6 (Option.some Jvm.ClassFile.FieldType.int) ∈ aWS := aWS_of 785 (by decide +kernel) rfl
theorem w786 : Cond.methodLink "ShardGroupsLaw" 58 ⟨"ShardGroupsModel", "length", "(I)I"⟩ ∈ aWS := aWS_of 786 (by decide +kernel) rfl
theorem w787 : Cond.instanceMethod ⟨"ShardGroupsModel", "length", "(I)I"⟩ ∈ aWS := aWS_of 787 (by decide +kernel) rfl
theorem w788 : Cond.selects "ShardGroupsModel" ⟨"ShardGroupsModel", "length", "(I)I"⟩ ⟨"ShardGroupsModel", "length", "(I)I"⟩ ∈ aWS := aWS_of 788 (by decide +kernel) rfl
theorem w789 : Cond.code ⟨"ShardGroupsModel", "length", "(I)I"⟩ prog_14_method_30_code 2 (Option.some Jvm.ClassFile.FieldType.int) ∈ aWS := aWS_of 789 (by decide +kernel) rfl
theorem w790 : Cond.methodLink "ShardGroupsLaw" 62 ⟨"ShardGroupsModel", "known", "(I)I"⟩ ∈ aWS := aWS_of 790 (by decide +kernel) rfl
theorem w791 : Cond.instanceMethod ⟨"ShardGroupsModel", "known", "(I)I"⟩ ∈ aWS := aWS_of 791 (by decide +kernel) rfl
theorem w792 : Cond.selects "ShardGroupsModel" ⟨"ShardGroupsModel", "known", "(I)I"⟩ ⟨"ShardGroupsModel", "known", "(I)I"⟩ ∈ aWS := aWS_of 792 (by decide +kernel) rfl
theorem w793 : Cond.code ⟨"ShardGroupsModel", "known", "(I)I"⟩ prog_14_method_31_code 2 (Option.some Jvm.ClassFile.FieldType.int) ∈ aWS := aWS_of 793 (by decide +kernel) rfl
theorem w794 : Cond.methodLink "ShardGroupsLaw" 66 ⟨"ShardGroupsModel", "term", "(I)I"⟩ ∈ aWS := aWS_of 794 (by decide +kernel) rfl
theorem w795 : Cond.instanceMethod ⟨"ShardGroupsModel", "term", "(I)I"⟩ ∈ aWS := aWS_of 795 (by decide +kernel) rfl
theorem w796 : Cond.selects "ShardGroupsModel" ⟨"ShardGroupsModel", "term", "(I)I"⟩ ⟨"ShardGroupsModel", "term", "(I)I"⟩ ∈ aWS := aWS_of 796 (by decide +kernel) rfl
theorem w797 : Cond.code ⟨"ShardGroupsModel", "term", "(I)I"⟩ prog_14_method_32_code 2 (Option.some Jvm.ClassFile.FieldType.int) ∈ aWS := aWS_of 797 (by decide +kernel) rfl
theorem w798 : Cond.methodLink "ShardGroupsLaw" 70 ⟨"ShardGroupsModel", "configuration", "(I)I"⟩ ∈ aWS := aWS_of 798 (by decide +kernel) rfl
theorem w799 : Cond.instanceMethod ⟨"ShardGroupsModel", "configuration", "(I)I"⟩ ∈ aWS := aWS_of 799 (by decide +kernel) rfl
theorem w800 : Cond.selects "ShardGroupsModel" ⟨"ShardGroupsModel", "configuration", "(I)I"⟩ ⟨"ShardGroupsModel", "configuration", "(I)I"⟩ ∈ aWS := aWS_of 800 (by decide +kernel) rfl
theorem w801 : Cond.code ⟨"ShardGroupsModel", "configuration", "(I)I"⟩ prog_14_method_33_code 2 (Option.some Jvm.ClassFile.FieldType.int) ∈ aWS := aWS_of 801 (by decide +kernel) rfl
theorem w802 : Cond.methodLink "ShardGroupsLaw" 74 ⟨"ShardGroupsModel", "owner", "(III)I"⟩ ∈ aWS := aWS_of 802 (by decide +kernel) rfl
theorem w803 : Cond.instanceMethod ⟨"ShardGroupsModel", "owner", "(III)I"⟩ ∈ aWS := aWS_of 803 (by decide +kernel) rfl
theorem w804 : Cond.selects "ShardGroupsModel" ⟨"ShardGroupsModel", "owner", "(III)I"⟩ ⟨"ShardGroupsModel", "owner", "(III)I"⟩ ∈ aWS := aWS_of 804 (by decide +kernel) rfl
theorem w805 : Cond.code ⟨"ShardGroupsModel", "owner", "(III)I"⟩ prog_14_method_34_code 4 (Option.some Jvm.ClassFile.FieldType.int) ∈ aWS := aWS_of 805 (by decide +kernel) rfl
theorem w806 : Cond.methodLink "ShardGroupsLaw" 78 ⟨"ShardGroupsModel", "condition", "(II)I"⟩ ∈ aWS := aWS_of 806 (by decide +kernel) rfl
theorem w807 : Cond.instanceMethod ⟨"ShardGroupsModel", "condition", "(II)I"⟩ ∈ aWS := aWS_of 807 (by decide +kernel) rfl
theorem w808 : Cond.selects "ShardGroupsModel" ⟨"ShardGroupsModel", "condition", "(II)I"⟩ ⟨"ShardGroupsModel", "condition", "(II)I"⟩ ∈ aWS := aWS_of 808 (by decide +kernel) rfl
theorem w809 : Cond.code ⟨"ShardGroupsModel", "condition", "(II)I"⟩ prog_14_method_35_code 3 (Option.some Jvm.ClassFile.FieldType.int) ∈ aWS := aWS_of 809 (by decide +kernel) rfl
theorem w810 : Cond.methodLink "ShardGroupsLaw" 82 ⟨"ShardGroupsModel", "value", "(II)I"⟩ ∈ aWS := aWS_of 810 (by decide +kernel) rfl
theorem w811 : Cond.instanceMethod ⟨"ShardGroupsModel", "value", "(II)I"⟩ ∈ aWS := aWS_of 811 (by decide +kernel) rfl
theorem w812 : Cond.selects "ShardGroupsModel" ⟨"ShardGroupsModel", "value", "(II)I"⟩ ⟨"ShardGroupsModel", "value", "(II)I"⟩ ∈ aWS := aWS_of 812 (by decide +kernel) rfl
theorem w813 : Cond.code ⟨"ShardGroupsModel", "value", "(II)I"⟩ prog_14_method_37_code 3 (Option.some Jvm.ClassFile.FieldType.int) ∈ aWS := aWS_of 813 (by decide +kernel) rfl
theorem w814 : Cond.methodLink "ShardGroupsModel" 121 ⟨"ShardGroupsModel", "has", "(II)Z"⟩ ∈ aWS := aWS_of 814 (by decide +kernel) rfl
theorem w816 : Cond.instanceMethod ⟨"ShardGroupsModel", "has", "(II)Z"⟩ ∈ aWS := aWS_of 816 (by decide +kernel) rfl
theorem w817 : Cond.code ⟨"ShardGroupsModel", "has", "(II)Z"⟩ prog_14_method_36_code 3 (Option.some Jvm.ClassFile.FieldType.boolean) ∈ aWS := aWS_of 817 (by decide +kernel) rfl
theorem w818 : Cond.methodLink "ShardGroupsLaw" 86 ⟨"ShardGroupsModel", "latest", "(III)I"⟩ ∈ aWS := aWS_of 818 (by decide +kernel) rfl
theorem w819 : Cond.instanceMethod ⟨"ShardGroupsModel", "latest", "(III)I"⟩ ∈ aWS := aWS_of 819 (by decide +kernel) rfl
theorem w820 : Cond.selects "ShardGroupsModel" ⟨"ShardGroupsModel", "latest", "(III)I"⟩ ⟨"ShardGroupsModel", "latest", "(III)I"⟩ ∈ aWS := aWS_of 820 (by decide +kernel) rfl
theorem w821 : Cond.code ⟨"ShardGroupsModel", "latest", "(III)I"⟩ prog_14_method_38_code 4 (Option.some Jvm.ClassFile.FieldType.int) ∈ aWS := aWS_of 821 (by decide +kernel) rfl
theorem w822 : Cond.methodLink "ShardGroupsLaw" 90 ⟨"ShardGroupsModel", "answer", "(III)I"⟩ ∈ aWS := aWS_of 822 (by decide +kernel) rfl
theorem w823 : Cond.instanceMethod ⟨"ShardGroupsModel", "answer", "(III)I"⟩ ∈ aWS := aWS_of 823 (by decide +kernel) rfl
theorem w824 : Cond.selects "ShardGroupsModel" ⟨"ShardGroupsModel", "answer", "(III)I"⟩ ⟨"ShardGroupsModel", "answer", "(III)I"⟩ ∈ aWS := aWS_of 824 (by decide +kernel) rfl
theorem w825 : Cond.code ⟨"ShardGroupsModel", "answer", "(III)I"⟩ prog_14_method_39_code 4 (Option.some Jvm.ClassFile.FieldType.int) ∈ aWS := aWS_of 825 (by decide +kernel) rfl
theorem ws_S_upNode : Cond.selects "ShardGroups" ⟨"ShardGroups", "upNode", "(I)LShardGroups$Node;"⟩ ⟨"ShardGroups", "upNode", "(I)LShardGroups$Node;"⟩ ∈ aWS := aWS_p (q := (⟨"ShardGroups", "upNode", "(I)LShardGroups$Node;"⟩, 3)) 0 (by decide +kernel) rfl
theorem ws_S_anyNode : Cond.selects "ShardGroups" ⟨"ShardGroups", "anyNode", "(I)LShardGroups$Node;"⟩ ⟨"ShardGroups", "anyNode", "(I)LShardGroups$Node;"⟩ ∈ aWS := aWS_p (q := (⟨"ShardGroups", "anyNode", "(I)LShardGroups$Node;"⟩, 3)) 1 (by decide +kernel) rfl
theorem ws_S_countGrants : Cond.selects "ShardGroups" ⟨"ShardGroups", "countGrants", "(LShardGroups$Node;II)I"⟩ ⟨"ShardGroups", "countGrants", "(LShardGroups$Node;II)I"⟩ ∈ aWS := aWS_p (q := (⟨"ShardGroups", "countGrants", "(LShardGroups$Node;II)I"⟩, 3)) 2 (by decide +kernel) rfl
theorem ws_S_countAgreed : Cond.selects "ShardGroups" ⟨"ShardGroups", "countAgreed", "(LShardGroups$Node;I)I"⟩ ⟨"ShardGroups", "countAgreed", "(LShardGroups$Node;I)I"⟩ ∈ aWS := aWS_p (q := (⟨"ShardGroups", "countAgreed", "(LShardGroups$Node;I)I"⟩, 3)) 3 (by decide +kernel) rfl
theorem ws_S_countCopies : Cond.selects "ShardGroups" ⟨"ShardGroups", "countCopies", "(III)I"⟩ ⟨"ShardGroups", "countCopies", "(III)I"⟩ ∈ aWS := aWS_p (q := (⟨"ShardGroups", "countCopies", "(III)I"⟩, 3)) 4 (by decide +kernel) rfl
theorem ws_G_isAllowed : Cond.selects "ShardGroups$Change" ⟨"ShardGroups$Change", "isAllowed", "(LShardGroups$Configuration;)Z"⟩ ⟨"ShardGroups$Change", "isAllowed", "(LShardGroups$Configuration;)Z"⟩ ∈ aWS := aWS_p (q := (⟨"ShardGroups$Change", "isAllowed", "(LShardGroups$Configuration;)Z"⟩, 4)) 5 (by decide +kernel) rfl
theorem ws_C_balance : Cond.selects "ShardGroups$Configuration" ⟨"ShardGroups$Configuration", "balance", "()V"⟩ ⟨"ShardGroups$Configuration", "balance", "()V"⟩ ∈ aWS := aWS_p (q := (⟨"ShardGroups$Configuration", "balance", "()V"⟩, 3)) 6 (by decide +kernel) rfl
theorem ws_C_most : Cond.selects "ShardGroups$Configuration" ⟨"ShardGroups$Configuration", "most", "()I"⟩ ⟨"ShardGroups$Configuration", "most", "()I"⟩ ∈ aWS := aWS_p (q := (⟨"ShardGroups$Configuration", "most", "()I"⟩, 3)) 7 (by decide +kernel) rfl
theorem ws_C_fewest : Cond.selects "ShardGroups$Configuration" ⟨"ShardGroups$Configuration", "fewest", "()I"⟩ ⟨"ShardGroups$Configuration", "fewest", "()I"⟩ ∈ aWS := aWS_p (q := (⟨"ShardGroups$Configuration", "fewest", "()I"⟩, 3)) 8 (by decide +kernel) rfl
theorem ws_C_leastShardOf : Cond.selects "ShardGroups$Configuration" ⟨"ShardGroups$Configuration", "leastShardOf", "(I)I"⟩ ⟨"ShardGroups$Configuration", "leastShardOf", "(I)I"⟩ ∈ aWS := aWS_p (q := (⟨"ShardGroups$Configuration", "leastShardOf", "(I)I"⟩, 3)) 9 (by decide +kernel) rfl
theorem ws_S_upService : Cond.selects "ShardGroups" ⟨"ShardGroups", "upService", "(I)LShardGroups$ServiceNode;"⟩ ⟨"ShardGroups", "upService", "(I)LShardGroups$ServiceNode;"⟩ ∈ aWS := aWS_p (q := (⟨"ShardGroups", "upService", "(I)LShardGroups$ServiceNode;"⟩, 3)) 10 (by decide +kernel) rfl
theorem ws_S_anyService : Cond.selects "ShardGroups" ⟨"ShardGroups", "anyService", "(I)LShardGroups$ServiceNode;"⟩ ⟨"ShardGroups", "anyService", "(I)LShardGroups$ServiceNode;"⟩ ∈ aWS := aWS_p (q := (⟨"ShardGroups", "anyService", "(I)LShardGroups$ServiceNode;"⟩, 3)) 11 (by decide +kernel) rfl
theorem ws_S_upStore : Cond.selects "ShardGroups" ⟨"ShardGroups", "upStore", "(I)LShardGroups$StoreNode;"⟩ ⟨"ShardGroups", "upStore", "(I)LShardGroups$StoreNode;"⟩ ∈ aWS := aWS_p (q := (⟨"ShardGroups", "upStore", "(I)LShardGroups$StoreNode;"⟩, 3)) 12 (by decide +kernel) rfl
theorem ws_S_anyStore : Cond.selects "ShardGroups" ⟨"ShardGroups", "anyStore", "(I)LShardGroups$StoreNode;"⟩ ⟨"ShardGroups", "anyStore", "(I)LShardGroups$StoreNode;"⟩ ∈ aWS := aWS_p (q := (⟨"ShardGroups", "anyStore", "(I)LShardGroups$StoreNode;"⟩, 3)) 13 (by decide +kernel) rfl
theorem ws_S_heldShard : Cond.selects "ShardGroups" ⟨"ShardGroups", "heldShard", "(II)LShardGroups$Shard;"⟩ ⟨"ShardGroups", "heldShard", "(II)LShardGroups$Shard;"⟩ ∈ aWS := aWS_p (q := (⟨"ShardGroups", "heldShard", "(II)LShardGroups$Shard;"⟩, 3)) 14 (by decide +kernel) rfl
theorem ws_M_lastTerm : Cond.selects "ShardGroupsModel" ⟨"ShardGroupsModel", "lastTerm", "(I)I"⟩ ⟨"ShardGroupsModel", "lastTerm", "(I)I"⟩ ∈ aWS := aWS_p (q := (⟨"ShardGroupsModel", "lastTerm", "(I)I"⟩, 14)) 15 (by decide +kernel) rfl
theorem ws_M_termAt : Cond.selects "ShardGroupsModel" ⟨"ShardGroupsModel", "termAt", "(II)I"⟩ ⟨"ShardGroupsModel", "termAt", "(II)I"⟩ ∈ aWS := aWS_p (q := (⟨"ShardGroupsModel", "termAt", "(II)I"⟩, 14)) 16 (by decide +kernel) rfl
theorem ws_M_raise : Cond.selects "ShardGroupsModel" ⟨"ShardGroupsModel", "raise", "(II)V"⟩ ⟨"ShardGroupsModel", "raise", "(II)V"⟩ ∈ aWS := aWS_p (q := (⟨"ShardGroupsModel", "raise", "(II)V"⟩, 14)) 17 (by decide +kernel) rfl
theorem ws_M_say : Cond.selects "ShardGroupsModel" ⟨"ShardGroupsModel", "say", "(IIIIII)V"⟩ ⟨"ShardGroupsModel", "say", "(IIIIII)V"⟩ ∈ aWS := aWS_p (q := (⟨"ShardGroupsModel", "say", "(IIIIII)V"⟩, 14)) 18 (by decide +kernel) rfl
theorem ws_M_write : Cond.selects "ShardGroupsModel" ⟨"ShardGroupsModel", "write", "(I)I"⟩ ⟨"ShardGroupsModel", "write", "(I)I"⟩ ∈ aWS := aWS_p (q := (⟨"ShardGroupsModel", "write", "(I)I"⟩, 14)) 19 (by decide +kernel) rfl
theorem ws_M_copies : Cond.selects "ShardGroupsModel" ⟨"ShardGroupsModel", "copies", "(II)I"⟩ ⟨"ShardGroupsModel", "copies", "(II)I"⟩ ∈ aWS := aWS_p (q := (⟨"ShardGroupsModel", "copies", "(II)I"⟩, 14)) 20 (by decide +kernel) rfl
theorem ws_M_noServer : Cond.selects "ShardGroupsModel" ⟨"ShardGroupsModel", "noServer", "(I)Z"⟩ ⟨"ShardGroupsModel", "noServer", "(I)Z"⟩ ∈ aWS := aWS_p (q := (⟨"ShardGroupsModel", "noServer", "(I)Z"⟩, 14)) 21 (by decide +kernel) rfl
theorem ws_M_noGroupNode : Cond.selects "ShardGroupsModel" ⟨"ShardGroupsModel", "noGroupNode", "(I)Z"⟩ ⟨"ShardGroupsModel", "noGroupNode", "(I)Z"⟩ ∈ aWS := aWS_p (q := (⟨"ShardGroupsModel", "noGroupNode", "(I)Z"⟩, 14)) 22 (by decide +kernel) rfl
theorem ws_M_group : Cond.selects "ShardGroupsModel" ⟨"ShardGroupsModel", "group", "(I)V"⟩ ⟨"ShardGroupsModel", "group", "(I)V"⟩ ∈ aWS := aWS_p (q := (⟨"ShardGroupsModel", "group", "(I)V"⟩, 14)) 23 (by decide +kernel) rfl
theorem ws_M_configure : Cond.selects "ShardGroupsModel" ⟨"ShardGroupsModel", "configure", "(II)V"⟩ ⟨"ShardGroupsModel", "configure", "(II)V"⟩ ∈ aWS := aWS_p (q := (⟨"ShardGroupsModel", "configure", "(II)V"⟩, 14)) 24 (by decide +kernel) rfl
theorem ws_M_settled : Cond.selects "ShardGroupsModel" ⟨"ShardGroupsModel", "settled", "()Z"⟩ ⟨"ShardGroupsModel", "settled", "()Z"⟩ ∈ aWS := aWS_p (q := (⟨"ShardGroupsModel", "settled", "()Z"⟩, 14)) 25 (by decide +kernel) rfl
theorem ws_M_effect : Cond.selects "ShardGroupsModel" ⟨"ShardGroupsModel", "effect", "(I)V"⟩ ⟨"ShardGroupsModel", "effect", "(I)V"⟩ ∈ aWS := aWS_p (q := (⟨"ShardGroupsModel", "effect", "(I)V"⟩, 14)) 26 (by decide +kernel) rfl
theorem ws_M_service : Cond.selects "ShardGroupsModel" ⟨"ShardGroupsModel", "service", "(I)V"⟩ ⟨"ShardGroupsModel", "service", "(I)V"⟩ ∈ aWS := aWS_p (q := (⟨"ShardGroupsModel", "service", "(I)V"⟩, 14)) 27 (by decide +kernel) rfl
theorem ws_M_alter : Cond.selects "ShardGroupsModel" ⟨"ShardGroupsModel", "alter", "(III)V"⟩ ⟨"ShardGroupsModel", "alter", "(III)V"⟩ ∈ aWS := aWS_p (q := (⟨"ShardGroupsModel", "alter", "(III)V"⟩, 14)) 28 (by decide +kernel) rfl
theorem ws_M_extreme : Cond.selects "ShardGroupsModel" ⟨"ShardGroupsModel", "extreme", "(IZ)I"⟩ ⟨"ShardGroupsModel", "extreme", "(IZ)I"⟩ ∈ aWS := aWS_p (q := (⟨"ShardGroupsModel", "extreme", "(IZ)I"⟩, 14)) 29 (by decide +kernel) rfl
theorem ws_M_owned : Cond.selects "ShardGroupsModel" ⟨"ShardGroupsModel", "owned", "(II)I"⟩ ⟨"ShardGroupsModel", "owned", "(II)I"⟩ ∈ aWS := aWS_p (q := (⟨"ShardGroupsModel", "owned", "(II)I"⟩, 14)) 30 (by decide +kernel) rfl
theorem ws_M_balance : Cond.selects "ShardGroupsModel" ⟨"ShardGroupsModel", "balance", "(I)V"⟩ ⟨"ShardGroupsModel", "balance", "(I)V"⟩ ∈ aWS := aWS_p (q := (⟨"ShardGroupsModel", "balance", "(I)V"⟩, 14)) 31 (by decide +kernel) rfl
theorem ws_M_has : Cond.selects "ShardGroupsModel" ⟨"ShardGroupsModel", "has", "(II)Z"⟩ ⟨"ShardGroupsModel", "has", "(II)Z"⟩ ∈ aWS := aWS_p (q := (⟨"ShardGroupsModel", "has", "(II)Z"⟩, 14)) 32 (by decide +kernel) rfl
end
section
/-! the memory of the walk: how many cells there are; each one's kind and length; the ints and the references in them. A cell of number a lies at the address b + a. -/
def aM : Type := Nat × (Nat → Nat × Nat) × (Nat → Nat → Int32) × (Nat → Nat → Option Nat)
def mSz (M : aM) : Nat := M.1
def mKd (M : aM) (a : Nat) : Nat := (M.2.1 a).1
def mLn (M : aM) (a : Nat) : Nat := (M.2.1 a).2
def mI (M : aM) (a k : Nat) : Int32 := M.2.2.1 a k
def mR (M : aM) (a k : Nat) : Option Nat := M.2.2.2 a k
def sI (M : aM) (a k : Nat) (x : Int32) : aM := (M.1, M.2.1, fun c j => if c = a ∧ j = k then x else M.2.2.1 c j, M.2.2.2)
def sR (M : aM) (a k : Nat) (x : Option Nat) : aM := (M.1, M.2.1, M.2.2.1, fun c j => if c = a ∧ j = k then x else M.2.2.2 c j)
def mN (M : aM) (kd ln : Nat) : aM := (M.1 + 1, (fun c => if c = M.1 then (kd, ln) else M.2.1 c), (fun c j => if c = M.1 then 0 else M.2.2.1 c j), (fun c j => if c = M.1 then none else M.2.2.2 c j))
def sC (M : aM) (a sp b dp n : Nat) : aM := (M.1, M.2.1, (fun c j => if c = b ∧ dp ≤ j ∧ j < dp + n then M.2.2.1 a (sp + (j - dp)) else M.2.2.1 c j), M.2.2.2)
/-- an object of class ci; an array of kind kd with n places -/
def tO (M : aM) (a ci : Nat) : Prop := a < mSz M ∧ mKd M a = ci
def tA (M : aM) (a kd n : Nat) : Prop := a < mSz M ∧ mKd M a = kd ∧ mLn M a = n

theorem mm_sz_sI (M : aM) (a k : Nat) (x : Int32) : mSz (sI M a k x) = mSz M := rfl
theorem mm_kd_sI (M : aM) (a k : Nat) (x : Int32) (c : Nat) : mKd (sI M a k x) c = mKd M c := rfl
theorem mm_ln_sI (M : aM) (a k : Nat) (x : Int32) (c : Nat) : mLn (sI M a k x) c = mLn M c := rfl
theorem mm_tO_sI (M : aM) (a k : Nat) (x : Int32) (c i : Nat) : tO (sI M a k x) c i = tO M c i := rfl
theorem mm_tA_sI (M : aM) (a k : Nat) (x : Int32) (c i n1 : Nat) : tA (sI M a k x) c i n1 = tA M c i n1 := rfl
theorem mm_sz_sR (M : aM) (a k : Nat) (x : Option Nat) : mSz (sR M a k x) = mSz M := rfl
theorem mm_kd_sR (M : aM) (a k : Nat) (x : Option Nat) (c : Nat) : mKd (sR M a k x) c = mKd M c := rfl
theorem mm_ln_sR (M : aM) (a k : Nat) (x : Option Nat) (c : Nat) : mLn (sR M a k x) c = mLn M c := rfl
theorem mm_tO_sR (M : aM) (a k : Nat) (x : Option Nat) (c i : Nat) : tO (sR M a k x) c i = tO M c i := rfl
theorem mm_tA_sR (M : aM) (a k : Nat) (x : Option Nat) (c i n1 : Nat) : tA (sR M a k x) c i n1 = tA M c i n1 := rfl
theorem mm_sz_sC (M : aM) (a sp b dp n : Nat) : mSz (sC M a sp b dp n) = mSz M := rfl
theorem mm_kd_sC (M : aM) (a sp b dp n : Nat) (c : Nat) : mKd (sC M a sp b dp n) c = mKd M c := rfl
theorem mm_ln_sC (M : aM) (a sp b dp n : Nat) (c : Nat) : mLn (sC M a sp b dp n) c = mLn M c := rfl
theorem mm_tO_sC (M : aM) (a sp b dp n : Nat) (c i : Nat) : tO (sC M a sp b dp n) c i = tO M c i := rfl
theorem mm_tA_sC (M : aM) (a sp b dp n : Nat) (c i n1 : Nat) : tA (sC M a sp b dp n) c i n1 = tA M c i n1 := rfl
theorem mm_I_sI (M : aM) (a k : Nat) (x : Int32) (c j : Nat) : mI (sI M a k x) c j = if c = a ∧ j = k then x else mI M c j := rfl
theorem mm_R_sI (M : aM) (a k : Nat) (x : Int32) (c j : Nat) : mR (sI M a k x) c j = mR M c j := rfl
theorem mm_I_sR (M : aM) (a k : Nat) (x : Option Nat) (c j : Nat) : mI (sR M a k x) c j = mI M c j := rfl
theorem mm_R_sR (M : aM) (a k : Nat) (x : Option Nat) (c j : Nat) : mR (sR M a k x) c j = if c = a ∧ j = k then x else mR M c j := rfl
theorem mm_I_sC (M : aM) (a sp b dp n c j : Nat) : mI (sC M a sp b dp n) c j = if c = b ∧ dp ≤ j ∧ j < dp + n then mI M a (sp + (j - dp)) else mI M c j := rfl
theorem mm_R_sC (M : aM) (a sp b dp n c j : Nat) : mR (sC M a sp b dp n) c j = mR M c j := rfl
theorem mm_sz_mN (M : aM) (kd ln : Nat) : mSz (mN M kd ln) = mSz M + 1 := rfl
theorem mm_kd_mN (M : aM) (kd ln c : Nat) : mKd (mN M kd ln) c = if c = mSz M then kd else mKd M c := by
  show ((if c = M.1 then (kd, ln) else M.2.1 c) : Nat × Nat).1 = _
  by_cases h : c = M.1
  · rw [if_pos h, if_pos (show c = mSz M from h)]
  · rw [if_neg h, if_neg (show ¬ c = mSz M from h)]; rfl
theorem mm_ln_mN (M : aM) (kd ln c : Nat) : mLn (mN M kd ln) c = if c = mSz M then ln else mLn M c := by
  show ((if c = M.1 then (kd, ln) else M.2.1 c) : Nat × Nat).2 = _
  by_cases h : c = M.1
  · rw [if_pos h, if_pos (show c = mSz M from h)]
  · rw [if_neg h, if_neg (show ¬ c = mSz M from h)]; rfl
theorem mm_I_mN (M : aM) (kd ln c j : Nat) : mI (mN M kd ln) c j = if c = mSz M then 0 else mI M c j := rfl
theorem mm_R_mN (M : aM) (kd ln c j : Nat) : mR (mN M kd ln) c j = if c = mSz M then none else mR M c j := rfl
theorem tO.up {M : aM} {a ci : Nat} (h : tO M a ci) (kd ln : Nat) : tO (mN M kd ln) a ci := ⟨by rw [mm_sz_mN]; exact Nat.lt_succ_of_lt h.1, by rw [mm_kd_mN, if_neg (Nat.ne_of_lt h.1)]; exact h.2⟩
theorem tA.up {M : aM} {a ci n : Nat} (h : tA M a ci n) (kd ln : Nat) : tA (mN M kd ln) a ci n := ⟨by rw [mm_sz_mN]; exact Nat.lt_succ_of_lt h.1, by rw [mm_kd_mN, if_neg (Nat.ne_of_lt h.1)]; exact h.2.1, by rw [mm_ln_mN, if_neg (Nat.ne_of_lt h.1)]; exact h.2.2⟩
theorem tO.new (M : aM) (kd ln : Nat) : tO (mN M kd ln) (mSz M) kd := ⟨by rw [mm_sz_mN]; exact Nat.lt_succ_self _, by rw [mm_kd_mN, if_pos rfl]⟩
theorem tA.new (M : aM) (kd ln : Nat) : tA (mN M kd ln) (mSz M) kd ln := ⟨by rw [mm_sz_mN]; exact Nat.lt_succ_self _, by rw [mm_kd_mN, if_pos rfl], by rw [mm_ln_mN, if_pos rfl]⟩
/-- a method: its name, code, locals, answer -/
abbrev aMd : Type := MethodName × ByteArray × Nat × Option FieldType
def aV (b scr : Nat) (v : Value) : Value := match v with
  | .int x => .int x
  | .ref a => .ref (b + a)
  | .float _ => .ref scr
  | _ => .null
theorem aV_cat (b scr : Nat) (v : Value) : (aV b scr v).category = 1 := by cases v <;> rfl
theorem aV_rf (b scr : Nat) (r : Option Nat) : aV b scr (va_rf r) = va_rf (r.map (b + ·)) := by cases r <;> rfl
def aA (b : Nat) : Nat → Prop := fun q => b ≤ q
/-- the value of a field -/
def aF (b : Nat) (M : aM) (a k : Nat) : Value := if aRf (mKd M a) k = true then va_rf ((mR M a k).map (b + ·)) else .int (mI M a k)
def aAt (D : va_G) (cA : Nat → ClassId) (b : Nat) (M : aM) (H : Heap) (a : Nat) : Prop :=
  if mKd M a < 100 then ∃ r : vw_C, aCl[mKd M a]? = some r ∧ t_OB (b + a) (D.1 (mKd M a)) r.2.2 (D.2 (mKd M a)) H (aF b M a)
  else if mKd M a < 102 then H[b + a]? = some (arrV (cA (mKd M a)) (mLn M a) (fun j => .int (mI M a j)))
  else H[b + a]? = some (arrV (cA (mKd M a)) (mLn M a) (fun j => va_rf ((mR M a j).map (b + ·))))
def aOK (D : va_G) (cA : Nat → ClassId) (b : Nat) (M : aM) (H : Heap) : Prop := H.size = b + mSz M ∧ ∀ a, a < mSz M → aAt D cA b M H a
def aG (D : va_G) (cA : Nat → ClassId) (U : State) : Prop := va_K D aCl (aT cA) U ∧ ∀ w ∈ aNW, va_Nw w U
end
section
/-- the locals -/
def aL (b scr nL : Nat) (ls : List (Option Value)) (a : Array Slot) : Prop := lv_has a nL [] ∧ ∀ (i : Nat) (v : Value), ls[i]? = some (some v) → a[i]? = some (Slot.val (aV b scr v))
def aPs (b scr : Nat) : Nat → List (Option Value) → List (Nat × Value)
  | _, [] => []
  | i, none :: l => aPs b scr (i + 1) l
  | i, some v :: l => (i, aV b scr v) :: aPs b scr (i + 1) l
theorem aPs_mem (b scr : Nat) : ∀ (l : List (Option Value)) (i j : Nat) (v : Value), l[j]? = some (some v) → (i + j, aV b scr v) ∈ aPs b scr i l
  | [], i, j, v, h => by simp at h
  | none :: l, i, 0, v, h => by simp at h
  | none :: l, i, j + 1, v, h => by
    have := aPs_mem b scr l (i + 1) j v (by simpa using h)
    rw [show i + (j + 1) = i + 1 + j by omega]
    exact this
  | some w :: l, i, 0, v, h => by
    simp at h
    subst h
    exact List.mem_cons_self
  | some w :: l, i, j + 1, v, h => by
    have := aPs_mem b scr l (i + 1) j v (by simpa using h)
    rw [show i + (j + 1) = i + 1 + j by omega]
    exact List.mem_cons_of_mem _ this
theorem aPs_of (b scr : Nat) : ∀ (l : List (Option Value)) (i : Nat) (q : Nat × Value), q ∈ aPs b scr i l → ∃ j v, q = (i + j, aV b scr v) ∧ l[j]? = some (some v)
  | [], i, q, h => by cases h
  | none :: l, i, q, h => by
    obtain ⟨j, v, e, h2⟩ := aPs_of b scr l (i + 1) q h
    exact ⟨j + 1, v, by rw [e, show i + (j + 1) = i + 1 + j by omega], by simpa using h2⟩
  | some w :: l, i, q, h => by
    rcases List.mem_cons.mp h with h | h
    · exact ⟨0, w, h, rfl⟩
    · obtain ⟨j, v, e, h2⟩ := aPs_of b scr l (i + 1) q h
      exact ⟨j + 1, v, by rw [e, show i + (j + 1) = i + 1 + j by omega], by simpa using h2⟩
theorem aL.has {b scr nL : Nat} {ls : List (Option Value)} {a : Array Slot} (h : aL b scr nL ls a) : lv_has a nL (aPs b scr 0 ls) := by
  refine ⟨h.1.1, h.1.2.1, fun q hq => ?_⟩
  obtain ⟨j, v, e, h2⟩ := aPs_of b scr ls 0 q hq
  rw [e, show 0 + j = j by omega]
  exact h.2 j v h2
theorem aL.st {b scr nL : Nat} {ls : List (Option Value)} {a : Array Slot} {i : Nat} {v : Value} (h : lv_has a nL ((i, aV b scr v) :: (aPs b scr 0 ls).filter (fun q => !(q.1 == i) && !(q.1 + 1 == i && q.2.category == 2)))) : aL b scr nL (ls.set i (some v)) a := by
  refine ⟨⟨h.1, h.2.1, fun q hq => by cases hq⟩, fun j w hj => ?_⟩
  by_cases hij : j = i
  · subst hij
    have hlt : j < ls.length := by
      have := (List.getElem?_eq_some_iff.mp hj).1
      simpa using this
    rw [List.getElem?_set_self hlt] at hj
    cases hj
    exact h.2.2 _ List.mem_cons_self
  · rw [List.getElem?_set_ne (fun e => hij e.symm)] at hj
    have hm := aPs_mem b scr ls 0 j w hj
    rw [show 0 + j = j by omega] at hm
    refine h.2.2 (j, aV b scr w) (List.mem_cons_of_mem _ (List.mem_filter.mpr ⟨hm, ?_⟩))
    simp [hij, aV_cat]
theorem aL.entry {b scr nL : Nat} {vs : List Value} (hn : vs.length ≤ nL) : ∃ a, (∀ m : MethodId, entryFrame m (vs.map (aV b scr)).toArray nL = F0 m 0 a []) ∧ aL b scr nL (vs.map some) a := by
  have hlen : ∀ ws : List Value, (lg_sl (ws.map (aV b scr))).length = ws.length := by
    intro ws
    induction ws with
    | nil => rfl
    | cons w ws ih =>
      simp only [lg_sl, List.map_cons, List.flatMap_cons, aV_cat, List.length_append] at ih ⊢
      simp [ih]
      omega
  have he := lv_entry (vs.map (aV b scr)) (n := nL) (by rw [hlen]; exact hn)
  refine ⟨_, fun m => lg_entry_eq m _ nL, ⟨he.1, he.2.1, fun q hq => by cases hq⟩, fun i v hi => ?_⟩
  have hargs : ∀ (ws : List Value) (k j : Nat) (w : Value), ws[j]? = some w → (k + j, aV b scr w) ∈ lv_args k (ws.map (aV b scr)) := by
    intro ws
    induction ws with
    | nil => intro k j w h; simp at h
    | cons x ws ih =>
      intro k j w h
      simp only [List.map_cons, lv_args, aV_cat]
      cases j with
      | zero =>
        simp at h
        subst h
        simp
      | succ j =>
        have := ih (k + 1) j w (by simpa using h)
        rw [show k + (j + 1) = k + 1 + j by omega]
        simp
        exact Or.inr this
  have hi' : vs[i]? = some v := by
    rw [List.getElem?_map] at hi
    cases h9 : vs[i]? with
    | none => rw [h9] at hi; cases hi
    | some w => rw [h9] at hi; simp at hi; rw [hi]
  have := he.2.2 _ (hargs vs 0 i v hi')
  rw [show 0 + i = i by omega] at this
  exact this
/-- an answer, and the instruction that gives it -/
def aRt (μ : aMd) (r : Option Value) (pc : Nat) : Prop := match r with
  | none => μ.2.2.2 = none ∧ decode μ.2.1 pc = .ok (.return_, 1)
  | some (.int x) => (∃ ty, μ.2.2.2 = some ty ∧ narrow ty (.int x) = .int x) ∧ decode μ.2.1 pc = .ok (.ireturn, 1)
  | some (.ref _) => (∃ n, μ.2.2.2 = some (.object n)) ∧ decode μ.2.1 pc = .ok (.areturn, 1)
  | some .null => (∃ n, μ.2.2.2 = some (.object n)) ∧ decode μ.2.1 pc = .ok (.areturn, 1)
  | _ => False
def aCx (μ : aMd) (d mc ms : Nat) (Q : aM → Option Value → Prop) (D : va_G) (cA : Nat → ClassId) (b scr : Nat) (p : Program) (l : Launch) (e : Env) (R : Room) (s : State) (m : MethodId) (args : Array Value) (below : List Frame) (meth : Method) (c : Code) (Qf : State → Prop) : Prop :=
  p.tables.exec = Jvm.exec ∧ c.code = μ.2.1 ∧ c.maxLocals = μ.2.2.1 ∧ s.vm.findClass μ.1.cls = some m.cls ∧ (∀ w ∈ aWS, w.before args s = true) ∧ aG D cA s ∧ d ≤ R.frames ∧ 40 * d ≤ R.locals ∧ mc ≤ R.cells ∧ ms ≤ R.slots ∧ b ≤ s.heap.size ∧ meth.name = μ.1.name ∧
  ∀ (H : Heap) (locs : List Loc) (uc us pc : Nat) (ls : Array Slot) (M : aM) (r : Option Value), aRt μ r pc → Q M r → aOK D cA b M H → va_S (aA b) s.heap H locs → uc ≤ mc → us ≤ ms → W p l e R s m args below meth c H locs uc us Qf (F0 m pc ls (r.toList.map (aV b scr)))
/-- the walk's judgement: from pc, with these locals, stack and memory, the method comes to an answer with Q -/
def aJ (X : Nat → Nat → State → Prop) (μ : aMd) (d mc ms : Nat) (Q : aM → Option Value → Prop) (uc us pc : Nat) (ls : List (Option Value)) (st : List Value) (M : aM) : Prop :=
  ∀ (D : va_G) (cA : Nat → ClassId) (b scr : Nat) (p : Program) (l : Launch) (e : Env) (R : Room) (s : State) (m : MethodId) (args : Array Value) (below : List Frame) (meth : Method) (c : Code) (Qf : State → Prop) (H : Heap) (locs : List Loc) (a : Array Slot),
    aCx μ d mc ms Q D cA b scr p l e R s m args below meth c Qf → X b scr s → aOK D cA b M H → va_S (aA b) s.heap H locs → aL b scr μ.2.2.1 ls a →
    W p l e R s m args below meth c H locs uc us Qf (F0 m pc a (st.map (aV b scr)))
/-- a method's contract -/
def aQ (D : va_G) (cA : Nat → ClassId) (b scr : Nat) (Q : aM → Option Value → Prop) : Array Value → State → Outcome → State → Prop := fun _ st oc t =>
  (∃ (M : aM) (r : Option Value), oc = .returned (r.map (aV b scr)) ∧ Q M r ∧ aOK D cA b M t.heap ∧ aG D cA t) ∧ va_F (aA b) st t
def aws (μ : aMd) : List Cond := Cond.code μ.1 μ.2.1 μ.2.2.1 μ.2.2.2 :: aWS
def aPc (D : va_G) (cA : Nat → ClassId) (b scr : Nat) (M : aM) (vs : List Value) : Array Value → State → Prop := va_Pc (vs.map (aV b scr)) (fun U => aOK D cA b M U.heap ∧ aG D cA U)
def aK (μ : aMd) (d mc ms : Nat) (M : aM) (vs : List Value) (Q : aM → Option Value → Prop) : Prop :=
  ∀ (l : Launch) (D : va_G) (cA : Nat → ClassId) (b scr : Nat), Met l μ.1 (aws μ) { frames := d, cells := mc, slots := ms, locals := 40 * d } (aPc D cA b scr M vs) (aQ D cA b scr Q) mc ms (aA b)
abbrev aX0 : Nat → Nat → State → Prop := fun _ _ _ => True

section JJ
variable {X : Nat → Nat → State → Prop} {μ : aMd} {d mc ms : Nat} {Q : aM → Option Value → Prop} {uc us pc : Nat} {ls : List (Option Value)} {st : List Value} {M : aM}
theorem j_iconst {n : Int} {v : Int32} (hd : decode μ.2.1 pc = .ok (.iconst n, 1)) (hv : Int32.ofInt n = v) (kk : aJ X μ d mc ms Q uc us (pc + 1) ls (.int v :: st) M) : aJ X μ d mc ms Q uc us pc ls st M := by
  intro D cA b scr p l e R s m args below meth c Qf H locs a C hX hO hS hL
  exact lv_iconst C.1 C.2.1 hd hv (kk D cA b scr p l e R s m args below meth c Qf H locs a C hX hO hS hL)
theorem j_bipush {n : Int} {v : Int32} (hd : decode μ.2.1 pc = .ok (.bipush n, 2)) (hv : (Int8.ofInt n).toInt32 = v) (kk : aJ X μ d mc ms Q uc us (pc + 2) ls (.int v :: st) M) : aJ X μ d mc ms Q uc us pc ls st M := by
  intro D cA b scr p l e R s m args below meth c Qf H locs a C hX hO hS hL
  exact lv_bipush C.1 C.2.1 hd hv (kk D cA b scr p l e R s m args below meth c Qf H locs a C hX hO hS hL)
theorem j_sipush {n : Int} {v : Int32} (hd : decode μ.2.1 pc = .ok (.sipush n, 3)) (hv : (Int16.ofInt n).toInt32 = v) (kk : aJ X μ d mc ms Q uc us (pc + 3) ls (.int v :: st) M) : aJ X μ d mc ms Q uc us pc ls st M := by
  intro D cA b scr p l e R s m args below meth c Qf H locs a C hX hO hS hL
  exact lv_sipush C.1 C.2.1 hd hv (kk D cA b scr p l e R s m args below meth c Qf H locs a C hX hO hS hL)
theorem j_null (hd : decode μ.2.1 pc = .ok (.aconst_null, 1)) (kk : aJ X μ d mc ms Q uc us (pc + 1) ls (.null :: st) M) : aJ X μ d mc ms Q uc us pc ls st M := by
  intro D cA b scr p l e R s m args below meth c Qf H locs a C hX hO hS hL
  exact lv_null C.1 C.2.1 hd (kk D cA b scr p l e R s m args below meth c Qf H locs a C hX hO hS hL)
theorem j_iload_n {k : Fin 4} {x : Int32} (hd : decode μ.2.1 pc = .ok (.iload_n k, 1)) (hl : ls[(k : Nat)]? = some (some (.int x))) (kk : aJ X μ d mc ms Q uc us (pc + 1) ls (.int x :: st) M) : aJ X μ d mc ms Q uc us pc ls st M := by
  intro D cA b scr p l e R s m args below meth c Qf H locs a C hX hO hS hL
  exact lv_iload_n C.1 C.2.1 hd rfl (hL.2 _ _ hl) (kk D cA b scr p l e R s m args below meth c Qf H locs a C hX hO hS hL)
theorem j_iload {k : Nat} {x : Int32} (hd : decode μ.2.1 pc = .ok (.iload k, 2)) (hl : ls[k]? = some (some (.int x))) (kk : aJ X μ d mc ms Q uc us (pc + 2) ls (.int x :: st) M) : aJ X μ d mc ms Q uc us pc ls st M := by
  intro D cA b scr p l e R s m args below meth c Qf H locs a C hX hO hS hL
  exact lv_iload C.1 C.2.1 hd (hL.2 _ _ hl) (kk D cA b scr p l e R s m args below meth c Qf H locs a C hX hO hS hL)
theorem j_aload_n {k : Fin 4} {x : Nat} (hd : decode μ.2.1 pc = .ok (.aload_n k, 1)) (hl : ls[(k : Nat)]? = some (some (.ref x))) (kk : aJ X μ d mc ms Q uc us (pc + 1) ls (.ref x :: st) M) : aJ X μ d mc ms Q uc us pc ls st M := by
  intro D cA b scr p l e R s m args below meth c Qf H locs a C hX hO hS hL
  exact lv_aload_n C.1 C.2.1 hd rfl (hL.2 _ _ hl) (kk D cA b scr p l e R s m args below meth c Qf H locs a C hX hO hS hL)
theorem j_aload {k : Nat} {x : Nat} (hd : decode μ.2.1 pc = .ok (.aload k, 2)) (hl : ls[k]? = some (some (.ref x))) (kk : aJ X μ d mc ms Q uc us (pc + 2) ls (.ref x :: st) M) : aJ X μ d mc ms Q uc us pc ls st M := by
  intro D cA b scr p l e R s m args below meth c Qf H locs a C hX hO hS hL
  exact lv_aload C.1 C.2.1 hd (hL.2 _ _ hl) (kk D cA b scr p l e R s m args below meth c Qf H locs a C hX hO hS hL)
theorem j_aload_nN {k : Fin 4} (hd : decode μ.2.1 pc = .ok (.aload_n k, 1)) (hl : ls[(k : Nat)]? = some (some .null)) (kk : aJ X μ d mc ms Q uc us (pc + 1) ls (.null :: st) M) : aJ X μ d mc ms Q uc us pc ls st M := by
  intro D cA b scr p l e R s m args below meth c Qf H locs a C hX hO hS hL
  exact lv_aload_nN C.1 C.2.1 hd rfl (hL.2 _ _ hl) (kk D cA b scr p l e R s m args below meth c Qf H locs a C hX hO hS hL)
theorem j_aloadN {k : Nat} (hd : decode μ.2.1 pc = .ok (.aload k, 2)) (hl : ls[k]? = some (some .null)) (kk : aJ X μ d mc ms Q uc us (pc + 2) ls (.null :: st) M) : aJ X μ d mc ms Q uc us pc ls st M := by
  intro D cA b scr p l e R s m args below meth c Qf H locs a C hX hO hS hL
  exact lv_aloadN C.1 C.2.1 hd (hL.2 _ _ hl) (kk D cA b scr p l e R s m args below meth c Qf H locs a C hX hO hS hL)
theorem j_aload_nS {k : Fin 4} {x : UInt32} (hd : decode μ.2.1 pc = .ok (.aload_n k, 1)) (hl : ls[(k : Nat)]? = some (some (.float x))) (kk : aJ X μ d mc ms Q uc us (pc + 1) ls (.float x :: st) M) : aJ X μ d mc ms Q uc us pc ls st M := by
  intro D cA b scr p l e R s m args below meth c Qf H locs a C hX hO hS hL
  exact lv_aload_n C.1 C.2.1 hd rfl (hL.2 _ _ hl) (kk D cA b scr p l e R s m args below meth c Qf H locs a C hX hO hS hL)
theorem j_istore_n {k : Fin 4} {x : Int32} (hd : decode μ.2.1 pc = .ok (.istore_n k, 1)) (hn : (k : Nat) < μ.2.2.1) (kk : aJ X μ d mc ms Q uc us (pc + 1) (ls.set (k : Nat) (some (.int x))) st M) : aJ X μ d mc ms Q uc us pc ls (.int x :: st) M := by
  intro D cA b scr p l e R s m args below meth c Qf H locs a C hX hO hS hL
  exact lv_istore_n C.1 C.2.1 hd rfl hL.has hn rfl (fun a' h' => kk D cA b scr p l e R s m args below meth c Qf H locs a' C hX hO hS (aL.st h'))
theorem j_istore {k : Nat} {x : Int32} (hd : decode μ.2.1 pc = .ok (.istore k, 2)) (hn : k < μ.2.2.1) (kk : aJ X μ d mc ms Q uc us (pc + 2) (ls.set k (some (.int x))) st M) : aJ X μ d mc ms Q uc us pc ls (.int x :: st) M := by
  intro D cA b scr p l e R s m args below meth c Qf H locs a C hX hO hS hL
  exact lv_istore C.1 C.2.1 hd hL.has hn rfl (fun a' h' => kk D cA b scr p l e R s m args below meth c Qf H locs a' C hX hO hS (aL.st h'))
theorem j_astore_n {k : Fin 4} {x : Nat} (hd : decode μ.2.1 pc = .ok (.astore_n k, 1)) (hn : (k : Nat) < μ.2.2.1) (kk : aJ X μ d mc ms Q uc us (pc + 1) (ls.set (k : Nat) (some (.ref x))) st M) : aJ X μ d mc ms Q uc us pc ls (.ref x :: st) M := by
  intro D cA b scr p l e R s m args below meth c Qf H locs a C hX hO hS hL
  exact lv_astore_n C.1 C.2.1 hd rfl hL.has hn rfl (fun a' h' => kk D cA b scr p l e R s m args below meth c Qf H locs a' C hX hO hS (aL.st h'))
theorem j_astore {k : Nat} {x : Nat} (hd : decode μ.2.1 pc = .ok (.astore k, 2)) (hn : k < μ.2.2.1) (kk : aJ X μ d mc ms Q uc us (pc + 2) (ls.set k (some (.ref x))) st M) : aJ X μ d mc ms Q uc us pc ls (.ref x :: st) M := by
  intro D cA b scr p l e R s m args below meth c Qf H locs a C hX hO hS hL
  exact lv_astore C.1 C.2.1 hd hL.has hn rfl (fun a' h' => kk D cA b scr p l e R s m args below meth c Qf H locs a' C hX hO hS (aL.st h'))
theorem j_astore_nN {k : Fin 4} (hd : decode μ.2.1 pc = .ok (.astore_n k, 1)) (hn : (k : Nat) < μ.2.2.1) (kk : aJ X μ d mc ms Q uc us (pc + 1) (ls.set (k : Nat) (some .null)) st M) : aJ X μ d mc ms Q uc us pc ls (.null :: st) M := by
  intro D cA b scr p l e R s m args below meth c Qf H locs a C hX hO hS hL
  exact lv_astore_nN C.1 C.2.1 hd rfl hL.has hn rfl (fun a' h' => kk D cA b scr p l e R s m args below meth c Qf H locs a' C hX hO hS (aL.st (v := .null) h'))
theorem j_astoreN {k : Nat} (hd : decode μ.2.1 pc = .ok (.astore k, 2)) (hn : k < μ.2.2.1) (kk : aJ X μ d mc ms Q uc us (pc + 2) (ls.set k (some .null)) st M) : aJ X μ d mc ms Q uc us pc ls (.null :: st) M := by
  intro D cA b scr p l e R s m args below meth c Qf H locs a C hX hO hS hL
  exact lv_astoreN C.1 C.2.1 hd hL.has hn rfl (fun a' h' => kk D cA b scr p l e R s m args below meth c Qf H locs a' C hX hO hS (aL.st (v := .null) h'))
theorem j_iinc {k : Nat} {n : Int} {x : Int32} (v : Int32) (hd : decode μ.2.1 pc = .ok (.iinc k n, 3)) (hl : ls[k]? = some (some (.int x))) (hv : x + Int32.ofInt n = v) (hn : k < μ.2.2.1) (kk : aJ X μ d mc ms Q uc us (pc + 3) (ls.set k (some (.int v))) st M) : aJ X μ d mc ms Q uc us pc ls st M := by
  intro D cA b scr p l e R s m args below meth c Qf H locs a C hX hO hS hL
  obtain ⟨k0, hk0⟩ := List.getElem?_of_mem (aPs_mem b scr ls 0 k _ hl)
  rw [show 0 + k = k by omega] at hk0
  exact lv_iinc C.1 C.2.1 hd hL.has hk0 hv hn rfl (fun a' h' => kk D cA b scr p l e R s m args below meth c Qf H locs a' C hX hO hS (aL.st (v := .int v) h'))
theorem j_iadd {x y : Int32} (hd : decode μ.2.1 pc = .ok (.iadd, 1)) (kk : aJ X μ d mc ms Q uc us (pc + 1) ls (.int (x + y) :: st) M) : aJ X μ d mc ms Q uc us pc ls (.int y :: .int x :: st) M := by
  intro D cA b scr p l e R s m args below meth c Qf H locs a C hX hO hS hL
  exact lv_iadd C.1 C.2.1 hd (kk D cA b scr p l e R s m args below meth c Qf H locs a C hX hO hS hL)
theorem j_isub {x y : Int32} (hd : decode μ.2.1 pc = .ok (.isub, 1)) (kk : aJ X μ d mc ms Q uc us (pc + 1) ls (.int (x - y) :: st) M) : aJ X μ d mc ms Q uc us pc ls (.int y :: .int x :: st) M := by
  intro D cA b scr p l e R s m args below meth c Qf H locs a C hX hO hS hL
  exact lv_isub C.1 C.2.1 hd (kk D cA b scr p l e R s m args below meth c Qf H locs a C hX hO hS hL)
theorem j_imul {x y : Int32} (hd : decode μ.2.1 pc = .ok (.imul, 1)) (kk : aJ X μ d mc ms Q uc us (pc + 1) ls (.int (x * y) :: st) M) : aJ X μ d mc ms Q uc us pc ls (.int y :: .int x :: st) M := by
  intro D cA b scr p l e R s m args below meth c Qf H locs a C hX hO hS hL
  exact lv_imul C.1 C.2.1 hd (kk D cA b scr p l e R s m args below meth c Qf H locs a C hX hO hS hL)
theorem j_iand {x y : Int32} (hd : decode μ.2.1 pc = .ok (.iand, 1)) (kk : aJ X μ d mc ms Q uc us (pc + 1) ls (.int (x &&& y) :: st) M) : aJ X μ d mc ms Q uc us pc ls (.int y :: .int x :: st) M := by
  intro D cA b scr p l e R s m args below meth c Qf H locs a C hX hO hS hL
  exact lv_iand C.1 C.2.1 hd (kk D cA b scr p l e R s m args below meth c Qf H locs a C hX hO hS hL)
theorem j_ior {x y : Int32} (hd : decode μ.2.1 pc = .ok (.ior, 1)) (kk : aJ X μ d mc ms Q uc us (pc + 1) ls (.int (x ||| y) :: st) M) : aJ X μ d mc ms Q uc us pc ls (.int y :: .int x :: st) M := by
  intro D cA b scr p l e R s m args below meth c Qf H locs a C hX hO hS hL
  exact lv_ior C.1 C.2.1 hd (kk D cA b scr p l e R s m args below meth c Qf H locs a C hX hO hS hL)
theorem j_ishl {x y : Int32} (hd : decode μ.2.1 pc = .ok (.ishl, 1)) (kk : aJ X μ d mc ms Q uc us (pc + 1) ls (.int (x <<< (y &&& 31)) :: st) M) : aJ X μ d mc ms Q uc us pc ls (.int y :: .int x :: st) M := by
  intro D cA b scr p l e R s m args below meth c Qf H locs a C hX hO hS hL
  exact lv_ishl C.1 C.2.1 hd (kk D cA b scr p l e R s m args below meth c Qf H locs a C hX hO hS hL)
theorem j_ishr {x y : Int32} (hd : decode μ.2.1 pc = .ok (.ishr, 1)) (kk : aJ X μ d mc ms Q uc us (pc + 1) ls (.int (x >>> (y &&& 31)) :: st) M) : aJ X μ d mc ms Q uc us pc ls (.int y :: .int x :: st) M := by
  intro D cA b scr p l e R s m args below meth c Qf H locs a C hX hO hS hL
  exact lv_ishr C.1 C.2.1 hd (kk D cA b scr p l e R s m args below meth c Qf H locs a C hX hO hS hL)
theorem j_idiv {x y : Int32} (hd : decode μ.2.1 pc = .ok (.idiv, 1)) (hne : ¬ y = 0) (kk : aJ X μ d mc ms Q uc us (pc + 1) ls (.int (x / y) :: st) M) : aJ X μ d mc ms Q uc us pc ls (.int y :: .int x :: st) M := by
  intro D cA b scr p l e R s m args below meth c Qf H locs a C hX hO hS hL
  exact lv_idiv C.1 C.2.1 hd hne (kk D cA b scr p l e R s m args below meth c Qf H locs a C hX hO hS hL)
theorem j_irem {x y : Int32} (hd : decode μ.2.1 pc = .ok (.irem, 1)) (hne : ¬ y = 0) (kk : aJ X μ d mc ms Q uc us (pc + 1) ls (.int (x - x / y * y) :: st) M) : aJ X μ d mc ms Q uc us pc ls (.int y :: .int x :: st) M := by
  intro D cA b scr p l e R s m args below meth c Qf H locs a C hX hO hS hL
  exact lv_irem C.1 C.2.1 hd hne (kk D cA b scr p l e R s m args below meth c Qf H locs a C hX hO hS hL)
theorem j_dup {v : Value} (hd : decode μ.2.1 pc = .ok (.dup, 1)) (kk : aJ X μ d mc ms Q uc us (pc + 1) ls (v :: v :: st) M) : aJ X μ d mc ms Q uc us pc ls (v :: st) M := by
  intro D cA b scr p l e R s m args below meth c Qf H locs a C hX hO hS hL
  exact lv_dup C.1 C.2.1 hd (aV_cat b scr v) (kk D cA b scr p l e R s m args below meth c Qf H locs a C hX hO hS hL)
theorem j_pop {v : Value} (hd : decode μ.2.1 pc = .ok (.pop, 1)) (kk : aJ X μ d mc ms Q uc us (pc + 1) ls st M) : aJ X μ d mc ms Q uc us pc ls (v :: st) M := by
  intro D cA b scr p l e R s m args below meth c Qf H locs a C hX hO hS hL
  exact lv_pop C.1 C.2.1 hd (aV_cat b scr v) (kk D cA b scr p l e R s m args below meth c Qf H locs a C hX hO hS hL)
theorem j_dup_x1 {v w : Value} (hd : decode μ.2.1 pc = .ok (.dup_x1, 1)) (kk : aJ X μ d mc ms Q uc us (pc + 1) ls (v :: w :: v :: st) M) : aJ X μ d mc ms Q uc us pc ls (v :: w :: st) M := by
  intro D cA b scr p l e R s m args below meth c Qf H locs a C hX hO hS hL
  exact lv_dup_x1 C.1 C.2.1 hd (aV_cat b scr v) (aV_cat b scr w) (kk D cA b scr p l e R s m args below meth c Qf H locs a C hX hO hS hL)
theorem j_dup2 {v w : Value} (hd : decode μ.2.1 pc = .ok (.dup2, 1)) (kk : aJ X μ d mc ms Q uc us (pc + 1) ls (v :: w :: v :: w :: st) M) : aJ X μ d mc ms Q uc us pc ls (v :: w :: st) M := by
  intro D cA b scr p l e R s m args below meth c Qf H locs a C hX hO hS hL
  exact lv_dup2_11 C.1 C.2.1 hd (aV_cat b scr v) (aV_cat b scr w) (kk D cA b scr p l e R s m args below meth c Qf H locs a C hX hO hS hL)
theorem j_topi {x : Int32} (kk : ∀ y : Int32, y = x → aJ X μ d mc ms Q uc us pc ls (.int y :: st) M) : aJ X μ d mc ms Q uc us pc ls (.int x :: st) M := kk x rfl
theorem j_eqi {x y : Int32} (h : x = y) (kk : aJ X μ d mc ms Q uc us pc ls (.int y :: st) M) : aJ X μ d mc ms Q uc us pc ls (.int x :: st) M := h ▸ kk
theorem j_eqv {x y : Value} (h : x = y) (kk : aJ X μ d mc ms Q uc us pc ls (y :: st) M) : aJ X μ d mc ms Q uc us pc ls (x :: st) M := h ▸ kk
theorem j_eqM {M' : aM} (h : M = M') (kk : aJ X μ d mc ms Q uc us pc ls st M') : aJ X μ d mc ms Q uc us pc ls st M := h ▸ kk
theorem j_if_eq {off : Int} {tgt : Nat} {x : Int32} (hd : decode μ.2.1 pc = .ok (.ifCond .eq off, 3)) (ht : (pc : Int) + off = (tgt : Int)) (kt : x = 0 → aJ X μ d mc ms Q uc us tgt ls st M) (kf : ¬ x = 0 → aJ X μ d mc ms Q uc us (pc + 3) ls st M) : aJ X μ d mc ms Q uc us pc ls (.int x :: st) M := by
  intro D cA b scr p l e R s m args below meth c Qf H locs a C hX hO hS hL
  exact lv_if_eq C.1 C.2.1 hd ht (fun h => (kt h D cA b scr p l e R s m args below meth c Qf H locs a C hX hO hS hL)) (fun h => (kf h D cA b scr p l e R s m args below meth c Qf H locs a C hX hO hS hL))
theorem j_if_ne {off : Int} {tgt : Nat} {x : Int32} (hd : decode μ.2.1 pc = .ok (.ifCond .ne off, 3)) (ht : (pc : Int) + off = (tgt : Int)) (kt : ¬ x = 0 → aJ X μ d mc ms Q uc us tgt ls st M) (kf : x = 0 → aJ X μ d mc ms Q uc us (pc + 3) ls st M) : aJ X μ d mc ms Q uc us pc ls (.int x :: st) M := by
  intro D cA b scr p l e R s m args below meth c Qf H locs a C hX hO hS hL
  exact lv_if_ne C.1 C.2.1 hd ht (fun h => (kt h D cA b scr p l e R s m args below meth c Qf H locs a C hX hO hS hL)) (fun h => (kf h D cA b scr p l e R s m args below meth c Qf H locs a C hX hO hS hL))
theorem j_if_lt {off : Int} {tgt : Nat} {x : Int32} (hd : decode μ.2.1 pc = .ok (.ifCond .lt off, 3)) (ht : (pc : Int) + off = (tgt : Int)) (kt : x < 0 → aJ X μ d mc ms Q uc us tgt ls st M) (kf : ¬ x < 0 → aJ X μ d mc ms Q uc us (pc + 3) ls st M) : aJ X μ d mc ms Q uc us pc ls (.int x :: st) M := by
  intro D cA b scr p l e R s m args below meth c Qf H locs a C hX hO hS hL
  exact lv_if_lt C.1 C.2.1 hd ht (fun h => (kt h D cA b scr p l e R s m args below meth c Qf H locs a C hX hO hS hL)) (fun h => (kf h D cA b scr p l e R s m args below meth c Qf H locs a C hX hO hS hL))
theorem j_if_ge {off : Int} {tgt : Nat} {x : Int32} (hd : decode μ.2.1 pc = .ok (.ifCond .ge off, 3)) (ht : (pc : Int) + off = (tgt : Int)) (kt : 0 ≤ x → aJ X μ d mc ms Q uc us tgt ls st M) (kf : ¬ 0 ≤ x → aJ X μ d mc ms Q uc us (pc + 3) ls st M) : aJ X μ d mc ms Q uc us pc ls (.int x :: st) M := by
  intro D cA b scr p l e R s m args below meth c Qf H locs a C hX hO hS hL
  exact lv_if_ge C.1 C.2.1 hd ht (fun h => (kt h D cA b scr p l e R s m args below meth c Qf H locs a C hX hO hS hL)) (fun h => (kf h D cA b scr p l e R s m args below meth c Qf H locs a C hX hO hS hL))
theorem j_if_gt {off : Int} {tgt : Nat} {x : Int32} (hd : decode μ.2.1 pc = .ok (.ifCond .gt off, 3)) (ht : (pc : Int) + off = (tgt : Int)) (kt : 0 < x → aJ X μ d mc ms Q uc us tgt ls st M) (kf : ¬ 0 < x → aJ X μ d mc ms Q uc us (pc + 3) ls st M) : aJ X μ d mc ms Q uc us pc ls (.int x :: st) M := by
  intro D cA b scr p l e R s m args below meth c Qf H locs a C hX hO hS hL
  exact lv_if_gt C.1 C.2.1 hd ht (fun h => (kt h D cA b scr p l e R s m args below meth c Qf H locs a C hX hO hS hL)) (fun h => (kf h D cA b scr p l e R s m args below meth c Qf H locs a C hX hO hS hL))
theorem j_if_le {off : Int} {tgt : Nat} {x : Int32} (hd : decode μ.2.1 pc = .ok (.ifCond .le off, 3)) (ht : (pc : Int) + off = (tgt : Int)) (kt : x ≤ 0 → aJ X μ d mc ms Q uc us tgt ls st M) (kf : ¬ x ≤ 0 → aJ X μ d mc ms Q uc us (pc + 3) ls st M) : aJ X μ d mc ms Q uc us pc ls (.int x :: st) M := by
  intro D cA b scr p l e R s m args below meth c Qf H locs a C hX hO hS hL
  exact lv_if_le C.1 C.2.1 hd ht (fun h => (kt h D cA b scr p l e R s m args below meth c Qf H locs a C hX hO hS hL)) (fun h => (kf h D cA b scr p l e R s m args below meth c Qf H locs a C hX hO hS hL))
theorem j_icmp_eq {off : Int} {tgt : Nat} {x y : Int32} (hd : decode μ.2.1 pc = .ok (.if_icmp .eq off, 3)) (ht : (pc : Int) + off = (tgt : Int)) (kt : x = y → aJ X μ d mc ms Q uc us tgt ls st M) (kf : ¬ x = y → aJ X μ d mc ms Q uc us (pc + 3) ls st M) : aJ X μ d mc ms Q uc us pc ls (.int y :: .int x :: st) M := by
  intro D cA b scr p l e R s m args below meth c Qf H locs a C hX hO hS hL
  exact lv_icmp_eq C.1 C.2.1 hd ht (fun h => (kt h D cA b scr p l e R s m args below meth c Qf H locs a C hX hO hS hL)) (fun h => (kf h D cA b scr p l e R s m args below meth c Qf H locs a C hX hO hS hL))
theorem j_icmp_ne {off : Int} {tgt : Nat} {x y : Int32} (hd : decode μ.2.1 pc = .ok (.if_icmp .ne off, 3)) (ht : (pc : Int) + off = (tgt : Int)) (kt : ¬ x = y → aJ X μ d mc ms Q uc us tgt ls st M) (kf : x = y → aJ X μ d mc ms Q uc us (pc + 3) ls st M) : aJ X μ d mc ms Q uc us pc ls (.int y :: .int x :: st) M := by
  intro D cA b scr p l e R s m args below meth c Qf H locs a C hX hO hS hL
  exact lv_icmp_ne C.1 C.2.1 hd ht (fun h => (kt h D cA b scr p l e R s m args below meth c Qf H locs a C hX hO hS hL)) (fun h => (kf h D cA b scr p l e R s m args below meth c Qf H locs a C hX hO hS hL))
theorem j_icmp_lt {off : Int} {tgt : Nat} {x y : Int32} (hd : decode μ.2.1 pc = .ok (.if_icmp .lt off, 3)) (ht : (pc : Int) + off = (tgt : Int)) (kt : x < y → aJ X μ d mc ms Q uc us tgt ls st M) (kf : ¬ x < y → aJ X μ d mc ms Q uc us (pc + 3) ls st M) : aJ X μ d mc ms Q uc us pc ls (.int y :: .int x :: st) M := by
  intro D cA b scr p l e R s m args below meth c Qf H locs a C hX hO hS hL
  exact lv_icmp_lt C.1 C.2.1 hd ht (fun h => (kt h D cA b scr p l e R s m args below meth c Qf H locs a C hX hO hS hL)) (fun h => (kf h D cA b scr p l e R s m args below meth c Qf H locs a C hX hO hS hL))
theorem j_icmp_ge {off : Int} {tgt : Nat} {x y : Int32} (hd : decode μ.2.1 pc = .ok (.if_icmp .ge off, 3)) (ht : (pc : Int) + off = (tgt : Int)) (kt : y ≤ x → aJ X μ d mc ms Q uc us tgt ls st M) (kf : ¬ y ≤ x → aJ X μ d mc ms Q uc us (pc + 3) ls st M) : aJ X μ d mc ms Q uc us pc ls (.int y :: .int x :: st) M := by
  intro D cA b scr p l e R s m args below meth c Qf H locs a C hX hO hS hL
  exact lv_icmp_ge C.1 C.2.1 hd ht (fun h => (kt h D cA b scr p l e R s m args below meth c Qf H locs a C hX hO hS hL)) (fun h => (kf h D cA b scr p l e R s m args below meth c Qf H locs a C hX hO hS hL))
theorem j_icmp_gt {off : Int} {tgt : Nat} {x y : Int32} (hd : decode μ.2.1 pc = .ok (.if_icmp .gt off, 3)) (ht : (pc : Int) + off = (tgt : Int)) (kt : y < x → aJ X μ d mc ms Q uc us tgt ls st M) (kf : ¬ y < x → aJ X μ d mc ms Q uc us (pc + 3) ls st M) : aJ X μ d mc ms Q uc us pc ls (.int y :: .int x :: st) M := by
  intro D cA b scr p l e R s m args below meth c Qf H locs a C hX hO hS hL
  exact lv_icmp_gt C.1 C.2.1 hd ht (fun h => (kt h D cA b scr p l e R s m args below meth c Qf H locs a C hX hO hS hL)) (fun h => (kf h D cA b scr p l e R s m args below meth c Qf H locs a C hX hO hS hL))
theorem j_icmp_le {off : Int} {tgt : Nat} {x y : Int32} (hd : decode μ.2.1 pc = .ok (.if_icmp .le off, 3)) (ht : (pc : Int) + off = (tgt : Int)) (kt : x ≤ y → aJ X μ d mc ms Q uc us tgt ls st M) (kf : ¬ x ≤ y → aJ X μ d mc ms Q uc us (pc + 3) ls st M) : aJ X μ d mc ms Q uc us pc ls (.int y :: .int x :: st) M := by
  intro D cA b scr p l e R s m args below meth c Qf H locs a C hX hO hS hL
  exact lv_icmp_le C.1 C.2.1 hd ht (fun h => (kt h D cA b scr p l e R s m args below meth c Qf H locs a C hX hO hS hL)) (fun h => (kf h D cA b scr p l e R s m args below meth c Qf H locs a C hX hO hS hL))
theorem j_goto {off : Int} (tgt : Nat) (hd : decode μ.2.1 pc = .ok (.goto off, 3)) (ht : (pc : Int) + off = (tgt : Int)) (kk : aJ X μ d mc ms Q uc us tgt ls st M) : aJ X μ d mc ms Q uc us pc ls st M := by
  intro D cA b scr p l e R s m args below meth c Qf H locs a C hX hO hS hL
  exact lv_goto C.1 C.2.1 hd ht (kk D cA b scr p l e R s m args below meth c Qf H locs a C hX hO hS hL)
theorem j_ifnull {off : Int} {x : Nat} (hd : decode μ.2.1 pc = .ok (.ifnull off, 3)) (kk : aJ X μ d mc ms Q uc us (pc + 3) ls st M) : aJ X μ d mc ms Q uc us pc ls (.ref x :: st) M := by
  intro D cA b scr p l e R s m args below meth c Qf H locs a C hX hO hS hL
  exact lv_ifnull C.1 C.2.1 hd (kk D cA b scr p l e R s m args below meth c Qf H locs a C hX hO hS hL)
theorem j_ifnullN {off : Int} (tgt : Nat) (hd : decode μ.2.1 pc = .ok (.ifnull off, 3)) (ht : (pc : Int) + off = (tgt : Int)) (kk : aJ X μ d mc ms Q uc us tgt ls st M) : aJ X μ d mc ms Q uc us pc ls (.null :: st) M := by
  intro D cA b scr p l e R s m args below meth c Qf H locs a C hX hO hS hL
  exact lv_ifnullN C.1 C.2.1 hd ht (kk D cA b scr p l e R s m args below meth c Qf H locs a C hX hO hS hL)
theorem j_ifnonnull {off : Int} {x : Nat} (tgt : Nat) (hd : decode μ.2.1 pc = .ok (.ifnonnull off, 3)) (ht : (pc : Int) + off = (tgt : Int)) (kk : aJ X μ d mc ms Q uc us tgt ls st M) : aJ X μ d mc ms Q uc us pc ls (.ref x :: st) M := by
  intro D cA b scr p l e R s m args below meth c Qf H locs a C hX hO hS hL
  exact lv_ifnonnull C.1 C.2.1 hd ht (kk D cA b scr p l e R s m args below meth c Qf H locs a C hX hO hS hL)
theorem j_ifnonnullN {off : Int} (hd : decode μ.2.1 pc = .ok (.ifnonnull off, 3)) (kk : aJ X μ d mc ms Q uc us (pc + 3) ls st M) : aJ X μ d mc ms Q uc us pc ls (.null :: st) M := by
  intro D cA b scr p l e R s m args below meth c Qf H locs a C hX hO hS hL
  exact lv_ifnonnullN C.1 C.2.1 hd (kk D cA b scr p l e R s m args below meth c Qf H locs a C hX hO hS hL)
theorem j_ireturn {x : Int32} {ty : FieldType} (hd : decode μ.2.1 pc = .ok (.ireturn, 1)) (hr : μ.2.2.2 = some ty) (hn : narrow ty (.int x) = .int x) (hq : Q M (some (.int x))) (hc : uc ≤ mc) (hs : us ≤ ms) : aJ X μ d mc ms Q uc us pc ls [.int x] M := by
  intro D cA b scr p l e R s m args below meth c Qf H locs a C hX hO hS hL
  exact C.2.2.2.2.2.2.2.2.2.2.2.2 H locs uc us pc a M (some (.int x)) ⟨⟨ty, hr, hn⟩, hd⟩ hq hO hS hc hs
theorem j_areturn {x : Nat} {n : String} (hd : decode μ.2.1 pc = .ok (.areturn, 1)) (hr : μ.2.2.2 = some (.object n)) (hq : Q M (some (.ref x))) (hc : uc ≤ mc) (hs : us ≤ ms) : aJ X μ d mc ms Q uc us pc ls [.ref x] M := by
  intro D cA b scr p l e R s m args below meth c Qf H locs a C hX hO hS hL
  exact C.2.2.2.2.2.2.2.2.2.2.2.2 H locs uc us pc a M (some (.ref x)) ⟨⟨n, hr⟩, hd⟩ hq hO hS hc hs
theorem j_areturnN {n : String} (hd : decode μ.2.1 pc = .ok (.areturn, 1)) (hr : μ.2.2.2 = some (.object n)) (hq : Q M (some .null)) (hc : uc ≤ mc) (hs : us ≤ ms) : aJ X μ d mc ms Q uc us pc ls [.null] M := by
  intro D cA b scr p l e R s m args below meth c Qf H locs a C hX hO hS hL
  exact C.2.2.2.2.2.2.2.2.2.2.2.2 H locs uc us pc a M (some .null) ⟨⟨n, hr⟩, hd⟩ hq hO hS hc hs
theorem j_return (hd : decode μ.2.1 pc = .ok (.return_, 1)) (hr : μ.2.2.2 = none) (hq : Q M none) (hc : uc ≤ mc) (hs : us ≤ ms) : aJ X μ d mc ms Q uc us pc ls [] M := by
  intro D cA b scr p l e R s m args below meth c Qf H locs a C hX hO hS hL
  exact C.2.2.2.2.2.2.2.2.2.2.2.2 H locs uc us pc a M none ⟨hr, hd⟩ hq hO hS hc hs
theorem j_widen {uc1 us1 : Nat} (h1 : uc ≤ uc1) (h2 : us ≤ us1) (kk : aJ X μ d mc ms Q uc1 us1 pc ls st M) : aJ X μ d mc ms Q uc us pc ls st M := by
  intro D cA b scr p l e R s m args below meth c Qf H locs a C hX hO hS hL
  exact W.widen h1 h2 (kk D cA b scr p l e R s m args below meth c Qf H locs a C hX hO hS hL)
end JJ
end
section
theorem aAt.kept {D : va_G} {cA : Nat → ClassId} {b a : Nat} {M M' : aM} {H H' : Heap} (hk : mKd M' a = mKd M a) (hl : mLn M' a = mLn M a) (hI : ∀ j, mI M' a j = mI M a j) (hR : ∀ j, mR M' a j = mR M a j) (hH : H'[b + a]? = H[b + a]?) (h : aAt D cA b M H a) : aAt D cA b M' H' a := by
  unfold aAt at h ⊢
  rw [hk, hl, hH]
  split
  · rename_i h1
    rw [if_pos h1] at h
    obtain ⟨r, h2, h3⟩ := h
    exact ⟨r, h2, (h3.kept hH).to (fun k _ => by simp only [aF, hk, hI, hR])⟩
  · rename_i h1
    rw [if_neg h1] at h
    split
    · rename_i h2
      rw [if_pos h2] at h
      rw [h]
      simp only [hI]
    · rename_i h2
      rw [if_neg h2] at h
      rw [h]
      simp only [hR]
theorem aAt.obj {D : va_G} {cA : Nat → ClassId} {b a ci : Nat} {M : aM} {H : Heap} (hk : mKd M a = ci) (hc : ci < 100) (h : aAt D cA b M H a) : ∃ r : vw_C, aCl[ci]? = some r ∧ t_OB (b + a) (D.1 ci) r.2.2 (D.2 ci) H (aF b M a) := by
  unfold aAt at h
  rw [hk, if_pos hc] at h
  exact h
theorem aAt.ints {D : va_G} {cA : Nat → ClassId} {b a kd n : Nat} {M : aM} {H : Heap} (hk : mKd M a = kd) (hn : mLn M a = n) (h1 : 100 ≤ kd) (h2 : kd < 102) (h : aAt D cA b M H a) : H[b + a]? = some (arrV (cA kd) n (fun j => .int (mI M a j))) := by
  unfold aAt at h
  rw [hk, hn, if_neg (by omega), if_pos h2] at h
  exact h
theorem aAt.refs {D : va_G} {cA : Nat → ClassId} {b a kd n : Nat} {M : aM} {H : Heap} (hk : mKd M a = kd) (hn : mLn M a = n) (h2 : 102 ≤ kd) (h : aAt D cA b M H a) : H[b + a]? = some (arrV (cA kd) n (fun j => va_rf ((mR M a j).map (b + ·)))) := by
  unfold aAt at h
  rw [hk, hn, if_neg (by omega), if_neg (by omega)] at h
  exact h
/-- one cell has changed -/
theorem aOK.set {D : va_G} {cA : Nat → ClassId} {b o : Nat} {M M' : aM} {H H' : Heap} (h : aOK D cA b M H) (hz : mSz M' = mSz M) (hH : H'.size = H.size) (hq : ∀ q, q ≠ b + o → H'[q]? = H[q]?) (hsame : ∀ a, a ≠ o → mKd M' a = mKd M a ∧ mLn M' a = mLn M a ∧ (∀ j, mI M' a j = mI M a j) ∧ ∀ j, mR M' a j = mR M a j) (hat : aAt D cA b M' H' o) : aOK D cA b M' H' := by
  refine ⟨by rw [hH, hz]; exact h.1, fun a ha => ?_⟩
  by_cases e : a = o
  · subst e; exact hat
  · obtain ⟨g1, g2, g3, g4⟩ := hsame a e
    exact aAt.kept g1 g2 g3 g4 (hq _ (by omega)) (h.2 a (by rw [← hz]; exact ha))
/-- one cell is new -/
theorem aOK.new {D : va_G} {cA : Nat → ClassId} {b kd ln : Nat} {M : aM} {H H' : Heap} (h : aOK D cA b M H) (hH : H'.size = H.size + 1) (hq : ∀ q, q < H.size → H'[q]? = H[q]?) (hat : aAt D cA b (mN M kd ln) H' (mSz M)) : aOK D cA b (mN M kd ln) H' := by
  refine ⟨by rw [hH, mm_sz_mN, h.1]; omega, fun a ha => ?_⟩
  rw [mm_sz_mN] at ha
  by_cases e : a = mSz M
  · subst e; exact hat
  · have h1 := h.1
    exact aAt.kept (by rw [mm_kd_mN, if_neg e]) (by rw [mm_ln_mN, if_neg e]) (fun j => by rw [mm_I_mN, if_neg e]) (fun j => by rw [mm_R_mN, if_neg e]) (hq _ (by omega)) (h.2 a (by omega))
def aFl (own : String) (ix ci k : Nat) : Prop := ∃ (C : String) (T : u_T) (N : Nat) (ref : String), aCl[ci]? = some (C, T, N) ∧ k < N ∧ (∀ w ∈ u_ws C T N, w ∈ aWS) ∧ Cond.fieldLink own ix ref (T k).2.1 (T k).2.2.1 ∈ aWS ∧ (ref = (T k).1 ∨ Cond.sameField ref (T k).1 (T k).2.1 (T k).2.2.1 ∈ aWS)
def aPl (own : String) (ix ci k : Nat) (ty : FieldType) (fin : Bool) : Prop := ∃ (C : String) (T : u_T) (N : Nat) (ref : String) (ty0 : Nat → FieldType), aCl[ci]? = some (C, T, N) ∧ k < N ∧ (∀ w ∈ u_ws C T N, w ∈ aWS) ∧ Cond.fieldLink own ix ref (T k).2.1 (T k).2.2.1 ∈ aWS ∧ (ref = (T k).1 ∨ Cond.sameField ref (T k).1 (T k).2.1 (T k).2.2.1 ∈ aWS) ∧ (∀ j, j < N → parseFieldDescriptor (T j).2.2.1 = some (ty0 j)) ∧ (∀ a, a < N → ∀ b, b < N → a ≠ b → (T a).2.1 ≠ (T b).2.1) ∧ ty0 k = ty ∧ (T k).2.2.2 = fin ∧ (fin = true → (T k).1 = own)

section JM
variable {X : Nat → Nat → State → Prop} {μ : aMd} {d mc ms : Nat} {Q : aM → Option Value → Prop} {uc us pc : Nat} {ls : List (Option Value)} {st : List Value} {M : aM}
theorem j_geti {ix o k ci : Nat} (hd : decode μ.2.1 pc = .ok (.getfield ix, 3)) (ht : tO M o ci) (hf : aFl μ.1.cls ix ci k) (hr : aRf ci k = false) (hc : ci < 100) (kk : aJ X μ d mc ms Q uc us (pc + 3) ls (.int (mI M o k) :: st) M) : aJ X μ d mc ms Q uc us pc ls (.ref o :: st) M := by
  intro D cA b scr p l e R s m args below meth c Qf H locs a C hX hO hS hL
  obtain ⟨C1, T, N, ref, hc1, hk, hin, hlk, hsm⟩ := hf
  obtain ⟨r, hr1, cell, q1, q2, q3, q4⟩ := aAt.obj ht.2 hc (hO.2 o ht.1)
  have hre : r = (C1, T, N) := Option.some.inj (hr1.symm.trans hc1)
  subst hre
  have hts := C.2.2.2.2.1
  obtain ⟨hSl, hfc, kC, hkC, hkind⟩ := C.2.2.2.2.2.1.1.1 ci _ hc1
  obtain ⟨cf, kf, fi, f, hi, hsl⟩ := hSl k hk
  have hsame : s.fieldFound? ref (T k).2.1 (T k).2.2.1 = some (cf, kf, fi, f) := by
    rcases hsm with e9 | h9
    · rw [e9]; exact hi
    · exact u_same (hts _ h9) _ hi
  refine W.getf C.1 C.2.1 C.2.2.2.1 (hts _ hlk) hsame (u_facts hfc hkC (u_lays hts hin hk) hi).1 q1 (by rw [q3]; exact fun h => by cases h) (v := .int (mI M o k)) ?_ rfl rfl hd (kk D cA b scr p l e R s m args below meth c Qf H locs a C hX hO hS hL)
  rw [hsl, q4 k hk]
  simp [aF, ht.2, hr]
theorem j_getr {ix o k ci : Nat} (hd : decode μ.2.1 pc = .ok (.getfield ix, 3)) (ht : tO M o ci) (hf : aFl μ.1.cls ix ci k) (hr : aRf ci k = true) (hc : ci < 100) (kk : aJ X μ d mc ms Q uc us (pc + 3) ls (va_rf (mR M o k) :: st) M) : aJ X μ d mc ms Q uc us pc ls (.ref o :: st) M := by
  intro D cA b scr p l e R s m args below meth c Qf H locs a C hX hO hS hL
  obtain ⟨C1, T, N, ref, hc1, hk, hin, hlk, hsm⟩ := hf
  obtain ⟨r, hr1, cell, q1, q2, q3, q4⟩ := aAt.obj ht.2 hc (hO.2 o ht.1)
  have hre : r = (C1, T, N) := Option.some.inj (hr1.symm.trans hc1)
  subst hre
  have hts := C.2.2.2.2.1
  obtain ⟨hSl, hfc, kC, hkC, hkind⟩ := C.2.2.2.2.2.1.1.1 ci _ hc1
  obtain ⟨cf, kf, fi, f, hi, hsl⟩ := hSl k hk
  have hsame : s.fieldFound? ref (T k).2.1 (T k).2.2.1 = some (cf, kf, fi, f) := by
    rcases hsm with e9 | h9
    · rw [e9]; exact hi
    · exact u_same (hts _ h9) _ hi
  refine W.getf C.1 C.2.1 C.2.2.2.1 (hts _ hlk) hsame (u_facts hfc hkC (u_lays hts hin hk) hi).1 q1 (by rw [q3]; exact fun h => by cases h) (v := aV b scr (va_rf (mR M o k))) ?_ rfl rfl hd (kk D cA b scr p l e R s m args below meth c Qf H locs a C hX hO hS hL)
  rw [hsl, q4 k hk]
  rw [aV_rf]
  simp [aF, ht.2, hr]
theorem j_puti {ix o k ci : Nat} {x : Int32} {ty : FieldType} (hd : decode μ.2.1 pc = .ok (.putfield ix, 3)) (ht : tO M o ci) (hf : aPl μ.1.cls ix ci k ty false) (hr : aRf ci k = false) (hc : ci < 100) (hn : narrow ty (.int x) = .int x) (hfit : fits ty (.int x) = true) (kk : aJ X μ d mc ms Q uc us (pc + 3) ls st (sI M o k x)) : aJ X μ d mc ms Q uc us pc ls (.int x :: .ref o :: st) M := by
  intro D cA b scr p l e R s m args below meth c Qf H locs a C hX hO hS hL
  obtain ⟨C1, T, N, ref, ty0, hc1, hk, hin, hlk, hsm, hty, hnm, hty1, hfin, hdecl⟩ := hf
  obtain ⟨r, hr1, cell, q1, q2, q3, q4⟩ := aAt.obj ht.2 hc (hO.2 o ht.1)
  have hre : r = (C1, T, N) := Option.some.inj (hr1.symm.trans hc1)
  subst hre
  have hts := C.2.2.2.2.1
  have hap := va_apart (own := C1) hts hin ty0 hty hnm C.2.2.2.2.2.1.1 hc1
  obtain ⟨hSl, hfc, kC, hkC, hkind⟩ := C.2.2.2.2.2.1.1.1 ci _ hc1
  obtain ⟨cf, kf, fi, f, hi, hsl⟩ := hSl k hk
  have hsame : s.fieldFound? ref (T k).2.1 (T k).2.2.1 = some (cf, kf, fi, f) := by
    rcases hsm with e9 | h9
    · rw [e9]; exact hi
    · exact u_same (hts _ h9) _ hi
  have hlay := hts _ (hin _ (u_in_lay hk))
  unfold u_lay at hlay
  have hst := (u_facts hfc hkC (u_lays hts hin hk) hi).1
  have hpd : parseFieldDescriptor (T k).2.2.1 = some ty := by rw [hty k hk, hty1]
  rw [if_neg (by rw [hfin]; decide)] at hlay
  have h6 := u_store hfc hkC hkind hlay hi hpd (v := .int x) hn hfit
  refine W.putK C.1 C.2.1 (f := f) (v := .int x) ⟨C.2.2.2.1, hts _ hlk, ⟨_, _, _, hsame⟩, hst⟩ (by rw [q2]; exact h6) q1 q3 (by rw [hsl]; exact k2_hasslot (q4 k hk)) rfl rfl hd fun H' e1 e2 e3 => ?_
  rw [hsl] at e1 ⊢
  refine kk D cA b scr p l e R s m args below meth c Qf H' _ a C hX (hO.set (o := o) (mm_sz_sI M o k x) e2 e3 (fun a' h9 => ⟨rfl, rfl, fun j => by rw [mm_I_sI, if_neg (fun h8 => h9 h8.1)], fun j => rfl⟩) ?_) (hS.put e2 e3 (Nat.le_add_right b o)) hL
  unfold aAt
  rw [show mKd (sI M o k x) o = ci from ht.2, if_pos hc]
  refine ⟨_, hc1, t_OB.to (V := updV (aF b M o) k (.int x)) ⟨_, e1, q2, q3, t_set q4 hap hk _⟩ (fun j _ => ?_)⟩
  by_cases hj : j = k
  · subst hj
    simp [updV, aF, mm_kd_sI, ht.2, hr, mm_I_sI]
  · simp [updV, aF, mm_kd_sI, ht.2, hj, mm_I_sI, mm_R_sI]
theorem j_putiF {ix o k ci : Nat} {x : Int32} {ty : FieldType} (hd : decode μ.2.1 pc = .ok (.putfield ix, 3)) (ht : tO M o ci) (hf : aPl μ.1.cls ix ci k ty true) (hr : aRf ci k = false) (hc : ci < 100) (hn : narrow ty (.int x) = .int x) (hfit : fits ty (.int x) = true) (hin2 : μ.1.name = "<init>") (kk : aJ X μ d mc ms Q uc us (pc + 3) ls st (sI M o k x)) : aJ X μ d mc ms Q uc us pc ls (.int x :: .ref o :: st) M := by
  intro D cA b scr p l e R s m args below meth c Qf H locs a C hX hO hS hL
  obtain ⟨C1, T, N, ref, ty0, hc1, hk, hin, hlk, hsm, hty, hnm, hty1, hfin, hdecl⟩ := hf
  obtain ⟨r, hr1, cell, q1, q2, q3, q4⟩ := aAt.obj ht.2 hc (hO.2 o ht.1)
  have hre : r = (C1, T, N) := Option.some.inj (hr1.symm.trans hc1)
  subst hre
  have hts := C.2.2.2.2.1
  have hap := va_apart (own := C1) hts hin ty0 hty hnm C.2.2.2.2.2.1.1 hc1
  obtain ⟨hSl, hfc, kC, hkC, hkind⟩ := C.2.2.2.2.2.1.1.1 ci _ hc1
  obtain ⟨cf, kf, fi, f, hi, hsl⟩ := hSl k hk
  have hsame : s.fieldFound? ref (T k).2.1 (T k).2.2.1 = some (cf, kf, fi, f) := by
    rcases hsm with e9 | h9
    · rw [e9]; exact hi
    · exact u_same (hts _ h9) _ hi
  have hlay := hts _ (hin _ (u_in_lay hk))
  unfold u_lay at hlay
  have hst := (u_facts hfc hkC (u_lays hts hin hk) hi).1
  have hpd : parseFieldDescriptor (T k).2.2.1 = some ty := by rw [hty k hk, hty1]
  rw [if_pos hfin] at hlay
  have hcf : m.cls = cf := by
    obtain ⟨_, _, c', _, _, _, -, -, hf', -, -, -, hown2, -⟩ := Cond.laysFinal_spec hlay
    have e1 : c' = cf := by have := hi.symm.trans hf'; simp at this; exact this.1.symm
    rw [hdecl rfl] at hown2
    rw [← e1]; exact Option.some.inj (C.2.2.2.1.symm.trans hown2)
  have h6 := u_fits hfc hkC hkind (Or.inr hlay) hi hpd (v := .int x) hn hfit
  refine W.putFinK C.1 C.2.1 C.2.2.2.1 (hts _ hlk) hsame hst hcf (C.2.2.2.2.2.2.2.2.2.2.2.1.trans hin2) (v := .int x) (by rw [q2]; exact h6) q1 q3 (by rw [hsl]; exact k2_hasslot (q4 k hk)) rfl rfl hd fun H' e1 e2 e3 => ?_
  rw [hsl] at e1 ⊢
  refine kk D cA b scr p l e R s m args below meth c Qf H' _ a C hX (hO.set (o := o) (mm_sz_sI M o k x) e2 e3 (fun a' h9 => ⟨rfl, rfl, fun j => by rw [mm_I_sI, if_neg (fun h8 => h9 h8.1)], fun j => rfl⟩) ?_) (hS.put e2 e3 (Nat.le_add_right b o)) hL
  unfold aAt
  rw [show mKd (sI M o k x) o = ci from ht.2, if_pos hc]
  refine ⟨_, hc1, t_OB.to (V := updV (aF b M o) k (.int x)) ⟨_, e1, q2, q3, t_set q4 hap hk _⟩ (fun j _ => ?_)⟩
  by_cases hj : j = k
  · subst hj
    simp [updV, aF, mm_kd_sI, ht.2, hr, mm_I_sI]
  · simp [updV, aF, mm_kd_sI, ht.2, hj, mm_I_sI, mm_R_sI]
theorem j_putr {ix o k ci : Nat} {x : Option Nat} {ty : FieldType} (hd : decode μ.2.1 pc = .ok (.putfield ix, 3)) (ht : tO M o ci) (hf : aPl μ.1.cls ix ci k ty false) (hr : aRf ci k = true) (hc : ci < 100) (hn : ∀ z : Option Nat, narrow ty (va_rf z) = va_rf z) (hfit : ∀ z : Option Nat, fits ty (va_rf z) = true) (kk : aJ X μ d mc ms Q uc us (pc + 3) ls st (sR M o k x)) : aJ X μ d mc ms Q uc us pc ls (va_rf x :: .ref o :: st) M := by
  intro D cA b scr p l e R s m args below meth c Qf H locs a C hX hO hS hL
  obtain ⟨C1, T, N, ref, ty0, hc1, hk, hin, hlk, hsm, hty, hnm, hty1, hfin, hdecl⟩ := hf
  obtain ⟨r, hr1, cell, q1, q2, q3, q4⟩ := aAt.obj ht.2 hc (hO.2 o ht.1)
  have hre : r = (C1, T, N) := Option.some.inj (hr1.symm.trans hc1)
  subst hre
  have hts := C.2.2.2.2.1
  have hap := va_apart (own := C1) hts hin ty0 hty hnm C.2.2.2.2.2.1.1 hc1
  obtain ⟨hSl, hfc, kC, hkC, hkind⟩ := C.2.2.2.2.2.1.1.1 ci _ hc1
  obtain ⟨cf, kf, fi, f, hi, hsl⟩ := hSl k hk
  have hsame : s.fieldFound? ref (T k).2.1 (T k).2.2.1 = some (cf, kf, fi, f) := by
    rcases hsm with e9 | h9
    · rw [e9]; exact hi
    · exact u_same (hts _ h9) _ hi
  have hlay := hts _ (hin _ (u_in_lay hk))
  unfold u_lay at hlay
  have hst := (u_facts hfc hkC (u_lays hts hin hk) hi).1
  have hpd : parseFieldDescriptor (T k).2.2.1 = some ty := by rw [hty k hk, hty1]
  rw [if_neg (by rw [hfin]; decide)] at hlay
  have h6 := u_store hfc hkC hkind hlay hi hpd (v := aV b scr (va_rf x)) (by rw [aV_rf]; exact hn _) (by rw [aV_rf]; exact hfit _)
  refine W.putK C.1 C.2.1 (f := f) (v := aV b scr (va_rf x)) ⟨C.2.2.2.1, hts _ hlk, ⟨_, _, _, hsame⟩, hst⟩ (by rw [q2]; exact h6) q1 q3 (by rw [hsl]; exact k2_hasslot (q4 k hk)) rfl rfl hd fun H' e1 e2 e3 => ?_
  rw [hsl] at e1 ⊢
  refine kk D cA b scr p l e R s m args below meth c Qf H' _ a C hX (hO.set (o := o) (mm_sz_sR M o k x) e2 e3 (fun a' h9 => ⟨rfl, rfl, fun j => rfl, fun j => by rw [mm_R_sR, if_neg (fun h8 => h9 h8.1)]⟩) ?_) (hS.put e2 e3 (Nat.le_add_right b o)) hL
  unfold aAt
  rw [show mKd (sR M o k x) o = ci from ht.2, if_pos hc]
  refine ⟨_, hc1, t_OB.to (V := updV (aF b M o) k (aV b scr (va_rf x))) ⟨_, e1, q2, q3, t_set q4 hap hk _⟩ (fun j _ => ?_)⟩
  by_cases hj : j = k
  · subst hj
    simp [updV, aF, mm_kd_sR, ht.2, hr, mm_R_sR, aV_rf]
  · simp [updV, aF, mm_kd_sR, ht.2, hj, mm_R_sR, mm_I_sR]
theorem j_putrF {ix o k ci : Nat} {x : Option Nat} {ty : FieldType} (hd : decode μ.2.1 pc = .ok (.putfield ix, 3)) (ht : tO M o ci) (hf : aPl μ.1.cls ix ci k ty true) (hr : aRf ci k = true) (hc : ci < 100) (hn : ∀ z : Option Nat, narrow ty (va_rf z) = va_rf z) (hfit : ∀ z : Option Nat, fits ty (va_rf z) = true) (hin2 : μ.1.name = "<init>") (kk : aJ X μ d mc ms Q uc us (pc + 3) ls st (sR M o k x)) : aJ X μ d mc ms Q uc us pc ls (va_rf x :: .ref o :: st) M := by
  intro D cA b scr p l e R s m args below meth c Qf H locs a C hX hO hS hL
  obtain ⟨C1, T, N, ref, ty0, hc1, hk, hin, hlk, hsm, hty, hnm, hty1, hfin, hdecl⟩ := hf
  obtain ⟨r, hr1, cell, q1, q2, q3, q4⟩ := aAt.obj ht.2 hc (hO.2 o ht.1)
  have hre : r = (C1, T, N) := Option.some.inj (hr1.symm.trans hc1)
  subst hre
  have hts := C.2.2.2.2.1
  have hap := va_apart (own := C1) hts hin ty0 hty hnm C.2.2.2.2.2.1.1 hc1
  obtain ⟨hSl, hfc, kC, hkC, hkind⟩ := C.2.2.2.2.2.1.1.1 ci _ hc1
  obtain ⟨cf, kf, fi, f, hi, hsl⟩ := hSl k hk
  have hsame : s.fieldFound? ref (T k).2.1 (T k).2.2.1 = some (cf, kf, fi, f) := by
    rcases hsm with e9 | h9
    · rw [e9]; exact hi
    · exact u_same (hts _ h9) _ hi
  have hlay := hts _ (hin _ (u_in_lay hk))
  unfold u_lay at hlay
  have hst := (u_facts hfc hkC (u_lays hts hin hk) hi).1
  have hpd : parseFieldDescriptor (T k).2.2.1 = some ty := by rw [hty k hk, hty1]
  rw [if_pos hfin] at hlay
  have hcf : m.cls = cf := by
    obtain ⟨_, _, c', _, _, _, -, -, hf', -, -, -, hown2, -⟩ := Cond.laysFinal_spec hlay
    have e1 : c' = cf := by have := hi.symm.trans hf'; simp at this; exact this.1.symm
    rw [hdecl rfl] at hown2
    rw [← e1]; exact Option.some.inj (C.2.2.2.1.symm.trans hown2)
  have h6 := u_fits hfc hkC hkind (Or.inr hlay) hi hpd (v := aV b scr (va_rf x)) (by rw [aV_rf]; exact hn _) (by rw [aV_rf]; exact hfit _)
  refine W.putFinK C.1 C.2.1 C.2.2.2.1 (hts _ hlk) hsame hst hcf (C.2.2.2.2.2.2.2.2.2.2.2.1.trans hin2) (v := aV b scr (va_rf x)) (by rw [q2]; exact h6) q1 q3 (by rw [hsl]; exact k2_hasslot (q4 k hk)) rfl rfl hd fun H' e1 e2 e3 => ?_
  rw [hsl] at e1 ⊢
  refine kk D cA b scr p l e R s m args below meth c Qf H' _ a C hX (hO.set (o := o) (mm_sz_sR M o k x) e2 e3 (fun a' h9 => ⟨rfl, rfl, fun j => rfl, fun j => by rw [mm_R_sR, if_neg (fun h8 => h9 h8.1)]⟩) ?_) (hS.put e2 e3 (Nat.le_add_right b o)) hL
  unfold aAt
  rw [show mKd (sR M o k x) o = ci from ht.2, if_pos hc]
  refine ⟨_, hc1, t_OB.to (V := updV (aF b M o) k (aV b scr (va_rf x))) ⟨_, e1, q2, q3, t_set q4 hap hk _⟩ (fun j _ => ?_)⟩
  by_cases hj : j = k
  · subst hj
    simp [updV, aF, mm_kd_sR, ht.2, hr, mm_R_sR, aV_rf]
  · simp [updV, aF, mm_kd_sR, ht.2, hj, mm_R_sR, mm_I_sR]
/-- a place in a row -/
def aIx (i : Int32) (n j : Nat) : Prop := vp_in i n ∧ i.toNatClampNeg = j
theorem aIx.lt {i : Int32} {n j : Nat} (h : aIx i n j) : j < n := by
  obtain ⟨h1, h2⟩ := h
  rw [← h2]
  exact Nat.not_le.mp fun q => h1 (Or.inr q)
theorem aIx.n {n j : Nat} (h : j < n) (hn : n < 2 ^ 31) : aIx (nI j) n j := ⟨vp_in_nI h hn, nI_clamp (by omega)⟩
theorem aIx.of {i : Int32} {n j : Nat} (e : i = nI j) (h : j < n) (hn : n < 2 ^ 31) : aIx i n j := by subst e; exact aIx.n h hn
/-- the array class of this kind is one of the tables' -/
def aTs (kd : Nat) : Prop := ∀ cA : Nat → ClassId, ∃ (t0 : Nat) (E : String), (aT cA)[t0]? = some (cA kd, .object E)
theorem j_iald {i : Int32} {o n j : Nat} (hd : decode μ.2.1 pc = .ok (.iaload, 1)) (ht : tA M o 100 n) (hj : aIx i n j) (kk : aJ X μ d mc ms Q uc us (pc + 1) ls (.int (mI M o j) :: st) M) : aJ X μ d mc ms Q uc us pc ls (.int i :: .ref o :: st) M := by
  intro D cA b scr p l e R s m args below meth c Qf H locs a C hX hO hS hL
  have hat := aAt.ints ht.2.1 ht.2.2 (by omega) (by omega) (hO.2 o ht.1)
  refine W.iald (v := .int (mI M o j)) C.1 C.2.1 hat ((C.2.2.2.2.2.1.1.2 0 _ rfl).1 n (fun j => .int (mI M o j))) (fun q => by cases q) (by show ¬ (i < 0 ∨ (arrV _ _ _).slots.size ≤ _); rw [arrV_size]; exact hj.1) (by show (arrV _ _ _).slots[_]? = _; rw [hj.2, arrV_read _ _ hj.lt]) rfl rfl hd (kk D cA b scr p l e R s m args below meth c Qf H locs a C hX hO hS hL)
theorem j_zald {i : Int32} {o n j : Nat} (hd : decode μ.2.1 pc = .ok (.baload, 1)) (ht : tA M o 101 n) (hj : aIx i n j) (kk : aJ X μ d mc ms Q uc us (pc + 1) ls (.int (mI M o j) :: st) M) : aJ X μ d mc ms Q uc us pc ls (.int i :: .ref o :: st) M := by
  intro D cA b scr p l e R s m args below meth c Qf H locs a C hX hO hS hL
  have hat := aAt.ints ht.2.1 ht.2.2 (by omega) (by omega) (hO.2 o ht.1)
  refine W.zald (v := .int (mI M o j)) C.1 C.2.1 hat ((C.2.2.2.2.2.1.1.2 1 _ rfl).1 n (fun j => .int (mI M o j))) (fun q => by cases q) (by show ¬ (i < 0 ∨ (arrV _ _ _).slots.size ≤ _); rw [arrV_size]; exact hj.1) (by show (arrV _ _ _).slots[_]? = _; rw [hj.2, arrV_read _ _ hj.lt]) rfl rfl hd (kk D cA b scr p l e R s m args below meth c Qf H locs a C hX hO hS hL)
theorem j_aald {i : Int32} {o n j kd : Nat} (hd : decode μ.2.1 pc = .ok (.aaload, 1)) (ht : tA M o kd n) (h2 : 102 ≤ kd) (hty : aTs kd) (hj : aIx i n j) (kk : aJ X μ d mc ms Q uc us (pc + 1) ls (va_rf (mR M o j) :: st) M) : aJ X μ d mc ms Q uc us pc ls (.int i :: .ref o :: st) M := by
  intro D cA b scr p l e R s m args below meth c Qf H locs a C hX hO hS hL
  have hat := aAt.refs ht.2.1 ht.2.2 h2 (hO.2 o ht.1)
  obtain ⟨t0, E, ht0⟩ := hty cA
  refine W.aald (v := aV b scr (va_rf (mR M o j))) (ty := .object E) C.1 C.2.1 hat ((C.2.2.2.2.2.1.1.2 t0 _ ht0).1 n (fun j => va_rf ((mR M o j).map (b + ·)))) rfl (fun q => by cases q) (by show ¬ (i < 0 ∨ (arrV _ _ _).slots.size ≤ _); rw [arrV_size]; exact hj.1) (by show (arrV _ _ _).slots[_]? = _; rw [hj.2, arrV_read _ _ hj.lt, aV_rf]) rfl rfl hd (kk D cA b scr p l e R s m args below meth c Qf H locs a C hX hO hS hL)
theorem j_alen {o kd n : Nat} {v : Int32} (hd : decode μ.2.1 pc = .ok (.arraylength, 1)) (ht : tA M o kd n) (hk : 100 ≤ kd) (hty : kd = 100 ∨ kd = 101 ∨ (102 ≤ kd ∧ aTs kd)) (hv : Int32.ofNat n = v) (kk : aJ X μ d mc ms Q uc us (pc + 1) ls (.int v :: st) M) : aJ X μ d mc ms Q uc us pc ls (.ref o :: st) M := by
  intro D cA b scr p l e R s m args below meth c Qf H locs a C hX hO hS hL
  rcases hty with h9 | h9 | ⟨h9, hty⟩
  · subst h9
    have hat := aAt.ints ht.2.1 ht.2.2 (by omega) (by omega) (hO.2 o ht.1)
    exact W.alen (n := v) C.1 C.2.1 hat ((C.2.2.2.2.2.1.1.2 0 _ rfl).1 n (fun j => .int (mI M o j))) (by rw [arrV_size]; exact hv) rfl rfl hd (kk D cA b scr p l e R s m args below meth c Qf H locs a C hX hO hS hL)
  · subst h9
    have hat := aAt.ints ht.2.1 ht.2.2 (by omega) (by omega) (hO.2 o ht.1)
    exact W.alen (n := v) C.1 C.2.1 hat ((C.2.2.2.2.2.1.1.2 1 _ rfl).1 n (fun j => .int (mI M o j))) (by rw [arrV_size]; exact hv) rfl rfl hd (kk D cA b scr p l e R s m args below meth c Qf H locs a C hX hO hS hL)
  · have hat := aAt.refs ht.2.1 ht.2.2 h9 (hO.2 o ht.1)
    obtain ⟨t0, E, ht0⟩ := hty cA
    exact W.alen (n := v) C.1 C.2.1 hat ((C.2.2.2.2.2.1.1.2 t0 _ ht0).1 n (fun j => va_rf ((mR M o j).map (b + ·)))) (by rw [arrV_size]; exact hv) rfl rfl hd (kk D cA b scr p l e R s m args below meth c Qf H locs a C hX hO hS hL)
theorem j_iast {i x : Int32} {o n j : Nat} (hd : decode μ.2.1 pc = .ok (.iastore, 1)) (ht : tA M o 100 n) (hj : aIx i n j) (kk : aJ X μ d mc ms Q uc us (pc + 1) ls st (sI M o j x)) : aJ X μ d mc ms Q uc us pc ls (.int x :: .int i :: .ref o :: st) M := by
  intro D cA b scr p l e R s m args below meth c Qf H locs a C hX hO hS hL
  have hat := aAt.ints ht.2.1 ht.2.2 (by omega) (by omega) (hO.2 o ht.1)
  refine W.iast C.1 C.2.1 hat ((C.2.2.2.2.2.1.1.2 0 _ rfl).1 n (fun j => .int (mI M o j))) (fun q => by cases q) (by show ¬ (i < 0 ∨ (arrV _ _ _).slots.size ≤ _); rw [arrV_size]; exact hj.1) rfl rfl hd fun H' e1 e2 e3 => ?_
  refine kk D cA b scr p l e R s m args below meth c Qf H' _ a C hX (hO.set (o := o) (mm_sz_sI M o j x) e2 e3 (fun a' h9 => ⟨rfl, rfl, fun j => by rw [mm_I_sI, if_neg (fun h8 => h9 h8.1)], fun j => rfl⟩) ?_) (hS.put e2 e3 (Nat.le_add_right b o)) hL
  unfold aAt
  rw [show mKd (sI M o j x) o = 100 from ht.2.1, show mLn (sI M o j x) o = n from ht.2.2, if_neg (by omega), if_pos (by omega), e1, arrV_store, hj.2]
  congr 2
  funext q
  by_cases hq : q = j
  · subst hq; simp [updV, mm_I_sI]
  · simp [updV, mm_I_sI, hq]
theorem j_zast {i x : Int32} {o n j : Nat} (hd : decode μ.2.1 pc = .ok (.bastore, 1)) (ht : tA M o 101 n) (hj : aIx i n j) (hx : narrow .boolean (.int x) = .int x) (kk : aJ X μ d mc ms Q uc us (pc + 1) ls st (sI M o j x)) : aJ X μ d mc ms Q uc us pc ls (.int x :: .int i :: .ref o :: st) M := by
  intro D cA b scr p l e R s m args below meth c Qf H locs a C hX hO hS hL
  have hat := aAt.ints ht.2.1 ht.2.2 (by omega) (by omega) (hO.2 o ht.1)
  refine W.zast C.1 C.2.1 hat ((C.2.2.2.2.2.1.1.2 1 _ rfl).1 n (fun j => .int (mI M o j))) (fun q => by cases q) (by show ¬ (i < 0 ∨ (arrV _ _ _).slots.size ≤ _); rw [arrV_size]; exact hj.1) rfl rfl hd fun H' e1 e2 e3 => ?_
  refine kk D cA b scr p l e R s m args below meth c Qf H' _ a C hX (hO.set (o := o) (mm_sz_sI M o j x) e2 e3 (fun a' h9 => ⟨rfl, rfl, fun j => by rw [mm_I_sI, if_neg (fun h8 => h9 h8.1)], fun j => rfl⟩) ?_) (hS.put e2 e3 (Nat.le_add_right b o)) hL
  unfold aAt
  rw [show mKd (sI M o j x) o = 101 from ht.2.1, show mLn (sI M o j x) o = n from ht.2.2, if_neg (by omega), if_pos (by omega), e1, arrV_store, hx, hj.2]
  congr 2
  funext q
  by_cases hq : q = j
  · subst hq; simp [updV, mm_I_sI]
  · simp [updV, mm_I_sI, hq]
/-- an object of class ci may lie in a row of kind kd -/
def aCa (ci kd : Nat) : Prop := ∃ (r : vw_C) (E : String), aCl[ci]? = some r ∧ (∀ cA : Nat → ClassId, ∃ t0 : Nat, (aT cA)[t0]? = some (cA kd, FieldType.object E)) ∧ (r.1 = E ∨ Cond.castable r.1 E ∈ aNW)
theorem j_aast {i : Int32} {o n j kd x ci : Nat} (hd : decode μ.2.1 pc = .ok (.aastore, 1)) (ht : tA M o kd n) (h2 : 102 ≤ kd) (hj : aIx i n j) (hx : tO M x ci) (hc : ci < 100) (hca : aCa ci kd) (kk : aJ X μ d mc ms Q uc us (pc + 1) ls st (sR M o j (some x))) : aJ X μ d mc ms Q uc us pc ls (.ref x :: .int i :: .ref o :: st) M := by
  intro D cA b scr p l e R s m args below meth c Qf H locs a C hX hO hS hL
  have hat := aAt.refs ht.2.1 ht.2.2 h2 (hO.2 o ht.1)
  obtain ⟨r, E, hr1, hE, hcs⟩ := hca
  obtain ⟨t0, ht0⟩ := hE cA
  obtain ⟨r', hr', cellV, g1, g2, g3, -⟩ := aAt.obj hx.2 hc (hO.2 x hx.1)
  have hcls := (C.2.2.2.2.2.1.1.1 ci r hr1).2
  obtain ⟨kA, comp, k1, k2, k3, -⟩ := (C.2.2.2.2.2.1.1.2 t0 _ ht0).2
  obtain ⟨kE, hkE, -⟩ := Vm.findClass_spec k3
  have f3 : s.vm.assignable (D.1 ci) comp = true := by
    rcases hcs with e9 | h9
    · rw [← e9] at k3
      cases hcls.1.symm.trans k3
      exact va_assign hcls
    · obtain ⟨c0, t1, f1, f2, f3⟩ := Cond.castable_spec (va_Nw.use (A := args) rfl (C.2.2.2.2.2.1.2 _ h9))
      cases hcls.1.symm.trans f1
      cases k3.symm.trans f2
      exact f3
  obtain ⟨kC, hkC, -⟩ := hcls.2
  refine W.aast C.1 C.2.1 hat (fun q h => by cases h) (fun h => by cases h) k1 k2 rfl hkE ⟨fun q => hj.1 (Or.inl q), by show _ < (arrV _ _ _).slots.size; rw [arrV_size, hj.2]; exact hj.lt⟩ g1 (fun q h => by rw [g3] at h; cases h) (by rw [g2]; exact hkC) (by rw [g2]; exact f3) rfl rfl hd fun H' e1 e2 e3 => ?_
  refine kk D cA b scr p l e R s m args below meth c Qf H' _ a C hX (hO.set (o := o) (mm_sz_sR M o j (some x)) e2 e3 (fun a' h9 => ⟨rfl, rfl, fun j => rfl, fun j => by rw [mm_R_sR, if_neg (fun h8 => h9 h8.1)]⟩) ?_) (hS.put e2 e3 (Nat.le_add_right b o)) hL
  unfold aAt
  rw [show mKd (sR M o j (some x)) o = kd from ht.2.1, show mLn (sR M o j (some x)) o = n from ht.2.2, if_neg (by omega), if_neg (by omega), e1, arrV_store, hj.2]
  congr 2
  funext q
  by_cases hq : q = j
  · subst hq; simp [updV, mm_R_sR, va_rf]
  · simp [updV, mm_R_sR, hq]
/-- a class that can be made -/
def aNl (own : String) (ix ci N : Nat) : Prop := ∃ (C : String) (T : u_T) (ty : Nat → FieldType), aCl[ci]? = some (C, T, N) ∧ (∀ w ∈ u_ws C T N, w ∈ aWS) ∧ (∀ k, k < N → parseFieldDescriptor (T k).2.2.1 = some (ty k)) ∧ Cond.classLink own ix C ∈ aWS ∧ Cond.instantiable C N ∈ aWS ∧ Cond.initialized C ∈ aWS ∧ ∀ k, k < N → defaultValue (ty k) = if aRf ci k = true then .null else .int 0
theorem aS.new {A : Nat → Prop} {H0 H H1 : Heap} {locs : List Loc} (hS : va_S A H0 H locs) (hz : H1.size = H.size + 1) (hq : ∀ q, q < H.size → H1[q]? = H[q]?) : va_S A H0 H1 locs :=
  ⟨Nat.le_trans hS.1 (by omega), fun x h1 h2 => (hq x (Nat.lt_of_lt_of_le h1 hS.1)).trans (hS.2.1 x h1 h2), hS.2.2⟩
theorem j_new {ix ci N : Nat} (hd : decode μ.2.1 pc = .ok (.new ix, 3)) (hf : aNl μ.1.cls ix ci N) (hc : ci < 100) (hu : uc + 1 ≤ mc) (hv : us + N ≤ ms) (kk : aJ X μ d mc ms Q (uc + 1) (us + N) (pc + 3) ls (.ref (mSz M) :: st) (mN M ci 0)) : aJ X μ d mc ms Q uc us pc ls st M := by
  intro D cA b scr p l e R s m args below meth c Qf H locs a C hX hO hS hL
  obtain ⟨C1, T, ty, hc1, hin, hty, w1, w2, w3, hdf⟩ := hf
  have hts := C.2.2.2.2.1
  have hKn := C.2.2.2.2.2.1.1.1 ci _ hc1
  have hR1 := C.2.2.2.2.2.2.2.2.1
  have hR2 := C.2.2.2.2.2.2.2.2.2.1
  refine W.newcK C.1 C.2.1 C.2.2.2.1 (hts _ w1) (hts _ w2) (hts _ w3) rfl hd (by omega) (by omega) hKn.2.1 hO.1 fun H1 kC hkC e1 z1 o1 => ?_
  have hz : H1.size = H.size + 1 := by rw [z1, hO.1]
  have hq : ∀ q, q < H.size → H1[q]? = H[q]? := fun q h => o1 q (by rw [← hO.1]; exact h)
  refine kk D cA b scr p l e R s m args below meth c Qf H1 locs a C hX (hO.new hz hq ?_) (aS.new hS hz hq) hL
  unfold aAt
  rw [show mKd (mN M ci 0) (mSz M) = ci from (tO.new M ci 0).2, if_pos hc]
  refine ⟨_, hc1, (u_born ty hts hin hKn hkC e1 hty).to (fun k hk => ?_)⟩
  show defaultValue (ty k) = _
  rw [hdf k hk]
  simp only [aF, (tO.new M ci 0).2, mm_R_mN, mm_I_mN, if_true, Option.map_none, va_rf]
theorem j_newa {at_ : ArrayType} {n : Int32} {N kd tix : Nat} (hd : decode μ.2.1 pc = .ok (.newarray at_, 2)) (h1 : 100 ≤ kd) (h2 : kd < 102) (htx : ∀ cA : Nat → ClassId, (aT cA)[tix]? = some (cA kd, newarray.typeOf at_)) (hdv : defaultValue (newarray.typeOf at_) = .int 0) (hra : ∀ (U : State) (c : ClassId), va_RA U c (newarray.typeOf at_) → U.vm.findClass ("[" ++ (newarray.typeOf at_).toString) = some c) (hw : Cond.arrayClass (newarray.typeOf at_) ∈ aWS) (hn : n = nI N) (hN : N ≤ 100000) (hcb : componentBytes (newarray.typeOf at_) ≤ 8) (hu : uc + 1 ≤ mc) (hv : us + N ≤ ms) (kk : aJ X μ d mc ms Q (uc + 1) (us + N) (pc + 2) ls (.ref (mSz M) :: st) (mN M kd N)) : aJ X μ d mc ms Q uc us pc ls (.int n :: st) M := by
  intro D cA b scr p l e R s m args below meth c Qf H locs a C hX hO hS hL
  have hts := C.2.2.2.2.1
  have hR1 := C.2.2.2.2.2.2.2.2.1
  have hR2 := C.2.2.2.2.2.2.2.2.2.1
  subst hn
  refine va_newaK C.1 C.2.1 (hts _ hw) rfl hd rfl (nI_pos (by omega)) (nI_clamp (by omega)) (by have := Nat.mul_le_mul hN hcb; omega) (by omega) (by omega) hO.1 fun H1 cA' e1 z1 o1 hAr hNm => ?_
  have hcA : cA' = cA kd := Option.some.inj (hNm.symm.trans (hra _ _ (C.2.2.2.2.2.1.1.2 tix _ (htx cA)).2))
  subst hcA
  have hz : H1.size = H.size + 1 := by rw [z1, hO.1]
  have hq : ∀ q, q < H.size → H1[q]? = H[q]? := fun q h => o1 q (by rw [← hO.1]; exact h)
  refine kk D cA b scr p l e R s m args below meth c Qf H1 locs a C hX (hO.new hz hq ?_) (aS.new hS hz hq) hL
  unfold aAt
  rw [show mKd (mN M kd N) (mSz M) = kd from (tA.new M kd N).2.1, show mLn (mN M kd N) (mSz M) = N from (tA.new M kd N).2.2, if_neg (by omega), if_pos h2, e1, hdv]
  simp only [mm_I_mN, if_true]
theorem j_anew {ix : Nat} {n : Int32} {N kd tix : Nat} {E : String} (hd : decode μ.2.1 pc = .ok (.anewarray ix, 3)) (h2 : 102 ≤ kd) (htx : ∀ cA : Nat → ClassId, (aT cA)[tix]? = some (cA kd, .object E)) (hw : Cond.classLink μ.1.cls ix E ∈ aWS) (hw2 : Cond.arrayOver (.object E) ∈ aNW) (hn : n = nI N) (hN : N ≤ 100000) (hu : uc + 1 ≤ mc) (hv : us + N ≤ ms) (kk : aJ X μ d mc ms Q (uc + 1) (us + N) (pc + 3) ls (.ref (mSz M) :: st) (mN M kd N)) : aJ X μ d mc ms Q uc us pc ls (.int n :: st) M := by
  intro D cA b scr p l e R s m args below meth c Qf H locs a C hX hO hS hL
  have hts := C.2.2.2.2.1
  have hR1 := C.2.2.2.2.2.2.2.2.1
  have hR2 := C.2.2.2.2.2.2.2.2.2.1
  subst hn
  have hcl : (nI N).toNatClampNeg = N := nI_clamp (by omega)
  refine W.anew C.1 C.2.1 C.2.2.2.1 (hts _ hw) (C.2.2.2.2.2.1.2 _ hw2) rfl hd rfl (nI_pos (by omega)) (by rw [hcl]; omega) (by omega) (by rw [hcl]; omega) fun cA' kA comp f1 f2 f3 f4 => ?_
  obtain ⟨_, _, _, _, _, hNm⟩ := (C.2.2.2.2.2.1.1.2 tix _ (htx cA)).2
  have hcA : cA' = cA kd := Option.some.inj (f1.symm.trans hNm)
  subst hcA
  generalize hH1 : H.push ({ cls := cA kd, slots := Array.replicate (nI N).toNatClampNeg .null, vm := .none } : Cell) = H1
  have hz : H1.size = H.size + 1 := by rw [← hH1, Array.size_push]
  have e1 : H1[H.size]? = some (arrV (cA kd) (nI N).toNatClampNeg (fun _ => .null)) := by rw [← hH1, Array.getElem?_push_size, ← arrV_new]
  have hq : ∀ q : Nat, q < H.size → H1[q]? = H[q]? := fun q hq => by rw [← hH1, Array.getElem?_push, if_neg (Nat.ne_of_lt hq)]
  rw [hcl] at e1 ⊢
  rw [hO.1] at e1 ⊢
  refine kk D cA b scr p l e R s m args below meth c Qf H1 locs a C hX (hO.new hz hq ?_) (aS.new hS hz hq) hL
  unfold aAt
  rw [show mKd (mN M kd N) (mSz M) = kd from (tA.new M kd N).2.1, show mLn (mN M kd N) (mSz M) = N from (tA.new M kd N).2.2, if_neg (by omega), if_neg (by omega), e1]
  simp only [mm_R_mN, if_true, Option.map_none, va_rf]
end JM
end
section
theorem aG.warm {D : va_G} {cA : Nat → ClassId} {s U : State} (hW : s.WarmedH U.vm) (h : aG D cA s) : aG D cA U := ⟨va_K.moved hW.alike h.1, fun w hw => aNW_warm hW w hw (h.2 w hw)⟩
theorem aG.same {D : va_G} {cA : Nat → ClassId} {s U : State} (hv : s.vm = U.vm) (h : aG D cA s) : aG D cA U := ⟨va_K.moved (by rw [hv]; exact Vm.Alike.refl _) h.1, fun w hw => aNW_same hv w hw (h.2 w hw)⟩
theorem aPc.blind (D : va_G) (cA : Nat → ClassId) (b scr : Nat) (M : aM) (vs : List Value) : FrameBlind (aPc D cA b scr M vs) := by
  intro a U g mk h
  obtain ⟨h1, h2, h3⟩ := h
  exact ⟨h1, h2, aG.same (s := U) (U := U.calling g mk a) rfl h3⟩
theorem aGood (μ : aMd) (hc : Cond.code μ.1 μ.2.1 μ.2.2.1 μ.2.2.2 ∈ aWS) : GoodIn aWS (aws μ) := by
  intro w hw
  rcases List.mem_cons.mp hw with h | h
  · subst h; exact ⟨hc, aWS_good _ hc⟩
  · exact ⟨h, aWS_good _ h⟩
theorem aSum (b scr : Nat) : ∀ st : List Value, ((st.map (aV b scr)).map fun v => v.category).sum = st.length
  | [] => rfl
  | v :: st => by
    simp only [List.map_cons, List.sum_cons, List.length_cons, aV_cat]
    have := aSum b scr st
    omega
/-- a method out of its walk -/
theorem aK.of {μ : aMd} {d mc ms : Nat} {M : aM} {vs : List Value} {Q : aM → Option Value → Prop} (hy : plainName μ.1.cls = true) (hn : vs.length ≤ μ.2.2.1) (h : aJ aX0 μ d mc ms Q 0 0 0 (vs.map some ++ List.replicate (μ.2.2.1 - vs.length) none) [] M) : aK μ d mc ms M vs Q := by
  intro l D cA b scr
  refine Met.ofW (cc := μ.2.1) (maxL := μ.2.2.1) (ret := μ.2.2.2) hy rfl ?_
  intro p e s m args below meth c s₁ B hml hv
  obtain ⟨rfl, hO, hG⟩ := hv
  obtain ⟨a, ha, hL⟩ := aL.entry (b := b) (scr := scr) (nL := μ.2.2.1) (vs := vs) hn
  rw [ha]
  have hts := atoms_spec (ws := aws μ) B.pre
  have hlocks := B.notSynchronized
  have hL' : aL b scr μ.2.2.1 (vs.map some ++ List.replicate (μ.2.2.1 - vs.length) none) a := by
    refine ⟨hL.1, fun i v hi => ?_⟩
    by_cases h9 : i < (vs.map some).length
    · rw [List.getElem?_append_left h9] at hi
      exact hL.2 i v hi
    · rw [List.getElem?_append_right (by omega)] at hi
      have := List.mem_of_getElem? hi
      rw [List.mem_replicate] at this
      cases this.2
  refine h D cA b scr p l e _ s m _ below meth c _ s.heap [] a ⟨B.exec, B.bytes, hml, findClass_of_methodNamed B.named, fun w hw => hts w (List.mem_cons_of_mem _ hw), hG, Nat.le_refl _, Nat.le_refl _, Nat.le_refl _, Nat.le_refl _, by have := hO.1; omega, (name_of_methodNamed B.named B.method).1, ?_⟩ trivial hO va_S.rf hL'
  intro H locs uc us pc ls M' r hr hq hO' hS' hu hv'
  refine W.widen hu hv' ?_
  have hend : ∀ (v : Option Value), v = r.map (aV b scr) → ∀ t : State, t.heap = H → s.WarmedH t.vm → aQ D cA b scr Q (vs.map (aV b scr)).toArray s (.returned v) t := by
    intro v hv9 t ht hW
    subst hv9
    exact ⟨⟨M', r, rfl, hq, by rw [ht]; exact hO', aG.warm hW hG⟩, hS'.F ht⟩
  cases r with
  | none => exact W.vret B.exec B.bytes (B.returns.trans hr.1) (hend none rfl) hS'.2.2 hr.2
  | some v =>
    cases v with
    | int x =>
      obtain ⟨⟨ty, h1, h2⟩, h3⟩ := hr
      exact W.zret B.exec B.bytes (B.returns.trans h1) h2 (hend _ rfl) hS'.2.2 h3
    | ref x =>
      obtain ⟨⟨n, h1⟩, h3⟩ := hr
      exact W.aret B.exec B.bytes (B.returns.trans h1) (Or.inl ⟨n, rfl⟩) (Or.inr ⟨_, rfl⟩) (hend _ rfl) hS'.2.2 h3
    | null =>
      obtain ⟨⟨n, h1⟩, h3⟩ := hr
      exact W.aret B.exec B.bytes (B.returns.trans h1) (Or.inl ⟨n, rfl⟩) (Or.inl rfl) (hend _ rfl) hS'.2.2 h3
    | _ => exact hr.elim
theorem aK.weaken {μ : aMd} {d mc ms : Nat} {M : aM} {vs : List Value} {Q Q' : aM → Option Value → Prop} (h : aK μ d mc ms M vs Q) (hq : ∀ M' r, Q M' r → Q' M' r) : aK μ d mc ms M vs Q' := by
  intro l D cA b scr
  refine MetFree.mono (h l D cA b scr) (fun _ _ h => h) (fun _ _ _ _ _ h => h) ?_
  rintro a st oc t - ⟨⟨⟨M', r, h1, h2, h3⟩, h4⟩, h5⟩
  exact ⟨⟨⟨M', r, h1, hq _ _ h2, h3⟩, h4⟩, h5⟩
section JC

variable {X : Nat → Nat → State → Prop} {μ : aMd} {d mc ms : Nat} {Q : aM → Option Value → Prop} {uc us pc : Nat} {ls : List (Option Value)} {st : List Value} {M : aM}
theorem j_after {D : va_G} {cA : Nat → ClassId} {b scr : Nat} {p : Program} {l : Launch} {e : Env} {R : Room} {s : State} {m : MethodId} {args : Array Value} {below : List Frame} {meth : Method} {c : Code} {Qf : State → Prop} {H : Heap} {locs : List Loc} {a : Array Slot} {mc1 ms1 : Nat} {Q1 : aM → Option Value → Prop} {st0 rest : List Value} {va : Array Value}
    (hr : va_Run p l e R s m args below meth c H locs uc us mc1 ms1 (F0 m pc a st0) rest (aQ D cA b scr Q1 va) (aA b)) (hb : b ≤ s.heap.size) (hS : va_S (aA b) s.heap H locs)
    (kk : ∀ (M1 : aM) (r : Option Value) (H1 : Heap) (locs1 : List Loc), Q1 M1 r → aOK D cA b M1 H1 → va_S (aA b) s.heap H1 locs1 → W p l e R s m args below meth c H1 locs1 (uc + mc1) (us + ms1) Qf (F0 m (pc + 3) a (r.toList.map (aV b scr) ++ rest))) : W p l e R s m args below meth c H locs uc us Qf (F0 m pc a st0) := by
  intro T hT X
  obtain ⟨v, st₀, t, T', L, h0, X', hL, e1, e2, ⟨⟨M1, r, hv, hp, hO, hG⟩, hz, hk⟩, st⟩ := hr T hT X
  have hv' : v = r.map (aV b scr) := Outcome.returned.inj hv
  subst hv'
  rw [h0] at hz hk
  obtain ⟨t2, a1, b1⟩ := kk M1 r T'.heap (locs ++ L) hp (by rw [e1]; exact hO)
    ⟨Nat.le_trans hS.1 (by rw [e1]; exact hz), fun q h1 h2 => by rw [e1, hk q (Nat.lt_of_lt_of_le h1 hS.1) h2]; exact hS.2.1 q h1 h2, fun q hq => by
      rcases List.mem_append.mp hq with h | h
      · exact hS.2.2 q h
      · exact hL q h⟩ T' rfl X'
  have e3 : (r.map (aV b scr)).toList ++ rest = r.toList.map (aV b scr) ++ rest := by cases r <;> rfl
  refine ⟨t2, st t2 ?_, b1⟩
  rw [show ({ (F0 m pc a st0) with pc := (F0 m pc a st0).pc + 3, stack := (r.map (aV b scr)).toList ++ rest } : JFrame) = F0 m (pc + 3) a (r.toList.map (aV b scr) ++ rest) by rw [e3]]
  exact a1
def aNm (y : MethodName) (n : Nat) : Prop := y.cls ≠ "java/lang/invoke/MethodHandle" ∧ y.cls ≠ "java/lang/invoke/VarHandle" ∧ (parseMethodDescriptor y.desc).map (fun d => d.parameters.length) = some n

theorem j_callS {μ1 : aMd} {d1 mc1 ms1 ix : Nat} {vs : List Value} {Q1 : aM → Option Value → Prop} {st0 : List Value} (hd : decode μ.2.1 pc = .ok (.invokestatic ix, 3)) (w1 : Cond.methodLink μ.1.cls ix μ1.1 ∈ aWS) (w2 : Cond.static μ1.1 ∈ aWS) (w3 : Cond.initialized μ1.1.cls ∈ aWS) (w4 : Cond.code μ1.1 μ1.2.1 μ1.2.2.1 μ1.2.2.2 ∈ aWS) (hy : aNm μ1.1 vs.length) (hl : μ1.2.2.1 ≤ 21) (hdp : d1 + 1 ≤ d) (hK : aK μ1 d1 mc1 ms1 M vs Q1) (hst : st0 = vs.reverse ++ st) (hlen : st.length ≤ 8) (hu : uc + mc1 ≤ mc) (hv : us + ms1 ≤ ms) (kk : ∀ M1 r, Q1 M1 r → aJ X μ d mc ms Q (uc + mc1) (us + ms1) (pc + 3) ls (r.toList ++ st) M1) : aJ X μ d mc ms Q uc us pc ls st0 M := by
  intro D cA b scr p l e R s m args below meth c Qf H locs a C hX hO hS hL
  subst hst
  have hts := C.2.2.2.2.1
  have hR1 := C.2.2.2.2.2.2.1
  have hR2 := C.2.2.2.2.2.2.2.1
  have hR3 := C.2.2.2.2.2.2.2.2.1
  have hR4 := C.2.2.2.2.2.2.2.2.2.1
  have hR : d1 + 1 ≤ R.frames ∧ 8 + (μ1.2.2.1 + 11) + 40 * d1 ≤ R.locals := ⟨by omega, by omega⟩
  refine j_after (va_runS (As := vs.map (aV b scr)) (rest := st.map (aV b scr)) ⟨C.1, C.2.1, C.2.2.1, C.2.2.2.1, hts⟩ (hK l D cA b scr) ⟨callB_of (ws' := aWS) vs.length hts (aGood μ1 w4) rfl rfl rfl (hts _ w3) (hts _ w1) hy hR, hts _ w2⟩ ⟨aPc.blind D cA b scr M vs, fun U hU hW => ⟨rfl, by rw [hU]; exact hO, aG.warm hW C.2.2.2.2.2.1⟩⟩ rfl (by simp) hL.1.1 (by simp) (by show 2 * 0 + _ ≤ 8; rw [aSum]; omega) hd ⟨by omega, by omega⟩) C.2.2.2.2.2.2.2.2.2.2.1 hS ?_
  refine fun M1 r H1 locs1 hq1 hO1 hS1 => ?_
  have := kk M1 r hq1 D cA b scr p l e R s m args below meth c Qf H1 locs1 a C hX hO1 hS1 hL
  rw [List.map_append] at this
  exact this
theorem j_callSN {μ1 : aMd} {d1 mc1 ms1 ix : Nat} {vs : List Value} {Q1 : aM → Option Value → Prop} {st0 : List Value} {host : String} (hd : decode μ.2.1 pc = .ok (.invokestatic ix, 3)) (w1 : Cond.methodLinkNest μ.1.cls ix μ1.1 host ∈ aNW) (w2 : Cond.static μ1.1 ∈ aWS) (w3 : Cond.initialized μ1.1.cls ∈ aWS) (w4 : Cond.code μ1.1 μ1.2.1 μ1.2.2.1 μ1.2.2.2 ∈ aWS) (hy : aNm μ1.1 vs.length) (hl : μ1.2.2.1 ≤ 21) (hdp : d1 + 1 ≤ d) (hK : aK μ1 d1 mc1 ms1 M vs Q1) (hst : st0 = vs.reverse ++ st) (hlen : st.length ≤ 8) (hu : uc + mc1 ≤ mc) (hv : us + ms1 ≤ ms) (kk : ∀ M1 r, Q1 M1 r → aJ X μ d mc ms Q (uc + mc1) (us + ms1) (pc + 3) ls (r.toList ++ st) M1) : aJ X μ d mc ms Q uc us pc ls st0 M := by
  intro D cA b scr p l e R s m args below meth c Qf H locs a C hX hO hS hL
  subst hst
  have hts := C.2.2.2.2.1
  have hR1 := C.2.2.2.2.2.2.1
  have hR2 := C.2.2.2.2.2.2.2.1
  have hR3 := C.2.2.2.2.2.2.2.2.1
  have hR4 := C.2.2.2.2.2.2.2.2.2.1
  have hR : d1 + 1 ≤ R.frames ∧ 8 + (μ1.2.2.1 + 11) + 40 * d1 ≤ R.locals := ⟨by omega, by omega⟩
  refine j_after (va_runSN (As := vs.map (aV b scr)) (rest := st.map (aV b scr)) ⟨C.1, C.2.1, C.2.2.1, C.2.2.2.1, hts⟩ (hK l D cA b scr) ⟨va_cnB (ws' := aWS) vs.length hts (aGood μ1 w4) rfl rfl rfl (C.2.2.2.2.2.1.2 _ w1) (hts _ w3) hy hR, hts _ w2, trivial⟩ ⟨aPc.blind D cA b scr M vs, fun U hU hW => ⟨rfl, by rw [hU]; exact hO, aG.warm hW C.2.2.2.2.2.1⟩⟩ rfl (by simp) hL.1.1 (by simp) (by show 2 * 0 + _ ≤ 8; rw [aSum]; omega) hd ⟨by omega, by omega⟩) C.2.2.2.2.2.2.2.2.2.2.1 hS ?_
  refine fun M1 r H1 locs1 hq1 hO1 hS1 => ?_
  have := kk M1 r hq1 D cA b scr p l e R s m args below meth c Qf H1 locs1 a C hX hO1 hS1 hL
  rw [List.map_append] at this
  exact this
theorem j_callI {μ1 : aMd} {d1 mc1 ms1 ix o : Nat} {vs : List Value} {Q1 : aM → Option Value → Prop} {st0 : List Value} (hd : decode μ.2.1 pc = .ok (.invokespecial ix, 3)) (w1 : Cond.methodLink μ.1.cls ix μ1.1 ∈ aWS) (w2 : Cond.instanceMethod μ1.1 ∈ aWS) (w3 : Cond.initialized μ1.1.cls ∈ aWS) (w4 : Cond.code μ1.1 μ1.2.1 μ1.2.2.1 μ1.2.2.2 ∈ aWS) (hret : μ1.2.2.2 = none) (hin : μ1.1.name = "<init>") (hy : aNm μ1.1 vs.length) (hl : μ1.2.2.1 ≤ 21) (hdp : d1 + 1 ≤ d) (hK : aK μ1 d1 mc1 ms1 M (.ref o :: vs) Q1) (hst : st0 = vs.reverse ++ .ref o :: st) (hlen : st.length ≤ 8) (hu : uc + mc1 ≤ mc) (hv : us + ms1 ≤ ms) (kk : ∀ M1 r, Q1 M1 r → aJ X μ d mc ms Q (uc + mc1) (us + ms1) (pc + 3) ls (r.toList ++ st) M1) : aJ X μ d mc ms Q uc us pc ls st0 M := by
  intro D cA b scr p l e R s m args below meth c Qf H locs a C hX hO hS hL
  subst hst
  have hts := C.2.2.2.2.1
  have hR1 := C.2.2.2.2.2.2.1
  have hR2 := C.2.2.2.2.2.2.2.1
  have hR3 := C.2.2.2.2.2.2.2.2.1
  have hR4 := C.2.2.2.2.2.2.2.2.2.1
  have hR : d1 + 1 ≤ R.frames ∧ 8 + (μ1.2.2.1 + 11) + 40 * d1 ≤ R.locals := ⟨by omega, by omega⟩
  rw [hret] at w4
  have hG : GoodIn aWS (aws μ1) := aGood μ1 (by rw [hret]; exact w4)
  refine j_after (va_runI (As := vs.map (aV b scr)) (rest := st.map (aV b scr)) (b := b + o) ⟨C.1, C.2.1, C.2.2.1, C.2.2.2.1, hts⟩ (hK l D cA b scr) ⟨callB_of (ws' := aWS) vs.length hts hG (by unfold aws; rw [hret]) rfl rfl (hts _ w3) (hts _ w1) hy hR, hin, hts _ w2⟩ ⟨aPc.blind D cA b scr M (.ref o :: vs), fun U hU hW => ⟨rfl, by rw [hU]; exact hO, aG.warm hW C.2.2.2.2.2.1⟩⟩ rfl (by simp) hL.1.1 (by simp [aV]) (by show 2 * 0 + _ ≤ 8; rw [aSum]; omega) hd ⟨by omega, by omega⟩) C.2.2.2.2.2.2.2.2.2.2.1 hS ?_
  refine fun M1 r H1 locs1 hq1 hO1 hS1 => ?_
  have := kk M1 r hq1 D cA b scr p l e R s m args below meth c Qf H1 locs1 a C hX hO1 hS1 hL
  rw [List.map_append] at this
  exact this
theorem j_callIN {μ1 : aMd} {d1 mc1 ms1 ix o : Nat} {vs : List Value} {Q1 : aM → Option Value → Prop} {st0 : List Value} {host : String} (hd : decode μ.2.1 pc = .ok (.invokespecial ix, 3)) (w1 : Cond.methodLinkNest μ.1.cls ix μ1.1 host ∈ aNW) (w2 : Cond.instanceMethod μ1.1 ∈ aWS) (w3 : Cond.initialized μ1.1.cls ∈ aWS) (w4 : Cond.code μ1.1 μ1.2.1 μ1.2.2.1 μ1.2.2.2 ∈ aWS) (hret : μ1.2.2.2 = none) (hin : μ1.1.name = "<init>") (hy : aNm μ1.1 vs.length) (hl : μ1.2.2.1 ≤ 21) (hdp : d1 + 1 ≤ d) (hK : aK μ1 d1 mc1 ms1 M (.ref o :: vs) Q1) (hst : st0 = vs.reverse ++ .ref o :: st) (hlen : st.length ≤ 8) (hu : uc + mc1 ≤ mc) (hv : us + ms1 ≤ ms) (kk : ∀ M1 r, Q1 M1 r → aJ X μ d mc ms Q (uc + mc1) (us + ms1) (pc + 3) ls (r.toList ++ st) M1) : aJ X μ d mc ms Q uc us pc ls st0 M := by
  intro D cA b scr p l e R s m args below meth c Qf H locs a C hX hO hS hL
  subst hst
  have hts := C.2.2.2.2.1
  have hR1 := C.2.2.2.2.2.2.1
  have hR2 := C.2.2.2.2.2.2.2.1
  have hR3 := C.2.2.2.2.2.2.2.2.1
  have hR4 := C.2.2.2.2.2.2.2.2.2.1
  have hR : d1 + 1 ≤ R.frames ∧ 8 + (μ1.2.2.1 + 11) + 40 * d1 ≤ R.locals := ⟨by omega, by omega⟩
  rw [hret] at w4
  have hG : GoodIn aWS (aws μ1) := aGood μ1 (by rw [hret]; exact w4)
  refine j_after (va_runIN (As := vs.map (aV b scr)) (rest := st.map (aV b scr)) (b := b + o) ⟨C.1, C.2.1, C.2.2.1, C.2.2.2.1, hts⟩ (hK l D cA b scr) ⟨va_cnB (ws' := aWS) vs.length hts hG (by unfold aws; rw [hret]) rfl rfl (C.2.2.2.2.2.1.2 _ w1) (hts _ w3) hy hR, hin, hts _ w2⟩ ⟨aPc.blind D cA b scr M (.ref o :: vs), fun U hU hW => ⟨rfl, by rw [hU]; exact hO, aG.warm hW C.2.2.2.2.2.1⟩⟩ rfl (by simp) hL.1.1 (by simp [aV]) (by show 2 * 0 + _ ≤ 8; rw [aSum]; omega) hd ⟨by omega, by omega⟩) C.2.2.2.2.2.2.2.2.2.2.1 hS ?_
  refine fun M1 r H1 locs1 hq1 hO1 hS1 => ?_
  have := kk M1 r hq1 D cA b scr p l e R s m args below meth c Qf H1 locs1 a C hX hO1 hS1 hL
  rw [List.map_append] at this
  exact this
theorem j_callV {μ1 : aMd} {d1 mc1 ms1 ix o : Nat} {vs : List Value} {Q1 : aM → Option Value → Prop} {st0 : List Value} {ci : Nat} {T : u_T} {N : Nat} (hd : decode μ.2.1 pc = .ok (.invokevirtual ix, 3)) (ht : tO M o ci) (hci : ci < 100) (hcn : aCl[ci]? = some (μ1.1.cls, T, N)) (w1 : Cond.methodLink μ.1.cls ix μ1.1 ∈ aWS) (w2 : Cond.instanceMethod μ1.1 ∈ aWS) (w3 : Cond.initialized μ1.1.cls ∈ aWS) (w4 : Cond.code μ1.1 μ1.2.1 μ1.2.2.1 μ1.2.2.2 ∈ aWS) (w5 : Cond.selects μ1.1.cls μ1.1 μ1.1 ∈ aWS) (hy : aNm μ1.1 vs.length) (hl : μ1.2.2.1 ≤ 21) (hdp : d1 + 1 ≤ d) (hK : aK μ1 d1 mc1 ms1 M (.ref o :: vs) Q1) (hst : st0 = vs.reverse ++ .ref o :: st) (hlen : st.length ≤ 8) (hu : uc + mc1 ≤ mc) (hv : us + ms1 ≤ ms) (kk : ∀ M1 r, Q1 M1 r → aJ X μ d mc ms Q (uc + mc1) (us + ms1) (pc + 3) ls (r.toList ++ st) M1) : aJ X μ d mc ms Q uc us pc ls st0 M := by
  intro D cA b scr p l e R s m args below meth c Qf H locs a C hX hO hS hL
  subst hst
  have hts := C.2.2.2.2.1
  have hR1 := C.2.2.2.2.2.2.1
  have hR2 := C.2.2.2.2.2.2.2.1
  have hR3 := C.2.2.2.2.2.2.2.2.1
  have hR4 := C.2.2.2.2.2.2.2.2.2.1
  have hR : d1 + 1 ≤ R.frames ∧ 8 + (μ1.2.2.1 + 11) + 40 * d1 ≤ R.locals := ⟨by omega, by omega⟩
  obtain ⟨r9, hr9, cellB, g1, g2, g3, -⟩ := aAt.obj ht.2 hci (hO.2 o ht.1)
  have hcl := (C.2.2.2.2.2.1.1.1 ci r9 hr9).2
  have e9 : r9 = (μ1.1.cls, T, N) := Option.some.inj (hr9.symm.trans hcn)
  subst e9
  refine j_after (va_runV (C := μ1.1.cls) (As := vs.map (aV b scr)) (rest := st.map (aV b scr)) (b := b + o) ⟨C.1, C.2.1, C.2.2.1, C.2.2.2.1, hts⟩ (hK l D cA b scr) ⟨callB_of (ws' := aWS) vs.length hts (aGood μ1 w4) rfl rfl rfl (hts _ w3) (hts _ w1) hy hR, hts _ w2, hts _ w5⟩ ⟨aPc.blind D cA b scr M (.ref o :: vs), ⟨cellB, g1, by rw [g3]; rfl, by rw [g2]; exact hcl.1⟩, fun U hU hW => ⟨rfl, by rw [hU]; exact hO, aG.warm hW C.2.2.2.2.2.1⟩⟩ rfl (by simp) hL.1.1 (by simp [aV]) (by show 2 * 0 + _ ≤ 8; rw [aSum]; omega) hd ⟨by omega, by omega⟩) C.2.2.2.2.2.2.2.2.2.2.1 hS ?_
  refine fun M1 r H1 locs1 hq1 hO1 hS1 => ?_
  have := kk M1 r hq1 D cA b scr p l e R s m args below meth c Qf H1 locs1 a C hX hO1 hS1 hL
  rw [List.map_append] at this
  exact this
theorem j_callU {μ1 : aMd} {d1 mc1 ms1 ix o : Nat} {vs : List Value} {Q1 : aM → Option Value → Prop} {st0 : List Value} {ci : Nat} {T : u_T} {N : Nat} {x : MethodName} {owner cn : String} (hd : decode μ.2.1 pc = .ok (.invokevirtual ix, 3)) (ht : tO M o ci) (hci : ci < 100) (hcn : aCl[ci]? = some (cn, T, N)) (w1 : Cond.methodLink μ.1.cls ix x ∈ aWS) (w2 : Cond.instanceMethod μ1.1 ∈ aWS) (w3 : Cond.initialized μ1.1.cls ∈ aWS) (w4 : Cond.code μ1.1 μ1.2.1 μ1.2.2.1 μ1.2.2.2 ∈ aWS) (w5 : Cond.selects cn x μ1.1 ∈ aWS) (w6 : Cond.sameMethod x.cls owner x.name x.desc ∈ aWS) (hdc : μ1.1 = ⟨owner, x.name, x.desc⟩ ∨ (Cond.instanceMethod ⟨owner, x.name, x.desc⟩ ∈ aWS ∧ ∃ b0 m0 r0, Cond.code ⟨owner, x.name, x.desc⟩ b0 m0 r0 ∈ aWS) ∨ Cond.declares ⟨owner, x.name, x.desc⟩ ∈ aNW) (hy : aNm ⟨owner, x.name, x.desc⟩ vs.length) (hl : μ1.2.2.1 ≤ 21) (hdp : d1 + 1 ≤ d) (hK : aK μ1 d1 mc1 ms1 M (.ref o :: vs) Q1) (hst : st0 = vs.reverse ++ .ref o :: st) (hlen : st.length ≤ 8) (hu : uc + mc1 ≤ mc) (hv : us + ms1 ≤ ms) (kk : ∀ M1 r, Q1 M1 r → aJ X μ d mc ms Q (uc + mc1) (us + ms1) (pc + 3) ls (r.toList ++ st) M1) : aJ X μ d mc ms Q uc us pc ls st0 M := by
  intro D cA b scr p l e R s m args below meth c Qf H locs a C hX hO hS hL
  subst hst
  have hts := C.2.2.2.2.1
  have hR1 := C.2.2.2.2.2.2.1
  have hR2 := C.2.2.2.2.2.2.2.1
  have hR3 := C.2.2.2.2.2.2.2.2.1
  have hR4 := C.2.2.2.2.2.2.2.2.2.1
  have hR : d1 + 1 ≤ R.frames ∧ 8 + (μ1.2.2.1 + 11) + 40 * d1 ≤ R.locals := ⟨by omega, by omega⟩
  obtain ⟨r9, hr9, cellB, g1, g2, g3, -⟩ := aAt.obj ht.2 hci (hO.2 o ht.1)
  have hcl := (C.2.2.2.2.2.1.1.1 ci r9 hr9).2
  have e9 : r9 = (cn, T, N) := Option.some.inj (hr9.symm.trans hcn)
  subst e9
  have hG := aGood μ1 w4
  have hdecl : va_Decl s ⟨owner, x.name, x.desc⟩ := by
    rcases hdc with h9 | ⟨h9, b0, m0, r0, h8⟩ | h9
    · rw [← h9]; exact va_Decl.of (hts _ w2) (hts _ w4)
    · exact va_Decl.of (hts _ h9) (hts _ h8)
    · exact va_Decl.abs (C.2.2.2.2.2.1.2 _ h9)
  have hcw : va_CU R s args μ.1.cls cn owner ix x μ1.1 μ1.2.1 μ1.2.2.1 μ1.2.2.2 (aws μ1) { frames := d1, cells := mc1, slots := ms1, locals := 40 * d1 } mc1 ms1 vs.length := by
    refine ⟨⟨rfl, rfl, hR.1, hR.2, pay_in hts hG, List.mem_cons_self⟩, hts _ w4, hts _ w3, ⟨hy.1, hy.2.1⟩, fun sig h => ?_, hts _ w1, hts _ w6, hdecl, hts _ w5, hts _ w2⟩
    have h2 := hy.2.2
    rw [h] at h2
    exact (Option.some.inj h2).symm
  refine j_after (va_runU (As := vs.map (aV b scr)) (rest := st.map (aV b scr)) (b := b + o) ⟨C.1, C.2.1, C.2.2.1, C.2.2.2.1, hts⟩ (hK l D cA b scr) hcw ⟨aPc.blind D cA b scr M (.ref o :: vs), ⟨cellB, g1, by rw [g3]; rfl, by rw [g2]; exact hcl.1⟩, fun U hU hW => ⟨rfl, by rw [hU]; exact hO, aG.warm hW C.2.2.2.2.2.1⟩⟩ rfl (by simp) hL.1.1 (by simp [aV]) (by show 2 * 0 + _ ≤ 8; rw [aSum]; omega) hd ⟨by omega, by omega⟩) C.2.2.2.2.2.2.2.2.2.2.1 hS ?_
  refine fun M1 r H1 locs1 hq1 hO1 hS1 => ?_
  have := kk M1 r hq1 D cA b scr p l e R s m args below meth c Qf H1 locs1 a C hX hO1 hS1 hL
  rw [List.map_append] at this
  exact this
theorem j_objInit {ix o : Nat} (hd : decode μ.2.1 pc = .ok (.invokespecial ix, 3)) (w1 : Cond.methodLink μ.1.cls ix objectInit ∈ aWS) (w2 : Cond.instanceMethod objectInit ∈ aWS) (w3 : Cond.code objectInit ⟨#[0xb1]⟩ 1 none ∈ aWS) (hdp : 1 ≤ d) (hlen : st.length ≤ 8) (kk : aJ X μ d mc ms Q uc us (pc + 3) ls st M) : aJ X μ d mc ms Q uc us pc ls (.ref o :: st) M := by
  intro D cA b scr p l e R s m args below meth c Qf H locs a C hX hO hS hL
  have hts := C.2.2.2.2.1
  have hR1 := C.2.2.2.2.2.2.1
  have hR2 := C.2.2.2.2.2.2.2.1
  refine W.objInit C.1 C.2.1 C.2.2.2.1 (hts _ w1) (hts _ w2) (hts _ w3) rfl (by rw [C.2.2.1]; exact hL.1.1) rfl hd (by omega) (by show 2 * 0 + _ + 12 ≤ _; rw [aSum]; omega) ?_
  exact (kk D cA b scr p l e R s m args below meth c Qf H locs a C hX hO hS hL)
theorem j_copy {ix a0 a1 n0 n1 kd tix i j k : Nat} {sp dp n : Int32} {ty : FieldType} (hd : decode μ.2.1 pc = .ok (.invokestatic ix, 3)) (w1 : Cond.methodLink μ.1.cls ix arraycopyName ∈ aWS) (w2 : Cond.native arraycopyName ∈ aWS) (w3 : Cond.static arraycopyName ∈ aWS) (w4 : Cond.initialized "java/lang/System" ∈ aWS) (h0 : tA M a0 kd n0) (h1 : tA M a1 kd n1) (hk1 : 100 ≤ kd) (hk2 : kd < 102) (htx : ∀ cA : Nat → ClassId, (aT cA)[tix]? = some (cA kd, ty)) (hprim : refKind ty = false) (hsp : sp = nI i) (hdp : dp = nI j) (hn : n = nI k) (hi : i + k ≤ n0) (hj : j + k ≤ n1) (hb0 : n0 < 2 ^ 31) (hb1 : n1 < 2 ^ 31) (hfit : ∀ q, q < k → fits ty (.int (mI M a0 (i + q))) = true) (hdep : 1 ≤ d) (hlen : st.length ≤ 8) (kk : aJ X μ d mc ms Q uc us (pc + 3) ls st (sC M a0 i a1 j k)) : aJ X μ d mc ms Q uc us pc ls (.int n :: .int dp :: .ref a1 :: .int sp :: .ref a0 :: st) M := by
  intro D cA b scr p l e R s m args below meth c Qf H locs a C hX hO hS hL
  have hts := C.2.2.2.2.1
  have hR1 := C.2.2.2.2.2.2.1
  have hR2 := C.2.2.2.2.2.2.2.1
  have hnf : nativeFrameWords "java/lang/System" "arraycopy" 5 ≤ 20 := by decide
  subst hsp; subst hdp; subst hn
  have ci : (nI i).toNatClampNeg = i := nI_clamp (by omega)
  have cj : (nI j).toNatClampNeg = j := nI_clamp (by omega)
  have ck : (nI k).toNatClampNeg = k := nI_clamp (by omega)
  have ti : (nI i).toInt = (i : Int) := nI_toInt (by omega)
  have tj : (nI j).toInt = (j : Int) := nI_toInt (by omega)
  have tk : (nI k).toInt = (k : Int) := nI_toInt (by omega)
  have hc0 := aAt.ints h0.2.1 h0.2.2 hk1 hk2 (hO.2 a0 h0.1)
  have hc1 := aAt.ints h1.2.1 h1.2.2 hk1 hk2 (hO.2 a1 h1.1)
  have hAr := (C.2.2.2.2.2.1.1.2 tix _ (htx cA)).1
  intro T hT X
  obtain ⟨-, k0, hk0, cm0, hkk0⟩ := hAr n0 (fun j => .int (mI M a0 j))
  obtain ⟨-, k1, hk1', cm1, hkk1⟩ := hAr n1 (fun j => .int (mI M a1 j))
  obtain ⟨vm', X', step⟩ := X.arraycopy C.1 C.2.2.2.1 (hts _ w1) (hts _ w2) (hts _ w3) (hts _ w4) (src := b + a0) (dst := b + a1) (cs := arrV (cA kd) n0 (fun j => .int (mI M a0 j))) (cd := arrV (cA kd) n1 (fun j => .int (mI M a1 j))) (srcPos := nI i) (destPos := nI j) (n := nI k) (by rw [hT]; exact hc0) (by rw [hT]; exact hc1)
    (fun _ h => by cases h) (fun _ h => by cases h) (fun h => by cases h) (fun h => by cases h) hk0 hk1' hkk0 hkk1 (by simp [hprim]) (nI_pos (by omega)) (nI_pos (by omega)) (nI_pos (by omega))
    (by rw [ti, tk, arrV_size]; omega)
    (by rw [tj, tk, arrV_size]; omega)
    (fun vm₁ _ q hq => by
      rw [ck] at hq
      have e : (arrV (cA kd) n0 (fun j => .int (mI M a0 j))).slots.getD ((nI i).toNatClampNeg + q) .null = .int (mI M a0 (i + q)) := by
        rw [ci, Array.getD_eq_getD_getElem?, arrV_read _ _ (by omega)]
        rfl
      refine ⟨?_, ?_⟩
      · rw [e]
        exact hfit q hq
      · rw [e]
        exact trivial)
    (g := F0 m pc a (.int (nI k) :: .int (nI j) :: .ref (b + a1) :: .int (nI i) :: .ref (b + a0) :: st.map (aV b scr))) rfl (by rw [C.2.2.1]; exact hL.1.1) (rest := st.map (aV b scr)) rfl (by rw [C.2.1]; exact hd) (by omega) (by show 2 * 0 + _ + _ ≤ _; rw [aSum]; omega)
  have e1 : copied (arrV (cA kd) n0 (fun j => .int (mI M a0 j))) (arrV (cA kd) n1 (fun j => .int (mI M a1 j))) (nI i) (nI j) (nI k) = arrV (cA kd) n1 (fun q => .int (mI (sC M a0 i a1 j k) a1 q)) := by
    have := va_copied (fun z => Value.int z) (cA kd) (cA kd) (n1 := n1) (dp := j) (mI M a0) (mI M a1) (show i + k ≤ n0 from hi)
    show (arrV _ _ _).storeRun (nI j).toNatClampNeg ((arrV _ _ _).stretch (nI i).toNatClampNeg (nI k).toNatClampNeg) = _
    rw [ci, cj, ck, this]
    congr 1
    funext q
    rw [mm_I_sC]
    simp only [va_cpy, true_and]
  rw [e1] at X' step
  have hl1 : b + a1 < H.size := (Array.getElem?_eq_some_iff.mp hc1).1
  have oq : ∀ q : Nat, q ≠ b + a1 → (H.setIfInBounds (b + a1) (arrV (cA kd) n1 (fun q => .int (mI (sC M a0 i a1 j k) a1 q))))[q]? = H[q]? := fun q hq => by simp [Array.getElem?_setIfInBounds, Ne.symm hq]
  have hat : aAt D cA b (sC M a0 i a1 j k) (H.setIfInBounds (b + a1) (arrV (cA kd) n1 (fun q => .int (mI (sC M a0 i a1 j k) a1 q)))) a1 := by
    unfold aAt
    rw [show mKd (sC M a0 i a1 j k) a1 = kd from h1.2.1, show mLn (sC M a0 i a1 j k) a1 = n1 from h1.2.2, if_neg (by omega), if_pos hk2]
    simp [Array.getElem?_setIfInBounds, hl1]
  obtain ⟨t, t1, t2⟩ := kk D cA b scr p l e R s m args below meth c Qf (H.setIfInBounds (b + a1) (arrV (cA kd) n1 (fun q => .int (mI (sC M a0 i a1 j k) a1 q)))) _ a C hX (hO.set (o := a1) (mm_sz_sC M a0 i a1 j k) (by simp) oq (fun a' h9 => ⟨rfl, rfl, fun q => by rw [mm_I_sC, if_neg (fun h8 => h9 h8.1)], fun q => rfl⟩) hat) ⟨by simp; exact hS.1, fun q g1 g2 => by
      rw [oq q (fun e => g2 (by rw [e]; exact Nat.le_add_right b a1))]
      exact hS.2.1 q g1 g2, fun q hq => by
      rcases List.mem_append.mp hq with h | h
      · exact hS.2.2 q h
      · obtain ⟨z, -, hz⟩ := List.mem_map.mp h
        rw [← hz]
        exact Nat.le_add_right b a1⟩ hL _ (by rw [← hT]; rfl) X'
  exact ⟨t, step t t1, t2⟩
end JC
end
section
theorem in_S : ∀ w ∈ u_ws "ShardGroups" T_S 3, w ∈ aWS := by
  show ∀ w ∈ [Cond.laysFinal "ShardGroups" "ShardGroups" "nodes" "[LShardGroups$Node;", Cond.laysFinal "ShardGroups" "ShardGroups" "services" "[LShardGroups$ServiceNode;", Cond.laysFinal "ShardGroups" "ShardGroups" "stores" "[LShardGroups$StoreNode;"], w ∈ aWS
  exact List.forall_mem_cons.mpr ⟨w175, List.forall_mem_cons.mpr ⟨w177, List.forall_mem_cons.mpr ⟨w179, fun _ h => absurd h List.not_mem_nil⟩⟩⟩
theorem in_C : ∀ w ∈ u_ws "ShardGroups$Configuration" T_C 3, w ∈ aWS := by
  show ∀ w ∈ [Cond.laysFinal "ShardGroups$Configuration" "ShardGroups$Configuration" "members" "[Z", Cond.laysFinal "ShardGroups$Configuration" "ShardGroups$Configuration" "owners" "[I", Cond.laysFinal "ShardGroups$Configuration" "ShardGroups$Configuration" "owned" "[I"], w ∈ aWS
  exact List.forall_mem_cons.mpr ⟨w42, List.forall_mem_cons.mpr ⟨w44, List.forall_mem_cons.mpr ⟨w46, fun _ h => absurd h List.not_mem_nil⟩⟩⟩
theorem in_V : ∀ w ∈ u_ws "ShardGroups$ServiceNode" T_V 8, w ∈ aWS := by
  show ∀ w ∈ [Cond.lays "ShardGroups$ServiceNode" "ShardGroups$Node" "up" "Z", Cond.lays "ShardGroups$ServiceNode" "ShardGroups$Node" "leads" "Z", Cond.lays "ShardGroups$ServiceNode" "ShardGroups$Node" "term" "I", Cond.lays "ShardGroups$ServiceNode" "ShardGroups$Node" "length" "I", Cond.lays "ShardGroups$ServiceNode" "ShardGroups$Node" "known" "I", Cond.laysFinal "ShardGroups$ServiceNode" "ShardGroups$Node" "log" "[LShardGroups$Entry;", Cond.laysFinal "ShardGroups$ServiceNode" "ShardGroups$ServiceNode" "configurations" "[LShardGroups$Configuration;", Cond.lays "ShardGroups$ServiceNode" "ShardGroups$ServiceNode" "last" "I"], w ∈ aWS
  exact List.forall_mem_cons.mpr ⟨w96, List.forall_mem_cons.mpr ⟨w98, List.forall_mem_cons.mpr ⟨w100, List.forall_mem_cons.mpr ⟨w102, List.forall_mem_cons.mpr ⟨w104, List.forall_mem_cons.mpr ⟨w106, List.forall_mem_cons.mpr ⟨w92, List.forall_mem_cons.mpr ⟨w94, fun _ h => absurd h List.not_mem_nil⟩⟩⟩⟩⟩⟩⟩⟩
theorem in_T : ∀ w ∈ u_ws "ShardGroups$StoreNode" T_T 10, w ∈ aWS := by
  show ∀ w ∈ [Cond.lays "ShardGroups$StoreNode" "ShardGroups$Node" "up" "Z", Cond.lays "ShardGroups$StoreNode" "ShardGroups$Node" "leads" "Z", Cond.lays "ShardGroups$StoreNode" "ShardGroups$Node" "term" "I", Cond.lays "ShardGroups$StoreNode" "ShardGroups$Node" "length" "I", Cond.lays "ShardGroups$StoreNode" "ShardGroups$Node" "known" "I", Cond.laysFinal "ShardGroups$StoreNode" "ShardGroups$Node" "log" "[LShardGroups$Entry;", Cond.laysFinal "ShardGroups$StoreNode" "ShardGroups$StoreNode" "group" "I", Cond.lays "ShardGroups$StoreNode" "ShardGroups$StoreNode" "number" "I", Cond.lays "ShardGroups$StoreNode" "ShardGroups$StoreNode" "current" "LShardGroups$Configuration;", Cond.laysFinal "ShardGroups$StoreNode" "ShardGroups$StoreNode" "shards" "[LShardGroups$Shard;"], w ∈ aWS
  exact List.forall_mem_cons.mpr ⟨w165, List.forall_mem_cons.mpr ⟨w166, List.forall_mem_cons.mpr ⟨w167, List.forall_mem_cons.mpr ⟨w168, List.forall_mem_cons.mpr ⟨w169, List.forall_mem_cons.mpr ⟨w170, List.forall_mem_cons.mpr ⟨w157, List.forall_mem_cons.mpr ⟨w159, List.forall_mem_cons.mpr ⟨w161, List.forall_mem_cons.mpr ⟨w163, fun _ h => absurd h List.not_mem_nil⟩⟩⟩⟩⟩⟩⟩⟩⟩⟩
theorem in_H : ∀ w ∈ u_ws "ShardGroups$Shard" T_H 4, w ∈ aWS := by
  show ∀ w ∈ [Cond.lays "ShardGroups$Shard" "ShardGroups$Shard" "condition" "I", Cond.laysFinal "ShardGroups$Shard" "ShardGroups$Shard" "values" "[I", Cond.laysFinal "ShardGroups$Shard" "ShardGroups$Shard" "latest" "[I", Cond.laysFinal "ShardGroups$Shard" "ShardGroups$Shard" "answers" "[I"], w ∈ aWS
  exact List.forall_mem_cons.mpr ⟨w135, List.forall_mem_cons.mpr ⟨w137, List.forall_mem_cons.mpr ⟨w139, List.forall_mem_cons.mpr ⟨w141, fun _ h => absurd h List.not_mem_nil⟩⟩⟩⟩
theorem in_E : ∀ w ∈ u_ws "ShardGroups$Entry" T_E 1, w ∈ aWS := by
  show ∀ w ∈ [Cond.laysFinal "ShardGroups$Entry" "ShardGroups$Entry" "term" "I"], w ∈ aWS
  exact List.forall_mem_cons.mpr ⟨w241, fun _ h => absurd h List.not_mem_nil⟩
theorem in_G : ∀ w ∈ u_ws "ShardGroups$Change" T_G 4, w ∈ aWS := by
  show ∀ w ∈ [Cond.laysFinal "ShardGroups$Change" "ShardGroups$Entry" "term" "I", Cond.laysFinal "ShardGroups$Change" "ShardGroups$Change" "kind" "I", Cond.laysFinal "ShardGroups$Change" "ShardGroups$Change" "a" "I", Cond.laysFinal "ShardGroups$Change" "ShardGroups$Change" "b" "I"], w ∈ aWS
  exact List.forall_mem_cons.mpr ⟨w453, List.forall_mem_cons.mpr ⟨w447, List.forall_mem_cons.mpr ⟨w449, List.forall_mem_cons.mpr ⟨w451, fun _ h => absurd h List.not_mem_nil⟩⟩⟩⟩
theorem in_F : ∀ w ∈ u_ws "ShardGroups$Configure" T_F 3, w ∈ aWS := by
  show ∀ w ∈ [Cond.laysFinal "ShardGroups$Configure" "ShardGroups$Entry" "term" "I", Cond.laysFinal "ShardGroups$Configure" "ShardGroups$Configure" "c" "I", Cond.laysFinal "ShardGroups$Configure" "ShardGroups$Configure" "next" "LShardGroups$Configuration;"], w ∈ aWS
  exact List.forall_mem_cons.mpr ⟨w525, List.forall_mem_cons.mpr ⟨w521, List.forall_mem_cons.mpr ⟨w523, fun _ h => absurd h List.not_mem_nil⟩⟩⟩
theorem in_R : ∀ w ∈ u_ws "ShardGroups$Request" T_R 6, w ∈ aWS := by
  show ∀ w ∈ [Cond.laysFinal "ShardGroups$Request" "ShardGroups$Entry" "term" "I", Cond.laysFinal "ShardGroups$Request" "ShardGroups$Request" "client" "I", Cond.laysFinal "ShardGroups$Request" "ShardGroups$Request" "number" "I", Cond.laysFinal "ShardGroups$Request" "ShardGroups$Request" "kind" "I", Cond.laysFinal "ShardGroups$Request" "ShardGroups$Request" "key" "I", Cond.laysFinal "ShardGroups$Request" "ShardGroups$Request" "value" "I"], w ∈ aWS
  exact List.forall_mem_cons.mpr ⟨w503, List.forall_mem_cons.mpr ⟨w493, List.forall_mem_cons.mpr ⟨w495, List.forall_mem_cons.mpr ⟨w497, List.forall_mem_cons.mpr ⟨w499, List.forall_mem_cons.mpr ⟨w501, fun _ h => absurd h List.not_mem_nil⟩⟩⟩⟩⟩⟩
theorem in_I : ∀ w ∈ u_ws "ShardGroups$Insert" T_I 4, w ∈ aWS := by
  show ∀ w ∈ [Cond.laysFinal "ShardGroups$Insert" "ShardGroups$Entry" "term" "I", Cond.laysFinal "ShardGroups$Insert" "ShardGroups$Insert" "shard" "I", Cond.laysFinal "ShardGroups$Insert" "ShardGroups$Insert" "c" "I", Cond.laysFinal "ShardGroups$Insert" "ShardGroups$Insert" "contents" "LShardGroups$Shard;"], w ∈ aWS
  exact List.forall_mem_cons.mpr ⟨w548, List.forall_mem_cons.mpr ⟨w542, List.forall_mem_cons.mpr ⟨w544, List.forall_mem_cons.mpr ⟨w546, fun _ h => absurd h List.not_mem_nil⟩⟩⟩⟩
theorem in_D : ∀ w ∈ u_ws "ShardGroups$Delete" T_D 3, w ∈ aWS := by
  show ∀ w ∈ [Cond.laysFinal "ShardGroups$Delete" "ShardGroups$Entry" "term" "I", Cond.laysFinal "ShardGroups$Delete" "ShardGroups$Delete" "shard" "I", Cond.laysFinal "ShardGroups$Delete" "ShardGroups$Delete" "c" "I"], w ∈ aWS
  exact List.forall_mem_cons.mpr ⟨w570, List.forall_mem_cons.mpr ⟨w566, List.forall_mem_cons.mpr ⟨w568, fun _ h => absurd h List.not_mem_nil⟩⟩⟩
theorem in_M : ∀ w ∈ u_ws "ShardGroupsModel" T_M 14, w ∈ aWS := by
  show ∀ w ∈ [Cond.laysFinal "ShardGroupsModel" "ShardGroupsModel" "off" "[Z", Cond.laysFinal "ShardGroupsModel" "ShardGroupsModel" "leads" "[Z", Cond.laysFinal "ShardGroupsModel" "ShardGroupsModel" "term" "[I", Cond.laysFinal "ShardGroupsModel" "ShardGroupsModel" "length" "[I", Cond.laysFinal "ShardGroupsModel" "ShardGroupsModel" "known" "[I", Cond.laysFinal "ShardGroupsModel" "ShardGroupsModel" "logs" "[I", Cond.laysFinal "ShardGroupsModel" "ShardGroupsModel" "entry" "[I", Cond.lays "ShardGroupsModel" "ShardGroupsModel" "configurations" "I", Cond.laysFinal "ShardGroupsModel" "ShardGroupsModel" "members" "[I", Cond.laysFinal "ShardGroupsModel" "ShardGroupsModel" "owners" "[I", Cond.lays "ShardGroupsModel" "ShardGroupsModel" "number" "I", Cond.laysFinal "ShardGroupsModel" "ShardGroupsModel" "owner" "[I", Cond.laysFinal "ShardGroupsModel" "ShardGroupsModel" "condition" "[I", Cond.laysFinal "ShardGroupsModel" "ShardGroupsModel" "held" "[I"], w ∈ aWS
  exact List.forall_mem_cons.mpr ⟨w647, List.forall_mem_cons.mpr ⟨w649, List.forall_mem_cons.mpr ⟨w651, List.forall_mem_cons.mpr ⟨w653, List.forall_mem_cons.mpr ⟨w655, List.forall_mem_cons.mpr ⟨w657, List.forall_mem_cons.mpr ⟨w659, List.forall_mem_cons.mpr ⟨w661, List.forall_mem_cons.mpr ⟨w663, List.forall_mem_cons.mpr ⟨w665, List.forall_mem_cons.mpr ⟨w667, List.forall_mem_cons.mpr ⟨w669, List.forall_mem_cons.mpr ⟨w671, List.forall_mem_cons.mpr ⟨w673, fun _ h => absurd h List.not_mem_nil⟩⟩⟩⟩⟩⟩⟩⟩⟩⟩⟩⟩⟩⟩
abbrev m_S_init : aMd := (⟨"ShardGroups", "<init>", "()V"⟩, prog_1_method_1_code, 3, (Option.none : Option Jvm.ClassFile.FieldType))
abbrev m_C_init : aMd := (⟨"ShardGroups$Configuration", "<init>", "()V"⟩, prog_3_method_1_code, 1, (Option.none : Option Jvm.ClassFile.FieldType))
abbrev m_V_init : aMd := (⟨"ShardGroups$ServiceNode", "<init>", "(LShardGroups$Configuration;)V"⟩, prog_10_method_1_code, 2, (Option.none : Option Jvm.ClassFile.FieldType))
abbrev m_N_init : aMd := (⟨"ShardGroups$Node", "<init>", "()V"⟩, prog_8_method_1_code, 1, (Option.none : Option Jvm.ClassFile.FieldType))
abbrev m_S_groupOf : aMd := (⟨"ShardGroups", "groupOf", "(I)I"⟩, prog_1_method_20_code, 1, (Option.some Jvm.ClassFile.FieldType.int))
abbrev m_T_init : aMd := (⟨"ShardGroups$StoreNode", "<init>", "(ILShardGroups$Configuration;)V"⟩, prog_12_method_1_code, 4, (Option.none : Option Jvm.ClassFile.FieldType))
abbrev m_H_init : aMd := (⟨"ShardGroups$Shard", "<init>", "()V"⟩, prog_11_method_1_code, 1, (Option.none : Option Jvm.ClassFile.FieldType))
abbrev m_S_crash : aMd := (⟨"ShardGroups", "crash", "(I)Z"⟩, prog_1_method_2_code, 3, (Option.some Jvm.ClassFile.FieldType.boolean))
abbrev m_S_upNode : aMd := (⟨"ShardGroups", "upNode", "(I)LShardGroups$Node;"⟩, prog_1_method_31_code, 3, (Option.some (Jvm.ClassFile.FieldType.object "ShardGroups$Node")))
abbrev m_S_anyNode : aMd := (⟨"ShardGroups", "anyNode", "(I)LShardGroups$Node;"⟩, prog_1_method_28_code, 2, (Option.some (Jvm.ClassFile.FieldType.object "ShardGroups$Node")))
abbrev m_S_recover : aMd := (⟨"ShardGroups", "recover", "(I)Z"⟩, prog_1_method_3_code, 3, (Option.some Jvm.ClassFile.FieldType.boolean))
abbrev m_S_elect : aMd := (⟨"ShardGroups", "elect", "(I)I"⟩, prog_1_method_4_code, 4, (Option.some Jvm.ClassFile.FieldType.int))
abbrev m_J_floorMod : aMd := (⟨"java/lang/Math", "floorMod", "(II)I"⟩, prog_15_method_50_code, 3, (Option.some Jvm.ClassFile.FieldType.int))
abbrev m_S_countGrants : aMd := (⟨"ShardGroups", "countGrants", "(LShardGroups$Node;II)I"⟩, prog_1_method_35_code, 6, (Option.some Jvm.ClassFile.FieldType.int))
abbrev m_N_grants : aMd := (⟨"ShardGroups$Node", "grants", "(LShardGroups$Node;I)Z"⟩, prog_8_method_5_code, 3, (Option.some Jvm.ClassFile.FieldType.boolean))
abbrev m_N_isBehind : aMd := (⟨"ShardGroups$Node", "isBehind", "(LShardGroups$Node;)Z"⟩, prog_8_method_6_code, 4, (Option.some Jvm.ClassFile.FieldType.boolean))
abbrev m_N_lastTerm : aMd := (⟨"ShardGroups$Node", "lastTerm", "()I"⟩, prog_8_method_7_code, 1, (Option.some Jvm.ClassFile.FieldType.int))
abbrev m_N_takeTerm : aMd := (⟨"ShardGroups$Node", "takeTerm", "(I)V"⟩, prog_8_method_4_code, 2, (Option.none : Option Jvm.ClassFile.FieldType))
abbrev m_E_init : aMd := (⟨"ShardGroups$Entry", "<init>", "(I)V"⟩, prog_6_method_1_code, 2, (Option.none : Option Jvm.ClassFile.FieldType))
abbrev m_N_write : aMd := (⟨"ShardGroups$Node", "write", "(LShardGroups$Entry;)I"⟩, prog_8_method_9_code, 2, (Option.some Jvm.ClassFile.FieldType.int))
abbrev m_S_ship : aMd := (⟨"ShardGroups", "ship", "(II)I"⟩, prog_1_method_5_code, 5, (Option.some Jvm.ClassFile.FieldType.int))
abbrev m_N_copyNextFrom : aMd := (⟨"ShardGroups$Node", "copyNextFrom", "(LShardGroups$Node;)V"⟩, prog_8_method_10_code, 2, (Option.none : Option Jvm.ClassFile.FieldType))
abbrev m_N_countSame : aMd := (⟨"ShardGroups$Node", "countSame", "(LShardGroups$Node;)I"⟩, prog_8_method_11_code, 4, (Option.some Jvm.ClassFile.FieldType.int))
abbrev m_J_min : aMd := (⟨"java/lang/Math", "min", "(II)I"⟩, prog_15_method_69_code, 2, (Option.some Jvm.ClassFile.FieldType.int))
abbrev m_S_countAgreed : aMd := (⟨"ShardGroups", "countAgreed", "(LShardGroups$Node;I)I"⟩, prog_1_method_36_code, 4, (Option.some Jvm.ClassFile.FieldType.int))
abbrev m_N_hasEntry : aMd := (⟨"ShardGroups$Node", "hasEntry", "(II)Z"⟩, prog_8_method_8_code, 3, (Option.some Jvm.ClassFile.FieldType.boolean))
abbrev m_S_countCopies : aMd := (⟨"ShardGroups", "countCopies", "(III)I"⟩, prog_1_method_37_code, 6, (Option.some Jvm.ClassFile.FieldType.int))
abbrev m_N_learn : aMd := (⟨"ShardGroups$Node", "learn", "(I)V"⟩, prog_8_method_12_code, 4, (Option.none : Option Jvm.ClassFile.FieldType))
abbrev m_V_carryOut : aMd := (⟨"ShardGroups$ServiceNode", "carryOut", "(LShardGroups$Entry;)V"⟩, prog_10_method_2_code, 2, (Option.none : Option Jvm.ClassFile.FieldType))
abbrev m_G_changeService : aMd := (⟨"ShardGroups$Change", "changeService", "(LShardGroups$ServiceNode;)V"⟩, prog_2_method_2_code, 4, (Option.none : Option Jvm.ClassFile.FieldType))
abbrev m_V_isComplete : aMd := (⟨"ShardGroups$ServiceNode", "isComplete", "()Z"⟩, prog_10_method_4_code, 1, (Option.some Jvm.ClassFile.FieldType.boolean))
abbrev m_G_isAllowed : aMd := (⟨"ShardGroups$Change", "isAllowed", "(LShardGroups$Configuration;)Z"⟩, prog_2_method_3_code, 2, (Option.some Jvm.ClassFile.FieldType.boolean))
abbrev m_C_countMembers : aMd := (⟨"ShardGroups$Configuration", "countMembers", "()I"⟩, prog_3_method_3_code, 6, (Option.some Jvm.ClassFile.FieldType.int))
abbrev m_C_init2 : aMd := (⟨"ShardGroups$Configuration", "<init>", "(LShardGroups$Configuration;)V"⟩, prog_3_method_2_code, 2, (Option.none : Option Jvm.ClassFile.FieldType))
abbrev m_C_join : aMd := (⟨"ShardGroups$Configuration", "join", "(I)V"⟩, prog_3_method_4_code, 3, (Option.none : Option Jvm.ClassFile.FieldType))
abbrev m_C_give : aMd := (⟨"ShardGroups$Configuration", "give", "(II)V"⟩, prog_3_method_6_code, 3, (Option.none : Option Jvm.ClassFile.FieldType))
abbrev m_C_balance : aMd := (⟨"ShardGroups$Configuration", "balance", "()V"⟩, prog_3_method_7_code, 4, (Option.none : Option Jvm.ClassFile.FieldType))
abbrev m_C_most : aMd := (⟨"ShardGroups$Configuration", "most", "()I"⟩, prog_3_method_8_code, 3, (Option.some Jvm.ClassFile.FieldType.int))
abbrev m_C_fewest : aMd := (⟨"ShardGroups$Configuration", "fewest", "()I"⟩, prog_3_method_9_code, 3, (Option.some Jvm.ClassFile.FieldType.int))
abbrev m_C_leastShardOf : aMd := (⟨"ShardGroups$Configuration", "leastShardOf", "(I)I"⟩, prog_3_method_10_code, 3, (Option.some Jvm.ClassFile.FieldType.int))
abbrev m_C_leave : aMd := (⟨"ShardGroups$Configuration", "leave", "(I)V"⟩, prog_3_method_5_code, 3, (Option.none : Option Jvm.ClassFile.FieldType))
abbrev m_V_add : aMd := (⟨"ShardGroups$ServiceNode", "add", "(LShardGroups$Configuration;)V"⟩, prog_10_method_5_code, 2, (Option.none : Option Jvm.ClassFile.FieldType))
abbrev m_E_changeService : aMd := (⟨"ShardGroups$Entry", "changeService", "(LShardGroups$ServiceNode;)V"⟩, prog_6_method_2_code, 2, (Option.none : Option Jvm.ClassFile.FieldType))
abbrev m_T_carryOut : aMd := (⟨"ShardGroups$StoreNode", "carryOut", "(LShardGroups$Entry;)V"⟩, prog_12_method_2_code, 2, (Option.none : Option Jvm.ClassFile.FieldType))
abbrev m_F_changeStore : aMd := (⟨"ShardGroups$Configure", "changeStore", "(LShardGroups$StoreNode;)V"⟩, prog_4_method_2_code, 2, (Option.none : Option Jvm.ClassFile.FieldType))
abbrev m_T_adopt : aMd := (⟨"ShardGroups$StoreNode", "adopt", "(ILShardGroups$Configuration;)V"⟩, prog_12_method_6_code, 4, (Option.none : Option Jvm.ClassFile.FieldType))
abbrev m_T_isSettled : aMd := (⟨"ShardGroups$StoreNode", "isSettled", "()Z"⟩, prog_12_method_4_code, 5, (Option.some Jvm.ClassFile.FieldType.boolean))
abbrev m_T_handOver : aMd := (⟨"ShardGroups$StoreNode", "handOver", "(LShardGroups$Shard;II)V"⟩, prog_12_method_7_code, 4, (Option.none : Option Jvm.ClassFile.FieldType))
abbrev m_H_clear : aMd := (⟨"ShardGroups$Shard", "clear", "()V"⟩, prog_11_method_3_code, 2, (Option.none : Option Jvm.ClassFile.FieldType))
abbrev m_D_changeStore : aMd := (⟨"ShardGroups$Delete", "changeStore", "(LShardGroups$StoreNode;)V"⟩, prog_5_method_2_code, 3, (Option.none : Option Jvm.ClassFile.FieldType))
abbrev m_I_changeStore : aMd := (⟨"ShardGroups$Insert", "changeStore", "(LShardGroups$StoreNode;)V"⟩, prog_7_method_2_code, 3, (Option.none : Option Jvm.ClassFile.FieldType))
abbrev m_H_copyContents : aMd := (⟨"ShardGroups$Shard", "copyContents", "(LShardGroups$Shard;)V"⟩, prog_11_method_4_code, 2, (Option.none : Option Jvm.ClassFile.FieldType))
abbrev m_R_changeStore : aMd := (⟨"ShardGroups$Request", "changeStore", "(LShardGroups$StoreNode;)V"⟩, prog_9_method_2_code, 2, (Option.none : Option Jvm.ClassFile.FieldType))
abbrev m_S_shardOf : aMd := (⟨"ShardGroups", "shardOf", "(I)I"⟩, prog_1_method_21_code, 1, (Option.some Jvm.ClassFile.FieldType.int))
abbrev m_H_serve : aMd := (⟨"ShardGroups$Shard", "serve", "(LShardGroups$Request;)V"⟩, prog_11_method_5_code, 3, (Option.none : Option Jvm.ClassFile.FieldType))
abbrev m_S_placeInShard : aMd := (⟨"ShardGroups", "placeInShard", "(I)I"⟩, prog_1_method_22_code, 1, (Option.some Jvm.ClassFile.FieldType.int))
abbrev m_E_changeStore : aMd := (⟨"ShardGroups$Entry", "changeStore", "(LShardGroups$StoreNode;)V"⟩, prog_6_method_3_code, 2, (Option.none : Option Jvm.ClassFile.FieldType))
abbrev m_J_max : aMd := (⟨"java/lang/Math", "max", "(II)I"⟩, prog_15_method_65_code, 2, (Option.some Jvm.ClassFile.FieldType.int))
abbrev m_S_change : aMd := (⟨"ShardGroups", "change", "(IIII)I"⟩, prog_1_method_6_code, 6, (Option.some Jvm.ClassFile.FieldType.int))
abbrev m_S_upService : aMd := (⟨"ShardGroups", "upService", "(I)LShardGroups$ServiceNode;"⟩, prog_1_method_32_code, 3, (Option.some (Jvm.ClassFile.FieldType.object "ShardGroups$ServiceNode")))
abbrev m_S_anyService : aMd := (⟨"ShardGroups", "anyService", "(I)LShardGroups$ServiceNode;"⟩, prog_1_method_29_code, 2, (Option.some (Jvm.ClassFile.FieldType.object "ShardGroups$ServiceNode")))
abbrev m_S_isChange : aMd := (⟨"ShardGroups", "isChange", "(III)Z"⟩, prog_1_method_27_code, 3, (Option.some Jvm.ClassFile.FieldType.boolean))
abbrev m_S_isShard : aMd := (⟨"ShardGroups", "isShard", "(I)Z"⟩, prog_1_method_23_code, 1, (Option.some Jvm.ClassFile.FieldType.boolean))
abbrev m_S_isOwningGroup : aMd := (⟨"ShardGroups", "isOwningGroup", "(I)Z"⟩, prog_1_method_26_code, 1, (Option.some Jvm.ClassFile.FieldType.boolean))
abbrev m_G_init : aMd := (⟨"ShardGroups$Change", "<init>", "(IIII)V"⟩, prog_2_method_1_code, 5, (Option.none : Option Jvm.ClassFile.FieldType))
abbrev m_S_request : aMd := (⟨"ShardGroups", "request", "(IIIIII)I"⟩, prog_1_method_7_code, 8, (Option.some Jvm.ClassFile.FieldType.int))
abbrev m_S_upStore : aMd := (⟨"ShardGroups", "upStore", "(I)LShardGroups$StoreNode;"⟩, prog_1_method_33_code, 3, (Option.some (Jvm.ClassFile.FieldType.object "ShardGroups$StoreNode")))
abbrev m_S_anyStore : aMd := (⟨"ShardGroups", "anyStore", "(I)LShardGroups$StoreNode;"⟩, prog_1_method_30_code, 2, (Option.some (Jvm.ClassFile.FieldType.object "ShardGroups$StoreNode")))
abbrev m_S_isClient : aMd := (⟨"ShardGroups", "isClient", "(I)Z"⟩, prog_1_method_25_code, 1, (Option.some Jvm.ClassFile.FieldType.boolean))
abbrev m_S_isKey : aMd := (⟨"ShardGroups", "isKey", "(I)Z"⟩, prog_1_method_24_code, 1, (Option.some Jvm.ClassFile.FieldType.boolean))
abbrev m_R_init : aMd := (⟨"ShardGroups$Request", "<init>", "(IIIIII)V"⟩, prog_9_method_1_code, 7, (Option.none : Option Jvm.ClassFile.FieldType))
abbrev m_S_poll : aMd := (⟨"ShardGroups", "poll", "(II)I"⟩, prog_1_method_8_code, 6, (Option.some Jvm.ClassFile.FieldType.int))
abbrev m_F_init : aMd := (⟨"ShardGroups$Configure", "<init>", "(IILShardGroups$Configuration;)V"⟩, prog_4_method_1_code, 4, (Option.none : Option Jvm.ClassFile.FieldType))
abbrev m_S_pull : aMd := (⟨"ShardGroups", "pull", "(III)I"⟩, prog_1_method_9_code, 6, (Option.some Jvm.ClassFile.FieldType.int))
abbrev m_I_init : aMd := (⟨"ShardGroups$Insert", "<init>", "(IIILShardGroups$Shard;)V"⟩, prog_7_method_1_code, 5, (Option.none : Option Jvm.ClassFile.FieldType))
abbrev m_S_confirm : aMd := (⟨"ShardGroups", "confirm", "(III)I"⟩, prog_1_method_10_code, 6, (Option.some Jvm.ClassFile.FieldType.int))
abbrev m_T_hasReceived : aMd := (⟨"ShardGroups$StoreNode", "hasReceived", "(II)Z"⟩, prog_12_method_5_code, 3, (Option.some Jvm.ClassFile.FieldType.boolean))
abbrev m_D_init : aMd := (⟨"ShardGroups$Delete", "<init>", "(III)V"⟩, prog_5_method_1_code, 4, (Option.none : Option Jvm.ClassFile.FieldType))
abbrev m_S_length : aMd := (⟨"ShardGroups", "length", "(I)I"⟩, prog_1_method_11_code, 3, (Option.some Jvm.ClassFile.FieldType.int))
abbrev m_S_known : aMd := (⟨"ShardGroups", "known", "(I)I"⟩, prog_1_method_12_code, 3, (Option.some Jvm.ClassFile.FieldType.int))
abbrev m_S_term : aMd := (⟨"ShardGroups", "term", "(I)I"⟩, prog_1_method_13_code, 3, (Option.some Jvm.ClassFile.FieldType.int))
abbrev m_S_configuration : aMd := (⟨"ShardGroups", "configuration", "(I)I"⟩, prog_1_method_14_code, 3, (Option.some Jvm.ClassFile.FieldType.int))
abbrev m_V_lastNumber : aMd := (⟨"ShardGroups$ServiceNode", "lastNumber", "()I"⟩, prog_10_method_3_code, 1, (Option.some Jvm.ClassFile.FieldType.int))
abbrev m_T_lastNumber : aMd := (⟨"ShardGroups$StoreNode", "lastNumber", "()I"⟩, prog_12_method_3_code, 1, (Option.some Jvm.ClassFile.FieldType.int))
abbrev m_S_owner : aMd := (⟨"ShardGroups", "owner", "(III)I"⟩, prog_1_method_15_code, 5, (Option.some Jvm.ClassFile.FieldType.int))
abbrev m_S_condition : aMd := (⟨"ShardGroups", "condition", "(II)I"⟩, prog_1_method_16_code, 4, (Option.some Jvm.ClassFile.FieldType.int))
abbrev m_S_value : aMd := (⟨"ShardGroups", "value", "(II)I"⟩, prog_1_method_17_code, 4, (Option.some Jvm.ClassFile.FieldType.int))
abbrev m_S_heldShard : aMd := (⟨"ShardGroups", "heldShard", "(II)LShardGroups$Shard;"⟩, prog_1_method_34_code, 5, (Option.some (Jvm.ClassFile.FieldType.object "ShardGroups$Shard")))
abbrev m_H_hasContents : aMd := (⟨"ShardGroups$Shard", "hasContents", "()Z"⟩, prog_11_method_2_code, 1, (Option.some Jvm.ClassFile.FieldType.boolean))
abbrev m_S_latest : aMd := (⟨"ShardGroups", "latest", "(III)I"⟩, prog_1_method_18_code, 5, (Option.some Jvm.ClassFile.FieldType.int))
abbrev m_S_answer : aMd := (⟨"ShardGroups", "answer", "(III)I"⟩, prog_1_method_19_code, 5, (Option.some Jvm.ClassFile.FieldType.int))
abbrev m_M_init : aMd := (⟨"ShardGroupsModel", "<init>", "()V"⟩, prog_14_method_1_code, 1, (Option.none : Option Jvm.ClassFile.FieldType))
abbrev m_M_crash : aMd := (⟨"ShardGroupsModel", "crash", "(I)Z"⟩, prog_14_method_5_code, 2, (Option.some Jvm.ClassFile.FieldType.boolean))
abbrev m_M_below : aMd := (⟨"ShardGroupsModel", "below", "(II)Z"⟩, prog_14_method_2_code, 2, (Option.some Jvm.ClassFile.FieldType.boolean))
abbrev m_M_recover : aMd := (⟨"ShardGroupsModel", "recover", "(I)Z"⟩, prog_14_method_6_code, 2, (Option.some Jvm.ClassFile.FieldType.boolean))
abbrev m_M_elect : aMd := (⟨"ShardGroupsModel", "elect", "(I)I"⟩, prog_14_method_13_code, 6, (Option.some Jvm.ClassFile.FieldType.int))
abbrev m_M_lastTerm : aMd := (⟨"ShardGroupsModel", "lastTerm", "(I)I"⟩, prog_14_method_9_code, 2, (Option.some Jvm.ClassFile.FieldType.int))
abbrev m_M_termAt : aMd := (⟨"ShardGroupsModel", "termAt", "(II)I"⟩, prog_14_method_8_code, 3, (Option.some Jvm.ClassFile.FieldType.int))
abbrev m_M_place : aMd := (⟨"ShardGroupsModel", "place", "(II)I"⟩, prog_14_method_7_code, 2, (Option.some Jvm.ClassFile.FieldType.int))
abbrev m_M_raise : aMd := (⟨"ShardGroupsModel", "raise", "(II)V"⟩, prog_14_method_10_code, 3, (Option.none : Option Jvm.ClassFile.FieldType))
abbrev m_M_say : aMd := (⟨"ShardGroupsModel", "say", "(IIIIII)V"⟩, prog_14_method_11_code, 8, (Option.none : Option Jvm.ClassFile.FieldType))
abbrev m_M_write : aMd := (⟨"ShardGroupsModel", "write", "(I)I"⟩, prog_14_method_12_code, 3, (Option.some Jvm.ClassFile.FieldType.int))
abbrev m_M_ship : aMd := (⟨"ShardGroupsModel", "ship", "(II)I"⟩, prog_14_method_15_code, 5, (Option.some Jvm.ClassFile.FieldType.int))
abbrev m_M_copies : aMd := (⟨"ShardGroupsModel", "copies", "(II)I"⟩, prog_14_method_14_code, 5, (Option.some Jvm.ClassFile.FieldType.int))
abbrev m_M_change : aMd := (⟨"ShardGroupsModel", "change", "(IIII)I"⟩, prog_14_method_25_code, 6, (Option.some Jvm.ClassFile.FieldType.int))
abbrev m_M_noServer : aMd := (⟨"ShardGroupsModel", "noServer", "(I)Z"⟩, prog_14_method_3_code, 2, (Option.some Jvm.ClassFile.FieldType.boolean))
abbrev m_M_request : aMd := (⟨"ShardGroupsModel", "request", "(IIIIII)I"⟩, prog_14_method_26_code, 7, (Option.some Jvm.ClassFile.FieldType.int))
abbrev m_M_noGroupNode : aMd := (⟨"ShardGroupsModel", "noGroupNode", "(I)Z"⟩, prog_14_method_4_code, 2, (Option.some Jvm.ClassFile.FieldType.boolean))
abbrev m_M_poll : aMd := (⟨"ShardGroupsModel", "poll", "(II)I"⟩, prog_14_method_27_code, 5, (Option.some Jvm.ClassFile.FieldType.int))
abbrev m_M_group : aMd := (⟨"ShardGroupsModel", "group", "(I)V"⟩, prog_14_method_24_code, 8, (Option.none : Option Jvm.ClassFile.FieldType))
abbrev m_M_configure : aMd := (⟨"ShardGroupsModel", "configure", "(II)V"⟩, prog_14_method_22_code, 7, (Option.none : Option Jvm.ClassFile.FieldType))
abbrev m_M_settled : aMd := (⟨"ShardGroupsModel", "settled", "()Z"⟩, prog_14_method_21_code, 3, (Option.some Jvm.ClassFile.FieldType.boolean))
abbrev m_M_effect : aMd := (⟨"ShardGroupsModel", "effect", "(I)V"⟩, prog_14_method_23_code, 8, (Option.none : Option Jvm.ClassFile.FieldType))
abbrev m_M_service : aMd := (⟨"ShardGroupsModel", "service", "(I)V"⟩, prog_14_method_20_code, 5, (Option.none : Option Jvm.ClassFile.FieldType))
abbrev m_M_alter : aMd := (⟨"ShardGroupsModel", "alter", "(III)V"⟩, prog_14_method_19_code, 9, (Option.none : Option Jvm.ClassFile.FieldType))
abbrev m_M_extreme : aMd := (⟨"ShardGroupsModel", "extreme", "(IZ)I"⟩, prog_14_method_17_code, 7, (Option.some Jvm.ClassFile.FieldType.int))
abbrev m_M_owned : aMd := (⟨"ShardGroupsModel", "owned", "(II)I"⟩, prog_14_method_16_code, 5, (Option.some Jvm.ClassFile.FieldType.int))
abbrev m_M_balance : aMd := (⟨"ShardGroupsModel", "balance", "(I)V"⟩, prog_14_method_18_code, 7, (Option.none : Option Jvm.ClassFile.FieldType))
abbrev m_M_pull : aMd := (⟨"ShardGroupsModel", "pull", "(III)I"⟩, prog_14_method_28_code, 7, (Option.some Jvm.ClassFile.FieldType.int))
abbrev m_M_confirm : aMd := (⟨"ShardGroupsModel", "confirm", "(III)I"⟩, prog_14_method_29_code, 6, (Option.some Jvm.ClassFile.FieldType.int))
abbrev m_M_length : aMd := (⟨"ShardGroupsModel", "length", "(I)I"⟩, prog_14_method_30_code, 2, (Option.some Jvm.ClassFile.FieldType.int))
abbrev m_M_known : aMd := (⟨"ShardGroupsModel", "known", "(I)I"⟩, prog_14_method_31_code, 2, (Option.some Jvm.ClassFile.FieldType.int))
abbrev m_M_term : aMd := (⟨"ShardGroupsModel", "term", "(I)I"⟩, prog_14_method_32_code, 2, (Option.some Jvm.ClassFile.FieldType.int))
abbrev m_M_configuration : aMd := (⟨"ShardGroupsModel", "configuration", "(I)I"⟩, prog_14_method_33_code, 2, (Option.some Jvm.ClassFile.FieldType.int))
abbrev m_M_owner : aMd := (⟨"ShardGroupsModel", "owner", "(III)I"⟩, prog_14_method_34_code, 4, (Option.some Jvm.ClassFile.FieldType.int))
abbrev m_M_condition : aMd := (⟨"ShardGroupsModel", "condition", "(II)I"⟩, prog_14_method_35_code, 3, (Option.some Jvm.ClassFile.FieldType.int))
abbrev m_M_value : aMd := (⟨"ShardGroupsModel", "value", "(II)I"⟩, prog_14_method_37_code, 3, (Option.some Jvm.ClassFile.FieldType.int))
abbrev m_M_has : aMd := (⟨"ShardGroupsModel", "has", "(II)Z"⟩, prog_14_method_36_code, 3, (Option.some Jvm.ClassFile.FieldType.boolean))
abbrev m_M_latest : aMd := (⟨"ShardGroupsModel", "latest", "(III)I"⟩, prog_14_method_38_code, 4, (Option.some Jvm.ClassFile.FieldType.int))
abbrev m_M_answer : aMd := (⟨"ShardGroupsModel", "answer", "(III)I"⟩, prog_14_method_39_code, 4, (Option.some Jvm.ClassFile.FieldType.int))
abbrev m_L_law : aMd := (⟨"ShardGroupsLaw", "law", "([I)Z"⟩, code, 4, (some .boolean))
theorem f_C_9_C : aFl "ShardGroups$Configuration" 9 1 0 := ⟨"ShardGroups$Configuration", T_C, 3, "ShardGroups$Configuration", rfl, by decide, in_C, w36, Or.inl rfl⟩
theorem p_C_9_C : aPl "ShardGroups$Configuration" 9 1 0 (.array .boolean) true := ⟨"ShardGroups$Configuration", T_C, 3, "ShardGroups$Configuration", tt_C, rfl, by decide, in_C, w36, Or.inl rfl, ty_C, nm_C, rfl, rfl, fun _ => rfl⟩
theorem f_G_56_C : aFl "ShardGroups$Change" 56 1 0 := ⟨"ShardGroups$Configuration", T_C, 3, "ShardGroups$Configuration", rfl, by decide, in_C, w37, Or.inl rfl⟩
theorem f_C_15_C : aFl "ShardGroups$Configuration" 15 1 1 := ⟨"ShardGroups$Configuration", T_C, 3, "ShardGroups$Configuration", rfl, by decide, in_C, w38, Or.inl rfl⟩
theorem p_C_15_C : aPl "ShardGroups$Configuration" 15 1 1 (.array .int) true := ⟨"ShardGroups$Configuration", T_C, 3, "ShardGroups$Configuration", tt_C, rfl, by decide, in_C, w38, Or.inl rfl, ty_C, nm_C, rfl, rfl, fun _ => rfl⟩
theorem f_T_42_C : aFl "ShardGroups$StoreNode" 42 1 1 := ⟨"ShardGroups$Configuration", T_C, 3, "ShardGroups$Configuration", rfl, by decide, in_C, w39, Or.inl rfl⟩
theorem f_S_172_C : aFl "ShardGroups" 172 1 1 := ⟨"ShardGroups$Configuration", T_C, 3, "ShardGroups$Configuration", rfl, by decide, in_C, w40, Or.inl rfl⟩
theorem f_C_19_C : aFl "ShardGroups$Configuration" 19 1 2 := ⟨"ShardGroups$Configuration", T_C, 3, "ShardGroups$Configuration", rfl, by decide, in_C, w41, Or.inl rfl⟩
theorem p_C_19_C : aPl "ShardGroups$Configuration" 19 1 2 (.array .int) true := ⟨"ShardGroups$Configuration", T_C, 3, "ShardGroups$Configuration", tt_C, rfl, by decide, in_C, w41, Or.inl rfl, ty_C, nm_C, rfl, rfl, fun _ => rfl⟩
theorem f_V_11_V : aFl "ShardGroups$ServiceNode" 11 2 6 := ⟨"ShardGroups$ServiceNode", T_V, 8, "ShardGroups$ServiceNode", rfl, by decide, in_V, w63, Or.inl rfl⟩
theorem p_V_11_V : aPl "ShardGroups$ServiceNode" 11 2 6 (.array (.object "ShardGroups$Configuration")) true := ⟨"ShardGroups$ServiceNode", T_V, 8, "ShardGroups$ServiceNode", tt_V, rfl, by decide, in_V, w63, Or.inl rfl, ty_V, nm_V, rfl, rfl, fun _ => rfl⟩
theorem f_G_21_V : aFl "ShardGroups$Change" 21 2 6 := ⟨"ShardGroups$ServiceNode", T_V, 8, "ShardGroups$ServiceNode", rfl, by decide, in_V, w64, Or.inl rfl⟩
theorem f_S_144_V : aFl "ShardGroups" 144 2 6 := ⟨"ShardGroups$ServiceNode", T_V, 8, "ShardGroups$ServiceNode", rfl, by decide, in_V, w65, Or.inl rfl⟩
theorem f_G_27_V : aFl "ShardGroups$Change" 27 2 7 := ⟨"ShardGroups$ServiceNode", T_V, 8, "ShardGroups$ServiceNode", rfl, by decide, in_V, w66, Or.inl rfl⟩
theorem f_V_23_V : aFl "ShardGroups$ServiceNode" 23 2 7 := ⟨"ShardGroups$ServiceNode", T_V, 8, "ShardGroups$ServiceNode", rfl, by decide, in_V, w67, Or.inl rfl⟩
theorem p_V_23_V : aPl "ShardGroups$ServiceNode" 23 2 7 .int false := ⟨"ShardGroups$ServiceNode", T_V, 8, "ShardGroups$ServiceNode", tt_V, rfl, by decide, in_V, w67, Or.inl rfl, ty_V, nm_V, rfl, rfl, fun h => by cases h⟩
theorem f_S_139_V : aFl "ShardGroups" 139 2 7 := ⟨"ShardGroups$ServiceNode", T_V, 8, "ShardGroups$ServiceNode", rfl, by decide, in_V, w68, Or.inl rfl⟩
theorem f_N_9_V : aFl "ShardGroups$Node" 9 2 0 := ⟨"ShardGroups$ServiceNode", T_V, 8, "ShardGroups$Node", rfl, by decide, in_V, w69, Or.inl rfl⟩
theorem p_N_9_V : aPl "ShardGroups$Node" 9 2 0 .boolean false := ⟨"ShardGroups$ServiceNode", T_V, 8, "ShardGroups$Node", tt_V, rfl, by decide, in_V, w69, Or.inl rfl, ty_V, nm_V, rfl, rfl, fun h => by cases h⟩
theorem f_N_9_T : aFl "ShardGroups$Node" 9 3 0 := ⟨"ShardGroups$StoreNode", T_T, 10, "ShardGroups$Node", rfl, by decide, in_T, w69, Or.inl rfl⟩
theorem p_N_9_T : aPl "ShardGroups$Node" 9 3 0 .boolean false := ⟨"ShardGroups$StoreNode", T_T, 10, "ShardGroups$Node", tt_T, rfl, by decide, in_T, w69, Or.inl rfl, ty_T, nm_T, rfl, rfl, fun h => by cases h⟩
theorem f_S_44_V : aFl "ShardGroups" 44 2 0 := ⟨"ShardGroups$ServiceNode", T_V, 8, "ShardGroups$Node", rfl, by decide, in_V, w70, Or.inl rfl⟩
theorem p_S_44_V : aPl "ShardGroups" 44 2 0 .boolean false := ⟨"ShardGroups$ServiceNode", T_V, 8, "ShardGroups$Node", tt_V, rfl, by decide, in_V, w70, Or.inl rfl, ty_V, nm_V, rfl, rfl, fun h => by cases h⟩
theorem f_S_44_T : aFl "ShardGroups" 44 3 0 := ⟨"ShardGroups$StoreNode", T_T, 10, "ShardGroups$Node", rfl, by decide, in_T, w70, Or.inl rfl⟩
theorem p_S_44_T : aPl "ShardGroups" 44 3 0 .boolean false := ⟨"ShardGroups$StoreNode", T_T, 10, "ShardGroups$Node", tt_T, rfl, by decide, in_T, w70, Or.inl rfl, ty_T, nm_T, rfl, rfl, fun h => by cases h⟩
theorem f_S_217_V : aFl "ShardGroups" 217 2 0 := ⟨"ShardGroups$ServiceNode", T_V, 8, "ShardGroups$ServiceNode", rfl, by decide, in_V, w71, Or.inr w72⟩
theorem f_S_218_T : aFl "ShardGroups" 218 3 0 := ⟨"ShardGroups$StoreNode", T_T, 10, "ShardGroups$StoreNode", rfl, by decide, in_T, w73, Or.inr w74⟩
theorem f_S_48_V : aFl "ShardGroups" 48 2 1 := ⟨"ShardGroups$ServiceNode", T_V, 8, "ShardGroups$Node", rfl, by decide, in_V, w75, Or.inl rfl⟩
theorem p_S_48_V : aPl "ShardGroups" 48 2 1 .boolean false := ⟨"ShardGroups$ServiceNode", T_V, 8, "ShardGroups$Node", tt_V, rfl, by decide, in_V, w75, Or.inl rfl, ty_V, nm_V, rfl, rfl, fun h => by cases h⟩
theorem f_S_48_T : aFl "ShardGroups" 48 3 1 := ⟨"ShardGroups$StoreNode", T_T, 10, "ShardGroups$Node", rfl, by decide, in_T, w75, Or.inl rfl⟩
theorem p_S_48_T : aPl "ShardGroups" 48 3 1 .boolean false := ⟨"ShardGroups$StoreNode", T_T, 10, "ShardGroups$Node", tt_T, rfl, by decide, in_T, w75, Or.inl rfl, ty_T, nm_T, rfl, rfl, fun h => by cases h⟩
theorem f_N_25_V : aFl "ShardGroups$Node" 25 2 1 := ⟨"ShardGroups$ServiceNode", T_V, 8, "ShardGroups$Node", rfl, by decide, in_V, w76, Or.inl rfl⟩
theorem p_N_25_V : aPl "ShardGroups$Node" 25 2 1 .boolean false := ⟨"ShardGroups$ServiceNode", T_V, 8, "ShardGroups$Node", tt_V, rfl, by decide, in_V, w76, Or.inl rfl, ty_V, nm_V, rfl, rfl, fun h => by cases h⟩
theorem f_N_25_T : aFl "ShardGroups$Node" 25 3 1 := ⟨"ShardGroups$StoreNode", T_T, 10, "ShardGroups$Node", rfl, by decide, in_T, w76, Or.inl rfl⟩
theorem p_N_25_T : aPl "ShardGroups$Node" 25 3 1 .boolean false := ⟨"ShardGroups$StoreNode", T_T, 10, "ShardGroups$Node", tt_T, rfl, by decide, in_T, w76, Or.inl rfl, ty_T, nm_T, rfl, rfl, fun h => by cases h⟩
theorem f_S_105_V : aFl "ShardGroups" 105 2 1 := ⟨"ShardGroups$ServiceNode", T_V, 8, "ShardGroups$ServiceNode", rfl, by decide, in_V, w77, Or.inr w78⟩
theorem f_S_124_T : aFl "ShardGroups" 124 3 1 := ⟨"ShardGroups$StoreNode", T_T, 10, "ShardGroups$StoreNode", rfl, by decide, in_T, w79, Or.inr w80⟩
theorem f_N_21_V : aFl "ShardGroups$Node" 21 2 2 := ⟨"ShardGroups$ServiceNode", T_V, 8, "ShardGroups$Node", rfl, by decide, in_V, w81, Or.inl rfl⟩
theorem p_N_21_V : aPl "ShardGroups$Node" 21 2 2 .int false := ⟨"ShardGroups$ServiceNode", T_V, 8, "ShardGroups$Node", tt_V, rfl, by decide, in_V, w81, Or.inl rfl, ty_V, nm_V, rfl, rfl, fun h => by cases h⟩
theorem f_N_21_T : aFl "ShardGroups$Node" 21 3 2 := ⟨"ShardGroups$StoreNode", T_T, 10, "ShardGroups$Node", rfl, by decide, in_T, w81, Or.inl rfl⟩
theorem p_N_21_T : aPl "ShardGroups$Node" 21 3 2 .int false := ⟨"ShardGroups$StoreNode", T_T, 10, "ShardGroups$Node", tt_T, rfl, by decide, in_T, w81, Or.inl rfl, ty_T, nm_T, rfl, rfl, fun h => by cases h⟩
theorem f_S_54_V : aFl "ShardGroups" 54 2 2 := ⟨"ShardGroups$ServiceNode", T_V, 8, "ShardGroups$Node", rfl, by decide, in_V, w82, Or.inl rfl⟩
theorem f_S_54_T : aFl "ShardGroups" 54 3 2 := ⟨"ShardGroups$StoreNode", T_T, 10, "ShardGroups$Node", rfl, by decide, in_T, w82, Or.inl rfl⟩
theorem f_S_108_V : aFl "ShardGroups" 108 2 2 := ⟨"ShardGroups$ServiceNode", T_V, 8, "ShardGroups$ServiceNode", rfl, by decide, in_V, w83, Or.inr w84⟩
theorem f_S_127_T : aFl "ShardGroups" 127 3 2 := ⟨"ShardGroups$StoreNode", T_T, 10, "ShardGroups$StoreNode", rfl, by decide, in_T, w85, Or.inr w86⟩
theorem f_S_94_V : aFl "ShardGroups" 94 2 3 := ⟨"ShardGroups$ServiceNode", T_V, 8, "ShardGroups$Node", rfl, by decide, in_V, w87, Or.inl rfl⟩
theorem f_S_94_T : aFl "ShardGroups" 94 3 3 := ⟨"ShardGroups$StoreNode", T_T, 10, "ShardGroups$Node", rfl, by decide, in_T, w87, Or.inl rfl⟩
theorem f_N_40_V : aFl "ShardGroups$Node" 40 2 3 := ⟨"ShardGroups$ServiceNode", T_V, 8, "ShardGroups$Node", rfl, by decide, in_V, w88, Or.inl rfl⟩
theorem p_N_40_V : aPl "ShardGroups$Node" 40 2 3 .int false := ⟨"ShardGroups$ServiceNode", T_V, 8, "ShardGroups$Node", tt_V, rfl, by decide, in_V, w88, Or.inl rfl, ty_V, nm_V, rfl, rfl, fun h => by cases h⟩
theorem f_N_40_T : aFl "ShardGroups$Node" 40 3 3 := ⟨"ShardGroups$StoreNode", T_T, 10, "ShardGroups$Node", rfl, by decide, in_T, w88, Or.inl rfl⟩
theorem p_N_40_T : aPl "ShardGroups$Node" 40 3 3 .int false := ⟨"ShardGroups$StoreNode", T_T, 10, "ShardGroups$Node", tt_T, rfl, by decide, in_T, w88, Or.inl rfl, ty_T, nm_T, rfl, rfl, fun h => by cases h⟩
theorem f_S_91_V : aFl "ShardGroups" 91 2 4 := ⟨"ShardGroups$ServiceNode", T_V, 8, "ShardGroups$Node", rfl, by decide, in_V, w89, Or.inl rfl⟩
theorem f_S_91_T : aFl "ShardGroups" 91 3 4 := ⟨"ShardGroups$StoreNode", T_T, 10, "ShardGroups$Node", rfl, by decide, in_T, w89, Or.inl rfl⟩
theorem f_N_58_V : aFl "ShardGroups$Node" 58 2 4 := ⟨"ShardGroups$ServiceNode", T_V, 8, "ShardGroups$Node", rfl, by decide, in_V, w90, Or.inl rfl⟩
theorem p_N_58_V : aPl "ShardGroups$Node" 58 2 4 .int false := ⟨"ShardGroups$ServiceNode", T_V, 8, "ShardGroups$Node", tt_V, rfl, by decide, in_V, w90, Or.inl rfl, ty_V, nm_V, rfl, rfl, fun h => by cases h⟩
theorem f_N_58_T : aFl "ShardGroups$Node" 58 3 4 := ⟨"ShardGroups$StoreNode", T_T, 10, "ShardGroups$Node", rfl, by decide, in_T, w90, Or.inl rfl⟩
theorem p_N_58_T : aPl "ShardGroups$Node" 58 3 4 .int false := ⟨"ShardGroups$StoreNode", T_T, 10, "ShardGroups$Node", tt_T, rfl, by decide, in_T, w90, Or.inl rfl, ty_T, nm_T, rfl, rfl, fun h => by cases h⟩
theorem f_N_17_V : aFl "ShardGroups$Node" 17 2 5 := ⟨"ShardGroups$ServiceNode", T_V, 8, "ShardGroups$Node", rfl, by decide, in_V, w91, Or.inl rfl⟩
theorem p_N_17_V : aPl "ShardGroups$Node" 17 2 5 (.array (.object "ShardGroups$Entry")) true := ⟨"ShardGroups$ServiceNode", T_V, 8, "ShardGroups$Node", tt_V, rfl, by decide, in_V, w91, Or.inl rfl, ty_V, nm_V, rfl, rfl, fun _ => rfl⟩
theorem f_N_17_T : aFl "ShardGroups$Node" 17 3 5 := ⟨"ShardGroups$StoreNode", T_T, 10, "ShardGroups$Node", rfl, by decide, in_T, w91, Or.inl rfl⟩
theorem p_N_17_T : aPl "ShardGroups$Node" 17 3 5 (.array (.object "ShardGroups$Entry")) true := ⟨"ShardGroups$StoreNode", T_T, 10, "ShardGroups$Node", tt_T, rfl, by decide, in_T, w91, Or.inl rfl, ty_T, nm_T, rfl, rfl, fun _ => rfl⟩
theorem f_H_9_H : aFl "ShardGroups$Shard" 9 4 0 := ⟨"ShardGroups$Shard", T_H, 4, "ShardGroups$Shard", rfl, by decide, in_H, w124, Or.inl rfl⟩
theorem p_H_9_H : aPl "ShardGroups$Shard" 9 4 0 .int false := ⟨"ShardGroups$Shard", T_H, 4, "ShardGroups$Shard", tt_H, rfl, by decide, in_H, w124, Or.inl rfl, ty_H, nm_H, rfl, rfl, fun h => by cases h⟩
theorem f_D_24_H : aFl "ShardGroups$Delete" 24 4 0 := ⟨"ShardGroups$Shard", T_H, 4, "ShardGroups$Shard", rfl, by decide, in_H, w125, Or.inl rfl⟩
theorem p_D_24_H : aPl "ShardGroups$Delete" 24 4 0 .int false := ⟨"ShardGroups$Shard", T_H, 4, "ShardGroups$Shard", tt_H, rfl, by decide, in_H, w125, Or.inl rfl, ty_H, nm_H, rfl, rfl, fun h => by cases h⟩
theorem f_I_37_H : aFl "ShardGroups$Insert" 37 4 0 := ⟨"ShardGroups$Shard", T_H, 4, "ShardGroups$Shard", rfl, by decide, in_H, w126, Or.inl rfl⟩
theorem p_I_37_H : aPl "ShardGroups$Insert" 37 4 0 .int false := ⟨"ShardGroups$Shard", T_H, 4, "ShardGroups$Shard", tt_H, rfl, by decide, in_H, w126, Or.inl rfl, ty_H, nm_H, rfl, rfl, fun h => by cases h⟩
theorem f_T_35_H : aFl "ShardGroups$StoreNode" 35 4 0 := ⟨"ShardGroups$Shard", T_H, 4, "ShardGroups$Shard", rfl, by decide, in_H, w127, Or.inl rfl⟩
theorem p_T_35_H : aPl "ShardGroups$StoreNode" 35 4 0 .int false := ⟨"ShardGroups$Shard", T_H, 4, "ShardGroups$Shard", tt_H, rfl, by decide, in_H, w127, Or.inl rfl, ty_H, nm_H, rfl, rfl, fun h => by cases h⟩
theorem f_S_158_H : aFl "ShardGroups" 158 4 0 := ⟨"ShardGroups$Shard", T_H, 4, "ShardGroups$Shard", rfl, by decide, in_H, w128, Or.inl rfl⟩
theorem f_H_15_H : aFl "ShardGroups$Shard" 15 4 1 := ⟨"ShardGroups$Shard", T_H, 4, "ShardGroups$Shard", rfl, by decide, in_H, w129, Or.inl rfl⟩
theorem p_H_15_H : aPl "ShardGroups$Shard" 15 4 1 (.array .int) true := ⟨"ShardGroups$Shard", T_H, 4, "ShardGroups$Shard", tt_H, rfl, by decide, in_H, w129, Or.inl rfl, ty_H, nm_H, rfl, rfl, fun _ => rfl⟩
theorem f_S_202_H : aFl "ShardGroups" 202 4 1 := ⟨"ShardGroups$Shard", T_H, 4, "ShardGroups$Shard", rfl, by decide, in_H, w130, Or.inl rfl⟩
theorem f_H_19_H : aFl "ShardGroups$Shard" 19 4 2 := ⟨"ShardGroups$Shard", T_H, 4, "ShardGroups$Shard", rfl, by decide, in_H, w131, Or.inl rfl⟩
theorem p_H_19_H : aPl "ShardGroups$Shard" 19 4 2 (.array .int) true := ⟨"ShardGroups$Shard", T_H, 4, "ShardGroups$Shard", tt_H, rfl, by decide, in_H, w131, Or.inl rfl, ty_H, nm_H, rfl, rfl, fun _ => rfl⟩
theorem f_S_208_H : aFl "ShardGroups" 208 4 2 := ⟨"ShardGroups$Shard", T_H, 4, "ShardGroups$Shard", rfl, by decide, in_H, w132, Or.inl rfl⟩
theorem f_H_22_H : aFl "ShardGroups$Shard" 22 4 3 := ⟨"ShardGroups$Shard", T_H, 4, "ShardGroups$Shard", rfl, by decide, in_H, w133, Or.inl rfl⟩
theorem p_H_22_H : aPl "ShardGroups$Shard" 22 4 3 (.array .int) true := ⟨"ShardGroups$Shard", T_H, 4, "ShardGroups$Shard", tt_H, rfl, by decide, in_H, w133, Or.inl rfl, ty_H, nm_H, rfl, rfl, fun _ => rfl⟩
theorem f_S_211_H : aFl "ShardGroups" 211 4 3 := ⟨"ShardGroups$Shard", T_H, 4, "ShardGroups$Shard", rfl, by decide, in_H, w134, Or.inl rfl⟩
theorem f_T_17_T : aFl "ShardGroups$StoreNode" 17 3 6 := ⟨"ShardGroups$StoreNode", T_T, 10, "ShardGroups$StoreNode", rfl, by decide, in_T, w144, Or.inl rfl⟩
theorem p_T_17_T : aPl "ShardGroups$StoreNode" 17 3 6 .int true := ⟨"ShardGroups$StoreNode", T_T, 10, "ShardGroups$StoreNode", tt_T, rfl, by decide, in_T, w144, Or.inl rfl, ty_T, nm_T, rfl, rfl, fun _ => rfl⟩
theorem f_S_176_T : aFl "ShardGroups" 176 3 6 := ⟨"ShardGroups$StoreNode", T_T, 10, "ShardGroups$StoreNode", rfl, by decide, in_T, w145, Or.inl rfl⟩
theorem f_D_29_T : aFl "ShardGroups$Delete" 29 3 7 := ⟨"ShardGroups$StoreNode", T_T, 10, "ShardGroups$StoreNode", rfl, by decide, in_T, w146, Or.inl rfl⟩
theorem f_I_40_T : aFl "ShardGroups$Insert" 40 3 7 := ⟨"ShardGroups$StoreNode", T_T, 10, "ShardGroups$StoreNode", rfl, by decide, in_T, w147, Or.inl rfl⟩
theorem f_T_32_T : aFl "ShardGroups$StoreNode" 32 3 7 := ⟨"ShardGroups$StoreNode", T_T, 10, "ShardGroups$StoreNode", rfl, by decide, in_T, w148, Or.inl rfl⟩
theorem p_T_32_T : aPl "ShardGroups$StoreNode" 32 3 7 .int false := ⟨"ShardGroups$StoreNode", T_T, 10, "ShardGroups$StoreNode", tt_T, rfl, by decide, in_T, w148, Or.inl rfl, ty_T, nm_T, rfl, rfl, fun h => by cases h⟩
theorem f_S_132_T : aFl "ShardGroups" 132 3 7 := ⟨"ShardGroups$StoreNode", T_T, 10, "ShardGroups$StoreNode", rfl, by decide, in_T, w149, Or.inl rfl⟩
theorem f_T_21_T : aFl "ShardGroups$StoreNode" 21 3 8 := ⟨"ShardGroups$StoreNode", T_T, 10, "ShardGroups$StoreNode", rfl, by decide, in_T, w150, Or.inl rfl⟩
theorem p_T_21_T : aPl "ShardGroups$StoreNode" 21 3 8 (.object "ShardGroups$Configuration") false := ⟨"ShardGroups$StoreNode", T_T, 10, "ShardGroups$StoreNode", tt_T, rfl, by decide, in_T, w150, Or.inl rfl, ty_T, nm_T, rfl, rfl, fun h => by cases h⟩
theorem f_S_168_T : aFl "ShardGroups" 168 3 8 := ⟨"ShardGroups$StoreNode", T_T, 10, "ShardGroups$StoreNode", rfl, by decide, in_T, w151, Or.inl rfl⟩
theorem f_T_11_T : aFl "ShardGroups$StoreNode" 11 3 9 := ⟨"ShardGroups$StoreNode", T_T, 10, "ShardGroups$StoreNode", rfl, by decide, in_T, w152, Or.inl rfl⟩
theorem p_T_11_T : aPl "ShardGroups$StoreNode" 11 3 9 (.array (.object "ShardGroups$Shard")) true := ⟨"ShardGroups$StoreNode", T_T, 10, "ShardGroups$StoreNode", tt_T, rfl, by decide, in_T, w152, Or.inl rfl, ty_T, nm_T, rfl, rfl, fun _ => rfl⟩
theorem f_D_18_T : aFl "ShardGroups$Delete" 18 3 9 := ⟨"ShardGroups$StoreNode", T_T, 10, "ShardGroups$StoreNode", rfl, by decide, in_T, w153, Or.inl rfl⟩
theorem f_I_31_T : aFl "ShardGroups$Insert" 31 3 9 := ⟨"ShardGroups$StoreNode", T_T, 10, "ShardGroups$StoreNode", rfl, by decide, in_T, w154, Or.inl rfl⟩
theorem f_R_25_T : aFl "ShardGroups$Request" 25 3 9 := ⟨"ShardGroups$StoreNode", T_T, 10, "ShardGroups$StoreNode", rfl, by decide, in_T, w155, Or.inl rfl⟩
theorem f_S_154_T : aFl "ShardGroups" 154 3 9 := ⟨"ShardGroups$StoreNode", T_T, 10, "ShardGroups$StoreNode", rfl, by decide, in_T, w156, Or.inl rfl⟩
theorem f_S_11_S : aFl "ShardGroups" 11 0 0 := ⟨"ShardGroups", T_S, 3, "ShardGroups", rfl, by decide, in_S, w172, Or.inl rfl⟩
theorem p_S_11_S : aPl "ShardGroups" 11 0 0 (.array (.object "ShardGroups$Node")) true := ⟨"ShardGroups", T_S, 3, "ShardGroups", tt_S, rfl, by decide, in_S, w172, Or.inl rfl, ty_S, nm_S, rfl, rfl, fun _ => rfl⟩
theorem f_S_17_S : aFl "ShardGroups" 17 0 1 := ⟨"ShardGroups", T_S, 3, "ShardGroups", rfl, by decide, in_S, w173, Or.inl rfl⟩
theorem p_S_17_S : aPl "ShardGroups" 17 0 1 (.array (.object "ShardGroups$ServiceNode")) true := ⟨"ShardGroups", T_S, 3, "ShardGroups", tt_S, rfl, by decide, in_S, w173, Or.inl rfl, ty_S, nm_S, rfl, rfl, fun _ => rfl⟩
theorem f_S_23_S : aFl "ShardGroups" 23 0 2 := ⟨"ShardGroups", T_S, 3, "ShardGroups", rfl, by decide, in_S, w174, Or.inl rfl⟩
theorem p_S_23_S : aPl "ShardGroups" 23 0 2 (.array (.object "ShardGroups$StoreNode")) true := ⟨"ShardGroups", T_S, 3, "ShardGroups", tt_S, rfl, by decide, in_S, w174, Or.inl rfl, ty_S, nm_S, rfl, rfl, fun _ => rfl⟩
theorem f_E_7_E : aFl "ShardGroups$Entry" 7 5 0 := ⟨"ShardGroups$Entry", T_E, 1, "ShardGroups$Entry", rfl, by decide, in_E, w239, Or.inl rfl⟩
theorem p_E_7_E : aPl "ShardGroups$Entry" 7 5 0 .int true := ⟨"ShardGroups$Entry", T_E, 1, "ShardGroups$Entry", tt_E, rfl, by decide, in_E, w239, Or.inl rfl, ty_E, nm_E, rfl, rfl, fun _ => rfl⟩
theorem f_E_7_G : aFl "ShardGroups$Entry" 7 6 0 := ⟨"ShardGroups$Change", T_G, 4, "ShardGroups$Entry", rfl, by decide, in_G, w239, Or.inl rfl⟩
theorem p_E_7_G : aPl "ShardGroups$Entry" 7 6 0 .int true := ⟨"ShardGroups$Change", T_G, 4, "ShardGroups$Entry", tt_G, rfl, by decide, in_G, w239, Or.inl rfl, ty_G, nm_G, rfl, rfl, fun _ => rfl⟩
theorem f_E_7_F : aFl "ShardGroups$Entry" 7 7 0 := ⟨"ShardGroups$Configure", T_F, 3, "ShardGroups$Entry", rfl, by decide, in_F, w239, Or.inl rfl⟩
theorem p_E_7_F : aPl "ShardGroups$Entry" 7 7 0 .int true := ⟨"ShardGroups$Configure", T_F, 3, "ShardGroups$Entry", tt_F, rfl, by decide, in_F, w239, Or.inl rfl, ty_F, nm_F, rfl, rfl, fun _ => rfl⟩
theorem f_E_7_R : aFl "ShardGroups$Entry" 7 8 0 := ⟨"ShardGroups$Request", T_R, 6, "ShardGroups$Entry", rfl, by decide, in_R, w239, Or.inl rfl⟩
theorem p_E_7_R : aPl "ShardGroups$Entry" 7 8 0 .int true := ⟨"ShardGroups$Request", T_R, 6, "ShardGroups$Entry", tt_R, rfl, by decide, in_R, w239, Or.inl rfl, ty_R, nm_R, rfl, rfl, fun _ => rfl⟩
theorem f_E_7_I : aFl "ShardGroups$Entry" 7 9 0 := ⟨"ShardGroups$Insert", T_I, 4, "ShardGroups$Entry", rfl, by decide, in_I, w239, Or.inl rfl⟩
theorem p_E_7_I : aPl "ShardGroups$Entry" 7 9 0 .int true := ⟨"ShardGroups$Insert", T_I, 4, "ShardGroups$Entry", tt_I, rfl, by decide, in_I, w239, Or.inl rfl, ty_I, nm_I, rfl, rfl, fun _ => rfl⟩
theorem f_E_7_D : aFl "ShardGroups$Entry" 7 10 0 := ⟨"ShardGroups$Delete", T_D, 3, "ShardGroups$Entry", rfl, by decide, in_D, w239, Or.inl rfl⟩
theorem p_E_7_D : aPl "ShardGroups$Entry" 7 10 0 .int true := ⟨"ShardGroups$Delete", T_D, 3, "ShardGroups$Entry", tt_D, rfl, by decide, in_D, w239, Or.inl rfl, ty_D, nm_D, rfl, rfl, fun _ => rfl⟩
theorem f_N_43_E : aFl "ShardGroups$Node" 43 5 0 := ⟨"ShardGroups$Entry", T_E, 1, "ShardGroups$Entry", rfl, by decide, in_E, w240, Or.inl rfl⟩
theorem f_N_43_G : aFl "ShardGroups$Node" 43 6 0 := ⟨"ShardGroups$Change", T_G, 4, "ShardGroups$Entry", rfl, by decide, in_G, w240, Or.inl rfl⟩
theorem f_N_43_F : aFl "ShardGroups$Node" 43 7 0 := ⟨"ShardGroups$Configure", T_F, 3, "ShardGroups$Entry", rfl, by decide, in_F, w240, Or.inl rfl⟩
theorem f_N_43_R : aFl "ShardGroups$Node" 43 8 0 := ⟨"ShardGroups$Request", T_R, 6, "ShardGroups$Entry", rfl, by decide, in_R, w240, Or.inl rfl⟩
theorem f_N_43_I : aFl "ShardGroups$Node" 43 9 0 := ⟨"ShardGroups$Insert", T_I, 4, "ShardGroups$Entry", rfl, by decide, in_I, w240, Or.inl rfl⟩
theorem f_N_43_D : aFl "ShardGroups$Node" 43 10 0 := ⟨"ShardGroups$Delete", T_D, 3, "ShardGroups$Entry", rfl, by decide, in_D, w240, Or.inl rfl⟩
theorem f_G_9_G : aFl "ShardGroups$Change" 9 6 1 := ⟨"ShardGroups$Change", T_G, 4, "ShardGroups$Change", rfl, by decide, in_G, w444, Or.inl rfl⟩
theorem p_G_9_G : aPl "ShardGroups$Change" 9 6 1 .int true := ⟨"ShardGroups$Change", T_G, 4, "ShardGroups$Change", tt_G, rfl, by decide, in_G, w444, Or.inl rfl, ty_G, nm_G, rfl, rfl, fun _ => rfl⟩
theorem f_G_15_G : aFl "ShardGroups$Change" 15 6 2 := ⟨"ShardGroups$Change", T_G, 4, "ShardGroups$Change", rfl, by decide, in_G, w445, Or.inl rfl⟩
theorem p_G_15_G : aPl "ShardGroups$Change" 15 6 2 .int true := ⟨"ShardGroups$Change", T_G, 4, "ShardGroups$Change", tt_G, rfl, by decide, in_G, w445, Or.inl rfl, ty_G, nm_G, rfl, rfl, fun _ => rfl⟩
theorem f_G_18_G : aFl "ShardGroups$Change" 18 6 3 := ⟨"ShardGroups$Change", T_G, 4, "ShardGroups$Change", rfl, by decide, in_G, w446, Or.inl rfl⟩
theorem p_G_18_G : aPl "ShardGroups$Change" 18 6 3 .int true := ⟨"ShardGroups$Change", T_G, 4, "ShardGroups$Change", tt_G, rfl, by decide, in_G, w446, Or.inl rfl, ty_G, nm_G, rfl, rfl, fun _ => rfl⟩
theorem f_R_7_R : aFl "ShardGroups$Request" 7 8 1 := ⟨"ShardGroups$Request", T_R, 6, "ShardGroups$Request", rfl, by decide, in_R, w483, Or.inl rfl⟩
theorem p_R_7_R : aPl "ShardGroups$Request" 7 8 1 .int true := ⟨"ShardGroups$Request", T_R, 6, "ShardGroups$Request", tt_R, rfl, by decide, in_R, w483, Or.inl rfl, ty_R, nm_R, rfl, rfl, fun _ => rfl⟩
theorem f_H_36_R : aFl "ShardGroups$Shard" 36 8 1 := ⟨"ShardGroups$Request", T_R, 6, "ShardGroups$Request", rfl, by decide, in_R, w484, Or.inl rfl⟩
theorem f_R_13_R : aFl "ShardGroups$Request" 13 8 2 := ⟨"ShardGroups$Request", T_R, 6, "ShardGroups$Request", rfl, by decide, in_R, w485, Or.inl rfl⟩
theorem p_R_13_R : aPl "ShardGroups$Request" 13 8 2 .int true := ⟨"ShardGroups$Request", T_R, 6, "ShardGroups$Request", tt_R, rfl, by decide, in_R, w485, Or.inl rfl, ty_R, nm_R, rfl, rfl, fun _ => rfl⟩
theorem f_H_31_R : aFl "ShardGroups$Shard" 31 8 2 := ⟨"ShardGroups$Request", T_R, 6, "ShardGroups$Request", rfl, by decide, in_R, w486, Or.inl rfl⟩
theorem f_R_16_R : aFl "ShardGroups$Request" 16 8 3 := ⟨"ShardGroups$Request", T_R, 6, "ShardGroups$Request", rfl, by decide, in_R, w487, Or.inl rfl⟩
theorem p_R_16_R : aPl "ShardGroups$Request" 16 8 3 .int true := ⟨"ShardGroups$Request", T_R, 6, "ShardGroups$Request", tt_R, rfl, by decide, in_R, w487, Or.inl rfl, ty_R, nm_R, rfl, rfl, fun _ => rfl⟩
theorem f_H_46_R : aFl "ShardGroups$Shard" 46 8 3 := ⟨"ShardGroups$Request", T_R, 6, "ShardGroups$Request", rfl, by decide, in_R, w488, Or.inl rfl⟩
theorem f_R_19_R : aFl "ShardGroups$Request" 19 8 4 := ⟨"ShardGroups$Request", T_R, 6, "ShardGroups$Request", rfl, by decide, in_R, w489, Or.inl rfl⟩
theorem p_R_19_R : aPl "ShardGroups$Request" 19 8 4 .int true := ⟨"ShardGroups$Request", T_R, 6, "ShardGroups$Request", tt_R, rfl, by decide, in_R, w489, Or.inl rfl, ty_R, nm_R, rfl, rfl, fun _ => rfl⟩
theorem f_H_39_R : aFl "ShardGroups$Shard" 39 8 4 := ⟨"ShardGroups$Request", T_R, 6, "ShardGroups$Request", rfl, by decide, in_R, w490, Or.inl rfl⟩
theorem f_R_22_R : aFl "ShardGroups$Request" 22 8 5 := ⟨"ShardGroups$Request", T_R, 6, "ShardGroups$Request", rfl, by decide, in_R, w491, Or.inl rfl⟩
theorem p_R_22_R : aPl "ShardGroups$Request" 22 8 5 .int true := ⟨"ShardGroups$Request", T_R, 6, "ShardGroups$Request", tt_R, rfl, by decide, in_R, w491, Or.inl rfl, ty_R, nm_R, rfl, rfl, fun _ => rfl⟩
theorem f_H_49_R : aFl "ShardGroups$Shard" 49 8 5 := ⟨"ShardGroups$Request", T_R, 6, "ShardGroups$Request", rfl, by decide, in_R, w492, Or.inl rfl⟩
theorem f_F_7_F : aFl "ShardGroups$Configure" 7 7 1 := ⟨"ShardGroups$Configure", T_F, 3, "ShardGroups$Configure", rfl, by decide, in_F, w519, Or.inl rfl⟩
theorem p_F_7_F : aPl "ShardGroups$Configure" 7 7 1 .int true := ⟨"ShardGroups$Configure", T_F, 3, "ShardGroups$Configure", tt_F, rfl, by decide, in_F, w519, Or.inl rfl, ty_F, nm_F, rfl, rfl, fun _ => rfl⟩
theorem f_F_13_F : aFl "ShardGroups$Configure" 13 7 2 := ⟨"ShardGroups$Configure", T_F, 3, "ShardGroups$Configure", rfl, by decide, in_F, w520, Or.inl rfl⟩
theorem p_F_13_F : aPl "ShardGroups$Configure" 13 7 2 (.object "ShardGroups$Configuration") true := ⟨"ShardGroups$Configure", T_F, 3, "ShardGroups$Configure", tt_F, rfl, by decide, in_F, w520, Or.inl rfl, ty_F, nm_F, rfl, rfl, fun _ => rfl⟩
theorem f_I_20_I : aFl "ShardGroups$Insert" 20 9 1 := ⟨"ShardGroups$Insert", T_I, 4, "ShardGroups$Insert", rfl, by decide, in_I, w539, Or.inl rfl⟩
theorem p_I_20_I : aPl "ShardGroups$Insert" 20 9 1 .int true := ⟨"ShardGroups$Insert", T_I, 4, "ShardGroups$Insert", tt_I, rfl, by decide, in_I, w539, Or.inl rfl, ty_I, nm_I, rfl, rfl, fun _ => rfl⟩
theorem f_I_24_I : aFl "ShardGroups$Insert" 24 9 2 := ⟨"ShardGroups$Insert", T_I, 4, "ShardGroups$Insert", rfl, by decide, in_I, w540, Or.inl rfl⟩
theorem p_I_24_I : aPl "ShardGroups$Insert" 24 9 2 .int true := ⟨"ShardGroups$Insert", T_I, 4, "ShardGroups$Insert", tt_I, rfl, by decide, in_I, w540, Or.inl rfl, ty_I, nm_I, rfl, rfl, fun _ => rfl⟩
theorem f_I_14_I : aFl "ShardGroups$Insert" 14 9 3 := ⟨"ShardGroups$Insert", T_I, 4, "ShardGroups$Insert", rfl, by decide, in_I, w541, Or.inl rfl⟩
theorem p_I_14_I : aPl "ShardGroups$Insert" 14 9 3 (.object "ShardGroups$Shard") true := ⟨"ShardGroups$Insert", T_I, 4, "ShardGroups$Insert", tt_I, rfl, by decide, in_I, w541, Or.inl rfl, ty_I, nm_I, rfl, rfl, fun _ => rfl⟩
theorem f_D_9_D : aFl "ShardGroups$Delete" 9 10 1 := ⟨"ShardGroups$Delete", T_D, 3, "ShardGroups$Delete", rfl, by decide, in_D, w564, Or.inl rfl⟩
theorem p_D_9_D : aPl "ShardGroups$Delete" 9 10 1 .int true := ⟨"ShardGroups$Delete", T_D, 3, "ShardGroups$Delete", tt_D, rfl, by decide, in_D, w564, Or.inl rfl, ty_D, nm_D, rfl, rfl, fun _ => rfl⟩
theorem f_D_15_D : aFl "ShardGroups$Delete" 15 10 2 := ⟨"ShardGroups$Delete", T_D, 3, "ShardGroups$Delete", rfl, by decide, in_D, w565, Or.inl rfl⟩
theorem p_D_15_D : aPl "ShardGroups$Delete" 15 10 2 .int true := ⟨"ShardGroups$Delete", T_D, 3, "ShardGroups$Delete", tt_D, rfl, by decide, in_D, w565, Or.inl rfl, ty_D, nm_D, rfl, rfl, fun _ => rfl⟩
theorem f_M_7_M : aFl "ShardGroupsModel" 7 11 0 := ⟨"ShardGroupsModel", T_M, 14, "ShardGroupsModel", rfl, by decide, in_M, w633, Or.inl rfl⟩
theorem p_M_7_M : aPl "ShardGroupsModel" 7 11 0 (.array .boolean) true := ⟨"ShardGroupsModel", T_M, 14, "ShardGroupsModel", tt_M, rfl, by decide, in_M, w633, Or.inl rfl, ty_M, nm_M, rfl, rfl, fun _ => rfl⟩
theorem f_M_13_M : aFl "ShardGroupsModel" 13 11 1 := ⟨"ShardGroupsModel", T_M, 14, "ShardGroupsModel", rfl, by decide, in_M, w634, Or.inl rfl⟩
theorem p_M_13_M : aPl "ShardGroupsModel" 13 11 1 (.array .boolean) true := ⟨"ShardGroupsModel", T_M, 14, "ShardGroupsModel", tt_M, rfl, by decide, in_M, w634, Or.inl rfl, ty_M, nm_M, rfl, rfl, fun _ => rfl⟩
theorem f_M_16_M : aFl "ShardGroupsModel" 16 11 2 := ⟨"ShardGroupsModel", T_M, 14, "ShardGroupsModel", rfl, by decide, in_M, w635, Or.inl rfl⟩
theorem p_M_16_M : aPl "ShardGroupsModel" 16 11 2 (.array .int) true := ⟨"ShardGroupsModel", T_M, 14, "ShardGroupsModel", tt_M, rfl, by decide, in_M, w635, Or.inl rfl, ty_M, nm_M, rfl, rfl, fun _ => rfl⟩
theorem f_M_20_M : aFl "ShardGroupsModel" 20 11 3 := ⟨"ShardGroupsModel", T_M, 14, "ShardGroupsModel", rfl, by decide, in_M, w636, Or.inl rfl⟩
theorem p_M_20_M : aPl "ShardGroupsModel" 20 11 3 (.array .int) true := ⟨"ShardGroupsModel", T_M, 14, "ShardGroupsModel", tt_M, rfl, by decide, in_M, w636, Or.inl rfl, ty_M, nm_M, rfl, rfl, fun _ => rfl⟩
theorem f_M_23_M : aFl "ShardGroupsModel" 23 11 4 := ⟨"ShardGroupsModel", T_M, 14, "ShardGroupsModel", rfl, by decide, in_M, w637, Or.inl rfl⟩
theorem p_M_23_M : aPl "ShardGroupsModel" 23 11 4 (.array .int) true := ⟨"ShardGroupsModel", T_M, 14, "ShardGroupsModel", tt_M, rfl, by decide, in_M, w637, Or.inl rfl, ty_M, nm_M, rfl, rfl, fun _ => rfl⟩
theorem f_M_26_M : aFl "ShardGroupsModel" 26 11 5 := ⟨"ShardGroupsModel", T_M, 14, "ShardGroupsModel", rfl, by decide, in_M, w638, Or.inl rfl⟩
theorem p_M_26_M : aPl "ShardGroupsModel" 26 11 5 (.array .int) true := ⟨"ShardGroupsModel", T_M, 14, "ShardGroupsModel", tt_M, rfl, by decide, in_M, w638, Or.inl rfl, ty_M, nm_M, rfl, rfl, fun _ => rfl⟩
theorem f_M_29_M : aFl "ShardGroupsModel" 29 11 6 := ⟨"ShardGroupsModel", T_M, 14, "ShardGroupsModel", rfl, by decide, in_M, w639, Or.inl rfl⟩
theorem p_M_29_M : aPl "ShardGroupsModel" 29 11 6 (.array .int) true := ⟨"ShardGroupsModel", T_M, 14, "ShardGroupsModel", tt_M, rfl, by decide, in_M, w639, Or.inl rfl, ty_M, nm_M, rfl, rfl, fun _ => rfl⟩
theorem f_M_83_M : aFl "ShardGroupsModel" 83 11 7 := ⟨"ShardGroupsModel", T_M, 14, "ShardGroupsModel", rfl, by decide, in_M, w640, Or.inl rfl⟩
theorem p_M_83_M : aPl "ShardGroupsModel" 83 11 7 .int false := ⟨"ShardGroupsModel", T_M, 14, "ShardGroupsModel", tt_M, rfl, by decide, in_M, w640, Or.inl rfl, ty_M, nm_M, rfl, rfl, fun h => by cases h⟩
theorem f_M_32_M : aFl "ShardGroupsModel" 32 11 8 := ⟨"ShardGroupsModel", T_M, 14, "ShardGroupsModel", rfl, by decide, in_M, w641, Or.inl rfl⟩
theorem p_M_32_M : aPl "ShardGroupsModel" 32 11 8 (.array .int) true := ⟨"ShardGroupsModel", T_M, 14, "ShardGroupsModel", tt_M, rfl, by decide, in_M, w641, Or.inl rfl, ty_M, nm_M, rfl, rfl, fun _ => rfl⟩
theorem f_M_35_M : aFl "ShardGroupsModel" 35 11 9 := ⟨"ShardGroupsModel", T_M, 14, "ShardGroupsModel", rfl, by decide, in_M, w642, Or.inl rfl⟩
theorem p_M_35_M : aPl "ShardGroupsModel" 35 11 9 (.array .int) true := ⟨"ShardGroupsModel", T_M, 14, "ShardGroupsModel", tt_M, rfl, by decide, in_M, w642, Or.inl rfl, ty_M, nm_M, rfl, rfl, fun _ => rfl⟩
theorem f_M_99_M : aFl "ShardGroupsModel" 99 11 10 := ⟨"ShardGroupsModel", T_M, 14, "ShardGroupsModel", rfl, by decide, in_M, w643, Or.inl rfl⟩
theorem p_M_99_M : aPl "ShardGroupsModel" 99 11 10 .int false := ⟨"ShardGroupsModel", T_M, 14, "ShardGroupsModel", tt_M, rfl, by decide, in_M, w643, Or.inl rfl, ty_M, nm_M, rfl, rfl, fun h => by cases h⟩
theorem f_M_38_M : aFl "ShardGroupsModel" 38 11 11 := ⟨"ShardGroupsModel", T_M, 14, "ShardGroupsModel", rfl, by decide, in_M, w644, Or.inl rfl⟩
theorem p_M_38_M : aPl "ShardGroupsModel" 38 11 11 (.array .int) true := ⟨"ShardGroupsModel", T_M, 14, "ShardGroupsModel", tt_M, rfl, by decide, in_M, w644, Or.inl rfl, ty_M, nm_M, rfl, rfl, fun _ => rfl⟩
theorem f_M_41_M : aFl "ShardGroupsModel" 41 11 12 := ⟨"ShardGroupsModel", T_M, 14, "ShardGroupsModel", rfl, by decide, in_M, w645, Or.inl rfl⟩
theorem p_M_41_M : aPl "ShardGroupsModel" 41 11 12 (.array .int) true := ⟨"ShardGroupsModel", T_M, 14, "ShardGroupsModel", tt_M, rfl, by decide, in_M, w645, Or.inl rfl, ty_M, nm_M, rfl, rfl, fun _ => rfl⟩
theorem f_M_44_M : aFl "ShardGroupsModel" 44 11 13 := ⟨"ShardGroupsModel", T_M, 14, "ShardGroupsModel", rfl, by decide, in_M, w646, Or.inl rfl⟩
theorem p_M_44_M : aPl "ShardGroupsModel" 44 11 13 (.array .int) true := ⟨"ShardGroupsModel", T_M, 14, "ShardGroupsModel", tt_M, rfl, by decide, in_M, w646, Or.inl rfl, ty_M, nm_M, rfl, rfl, fun _ => rfl⟩
theorem n_L_7 : aNl "ShardGroupsLaw" 7 0 3 := ⟨"ShardGroups", T_S, tt_S, rfl, in_S, ty_S, w16, w17, w1, by decide +kernel⟩
theorem n_S_15 : aNl "ShardGroups" 15 2 8 := ⟨"ShardGroups$ServiceNode", T_V, tt_V, rfl, in_V, ty_V, w26, w51, w4, by decide +kernel⟩
theorem n_S_21 : aNl "ShardGroups" 21 3 10 := ⟨"ShardGroups$StoreNode", T_T, tt_T, rfl, in_T, ty_T, w28, w109, w5, by decide +kernel⟩
theorem n_S_27 : aNl "ShardGroups" 27 1 3 := ⟨"ShardGroups$Configuration", T_C, tt_C, rfl, in_C, ty_C, w30, w31, w2, by decide +kernel⟩
theorem n_T_9 : aNl "ShardGroups$StoreNode" 9 4 4 := ⟨"ShardGroups$Shard", T_H, tt_H, rfl, in_H, ty_H, w117, w119, w6, by decide +kernel⟩
theorem n_S_68 : aNl "ShardGroups" 68 5 1 := ⟨"ShardGroups$Entry", T_E, tt_E, rfl, in_E, ty_E, w233, w234, w9, by decide +kernel⟩
theorem n_G_38 : aNl "ShardGroups$Change" 38 1 3 := ⟨"ShardGroups$Configuration", T_C, tt_C, rfl, in_C, ty_C, w317, w31, w2, by decide +kernel⟩
theorem n_S_106 : aNl "ShardGroups" 106 6 4 := ⟨"ShardGroups$Change", T_G, tt_G, rfl, in_G, ty_G, w439, w311, w11, by decide +kernel⟩
theorem n_S_125 : aNl "ShardGroups" 125 8 6 := ⟨"ShardGroups$Request", T_R, tt_R, rfl, in_R, ty_R, w477, w478, w12, by decide +kernel⟩
theorem n_S_142 : aNl "ShardGroups" 142 7 3 := ⟨"ShardGroups$Configure", T_F, tt_F, rfl, in_F, ty_F, w513, w514, w13, by decide +kernel⟩
theorem n_S_163 : aNl "ShardGroups" 163 9 4 := ⟨"ShardGroups$Insert", T_I, tt_I, rfl, in_I, ty_I, w531, w532, w14, by decide +kernel⟩
theorem n_I_9 : aNl "ShardGroups$Insert" 9 4 4 := ⟨"ShardGroups$Shard", T_H, tt_H, rfl, in_H, ty_H, w537, w119, w6, by decide +kernel⟩
theorem n_S_183 : aNl "ShardGroups" 183 10 3 := ⟨"ShardGroups$Delete", T_D, tt_D, rfl, in_D, ty_D, w558, w559, w15, by decide +kernel⟩
theorem n_L_10 : aNl "ShardGroupsLaw" 10 11 14 := ⟨"ShardGroupsModel", T_M, tt_M, rfl, in_M, ty_M, w627, w628, w7, by decide +kernel⟩
theorem y_S_init : aNm ⟨"ShardGroups", "<init>", "()V"⟩ 0 := by unfold aNm; decide +kernel
theorem y_C_init : aNm ⟨"ShardGroups$Configuration", "<init>", "()V"⟩ 0 := by unfold aNm; decide +kernel
theorem y_V_init : aNm ⟨"ShardGroups$ServiceNode", "<init>", "(LShardGroups$Configuration;)V"⟩ 1 := by unfold aNm; decide +kernel
theorem y_N_init : aNm ⟨"ShardGroups$Node", "<init>", "()V"⟩ 0 := by unfold aNm; decide +kernel
theorem y_S_groupOf : aNm ⟨"ShardGroups", "groupOf", "(I)I"⟩ 1 := by unfold aNm; decide +kernel
theorem y_T_init : aNm ⟨"ShardGroups$StoreNode", "<init>", "(ILShardGroups$Configuration;)V"⟩ 2 := by unfold aNm; decide +kernel
theorem y_H_init : aNm ⟨"ShardGroups$Shard", "<init>", "()V"⟩ 0 := by unfold aNm; decide +kernel
theorem y_S_crash : aNm ⟨"ShardGroups", "crash", "(I)Z"⟩ 1 := by unfold aNm; decide +kernel
theorem y_S_upNode : aNm ⟨"ShardGroups", "upNode", "(I)LShardGroups$Node;"⟩ 1 := by unfold aNm; decide +kernel
theorem y_S_anyNode : aNm ⟨"ShardGroups", "anyNode", "(I)LShardGroups$Node;"⟩ 1 := by unfold aNm; decide +kernel
theorem y_S_recover : aNm ⟨"ShardGroups", "recover", "(I)Z"⟩ 1 := by unfold aNm; decide +kernel
theorem y_S_elect : aNm ⟨"ShardGroups", "elect", "(I)I"⟩ 1 := by unfold aNm; decide +kernel
theorem y_J_floorMod : aNm ⟨"java/lang/Math", "floorMod", "(II)I"⟩ 2 := by unfold aNm; decide +kernel
theorem y_S_countGrants : aNm ⟨"ShardGroups", "countGrants", "(LShardGroups$Node;II)I"⟩ 3 := by unfold aNm; decide +kernel
theorem y_N_grants : aNm ⟨"ShardGroups$Node", "grants", "(LShardGroups$Node;I)Z"⟩ 2 := by unfold aNm; decide +kernel
theorem y_N_isBehind : aNm ⟨"ShardGroups$Node", "isBehind", "(LShardGroups$Node;)Z"⟩ 1 := by unfold aNm; decide +kernel
theorem y_N_lastTerm : aNm ⟨"ShardGroups$Node", "lastTerm", "()I"⟩ 0 := by unfold aNm; decide +kernel
theorem y_N_takeTerm : aNm ⟨"ShardGroups$Node", "takeTerm", "(I)V"⟩ 1 := by unfold aNm; decide +kernel
theorem y_E_init : aNm ⟨"ShardGroups$Entry", "<init>", "(I)V"⟩ 1 := by unfold aNm; decide +kernel
theorem y_N_write : aNm ⟨"ShardGroups$Node", "write", "(LShardGroups$Entry;)I"⟩ 1 := by unfold aNm; decide +kernel
theorem y_S_ship : aNm ⟨"ShardGroups", "ship", "(II)I"⟩ 2 := by unfold aNm; decide +kernel
theorem y_N_copyNextFrom : aNm ⟨"ShardGroups$Node", "copyNextFrom", "(LShardGroups$Node;)V"⟩ 1 := by unfold aNm; decide +kernel
theorem y_N_countSame : aNm ⟨"ShardGroups$Node", "countSame", "(LShardGroups$Node;)I"⟩ 1 := by unfold aNm; decide +kernel
theorem y_J_min : aNm ⟨"java/lang/Math", "min", "(II)I"⟩ 2 := by unfold aNm; decide +kernel
theorem y_S_countAgreed : aNm ⟨"ShardGroups", "countAgreed", "(LShardGroups$Node;I)I"⟩ 2 := by unfold aNm; decide +kernel
theorem y_N_hasEntry : aNm ⟨"ShardGroups$Node", "hasEntry", "(II)Z"⟩ 2 := by unfold aNm; decide +kernel
theorem y_S_countCopies : aNm ⟨"ShardGroups", "countCopies", "(III)I"⟩ 3 := by unfold aNm; decide +kernel
theorem y_N_learn : aNm ⟨"ShardGroups$Node", "learn", "(I)V"⟩ 1 := by unfold aNm; decide +kernel
theorem y_V_carryOut : aNm ⟨"ShardGroups$ServiceNode", "carryOut", "(LShardGroups$Entry;)V"⟩ 1 := by unfold aNm; decide +kernel
theorem y_G_changeService : aNm ⟨"ShardGroups$Change", "changeService", "(LShardGroups$ServiceNode;)V"⟩ 1 := by unfold aNm; decide +kernel
theorem y_V_isComplete : aNm ⟨"ShardGroups$ServiceNode", "isComplete", "()Z"⟩ 0 := by unfold aNm; decide +kernel
theorem y_G_isAllowed : aNm ⟨"ShardGroups$Change", "isAllowed", "(LShardGroups$Configuration;)Z"⟩ 1 := by unfold aNm; decide +kernel
theorem y_C_countMembers : aNm ⟨"ShardGroups$Configuration", "countMembers", "()I"⟩ 0 := by unfold aNm; decide +kernel
theorem y_C_init2 : aNm ⟨"ShardGroups$Configuration", "<init>", "(LShardGroups$Configuration;)V"⟩ 1 := by unfold aNm; decide +kernel
theorem y_C_join : aNm ⟨"ShardGroups$Configuration", "join", "(I)V"⟩ 1 := by unfold aNm; decide +kernel
theorem y_C_give : aNm ⟨"ShardGroups$Configuration", "give", "(II)V"⟩ 2 := by unfold aNm; decide +kernel
theorem y_C_balance : aNm ⟨"ShardGroups$Configuration", "balance", "()V"⟩ 0 := by unfold aNm; decide +kernel
theorem y_C_most : aNm ⟨"ShardGroups$Configuration", "most", "()I"⟩ 0 := by unfold aNm; decide +kernel
theorem y_C_fewest : aNm ⟨"ShardGroups$Configuration", "fewest", "()I"⟩ 0 := by unfold aNm; decide +kernel
theorem y_C_leastShardOf : aNm ⟨"ShardGroups$Configuration", "leastShardOf", "(I)I"⟩ 1 := by unfold aNm; decide +kernel
theorem y_C_leave : aNm ⟨"ShardGroups$Configuration", "leave", "(I)V"⟩ 1 := by unfold aNm; decide +kernel
theorem y_V_add : aNm ⟨"ShardGroups$ServiceNode", "add", "(LShardGroups$Configuration;)V"⟩ 1 := by unfold aNm; decide +kernel
theorem y_E_changeService : aNm ⟨"ShardGroups$Entry", "changeService", "(LShardGroups$ServiceNode;)V"⟩ 1 := by unfold aNm; decide +kernel
theorem y_T_carryOut : aNm ⟨"ShardGroups$StoreNode", "carryOut", "(LShardGroups$Entry;)V"⟩ 1 := by unfold aNm; decide +kernel
theorem y_F_changeStore : aNm ⟨"ShardGroups$Configure", "changeStore", "(LShardGroups$StoreNode;)V"⟩ 1 := by unfold aNm; decide +kernel
theorem y_T_adopt : aNm ⟨"ShardGroups$StoreNode", "adopt", "(ILShardGroups$Configuration;)V"⟩ 2 := by unfold aNm; decide +kernel
theorem y_T_isSettled : aNm ⟨"ShardGroups$StoreNode", "isSettled", "()Z"⟩ 0 := by unfold aNm; decide +kernel
theorem y_T_handOver : aNm ⟨"ShardGroups$StoreNode", "handOver", "(LShardGroups$Shard;II)V"⟩ 3 := by unfold aNm; decide +kernel
theorem y_H_clear : aNm ⟨"ShardGroups$Shard", "clear", "()V"⟩ 0 := by unfold aNm; decide +kernel
theorem y_D_changeStore : aNm ⟨"ShardGroups$Delete", "changeStore", "(LShardGroups$StoreNode;)V"⟩ 1 := by unfold aNm; decide +kernel
theorem y_I_changeStore : aNm ⟨"ShardGroups$Insert", "changeStore", "(LShardGroups$StoreNode;)V"⟩ 1 := by unfold aNm; decide +kernel
theorem y_H_copyContents : aNm ⟨"ShardGroups$Shard", "copyContents", "(LShardGroups$Shard;)V"⟩ 1 := by unfold aNm; decide +kernel
theorem y_R_changeStore : aNm ⟨"ShardGroups$Request", "changeStore", "(LShardGroups$StoreNode;)V"⟩ 1 := by unfold aNm; decide +kernel
theorem y_S_shardOf : aNm ⟨"ShardGroups", "shardOf", "(I)I"⟩ 1 := by unfold aNm; decide +kernel
theorem y_H_serve : aNm ⟨"ShardGroups$Shard", "serve", "(LShardGroups$Request;)V"⟩ 1 := by unfold aNm; decide +kernel
theorem y_S_placeInShard : aNm ⟨"ShardGroups", "placeInShard", "(I)I"⟩ 1 := by unfold aNm; decide +kernel
theorem y_E_changeStore : aNm ⟨"ShardGroups$Entry", "changeStore", "(LShardGroups$StoreNode;)V"⟩ 1 := by unfold aNm; decide +kernel
theorem y_J_max : aNm ⟨"java/lang/Math", "max", "(II)I"⟩ 2 := by unfold aNm; decide +kernel
theorem y_S_change : aNm ⟨"ShardGroups", "change", "(IIII)I"⟩ 4 := by unfold aNm; decide +kernel
theorem y_S_upService : aNm ⟨"ShardGroups", "upService", "(I)LShardGroups$ServiceNode;"⟩ 1 := by unfold aNm; decide +kernel
theorem y_S_anyService : aNm ⟨"ShardGroups", "anyService", "(I)LShardGroups$ServiceNode;"⟩ 1 := by unfold aNm; decide +kernel
theorem y_S_isChange : aNm ⟨"ShardGroups", "isChange", "(III)Z"⟩ 3 := by unfold aNm; decide +kernel
theorem y_S_isShard : aNm ⟨"ShardGroups", "isShard", "(I)Z"⟩ 1 := by unfold aNm; decide +kernel
theorem y_S_isOwningGroup : aNm ⟨"ShardGroups", "isOwningGroup", "(I)Z"⟩ 1 := by unfold aNm; decide +kernel
theorem y_G_init : aNm ⟨"ShardGroups$Change", "<init>", "(IIII)V"⟩ 4 := by unfold aNm; decide +kernel
theorem y_S_request : aNm ⟨"ShardGroups", "request", "(IIIIII)I"⟩ 6 := by unfold aNm; decide +kernel
theorem y_S_upStore : aNm ⟨"ShardGroups", "upStore", "(I)LShardGroups$StoreNode;"⟩ 1 := by unfold aNm; decide +kernel
theorem y_S_anyStore : aNm ⟨"ShardGroups", "anyStore", "(I)LShardGroups$StoreNode;"⟩ 1 := by unfold aNm; decide +kernel
theorem y_S_isClient : aNm ⟨"ShardGroups", "isClient", "(I)Z"⟩ 1 := by unfold aNm; decide +kernel
theorem y_S_isKey : aNm ⟨"ShardGroups", "isKey", "(I)Z"⟩ 1 := by unfold aNm; decide +kernel
theorem y_R_init : aNm ⟨"ShardGroups$Request", "<init>", "(IIIIII)V"⟩ 6 := by unfold aNm; decide +kernel
theorem y_S_poll : aNm ⟨"ShardGroups", "poll", "(II)I"⟩ 2 := by unfold aNm; decide +kernel
theorem y_F_init : aNm ⟨"ShardGroups$Configure", "<init>", "(IILShardGroups$Configuration;)V"⟩ 3 := by unfold aNm; decide +kernel
theorem y_S_pull : aNm ⟨"ShardGroups", "pull", "(III)I"⟩ 3 := by unfold aNm; decide +kernel
theorem y_I_init : aNm ⟨"ShardGroups$Insert", "<init>", "(IIILShardGroups$Shard;)V"⟩ 4 := by unfold aNm; decide +kernel
theorem y_S_confirm : aNm ⟨"ShardGroups", "confirm", "(III)I"⟩ 3 := by unfold aNm; decide +kernel
theorem y_T_hasReceived : aNm ⟨"ShardGroups$StoreNode", "hasReceived", "(II)Z"⟩ 2 := by unfold aNm; decide +kernel
theorem y_D_init : aNm ⟨"ShardGroups$Delete", "<init>", "(III)V"⟩ 3 := by unfold aNm; decide +kernel
theorem y_S_length : aNm ⟨"ShardGroups", "length", "(I)I"⟩ 1 := by unfold aNm; decide +kernel
theorem y_S_known : aNm ⟨"ShardGroups", "known", "(I)I"⟩ 1 := by unfold aNm; decide +kernel
theorem y_S_term : aNm ⟨"ShardGroups", "term", "(I)I"⟩ 1 := by unfold aNm; decide +kernel
theorem y_S_configuration : aNm ⟨"ShardGroups", "configuration", "(I)I"⟩ 1 := by unfold aNm; decide +kernel
theorem y_V_lastNumber : aNm ⟨"ShardGroups$ServiceNode", "lastNumber", "()I"⟩ 0 := by unfold aNm; decide +kernel
theorem y_T_lastNumber : aNm ⟨"ShardGroups$StoreNode", "lastNumber", "()I"⟩ 0 := by unfold aNm; decide +kernel
theorem y_S_owner : aNm ⟨"ShardGroups", "owner", "(III)I"⟩ 3 := by unfold aNm; decide +kernel
theorem y_S_condition : aNm ⟨"ShardGroups", "condition", "(II)I"⟩ 2 := by unfold aNm; decide +kernel
theorem y_S_value : aNm ⟨"ShardGroups", "value", "(II)I"⟩ 2 := by unfold aNm; decide +kernel
theorem y_S_heldShard : aNm ⟨"ShardGroups", "heldShard", "(II)LShardGroups$Shard;"⟩ 2 := by unfold aNm; decide +kernel
theorem y_H_hasContents : aNm ⟨"ShardGroups$Shard", "hasContents", "()Z"⟩ 0 := by unfold aNm; decide +kernel
theorem y_S_latest : aNm ⟨"ShardGroups", "latest", "(III)I"⟩ 3 := by unfold aNm; decide +kernel
theorem y_S_answer : aNm ⟨"ShardGroups", "answer", "(III)I"⟩ 3 := by unfold aNm; decide +kernel
theorem y_M_init : aNm ⟨"ShardGroupsModel", "<init>", "()V"⟩ 0 := by unfold aNm; decide +kernel
theorem y_M_crash : aNm ⟨"ShardGroupsModel", "crash", "(I)Z"⟩ 1 := by unfold aNm; decide +kernel
theorem y_M_below : aNm ⟨"ShardGroupsModel", "below", "(II)Z"⟩ 2 := by unfold aNm; decide +kernel
theorem y_M_recover : aNm ⟨"ShardGroupsModel", "recover", "(I)Z"⟩ 1 := by unfold aNm; decide +kernel
theorem y_M_elect : aNm ⟨"ShardGroupsModel", "elect", "(I)I"⟩ 1 := by unfold aNm; decide +kernel
theorem y_M_lastTerm : aNm ⟨"ShardGroupsModel", "lastTerm", "(I)I"⟩ 1 := by unfold aNm; decide +kernel
theorem y_M_termAt : aNm ⟨"ShardGroupsModel", "termAt", "(II)I"⟩ 2 := by unfold aNm; decide +kernel
theorem y_M_place : aNm ⟨"ShardGroupsModel", "place", "(II)I"⟩ 2 := by unfold aNm; decide +kernel
theorem y_M_raise : aNm ⟨"ShardGroupsModel", "raise", "(II)V"⟩ 2 := by unfold aNm; decide +kernel
theorem y_M_say : aNm ⟨"ShardGroupsModel", "say", "(IIIIII)V"⟩ 6 := by unfold aNm; decide +kernel
theorem y_M_write : aNm ⟨"ShardGroupsModel", "write", "(I)I"⟩ 1 := by unfold aNm; decide +kernel
theorem y_M_ship : aNm ⟨"ShardGroupsModel", "ship", "(II)I"⟩ 2 := by unfold aNm; decide +kernel
theorem y_M_copies : aNm ⟨"ShardGroupsModel", "copies", "(II)I"⟩ 2 := by unfold aNm; decide +kernel
theorem y_M_change : aNm ⟨"ShardGroupsModel", "change", "(IIII)I"⟩ 4 := by unfold aNm; decide +kernel
theorem y_M_noServer : aNm ⟨"ShardGroupsModel", "noServer", "(I)Z"⟩ 1 := by unfold aNm; decide +kernel
theorem y_M_request : aNm ⟨"ShardGroupsModel", "request", "(IIIIII)I"⟩ 6 := by unfold aNm; decide +kernel
theorem y_M_noGroupNode : aNm ⟨"ShardGroupsModel", "noGroupNode", "(I)Z"⟩ 1 := by unfold aNm; decide +kernel
theorem y_M_poll : aNm ⟨"ShardGroupsModel", "poll", "(II)I"⟩ 2 := by unfold aNm; decide +kernel
theorem y_M_group : aNm ⟨"ShardGroupsModel", "group", "(I)V"⟩ 1 := by unfold aNm; decide +kernel
theorem y_M_configure : aNm ⟨"ShardGroupsModel", "configure", "(II)V"⟩ 2 := by unfold aNm; decide +kernel
theorem y_M_settled : aNm ⟨"ShardGroupsModel", "settled", "()Z"⟩ 0 := by unfold aNm; decide +kernel
theorem y_M_effect : aNm ⟨"ShardGroupsModel", "effect", "(I)V"⟩ 1 := by unfold aNm; decide +kernel
theorem y_M_service : aNm ⟨"ShardGroupsModel", "service", "(I)V"⟩ 1 := by unfold aNm; decide +kernel
theorem y_M_alter : aNm ⟨"ShardGroupsModel", "alter", "(III)V"⟩ 3 := by unfold aNm; decide +kernel
theorem y_M_extreme : aNm ⟨"ShardGroupsModel", "extreme", "(IZ)I"⟩ 2 := by unfold aNm; decide +kernel
theorem y_M_owned : aNm ⟨"ShardGroupsModel", "owned", "(II)I"⟩ 2 := by unfold aNm; decide +kernel
theorem y_M_balance : aNm ⟨"ShardGroupsModel", "balance", "(I)V"⟩ 1 := by unfold aNm; decide +kernel
theorem y_M_pull : aNm ⟨"ShardGroupsModel", "pull", "(III)I"⟩ 3 := by unfold aNm; decide +kernel
theorem y_M_confirm : aNm ⟨"ShardGroupsModel", "confirm", "(III)I"⟩ 3 := by unfold aNm; decide +kernel
theorem y_M_length : aNm ⟨"ShardGroupsModel", "length", "(I)I"⟩ 1 := by unfold aNm; decide +kernel
theorem y_M_known : aNm ⟨"ShardGroupsModel", "known", "(I)I"⟩ 1 := by unfold aNm; decide +kernel
theorem y_M_term : aNm ⟨"ShardGroupsModel", "term", "(I)I"⟩ 1 := by unfold aNm; decide +kernel
theorem y_M_configuration : aNm ⟨"ShardGroupsModel", "configuration", "(I)I"⟩ 1 := by unfold aNm; decide +kernel
theorem y_M_owner : aNm ⟨"ShardGroupsModel", "owner", "(III)I"⟩ 3 := by unfold aNm; decide +kernel
theorem y_M_condition : aNm ⟨"ShardGroupsModel", "condition", "(II)I"⟩ 2 := by unfold aNm; decide +kernel
theorem y_M_value : aNm ⟨"ShardGroupsModel", "value", "(II)I"⟩ 2 := by unfold aNm; decide +kernel
theorem y_M_has : aNm ⟨"ShardGroupsModel", "has", "(II)Z"⟩ 2 := by unfold aNm; decide +kernel
theorem y_M_latest : aNm ⟨"ShardGroupsModel", "latest", "(III)I"⟩ 3 := by unfold aNm; decide +kernel
theorem y_M_answer : aNm ⟨"ShardGroupsModel", "answer", "(III)I"⟩ 3 := by unfold aNm; decide +kernel
theorem y_L_law : aNm ⟨"ShardGroupsLaw", "law", "([I)Z"⟩ 1 := by unfold aNm; decide +kernel
end
section
theorem d_S_init_0 : decode prog_1_method_1_code 0 = .ok (.aload_n 0, 1) := by decide +kernel
theorem d_S_init_1 : decode prog_1_method_1_code 1 = .ok (.invokespecial 3, 3) := by decide +kernel
theorem d_S_init_4 : decode prog_1_method_1_code 4 = .ok (.aload_n 0, 1) := by decide +kernel
theorem d_S_init_5 : decode prog_1_method_1_code 5 = .ok (.bipush 12, 2) := by decide +kernel
theorem d_S_init_7 : decode prog_1_method_1_code 7 = .ok (.anewarray 9, 3) := by decide +kernel
theorem d_S_init_10 : decode prog_1_method_1_code 10 = .ok (.putfield 11, 3) := by decide +kernel
theorem d_S_init_13 : decode prog_1_method_1_code 13 = .ok (.aload_n 0, 1) := by decide +kernel
theorem d_S_init_14 : decode prog_1_method_1_code 14 = .ok (.iconst 3, 1) := by decide +kernel
theorem d_S_init_15 : decode prog_1_method_1_code 15 = .ok (.anewarray 15, 3) := by decide +kernel
theorem d_S_init_18 : decode prog_1_method_1_code 18 = .ok (.putfield 17, 3) := by decide +kernel
theorem d_S_init_21 : decode prog_1_method_1_code 21 = .ok (.aload_n 0, 1) := by decide +kernel
theorem d_S_init_22 : decode prog_1_method_1_code 22 = .ok (.bipush 9, 2) := by decide +kernel
theorem d_S_init_24 : decode prog_1_method_1_code 24 = .ok (.anewarray 21, 3) := by decide +kernel
theorem d_S_init_27 : decode prog_1_method_1_code 27 = .ok (.putfield 23, 3) := by decide +kernel
theorem d_S_init_30 : decode prog_1_method_1_code 30 = .ok (.new 27, 3) := by decide +kernel
theorem d_S_init_33 : decode prog_1_method_1_code 33 = .ok (.dup, 1) := by decide +kernel
theorem d_S_init_34 : decode prog_1_method_1_code 34 = .ok (.invokespecial 29, 3) := by decide +kernel
theorem d_S_init_37 : decode prog_1_method_1_code 37 = .ok (.astore_n 1, 1) := by decide +kernel
theorem d_S_init_38 : decode prog_1_method_1_code 38 = .ok (.iconst 0, 1) := by decide +kernel
theorem d_S_init_39 : decode prog_1_method_1_code 39 = .ok (.istore_n 2, 1) := by decide +kernel
theorem d_S_init_40 : decode prog_1_method_1_code 40 = .ok (.iload_n 2, 1) := by decide +kernel
theorem d_S_init_41 : decode prog_1_method_1_code 41 = .ok (.aload_n 0, 1) := by decide +kernel
theorem d_S_init_42 : decode prog_1_method_1_code 42 = .ok (.getfield 17, 3) := by decide +kernel
theorem d_S_init_45 : decode prog_1_method_1_code 45 = .ok (.arraylength, 1) := by decide +kernel
theorem d_S_init_46 : decode prog_1_method_1_code 46 = .ok (.if_icmp .ge 35, 3) := by decide +kernel
theorem d_S_init_49 : decode prog_1_method_1_code 49 = .ok (.aload_n 0, 1) := by decide +kernel
theorem d_S_init_50 : decode prog_1_method_1_code 50 = .ok (.getfield 17, 3) := by decide +kernel
theorem d_S_init_53 : decode prog_1_method_1_code 53 = .ok (.iload_n 2, 1) := by decide +kernel
theorem d_S_init_54 : decode prog_1_method_1_code 54 = .ok (.new 15, 3) := by decide +kernel
theorem d_S_init_57 : decode prog_1_method_1_code 57 = .ok (.dup, 1) := by decide +kernel
theorem d_S_init_58 : decode prog_1_method_1_code 58 = .ok (.aload_n 1, 1) := by decide +kernel
theorem d_S_init_59 : decode prog_1_method_1_code 59 = .ok (.invokespecial 30, 3) := by decide +kernel
theorem d_S_init_62 : decode prog_1_method_1_code 62 = .ok (.aastore, 1) := by decide +kernel
theorem d_S_init_63 : decode prog_1_method_1_code 63 = .ok (.aload_n 0, 1) := by decide +kernel
theorem d_S_init_64 : decode prog_1_method_1_code 64 = .ok (.getfield 11, 3) := by decide +kernel
theorem d_S_init_67 : decode prog_1_method_1_code 67 = .ok (.iload_n 2, 1) := by decide +kernel
theorem d_S_init_68 : decode prog_1_method_1_code 68 = .ok (.aload_n 0, 1) := by decide +kernel
theorem d_S_init_69 : decode prog_1_method_1_code 69 = .ok (.getfield 17, 3) := by decide +kernel
theorem d_S_init_72 : decode prog_1_method_1_code 72 = .ok (.iload_n 2, 1) := by decide +kernel
theorem d_S_init_73 : decode prog_1_method_1_code 73 = .ok (.aaload, 1) := by decide +kernel
theorem d_S_init_74 : decode prog_1_method_1_code 74 = .ok (.aastore, 1) := by decide +kernel
theorem d_S_init_75 : decode prog_1_method_1_code 75 = .ok (.iinc 2 1, 3) := by decide +kernel
theorem d_S_init_78 : decode prog_1_method_1_code 78 = .ok (.goto (-38), 3) := by decide +kernel
theorem d_S_init_81 : decode prog_1_method_1_code 81 = .ok (.iconst 0, 1) := by decide +kernel
theorem d_S_init_82 : decode prog_1_method_1_code 82 = .ok (.istore_n 2, 1) := by decide +kernel
theorem d_S_init_83 : decode prog_1_method_1_code 83 = .ok (.iload_n 2, 1) := by decide +kernel
theorem d_S_init_84 : decode prog_1_method_1_code 84 = .ok (.aload_n 0, 1) := by decide +kernel
theorem d_S_init_85 : decode prog_1_method_1_code 85 = .ok (.getfield 23, 3) := by decide +kernel
theorem d_S_init_88 : decode prog_1_method_1_code 88 = .ok (.arraylength, 1) := by decide +kernel
theorem d_S_init_89 : decode prog_1_method_1_code 89 = .ok (.if_icmp .ge 43, 3) := by decide +kernel
theorem d_S_init_92 : decode prog_1_method_1_code 92 = .ok (.aload_n 0, 1) := by decide +kernel
theorem d_S_init_93 : decode prog_1_method_1_code 93 = .ok (.getfield 23, 3) := by decide +kernel
theorem d_S_init_96 : decode prog_1_method_1_code 96 = .ok (.iload_n 2, 1) := by decide +kernel
theorem d_S_init_97 : decode prog_1_method_1_code 97 = .ok (.new 21, 3) := by decide +kernel
theorem d_S_init_100 : decode prog_1_method_1_code 100 = .ok (.dup, 1) := by decide +kernel
theorem d_S_init_101 : decode prog_1_method_1_code 101 = .ok (.iconst 3, 1) := by decide +kernel
theorem d_S_init_102 : decode prog_1_method_1_code 102 = .ok (.iload_n 2, 1) := by decide +kernel
theorem d_S_init_103 : decode prog_1_method_1_code 103 = .ok (.iadd, 1) := by decide +kernel
theorem d_S_init_104 : decode prog_1_method_1_code 104 = .ok (.invokestatic 33, 3) := by decide +kernel
theorem d_S_init_107 : decode prog_1_method_1_code 107 = .ok (.aload_n 1, 1) := by decide +kernel
theorem d_S_init_108 : decode prog_1_method_1_code 108 = .ok (.invokespecial 37, 3) := by decide +kernel
theorem d_S_init_111 : decode prog_1_method_1_code 111 = .ok (.aastore, 1) := by decide +kernel
theorem d_S_init_112 : decode prog_1_method_1_code 112 = .ok (.aload_n 0, 1) := by decide +kernel
theorem d_S_init_113 : decode prog_1_method_1_code 113 = .ok (.getfield 11, 3) := by decide +kernel
theorem d_S_init_116 : decode prog_1_method_1_code 116 = .ok (.iconst 3, 1) := by decide +kernel
theorem d_S_init_117 : decode prog_1_method_1_code 117 = .ok (.iload_n 2, 1) := by decide +kernel
theorem d_S_init_118 : decode prog_1_method_1_code 118 = .ok (.iadd, 1) := by decide +kernel
theorem d_S_init_119 : decode prog_1_method_1_code 119 = .ok (.aload_n 0, 1) := by decide +kernel
theorem d_S_init_120 : decode prog_1_method_1_code 120 = .ok (.getfield 23, 3) := by decide +kernel
theorem d_S_init_123 : decode prog_1_method_1_code 123 = .ok (.iload_n 2, 1) := by decide +kernel
theorem d_S_init_124 : decode prog_1_method_1_code 124 = .ok (.aaload, 1) := by decide +kernel
theorem d_S_init_125 : decode prog_1_method_1_code 125 = .ok (.aastore, 1) := by decide +kernel
theorem d_S_init_126 : decode prog_1_method_1_code 126 = .ok (.iinc 2 1, 3) := by decide +kernel
theorem d_S_init_129 : decode prog_1_method_1_code 129 = .ok (.goto (-46), 3) := by decide +kernel
theorem d_S_init_132 : decode prog_1_method_1_code 132 = .ok (.return_, 1) := by decide +kernel
theorem d_C_init_0 : decode prog_3_method_1_code 0 = .ok (.aload_n 0, 1) := by decide +kernel
theorem d_C_init_1 : decode prog_3_method_1_code 1 = .ok (.invokespecial 3, 3) := by decide +kernel
theorem d_C_init_4 : decode prog_3_method_1_code 4 = .ok (.aload_n 0, 1) := by decide +kernel
theorem d_C_init_5 : decode prog_3_method_1_code 5 = .ok (.iconst 4, 1) := by decide +kernel
theorem d_C_init_6 : decode prog_3_method_1_code 6 = .ok (.newarray .boolean, 2) := by decide +kernel
theorem d_C_init_8 : decode prog_3_method_1_code 8 = .ok (.putfield 9, 3) := by decide +kernel
theorem d_C_init_11 : decode prog_3_method_1_code 11 = .ok (.aload_n 0, 1) := by decide +kernel
theorem d_C_init_12 : decode prog_3_method_1_code 12 = .ok (.bipush 8, 2) := by decide +kernel
theorem d_C_init_14 : decode prog_3_method_1_code 14 = .ok (.newarray .int, 2) := by decide +kernel
theorem d_C_init_16 : decode prog_3_method_1_code 16 = .ok (.putfield 15, 3) := by decide +kernel
theorem d_C_init_19 : decode prog_3_method_1_code 19 = .ok (.aload_n 0, 1) := by decide +kernel
theorem d_C_init_20 : decode prog_3_method_1_code 20 = .ok (.iconst 4, 1) := by decide +kernel
theorem d_C_init_21 : decode prog_3_method_1_code 21 = .ok (.newarray .int, 2) := by decide +kernel
theorem d_C_init_23 : decode prog_3_method_1_code 23 = .ok (.putfield 19, 3) := by decide +kernel
theorem d_C_init_26 : decode prog_3_method_1_code 26 = .ok (.aload_n 0, 1) := by decide +kernel
theorem d_C_init_27 : decode prog_3_method_1_code 27 = .ok (.getfield 19, 3) := by decide +kernel
theorem d_C_init_30 : decode prog_3_method_1_code 30 = .ok (.iconst 0, 1) := by decide +kernel
theorem d_C_init_31 : decode prog_3_method_1_code 31 = .ok (.bipush 8, 2) := by decide +kernel
theorem d_C_init_33 : decode prog_3_method_1_code 33 = .ok (.iastore, 1) := by decide +kernel
theorem d_C_init_34 : decode prog_3_method_1_code 34 = .ok (.return_, 1) := by decide +kernel
theorem d_V_init_0 : decode prog_10_method_1_code 0 = .ok (.aload_n 0, 1) := by decide +kernel
theorem d_V_init_1 : decode prog_10_method_1_code 1 = .ok (.invokespecial 3, 3) := by decide +kernel
theorem d_V_init_4 : decode prog_10_method_1_code 4 = .ok (.aload_n 0, 1) := by decide +kernel
theorem d_V_init_5 : decode prog_10_method_1_code 5 = .ok (.bipush 16, 2) := by decide +kernel
theorem d_V_init_7 : decode prog_10_method_1_code 7 = .ok (.anewarray 9, 3) := by decide +kernel
theorem d_V_init_10 : decode prog_10_method_1_code 10 = .ok (.putfield 11, 3) := by decide +kernel
theorem d_V_init_13 : decode prog_10_method_1_code 13 = .ok (.aload_n 0, 1) := by decide +kernel
theorem d_V_init_14 : decode prog_10_method_1_code 14 = .ok (.getfield 11, 3) := by decide +kernel
theorem d_V_init_17 : decode prog_10_method_1_code 17 = .ok (.iconst 0, 1) := by decide +kernel
theorem d_V_init_18 : decode prog_10_method_1_code 18 = .ok (.aload_n 1, 1) := by decide +kernel
theorem d_V_init_19 : decode prog_10_method_1_code 19 = .ok (.aastore, 1) := by decide +kernel
theorem d_V_init_20 : decode prog_10_method_1_code 20 = .ok (.return_, 1) := by decide +kernel
theorem d_N_init_0 : decode prog_8_method_1_code 0 = .ok (.aload_n 0, 1) := by decide +kernel
theorem d_N_init_1 : decode prog_8_method_1_code 1 = .ok (.invokespecial 3, 3) := by decide +kernel
theorem d_N_init_4 : decode prog_8_method_1_code 4 = .ok (.aload_n 0, 1) := by decide +kernel
theorem d_N_init_5 : decode prog_8_method_1_code 5 = .ok (.iconst 1, 1) := by decide +kernel
theorem d_N_init_6 : decode prog_8_method_1_code 6 = .ok (.putfield 9, 3) := by decide +kernel
theorem d_N_init_9 : decode prog_8_method_1_code 9 = .ok (.aload_n 0, 1) := by decide +kernel
theorem d_N_init_10 : decode prog_8_method_1_code 10 = .ok (.bipush 80, 2) := by decide +kernel
theorem d_N_init_12 : decode prog_8_method_1_code 12 = .ok (.anewarray 15, 3) := by decide +kernel
theorem d_N_init_15 : decode prog_8_method_1_code 15 = .ok (.putfield 17, 3) := by decide +kernel
theorem d_N_init_18 : decode prog_8_method_1_code 18 = .ok (.return_, 1) := by decide +kernel
theorem d_S_groupOf_0 : decode prog_1_method_20_code 0 = .ok (.iload_n 0, 1) := by decide +kernel
theorem d_S_groupOf_1 : decode prog_1_method_20_code 1 = .ok (.iconst 3, 1) := by decide +kernel
theorem d_S_groupOf_2 : decode prog_1_method_20_code 2 = .ok (.idiv, 1) := by decide +kernel
theorem d_S_groupOf_3 : decode prog_1_method_20_code 3 = .ok (.ireturn, 1) := by decide +kernel
theorem d_T_init_0 : decode prog_12_method_1_code 0 = .ok (.aload_n 0, 1) := by decide +kernel
theorem d_T_init_1 : decode prog_12_method_1_code 1 = .ok (.invokespecial 3, 3) := by decide +kernel
theorem d_T_init_4 : decode prog_12_method_1_code 4 = .ok (.aload_n 0, 1) := by decide +kernel
theorem d_T_init_5 : decode prog_12_method_1_code 5 = .ok (.bipush 8, 2) := by decide +kernel
theorem d_T_init_7 : decode prog_12_method_1_code 7 = .ok (.anewarray 9, 3) := by decide +kernel
theorem d_T_init_10 : decode prog_12_method_1_code 10 = .ok (.putfield 11, 3) := by decide +kernel
theorem d_T_init_13 : decode prog_12_method_1_code 13 = .ok (.aload_n 0, 1) := by decide +kernel
theorem d_T_init_14 : decode prog_12_method_1_code 14 = .ok (.iload_n 1, 1) := by decide +kernel
theorem d_T_init_15 : decode prog_12_method_1_code 15 = .ok (.putfield 17, 3) := by decide +kernel
theorem d_T_init_18 : decode prog_12_method_1_code 18 = .ok (.aload_n 0, 1) := by decide +kernel
theorem d_T_init_19 : decode prog_12_method_1_code 19 = .ok (.aload_n 2, 1) := by decide +kernel
theorem d_T_init_20 : decode prog_12_method_1_code 20 = .ok (.putfield 21, 3) := by decide +kernel
theorem d_T_init_23 : decode prog_12_method_1_code 23 = .ok (.iconst 0, 1) := by decide +kernel
theorem d_T_init_24 : decode prog_12_method_1_code 24 = .ok (.istore_n 3, 1) := by decide +kernel
theorem d_T_init_25 : decode prog_12_method_1_code 25 = .ok (.iload_n 3, 1) := by decide +kernel
theorem d_T_init_26 : decode prog_12_method_1_code 26 = .ok (.bipush 8, 2) := by decide +kernel
theorem d_T_init_28 : decode prog_12_method_1_code 28 = .ok (.if_icmp .ge 22, 3) := by decide +kernel
theorem d_T_init_31 : decode prog_12_method_1_code 31 = .ok (.aload_n 0, 1) := by decide +kernel
theorem d_T_init_32 : decode prog_12_method_1_code 32 = .ok (.getfield 11, 3) := by decide +kernel
theorem d_T_init_35 : decode prog_12_method_1_code 35 = .ok (.iload_n 3, 1) := by decide +kernel
theorem d_T_init_36 : decode prog_12_method_1_code 36 = .ok (.new 9, 3) := by decide +kernel
theorem d_T_init_39 : decode prog_12_method_1_code 39 = .ok (.dup, 1) := by decide +kernel
theorem d_T_init_40 : decode prog_12_method_1_code 40 = .ok (.invokespecial 25, 3) := by decide +kernel
theorem d_T_init_43 : decode prog_12_method_1_code 43 = .ok (.aastore, 1) := by decide +kernel
theorem d_T_init_44 : decode prog_12_method_1_code 44 = .ok (.iinc 3 1, 3) := by decide +kernel
theorem d_T_init_47 : decode prog_12_method_1_code 47 = .ok (.goto (-22), 3) := by decide +kernel
theorem d_T_init_50 : decode prog_12_method_1_code 50 = .ok (.return_, 1) := by decide +kernel
theorem d_H_init_0 : decode prog_11_method_1_code 0 = .ok (.aload_n 0, 1) := by decide +kernel
theorem d_H_init_1 : decode prog_11_method_1_code 1 = .ok (.invokespecial 3, 3) := by decide +kernel
theorem d_H_init_4 : decode prog_11_method_1_code 4 = .ok (.aload_n 0, 1) := by decide +kernel
theorem d_H_init_5 : decode prog_11_method_1_code 5 = .ok (.iconst 0, 1) := by decide +kernel
theorem d_H_init_6 : decode prog_11_method_1_code 6 = .ok (.putfield 9, 3) := by decide +kernel
theorem d_H_init_9 : decode prog_11_method_1_code 9 = .ok (.aload_n 0, 1) := by decide +kernel
theorem d_H_init_10 : decode prog_11_method_1_code 10 = .ok (.iconst 2, 1) := by decide +kernel
theorem d_H_init_11 : decode prog_11_method_1_code 11 = .ok (.newarray .int, 2) := by decide +kernel
theorem d_H_init_13 : decode prog_11_method_1_code 13 = .ok (.putfield 15, 3) := by decide +kernel
theorem d_H_init_16 : decode prog_11_method_1_code 16 = .ok (.aload_n 0, 1) := by decide +kernel
theorem d_H_init_17 : decode prog_11_method_1_code 17 = .ok (.iconst 3, 1) := by decide +kernel
theorem d_H_init_18 : decode prog_11_method_1_code 18 = .ok (.newarray .int, 2) := by decide +kernel
theorem d_H_init_20 : decode prog_11_method_1_code 20 = .ok (.putfield 19, 3) := by decide +kernel
theorem d_H_init_23 : decode prog_11_method_1_code 23 = .ok (.aload_n 0, 1) := by decide +kernel
theorem d_H_init_24 : decode prog_11_method_1_code 24 = .ok (.iconst 3, 1) := by decide +kernel
theorem d_H_init_25 : decode prog_11_method_1_code 25 = .ok (.newarray .int, 2) := by decide +kernel
theorem d_H_init_27 : decode prog_11_method_1_code 27 = .ok (.putfield 22, 3) := by decide +kernel
theorem d_H_init_30 : decode prog_11_method_1_code 30 = .ok (.return_, 1) := by decide +kernel
theorem d_S_crash_0 : decode prog_1_method_2_code 0 = .ok (.aload_n 0, 1) := by decide +kernel
theorem d_S_crash_1 : decode prog_1_method_2_code 1 = .ok (.iload_n 1, 1) := by decide +kernel
theorem d_S_crash_2 : decode prog_1_method_2_code 2 = .ok (.invokevirtual 40, 3) := by decide +kernel
theorem d_S_crash_5 : decode prog_1_method_2_code 5 = .ok (.astore_n 2, 1) := by decide +kernel
theorem d_S_crash_6 : decode prog_1_method_2_code 6 = .ok (.aload_n 2, 1) := by decide +kernel
theorem d_S_crash_7 : decode prog_1_method_2_code 7 = .ok (.ifnonnull 5, 3) := by decide +kernel
theorem d_S_crash_10 : decode prog_1_method_2_code 10 = .ok (.iconst 0, 1) := by decide +kernel
theorem d_S_crash_11 : decode prog_1_method_2_code 11 = .ok (.ireturn, 1) := by decide +kernel
theorem d_S_crash_12 : decode prog_1_method_2_code 12 = .ok (.aload_n 2, 1) := by decide +kernel
theorem d_S_crash_13 : decode prog_1_method_2_code 13 = .ok (.iconst 0, 1) := by decide +kernel
theorem d_S_crash_14 : decode prog_1_method_2_code 14 = .ok (.putfield 44, 3) := by decide +kernel
theorem d_S_crash_17 : decode prog_1_method_2_code 17 = .ok (.aload_n 2, 1) := by decide +kernel
theorem d_S_crash_18 : decode prog_1_method_2_code 18 = .ok (.iconst 0, 1) := by decide +kernel
theorem d_S_crash_19 : decode prog_1_method_2_code 19 = .ok (.putfield 48, 3) := by decide +kernel
theorem d_S_crash_22 : decode prog_1_method_2_code 22 = .ok (.iconst 1, 1) := by decide +kernel
theorem d_S_crash_23 : decode prog_1_method_2_code 23 = .ok (.ireturn, 1) := by decide +kernel
theorem d_S_upNode_0 : decode prog_1_method_31_code 0 = .ok (.aload_n 0, 1) := by decide +kernel
theorem d_S_upNode_1 : decode prog_1_method_31_code 1 = .ok (.iload_n 1, 1) := by decide +kernel
theorem d_S_upNode_2 : decode prog_1_method_31_code 2 = .ok (.invokevirtual 51, 3) := by decide +kernel
theorem d_S_upNode_5 : decode prog_1_method_31_code 5 = .ok (.astore_n 2, 1) := by decide +kernel
theorem d_S_upNode_6 : decode prog_1_method_31_code 6 = .ok (.aload_n 2, 1) := by decide +kernel
theorem d_S_upNode_7 : decode prog_1_method_31_code 7 = .ok (.ifnull 14, 3) := by decide +kernel
theorem d_S_upNode_10 : decode prog_1_method_31_code 10 = .ok (.aload_n 2, 1) := by decide +kernel
theorem d_S_upNode_11 : decode prog_1_method_31_code 11 = .ok (.getfield 44, 3) := by decide +kernel
theorem d_S_upNode_14 : decode prog_1_method_31_code 14 = .ok (.ifCond .eq 7, 3) := by decide +kernel
theorem d_S_upNode_17 : decode prog_1_method_31_code 17 = .ok (.aload_n 2, 1) := by decide +kernel
theorem d_S_upNode_18 : decode prog_1_method_31_code 18 = .ok (.goto 4, 3) := by decide +kernel
theorem d_S_upNode_21 : decode prog_1_method_31_code 21 = .ok (.aconst_null, 1) := by decide +kernel
theorem d_S_upNode_22 : decode prog_1_method_31_code 22 = .ok (.areturn, 1) := by decide +kernel
theorem d_S_anyNode_0 : decode prog_1_method_28_code 0 = .ok (.iload_n 1, 1) := by decide +kernel
theorem d_S_anyNode_1 : decode prog_1_method_28_code 1 = .ok (.ifCond .lt 18, 3) := by decide +kernel
theorem d_S_anyNode_4 : decode prog_1_method_28_code 4 = .ok (.iload_n 1, 1) := by decide +kernel
theorem d_S_anyNode_5 : decode prog_1_method_28_code 5 = .ok (.bipush 12, 2) := by decide +kernel
theorem d_S_anyNode_7 : decode prog_1_method_28_code 7 = .ok (.if_icmp .ge 12, 3) := by decide +kernel
theorem d_S_anyNode_10 : decode prog_1_method_28_code 10 = .ok (.aload_n 0, 1) := by decide +kernel
theorem d_S_anyNode_11 : decode prog_1_method_28_code 11 = .ok (.getfield 11, 3) := by decide +kernel
theorem d_S_anyNode_14 : decode prog_1_method_28_code 14 = .ok (.iload_n 1, 1) := by decide +kernel
theorem d_S_anyNode_15 : decode prog_1_method_28_code 15 = .ok (.aaload, 1) := by decide +kernel
theorem d_S_anyNode_16 : decode prog_1_method_28_code 16 = .ok (.goto 4, 3) := by decide +kernel
theorem d_S_anyNode_19 : decode prog_1_method_28_code 19 = .ok (.aconst_null, 1) := by decide +kernel
theorem d_S_anyNode_20 : decode prog_1_method_28_code 20 = .ok (.areturn, 1) := by decide +kernel
theorem d_S_recover_0 : decode prog_1_method_3_code 0 = .ok (.aload_n 0, 1) := by decide +kernel
theorem d_S_recover_1 : decode prog_1_method_3_code 1 = .ok (.iload_n 1, 1) := by decide +kernel
theorem d_S_recover_2 : decode prog_1_method_3_code 2 = .ok (.invokevirtual 51, 3) := by decide +kernel
theorem d_S_recover_5 : decode prog_1_method_3_code 5 = .ok (.astore_n 2, 1) := by decide +kernel
theorem d_S_recover_6 : decode prog_1_method_3_code 6 = .ok (.aload_n 2, 1) := by decide +kernel
theorem d_S_recover_7 : decode prog_1_method_3_code 7 = .ok (.ifnull 10, 3) := by decide +kernel
theorem d_S_recover_10 : decode prog_1_method_3_code 10 = .ok (.aload_n 2, 1) := by decide +kernel
theorem d_S_recover_11 : decode prog_1_method_3_code 11 = .ok (.getfield 44, 3) := by decide +kernel
theorem d_S_recover_14 : decode prog_1_method_3_code 14 = .ok (.ifCond .eq 5, 3) := by decide +kernel
theorem d_S_recover_17 : decode prog_1_method_3_code 17 = .ok (.iconst 0, 1) := by decide +kernel
theorem d_S_recover_18 : decode prog_1_method_3_code 18 = .ok (.ireturn, 1) := by decide +kernel
theorem d_S_recover_19 : decode prog_1_method_3_code 19 = .ok (.aload_n 2, 1) := by decide +kernel
theorem d_S_recover_20 : decode prog_1_method_3_code 20 = .ok (.iconst 1, 1) := by decide +kernel
theorem d_S_recover_21 : decode prog_1_method_3_code 21 = .ok (.putfield 44, 3) := by decide +kernel
theorem d_S_recover_24 : decode prog_1_method_3_code 24 = .ok (.iconst 1, 1) := by decide +kernel
theorem d_S_recover_25 : decode prog_1_method_3_code 25 = .ok (.ireturn, 1) := by decide +kernel
theorem d_S_elect_0 : decode prog_1_method_4_code 0 = .ok (.aload_n 0, 1) := by decide +kernel
theorem d_S_elect_1 : decode prog_1_method_4_code 1 = .ok (.iload_n 1, 1) := by decide +kernel
theorem d_S_elect_2 : decode prog_1_method_4_code 2 = .ok (.invokevirtual 40, 3) := by decide +kernel
theorem d_S_elect_5 : decode prog_1_method_4_code 5 = .ok (.astore_n 2, 1) := by decide +kernel
theorem d_S_elect_6 : decode prog_1_method_4_code 6 = .ok (.aload_n 2, 1) := by decide +kernel
theorem d_S_elect_7 : decode prog_1_method_4_code 7 = .ok (.ifnonnull 5, 3) := by decide +kernel
theorem d_S_elect_10 : decode prog_1_method_4_code 10 = .ok (.iconst (-1), 1) := by decide +kernel
theorem d_S_elect_11 : decode prog_1_method_4_code 11 = .ok (.ireturn, 1) := by decide +kernel
theorem d_S_elect_12 : decode prog_1_method_4_code 12 = .ok (.aload_n 2, 1) := by decide +kernel
theorem d_S_elect_13 : decode prog_1_method_4_code 13 = .ok (.getfield 54, 3) := by decide +kernel
theorem d_S_elect_16 : decode prog_1_method_4_code 16 = .ok (.iconst 1, 1) := by decide +kernel
theorem d_S_elect_17 : decode prog_1_method_4_code 17 = .ok (.iadd, 1) := by decide +kernel
theorem d_S_elect_18 : decode prog_1_method_4_code 18 = .ok (.iload_n 1, 1) := by decide +kernel
theorem d_S_elect_19 : decode prog_1_method_4_code 19 = .ok (.aload_n 2, 1) := by decide +kernel
theorem d_S_elect_20 : decode prog_1_method_4_code 20 = .ok (.getfield 54, 3) := by decide +kernel
theorem d_S_elect_23 : decode prog_1_method_4_code 23 = .ok (.isub, 1) := by decide +kernel
theorem d_S_elect_24 : decode prog_1_method_4_code 24 = .ok (.iconst 1, 1) := by decide +kernel
theorem d_S_elect_25 : decode prog_1_method_4_code 25 = .ok (.isub, 1) := by decide +kernel
theorem d_S_elect_26 : decode prog_1_method_4_code 26 = .ok (.iconst 3, 1) := by decide +kernel
theorem d_S_elect_27 : decode prog_1_method_4_code 27 = .ok (.invokestatic 58, 3) := by decide +kernel
theorem d_S_elect_30 : decode prog_1_method_4_code 30 = .ok (.iadd, 1) := by decide +kernel
theorem d_S_elect_31 : decode prog_1_method_4_code 31 = .ok (.istore_n 3, 1) := by decide +kernel
theorem d_S_elect_32 : decode prog_1_method_4_code 32 = .ok (.aload_n 0, 1) := by decide +kernel
theorem d_S_elect_33 : decode prog_1_method_4_code 33 = .ok (.aload_n 2, 1) := by decide +kernel
theorem d_S_elect_34 : decode prog_1_method_4_code 34 = .ok (.iload_n 1, 1) := by decide +kernel
theorem d_S_elect_35 : decode prog_1_method_4_code 35 = .ok (.invokestatic 33, 3) := by decide +kernel
theorem d_S_elect_38 : decode prog_1_method_4_code 38 = .ok (.iload_n 3, 1) := by decide +kernel
end
section
theorem d_S_elect_39 : decode prog_1_method_4_code 39 = .ok (.invokevirtual 64, 3) := by decide +kernel
theorem d_S_elect_42 : decode prog_1_method_4_code 42 = .ok (.iconst 2, 1) := by decide +kernel
theorem d_S_elect_43 : decode prog_1_method_4_code 43 = .ok (.if_icmp .ge 5, 3) := by decide +kernel
theorem d_S_elect_46 : decode prog_1_method_4_code 46 = .ok (.iconst 0, 1) := by decide +kernel
theorem d_S_elect_47 : decode prog_1_method_4_code 47 = .ok (.ireturn, 1) := by decide +kernel
theorem d_S_elect_48 : decode prog_1_method_4_code 48 = .ok (.aload_n 2, 1) := by decide +kernel
theorem d_S_elect_49 : decode prog_1_method_4_code 49 = .ok (.iconst 1, 1) := by decide +kernel
theorem d_S_elect_50 : decode prog_1_method_4_code 50 = .ok (.putfield 48, 3) := by decide +kernel
theorem d_S_elect_53 : decode prog_1_method_4_code 53 = .ok (.aload_n 2, 1) := by decide +kernel
theorem d_S_elect_54 : decode prog_1_method_4_code 54 = .ok (.new 68, 3) := by decide +kernel
theorem d_S_elect_57 : decode prog_1_method_4_code 57 = .ok (.dup, 1) := by decide +kernel
theorem d_S_elect_58 : decode prog_1_method_4_code 58 = .ok (.iload_n 3, 1) := by decide +kernel
theorem d_S_elect_59 : decode prog_1_method_4_code 59 = .ok (.invokespecial 70, 3) := by decide +kernel
theorem d_S_elect_62 : decode prog_1_method_4_code 62 = .ok (.invokevirtual 73, 3) := by decide +kernel
theorem d_S_elect_65 : decode prog_1_method_4_code 65 = .ok (.pop, 1) := by decide +kernel
theorem d_S_elect_66 : decode prog_1_method_4_code 66 = .ok (.iload_n 3, 1) := by decide +kernel
theorem d_S_elect_67 : decode prog_1_method_4_code 67 = .ok (.ireturn, 1) := by decide +kernel
theorem d_J_floorMod_0 : decode prog_15_method_50_code 0 = .ok (.iload_n 0, 1) := by decide +kernel
theorem d_J_floorMod_1 : decode prog_15_method_50_code 1 = .ok (.iload_n 1, 1) := by decide +kernel
theorem d_J_floorMod_2 : decode prog_15_method_50_code 2 = .ok (.irem, 1) := by decide +kernel
theorem d_J_floorMod_3 : decode prog_15_method_50_code 3 = .ok (.istore_n 2, 1) := by decide +kernel
theorem d_J_floorMod_4 : decode prog_15_method_50_code 4 = .ok (.iload_n 0, 1) := by decide +kernel
theorem d_J_floorMod_5 : decode prog_15_method_50_code 5 = .ok (.iload_n 1, 1) := by decide +kernel
theorem d_J_floorMod_6 : decode prog_15_method_50_code 6 = .ok (.ixor, 1) := by decide +kernel
theorem d_J_floorMod_7 : decode prog_15_method_50_code 7 = .ok (.ifCond .ge 11, 3) := by decide +kernel
theorem d_J_floorMod_10 : decode prog_15_method_50_code 10 = .ok (.iload_n 2, 1) := by decide +kernel
theorem d_J_floorMod_11 : decode prog_15_method_50_code 11 = .ok (.ifCond .eq 7, 3) := by decide +kernel
theorem d_J_floorMod_14 : decode prog_15_method_50_code 14 = .ok (.iload_n 2, 1) := by decide +kernel
theorem d_J_floorMod_15 : decode prog_15_method_50_code 15 = .ok (.iload_n 1, 1) := by decide +kernel
theorem d_J_floorMod_16 : decode prog_15_method_50_code 16 = .ok (.iadd, 1) := by decide +kernel
theorem d_J_floorMod_17 : decode prog_15_method_50_code 17 = .ok (.ireturn, 1) := by decide +kernel
theorem d_J_floorMod_18 : decode prog_15_method_50_code 18 = .ok (.iload_n 2, 1) := by decide +kernel
theorem d_J_floorMod_19 : decode prog_15_method_50_code 19 = .ok (.ireturn, 1) := by decide +kernel
theorem d_S_countGrants_0 : decode prog_1_method_35_code 0 = .ok (.iconst 0, 1) := by decide +kernel
theorem d_S_countGrants_1 : decode prog_1_method_35_code 1 = .ok (.istore 4, 2) := by decide +kernel
theorem d_S_countGrants_3 : decode prog_1_method_35_code 3 = .ok (.iconst 0, 1) := by decide +kernel
theorem d_S_countGrants_4 : decode prog_1_method_35_code 4 = .ok (.istore 5, 2) := by decide +kernel
theorem d_S_countGrants_6 : decode prog_1_method_35_code 6 = .ok (.iload 5, 2) := by decide +kernel
theorem d_S_countGrants_8 : decode prog_1_method_35_code 8 = .ok (.iconst 3, 1) := by decide +kernel
theorem d_S_countGrants_9 : decode prog_1_method_35_code 9 = .ok (.if_icmp .ge 31, 3) := by decide +kernel
theorem d_S_countGrants_12 : decode prog_1_method_35_code 12 = .ok (.aload_n 0, 1) := by decide +kernel
theorem d_S_countGrants_13 : decode prog_1_method_35_code 13 = .ok (.getfield 11, 3) := by decide +kernel
theorem d_S_countGrants_16 : decode prog_1_method_35_code 16 = .ok (.iload_n 2, 1) := by decide +kernel
theorem d_S_countGrants_17 : decode prog_1_method_35_code 17 = .ok (.iconst 3, 1) := by decide +kernel
theorem d_S_countGrants_18 : decode prog_1_method_35_code 18 = .ok (.imul, 1) := by decide +kernel
theorem d_S_countGrants_19 : decode prog_1_method_35_code 19 = .ok (.iload 5, 2) := by decide +kernel
theorem d_S_countGrants_21 : decode prog_1_method_35_code 21 = .ok (.iadd, 1) := by decide +kernel
theorem d_S_countGrants_22 : decode prog_1_method_35_code 22 = .ok (.aaload, 1) := by decide +kernel
theorem d_S_countGrants_23 : decode prog_1_method_35_code 23 = .ok (.aload_n 1, 1) := by decide +kernel
theorem d_S_countGrants_24 : decode prog_1_method_35_code 24 = .ok (.iload_n 3, 1) := by decide +kernel
theorem d_S_countGrants_25 : decode prog_1_method_35_code 25 = .ok (.invokevirtual 225, 3) := by decide +kernel
theorem d_S_countGrants_28 : decode prog_1_method_35_code 28 = .ok (.ifCond .eq 6, 3) := by decide +kernel
theorem d_S_countGrants_31 : decode prog_1_method_35_code 31 = .ok (.iinc 4 1, 3) := by decide +kernel
theorem d_S_countGrants_34 : decode prog_1_method_35_code 34 = .ok (.iinc 5 1, 3) := by decide +kernel
theorem d_S_countGrants_37 : decode prog_1_method_35_code 37 = .ok (.goto (-31), 3) := by decide +kernel
theorem d_S_countGrants_40 : decode prog_1_method_35_code 40 = .ok (.iload 4, 2) := by decide +kernel
theorem d_S_countGrants_42 : decode prog_1_method_35_code 42 = .ok (.ireturn, 1) := by decide +kernel
theorem d_N_grants_0 : decode prog_8_method_5_code 0 = .ok (.aload_n 0, 1) := by decide +kernel
theorem d_N_grants_1 : decode prog_8_method_5_code 1 = .ok (.getfield 9, 3) := by decide +kernel
theorem d_N_grants_4 : decode prog_8_method_5_code 4 = .ok (.ifCond .eq 19, 3) := by decide +kernel
theorem d_N_grants_7 : decode prog_8_method_5_code 7 = .ok (.aload_n 0, 1) := by decide +kernel
theorem d_N_grants_8 : decode prog_8_method_5_code 8 = .ok (.getfield 21, 3) := by decide +kernel
theorem d_N_grants_11 : decode prog_8_method_5_code 11 = .ok (.iload_n 2, 1) := by decide +kernel
theorem d_N_grants_12 : decode prog_8_method_5_code 12 = .ok (.if_icmp .ge 11, 3) := by decide +kernel
theorem d_N_grants_15 : decode prog_8_method_5_code 15 = .ok (.aload_n 1, 1) := by decide +kernel
theorem d_N_grants_16 : decode prog_8_method_5_code 16 = .ok (.aload_n 0, 1) := by decide +kernel
theorem d_N_grants_17 : decode prog_8_method_5_code 17 = .ok (.invokevirtual 28, 3) := by decide +kernel
theorem d_N_grants_20 : decode prog_8_method_5_code 20 = .ok (.ifCond .eq 5, 3) := by decide +kernel
theorem d_N_grants_23 : decode prog_8_method_5_code 23 = .ok (.iconst 0, 1) := by decide +kernel
theorem d_N_grants_24 : decode prog_8_method_5_code 24 = .ok (.ireturn, 1) := by decide +kernel
theorem d_N_grants_25 : decode prog_8_method_5_code 25 = .ok (.aload_n 0, 1) := by decide +kernel
theorem d_N_grants_26 : decode prog_8_method_5_code 26 = .ok (.iload_n 2, 1) := by decide +kernel
theorem d_N_grants_27 : decode prog_8_method_5_code 27 = .ok (.invokevirtual 32, 3) := by decide +kernel
theorem d_N_grants_30 : decode prog_8_method_5_code 30 = .ok (.iconst 1, 1) := by decide +kernel
theorem d_N_grants_31 : decode prog_8_method_5_code 31 = .ok (.ireturn, 1) := by decide +kernel
theorem d_N_isBehind_0 : decode prog_8_method_6_code 0 = .ok (.aload_n 0, 1) := by decide +kernel
theorem d_N_isBehind_1 : decode prog_8_method_6_code 1 = .ok (.invokevirtual 36, 3) := by decide +kernel
theorem d_N_isBehind_4 : decode prog_8_method_6_code 4 = .ok (.istore_n 2, 1) := by decide +kernel
theorem d_N_isBehind_5 : decode prog_8_method_6_code 5 = .ok (.aload_n 1, 1) := by decide +kernel
theorem d_N_isBehind_6 : decode prog_8_method_6_code 6 = .ok (.invokevirtual 36, 3) := by decide +kernel
theorem d_N_isBehind_9 : decode prog_8_method_6_code 9 = .ok (.istore_n 3, 1) := by decide +kernel
theorem d_N_isBehind_10 : decode prog_8_method_6_code 10 = .ok (.iload_n 2, 1) := by decide +kernel
theorem d_N_isBehind_11 : decode prog_8_method_6_code 11 = .ok (.iload_n 3, 1) := by decide +kernel
theorem d_N_isBehind_12 : decode prog_8_method_6_code 12 = .ok (.if_icmp .lt 19, 3) := by decide +kernel
theorem d_N_isBehind_15 : decode prog_8_method_6_code 15 = .ok (.iload_n 2, 1) := by decide +kernel
theorem d_N_isBehind_16 : decode prog_8_method_6_code 16 = .ok (.iload_n 3, 1) := by decide +kernel
theorem d_N_isBehind_17 : decode prog_8_method_6_code 17 = .ok (.if_icmp .ne 18, 3) := by decide +kernel
theorem d_N_isBehind_20 : decode prog_8_method_6_code 20 = .ok (.aload_n 0, 1) := by decide +kernel
theorem d_N_isBehind_21 : decode prog_8_method_6_code 21 = .ok (.getfield 40, 3) := by decide +kernel
theorem d_N_isBehind_24 : decode prog_8_method_6_code 24 = .ok (.aload_n 1, 1) := by decide +kernel
theorem d_N_isBehind_25 : decode prog_8_method_6_code 25 = .ok (.getfield 40, 3) := by decide +kernel
theorem d_N_isBehind_28 : decode prog_8_method_6_code 28 = .ok (.if_icmp .ge 7, 3) := by decide +kernel
theorem d_N_isBehind_31 : decode prog_8_method_6_code 31 = .ok (.iconst 1, 1) := by decide +kernel
theorem d_N_isBehind_32 : decode prog_8_method_6_code 32 = .ok (.goto 4, 3) := by decide +kernel
theorem d_N_isBehind_35 : decode prog_8_method_6_code 35 = .ok (.iconst 0, 1) := by decide +kernel
theorem d_N_isBehind_36 : decode prog_8_method_6_code 36 = .ok (.ireturn, 1) := by decide +kernel
theorem d_N_lastTerm_0 : decode prog_8_method_7_code 0 = .ok (.aload_n 0, 1) := by decide +kernel
theorem d_N_lastTerm_1 : decode prog_8_method_7_code 1 = .ok (.getfield 40, 3) := by decide +kernel
theorem d_N_lastTerm_4 : decode prog_8_method_7_code 4 = .ok (.ifCond .ne 7, 3) := by decide +kernel
theorem d_N_lastTerm_7 : decode prog_8_method_7_code 7 = .ok (.iconst 0, 1) := by decide +kernel
theorem d_N_lastTerm_8 : decode prog_8_method_7_code 8 = .ok (.goto 17, 3) := by decide +kernel
theorem d_N_lastTerm_11 : decode prog_8_method_7_code 11 = .ok (.aload_n 0, 1) := by decide +kernel
theorem d_N_lastTerm_12 : decode prog_8_method_7_code 12 = .ok (.getfield 17, 3) := by decide +kernel
theorem d_N_lastTerm_15 : decode prog_8_method_7_code 15 = .ok (.aload_n 0, 1) := by decide +kernel
theorem d_N_lastTerm_16 : decode prog_8_method_7_code 16 = .ok (.getfield 40, 3) := by decide +kernel
theorem d_N_lastTerm_19 : decode prog_8_method_7_code 19 = .ok (.iconst 1, 1) := by decide +kernel
theorem d_N_lastTerm_20 : decode prog_8_method_7_code 20 = .ok (.isub, 1) := by decide +kernel
theorem d_N_lastTerm_21 : decode prog_8_method_7_code 21 = .ok (.aaload, 1) := by decide +kernel
theorem d_N_lastTerm_22 : decode prog_8_method_7_code 22 = .ok (.getfield 43, 3) := by decide +kernel
theorem d_N_lastTerm_25 : decode prog_8_method_7_code 25 = .ok (.ireturn, 1) := by decide +kernel
theorem d_N_takeTerm_0 : decode prog_8_method_4_code 0 = .ok (.iload_n 1, 1) := by decide +kernel
theorem d_N_takeTerm_1 : decode prog_8_method_4_code 1 = .ok (.aload_n 0, 1) := by decide +kernel
theorem d_N_takeTerm_2 : decode prog_8_method_4_code 2 = .ok (.getfield 21, 3) := by decide +kernel
theorem d_N_takeTerm_5 : decode prog_8_method_4_code 5 = .ok (.if_icmp .le 13, 3) := by decide +kernel
theorem d_N_takeTerm_8 : decode prog_8_method_4_code 8 = .ok (.aload_n 0, 1) := by decide +kernel
theorem d_N_takeTerm_9 : decode prog_8_method_4_code 9 = .ok (.iload_n 1, 1) := by decide +kernel
theorem d_N_takeTerm_10 : decode prog_8_method_4_code 10 = .ok (.putfield 21, 3) := by decide +kernel
theorem d_N_takeTerm_13 : decode prog_8_method_4_code 13 = .ok (.aload_n 0, 1) := by decide +kernel
theorem d_N_takeTerm_14 : decode prog_8_method_4_code 14 = .ok (.iconst 0, 1) := by decide +kernel
theorem d_N_takeTerm_15 : decode prog_8_method_4_code 15 = .ok (.putfield 25, 3) := by decide +kernel
theorem d_N_takeTerm_18 : decode prog_8_method_4_code 18 = .ok (.return_, 1) := by decide +kernel
theorem d_E_init_0 : decode prog_6_method_1_code 0 = .ok (.aload_n 0, 1) := by decide +kernel
theorem d_E_init_1 : decode prog_6_method_1_code 1 = .ok (.invokespecial 1, 3) := by decide +kernel
theorem d_E_init_4 : decode prog_6_method_1_code 4 = .ok (.aload_n 0, 1) := by decide +kernel
theorem d_E_init_5 : decode prog_6_method_1_code 5 = .ok (.iload_n 1, 1) := by decide +kernel
theorem d_E_init_6 : decode prog_6_method_1_code 6 = .ok (.putfield 7, 3) := by decide +kernel
theorem d_E_init_9 : decode prog_6_method_1_code 9 = .ok (.return_, 1) := by decide +kernel
theorem d_N_write_0 : decode prog_8_method_9_code 0 = .ok (.aload_n 0, 1) := by decide +kernel
theorem d_N_write_1 : decode prog_8_method_9_code 1 = .ok (.getfield 40, 3) := by decide +kernel
theorem d_N_write_4 : decode prog_8_method_9_code 4 = .ok (.bipush 80, 2) := by decide +kernel
theorem d_N_write_6 : decode prog_8_method_9_code 6 = .ok (.if_icmp .ne 6, 3) := by decide +kernel
theorem d_N_write_9 : decode prog_8_method_9_code 9 = .ok (.bipush (-3), 2) := by decide +kernel
theorem d_N_write_11 : decode prog_8_method_9_code 11 = .ok (.ireturn, 1) := by decide +kernel
theorem d_N_write_12 : decode prog_8_method_9_code 12 = .ok (.aload_n 0, 1) := by decide +kernel
theorem d_N_write_13 : decode prog_8_method_9_code 13 = .ok (.getfield 17, 3) := by decide +kernel
theorem d_N_write_16 : decode prog_8_method_9_code 16 = .ok (.aload_n 0, 1) := by decide +kernel
theorem d_N_write_17 : decode prog_8_method_9_code 17 = .ok (.getfield 40, 3) := by decide +kernel
theorem d_N_write_20 : decode prog_8_method_9_code 20 = .ok (.aload_n 1, 1) := by decide +kernel
theorem d_N_write_21 : decode prog_8_method_9_code 21 = .ok (.aastore, 1) := by decide +kernel
theorem d_N_write_22 : decode prog_8_method_9_code 22 = .ok (.aload_n 0, 1) := by decide +kernel
theorem d_N_write_23 : decode prog_8_method_9_code 23 = .ok (.dup, 1) := by decide +kernel
theorem d_N_write_24 : decode prog_8_method_9_code 24 = .ok (.getfield 40, 3) := by decide +kernel
theorem d_N_write_27 : decode prog_8_method_9_code 27 = .ok (.iconst 1, 1) := by decide +kernel
theorem d_N_write_28 : decode prog_8_method_9_code 28 = .ok (.iadd, 1) := by decide +kernel
theorem d_N_write_29 : decode prog_8_method_9_code 29 = .ok (.putfield 40, 3) := by decide +kernel
theorem d_N_write_32 : decode prog_8_method_9_code 32 = .ok (.aload_n 0, 1) := by decide +kernel
theorem d_N_write_33 : decode prog_8_method_9_code 33 = .ok (.getfield 40, 3) := by decide +kernel
theorem d_N_write_36 : decode prog_8_method_9_code 36 = .ok (.ireturn, 1) := by decide +kernel
theorem d_S_ship_0 : decode prog_1_method_5_code 0 = .ok (.aload_n 0, 1) := by decide +kernel
theorem d_S_ship_1 : decode prog_1_method_5_code 1 = .ok (.iload_n 1, 1) := by decide +kernel
theorem d_S_ship_2 : decode prog_1_method_5_code 2 = .ok (.invokevirtual 40, 3) := by decide +kernel
theorem d_S_ship_5 : decode prog_1_method_5_code 5 = .ok (.astore_n 3, 1) := by decide +kernel
theorem d_S_ship_6 : decode prog_1_method_5_code 6 = .ok (.aload_n 0, 1) := by decide +kernel
theorem d_S_ship_7 : decode prog_1_method_5_code 7 = .ok (.iload_n 2, 1) := by decide +kernel
theorem d_S_ship_8 : decode prog_1_method_5_code 8 = .ok (.invokevirtual 40, 3) := by decide +kernel
theorem d_S_ship_11 : decode prog_1_method_5_code 11 = .ok (.astore 4, 2) := by decide +kernel
theorem d_S_ship_13 : decode prog_1_method_5_code 13 = .ok (.aload_n 3, 1) := by decide +kernel
theorem d_S_ship_14 : decode prog_1_method_5_code 14 = .ok (.ifnull 24, 3) := by decide +kernel
theorem d_S_ship_17 : decode prog_1_method_5_code 17 = .ok (.aload 4, 2) := by decide +kernel
theorem d_S_ship_19 : decode prog_1_method_5_code 19 = .ok (.ifnull 19, 3) := by decide +kernel
theorem d_S_ship_22 : decode prog_1_method_5_code 22 = .ok (.iload_n 1, 1) := by decide +kernel
theorem d_S_ship_23 : decode prog_1_method_5_code 23 = .ok (.iload_n 2, 1) := by decide +kernel
theorem d_S_ship_24 : decode prog_1_method_5_code 24 = .ok (.if_icmp .eq 14, 3) := by decide +kernel
theorem d_S_ship_27 : decode prog_1_method_5_code 27 = .ok (.iload_n 1, 1) := by decide +kernel
theorem d_S_ship_28 : decode prog_1_method_5_code 28 = .ok (.invokestatic 33, 3) := by decide +kernel
theorem d_S_ship_31 : decode prog_1_method_5_code 31 = .ok (.iload_n 2, 1) := by decide +kernel
theorem d_S_ship_32 : decode prog_1_method_5_code 32 = .ok (.invokestatic 33, 3) := by decide +kernel
theorem d_S_ship_35 : decode prog_1_method_5_code 35 = .ok (.if_icmp .eq 5, 3) := by decide +kernel
theorem d_S_ship_38 : decode prog_1_method_5_code 38 = .ok (.iconst (-1), 1) := by decide +kernel
theorem d_S_ship_39 : decode prog_1_method_5_code 39 = .ok (.ireturn, 1) := by decide +kernel
theorem d_S_ship_40 : decode prog_1_method_5_code 40 = .ok (.aload_n 3, 1) := by decide +kernel
theorem d_S_ship_41 : decode prog_1_method_5_code 41 = .ok (.getfield 48, 3) := by decide +kernel
theorem d_S_ship_44 : decode prog_1_method_5_code 44 = .ok (.ifCond .ne 6, 3) := by decide +kernel
theorem d_S_ship_47 : decode prog_1_method_5_code 47 = .ok (.bipush (-2), 2) := by decide +kernel
theorem d_S_ship_49 : decode prog_1_method_5_code 49 = .ok (.ireturn, 1) := by decide +kernel
theorem d_S_ship_50 : decode prog_1_method_5_code 50 = .ok (.aload 4, 2) := by decide +kernel
theorem d_S_ship_52 : decode prog_1_method_5_code 52 = .ok (.getfield 54, 3) := by decide +kernel
theorem d_S_ship_55 : decode prog_1_method_5_code 55 = .ok (.aload_n 3, 1) := by decide +kernel
theorem d_S_ship_56 : decode prog_1_method_5_code 56 = .ok (.getfield 54, 3) := by decide +kernel
theorem d_S_ship_59 : decode prog_1_method_5_code 59 = .ok (.if_icmp .le 11, 3) := by decide +kernel
theorem d_S_ship_62 : decode prog_1_method_5_code 62 = .ok (.aload_n 3, 1) := by decide +kernel
theorem d_S_ship_63 : decode prog_1_method_5_code 63 = .ok (.iconst 0, 1) := by decide +kernel
theorem d_S_ship_64 : decode prog_1_method_5_code 64 = .ok (.putfield 48, 3) := by decide +kernel
theorem d_S_ship_67 : decode prog_1_method_5_code 67 = .ok (.bipush (-5), 2) := by decide +kernel
theorem d_S_ship_69 : decode prog_1_method_5_code 69 = .ok (.ireturn, 1) := by decide +kernel
theorem d_S_ship_70 : decode prog_1_method_5_code 70 = .ok (.aload 4, 2) := by decide +kernel
theorem d_S_ship_72 : decode prog_1_method_5_code 72 = .ok (.aload_n 3, 1) := by decide +kernel
theorem d_S_ship_73 : decode prog_1_method_5_code 73 = .ok (.getfield 54, 3) := by decide +kernel
theorem d_S_ship_76 : decode prog_1_method_5_code 76 = .ok (.invokevirtual 77, 3) := by decide +kernel
theorem d_S_ship_79 : decode prog_1_method_5_code 79 = .ok (.aload 4, 2) := by decide +kernel
theorem d_S_ship_81 : decode prog_1_method_5_code 81 = .ok (.aload_n 3, 1) := by decide +kernel
theorem d_S_ship_82 : decode prog_1_method_5_code 82 = .ok (.invokevirtual 80, 3) := by decide +kernel
theorem d_S_ship_85 : decode prog_1_method_5_code 85 = .ok (.aload_n 3, 1) := by decide +kernel
theorem d_S_ship_86 : decode prog_1_method_5_code 86 = .ok (.aload_n 0, 1) := by decide +kernel
theorem d_S_ship_87 : decode prog_1_method_5_code 87 = .ok (.aload_n 3, 1) := by decide +kernel
theorem d_S_ship_88 : decode prog_1_method_5_code 88 = .ok (.iload_n 1, 1) := by decide +kernel
theorem d_S_ship_89 : decode prog_1_method_5_code 89 = .ok (.invokestatic 33, 3) := by decide +kernel
theorem d_S_ship_92 : decode prog_1_method_5_code 92 = .ok (.invokevirtual 84, 3) := by decide +kernel
theorem d_S_ship_95 : decode prog_1_method_5_code 95 = .ok (.invokevirtual 88, 3) := by decide +kernel
theorem d_S_ship_98 : decode prog_1_method_5_code 98 = .ok (.aload 4, 2) := by decide +kernel
theorem d_S_ship_100 : decode prog_1_method_5_code 100 = .ok (.aload_n 3, 1) := by decide +kernel
theorem d_S_ship_101 : decode prog_1_method_5_code 101 = .ok (.getfield 91, 3) := by decide +kernel
theorem d_S_ship_104 : decode prog_1_method_5_code 104 = .ok (.invokevirtual 88, 3) := by decide +kernel
theorem d_S_ship_107 : decode prog_1_method_5_code 107 = .ok (.aload 4, 2) := by decide +kernel
theorem d_S_ship_109 : decode prog_1_method_5_code 109 = .ok (.getfield 94, 3) := by decide +kernel
theorem d_S_ship_112 : decode prog_1_method_5_code 112 = .ok (.ireturn, 1) := by decide +kernel
end
section
theorem d_N_copyNextFrom_0 : decode prog_8_method_10_code 0 = .ok (.aload_n 0, 1) := by decide +kernel
theorem d_N_copyNextFrom_1 : decode prog_8_method_10_code 1 = .ok (.aload_n 0, 1) := by decide +kernel
theorem d_N_copyNextFrom_2 : decode prog_8_method_10_code 2 = .ok (.aload_n 1, 1) := by decide +kernel
theorem d_N_copyNextFrom_3 : decode prog_8_method_10_code 3 = .ok (.invokevirtual 44, 3) := by decide +kernel
theorem d_N_copyNextFrom_6 : decode prog_8_method_10_code 6 = .ok (.putfield 40, 3) := by decide +kernel
theorem d_N_copyNextFrom_9 : decode prog_8_method_10_code 9 = .ok (.aload_n 0, 1) := by decide +kernel
theorem d_N_copyNextFrom_10 : decode prog_8_method_10_code 10 = .ok (.getfield 40, 3) := by decide +kernel
theorem d_N_copyNextFrom_13 : decode prog_8_method_10_code 13 = .ok (.aload_n 1, 1) := by decide +kernel
theorem d_N_copyNextFrom_14 : decode prog_8_method_10_code 14 = .ok (.getfield 40, 3) := by decide +kernel
theorem d_N_copyNextFrom_17 : decode prog_8_method_10_code 17 = .ok (.if_icmp .ge 17, 3) := by decide +kernel
theorem d_N_copyNextFrom_20 : decode prog_8_method_10_code 20 = .ok (.aload_n 0, 1) := by decide +kernel
theorem d_N_copyNextFrom_21 : decode prog_8_method_10_code 21 = .ok (.aload_n 1, 1) := by decide +kernel
theorem d_N_copyNextFrom_22 : decode prog_8_method_10_code 22 = .ok (.getfield 17, 3) := by decide +kernel
theorem d_N_copyNextFrom_25 : decode prog_8_method_10_code 25 = .ok (.aload_n 0, 1) := by decide +kernel
theorem d_N_copyNextFrom_26 : decode prog_8_method_10_code 26 = .ok (.getfield 40, 3) := by decide +kernel
theorem d_N_copyNextFrom_29 : decode prog_8_method_10_code 29 = .ok (.aaload, 1) := by decide +kernel
theorem d_N_copyNextFrom_30 : decode prog_8_method_10_code 30 = .ok (.invokevirtual 48, 3) := by decide +kernel
theorem d_N_copyNextFrom_33 : decode prog_8_method_10_code 33 = .ok (.pop, 1) := by decide +kernel
theorem d_N_copyNextFrom_34 : decode prog_8_method_10_code 34 = .ok (.return_, 1) := by decide +kernel
theorem d_N_countSame_0 : decode prog_8_method_11_code 0 = .ok (.aload_n 0, 1) := by decide +kernel
theorem d_N_countSame_1 : decode prog_8_method_11_code 1 = .ok (.getfield 40, 3) := by decide +kernel
theorem d_N_countSame_4 : decode prog_8_method_11_code 4 = .ok (.aload_n 1, 1) := by decide +kernel
theorem d_N_countSame_5 : decode prog_8_method_11_code 5 = .ok (.getfield 40, 3) := by decide +kernel
theorem d_N_countSame_8 : decode prog_8_method_11_code 8 = .ok (.invokestatic 52, 3) := by decide +kernel
theorem d_N_countSame_11 : decode prog_8_method_11_code 11 = .ok (.istore_n 2, 1) := by decide +kernel
theorem d_N_countSame_12 : decode prog_8_method_11_code 12 = .ok (.iconst 0, 1) := by decide +kernel
theorem d_N_countSame_13 : decode prog_8_method_11_code 13 = .ok (.istore_n 3, 1) := by decide +kernel
theorem d_N_countSame_14 : decode prog_8_method_11_code 14 = .ok (.iload_n 3, 1) := by decide +kernel
theorem d_N_countSame_15 : decode prog_8_method_11_code 15 = .ok (.iload_n 2, 1) := by decide +kernel
theorem d_N_countSame_16 : decode prog_8_method_11_code 16 = .ok (.if_icmp .ge 30, 3) := by decide +kernel
theorem d_N_countSame_19 : decode prog_8_method_11_code 19 = .ok (.aload_n 0, 1) := by decide +kernel
theorem d_N_countSame_20 : decode prog_8_method_11_code 20 = .ok (.getfield 17, 3) := by decide +kernel
theorem d_N_countSame_23 : decode prog_8_method_11_code 23 = .ok (.iload_n 3, 1) := by decide +kernel
theorem d_N_countSame_24 : decode prog_8_method_11_code 24 = .ok (.aaload, 1) := by decide +kernel
theorem d_N_countSame_25 : decode prog_8_method_11_code 25 = .ok (.getfield 43, 3) := by decide +kernel
theorem d_N_countSame_28 : decode prog_8_method_11_code 28 = .ok (.aload_n 1, 1) := by decide +kernel
theorem d_N_countSame_29 : decode prog_8_method_11_code 29 = .ok (.getfield 17, 3) := by decide +kernel
theorem d_N_countSame_32 : decode prog_8_method_11_code 32 = .ok (.iload_n 3, 1) := by decide +kernel
theorem d_N_countSame_33 : decode prog_8_method_11_code 33 = .ok (.aaload, 1) := by decide +kernel
theorem d_N_countSame_34 : decode prog_8_method_11_code 34 = .ok (.getfield 43, 3) := by decide +kernel
theorem d_N_countSame_37 : decode prog_8_method_11_code 37 = .ok (.if_icmp .ne 9, 3) := by decide +kernel
theorem d_N_countSame_40 : decode prog_8_method_11_code 40 = .ok (.iinc 3 1, 3) := by decide +kernel
theorem d_N_countSame_43 : decode prog_8_method_11_code 43 = .ok (.goto (-29), 3) := by decide +kernel
theorem d_N_countSame_46 : decode prog_8_method_11_code 46 = .ok (.iload_n 3, 1) := by decide +kernel
theorem d_N_countSame_47 : decode prog_8_method_11_code 47 = .ok (.ireturn, 1) := by decide +kernel
theorem d_J_min_0 : decode prog_15_method_69_code 0 = .ok (.iload_n 0, 1) := by decide +kernel
theorem d_J_min_1 : decode prog_15_method_69_code 1 = .ok (.iload_n 1, 1) := by decide +kernel
theorem d_J_min_2 : decode prog_15_method_69_code 2 = .ok (.if_icmp .gt 7, 3) := by decide +kernel
theorem d_J_min_5 : decode prog_15_method_69_code 5 = .ok (.iload_n 0, 1) := by decide +kernel
theorem d_J_min_6 : decode prog_15_method_69_code 6 = .ok (.goto 4, 3) := by decide +kernel
theorem d_J_min_9 : decode prog_15_method_69_code 9 = .ok (.iload_n 1, 1) := by decide +kernel
theorem d_J_min_10 : decode prog_15_method_69_code 10 = .ok (.ireturn, 1) := by decide +kernel
theorem d_S_countAgreed_0 : decode prog_1_method_36_code 0 = .ok (.aload_n 1, 1) := by decide +kernel
theorem d_S_countAgreed_1 : decode prog_1_method_36_code 1 = .ok (.getfield 94, 3) := by decide +kernel
theorem d_S_countAgreed_4 : decode prog_1_method_36_code 4 = .ok (.iconst 1, 1) := by decide +kernel
theorem d_S_countAgreed_5 : decode prog_1_method_36_code 5 = .ok (.isub, 1) := by decide +kernel
theorem d_S_countAgreed_6 : decode prog_1_method_36_code 6 = .ok (.istore_n 3, 1) := by decide +kernel
theorem d_S_countAgreed_7 : decode prog_1_method_36_code 7 = .ok (.iload_n 3, 1) := by decide +kernel
theorem d_S_countAgreed_8 : decode prog_1_method_36_code 8 = .ok (.ifCond .lt 39, 3) := by decide +kernel
theorem d_S_countAgreed_11 : decode prog_1_method_36_code 11 = .ok (.aload_n 1, 1) := by decide +kernel
theorem d_S_countAgreed_12 : decode prog_1_method_36_code 12 = .ok (.iload_n 3, 1) := by decide +kernel
theorem d_S_countAgreed_13 : decode prog_1_method_36_code 13 = .ok (.aload_n 1, 1) := by decide +kernel
theorem d_S_countAgreed_14 : decode prog_1_method_36_code 14 = .ok (.getfield 54, 3) := by decide +kernel
theorem d_S_countAgreed_17 : decode prog_1_method_36_code 17 = .ok (.invokevirtual 229, 3) := by decide +kernel
theorem d_S_countAgreed_20 : decode prog_1_method_36_code 20 = .ok (.ifCond .eq 21, 3) := by decide +kernel
theorem d_S_countAgreed_23 : decode prog_1_method_36_code 23 = .ok (.aload_n 0, 1) := by decide +kernel
theorem d_S_countAgreed_24 : decode prog_1_method_36_code 24 = .ok (.iload_n 2, 1) := by decide +kernel
theorem d_S_countAgreed_25 : decode prog_1_method_36_code 25 = .ok (.iload_n 3, 1) := by decide +kernel
theorem d_S_countAgreed_26 : decode prog_1_method_36_code 26 = .ok (.aload_n 1, 1) := by decide +kernel
theorem d_S_countAgreed_27 : decode prog_1_method_36_code 27 = .ok (.getfield 54, 3) := by decide +kernel
theorem d_S_countAgreed_30 : decode prog_1_method_36_code 30 = .ok (.invokevirtual 232, 3) := by decide +kernel
theorem d_S_countAgreed_33 : decode prog_1_method_36_code 33 = .ok (.iconst 2, 1) := by decide +kernel
theorem d_S_countAgreed_34 : decode prog_1_method_36_code 34 = .ok (.if_icmp .lt 7, 3) := by decide +kernel
theorem d_S_countAgreed_37 : decode prog_1_method_36_code 37 = .ok (.iload_n 3, 1) := by decide +kernel
theorem d_S_countAgreed_38 : decode prog_1_method_36_code 38 = .ok (.iconst 1, 1) := by decide +kernel
theorem d_S_countAgreed_39 : decode prog_1_method_36_code 39 = .ok (.iadd, 1) := by decide +kernel
theorem d_S_countAgreed_40 : decode prog_1_method_36_code 40 = .ok (.ireturn, 1) := by decide +kernel
theorem d_S_countAgreed_41 : decode prog_1_method_36_code 41 = .ok (.iinc 3 (-1), 3) := by decide +kernel
theorem d_S_countAgreed_44 : decode prog_1_method_36_code 44 = .ok (.goto (-37), 3) := by decide +kernel
theorem d_S_countAgreed_47 : decode prog_1_method_36_code 47 = .ok (.iconst 0, 1) := by decide +kernel
theorem d_S_countAgreed_48 : decode prog_1_method_36_code 48 = .ok (.ireturn, 1) := by decide +kernel
theorem d_N_hasEntry_0 : decode prog_8_method_8_code 0 = .ok (.iload_n 1, 1) := by decide +kernel
theorem d_N_hasEntry_1 : decode prog_8_method_8_code 1 = .ok (.aload_n 0, 1) := by decide +kernel
theorem d_N_hasEntry_2 : decode prog_8_method_8_code 2 = .ok (.getfield 40, 3) := by decide +kernel
theorem d_N_hasEntry_5 : decode prog_8_method_8_code 5 = .ok (.if_icmp .ge 20, 3) := by decide +kernel
theorem d_N_hasEntry_8 : decode prog_8_method_8_code 8 = .ok (.aload_n 0, 1) := by decide +kernel
theorem d_N_hasEntry_9 : decode prog_8_method_8_code 9 = .ok (.getfield 17, 3) := by decide +kernel
theorem d_N_hasEntry_12 : decode prog_8_method_8_code 12 = .ok (.iload_n 1, 1) := by decide +kernel
theorem d_N_hasEntry_13 : decode prog_8_method_8_code 13 = .ok (.aaload, 1) := by decide +kernel
theorem d_N_hasEntry_14 : decode prog_8_method_8_code 14 = .ok (.getfield 43, 3) := by decide +kernel
theorem d_N_hasEntry_17 : decode prog_8_method_8_code 17 = .ok (.iload_n 2, 1) := by decide +kernel
theorem d_N_hasEntry_18 : decode prog_8_method_8_code 18 = .ok (.if_icmp .ne 7, 3) := by decide +kernel
theorem d_N_hasEntry_21 : decode prog_8_method_8_code 21 = .ok (.iconst 1, 1) := by decide +kernel
theorem d_N_hasEntry_22 : decode prog_8_method_8_code 22 = .ok (.goto 4, 3) := by decide +kernel
theorem d_N_hasEntry_25 : decode prog_8_method_8_code 25 = .ok (.iconst 0, 1) := by decide +kernel
theorem d_N_hasEntry_26 : decode prog_8_method_8_code 26 = .ok (.ireturn, 1) := by decide +kernel
theorem d_S_countCopies_0 : decode prog_1_method_37_code 0 = .ok (.iconst 0, 1) := by decide +kernel
theorem d_S_countCopies_1 : decode prog_1_method_37_code 1 = .ok (.istore 4, 2) := by decide +kernel
theorem d_S_countCopies_3 : decode prog_1_method_37_code 3 = .ok (.iconst 0, 1) := by decide +kernel
theorem d_S_countCopies_4 : decode prog_1_method_37_code 4 = .ok (.istore 5, 2) := by decide +kernel
theorem d_S_countCopies_6 : decode prog_1_method_37_code 6 = .ok (.iload 5, 2) := by decide +kernel
theorem d_S_countCopies_8 : decode prog_1_method_37_code 8 = .ok (.iconst 3, 1) := by decide +kernel
theorem d_S_countCopies_9 : decode prog_1_method_37_code 9 = .ok (.if_icmp .ge 31, 3) := by decide +kernel
theorem d_S_countCopies_12 : decode prog_1_method_37_code 12 = .ok (.aload_n 0, 1) := by decide +kernel
theorem d_S_countCopies_13 : decode prog_1_method_37_code 13 = .ok (.getfield 11, 3) := by decide +kernel
theorem d_S_countCopies_16 : decode prog_1_method_37_code 16 = .ok (.iload_n 1, 1) := by decide +kernel
theorem d_S_countCopies_17 : decode prog_1_method_37_code 17 = .ok (.iconst 3, 1) := by decide +kernel
theorem d_S_countCopies_18 : decode prog_1_method_37_code 18 = .ok (.imul, 1) := by decide +kernel
theorem d_S_countCopies_19 : decode prog_1_method_37_code 19 = .ok (.iload 5, 2) := by decide +kernel
theorem d_S_countCopies_21 : decode prog_1_method_37_code 21 = .ok (.iadd, 1) := by decide +kernel
theorem d_S_countCopies_22 : decode prog_1_method_37_code 22 = .ok (.aaload, 1) := by decide +kernel
theorem d_S_countCopies_23 : decode prog_1_method_37_code 23 = .ok (.iload_n 2, 1) := by decide +kernel
theorem d_S_countCopies_24 : decode prog_1_method_37_code 24 = .ok (.iload_n 3, 1) := by decide +kernel
theorem d_S_countCopies_25 : decode prog_1_method_37_code 25 = .ok (.invokevirtual 229, 3) := by decide +kernel
theorem d_S_countCopies_28 : decode prog_1_method_37_code 28 = .ok (.ifCond .eq 6, 3) := by decide +kernel
theorem d_S_countCopies_31 : decode prog_1_method_37_code 31 = .ok (.iinc 4 1, 3) := by decide +kernel
theorem d_S_countCopies_34 : decode prog_1_method_37_code 34 = .ok (.iinc 5 1, 3) := by decide +kernel
theorem d_S_countCopies_37 : decode prog_1_method_37_code 37 = .ok (.goto (-31), 3) := by decide +kernel
theorem d_S_countCopies_40 : decode prog_1_method_37_code 40 = .ok (.iload 4, 2) := by decide +kernel
theorem d_S_countCopies_42 : decode prog_1_method_37_code 42 = .ok (.ireturn, 1) := by decide +kernel
theorem d_N_learn_0 : decode prog_8_method_12_code 0 = .ok (.iload_n 1, 1) := by decide +kernel
theorem d_N_learn_1 : decode prog_8_method_12_code 1 = .ok (.aload_n 0, 1) := by decide +kernel
theorem d_N_learn_2 : decode prog_8_method_12_code 2 = .ok (.getfield 40, 3) := by decide +kernel
theorem d_N_learn_5 : decode prog_8_method_12_code 5 = .ok (.invokestatic 52, 3) := by decide +kernel
theorem d_N_learn_8 : decode prog_8_method_12_code 8 = .ok (.istore_n 2, 1) := by decide +kernel
theorem d_N_learn_9 : decode prog_8_method_12_code 9 = .ok (.aload_n 0, 1) := by decide +kernel
theorem d_N_learn_10 : decode prog_8_method_12_code 10 = .ok (.getfield 58, 3) := by decide +kernel
theorem d_N_learn_13 : decode prog_8_method_12_code 13 = .ok (.istore_n 3, 1) := by decide +kernel
theorem d_N_learn_14 : decode prog_8_method_12_code 14 = .ok (.iload_n 3, 1) := by decide +kernel
theorem d_N_learn_15 : decode prog_8_method_12_code 15 = .ok (.iload_n 2, 1) := by decide +kernel
theorem d_N_learn_16 : decode prog_8_method_12_code 16 = .ok (.if_icmp .ge 19, 3) := by decide +kernel
theorem d_N_learn_19 : decode prog_8_method_12_code 19 = .ok (.aload_n 0, 1) := by decide +kernel
theorem d_N_learn_20 : decode prog_8_method_12_code 20 = .ok (.aload_n 0, 1) := by decide +kernel
theorem d_N_learn_21 : decode prog_8_method_12_code 21 = .ok (.getfield 17, 3) := by decide +kernel
theorem d_N_learn_24 : decode prog_8_method_12_code 24 = .ok (.iload_n 3, 1) := by decide +kernel
theorem d_N_learn_25 : decode prog_8_method_12_code 25 = .ok (.aaload, 1) := by decide +kernel
theorem d_N_learn_26 : decode prog_8_method_12_code 26 = .ok (.invokevirtual 61, 3) := by decide +kernel
theorem d_N_learn_29 : decode prog_8_method_12_code 29 = .ok (.iinc 3 1, 3) := by decide +kernel
theorem d_N_learn_32 : decode prog_8_method_12_code 32 = .ok (.goto (-18), 3) := by decide +kernel
theorem d_N_learn_35 : decode prog_8_method_12_code 35 = .ok (.aload_n 0, 1) := by decide +kernel
theorem d_N_learn_36 : decode prog_8_method_12_code 36 = .ok (.aload_n 0, 1) := by decide +kernel
theorem d_N_learn_37 : decode prog_8_method_12_code 37 = .ok (.getfield 58, 3) := by decide +kernel
theorem d_N_learn_40 : decode prog_8_method_12_code 40 = .ok (.iload_n 2, 1) := by decide +kernel
theorem d_N_learn_41 : decode prog_8_method_12_code 41 = .ok (.invokestatic 65, 3) := by decide +kernel
theorem d_N_learn_44 : decode prog_8_method_12_code 44 = .ok (.putfield 58, 3) := by decide +kernel
theorem d_N_learn_47 : decode prog_8_method_12_code 47 = .ok (.return_, 1) := by decide +kernel
theorem d_V_carryOut_0 : decode prog_10_method_2_code 0 = .ok (.aload_n 1, 1) := by decide +kernel
theorem d_V_carryOut_1 : decode prog_10_method_2_code 1 = .ok (.aload_n 0, 1) := by decide +kernel
theorem d_V_carryOut_2 : decode prog_10_method_2_code 2 = .ok (.invokevirtual 17, 3) := by decide +kernel
theorem d_V_carryOut_5 : decode prog_10_method_2_code 5 = .ok (.return_, 1) := by decide +kernel
theorem d_G_changeService_0 : decode prog_2_method_2_code 0 = .ok (.aload_n 1, 1) := by decide +kernel
theorem d_G_changeService_1 : decode prog_2_method_2_code 1 = .ok (.getfield 21, 3) := by decide +kernel
theorem d_G_changeService_4 : decode prog_2_method_2_code 4 = .ok (.aload_n 1, 1) := by decide +kernel
theorem d_G_changeService_5 : decode prog_2_method_2_code 5 = .ok (.getfield 27, 3) := by decide +kernel
theorem d_G_changeService_8 : decode prog_2_method_2_code 8 = .ok (.aaload, 1) := by decide +kernel
theorem d_G_changeService_9 : decode prog_2_method_2_code 9 = .ok (.astore_n 2, 1) := by decide +kernel
theorem d_G_changeService_10 : decode prog_2_method_2_code 10 = .ok (.aload_n 1, 1) := by decide +kernel
theorem d_G_changeService_11 : decode prog_2_method_2_code 11 = .ok (.invokevirtual 30, 3) := by decide +kernel
theorem d_G_changeService_14 : decode prog_2_method_2_code 14 = .ok (.ifCond .ne 11, 3) := by decide +kernel
theorem d_G_changeService_17 : decode prog_2_method_2_code 17 = .ok (.aload_n 0, 1) := by decide +kernel
theorem d_G_changeService_18 : decode prog_2_method_2_code 18 = .ok (.aload_n 2, 1) := by decide +kernel
theorem d_G_changeService_19 : decode prog_2_method_2_code 19 = .ok (.invokevirtual 34, 3) := by decide +kernel
theorem d_G_changeService_22 : decode prog_2_method_2_code 22 = .ok (.ifCond .ne 4, 3) := by decide +kernel
theorem d_G_changeService_25 : decode prog_2_method_2_code 25 = .ok (.return_, 1) := by decide +kernel
theorem d_G_changeService_26 : decode prog_2_method_2_code 26 = .ok (.new 38, 3) := by decide +kernel
theorem d_G_changeService_29 : decode prog_2_method_2_code 29 = .ok (.dup, 1) := by decide +kernel
theorem d_G_changeService_30 : decode prog_2_method_2_code 30 = .ok (.aload_n 2, 1) := by decide +kernel
theorem d_G_changeService_31 : decode prog_2_method_2_code 31 = .ok (.invokespecial 40, 3) := by decide +kernel
theorem d_G_changeService_34 : decode prog_2_method_2_code 34 = .ok (.astore_n 3, 1) := by decide +kernel
theorem d_G_changeService_35 : decode prog_2_method_2_code 35 = .ok (.aload_n 0, 1) := by decide +kernel
theorem d_G_changeService_36 : decode prog_2_method_2_code 36 = .ok (.getfield 9, 3) := by decide +kernel
theorem d_G_changeService_39 : decode prog_2_method_2_code 39 = .ok (.ifCond .ne 14, 3) := by decide +kernel
theorem d_G_changeService_42 : decode prog_2_method_2_code 42 = .ok (.aload_n 3, 1) := by decide +kernel
theorem d_G_changeService_43 : decode prog_2_method_2_code 43 = .ok (.aload_n 0, 1) := by decide +kernel
theorem d_G_changeService_44 : decode prog_2_method_2_code 44 = .ok (.getfield 15, 3) := by decide +kernel
theorem d_G_changeService_47 : decode prog_2_method_2_code 47 = .ok (.invokevirtual 43, 3) := by decide +kernel
theorem d_G_changeService_50 : decode prog_2_method_2_code 50 = .ok (.goto 34, 3) := by decide +kernel
theorem d_G_changeService_53 : decode prog_2_method_2_code 53 = .ok (.aload_n 0, 1) := by decide +kernel
theorem d_G_changeService_54 : decode prog_2_method_2_code 54 = .ok (.getfield 9, 3) := by decide +kernel
theorem d_G_changeService_57 : decode prog_2_method_2_code 57 = .ok (.iconst 1, 1) := by decide +kernel
theorem d_G_changeService_58 : decode prog_2_method_2_code 58 = .ok (.if_icmp .ne 14, 3) := by decide +kernel
theorem d_G_changeService_61 : decode prog_2_method_2_code 61 = .ok (.aload_n 3, 1) := by decide +kernel
theorem d_G_changeService_62 : decode prog_2_method_2_code 62 = .ok (.aload_n 0, 1) := by decide +kernel
theorem d_G_changeService_63 : decode prog_2_method_2_code 63 = .ok (.getfield 15, 3) := by decide +kernel
theorem d_G_changeService_66 : decode prog_2_method_2_code 66 = .ok (.invokevirtual 46, 3) := by decide +kernel
theorem d_G_changeService_69 : decode prog_2_method_2_code 69 = .ok (.goto 15, 3) := by decide +kernel
theorem d_G_changeService_72 : decode prog_2_method_2_code 72 = .ok (.aload_n 3, 1) := by decide +kernel
theorem d_G_changeService_73 : decode prog_2_method_2_code 73 = .ok (.aload_n 0, 1) := by decide +kernel
theorem d_G_changeService_74 : decode prog_2_method_2_code 74 = .ok (.getfield 15, 3) := by decide +kernel
theorem d_G_changeService_77 : decode prog_2_method_2_code 77 = .ok (.aload_n 0, 1) := by decide +kernel
theorem d_G_changeService_78 : decode prog_2_method_2_code 78 = .ok (.getfield 18, 3) := by decide +kernel
theorem d_G_changeService_81 : decode prog_2_method_2_code 81 = .ok (.invokevirtual 49, 3) := by decide +kernel
theorem d_G_changeService_84 : decode prog_2_method_2_code 84 = .ok (.aload_n 1, 1) := by decide +kernel
theorem d_G_changeService_85 : decode prog_2_method_2_code 85 = .ok (.aload_n 3, 1) := by decide +kernel
theorem d_G_changeService_86 : decode prog_2_method_2_code 86 = .ok (.invokevirtual 53, 3) := by decide +kernel
theorem d_G_changeService_89 : decode prog_2_method_2_code 89 = .ok (.return_, 1) := by decide +kernel
theorem d_V_isComplete_0 : decode prog_10_method_4_code 0 = .ok (.aload_n 0, 1) := by decide +kernel
theorem d_V_isComplete_1 : decode prog_10_method_4_code 1 = .ok (.getfield 23, 3) := by decide +kernel
theorem d_V_isComplete_4 : decode prog_10_method_4_code 4 = .ok (.iconst 1, 1) := by decide +kernel
theorem d_V_isComplete_5 : decode prog_10_method_4_code 5 = .ok (.iadd, 1) := by decide +kernel
theorem d_V_isComplete_6 : decode prog_10_method_4_code 6 = .ok (.bipush 16, 2) := by decide +kernel
theorem d_V_isComplete_8 : decode prog_10_method_4_code 8 = .ok (.if_icmp .ne 7, 3) := by decide +kernel
theorem d_V_isComplete_11 : decode prog_10_method_4_code 11 = .ok (.iconst 1, 1) := by decide +kernel
theorem d_V_isComplete_12 : decode prog_10_method_4_code 12 = .ok (.goto 4, 3) := by decide +kernel
theorem d_V_isComplete_15 : decode prog_10_method_4_code 15 = .ok (.iconst 0, 1) := by decide +kernel
theorem d_V_isComplete_16 : decode prog_10_method_4_code 16 = .ok (.ireturn, 1) := by decide +kernel
theorem d_G_isAllowed_0 : decode prog_2_method_3_code 0 = .ok (.aload_n 0, 1) := by decide +kernel
theorem d_G_isAllowed_1 : decode prog_2_method_3_code 1 = .ok (.getfield 9, 3) := by decide +kernel
theorem d_G_isAllowed_4 : decode prog_2_method_3_code 4 = .ok (.ifCond .ne 21, 3) := by decide +kernel
theorem d_G_isAllowed_7 : decode prog_2_method_3_code 7 = .ok (.aload_n 1, 1) := by decide +kernel
theorem d_G_isAllowed_8 : decode prog_2_method_3_code 8 = .ok (.getfield 56, 3) := by decide +kernel
theorem d_G_isAllowed_11 : decode prog_2_method_3_code 11 = .ok (.aload_n 0, 1) := by decide +kernel
theorem d_G_isAllowed_12 : decode prog_2_method_3_code 12 = .ok (.getfield 15, 3) := by decide +kernel
theorem d_G_isAllowed_15 : decode prog_2_method_3_code 15 = .ok (.baload, 1) := by decide +kernel
theorem d_G_isAllowed_16 : decode prog_2_method_3_code 16 = .ok (.ifCond .ne 7, 3) := by decide +kernel
theorem d_G_isAllowed_19 : decode prog_2_method_3_code 19 = .ok (.iconst 1, 1) := by decide +kernel
theorem d_G_isAllowed_20 : decode prog_2_method_3_code 20 = .ok (.goto 4, 3) := by decide +kernel
theorem d_G_isAllowed_23 : decode prog_2_method_3_code 23 = .ok (.iconst 0, 1) := by decide +kernel
theorem d_G_isAllowed_24 : decode prog_2_method_3_code 24 = .ok (.ireturn, 1) := by decide +kernel
theorem d_G_isAllowed_25 : decode prog_2_method_3_code 25 = .ok (.aload_n 0, 1) := by decide +kernel
theorem d_G_isAllowed_26 : decode prog_2_method_3_code 26 = .ok (.getfield 9, 3) := by decide +kernel
theorem d_G_isAllowed_29 : decode prog_2_method_3_code 29 = .ok (.iconst 1, 1) := by decide +kernel
theorem d_G_isAllowed_30 : decode prog_2_method_3_code 30 = .ok (.if_icmp .ne 29, 3) := by decide +kernel
theorem d_G_isAllowed_33 : decode prog_2_method_3_code 33 = .ok (.aload_n 1, 1) := by decide +kernel
theorem d_G_isAllowed_34 : decode prog_2_method_3_code 34 = .ok (.getfield 56, 3) := by decide +kernel
theorem d_G_isAllowed_37 : decode prog_2_method_3_code 37 = .ok (.aload_n 0, 1) := by decide +kernel
theorem d_G_isAllowed_38 : decode prog_2_method_3_code 38 = .ok (.getfield 15, 3) := by decide +kernel
theorem d_G_isAllowed_41 : decode prog_2_method_3_code 41 = .ok (.baload, 1) := by decide +kernel
theorem d_G_isAllowed_42 : decode prog_2_method_3_code 42 = .ok (.ifCond .eq 15, 3) := by decide +kernel
theorem d_G_isAllowed_45 : decode prog_2_method_3_code 45 = .ok (.aload_n 1, 1) := by decide +kernel
theorem d_G_isAllowed_46 : decode prog_2_method_3_code 46 = .ok (.invokevirtual 60, 3) := by decide +kernel
theorem d_G_isAllowed_49 : decode prog_2_method_3_code 49 = .ok (.iconst 1, 1) := by decide +kernel
theorem d_G_isAllowed_50 : decode prog_2_method_3_code 50 = .ok (.if_icmp .le 7, 3) := by decide +kernel
theorem d_G_isAllowed_53 : decode prog_2_method_3_code 53 = .ok (.iconst 1, 1) := by decide +kernel
theorem d_G_isAllowed_54 : decode prog_2_method_3_code 54 = .ok (.goto 4, 3) := by decide +kernel
theorem d_G_isAllowed_57 : decode prog_2_method_3_code 57 = .ok (.iconst 0, 1) := by decide +kernel
theorem d_G_isAllowed_58 : decode prog_2_method_3_code 58 = .ok (.ireturn, 1) := by decide +kernel
theorem d_G_isAllowed_59 : decode prog_2_method_3_code 59 = .ok (.aload_n 1, 1) := by decide +kernel
theorem d_G_isAllowed_60 : decode prog_2_method_3_code 60 = .ok (.getfield 56, 3) := by decide +kernel
theorem d_G_isAllowed_63 : decode prog_2_method_3_code 63 = .ok (.aload_n 0, 1) := by decide +kernel
theorem d_G_isAllowed_64 : decode prog_2_method_3_code 64 = .ok (.getfield 18, 3) := by decide +kernel
theorem d_G_isAllowed_67 : decode prog_2_method_3_code 67 = .ok (.baload, 1) := by decide +kernel
theorem d_G_isAllowed_68 : decode prog_2_method_3_code 68 = .ok (.ireturn, 1) := by decide +kernel
theorem d_C_countMembers_0 : decode prog_3_method_3_code 0 = .ok (.iconst 0, 1) := by decide +kernel
theorem d_C_countMembers_1 : decode prog_3_method_3_code 1 = .ok (.istore_n 1, 1) := by decide +kernel
theorem d_C_countMembers_2 : decode prog_3_method_3_code 2 = .ok (.aload_n 0, 1) := by decide +kernel
theorem d_C_countMembers_3 : decode prog_3_method_3_code 3 = .ok (.getfield 9, 3) := by decide +kernel
theorem d_C_countMembers_6 : decode prog_3_method_3_code 6 = .ok (.astore_n 2, 1) := by decide +kernel
theorem d_C_countMembers_7 : decode prog_3_method_3_code 7 = .ok (.aload_n 2, 1) := by decide +kernel
theorem d_C_countMembers_8 : decode prog_3_method_3_code 8 = .ok (.arraylength, 1) := by decide +kernel
end
section
theorem d_C_countMembers_9 : decode prog_3_method_3_code 9 = .ok (.istore_n 3, 1) := by decide +kernel
theorem d_C_countMembers_10 : decode prog_3_method_3_code 10 = .ok (.iconst 0, 1) := by decide +kernel
theorem d_C_countMembers_11 : decode prog_3_method_3_code 11 = .ok (.istore 4, 2) := by decide +kernel
theorem d_C_countMembers_13 : decode prog_3_method_3_code 13 = .ok (.iload 4, 2) := by decide +kernel
theorem d_C_countMembers_15 : decode prog_3_method_3_code 15 = .ok (.iload_n 3, 1) := by decide +kernel
theorem d_C_countMembers_16 : decode prog_3_method_3_code 16 = .ok (.if_icmp .ge 23, 3) := by decide +kernel
theorem d_C_countMembers_19 : decode prog_3_method_3_code 19 = .ok (.aload_n 2, 1) := by decide +kernel
theorem d_C_countMembers_20 : decode prog_3_method_3_code 20 = .ok (.iload 4, 2) := by decide +kernel
theorem d_C_countMembers_22 : decode prog_3_method_3_code 22 = .ok (.baload, 1) := by decide +kernel
theorem d_C_countMembers_23 : decode prog_3_method_3_code 23 = .ok (.istore 5, 2) := by decide +kernel
theorem d_C_countMembers_25 : decode prog_3_method_3_code 25 = .ok (.iload 5, 2) := by decide +kernel
theorem d_C_countMembers_27 : decode prog_3_method_3_code 27 = .ok (.ifCond .eq 6, 3) := by decide +kernel
theorem d_C_countMembers_30 : decode prog_3_method_3_code 30 = .ok (.iinc 1 1, 3) := by decide +kernel
theorem d_C_countMembers_33 : decode prog_3_method_3_code 33 = .ok (.iinc 4 1, 3) := by decide +kernel
theorem d_C_countMembers_36 : decode prog_3_method_3_code 36 = .ok (.goto (-23), 3) := by decide +kernel
theorem d_C_countMembers_39 : decode prog_3_method_3_code 39 = .ok (.iload_n 1, 1) := by decide +kernel
theorem d_C_countMembers_40 : decode prog_3_method_3_code 40 = .ok (.ireturn, 1) := by decide +kernel
theorem d_C_init2_0 : decode prog_3_method_2_code 0 = .ok (.aload_n 0, 1) := by decide +kernel
theorem d_C_init2_1 : decode prog_3_method_2_code 1 = .ok (.invokespecial 3, 3) := by decide +kernel
theorem d_C_init2_4 : decode prog_3_method_2_code 4 = .ok (.aload_n 0, 1) := by decide +kernel
theorem d_C_init2_5 : decode prog_3_method_2_code 5 = .ok (.iconst 4, 1) := by decide +kernel
theorem d_C_init2_6 : decode prog_3_method_2_code 6 = .ok (.newarray .boolean, 2) := by decide +kernel
theorem d_C_init2_8 : decode prog_3_method_2_code 8 = .ok (.putfield 9, 3) := by decide +kernel
theorem d_C_init2_11 : decode prog_3_method_2_code 11 = .ok (.aload_n 0, 1) := by decide +kernel
theorem d_C_init2_12 : decode prog_3_method_2_code 12 = .ok (.bipush 8, 2) := by decide +kernel
theorem d_C_init2_14 : decode prog_3_method_2_code 14 = .ok (.newarray .int, 2) := by decide +kernel
theorem d_C_init2_16 : decode prog_3_method_2_code 16 = .ok (.putfield 15, 3) := by decide +kernel
theorem d_C_init2_19 : decode prog_3_method_2_code 19 = .ok (.aload_n 0, 1) := by decide +kernel
theorem d_C_init2_20 : decode prog_3_method_2_code 20 = .ok (.iconst 4, 1) := by decide +kernel
theorem d_C_init2_21 : decode prog_3_method_2_code 21 = .ok (.newarray .int, 2) := by decide +kernel
theorem d_C_init2_23 : decode prog_3_method_2_code 23 = .ok (.putfield 19, 3) := by decide +kernel
theorem d_C_init2_26 : decode prog_3_method_2_code 26 = .ok (.aload_n 1, 1) := by decide +kernel
theorem d_C_init2_27 : decode prog_3_method_2_code 27 = .ok (.getfield 9, 3) := by decide +kernel
theorem d_C_init2_30 : decode prog_3_method_2_code 30 = .ok (.iconst 0, 1) := by decide +kernel
theorem d_C_init2_31 : decode prog_3_method_2_code 31 = .ok (.aload_n 0, 1) := by decide +kernel
theorem d_C_init2_32 : decode prog_3_method_2_code 32 = .ok (.getfield 9, 3) := by decide +kernel
theorem d_C_init2_35 : decode prog_3_method_2_code 35 = .ok (.iconst 0, 1) := by decide +kernel
theorem d_C_init2_36 : decode prog_3_method_2_code 36 = .ok (.iconst 4, 1) := by decide +kernel
theorem d_C_init2_37 : decode prog_3_method_2_code 37 = .ok (.invokestatic 22, 3) := by decide +kernel
theorem d_C_init2_40 : decode prog_3_method_2_code 40 = .ok (.aload_n 1, 1) := by decide +kernel
theorem d_C_init2_41 : decode prog_3_method_2_code 41 = .ok (.getfield 15, 3) := by decide +kernel
theorem d_C_init2_44 : decode prog_3_method_2_code 44 = .ok (.iconst 0, 1) := by decide +kernel
theorem d_C_init2_45 : decode prog_3_method_2_code 45 = .ok (.aload_n 0, 1) := by decide +kernel
theorem d_C_init2_46 : decode prog_3_method_2_code 46 = .ok (.getfield 15, 3) := by decide +kernel
theorem d_C_init2_49 : decode prog_3_method_2_code 49 = .ok (.iconst 0, 1) := by decide +kernel
theorem d_C_init2_50 : decode prog_3_method_2_code 50 = .ok (.bipush 8, 2) := by decide +kernel
theorem d_C_init2_52 : decode prog_3_method_2_code 52 = .ok (.invokestatic 22, 3) := by decide +kernel
theorem d_C_init2_55 : decode prog_3_method_2_code 55 = .ok (.aload_n 1, 1) := by decide +kernel
theorem d_C_init2_56 : decode prog_3_method_2_code 56 = .ok (.getfield 19, 3) := by decide +kernel
theorem d_C_init2_59 : decode prog_3_method_2_code 59 = .ok (.iconst 0, 1) := by decide +kernel
theorem d_C_init2_60 : decode prog_3_method_2_code 60 = .ok (.aload_n 0, 1) := by decide +kernel
theorem d_C_init2_61 : decode prog_3_method_2_code 61 = .ok (.getfield 19, 3) := by decide +kernel
theorem d_C_init2_64 : decode prog_3_method_2_code 64 = .ok (.iconst 0, 1) := by decide +kernel
theorem d_C_init2_65 : decode prog_3_method_2_code 65 = .ok (.iconst 4, 1) := by decide +kernel
theorem d_C_init2_66 : decode prog_3_method_2_code 66 = .ok (.invokestatic 22, 3) := by decide +kernel
theorem d_C_init2_69 : decode prog_3_method_2_code 69 = .ok (.return_, 1) := by decide +kernel
theorem d_C_join_0 : decode prog_3_method_4_code 0 = .ok (.aload_n 0, 1) := by decide +kernel
theorem d_C_join_1 : decode prog_3_method_4_code 1 = .ok (.getfield 9, 3) := by decide +kernel
theorem d_C_join_4 : decode prog_3_method_4_code 4 = .ok (.iload_n 1, 1) := by decide +kernel
theorem d_C_join_5 : decode prog_3_method_4_code 5 = .ok (.iconst 1, 1) := by decide +kernel
theorem d_C_join_6 : decode prog_3_method_4_code 6 = .ok (.bastore, 1) := by decide +kernel
theorem d_C_join_7 : decode prog_3_method_4_code 7 = .ok (.aload_n 0, 1) := by decide +kernel
theorem d_C_join_8 : decode prog_3_method_4_code 8 = .ok (.invokevirtual 28, 3) := by decide +kernel
theorem d_C_join_11 : decode prog_3_method_4_code 11 = .ok (.iconst 1, 1) := by decide +kernel
theorem d_C_join_12 : decode prog_3_method_4_code 12 = .ok (.if_icmp .ne 23, 3) := by decide +kernel
theorem d_C_join_15 : decode prog_3_method_4_code 15 = .ok (.iconst 0, 1) := by decide +kernel
theorem d_C_join_16 : decode prog_3_method_4_code 16 = .ok (.istore_n 2, 1) := by decide +kernel
theorem d_C_join_17 : decode prog_3_method_4_code 17 = .ok (.iload_n 2, 1) := by decide +kernel
theorem d_C_join_18 : decode prog_3_method_4_code 18 = .ok (.bipush 8, 2) := by decide +kernel
theorem d_C_join_20 : decode prog_3_method_4_code 20 = .ok (.if_icmp .ge 15, 3) := by decide +kernel
theorem d_C_join_23 : decode prog_3_method_4_code 23 = .ok (.aload_n 0, 1) := by decide +kernel
theorem d_C_join_24 : decode prog_3_method_4_code 24 = .ok (.iload_n 2, 1) := by decide +kernel
theorem d_C_join_25 : decode prog_3_method_4_code 25 = .ok (.iload_n 1, 1) := by decide +kernel
theorem d_C_join_26 : decode prog_3_method_4_code 26 = .ok (.invokevirtual 32, 3) := by decide +kernel
theorem d_C_join_29 : decode prog_3_method_4_code 29 = .ok (.iinc 2 1, 3) := by decide +kernel
theorem d_C_join_32 : decode prog_3_method_4_code 32 = .ok (.goto (-15), 3) := by decide +kernel
theorem d_C_join_35 : decode prog_3_method_4_code 35 = .ok (.aload_n 0, 1) := by decide +kernel
theorem d_C_join_36 : decode prog_3_method_4_code 36 = .ok (.invokevirtual 36, 3) := by decide +kernel
theorem d_C_join_39 : decode prog_3_method_4_code 39 = .ok (.return_, 1) := by decide +kernel
theorem d_C_give_0 : decode prog_3_method_6_code 0 = .ok (.aload_n 0, 1) := by decide +kernel
theorem d_C_give_1 : decode prog_3_method_6_code 1 = .ok (.getfield 19, 3) := by decide +kernel
theorem d_C_give_4 : decode prog_3_method_6_code 4 = .ok (.aload_n 0, 1) := by decide +kernel
theorem d_C_give_5 : decode prog_3_method_6_code 5 = .ok (.getfield 15, 3) := by decide +kernel
theorem d_C_give_8 : decode prog_3_method_6_code 8 = .ok (.iload_n 1, 1) := by decide +kernel
theorem d_C_give_9 : decode prog_3_method_6_code 9 = .ok (.iaload, 1) := by decide +kernel
theorem d_C_give_10 : decode prog_3_method_6_code 10 = .ok (.dup2, 1) := by decide +kernel
theorem d_C_give_11 : decode prog_3_method_6_code 11 = .ok (.iaload, 1) := by decide +kernel
theorem d_C_give_12 : decode prog_3_method_6_code 12 = .ok (.iconst 1, 1) := by decide +kernel
theorem d_C_give_13 : decode prog_3_method_6_code 13 = .ok (.isub, 1) := by decide +kernel
theorem d_C_give_14 : decode prog_3_method_6_code 14 = .ok (.iastore, 1) := by decide +kernel
theorem d_C_give_15 : decode prog_3_method_6_code 15 = .ok (.aload_n 0, 1) := by decide +kernel
theorem d_C_give_16 : decode prog_3_method_6_code 16 = .ok (.getfield 15, 3) := by decide +kernel
theorem d_C_give_19 : decode prog_3_method_6_code 19 = .ok (.iload_n 1, 1) := by decide +kernel
theorem d_C_give_20 : decode prog_3_method_6_code 20 = .ok (.iload_n 2, 1) := by decide +kernel
theorem d_C_give_21 : decode prog_3_method_6_code 21 = .ok (.iastore, 1) := by decide +kernel
theorem d_C_give_22 : decode prog_3_method_6_code 22 = .ok (.aload_n 0, 1) := by decide +kernel
theorem d_C_give_23 : decode prog_3_method_6_code 23 = .ok (.getfield 19, 3) := by decide +kernel
theorem d_C_give_26 : decode prog_3_method_6_code 26 = .ok (.iload_n 2, 1) := by decide +kernel
theorem d_C_give_27 : decode prog_3_method_6_code 27 = .ok (.dup2, 1) := by decide +kernel
theorem d_C_give_28 : decode prog_3_method_6_code 28 = .ok (.iaload, 1) := by decide +kernel
theorem d_C_give_29 : decode prog_3_method_6_code 29 = .ok (.iconst 1, 1) := by decide +kernel
theorem d_C_give_30 : decode prog_3_method_6_code 30 = .ok (.iadd, 1) := by decide +kernel
theorem d_C_give_31 : decode prog_3_method_6_code 31 = .ok (.iastore, 1) := by decide +kernel
theorem d_C_give_32 : decode prog_3_method_6_code 32 = .ok (.return_, 1) := by decide +kernel
theorem d_C_balance_0 : decode prog_3_method_7_code 0 = .ok (.iconst 0, 1) := by decide +kernel
theorem d_C_balance_1 : decode prog_3_method_7_code 1 = .ok (.istore_n 1, 1) := by decide +kernel
theorem d_C_balance_2 : decode prog_3_method_7_code 2 = .ok (.iload_n 1, 1) := by decide +kernel
theorem d_C_balance_3 : decode prog_3_method_7_code 3 = .ok (.bipush 64, 2) := by decide +kernel
theorem d_C_balance_5 : decode prog_3_method_7_code 5 = .ok (.if_icmp .ge 47, 3) := by decide +kernel
theorem d_C_balance_8 : decode prog_3_method_7_code 8 = .ok (.aload_n 0, 1) := by decide +kernel
theorem d_C_balance_9 : decode prog_3_method_7_code 9 = .ok (.invokevirtual 42, 3) := by decide +kernel
theorem d_C_balance_12 : decode prog_3_method_7_code 12 = .ok (.istore_n 2, 1) := by decide +kernel
theorem d_C_balance_13 : decode prog_3_method_7_code 13 = .ok (.aload_n 0, 1) := by decide +kernel
theorem d_C_balance_14 : decode prog_3_method_7_code 14 = .ok (.invokevirtual 39, 3) := by decide +kernel
theorem d_C_balance_17 : decode prog_3_method_7_code 17 = .ok (.istore_n 3, 1) := by decide +kernel
theorem d_C_balance_18 : decode prog_3_method_7_code 18 = .ok (.aload_n 0, 1) := by decide +kernel
theorem d_C_balance_19 : decode prog_3_method_7_code 19 = .ok (.getfield 19, 3) := by decide +kernel
theorem d_C_balance_22 : decode prog_3_method_7_code 22 = .ok (.iload_n 2, 1) := by decide +kernel
theorem d_C_balance_23 : decode prog_3_method_7_code 23 = .ok (.iaload, 1) := by decide +kernel
theorem d_C_balance_24 : decode prog_3_method_7_code 24 = .ok (.aload_n 0, 1) := by decide +kernel
theorem d_C_balance_25 : decode prog_3_method_7_code 25 = .ok (.getfield 19, 3) := by decide +kernel
theorem d_C_balance_28 : decode prog_3_method_7_code 28 = .ok (.iload_n 3, 1) := by decide +kernel
theorem d_C_balance_29 : decode prog_3_method_7_code 29 = .ok (.iaload, 1) := by decide +kernel
theorem d_C_balance_30 : decode prog_3_method_7_code 30 = .ok (.isub, 1) := by decide +kernel
theorem d_C_balance_31 : decode prog_3_method_7_code 31 = .ok (.iconst 2, 1) := by decide +kernel
theorem d_C_balance_32 : decode prog_3_method_7_code 32 = .ok (.if_icmp .ge 4, 3) := by decide +kernel
theorem d_C_balance_35 : decode prog_3_method_7_code 35 = .ok (.return_, 1) := by decide +kernel
theorem d_C_balance_36 : decode prog_3_method_7_code 36 = .ok (.aload_n 0, 1) := by decide +kernel
theorem d_C_balance_37 : decode prog_3_method_7_code 37 = .ok (.aload_n 0, 1) := by decide +kernel
theorem d_C_balance_38 : decode prog_3_method_7_code 38 = .ok (.iload_n 2, 1) := by decide +kernel
theorem d_C_balance_39 : decode prog_3_method_7_code 39 = .ok (.invokevirtual 45, 3) := by decide +kernel
theorem d_C_balance_42 : decode prog_3_method_7_code 42 = .ok (.iload_n 3, 1) := by decide +kernel
theorem d_C_balance_43 : decode prog_3_method_7_code 43 = .ok (.invokevirtual 32, 3) := by decide +kernel
theorem d_C_balance_46 : decode prog_3_method_7_code 46 = .ok (.iinc 1 1, 3) := by decide +kernel
theorem d_C_balance_49 : decode prog_3_method_7_code 49 = .ok (.goto (-47), 3) := by decide +kernel
theorem d_C_balance_52 : decode prog_3_method_7_code 52 = .ok (.return_, 1) := by decide +kernel
theorem d_C_most_0 : decode prog_3_method_8_code 0 = .ok (.iconst 0, 1) := by decide +kernel
theorem d_C_most_1 : decode prog_3_method_8_code 1 = .ok (.istore_n 1, 1) := by decide +kernel
theorem d_C_most_2 : decode prog_3_method_8_code 2 = .ok (.iconst 1, 1) := by decide +kernel
theorem d_C_most_3 : decode prog_3_method_8_code 3 = .ok (.istore_n 2, 1) := by decide +kernel
theorem d_C_most_4 : decode prog_3_method_8_code 4 = .ok (.iload_n 2, 1) := by decide +kernel
theorem d_C_most_5 : decode prog_3_method_8_code 5 = .ok (.iconst 4, 1) := by decide +kernel
theorem d_C_most_6 : decode prog_3_method_8_code 6 = .ok (.if_icmp .ge 39, 3) := by decide +kernel
theorem d_C_most_9 : decode prog_3_method_8_code 9 = .ok (.aload_n 0, 1) := by decide +kernel
theorem d_C_most_10 : decode prog_3_method_8_code 10 = .ok (.getfield 9, 3) := by decide +kernel
theorem d_C_most_13 : decode prog_3_method_8_code 13 = .ok (.iload_n 2, 1) := by decide +kernel
theorem d_C_most_14 : decode prog_3_method_8_code 14 = .ok (.baload, 1) := by decide +kernel
theorem d_C_most_15 : decode prog_3_method_8_code 15 = .ok (.ifCond .eq 24, 3) := by decide +kernel
theorem d_C_most_18 : decode prog_3_method_8_code 18 = .ok (.iload_n 1, 1) := by decide +kernel
theorem d_C_most_19 : decode prog_3_method_8_code 19 = .ok (.ifCond .eq 18, 3) := by decide +kernel
theorem d_C_most_22 : decode prog_3_method_8_code 22 = .ok (.aload_n 0, 1) := by decide +kernel
theorem d_C_most_23 : decode prog_3_method_8_code 23 = .ok (.getfield 19, 3) := by decide +kernel
theorem d_C_most_26 : decode prog_3_method_8_code 26 = .ok (.iload_n 2, 1) := by decide +kernel
theorem d_C_most_27 : decode prog_3_method_8_code 27 = .ok (.iaload, 1) := by decide +kernel
theorem d_C_most_28 : decode prog_3_method_8_code 28 = .ok (.aload_n 0, 1) := by decide +kernel
theorem d_C_most_29 : decode prog_3_method_8_code 29 = .ok (.getfield 19, 3) := by decide +kernel
theorem d_C_most_32 : decode prog_3_method_8_code 32 = .ok (.iload_n 1, 1) := by decide +kernel
theorem d_C_most_33 : decode prog_3_method_8_code 33 = .ok (.iaload, 1) := by decide +kernel
theorem d_C_most_34 : decode prog_3_method_8_code 34 = .ok (.if_icmp .le 5, 3) := by decide +kernel
theorem d_C_most_37 : decode prog_3_method_8_code 37 = .ok (.iload_n 2, 1) := by decide +kernel
theorem d_C_most_38 : decode prog_3_method_8_code 38 = .ok (.istore_n 1, 1) := by decide +kernel
theorem d_C_most_39 : decode prog_3_method_8_code 39 = .ok (.iinc 2 1, 3) := by decide +kernel
theorem d_C_most_42 : decode prog_3_method_8_code 42 = .ok (.goto (-38), 3) := by decide +kernel
theorem d_C_most_45 : decode prog_3_method_8_code 45 = .ok (.iload_n 1, 1) := by decide +kernel
theorem d_C_most_46 : decode prog_3_method_8_code 46 = .ok (.ireturn, 1) := by decide +kernel
theorem d_C_fewest_0 : decode prog_3_method_9_code 0 = .ok (.iconst 0, 1) := by decide +kernel
theorem d_C_fewest_1 : decode prog_3_method_9_code 1 = .ok (.istore_n 1, 1) := by decide +kernel
theorem d_C_fewest_2 : decode prog_3_method_9_code 2 = .ok (.iconst 1, 1) := by decide +kernel
theorem d_C_fewest_3 : decode prog_3_method_9_code 3 = .ok (.istore_n 2, 1) := by decide +kernel
theorem d_C_fewest_4 : decode prog_3_method_9_code 4 = .ok (.iload_n 2, 1) := by decide +kernel
theorem d_C_fewest_5 : decode prog_3_method_9_code 5 = .ok (.iconst 4, 1) := by decide +kernel
theorem d_C_fewest_6 : decode prog_3_method_9_code 6 = .ok (.if_icmp .ge 39, 3) := by decide +kernel
theorem d_C_fewest_9 : decode prog_3_method_9_code 9 = .ok (.aload_n 0, 1) := by decide +kernel
theorem d_C_fewest_10 : decode prog_3_method_9_code 10 = .ok (.getfield 9, 3) := by decide +kernel
theorem d_C_fewest_13 : decode prog_3_method_9_code 13 = .ok (.iload_n 2, 1) := by decide +kernel
theorem d_C_fewest_14 : decode prog_3_method_9_code 14 = .ok (.baload, 1) := by decide +kernel
theorem d_C_fewest_15 : decode prog_3_method_9_code 15 = .ok (.ifCond .eq 24, 3) := by decide +kernel
theorem d_C_fewest_18 : decode prog_3_method_9_code 18 = .ok (.iload_n 1, 1) := by decide +kernel
theorem d_C_fewest_19 : decode prog_3_method_9_code 19 = .ok (.ifCond .eq 18, 3) := by decide +kernel
theorem d_C_fewest_22 : decode prog_3_method_9_code 22 = .ok (.aload_n 0, 1) := by decide +kernel
theorem d_C_fewest_23 : decode prog_3_method_9_code 23 = .ok (.getfield 19, 3) := by decide +kernel
theorem d_C_fewest_26 : decode prog_3_method_9_code 26 = .ok (.iload_n 2, 1) := by decide +kernel
theorem d_C_fewest_27 : decode prog_3_method_9_code 27 = .ok (.iaload, 1) := by decide +kernel
theorem d_C_fewest_28 : decode prog_3_method_9_code 28 = .ok (.aload_n 0, 1) := by decide +kernel
theorem d_C_fewest_29 : decode prog_3_method_9_code 29 = .ok (.getfield 19, 3) := by decide +kernel
theorem d_C_fewest_32 : decode prog_3_method_9_code 32 = .ok (.iload_n 1, 1) := by decide +kernel
theorem d_C_fewest_33 : decode prog_3_method_9_code 33 = .ok (.iaload, 1) := by decide +kernel
theorem d_C_fewest_34 : decode prog_3_method_9_code 34 = .ok (.if_icmp .ge 5, 3) := by decide +kernel
theorem d_C_fewest_37 : decode prog_3_method_9_code 37 = .ok (.iload_n 2, 1) := by decide +kernel
theorem d_C_fewest_38 : decode prog_3_method_9_code 38 = .ok (.istore_n 1, 1) := by decide +kernel
theorem d_C_fewest_39 : decode prog_3_method_9_code 39 = .ok (.iinc 2 1, 3) := by decide +kernel
theorem d_C_fewest_42 : decode prog_3_method_9_code 42 = .ok (.goto (-38), 3) := by decide +kernel
theorem d_C_fewest_45 : decode prog_3_method_9_code 45 = .ok (.iload_n 1, 1) := by decide +kernel
theorem d_C_fewest_46 : decode prog_3_method_9_code 46 = .ok (.ireturn, 1) := by decide +kernel
theorem d_C_leastShardOf_0 : decode prog_3_method_10_code 0 = .ok (.iconst 0, 1) := by decide +kernel
theorem d_C_leastShardOf_1 : decode prog_3_method_10_code 1 = .ok (.istore_n 2, 1) := by decide +kernel
theorem d_C_leastShardOf_2 : decode prog_3_method_10_code 2 = .ok (.iload_n 2, 1) := by decide +kernel
theorem d_C_leastShardOf_3 : decode prog_3_method_10_code 3 = .ok (.bipush 7, 2) := by decide +kernel
theorem d_C_leastShardOf_5 : decode prog_3_method_10_code 5 = .ok (.if_icmp .ge 19, 3) := by decide +kernel
theorem d_C_leastShardOf_8 : decode prog_3_method_10_code 8 = .ok (.aload_n 0, 1) := by decide +kernel
theorem d_C_leastShardOf_9 : decode prog_3_method_10_code 9 = .ok (.getfield 15, 3) := by decide +kernel
theorem d_C_leastShardOf_12 : decode prog_3_method_10_code 12 = .ok (.iload_n 2, 1) := by decide +kernel
theorem d_C_leastShardOf_13 : decode prog_3_method_10_code 13 = .ok (.iaload, 1) := by decide +kernel
theorem d_C_leastShardOf_14 : decode prog_3_method_10_code 14 = .ok (.iload_n 1, 1) := by decide +kernel
theorem d_C_leastShardOf_15 : decode prog_3_method_10_code 15 = .ok (.if_icmp .eq 9, 3) := by decide +kernel
theorem d_C_leastShardOf_18 : decode prog_3_method_10_code 18 = .ok (.iinc 2 1, 3) := by decide +kernel
theorem d_C_leastShardOf_21 : decode prog_3_method_10_code 21 = .ok (.goto (-19), 3) := by decide +kernel
theorem d_C_leastShardOf_24 : decode prog_3_method_10_code 24 = .ok (.iload_n 2, 1) := by decide +kernel
theorem d_C_leastShardOf_25 : decode prog_3_method_10_code 25 = .ok (.ireturn, 1) := by decide +kernel
end
section
theorem d_C_leave_0 : decode prog_3_method_5_code 0 = .ok (.aload_n 0, 1) := by decide +kernel
theorem d_C_leave_1 : decode prog_3_method_5_code 1 = .ok (.getfield 9, 3) := by decide +kernel
theorem d_C_leave_4 : decode prog_3_method_5_code 4 = .ok (.iload_n 1, 1) := by decide +kernel
theorem d_C_leave_5 : decode prog_3_method_5_code 5 = .ok (.iconst 0, 1) := by decide +kernel
theorem d_C_leave_6 : decode prog_3_method_5_code 6 = .ok (.bastore, 1) := by decide +kernel
theorem d_C_leave_7 : decode prog_3_method_5_code 7 = .ok (.iconst 0, 1) := by decide +kernel
theorem d_C_leave_8 : decode prog_3_method_5_code 8 = .ok (.istore_n 2, 1) := by decide +kernel
theorem d_C_leave_9 : decode prog_3_method_5_code 9 = .ok (.iload_n 2, 1) := by decide +kernel
theorem d_C_leave_10 : decode prog_3_method_5_code 10 = .ok (.bipush 8, 2) := by decide +kernel
theorem d_C_leave_12 : decode prog_3_method_5_code 12 = .ok (.if_icmp .ge 28, 3) := by decide +kernel
theorem d_C_leave_15 : decode prog_3_method_5_code 15 = .ok (.aload_n 0, 1) := by decide +kernel
theorem d_C_leave_16 : decode prog_3_method_5_code 16 = .ok (.getfield 15, 3) := by decide +kernel
theorem d_C_leave_19 : decode prog_3_method_5_code 19 = .ok (.iload_n 2, 1) := by decide +kernel
theorem d_C_leave_20 : decode prog_3_method_5_code 20 = .ok (.iaload, 1) := by decide +kernel
theorem d_C_leave_21 : decode prog_3_method_5_code 21 = .ok (.iload_n 1, 1) := by decide +kernel
theorem d_C_leave_22 : decode prog_3_method_5_code 22 = .ok (.if_icmp .ne 12, 3) := by decide +kernel
theorem d_C_leave_25 : decode prog_3_method_5_code 25 = .ok (.aload_n 0, 1) := by decide +kernel
theorem d_C_leave_26 : decode prog_3_method_5_code 26 = .ok (.iload_n 2, 1) := by decide +kernel
theorem d_C_leave_27 : decode prog_3_method_5_code 27 = .ok (.aload_n 0, 1) := by decide +kernel
theorem d_C_leave_28 : decode prog_3_method_5_code 28 = .ok (.invokevirtual 39, 3) := by decide +kernel
theorem d_C_leave_31 : decode prog_3_method_5_code 31 = .ok (.invokevirtual 32, 3) := by decide +kernel
theorem d_C_leave_34 : decode prog_3_method_5_code 34 = .ok (.iinc 2 1, 3) := by decide +kernel
theorem d_C_leave_37 : decode prog_3_method_5_code 37 = .ok (.goto (-28), 3) := by decide +kernel
theorem d_C_leave_40 : decode prog_3_method_5_code 40 = .ok (.aload_n 0, 1) := by decide +kernel
theorem d_C_leave_41 : decode prog_3_method_5_code 41 = .ok (.invokevirtual 36, 3) := by decide +kernel
theorem d_C_leave_44 : decode prog_3_method_5_code 44 = .ok (.return_, 1) := by decide +kernel
theorem d_V_add_0 : decode prog_10_method_5_code 0 = .ok (.aload_n 0, 1) := by decide +kernel
theorem d_V_add_1 : decode prog_10_method_5_code 1 = .ok (.dup, 1) := by decide +kernel
theorem d_V_add_2 : decode prog_10_method_5_code 2 = .ok (.getfield 23, 3) := by decide +kernel
theorem d_V_add_5 : decode prog_10_method_5_code 5 = .ok (.iconst 1, 1) := by decide +kernel
theorem d_V_add_6 : decode prog_10_method_5_code 6 = .ok (.iadd, 1) := by decide +kernel
theorem d_V_add_7 : decode prog_10_method_5_code 7 = .ok (.putfield 23, 3) := by decide +kernel
theorem d_V_add_10 : decode prog_10_method_5_code 10 = .ok (.aload_n 0, 1) := by decide +kernel
theorem d_V_add_11 : decode prog_10_method_5_code 11 = .ok (.getfield 11, 3) := by decide +kernel
theorem d_V_add_14 : decode prog_10_method_5_code 14 = .ok (.aload_n 0, 1) := by decide +kernel
theorem d_V_add_15 : decode prog_10_method_5_code 15 = .ok (.getfield 23, 3) := by decide +kernel
theorem d_V_add_18 : decode prog_10_method_5_code 18 = .ok (.aload_n 1, 1) := by decide +kernel
theorem d_V_add_19 : decode prog_10_method_5_code 19 = .ok (.aastore, 1) := by decide +kernel
theorem d_V_add_20 : decode prog_10_method_5_code 20 = .ok (.return_, 1) := by decide +kernel
theorem d_E_changeService_0 : decode prog_6_method_2_code 0 = .ok (.return_, 1) := by decide +kernel
theorem d_T_carryOut_0 : decode prog_12_method_2_code 0 = .ok (.aload_n 1, 1) := by decide +kernel
theorem d_T_carryOut_1 : decode prog_12_method_2_code 1 = .ok (.aload_n 0, 1) := by decide +kernel
theorem d_T_carryOut_2 : decode prog_12_method_2_code 2 = .ok (.invokevirtual 26, 3) := by decide +kernel
theorem d_T_carryOut_5 : decode prog_12_method_2_code 5 = .ok (.return_, 1) := by decide +kernel
theorem d_F_changeStore_0 : decode prog_4_method_2_code 0 = .ok (.aload_n 1, 1) := by decide +kernel
theorem d_F_changeStore_1 : decode prog_4_method_2_code 1 = .ok (.aload_n 0, 1) := by decide +kernel
theorem d_F_changeStore_2 : decode prog_4_method_2_code 2 = .ok (.getfield 7, 3) := by decide +kernel
theorem d_F_changeStore_5 : decode prog_4_method_2_code 5 = .ok (.aload_n 0, 1) := by decide +kernel
theorem d_F_changeStore_6 : decode prog_4_method_2_code 6 = .ok (.getfield 13, 3) := by decide +kernel
theorem d_F_changeStore_9 : decode prog_4_method_2_code 9 = .ok (.invokevirtual 17, 3) := by decide +kernel
theorem d_F_changeStore_12 : decode prog_4_method_2_code 12 = .ok (.return_, 1) := by decide +kernel
theorem d_T_adopt_0 : decode prog_12_method_6_code 0 = .ok (.iload_n 1, 1) := by decide +kernel
theorem d_T_adopt_1 : decode prog_12_method_6_code 1 = .ok (.aload_n 0, 1) := by decide +kernel
theorem d_T_adopt_2 : decode prog_12_method_6_code 2 = .ok (.getfield 32, 3) := by decide +kernel
theorem d_T_adopt_5 : decode prog_12_method_6_code 5 = .ok (.iconst 1, 1) := by decide +kernel
theorem d_T_adopt_6 : decode prog_12_method_6_code 6 = .ok (.iadd, 1) := by decide +kernel
theorem d_T_adopt_7 : decode prog_12_method_6_code 7 = .ok (.if_icmp .ne 10, 3) := by decide +kernel
theorem d_T_adopt_10 : decode prog_12_method_6_code 10 = .ok (.aload_n 0, 1) := by decide +kernel
theorem d_T_adopt_11 : decode prog_12_method_6_code 11 = .ok (.invokevirtual 38, 3) := by decide +kernel
theorem d_T_adopt_14 : decode prog_12_method_6_code 14 = .ok (.ifCond .ne 4, 3) := by decide +kernel
theorem d_T_adopt_17 : decode prog_12_method_6_code 17 = .ok (.return_, 1) := by decide +kernel
theorem d_T_adopt_18 : decode prog_12_method_6_code 18 = .ok (.iconst 0, 1) := by decide +kernel
theorem d_T_adopt_19 : decode prog_12_method_6_code 19 = .ok (.istore_n 3, 1) := by decide +kernel
theorem d_T_adopt_20 : decode prog_12_method_6_code 20 = .ok (.iload_n 3, 1) := by decide +kernel
theorem d_T_adopt_21 : decode prog_12_method_6_code 21 = .ok (.bipush 8, 2) := by decide +kernel
theorem d_T_adopt_23 : decode prog_12_method_6_code 23 = .ok (.if_icmp .ge 34, 3) := by decide +kernel
theorem d_T_adopt_26 : decode prog_12_method_6_code 26 = .ok (.aload_n 0, 1) := by decide +kernel
theorem d_T_adopt_27 : decode prog_12_method_6_code 27 = .ok (.aload_n 0, 1) := by decide +kernel
theorem d_T_adopt_28 : decode prog_12_method_6_code 28 = .ok (.getfield 11, 3) := by decide +kernel
theorem d_T_adopt_31 : decode prog_12_method_6_code 31 = .ok (.iload_n 3, 1) := by decide +kernel
theorem d_T_adopt_32 : decode prog_12_method_6_code 32 = .ok (.aaload, 1) := by decide +kernel
theorem d_T_adopt_33 : decode prog_12_method_6_code 33 = .ok (.aload_n 0, 1) := by decide +kernel
theorem d_T_adopt_34 : decode prog_12_method_6_code 34 = .ok (.getfield 21, 3) := by decide +kernel
theorem d_T_adopt_37 : decode prog_12_method_6_code 37 = .ok (.getfield 42, 3) := by decide +kernel
theorem d_T_adopt_40 : decode prog_12_method_6_code 40 = .ok (.iload_n 3, 1) := by decide +kernel
theorem d_T_adopt_41 : decode prog_12_method_6_code 41 = .ok (.iaload, 1) := by decide +kernel
theorem d_T_adopt_42 : decode prog_12_method_6_code 42 = .ok (.aload_n 2, 1) := by decide +kernel
theorem d_T_adopt_43 : decode prog_12_method_6_code 43 = .ok (.getfield 42, 3) := by decide +kernel
theorem d_T_adopt_46 : decode prog_12_method_6_code 46 = .ok (.iload_n 3, 1) := by decide +kernel
theorem d_T_adopt_47 : decode prog_12_method_6_code 47 = .ok (.iaload, 1) := by decide +kernel
theorem d_T_adopt_48 : decode prog_12_method_6_code 48 = .ok (.invokevirtual 48, 3) := by decide +kernel
theorem d_T_adopt_51 : decode prog_12_method_6_code 51 = .ok (.iinc 3 1, 3) := by decide +kernel
theorem d_T_adopt_54 : decode prog_12_method_6_code 54 = .ok (.goto (-34), 3) := by decide +kernel
theorem d_T_adopt_57 : decode prog_12_method_6_code 57 = .ok (.aload_n 0, 1) := by decide +kernel
theorem d_T_adopt_58 : decode prog_12_method_6_code 58 = .ok (.iload_n 1, 1) := by decide +kernel
theorem d_T_adopt_59 : decode prog_12_method_6_code 59 = .ok (.putfield 32, 3) := by decide +kernel
theorem d_T_adopt_62 : decode prog_12_method_6_code 62 = .ok (.aload_n 0, 1) := by decide +kernel
theorem d_T_adopt_63 : decode prog_12_method_6_code 63 = .ok (.aload_n 2, 1) := by decide +kernel
theorem d_T_adopt_64 : decode prog_12_method_6_code 64 = .ok (.putfield 21, 3) := by decide +kernel
theorem d_T_adopt_67 : decode prog_12_method_6_code 67 = .ok (.return_, 1) := by decide +kernel
theorem d_T_isSettled_0 : decode prog_12_method_4_code 0 = .ok (.aload_n 0, 1) := by decide +kernel
theorem d_T_isSettled_1 : decode prog_12_method_4_code 1 = .ok (.getfield 11, 3) := by decide +kernel
theorem d_T_isSettled_4 : decode prog_12_method_4_code 4 = .ok (.astore_n 1, 1) := by decide +kernel
theorem d_T_isSettled_5 : decode prog_12_method_4_code 5 = .ok (.aload_n 1, 1) := by decide +kernel
theorem d_T_isSettled_6 : decode prog_12_method_4_code 6 = .ok (.arraylength, 1) := by decide +kernel
theorem d_T_isSettled_7 : decode prog_12_method_4_code 7 = .ok (.istore_n 2, 1) := by decide +kernel
theorem d_T_isSettled_8 : decode prog_12_method_4_code 8 = .ok (.iconst 0, 1) := by decide +kernel
theorem d_T_isSettled_9 : decode prog_12_method_4_code 9 = .ok (.istore_n 3, 1) := by decide +kernel
theorem d_T_isSettled_10 : decode prog_12_method_4_code 10 = .ok (.iload_n 3, 1) := by decide +kernel
theorem d_T_isSettled_11 : decode prog_12_method_4_code 11 = .ok (.iload_n 2, 1) := by decide +kernel
theorem d_T_isSettled_12 : decode prog_12_method_4_code 12 = .ok (.if_icmp .ge 34, 3) := by decide +kernel
theorem d_T_isSettled_15 : decode prog_12_method_4_code 15 = .ok (.aload_n 1, 1) := by decide +kernel
theorem d_T_isSettled_16 : decode prog_12_method_4_code 16 = .ok (.iload_n 3, 1) := by decide +kernel
theorem d_T_isSettled_17 : decode prog_12_method_4_code 17 = .ok (.aaload, 1) := by decide +kernel
theorem d_T_isSettled_18 : decode prog_12_method_4_code 18 = .ok (.astore 4, 2) := by decide +kernel
theorem d_T_isSettled_20 : decode prog_12_method_4_code 20 = .ok (.aload 4, 2) := by decide +kernel
theorem d_T_isSettled_22 : decode prog_12_method_4_code 22 = .ok (.getfield 35, 3) := by decide +kernel
theorem d_T_isSettled_25 : decode prog_12_method_4_code 25 = .ok (.iconst 2, 1) := by decide +kernel
theorem d_T_isSettled_26 : decode prog_12_method_4_code 26 = .ok (.if_icmp .eq 12, 3) := by decide +kernel
theorem d_T_isSettled_29 : decode prog_12_method_4_code 29 = .ok (.aload 4, 2) := by decide +kernel
theorem d_T_isSettled_31 : decode prog_12_method_4_code 31 = .ok (.getfield 35, 3) := by decide +kernel
theorem d_T_isSettled_34 : decode prog_12_method_4_code 34 = .ok (.iconst 3, 1) := by decide +kernel
theorem d_T_isSettled_35 : decode prog_12_method_4_code 35 = .ok (.if_icmp .ne 5, 3) := by decide +kernel
theorem d_T_isSettled_38 : decode prog_12_method_4_code 38 = .ok (.iconst 0, 1) := by decide +kernel
theorem d_T_isSettled_39 : decode prog_12_method_4_code 39 = .ok (.ireturn, 1) := by decide +kernel
theorem d_T_isSettled_40 : decode prog_12_method_4_code 40 = .ok (.iinc 3 1, 3) := by decide +kernel
theorem d_T_isSettled_43 : decode prog_12_method_4_code 43 = .ok (.goto (-33), 3) := by decide +kernel
theorem d_T_isSettled_46 : decode prog_12_method_4_code 46 = .ok (.iconst 1, 1) := by decide +kernel
theorem d_T_isSettled_47 : decode prog_12_method_4_code 47 = .ok (.ireturn, 1) := by decide +kernel
theorem d_T_handOver_0 : decode prog_12_method_7_code 0 = .ok (.iload_n 3, 1) := by decide +kernel
theorem d_T_handOver_1 : decode prog_12_method_7_code 1 = .ok (.aload_n 0, 1) := by decide +kernel
theorem d_T_handOver_2 : decode prog_12_method_7_code 2 = .ok (.getfield 17, 3) := by decide +kernel
theorem d_T_handOver_5 : decode prog_12_method_7_code 5 = .ok (.if_icmp .ne 19, 3) := by decide +kernel
theorem d_T_handOver_8 : decode prog_12_method_7_code 8 = .ok (.iload_n 2, 1) := by decide +kernel
theorem d_T_handOver_9 : decode prog_12_method_7_code 9 = .ok (.ifCond .ne 15, 3) := by decide +kernel
theorem d_T_handOver_12 : decode prog_12_method_7_code 12 = .ok (.aload_n 1, 1) := by decide +kernel
theorem d_T_handOver_13 : decode prog_12_method_7_code 13 = .ok (.invokevirtual 52, 3) := by decide +kernel
theorem d_T_handOver_16 : decode prog_12_method_7_code 16 = .ok (.aload_n 1, 1) := by decide +kernel
theorem d_T_handOver_17 : decode prog_12_method_7_code 17 = .ok (.iconst 1, 1) := by decide +kernel
theorem d_T_handOver_18 : decode prog_12_method_7_code 18 = .ok (.putfield 35, 3) := by decide +kernel
theorem d_T_handOver_21 : decode prog_12_method_7_code 21 = .ok (.goto 48, 3) := by decide +kernel
theorem d_T_handOver_24 : decode prog_12_method_7_code 24 = .ok (.iload_n 3, 1) := by decide +kernel
theorem d_T_handOver_25 : decode prog_12_method_7_code 25 = .ok (.aload_n 0, 1) := by decide +kernel
theorem d_T_handOver_26 : decode prog_12_method_7_code 26 = .ok (.getfield 17, 3) := by decide +kernel
theorem d_T_handOver_29 : decode prog_12_method_7_code 29 = .ok (.if_icmp .ne 19, 3) := by decide +kernel
theorem d_T_handOver_32 : decode prog_12_method_7_code 32 = .ok (.iload_n 2, 1) := by decide +kernel
theorem d_T_handOver_33 : decode prog_12_method_7_code 33 = .ok (.aload_n 0, 1) := by decide +kernel
theorem d_T_handOver_34 : decode prog_12_method_7_code 34 = .ok (.getfield 17, 3) := by decide +kernel
theorem d_T_handOver_37 : decode prog_12_method_7_code 37 = .ok (.if_icmp .eq 11, 3) := by decide +kernel
theorem d_T_handOver_40 : decode prog_12_method_7_code 40 = .ok (.aload_n 1, 1) := by decide +kernel
theorem d_T_handOver_41 : decode prog_12_method_7_code 41 = .ok (.iconst 2, 1) := by decide +kernel
theorem d_T_handOver_42 : decode prog_12_method_7_code 42 = .ok (.putfield 35, 3) := by decide +kernel
theorem d_T_handOver_45 : decode prog_12_method_7_code 45 = .ok (.goto 24, 3) := by decide +kernel
theorem d_T_handOver_48 : decode prog_12_method_7_code 48 = .ok (.iload_n 3, 1) := by decide +kernel
theorem d_T_handOver_49 : decode prog_12_method_7_code 49 = .ok (.aload_n 0, 1) := by decide +kernel
theorem d_T_handOver_50 : decode prog_12_method_7_code 50 = .ok (.getfield 17, 3) := by decide +kernel
theorem d_T_handOver_53 : decode prog_12_method_7_code 53 = .ok (.if_icmp .eq 16, 3) := by decide +kernel
theorem d_T_handOver_56 : decode prog_12_method_7_code 56 = .ok (.iload_n 2, 1) := by decide +kernel
theorem d_T_handOver_57 : decode prog_12_method_7_code 57 = .ok (.aload_n 0, 1) := by decide +kernel
theorem d_T_handOver_58 : decode prog_12_method_7_code 58 = .ok (.getfield 17, 3) := by decide +kernel
theorem d_T_handOver_61 : decode prog_12_method_7_code 61 = .ok (.if_icmp .ne 8, 3) := by decide +kernel
theorem d_T_handOver_64 : decode prog_12_method_7_code 64 = .ok (.aload_n 1, 1) := by decide +kernel
theorem d_T_handOver_65 : decode prog_12_method_7_code 65 = .ok (.iconst 3, 1) := by decide +kernel
theorem d_T_handOver_66 : decode prog_12_method_7_code 66 = .ok (.putfield 35, 3) := by decide +kernel
theorem d_T_handOver_69 : decode prog_12_method_7_code 69 = .ok (.return_, 1) := by decide +kernel
theorem d_H_clear_0 : decode prog_11_method_3_code 0 = .ok (.iconst 0, 1) := by decide +kernel
theorem d_H_clear_1 : decode prog_11_method_3_code 1 = .ok (.istore_n 1, 1) := by decide +kernel
theorem d_H_clear_2 : decode prog_11_method_3_code 2 = .ok (.iload_n 1, 1) := by decide +kernel
theorem d_H_clear_3 : decode prog_11_method_3_code 3 = .ok (.aload_n 0, 1) := by decide +kernel
theorem d_H_clear_4 : decode prog_11_method_3_code 4 = .ok (.getfield 15, 3) := by decide +kernel
theorem d_H_clear_7 : decode prog_11_method_3_code 7 = .ok (.arraylength, 1) := by decide +kernel
theorem d_H_clear_8 : decode prog_11_method_3_code 8 = .ok (.if_icmp .ge 16, 3) := by decide +kernel
theorem d_H_clear_11 : decode prog_11_method_3_code 11 = .ok (.aload_n 0, 1) := by decide +kernel
theorem d_H_clear_12 : decode prog_11_method_3_code 12 = .ok (.getfield 15, 3) := by decide +kernel
theorem d_H_clear_15 : decode prog_11_method_3_code 15 = .ok (.iload_n 1, 1) := by decide +kernel
theorem d_H_clear_16 : decode prog_11_method_3_code 16 = .ok (.iconst 0, 1) := by decide +kernel
theorem d_H_clear_17 : decode prog_11_method_3_code 17 = .ok (.iastore, 1) := by decide +kernel
theorem d_H_clear_18 : decode prog_11_method_3_code 18 = .ok (.iinc 1 1, 3) := by decide +kernel
theorem d_H_clear_21 : decode prog_11_method_3_code 21 = .ok (.goto (-19), 3) := by decide +kernel
theorem d_H_clear_24 : decode prog_11_method_3_code 24 = .ok (.iconst 0, 1) := by decide +kernel
theorem d_H_clear_25 : decode prog_11_method_3_code 25 = .ok (.istore_n 1, 1) := by decide +kernel
theorem d_H_clear_26 : decode prog_11_method_3_code 26 = .ok (.iload_n 1, 1) := by decide +kernel
theorem d_H_clear_27 : decode prog_11_method_3_code 27 = .ok (.iconst 3, 1) := by decide +kernel
theorem d_H_clear_28 : decode prog_11_method_3_code 28 = .ok (.if_icmp .ge 23, 3) := by decide +kernel
theorem d_H_clear_31 : decode prog_11_method_3_code 31 = .ok (.aload_n 0, 1) := by decide +kernel
theorem d_H_clear_32 : decode prog_11_method_3_code 32 = .ok (.getfield 19, 3) := by decide +kernel
theorem d_H_clear_35 : decode prog_11_method_3_code 35 = .ok (.iload_n 1, 1) := by decide +kernel
theorem d_H_clear_36 : decode prog_11_method_3_code 36 = .ok (.iconst 0, 1) := by decide +kernel
theorem d_H_clear_37 : decode prog_11_method_3_code 37 = .ok (.iastore, 1) := by decide +kernel
theorem d_H_clear_38 : decode prog_11_method_3_code 38 = .ok (.aload_n 0, 1) := by decide +kernel
theorem d_H_clear_39 : decode prog_11_method_3_code 39 = .ok (.getfield 22, 3) := by decide +kernel
theorem d_H_clear_42 : decode prog_11_method_3_code 42 = .ok (.iload_n 1, 1) := by decide +kernel
theorem d_H_clear_43 : decode prog_11_method_3_code 43 = .ok (.iconst 0, 1) := by decide +kernel
theorem d_H_clear_44 : decode prog_11_method_3_code 44 = .ok (.iastore, 1) := by decide +kernel
theorem d_H_clear_45 : decode prog_11_method_3_code 45 = .ok (.iinc 1 1, 3) := by decide +kernel
theorem d_H_clear_48 : decode prog_11_method_3_code 48 = .ok (.goto (-22), 3) := by decide +kernel
theorem d_H_clear_51 : decode prog_11_method_3_code 51 = .ok (.return_, 1) := by decide +kernel
theorem d_D_changeStore_0 : decode prog_5_method_2_code 0 = .ok (.aload_n 1, 1) := by decide +kernel
theorem d_D_changeStore_1 : decode prog_5_method_2_code 1 = .ok (.getfield 18, 3) := by decide +kernel
theorem d_D_changeStore_4 : decode prog_5_method_2_code 4 = .ok (.aload_n 0, 1) := by decide +kernel
theorem d_D_changeStore_5 : decode prog_5_method_2_code 5 = .ok (.getfield 9, 3) := by decide +kernel
theorem d_D_changeStore_8 : decode prog_5_method_2_code 8 = .ok (.aaload, 1) := by decide +kernel
theorem d_D_changeStore_9 : decode prog_5_method_2_code 9 = .ok (.astore_n 2, 1) := by decide +kernel
theorem d_D_changeStore_10 : decode prog_5_method_2_code 10 = .ok (.aload_n 2, 1) := by decide +kernel
theorem d_D_changeStore_11 : decode prog_5_method_2_code 11 = .ok (.getfield 24, 3) := by decide +kernel
theorem d_D_changeStore_14 : decode prog_5_method_2_code 14 = .ok (.iconst 3, 1) := by decide +kernel
theorem d_D_changeStore_15 : decode prog_5_method_2_code 15 = .ok (.if_icmp .ne 19, 3) := by decide +kernel
theorem d_D_changeStore_18 : decode prog_5_method_2_code 18 = .ok (.aload_n 1, 1) := by decide +kernel
theorem d_D_changeStore_19 : decode prog_5_method_2_code 19 = .ok (.getfield 29, 3) := by decide +kernel
theorem d_D_changeStore_22 : decode prog_5_method_2_code 22 = .ok (.aload_n 0, 1) := by decide +kernel
theorem d_D_changeStore_23 : decode prog_5_method_2_code 23 = .ok (.getfield 15, 3) := by decide +kernel
theorem d_D_changeStore_26 : decode prog_5_method_2_code 26 = .ok (.if_icmp .ne 8, 3) := by decide +kernel
theorem d_D_changeStore_29 : decode prog_5_method_2_code 29 = .ok (.aload_n 2, 1) := by decide +kernel
theorem d_D_changeStore_30 : decode prog_5_method_2_code 30 = .ok (.iconst 0, 1) := by decide +kernel
theorem d_D_changeStore_31 : decode prog_5_method_2_code 31 = .ok (.putfield 24, 3) := by decide +kernel
theorem d_D_changeStore_34 : decode prog_5_method_2_code 34 = .ok (.return_, 1) := by decide +kernel
theorem d_I_changeStore_0 : decode prog_7_method_2_code 0 = .ok (.aload_n 1, 1) := by decide +kernel
theorem d_I_changeStore_1 : decode prog_7_method_2_code 1 = .ok (.getfield 31, 3) := by decide +kernel
theorem d_I_changeStore_4 : decode prog_7_method_2_code 4 = .ok (.aload_n 0, 1) := by decide +kernel
theorem d_I_changeStore_5 : decode prog_7_method_2_code 5 = .ok (.getfield 20, 3) := by decide +kernel
theorem d_I_changeStore_8 : decode prog_7_method_2_code 8 = .ok (.aaload, 1) := by decide +kernel
theorem d_I_changeStore_9 : decode prog_7_method_2_code 9 = .ok (.astore_n 2, 1) := by decide +kernel
theorem d_I_changeStore_10 : decode prog_7_method_2_code 10 = .ok (.aload_n 2, 1) := by decide +kernel
theorem d_I_changeStore_11 : decode prog_7_method_2_code 11 = .ok (.getfield 37, 3) := by decide +kernel
theorem d_I_changeStore_14 : decode prog_7_method_2_code 14 = .ok (.iconst 2, 1) := by decide +kernel
theorem d_I_changeStore_15 : decode prog_7_method_2_code 15 = .ok (.if_icmp .ne 27, 3) := by decide +kernel
theorem d_I_changeStore_18 : decode prog_7_method_2_code 18 = .ok (.aload_n 1, 1) := by decide +kernel
theorem d_I_changeStore_19 : decode prog_7_method_2_code 19 = .ok (.getfield 40, 3) := by decide +kernel
theorem d_I_changeStore_22 : decode prog_7_method_2_code 22 = .ok (.aload_n 0, 1) := by decide +kernel
theorem d_I_changeStore_23 : decode prog_7_method_2_code 23 = .ok (.getfield 24, 3) := by decide +kernel
theorem d_I_changeStore_26 : decode prog_7_method_2_code 26 = .ok (.if_icmp .ne 16, 3) := by decide +kernel
theorem d_I_changeStore_29 : decode prog_7_method_2_code 29 = .ok (.aload_n 2, 1) := by decide +kernel
theorem d_I_changeStore_30 : decode prog_7_method_2_code 30 = .ok (.aload_n 0, 1) := by decide +kernel
theorem d_I_changeStore_31 : decode prog_7_method_2_code 31 = .ok (.getfield 14, 3) := by decide +kernel
theorem d_I_changeStore_34 : decode prog_7_method_2_code 34 = .ok (.invokevirtual 27, 3) := by decide +kernel
theorem d_I_changeStore_37 : decode prog_7_method_2_code 37 = .ok (.aload_n 2, 1) := by decide +kernel
theorem d_I_changeStore_38 : decode prog_7_method_2_code 38 = .ok (.iconst 1, 1) := by decide +kernel
theorem d_I_changeStore_39 : decode prog_7_method_2_code 39 = .ok (.putfield 37, 3) := by decide +kernel
theorem d_I_changeStore_42 : decode prog_7_method_2_code 42 = .ok (.return_, 1) := by decide +kernel
theorem d_H_copyContents_0 : decode prog_11_method_4_code 0 = .ok (.aload_n 1, 1) := by decide +kernel
theorem d_H_copyContents_1 : decode prog_11_method_4_code 1 = .ok (.getfield 15, 3) := by decide +kernel
theorem d_H_copyContents_4 : decode prog_11_method_4_code 4 = .ok (.iconst 0, 1) := by decide +kernel
theorem d_H_copyContents_5 : decode prog_11_method_4_code 5 = .ok (.aload_n 0, 1) := by decide +kernel
theorem d_H_copyContents_6 : decode prog_11_method_4_code 6 = .ok (.getfield 15, 3) := by decide +kernel
theorem d_H_copyContents_9 : decode prog_11_method_4_code 9 = .ok (.iconst 0, 1) := by decide +kernel
theorem d_H_copyContents_10 : decode prog_11_method_4_code 10 = .ok (.aload_n 0, 1) := by decide +kernel
theorem d_H_copyContents_11 : decode prog_11_method_4_code 11 = .ok (.getfield 15, 3) := by decide +kernel
theorem d_H_copyContents_14 : decode prog_11_method_4_code 14 = .ok (.arraylength, 1) := by decide +kernel
theorem d_H_copyContents_15 : decode prog_11_method_4_code 15 = .ok (.invokestatic 25, 3) := by decide +kernel
theorem d_H_copyContents_18 : decode prog_11_method_4_code 18 = .ok (.aload_n 1, 1) := by decide +kernel
theorem d_H_copyContents_19 : decode prog_11_method_4_code 19 = .ok (.getfield 19, 3) := by decide +kernel
theorem d_H_copyContents_22 : decode prog_11_method_4_code 22 = .ok (.iconst 0, 1) := by decide +kernel
theorem d_H_copyContents_23 : decode prog_11_method_4_code 23 = .ok (.aload_n 0, 1) := by decide +kernel
theorem d_H_copyContents_24 : decode prog_11_method_4_code 24 = .ok (.getfield 19, 3) := by decide +kernel
theorem d_H_copyContents_27 : decode prog_11_method_4_code 27 = .ok (.iconst 0, 1) := by decide +kernel
theorem d_H_copyContents_28 : decode prog_11_method_4_code 28 = .ok (.iconst 3, 1) := by decide +kernel
theorem d_H_copyContents_29 : decode prog_11_method_4_code 29 = .ok (.invokestatic 25, 3) := by decide +kernel
theorem d_H_copyContents_32 : decode prog_11_method_4_code 32 = .ok (.aload_n 1, 1) := by decide +kernel
theorem d_H_copyContents_33 : decode prog_11_method_4_code 33 = .ok (.getfield 22, 3) := by decide +kernel
theorem d_H_copyContents_36 : decode prog_11_method_4_code 36 = .ok (.iconst 0, 1) := by decide +kernel
end
section
theorem d_H_copyContents_37 : decode prog_11_method_4_code 37 = .ok (.aload_n 0, 1) := by decide +kernel
theorem d_H_copyContents_38 : decode prog_11_method_4_code 38 = .ok (.getfield 22, 3) := by decide +kernel
theorem d_H_copyContents_41 : decode prog_11_method_4_code 41 = .ok (.iconst 0, 1) := by decide +kernel
theorem d_H_copyContents_42 : decode prog_11_method_4_code 42 = .ok (.iconst 3, 1) := by decide +kernel
theorem d_H_copyContents_43 : decode prog_11_method_4_code 43 = .ok (.invokestatic 25, 3) := by decide +kernel
theorem d_H_copyContents_46 : decode prog_11_method_4_code 46 = .ok (.return_, 1) := by decide +kernel
theorem d_R_changeStore_0 : decode prog_9_method_2_code 0 = .ok (.aload_n 1, 1) := by decide +kernel
theorem d_R_changeStore_1 : decode prog_9_method_2_code 1 = .ok (.getfield 25, 3) := by decide +kernel
theorem d_R_changeStore_4 : decode prog_9_method_2_code 4 = .ok (.aload_n 0, 1) := by decide +kernel
theorem d_R_changeStore_5 : decode prog_9_method_2_code 5 = .ok (.getfield 19, 3) := by decide +kernel
theorem d_R_changeStore_8 : decode prog_9_method_2_code 8 = .ok (.invokestatic 31, 3) := by decide +kernel
theorem d_R_changeStore_11 : decode prog_9_method_2_code 11 = .ok (.aaload, 1) := by decide +kernel
theorem d_R_changeStore_12 : decode prog_9_method_2_code 12 = .ok (.aload_n 0, 1) := by decide +kernel
theorem d_R_changeStore_13 : decode prog_9_method_2_code 13 = .ok (.invokevirtual 37, 3) := by decide +kernel
theorem d_R_changeStore_16 : decode prog_9_method_2_code 16 = .ok (.return_, 1) := by decide +kernel
theorem d_S_shardOf_0 : decode prog_1_method_21_code 0 = .ok (.iload_n 0, 1) := by decide +kernel
theorem d_S_shardOf_1 : decode prog_1_method_21_code 1 = .ok (.bipush 8, 2) := by decide +kernel
theorem d_S_shardOf_3 : decode prog_1_method_21_code 3 = .ok (.irem, 1) := by decide +kernel
theorem d_S_shardOf_4 : decode prog_1_method_21_code 4 = .ok (.ireturn, 1) := by decide +kernel
theorem d_H_serve_0 : decode prog_11_method_5_code 0 = .ok (.aload_n 0, 1) := by decide +kernel
theorem d_H_serve_1 : decode prog_11_method_5_code 1 = .ok (.getfield 9, 3) := by decide +kernel
theorem d_H_serve_4 : decode prog_11_method_5_code 4 = .ok (.iconst 1, 1) := by decide +kernel
theorem d_H_serve_5 : decode prog_11_method_5_code 5 = .ok (.if_icmp .ne 19, 3) := by decide +kernel
theorem d_H_serve_8 : decode prog_11_method_5_code 8 = .ok (.aload_n 1, 1) := by decide +kernel
theorem d_H_serve_9 : decode prog_11_method_5_code 9 = .ok (.getfield 31, 3) := by decide +kernel
theorem d_H_serve_12 : decode prog_11_method_5_code 12 = .ok (.aload_n 0, 1) := by decide +kernel
theorem d_H_serve_13 : decode prog_11_method_5_code 13 = .ok (.getfield 19, 3) := by decide +kernel
theorem d_H_serve_16 : decode prog_11_method_5_code 16 = .ok (.aload_n 1, 1) := by decide +kernel
theorem d_H_serve_17 : decode prog_11_method_5_code 17 = .ok (.getfield 36, 3) := by decide +kernel
theorem d_H_serve_20 : decode prog_11_method_5_code 20 = .ok (.iaload, 1) := by decide +kernel
theorem d_H_serve_21 : decode prog_11_method_5_code 21 = .ok (.if_icmp .gt 4, 3) := by decide +kernel
theorem d_H_serve_24 : decode prog_11_method_5_code 24 = .ok (.return_, 1) := by decide +kernel
theorem d_H_serve_25 : decode prog_11_method_5_code 25 = .ok (.aload_n 1, 1) := by decide +kernel
theorem d_H_serve_26 : decode prog_11_method_5_code 26 = .ok (.getfield 39, 3) := by decide +kernel
theorem d_H_serve_29 : decode prog_11_method_5_code 29 = .ok (.invokestatic 42, 3) := by decide +kernel
theorem d_H_serve_32 : decode prog_11_method_5_code 32 = .ok (.istore_n 2, 1) := by decide +kernel
theorem d_H_serve_33 : decode prog_11_method_5_code 33 = .ok (.aload_n 1, 1) := by decide +kernel
theorem d_H_serve_34 : decode prog_11_method_5_code 34 = .ok (.getfield 46, 3) := by decide +kernel
theorem d_H_serve_37 : decode prog_11_method_5_code 37 = .ok (.iconst 1, 1) := by decide +kernel
theorem d_H_serve_38 : decode prog_11_method_5_code 38 = .ok (.if_icmp .ne 16, 3) := by decide +kernel
theorem d_H_serve_41 : decode prog_11_method_5_code 41 = .ok (.aload_n 0, 1) := by decide +kernel
theorem d_H_serve_42 : decode prog_11_method_5_code 42 = .ok (.getfield 15, 3) := by decide +kernel
theorem d_H_serve_45 : decode prog_11_method_5_code 45 = .ok (.iload_n 2, 1) := by decide +kernel
theorem d_H_serve_46 : decode prog_11_method_5_code 46 = .ok (.aload_n 1, 1) := by decide +kernel
theorem d_H_serve_47 : decode prog_11_method_5_code 47 = .ok (.getfield 49, 3) := by decide +kernel
theorem d_H_serve_50 : decode prog_11_method_5_code 50 = .ok (.iastore, 1) := by decide +kernel
theorem d_H_serve_51 : decode prog_11_method_5_code 51 = .ok (.goto 32, 3) := by decide +kernel
theorem d_H_serve_54 : decode prog_11_method_5_code 54 = .ok (.aload_n 1, 1) := by decide +kernel
theorem d_H_serve_55 : decode prog_11_method_5_code 55 = .ok (.getfield 46, 3) := by decide +kernel
theorem d_H_serve_58 : decode prog_11_method_5_code 58 = .ok (.iconst 2, 1) := by decide +kernel
theorem d_H_serve_59 : decode prog_11_method_5_code 59 = .ok (.if_icmp .ne 24, 3) := by decide +kernel
theorem d_H_serve_62 : decode prog_11_method_5_code 62 = .ok (.aload_n 0, 1) := by decide +kernel
theorem d_H_serve_63 : decode prog_11_method_5_code 63 = .ok (.getfield 15, 3) := by decide +kernel
theorem d_H_serve_66 : decode prog_11_method_5_code 66 = .ok (.iload_n 2, 1) := by decide +kernel
theorem d_H_serve_67 : decode prog_11_method_5_code 67 = .ok (.aload_n 0, 1) := by decide +kernel
theorem d_H_serve_68 : decode prog_11_method_5_code 68 = .ok (.getfield 15, 3) := by decide +kernel
theorem d_H_serve_71 : decode prog_11_method_5_code 71 = .ok (.iload_n 2, 1) := by decide +kernel
theorem d_H_serve_72 : decode prog_11_method_5_code 72 = .ok (.iaload, 1) := by decide +kernel
theorem d_H_serve_73 : decode prog_11_method_5_code 73 = .ok (.aload_n 1, 1) := by decide +kernel
theorem d_H_serve_74 : decode prog_11_method_5_code 74 = .ok (.getfield 49, 3) := by decide +kernel
theorem d_H_serve_77 : decode prog_11_method_5_code 77 = .ok (.iadd, 1) := by decide +kernel
theorem d_H_serve_78 : decode prog_11_method_5_code 78 = .ok (.sipush 1000, 3) := by decide +kernel
theorem d_H_serve_81 : decode prog_11_method_5_code 81 = .ok (.irem, 1) := by decide +kernel
theorem d_H_serve_82 : decode prog_11_method_5_code 82 = .ok (.iastore, 1) := by decide +kernel
theorem d_H_serve_83 : decode prog_11_method_5_code 83 = .ok (.aload_n 0, 1) := by decide +kernel
theorem d_H_serve_84 : decode prog_11_method_5_code 84 = .ok (.getfield 19, 3) := by decide +kernel
theorem d_H_serve_87 : decode prog_11_method_5_code 87 = .ok (.aload_n 1, 1) := by decide +kernel
theorem d_H_serve_88 : decode prog_11_method_5_code 88 = .ok (.getfield 36, 3) := by decide +kernel
theorem d_H_serve_91 : decode prog_11_method_5_code 91 = .ok (.aload_n 1, 1) := by decide +kernel
theorem d_H_serve_92 : decode prog_11_method_5_code 92 = .ok (.getfield 31, 3) := by decide +kernel
theorem d_H_serve_95 : decode prog_11_method_5_code 95 = .ok (.iastore, 1) := by decide +kernel
theorem d_H_serve_96 : decode prog_11_method_5_code 96 = .ok (.aload_n 0, 1) := by decide +kernel
theorem d_H_serve_97 : decode prog_11_method_5_code 97 = .ok (.getfield 22, 3) := by decide +kernel
theorem d_H_serve_100 : decode prog_11_method_5_code 100 = .ok (.aload_n 1, 1) := by decide +kernel
theorem d_H_serve_101 : decode prog_11_method_5_code 101 = .ok (.getfield 36, 3) := by decide +kernel
theorem d_H_serve_104 : decode prog_11_method_5_code 104 = .ok (.aload_n 0, 1) := by decide +kernel
theorem d_H_serve_105 : decode prog_11_method_5_code 105 = .ok (.getfield 15, 3) := by decide +kernel
theorem d_H_serve_108 : decode prog_11_method_5_code 108 = .ok (.iload_n 2, 1) := by decide +kernel
theorem d_H_serve_109 : decode prog_11_method_5_code 109 = .ok (.iaload, 1) := by decide +kernel
theorem d_H_serve_110 : decode prog_11_method_5_code 110 = .ok (.iastore, 1) := by decide +kernel
theorem d_H_serve_111 : decode prog_11_method_5_code 111 = .ok (.return_, 1) := by decide +kernel
theorem d_S_placeInShard_0 : decode prog_1_method_22_code 0 = .ok (.iload_n 0, 1) := by decide +kernel
theorem d_S_placeInShard_1 : decode prog_1_method_22_code 1 = .ok (.bipush 8, 2) := by decide +kernel
theorem d_S_placeInShard_3 : decode prog_1_method_22_code 3 = .ok (.idiv, 1) := by decide +kernel
theorem d_S_placeInShard_4 : decode prog_1_method_22_code 4 = .ok (.ireturn, 1) := by decide +kernel
theorem d_E_changeStore_0 : decode prog_6_method_3_code 0 = .ok (.return_, 1) := by decide +kernel
theorem d_J_max_0 : decode prog_15_method_65_code 0 = .ok (.iload_n 0, 1) := by decide +kernel
theorem d_J_max_1 : decode prog_15_method_65_code 1 = .ok (.iload_n 1, 1) := by decide +kernel
theorem d_J_max_2 : decode prog_15_method_65_code 2 = .ok (.if_icmp .lt 7, 3) := by decide +kernel
theorem d_J_max_5 : decode prog_15_method_65_code 5 = .ok (.iload_n 0, 1) := by decide +kernel
theorem d_J_max_6 : decode prog_15_method_65_code 6 = .ok (.goto 4, 3) := by decide +kernel
theorem d_J_max_9 : decode prog_15_method_65_code 9 = .ok (.iload_n 1, 1) := by decide +kernel
theorem d_J_max_10 : decode prog_15_method_65_code 10 = .ok (.ireturn, 1) := by decide +kernel
theorem d_S_change_0 : decode prog_1_method_6_code 0 = .ok (.aload_n 0, 1) := by decide +kernel
theorem d_S_change_1 : decode prog_1_method_6_code 1 = .ok (.iload_n 1, 1) := by decide +kernel
theorem d_S_change_2 : decode prog_1_method_6_code 2 = .ok (.invokevirtual 97, 3) := by decide +kernel
theorem d_S_change_5 : decode prog_1_method_6_code 5 = .ok (.astore 5, 2) := by decide +kernel
theorem d_S_change_7 : decode prog_1_method_6_code 7 = .ok (.aload 5, 2) := by decide +kernel
theorem d_S_change_9 : decode prog_1_method_6_code 9 = .ok (.ifnull 13, 3) := by decide +kernel
theorem d_S_change_12 : decode prog_1_method_6_code 12 = .ok (.iload_n 2, 1) := by decide +kernel
theorem d_S_change_13 : decode prog_1_method_6_code 13 = .ok (.iload_n 3, 1) := by decide +kernel
theorem d_S_change_14 : decode prog_1_method_6_code 14 = .ok (.iload 4, 2) := by decide +kernel
theorem d_S_change_16 : decode prog_1_method_6_code 16 = .ok (.invokestatic 101, 3) := by decide +kernel
theorem d_S_change_19 : decode prog_1_method_6_code 19 = .ok (.ifCond .ne 5, 3) := by decide +kernel
theorem d_S_change_22 : decode prog_1_method_6_code 22 = .ok (.iconst (-1), 1) := by decide +kernel
theorem d_S_change_23 : decode prog_1_method_6_code 23 = .ok (.ireturn, 1) := by decide +kernel
theorem d_S_change_24 : decode prog_1_method_6_code 24 = .ok (.aload 5, 2) := by decide +kernel
theorem d_S_change_26 : decode prog_1_method_6_code 26 = .ok (.getfield 105, 3) := by decide +kernel
theorem d_S_change_29 : decode prog_1_method_6_code 29 = .ok (.ifCond .ne 6, 3) := by decide +kernel
theorem d_S_change_32 : decode prog_1_method_6_code 32 = .ok (.bipush (-2), 2) := by decide +kernel
theorem d_S_change_34 : decode prog_1_method_6_code 34 = .ok (.ireturn, 1) := by decide +kernel
theorem d_S_change_35 : decode prog_1_method_6_code 35 = .ok (.aload 5, 2) := by decide +kernel
theorem d_S_change_37 : decode prog_1_method_6_code 37 = .ok (.new 106, 3) := by decide +kernel
theorem d_S_change_40 : decode prog_1_method_6_code 40 = .ok (.dup, 1) := by decide +kernel
theorem d_S_change_41 : decode prog_1_method_6_code 41 = .ok (.aload 5, 2) := by decide +kernel
theorem d_S_change_43 : decode prog_1_method_6_code 43 = .ok (.getfield 108, 3) := by decide +kernel
theorem d_S_change_46 : decode prog_1_method_6_code 46 = .ok (.iload_n 2, 1) := by decide +kernel
theorem d_S_change_47 : decode prog_1_method_6_code 47 = .ok (.iload_n 3, 1) := by decide +kernel
theorem d_S_change_48 : decode prog_1_method_6_code 48 = .ok (.iload 4, 2) := by decide +kernel
theorem d_S_change_50 : decode prog_1_method_6_code 50 = .ok (.invokespecial 109, 3) := by decide +kernel
theorem d_S_change_53 : decode prog_1_method_6_code 53 = .ok (.invokevirtual 112, 3) := by decide +kernel
theorem d_S_change_56 : decode prog_1_method_6_code 56 = .ok (.ireturn, 1) := by decide +kernel
theorem d_S_upService_0 : decode prog_1_method_32_code 0 = .ok (.aload_n 0, 1) := by decide +kernel
theorem d_S_upService_1 : decode prog_1_method_32_code 1 = .ok (.iload_n 1, 1) := by decide +kernel
theorem d_S_upService_2 : decode prog_1_method_32_code 2 = .ok (.invokevirtual 192, 3) := by decide +kernel
theorem d_S_upService_5 : decode prog_1_method_32_code 5 = .ok (.astore_n 2, 1) := by decide +kernel
theorem d_S_upService_6 : decode prog_1_method_32_code 6 = .ok (.aload_n 2, 1) := by decide +kernel
theorem d_S_upService_7 : decode prog_1_method_32_code 7 = .ok (.ifnull 14, 3) := by decide +kernel
theorem d_S_upService_10 : decode prog_1_method_32_code 10 = .ok (.aload_n 2, 1) := by decide +kernel
theorem d_S_upService_11 : decode prog_1_method_32_code 11 = .ok (.getfield 217, 3) := by decide +kernel
theorem d_S_upService_14 : decode prog_1_method_32_code 14 = .ok (.ifCond .eq 7, 3) := by decide +kernel
theorem d_S_upService_17 : decode prog_1_method_32_code 17 = .ok (.aload_n 2, 1) := by decide +kernel
theorem d_S_upService_18 : decode prog_1_method_32_code 18 = .ok (.goto 4, 3) := by decide +kernel
theorem d_S_upService_21 : decode prog_1_method_32_code 21 = .ok (.aconst_null, 1) := by decide +kernel
theorem d_S_upService_22 : decode prog_1_method_32_code 22 = .ok (.areturn, 1) := by decide +kernel
theorem d_S_anyService_0 : decode prog_1_method_29_code 0 = .ok (.iload_n 1, 1) := by decide +kernel
theorem d_S_anyService_1 : decode prog_1_method_29_code 1 = .ok (.ifCond .lt 17, 3) := by decide +kernel
theorem d_S_anyService_4 : decode prog_1_method_29_code 4 = .ok (.iload_n 1, 1) := by decide +kernel
theorem d_S_anyService_5 : decode prog_1_method_29_code 5 = .ok (.iconst 3, 1) := by decide +kernel
theorem d_S_anyService_6 : decode prog_1_method_29_code 6 = .ok (.if_icmp .ge 12, 3) := by decide +kernel
theorem d_S_anyService_9 : decode prog_1_method_29_code 9 = .ok (.aload_n 0, 1) := by decide +kernel
theorem d_S_anyService_10 : decode prog_1_method_29_code 10 = .ok (.getfield 17, 3) := by decide +kernel
theorem d_S_anyService_13 : decode prog_1_method_29_code 13 = .ok (.iload_n 1, 1) := by decide +kernel
theorem d_S_anyService_14 : decode prog_1_method_29_code 14 = .ok (.aaload, 1) := by decide +kernel
theorem d_S_anyService_15 : decode prog_1_method_29_code 15 = .ok (.goto 4, 3) := by decide +kernel
theorem d_S_anyService_18 : decode prog_1_method_29_code 18 = .ok (.aconst_null, 1) := by decide +kernel
theorem d_S_anyService_19 : decode prog_1_method_29_code 19 = .ok (.areturn, 1) := by decide +kernel
theorem d_S_isChange_0 : decode prog_1_method_27_code 0 = .ok (.iload_n 0, 1) := by decide +kernel
theorem d_S_isChange_1 : decode prog_1_method_27_code 1 = .ok (.iconst 2, 1) := by decide +kernel
theorem d_S_isChange_2 : decode prog_1_method_27_code 2 = .ok (.if_icmp .ne 23, 3) := by decide +kernel
theorem d_S_isChange_5 : decode prog_1_method_27_code 5 = .ok (.iload_n 1, 1) := by decide +kernel
theorem d_S_isChange_6 : decode prog_1_method_27_code 6 = .ok (.invokestatic 151, 3) := by decide +kernel
theorem d_S_isChange_9 : decode prog_1_method_27_code 9 = .ok (.ifCond .eq 14, 3) := by decide +kernel
theorem d_S_isChange_12 : decode prog_1_method_27_code 12 = .ok (.iload_n 2, 1) := by decide +kernel
theorem d_S_isChange_13 : decode prog_1_method_27_code 13 = .ok (.invokestatic 214, 3) := by decide +kernel
theorem d_S_isChange_16 : decode prog_1_method_27_code 16 = .ok (.ifCond .eq 7, 3) := by decide +kernel
theorem d_S_isChange_19 : decode prog_1_method_27_code 19 = .ok (.iconst 1, 1) := by decide +kernel
theorem d_S_isChange_20 : decode prog_1_method_27_code 20 = .ok (.goto 4, 3) := by decide +kernel
theorem d_S_isChange_23 : decode prog_1_method_27_code 23 = .ok (.iconst 0, 1) := by decide +kernel
theorem d_S_isChange_24 : decode prog_1_method_27_code 24 = .ok (.ireturn, 1) := by decide +kernel
theorem d_S_isChange_25 : decode prog_1_method_27_code 25 = .ok (.iload_n 0, 1) := by decide +kernel
theorem d_S_isChange_26 : decode prog_1_method_27_code 26 = .ok (.ifCond .eq 8, 3) := by decide +kernel
theorem d_S_isChange_29 : decode prog_1_method_27_code 29 = .ok (.iload_n 0, 1) := by decide +kernel
theorem d_S_isChange_30 : decode prog_1_method_27_code 30 = .ok (.iconst 1, 1) := by decide +kernel
theorem d_S_isChange_31 : decode prog_1_method_27_code 31 = .ok (.if_icmp .ne 14, 3) := by decide +kernel
theorem d_S_isChange_34 : decode prog_1_method_27_code 34 = .ok (.iload_n 1, 1) := by decide +kernel
theorem d_S_isChange_35 : decode prog_1_method_27_code 35 = .ok (.invokestatic 214, 3) := by decide +kernel
theorem d_S_isChange_38 : decode prog_1_method_27_code 38 = .ok (.ifCond .eq 7, 3) := by decide +kernel
theorem d_S_isChange_41 : decode prog_1_method_27_code 41 = .ok (.iconst 1, 1) := by decide +kernel
theorem d_S_isChange_42 : decode prog_1_method_27_code 42 = .ok (.goto 4, 3) := by decide +kernel
theorem d_S_isChange_45 : decode prog_1_method_27_code 45 = .ok (.iconst 0, 1) := by decide +kernel
theorem d_S_isChange_46 : decode prog_1_method_27_code 46 = .ok (.ireturn, 1) := by decide +kernel
theorem d_S_isShard_0 : decode prog_1_method_23_code 0 = .ok (.iload_n 0, 1) := by decide +kernel
theorem d_S_isShard_1 : decode prog_1_method_23_code 1 = .ok (.ifCond .lt 13, 3) := by decide +kernel
theorem d_S_isShard_4 : decode prog_1_method_23_code 4 = .ok (.iload_n 0, 1) := by decide +kernel
theorem d_S_isShard_5 : decode prog_1_method_23_code 5 = .ok (.bipush 8, 2) := by decide +kernel
theorem d_S_isShard_7 : decode prog_1_method_23_code 7 = .ok (.if_icmp .ge 7, 3) := by decide +kernel
theorem d_S_isShard_10 : decode prog_1_method_23_code 10 = .ok (.iconst 1, 1) := by decide +kernel
theorem d_S_isShard_11 : decode prog_1_method_23_code 11 = .ok (.goto 4, 3) := by decide +kernel
theorem d_S_isShard_14 : decode prog_1_method_23_code 14 = .ok (.iconst 0, 1) := by decide +kernel
theorem d_S_isShard_15 : decode prog_1_method_23_code 15 = .ok (.ireturn, 1) := by decide +kernel
theorem d_S_isOwningGroup_0 : decode prog_1_method_26_code 0 = .ok (.iload_n 0, 1) := by decide +kernel
theorem d_S_isOwningGroup_1 : decode prog_1_method_26_code 1 = .ok (.iconst 1, 1) := by decide +kernel
theorem d_S_isOwningGroup_2 : decode prog_1_method_26_code 2 = .ok (.if_icmp .lt 12, 3) := by decide +kernel
theorem d_S_isOwningGroup_5 : decode prog_1_method_26_code 5 = .ok (.iload_n 0, 1) := by decide +kernel
theorem d_S_isOwningGroup_6 : decode prog_1_method_26_code 6 = .ok (.iconst 4, 1) := by decide +kernel
theorem d_S_isOwningGroup_7 : decode prog_1_method_26_code 7 = .ok (.if_icmp .ge 7, 3) := by decide +kernel
theorem d_S_isOwningGroup_10 : decode prog_1_method_26_code 10 = .ok (.iconst 1, 1) := by decide +kernel
theorem d_S_isOwningGroup_11 : decode prog_1_method_26_code 11 = .ok (.goto 4, 3) := by decide +kernel
theorem d_S_isOwningGroup_14 : decode prog_1_method_26_code 14 = .ok (.iconst 0, 1) := by decide +kernel
theorem d_S_isOwningGroup_15 : decode prog_1_method_26_code 15 = .ok (.ireturn, 1) := by decide +kernel
theorem d_G_init_0 : decode prog_2_method_1_code 0 = .ok (.aload_n 0, 1) := by decide +kernel
theorem d_G_init_1 : decode prog_2_method_1_code 1 = .ok (.iload_n 1, 1) := by decide +kernel
theorem d_G_init_2 : decode prog_2_method_1_code 2 = .ok (.invokespecial 3, 3) := by decide +kernel
theorem d_G_init_5 : decode prog_2_method_1_code 5 = .ok (.aload_n 0, 1) := by decide +kernel
theorem d_G_init_6 : decode prog_2_method_1_code 6 = .ok (.iload_n 2, 1) := by decide +kernel
theorem d_G_init_7 : decode prog_2_method_1_code 7 = .ok (.putfield 9, 3) := by decide +kernel
theorem d_G_init_10 : decode prog_2_method_1_code 10 = .ok (.aload_n 0, 1) := by decide +kernel
theorem d_G_init_11 : decode prog_2_method_1_code 11 = .ok (.iload_n 3, 1) := by decide +kernel
theorem d_G_init_12 : decode prog_2_method_1_code 12 = .ok (.putfield 15, 3) := by decide +kernel
theorem d_G_init_15 : decode prog_2_method_1_code 15 = .ok (.aload_n 0, 1) := by decide +kernel
theorem d_G_init_16 : decode prog_2_method_1_code 16 = .ok (.iload 4, 2) := by decide +kernel
theorem d_G_init_18 : decode prog_2_method_1_code 18 = .ok (.putfield 18, 3) := by decide +kernel
theorem d_G_init_21 : decode prog_2_method_1_code 21 = .ok (.return_, 1) := by decide +kernel
end
section
theorem d_S_request_0 : decode prog_1_method_7_code 0 = .ok (.aload_n 0, 1) := by decide +kernel
theorem d_S_request_1 : decode prog_1_method_7_code 1 = .ok (.iload_n 1, 1) := by decide +kernel
theorem d_S_request_2 : decode prog_1_method_7_code 2 = .ok (.invokevirtual 113, 3) := by decide +kernel
theorem d_S_request_5 : decode prog_1_method_7_code 5 = .ok (.astore 7, 2) := by decide +kernel
theorem d_S_request_7 : decode prog_1_method_7_code 7 = .ok (.aload 7, 2) := by decide +kernel
theorem d_S_request_9 : decode prog_1_method_7_code 9 = .ok (.ifnull 54, 3) := by decide +kernel
theorem d_S_request_12 : decode prog_1_method_7_code 12 = .ok (.iload_n 2, 1) := by decide +kernel
theorem d_S_request_13 : decode prog_1_method_7_code 13 = .ok (.invokestatic 117, 3) := by decide +kernel
theorem d_S_request_16 : decode prog_1_method_7_code 16 = .ok (.ifCond .eq 47, 3) := by decide +kernel
theorem d_S_request_19 : decode prog_1_method_7_code 19 = .ok (.iload 5, 2) := by decide +kernel
theorem d_S_request_21 : decode prog_1_method_7_code 21 = .ok (.invokestatic 121, 3) := by decide +kernel
theorem d_S_request_24 : decode prog_1_method_7_code 24 = .ok (.ifCond .eq 39, 3) := by decide +kernel
theorem d_S_request_27 : decode prog_1_method_7_code 27 = .ok (.iload_n 3, 1) := by decide +kernel
theorem d_S_request_28 : decode prog_1_method_7_code 28 = .ok (.iconst 1, 1) := by decide +kernel
theorem d_S_request_29 : decode prog_1_method_7_code 29 = .ok (.if_icmp .lt 34, 3) := by decide +kernel
theorem d_S_request_32 : decode prog_1_method_7_code 32 = .ok (.iload_n 3, 1) := by decide +kernel
theorem d_S_request_33 : decode prog_1_method_7_code 33 = .ok (.sipush 999, 3) := by decide +kernel
theorem d_S_request_36 : decode prog_1_method_7_code 36 = .ok (.if_icmp .gt 27, 3) := by decide +kernel
theorem d_S_request_39 : decode prog_1_method_7_code 39 = .ok (.iload 4, 2) := by decide +kernel
theorem d_S_request_41 : decode prog_1_method_7_code 41 = .ok (.ifCond .lt 22, 3) := by decide +kernel
theorem d_S_request_44 : decode prog_1_method_7_code 44 = .ok (.iload 4, 2) := by decide +kernel
theorem d_S_request_46 : decode prog_1_method_7_code 46 = .ok (.iconst 2, 1) := by decide +kernel
theorem d_S_request_47 : decode prog_1_method_7_code 47 = .ok (.if_icmp .gt 16, 3) := by decide +kernel
theorem d_S_request_50 : decode prog_1_method_7_code 50 = .ok (.iload 6, 2) := by decide +kernel
theorem d_S_request_52 : decode prog_1_method_7_code 52 = .ok (.ifCond .lt 11, 3) := by decide +kernel
theorem d_S_request_55 : decode prog_1_method_7_code 55 = .ok (.iload 6, 2) := by decide +kernel
theorem d_S_request_57 : decode prog_1_method_7_code 57 = .ok (.sipush 1000, 3) := by decide +kernel
theorem d_S_request_60 : decode prog_1_method_7_code 60 = .ok (.if_icmp .lt 5, 3) := by decide +kernel
theorem d_S_request_63 : decode prog_1_method_7_code 63 = .ok (.iconst (-1), 1) := by decide +kernel
theorem d_S_request_64 : decode prog_1_method_7_code 64 = .ok (.ireturn, 1) := by decide +kernel
theorem d_S_request_65 : decode prog_1_method_7_code 65 = .ok (.aload 7, 2) := by decide +kernel
theorem d_S_request_67 : decode prog_1_method_7_code 67 = .ok (.getfield 124, 3) := by decide +kernel
theorem d_S_request_70 : decode prog_1_method_7_code 70 = .ok (.ifCond .ne 6, 3) := by decide +kernel
theorem d_S_request_73 : decode prog_1_method_7_code 73 = .ok (.bipush (-2), 2) := by decide +kernel
theorem d_S_request_75 : decode prog_1_method_7_code 75 = .ok (.ireturn, 1) := by decide +kernel
theorem d_S_request_76 : decode prog_1_method_7_code 76 = .ok (.aload 7, 2) := by decide +kernel
theorem d_S_request_78 : decode prog_1_method_7_code 78 = .ok (.new 125, 3) := by decide +kernel
theorem d_S_request_81 : decode prog_1_method_7_code 81 = .ok (.dup, 1) := by decide +kernel
theorem d_S_request_82 : decode prog_1_method_7_code 82 = .ok (.aload 7, 2) := by decide +kernel
theorem d_S_request_84 : decode prog_1_method_7_code 84 = .ok (.getfield 127, 3) := by decide +kernel
theorem d_S_request_87 : decode prog_1_method_7_code 87 = .ok (.iload_n 2, 1) := by decide +kernel
theorem d_S_request_88 : decode prog_1_method_7_code 88 = .ok (.iload_n 3, 1) := by decide +kernel
theorem d_S_request_89 : decode prog_1_method_7_code 89 = .ok (.iload 4, 2) := by decide +kernel
theorem d_S_request_91 : decode prog_1_method_7_code 91 = .ok (.iload 5, 2) := by decide +kernel
theorem d_S_request_93 : decode prog_1_method_7_code 93 = .ok (.iload 6, 2) := by decide +kernel
theorem d_S_request_95 : decode prog_1_method_7_code 95 = .ok (.invokespecial 128, 3) := by decide +kernel
theorem d_S_request_98 : decode prog_1_method_7_code 98 = .ok (.invokevirtual 131, 3) := by decide +kernel
theorem d_S_request_101 : decode prog_1_method_7_code 101 = .ok (.ireturn, 1) := by decide +kernel
theorem d_S_upStore_0 : decode prog_1_method_33_code 0 = .ok (.aload_n 0, 1) := by decide +kernel
theorem d_S_upStore_1 : decode prog_1_method_33_code 1 = .ok (.iload_n 1, 1) := by decide +kernel
theorem d_S_upStore_2 : decode prog_1_method_33_code 2 = .ok (.invokevirtual 195, 3) := by decide +kernel
theorem d_S_upStore_5 : decode prog_1_method_33_code 5 = .ok (.astore_n 2, 1) := by decide +kernel
theorem d_S_upStore_6 : decode prog_1_method_33_code 6 = .ok (.aload_n 2, 1) := by decide +kernel
theorem d_S_upStore_7 : decode prog_1_method_33_code 7 = .ok (.ifnull 14, 3) := by decide +kernel
theorem d_S_upStore_10 : decode prog_1_method_33_code 10 = .ok (.aload_n 2, 1) := by decide +kernel
theorem d_S_upStore_11 : decode prog_1_method_33_code 11 = .ok (.getfield 218, 3) := by decide +kernel
theorem d_S_upStore_14 : decode prog_1_method_33_code 14 = .ok (.ifCond .eq 7, 3) := by decide +kernel
theorem d_S_upStore_17 : decode prog_1_method_33_code 17 = .ok (.aload_n 2, 1) := by decide +kernel
theorem d_S_upStore_18 : decode prog_1_method_33_code 18 = .ok (.goto 4, 3) := by decide +kernel
theorem d_S_upStore_21 : decode prog_1_method_33_code 21 = .ok (.aconst_null, 1) := by decide +kernel
theorem d_S_upStore_22 : decode prog_1_method_33_code 22 = .ok (.areturn, 1) := by decide +kernel
theorem d_S_anyStore_0 : decode prog_1_method_30_code 0 = .ok (.iload_n 1, 1) := by decide +kernel
theorem d_S_anyStore_1 : decode prog_1_method_30_code 1 = .ok (.iconst 3, 1) := by decide +kernel
theorem d_S_anyStore_2 : decode prog_1_method_30_code 2 = .ok (.if_icmp .lt 20, 3) := by decide +kernel
theorem d_S_anyStore_5 : decode prog_1_method_30_code 5 = .ok (.iload_n 1, 1) := by decide +kernel
theorem d_S_anyStore_6 : decode prog_1_method_30_code 6 = .ok (.bipush 12, 2) := by decide +kernel
theorem d_S_anyStore_8 : decode prog_1_method_30_code 8 = .ok (.if_icmp .ge 14, 3) := by decide +kernel
theorem d_S_anyStore_11 : decode prog_1_method_30_code 11 = .ok (.aload_n 0, 1) := by decide +kernel
theorem d_S_anyStore_12 : decode prog_1_method_30_code 12 = .ok (.getfield 23, 3) := by decide +kernel
theorem d_S_anyStore_15 : decode prog_1_method_30_code 15 = .ok (.iload_n 1, 1) := by decide +kernel
theorem d_S_anyStore_16 : decode prog_1_method_30_code 16 = .ok (.iconst 3, 1) := by decide +kernel
theorem d_S_anyStore_17 : decode prog_1_method_30_code 17 = .ok (.isub, 1) := by decide +kernel
theorem d_S_anyStore_18 : decode prog_1_method_30_code 18 = .ok (.aaload, 1) := by decide +kernel
theorem d_S_anyStore_19 : decode prog_1_method_30_code 19 = .ok (.goto 4, 3) := by decide +kernel
theorem d_S_anyStore_22 : decode prog_1_method_30_code 22 = .ok (.aconst_null, 1) := by decide +kernel
theorem d_S_anyStore_23 : decode prog_1_method_30_code 23 = .ok (.areturn, 1) := by decide +kernel
theorem d_S_isClient_0 : decode prog_1_method_25_code 0 = .ok (.iload_n 0, 1) := by decide +kernel
theorem d_S_isClient_1 : decode prog_1_method_25_code 1 = .ok (.ifCond .lt 12, 3) := by decide +kernel
theorem d_S_isClient_4 : decode prog_1_method_25_code 4 = .ok (.iload_n 0, 1) := by decide +kernel
theorem d_S_isClient_5 : decode prog_1_method_25_code 5 = .ok (.iconst 3, 1) := by decide +kernel
theorem d_S_isClient_6 : decode prog_1_method_25_code 6 = .ok (.if_icmp .ge 7, 3) := by decide +kernel
theorem d_S_isClient_9 : decode prog_1_method_25_code 9 = .ok (.iconst 1, 1) := by decide +kernel
theorem d_S_isClient_10 : decode prog_1_method_25_code 10 = .ok (.goto 4, 3) := by decide +kernel
theorem d_S_isClient_13 : decode prog_1_method_25_code 13 = .ok (.iconst 0, 1) := by decide +kernel
theorem d_S_isClient_14 : decode prog_1_method_25_code 14 = .ok (.ireturn, 1) := by decide +kernel
theorem d_S_isKey_0 : decode prog_1_method_24_code 0 = .ok (.iload_n 0, 1) := by decide +kernel
theorem d_S_isKey_1 : decode prog_1_method_24_code 1 = .ok (.ifCond .lt 13, 3) := by decide +kernel
theorem d_S_isKey_4 : decode prog_1_method_24_code 4 = .ok (.iload_n 0, 1) := by decide +kernel
theorem d_S_isKey_5 : decode prog_1_method_24_code 5 = .ok (.bipush 16, 2) := by decide +kernel
theorem d_S_isKey_7 : decode prog_1_method_24_code 7 = .ok (.if_icmp .ge 7, 3) := by decide +kernel
theorem d_S_isKey_10 : decode prog_1_method_24_code 10 = .ok (.iconst 1, 1) := by decide +kernel
theorem d_S_isKey_11 : decode prog_1_method_24_code 11 = .ok (.goto 4, 3) := by decide +kernel
theorem d_S_isKey_14 : decode prog_1_method_24_code 14 = .ok (.iconst 0, 1) := by decide +kernel
theorem d_S_isKey_15 : decode prog_1_method_24_code 15 = .ok (.ireturn, 1) := by decide +kernel
theorem d_R_init_0 : decode prog_9_method_1_code 0 = .ok (.aload_n 0, 1) := by decide +kernel
theorem d_R_init_1 : decode prog_9_method_1_code 1 = .ok (.iload_n 1, 1) := by decide +kernel
theorem d_R_init_2 : decode prog_9_method_1_code 2 = .ok (.invokespecial 1, 3) := by decide +kernel
theorem d_R_init_5 : decode prog_9_method_1_code 5 = .ok (.aload_n 0, 1) := by decide +kernel
theorem d_R_init_6 : decode prog_9_method_1_code 6 = .ok (.iload_n 2, 1) := by decide +kernel
theorem d_R_init_7 : decode prog_9_method_1_code 7 = .ok (.putfield 7, 3) := by decide +kernel
theorem d_R_init_10 : decode prog_9_method_1_code 10 = .ok (.aload_n 0, 1) := by decide +kernel
theorem d_R_init_11 : decode prog_9_method_1_code 11 = .ok (.iload_n 3, 1) := by decide +kernel
theorem d_R_init_12 : decode prog_9_method_1_code 12 = .ok (.putfield 13, 3) := by decide +kernel
theorem d_R_init_15 : decode prog_9_method_1_code 15 = .ok (.aload_n 0, 1) := by decide +kernel
theorem d_R_init_16 : decode prog_9_method_1_code 16 = .ok (.iload 4, 2) := by decide +kernel
theorem d_R_init_18 : decode prog_9_method_1_code 18 = .ok (.putfield 16, 3) := by decide +kernel
theorem d_R_init_21 : decode prog_9_method_1_code 21 = .ok (.aload_n 0, 1) := by decide +kernel
theorem d_R_init_22 : decode prog_9_method_1_code 22 = .ok (.iload 5, 2) := by decide +kernel
theorem d_R_init_24 : decode prog_9_method_1_code 24 = .ok (.putfield 19, 3) := by decide +kernel
theorem d_R_init_27 : decode prog_9_method_1_code 27 = .ok (.aload_n 0, 1) := by decide +kernel
theorem d_R_init_28 : decode prog_9_method_1_code 28 = .ok (.iload 6, 2) := by decide +kernel
theorem d_R_init_30 : decode prog_9_method_1_code 30 = .ok (.putfield 22, 3) := by decide +kernel
theorem d_R_init_33 : decode prog_9_method_1_code 33 = .ok (.return_, 1) := by decide +kernel
theorem d_S_poll_0 : decode prog_1_method_8_code 0 = .ok (.aload_n 0, 1) := by decide +kernel
theorem d_S_poll_1 : decode prog_1_method_8_code 1 = .ok (.iload_n 1, 1) := by decide +kernel
theorem d_S_poll_2 : decode prog_1_method_8_code 2 = .ok (.invokevirtual 113, 3) := by decide +kernel
theorem d_S_poll_5 : decode prog_1_method_8_code 5 = .ok (.astore_n 3, 1) := by decide +kernel
theorem d_S_poll_6 : decode prog_1_method_8_code 6 = .ok (.aload_n 0, 1) := by decide +kernel
theorem d_S_poll_7 : decode prog_1_method_8_code 7 = .ok (.iload_n 2, 1) := by decide +kernel
theorem d_S_poll_8 : decode prog_1_method_8_code 8 = .ok (.invokevirtual 97, 3) := by decide +kernel
theorem d_S_poll_11 : decode prog_1_method_8_code 11 = .ok (.astore 4, 2) := by decide +kernel
theorem d_S_poll_13 : decode prog_1_method_8_code 13 = .ok (.aload_n 3, 1) := by decide +kernel
theorem d_S_poll_14 : decode prog_1_method_8_code 14 = .ok (.ifnull 8, 3) := by decide +kernel
theorem d_S_poll_17 : decode prog_1_method_8_code 17 = .ok (.aload 4, 2) := by decide +kernel
theorem d_S_poll_19 : decode prog_1_method_8_code 19 = .ok (.ifnonnull 5, 3) := by decide +kernel
theorem d_S_poll_22 : decode prog_1_method_8_code 22 = .ok (.iconst (-1), 1) := by decide +kernel
theorem d_S_poll_23 : decode prog_1_method_8_code 23 = .ok (.ireturn, 1) := by decide +kernel
theorem d_S_poll_24 : decode prog_1_method_8_code 24 = .ok (.aload_n 3, 1) := by decide +kernel
theorem d_S_poll_25 : decode prog_1_method_8_code 25 = .ok (.getfield 124, 3) := by decide +kernel
theorem d_S_poll_28 : decode prog_1_method_8_code 28 = .ok (.ifCond .ne 6, 3) := by decide +kernel
theorem d_S_poll_31 : decode prog_1_method_8_code 31 = .ok (.bipush (-2), 2) := by decide +kernel
theorem d_S_poll_33 : decode prog_1_method_8_code 33 = .ok (.ireturn, 1) := by decide +kernel
theorem d_S_poll_34 : decode prog_1_method_8_code 34 = .ok (.aload_n 3, 1) := by decide +kernel
theorem d_S_poll_35 : decode prog_1_method_8_code 35 = .ok (.getfield 132, 3) := by decide +kernel
theorem d_S_poll_38 : decode prog_1_method_8_code 38 = .ok (.iconst 1, 1) := by decide +kernel
theorem d_S_poll_39 : decode prog_1_method_8_code 39 = .ok (.iadd, 1) := by decide +kernel
theorem d_S_poll_40 : decode prog_1_method_8_code 40 = .ok (.istore 5, 2) := by decide +kernel
theorem d_S_poll_42 : decode prog_1_method_8_code 42 = .ok (.aload_n 3, 1) := by decide +kernel
theorem d_S_poll_43 : decode prog_1_method_8_code 43 = .ok (.invokevirtual 135, 3) := by decide +kernel
theorem d_S_poll_46 : decode prog_1_method_8_code 46 = .ok (.ifCond .eq 13, 3) := by decide +kernel
theorem d_S_poll_49 : decode prog_1_method_8_code 49 = .ok (.iload 5, 2) := by decide +kernel
theorem d_S_poll_51 : decode prog_1_method_8_code 51 = .ok (.aload 4, 2) := by decide +kernel
theorem d_S_poll_53 : decode prog_1_method_8_code 53 = .ok (.getfield 139, 3) := by decide +kernel
theorem d_S_poll_56 : decode prog_1_method_8_code 56 = .ok (.if_icmp .le 6, 3) := by decide +kernel
theorem d_S_poll_59 : decode prog_1_method_8_code 59 = .ok (.bipush (-4), 2) := by decide +kernel
theorem d_S_poll_61 : decode prog_1_method_8_code 61 = .ok (.ireturn, 1) := by decide +kernel
theorem d_S_poll_62 : decode prog_1_method_8_code 62 = .ok (.aload_n 3, 1) := by decide +kernel
theorem d_S_poll_63 : decode prog_1_method_8_code 63 = .ok (.new 142, 3) := by decide +kernel
theorem d_S_poll_66 : decode prog_1_method_8_code 66 = .ok (.dup, 1) := by decide +kernel
theorem d_S_poll_67 : decode prog_1_method_8_code 67 = .ok (.aload_n 3, 1) := by decide +kernel
theorem d_S_poll_68 : decode prog_1_method_8_code 68 = .ok (.getfield 127, 3) := by decide +kernel
theorem d_S_poll_71 : decode prog_1_method_8_code 71 = .ok (.iload 5, 2) := by decide +kernel
theorem d_S_poll_73 : decode prog_1_method_8_code 73 = .ok (.aload 4, 2) := by decide +kernel
theorem d_S_poll_75 : decode prog_1_method_8_code 75 = .ok (.getfield 144, 3) := by decide +kernel
theorem d_S_poll_78 : decode prog_1_method_8_code 78 = .ok (.iload 5, 2) := by decide +kernel
theorem d_S_poll_80 : decode prog_1_method_8_code 80 = .ok (.aaload, 1) := by decide +kernel
theorem d_S_poll_81 : decode prog_1_method_8_code 81 = .ok (.invokespecial 148, 3) := by decide +kernel
theorem d_S_poll_84 : decode prog_1_method_8_code 84 = .ok (.invokevirtual 131, 3) := by decide +kernel
theorem d_S_poll_87 : decode prog_1_method_8_code 87 = .ok (.ireturn, 1) := by decide +kernel
theorem d_F_init_0 : decode prog_4_method_1_code 0 = .ok (.aload_n 0, 1) := by decide +kernel
theorem d_F_init_1 : decode prog_4_method_1_code 1 = .ok (.iload_n 1, 1) := by decide +kernel
theorem d_F_init_2 : decode prog_4_method_1_code 2 = .ok (.invokespecial 1, 3) := by decide +kernel
theorem d_F_init_5 : decode prog_4_method_1_code 5 = .ok (.aload_n 0, 1) := by decide +kernel
theorem d_F_init_6 : decode prog_4_method_1_code 6 = .ok (.iload_n 2, 1) := by decide +kernel
theorem d_F_init_7 : decode prog_4_method_1_code 7 = .ok (.putfield 7, 3) := by decide +kernel
theorem d_F_init_10 : decode prog_4_method_1_code 10 = .ok (.aload_n 0, 1) := by decide +kernel
theorem d_F_init_11 : decode prog_4_method_1_code 11 = .ok (.aload_n 3, 1) := by decide +kernel
theorem d_F_init_12 : decode prog_4_method_1_code 12 = .ok (.putfield 13, 3) := by decide +kernel
theorem d_F_init_15 : decode prog_4_method_1_code 15 = .ok (.return_, 1) := by decide +kernel
theorem d_S_pull_0 : decode prog_1_method_9_code 0 = .ok (.aload_n 0, 1) := by decide +kernel
theorem d_S_pull_1 : decode prog_1_method_9_code 1 = .ok (.iload_n 1, 1) := by decide +kernel
theorem d_S_pull_2 : decode prog_1_method_9_code 2 = .ok (.invokevirtual 113, 3) := by decide +kernel
theorem d_S_pull_5 : decode prog_1_method_9_code 5 = .ok (.astore 4, 2) := by decide +kernel
theorem d_S_pull_7 : decode prog_1_method_9_code 7 = .ok (.aload_n 0, 1) := by decide +kernel
theorem d_S_pull_8 : decode prog_1_method_9_code 8 = .ok (.iload_n 3, 1) := by decide +kernel
theorem d_S_pull_9 : decode prog_1_method_9_code 9 = .ok (.invokevirtual 113, 3) := by decide +kernel
theorem d_S_pull_12 : decode prog_1_method_9_code 12 = .ok (.astore 5, 2) := by decide +kernel
theorem d_S_pull_14 : decode prog_1_method_9_code 14 = .ok (.aload 4, 2) := by decide +kernel
theorem d_S_pull_16 : decode prog_1_method_9_code 16 = .ok (.ifnull 15, 3) := by decide +kernel
theorem d_S_pull_19 : decode prog_1_method_9_code 19 = .ok (.aload 5, 2) := by decide +kernel
theorem d_S_pull_21 : decode prog_1_method_9_code 21 = .ok (.ifnull 10, 3) := by decide +kernel
theorem d_S_pull_24 : decode prog_1_method_9_code 24 = .ok (.iload_n 2, 1) := by decide +kernel
theorem d_S_pull_25 : decode prog_1_method_9_code 25 = .ok (.invokestatic 151, 3) := by decide +kernel
theorem d_S_pull_28 : decode prog_1_method_9_code 28 = .ok (.ifCond .ne 5, 3) := by decide +kernel
theorem d_S_pull_31 : decode prog_1_method_9_code 31 = .ok (.iconst (-1), 1) := by decide +kernel
theorem d_S_pull_32 : decode prog_1_method_9_code 32 = .ok (.ireturn, 1) := by decide +kernel
theorem d_S_pull_33 : decode prog_1_method_9_code 33 = .ok (.aload 4, 2) := by decide +kernel
theorem d_S_pull_35 : decode prog_1_method_9_code 35 = .ok (.getfield 124, 3) := by decide +kernel
theorem d_S_pull_38 : decode prog_1_method_9_code 38 = .ok (.ifCond .ne 6, 3) := by decide +kernel
theorem d_S_pull_41 : decode prog_1_method_9_code 41 = .ok (.bipush (-2), 2) := by decide +kernel
theorem d_S_pull_43 : decode prog_1_method_9_code 43 = .ok (.ireturn, 1) := by decide +kernel
theorem d_S_pull_44 : decode prog_1_method_9_code 44 = .ok (.aload 4, 2) := by decide +kernel
theorem d_S_pull_46 : decode prog_1_method_9_code 46 = .ok (.getfield 154, 3) := by decide +kernel
theorem d_S_pull_49 : decode prog_1_method_9_code 49 = .ok (.iload_n 2, 1) := by decide +kernel
theorem d_S_pull_50 : decode prog_1_method_9_code 50 = .ok (.aaload, 1) := by decide +kernel
theorem d_S_pull_51 : decode prog_1_method_9_code 51 = .ok (.getfield 158, 3) := by decide +kernel
theorem d_S_pull_54 : decode prog_1_method_9_code 54 = .ok (.iconst 2, 1) := by decide +kernel
theorem d_S_pull_55 : decode prog_1_method_9_code 55 = .ok (.if_icmp .ne 30, 3) := by decide +kernel
theorem d_S_pull_58 : decode prog_1_method_9_code 58 = .ok (.aload 5, 2) := by decide +kernel
theorem d_S_pull_60 : decode prog_1_method_9_code 60 = .ok (.getfield 154, 3) := by decide +kernel
theorem d_S_pull_63 : decode prog_1_method_9_code 63 = .ok (.iload_n 2, 1) := by decide +kernel
theorem d_S_pull_64 : decode prog_1_method_9_code 64 = .ok (.aaload, 1) := by decide +kernel
theorem d_S_pull_65 : decode prog_1_method_9_code 65 = .ok (.getfield 158, 3) := by decide +kernel
theorem d_S_pull_68 : decode prog_1_method_9_code 68 = .ok (.iconst 3, 1) := by decide +kernel
theorem d_S_pull_69 : decode prog_1_method_9_code 69 = .ok (.if_icmp .ne 16, 3) := by decide +kernel
theorem d_S_pull_72 : decode prog_1_method_9_code 72 = .ok (.aload 4, 2) := by decide +kernel
theorem d_S_pull_74 : decode prog_1_method_9_code 74 = .ok (.getfield 132, 3) := by decide +kernel
theorem d_S_pull_77 : decode prog_1_method_9_code 77 = .ok (.aload 5, 2) := by decide +kernel
theorem d_S_pull_79 : decode prog_1_method_9_code 79 = .ok (.getfield 132, 3) := by decide +kernel
theorem d_S_pull_82 : decode prog_1_method_9_code 82 = .ok (.if_icmp .eq 6, 3) := by decide +kernel
theorem d_S_pull_85 : decode prog_1_method_9_code 85 = .ok (.bipush (-4), 2) := by decide +kernel
theorem d_S_pull_87 : decode prog_1_method_9_code 87 = .ok (.ireturn, 1) := by decide +kernel
theorem d_S_pull_88 : decode prog_1_method_9_code 88 = .ok (.aload 4, 2) := by decide +kernel
theorem d_S_pull_90 : decode prog_1_method_9_code 90 = .ok (.new 163, 3) := by decide +kernel
theorem d_S_pull_93 : decode prog_1_method_9_code 93 = .ok (.dup, 1) := by decide +kernel
theorem d_S_pull_94 : decode prog_1_method_9_code 94 = .ok (.aload 4, 2) := by decide +kernel
theorem d_S_pull_96 : decode prog_1_method_9_code 96 = .ok (.getfield 127, 3) := by decide +kernel
theorem d_S_pull_99 : decode prog_1_method_9_code 99 = .ok (.iload_n 2, 1) := by decide +kernel
theorem d_S_pull_100 : decode prog_1_method_9_code 100 = .ok (.aload 4, 2) := by decide +kernel
theorem d_S_pull_102 : decode prog_1_method_9_code 102 = .ok (.getfield 132, 3) := by decide +kernel
theorem d_S_pull_105 : decode prog_1_method_9_code 105 = .ok (.aload 5, 2) := by decide +kernel
theorem d_S_pull_107 : decode prog_1_method_9_code 107 = .ok (.getfield 154, 3) := by decide +kernel
theorem d_S_pull_110 : decode prog_1_method_9_code 110 = .ok (.iload_n 2, 1) := by decide +kernel
theorem d_S_pull_111 : decode prog_1_method_9_code 111 = .ok (.aaload, 1) := by decide +kernel
theorem d_S_pull_112 : decode prog_1_method_9_code 112 = .ok (.invokespecial 165, 3) := by decide +kernel
theorem d_S_pull_115 : decode prog_1_method_9_code 115 = .ok (.invokevirtual 131, 3) := by decide +kernel
theorem d_S_pull_118 : decode prog_1_method_9_code 118 = .ok (.ireturn, 1) := by decide +kernel
theorem d_I_init_0 : decode prog_7_method_1_code 0 = .ok (.aload_n 0, 1) := by decide +kernel
theorem d_I_init_1 : decode prog_7_method_1_code 1 = .ok (.iload_n 1, 1) := by decide +kernel
theorem d_I_init_2 : decode prog_7_method_1_code 2 = .ok (.invokespecial 3, 3) := by decide +kernel
theorem d_I_init_5 : decode prog_7_method_1_code 5 = .ok (.aload_n 0, 1) := by decide +kernel
theorem d_I_init_6 : decode prog_7_method_1_code 6 = .ok (.new 9, 3) := by decide +kernel
theorem d_I_init_9 : decode prog_7_method_1_code 9 = .ok (.dup, 1) := by decide +kernel
theorem d_I_init_10 : decode prog_7_method_1_code 10 = .ok (.invokespecial 11, 3) := by decide +kernel
theorem d_I_init_13 : decode prog_7_method_1_code 13 = .ok (.putfield 14, 3) := by decide +kernel
theorem d_I_init_16 : decode prog_7_method_1_code 16 = .ok (.aload_n 0, 1) := by decide +kernel
theorem d_I_init_17 : decode prog_7_method_1_code 17 = .ok (.iload_n 2, 1) := by decide +kernel
theorem d_I_init_18 : decode prog_7_method_1_code 18 = .ok (.putfield 20, 3) := by decide +kernel
theorem d_I_init_21 : decode prog_7_method_1_code 21 = .ok (.aload_n 0, 1) := by decide +kernel
theorem d_I_init_22 : decode prog_7_method_1_code 22 = .ok (.iload_n 3, 1) := by decide +kernel
theorem d_I_init_23 : decode prog_7_method_1_code 23 = .ok (.putfield 24, 3) := by decide +kernel
theorem d_I_init_26 : decode prog_7_method_1_code 26 = .ok (.aload_n 0, 1) := by decide +kernel
theorem d_I_init_27 : decode prog_7_method_1_code 27 = .ok (.getfield 14, 3) := by decide +kernel
theorem d_I_init_30 : decode prog_7_method_1_code 30 = .ok (.aload 4, 2) := by decide +kernel
theorem d_I_init_32 : decode prog_7_method_1_code 32 = .ok (.invokevirtual 27, 3) := by decide +kernel
theorem d_I_init_35 : decode prog_7_method_1_code 35 = .ok (.return_, 1) := by decide +kernel
theorem d_S_confirm_0 : decode prog_1_method_10_code 0 = .ok (.aload_n 0, 1) := by decide +kernel
theorem d_S_confirm_1 : decode prog_1_method_10_code 1 = .ok (.iload_n 1, 1) := by decide +kernel
theorem d_S_confirm_2 : decode prog_1_method_10_code 2 = .ok (.invokevirtual 113, 3) := by decide +kernel
theorem d_S_confirm_5 : decode prog_1_method_10_code 5 = .ok (.astore 4, 2) := by decide +kernel
end
section
theorem d_S_confirm_7 : decode prog_1_method_10_code 7 = .ok (.aload_n 0, 1) := by decide +kernel
theorem d_S_confirm_8 : decode prog_1_method_10_code 8 = .ok (.iload_n 3, 1) := by decide +kernel
theorem d_S_confirm_9 : decode prog_1_method_10_code 9 = .ok (.invokevirtual 113, 3) := by decide +kernel
theorem d_S_confirm_12 : decode prog_1_method_10_code 12 = .ok (.astore 5, 2) := by decide +kernel
theorem d_S_confirm_14 : decode prog_1_method_10_code 14 = .ok (.aload 4, 2) := by decide +kernel
theorem d_S_confirm_16 : decode prog_1_method_10_code 16 = .ok (.ifnull 15, 3) := by decide +kernel
theorem d_S_confirm_19 : decode prog_1_method_10_code 19 = .ok (.aload 5, 2) := by decide +kernel
theorem d_S_confirm_21 : decode prog_1_method_10_code 21 = .ok (.ifnull 10, 3) := by decide +kernel
theorem d_S_confirm_24 : decode prog_1_method_10_code 24 = .ok (.iload_n 2, 1) := by decide +kernel
theorem d_S_confirm_25 : decode prog_1_method_10_code 25 = .ok (.invokestatic 151, 3) := by decide +kernel
theorem d_S_confirm_28 : decode prog_1_method_10_code 28 = .ok (.ifCond .ne 5, 3) := by decide +kernel
theorem d_S_confirm_31 : decode prog_1_method_10_code 31 = .ok (.iconst (-1), 1) := by decide +kernel
theorem d_S_confirm_32 : decode prog_1_method_10_code 32 = .ok (.ireturn, 1) := by decide +kernel
theorem d_S_confirm_33 : decode prog_1_method_10_code 33 = .ok (.aload 4, 2) := by decide +kernel
theorem d_S_confirm_35 : decode prog_1_method_10_code 35 = .ok (.getfield 124, 3) := by decide +kernel
theorem d_S_confirm_38 : decode prog_1_method_10_code 38 = .ok (.ifCond .ne 6, 3) := by decide +kernel
theorem d_S_confirm_41 : decode prog_1_method_10_code 41 = .ok (.bipush (-2), 2) := by decide +kernel
theorem d_S_confirm_43 : decode prog_1_method_10_code 43 = .ok (.ireturn, 1) := by decide +kernel
theorem d_S_confirm_44 : decode prog_1_method_10_code 44 = .ok (.aload 4, 2) := by decide +kernel
theorem d_S_confirm_46 : decode prog_1_method_10_code 46 = .ok (.getfield 154, 3) := by decide +kernel
theorem d_S_confirm_49 : decode prog_1_method_10_code 49 = .ok (.iload_n 2, 1) := by decide +kernel
theorem d_S_confirm_50 : decode prog_1_method_10_code 50 = .ok (.aaload, 1) := by decide +kernel
theorem d_S_confirm_51 : decode prog_1_method_10_code 51 = .ok (.getfield 158, 3) := by decide +kernel
theorem d_S_confirm_54 : decode prog_1_method_10_code 54 = .ok (.iconst 3, 1) := by decide +kernel
theorem d_S_confirm_55 : decode prog_1_method_10_code 55 = .ok (.if_icmp .ne 35, 3) := by decide +kernel
theorem d_S_confirm_58 : decode prog_1_method_10_code 58 = .ok (.aload 4, 2) := by decide +kernel
theorem d_S_confirm_60 : decode prog_1_method_10_code 60 = .ok (.getfield 168, 3) := by decide +kernel
theorem d_S_confirm_63 : decode prog_1_method_10_code 63 = .ok (.getfield 172, 3) := by decide +kernel
theorem d_S_confirm_66 : decode prog_1_method_10_code 66 = .ok (.iload_n 2, 1) := by decide +kernel
theorem d_S_confirm_67 : decode prog_1_method_10_code 67 = .ok (.iaload, 1) := by decide +kernel
theorem d_S_confirm_68 : decode prog_1_method_10_code 68 = .ok (.aload 5, 2) := by decide +kernel
theorem d_S_confirm_70 : decode prog_1_method_10_code 70 = .ok (.getfield 176, 3) := by decide +kernel
theorem d_S_confirm_73 : decode prog_1_method_10_code 73 = .ok (.if_icmp .ne 17, 3) := by decide +kernel
theorem d_S_confirm_76 : decode prog_1_method_10_code 76 = .ok (.aload 5, 2) := by decide +kernel
theorem d_S_confirm_78 : decode prog_1_method_10_code 78 = .ok (.iload_n 2, 1) := by decide +kernel
theorem d_S_confirm_79 : decode prog_1_method_10_code 79 = .ok (.aload 4, 2) := by decide +kernel
theorem d_S_confirm_81 : decode prog_1_method_10_code 81 = .ok (.getfield 132, 3) := by decide +kernel
theorem d_S_confirm_84 : decode prog_1_method_10_code 84 = .ok (.invokevirtual 179, 3) := by decide +kernel
theorem d_S_confirm_87 : decode prog_1_method_10_code 87 = .ok (.ifCond .ne 6, 3) := by decide +kernel
theorem d_S_confirm_90 : decode prog_1_method_10_code 90 = .ok (.bipush (-4), 2) := by decide +kernel
theorem d_S_confirm_92 : decode prog_1_method_10_code 92 = .ok (.ireturn, 1) := by decide +kernel
theorem d_S_confirm_93 : decode prog_1_method_10_code 93 = .ok (.aload 4, 2) := by decide +kernel
theorem d_S_confirm_95 : decode prog_1_method_10_code 95 = .ok (.new 183, 3) := by decide +kernel
theorem d_S_confirm_98 : decode prog_1_method_10_code 98 = .ok (.dup, 1) := by decide +kernel
theorem d_S_confirm_99 : decode prog_1_method_10_code 99 = .ok (.aload 4, 2) := by decide +kernel
theorem d_S_confirm_101 : decode prog_1_method_10_code 101 = .ok (.getfield 127, 3) := by decide +kernel
theorem d_S_confirm_104 : decode prog_1_method_10_code 104 = .ok (.iload_n 2, 1) := by decide +kernel
theorem d_S_confirm_105 : decode prog_1_method_10_code 105 = .ok (.aload 4, 2) := by decide +kernel
theorem d_S_confirm_107 : decode prog_1_method_10_code 107 = .ok (.getfield 132, 3) := by decide +kernel
theorem d_S_confirm_110 : decode prog_1_method_10_code 110 = .ok (.invokespecial 185, 3) := by decide +kernel
theorem d_S_confirm_113 : decode prog_1_method_10_code 113 = .ok (.invokevirtual 131, 3) := by decide +kernel
theorem d_S_confirm_116 : decode prog_1_method_10_code 116 = .ok (.ireturn, 1) := by decide +kernel
theorem d_T_hasReceived_0 : decode prog_12_method_5_code 0 = .ok (.aload_n 0, 1) := by decide +kernel
theorem d_T_hasReceived_1 : decode prog_12_method_5_code 1 = .ok (.getfield 32, 3) := by decide +kernel
theorem d_T_hasReceived_4 : decode prog_12_method_5_code 4 = .ok (.iload_n 2, 1) := by decide +kernel
theorem d_T_hasReceived_5 : decode prog_12_method_5_code 5 = .ok (.if_icmp .gt 24, 3) := by decide +kernel
theorem d_T_hasReceived_8 : decode prog_12_method_5_code 8 = .ok (.aload_n 0, 1) := by decide +kernel
theorem d_T_hasReceived_9 : decode prog_12_method_5_code 9 = .ok (.getfield 32, 3) := by decide +kernel
theorem d_T_hasReceived_12 : decode prog_12_method_5_code 12 = .ok (.iload_n 2, 1) := by decide +kernel
theorem d_T_hasReceived_13 : decode prog_12_method_5_code 13 = .ok (.if_icmp .ne 20, 3) := by decide +kernel
theorem d_T_hasReceived_16 : decode prog_12_method_5_code 16 = .ok (.aload_n 0, 1) := by decide +kernel
theorem d_T_hasReceived_17 : decode prog_12_method_5_code 17 = .ok (.getfield 11, 3) := by decide +kernel
theorem d_T_hasReceived_20 : decode prog_12_method_5_code 20 = .ok (.iload_n 1, 1) := by decide +kernel
theorem d_T_hasReceived_21 : decode prog_12_method_5_code 21 = .ok (.aaload, 1) := by decide +kernel
theorem d_T_hasReceived_22 : decode prog_12_method_5_code 22 = .ok (.getfield 35, 3) := by decide +kernel
theorem d_T_hasReceived_25 : decode prog_12_method_5_code 25 = .ok (.iconst 1, 1) := by decide +kernel
theorem d_T_hasReceived_26 : decode prog_12_method_5_code 26 = .ok (.if_icmp .ne 7, 3) := by decide +kernel
theorem d_T_hasReceived_29 : decode prog_12_method_5_code 29 = .ok (.iconst 1, 1) := by decide +kernel
theorem d_T_hasReceived_30 : decode prog_12_method_5_code 30 = .ok (.goto 4, 3) := by decide +kernel
theorem d_T_hasReceived_33 : decode prog_12_method_5_code 33 = .ok (.iconst 0, 1) := by decide +kernel
theorem d_T_hasReceived_34 : decode prog_12_method_5_code 34 = .ok (.ireturn, 1) := by decide +kernel
theorem d_D_init_0 : decode prog_5_method_1_code 0 = .ok (.aload_n 0, 1) := by decide +kernel
theorem d_D_init_1 : decode prog_5_method_1_code 1 = .ok (.iload_n 1, 1) := by decide +kernel
theorem d_D_init_2 : decode prog_5_method_1_code 2 = .ok (.invokespecial 3, 3) := by decide +kernel
theorem d_D_init_5 : decode prog_5_method_1_code 5 = .ok (.aload_n 0, 1) := by decide +kernel
theorem d_D_init_6 : decode prog_5_method_1_code 6 = .ok (.iload_n 2, 1) := by decide +kernel
theorem d_D_init_7 : decode prog_5_method_1_code 7 = .ok (.putfield 9, 3) := by decide +kernel
theorem d_D_init_10 : decode prog_5_method_1_code 10 = .ok (.aload_n 0, 1) := by decide +kernel
theorem d_D_init_11 : decode prog_5_method_1_code 11 = .ok (.iload_n 3, 1) := by decide +kernel
theorem d_D_init_12 : decode prog_5_method_1_code 12 = .ok (.putfield 15, 3) := by decide +kernel
theorem d_D_init_15 : decode prog_5_method_1_code 15 = .ok (.return_, 1) := by decide +kernel
theorem d_S_length_0 : decode prog_1_method_11_code 0 = .ok (.aload_n 0, 1) := by decide +kernel
theorem d_S_length_1 : decode prog_1_method_11_code 1 = .ok (.iload_n 1, 1) := by decide +kernel
theorem d_S_length_2 : decode prog_1_method_11_code 2 = .ok (.invokevirtual 51, 3) := by decide +kernel
theorem d_S_length_5 : decode prog_1_method_11_code 5 = .ok (.astore_n 2, 1) := by decide +kernel
theorem d_S_length_6 : decode prog_1_method_11_code 6 = .ok (.aload_n 2, 1) := by decide +kernel
theorem d_S_length_7 : decode prog_1_method_11_code 7 = .ok (.ifnonnull 7, 3) := by decide +kernel
theorem d_S_length_10 : decode prog_1_method_11_code 10 = .ok (.iconst (-1), 1) := by decide +kernel
theorem d_S_length_11 : decode prog_1_method_11_code 11 = .ok (.goto 7, 3) := by decide +kernel
theorem d_S_length_14 : decode prog_1_method_11_code 14 = .ok (.aload_n 2, 1) := by decide +kernel
theorem d_S_length_15 : decode prog_1_method_11_code 15 = .ok (.getfield 94, 3) := by decide +kernel
theorem d_S_length_18 : decode prog_1_method_11_code 18 = .ok (.ireturn, 1) := by decide +kernel
theorem d_S_known_0 : decode prog_1_method_12_code 0 = .ok (.aload_n 0, 1) := by decide +kernel
theorem d_S_known_1 : decode prog_1_method_12_code 1 = .ok (.iload_n 1, 1) := by decide +kernel
theorem d_S_known_2 : decode prog_1_method_12_code 2 = .ok (.invokevirtual 51, 3) := by decide +kernel
theorem d_S_known_5 : decode prog_1_method_12_code 5 = .ok (.astore_n 2, 1) := by decide +kernel
theorem d_S_known_6 : decode prog_1_method_12_code 6 = .ok (.aload_n 2, 1) := by decide +kernel
theorem d_S_known_7 : decode prog_1_method_12_code 7 = .ok (.ifnonnull 7, 3) := by decide +kernel
theorem d_S_known_10 : decode prog_1_method_12_code 10 = .ok (.iconst (-1), 1) := by decide +kernel
theorem d_S_known_11 : decode prog_1_method_12_code 11 = .ok (.goto 7, 3) := by decide +kernel
theorem d_S_known_14 : decode prog_1_method_12_code 14 = .ok (.aload_n 2, 1) := by decide +kernel
theorem d_S_known_15 : decode prog_1_method_12_code 15 = .ok (.getfield 91, 3) := by decide +kernel
theorem d_S_known_18 : decode prog_1_method_12_code 18 = .ok (.ireturn, 1) := by decide +kernel
theorem d_S_term_0 : decode prog_1_method_13_code 0 = .ok (.aload_n 0, 1) := by decide +kernel
theorem d_S_term_1 : decode prog_1_method_13_code 1 = .ok (.iload_n 1, 1) := by decide +kernel
theorem d_S_term_2 : decode prog_1_method_13_code 2 = .ok (.invokevirtual 51, 3) := by decide +kernel
theorem d_S_term_5 : decode prog_1_method_13_code 5 = .ok (.astore_n 2, 1) := by decide +kernel
theorem d_S_term_6 : decode prog_1_method_13_code 6 = .ok (.aload_n 2, 1) := by decide +kernel
theorem d_S_term_7 : decode prog_1_method_13_code 7 = .ok (.ifnonnull 5, 3) := by decide +kernel
theorem d_S_term_10 : decode prog_1_method_13_code 10 = .ok (.iconst (-1), 1) := by decide +kernel
theorem d_S_term_11 : decode prog_1_method_13_code 11 = .ok (.ireturn, 1) := by decide +kernel
theorem d_S_term_12 : decode prog_1_method_13_code 12 = .ok (.aload_n 2, 1) := by decide +kernel
theorem d_S_term_13 : decode prog_1_method_13_code 13 = .ok (.getfield 48, 3) := by decide +kernel
theorem d_S_term_16 : decode prog_1_method_13_code 16 = .ok (.ifCond .eq 14, 3) := by decide +kernel
theorem d_S_term_19 : decode prog_1_method_13_code 19 = .ok (.aload_n 2, 1) := by decide +kernel
theorem d_S_term_20 : decode prog_1_method_13_code 20 = .ok (.getfield 54, 3) := by decide +kernel
theorem d_S_term_23 : decode prog_1_method_13_code 23 = .ok (.sipush 1000, 3) := by decide +kernel
theorem d_S_term_26 : decode prog_1_method_13_code 26 = .ok (.iadd, 1) := by decide +kernel
theorem d_S_term_27 : decode prog_1_method_13_code 27 = .ok (.goto 7, 3) := by decide +kernel
theorem d_S_term_30 : decode prog_1_method_13_code 30 = .ok (.aload_n 2, 1) := by decide +kernel
theorem d_S_term_31 : decode prog_1_method_13_code 31 = .ok (.getfield 54, 3) := by decide +kernel
theorem d_S_term_34 : decode prog_1_method_13_code 34 = .ok (.ireturn, 1) := by decide +kernel
theorem d_S_configuration_0 : decode prog_1_method_14_code 0 = .ok (.aload_n 0, 1) := by decide +kernel
theorem d_S_configuration_1 : decode prog_1_method_14_code 1 = .ok (.iload_n 1, 1) := by decide +kernel
theorem d_S_configuration_2 : decode prog_1_method_14_code 2 = .ok (.invokevirtual 51, 3) := by decide +kernel
theorem d_S_configuration_5 : decode prog_1_method_14_code 5 = .ok (.astore_n 2, 1) := by decide +kernel
theorem d_S_configuration_6 : decode prog_1_method_14_code 6 = .ok (.aload_n 2, 1) := by decide +kernel
theorem d_S_configuration_7 : decode prog_1_method_14_code 7 = .ok (.ifnonnull 7, 3) := by decide +kernel
theorem d_S_configuration_10 : decode prog_1_method_14_code 10 = .ok (.iconst (-1), 1) := by decide +kernel
theorem d_S_configuration_11 : decode prog_1_method_14_code 11 = .ok (.goto 7, 3) := by decide +kernel
theorem d_S_configuration_14 : decode prog_1_method_14_code 14 = .ok (.aload_n 2, 1) := by decide +kernel
theorem d_S_configuration_15 : decode prog_1_method_14_code 15 = .ok (.invokevirtual 188, 3) := by decide +kernel
theorem d_S_configuration_18 : decode prog_1_method_14_code 18 = .ok (.ireturn, 1) := by decide +kernel
theorem d_V_lastNumber_0 : decode prog_10_method_3_code 0 = .ok (.aload_n 0, 1) := by decide +kernel
theorem d_V_lastNumber_1 : decode prog_10_method_3_code 1 = .ok (.getfield 23, 3) := by decide +kernel
theorem d_V_lastNumber_4 : decode prog_10_method_3_code 4 = .ok (.ireturn, 1) := by decide +kernel
theorem d_T_lastNumber_0 : decode prog_12_method_3_code 0 = .ok (.aload_n 0, 1) := by decide +kernel
theorem d_T_lastNumber_1 : decode prog_12_method_3_code 1 = .ok (.getfield 32, 3) := by decide +kernel
theorem d_T_lastNumber_4 : decode prog_12_method_3_code 4 = .ok (.ireturn, 1) := by decide +kernel
theorem d_S_owner_0 : decode prog_1_method_15_code 0 = .ok (.aload_n 0, 1) := by decide +kernel
theorem d_S_owner_1 : decode prog_1_method_15_code 1 = .ok (.iload_n 1, 1) := by decide +kernel
theorem d_S_owner_2 : decode prog_1_method_15_code 2 = .ok (.invokevirtual 192, 3) := by decide +kernel
theorem d_S_owner_5 : decode prog_1_method_15_code 5 = .ok (.astore 4, 2) := by decide +kernel
theorem d_S_owner_7 : decode prog_1_method_15_code 7 = .ok (.aload 4, 2) := by decide +kernel
theorem d_S_owner_9 : decode prog_1_method_15_code 9 = .ok (.ifnull 23, 3) := by decide +kernel
theorem d_S_owner_12 : decode prog_1_method_15_code 12 = .ok (.iload_n 2, 1) := by decide +kernel
theorem d_S_owner_13 : decode prog_1_method_15_code 13 = .ok (.ifCond .lt 19, 3) := by decide +kernel
theorem d_S_owner_16 : decode prog_1_method_15_code 16 = .ok (.iload_n 2, 1) := by decide +kernel
theorem d_S_owner_17 : decode prog_1_method_15_code 17 = .ok (.aload 4, 2) := by decide +kernel
theorem d_S_owner_19 : decode prog_1_method_15_code 19 = .ok (.getfield 139, 3) := by decide +kernel
theorem d_S_owner_22 : decode prog_1_method_15_code 22 = .ok (.if_icmp .gt 10, 3) := by decide +kernel
theorem d_S_owner_25 : decode prog_1_method_15_code 25 = .ok (.iload_n 3, 1) := by decide +kernel
theorem d_S_owner_26 : decode prog_1_method_15_code 26 = .ok (.invokestatic 151, 3) := by decide +kernel
theorem d_S_owner_29 : decode prog_1_method_15_code 29 = .ok (.ifCond .ne 5, 3) := by decide +kernel
theorem d_S_owner_32 : decode prog_1_method_15_code 32 = .ok (.iconst (-1), 1) := by decide +kernel
theorem d_S_owner_33 : decode prog_1_method_15_code 33 = .ok (.ireturn, 1) := by decide +kernel
theorem d_S_owner_34 : decode prog_1_method_15_code 34 = .ok (.aload 4, 2) := by decide +kernel
theorem d_S_owner_36 : decode prog_1_method_15_code 36 = .ok (.getfield 144, 3) := by decide +kernel
theorem d_S_owner_39 : decode prog_1_method_15_code 39 = .ok (.iload_n 2, 1) := by decide +kernel
theorem d_S_owner_40 : decode prog_1_method_15_code 40 = .ok (.aaload, 1) := by decide +kernel
theorem d_S_owner_41 : decode prog_1_method_15_code 41 = .ok (.getfield 172, 3) := by decide +kernel
theorem d_S_owner_44 : decode prog_1_method_15_code 44 = .ok (.iload_n 3, 1) := by decide +kernel
theorem d_S_owner_45 : decode prog_1_method_15_code 45 = .ok (.iaload, 1) := by decide +kernel
theorem d_S_owner_46 : decode prog_1_method_15_code 46 = .ok (.ireturn, 1) := by decide +kernel
theorem d_S_condition_0 : decode prog_1_method_16_code 0 = .ok (.aload_n 0, 1) := by decide +kernel
theorem d_S_condition_1 : decode prog_1_method_16_code 1 = .ok (.iload_n 1, 1) := by decide +kernel
theorem d_S_condition_2 : decode prog_1_method_16_code 2 = .ok (.invokevirtual 195, 3) := by decide +kernel
theorem d_S_condition_5 : decode prog_1_method_16_code 5 = .ok (.astore_n 3, 1) := by decide +kernel
theorem d_S_condition_6 : decode prog_1_method_16_code 6 = .ok (.aload_n 3, 1) := by decide +kernel
theorem d_S_condition_7 : decode prog_1_method_16_code 7 = .ok (.ifnull 10, 3) := by decide +kernel
theorem d_S_condition_10 : decode prog_1_method_16_code 10 = .ok (.iload_n 2, 1) := by decide +kernel
theorem d_S_condition_11 : decode prog_1_method_16_code 11 = .ok (.invokestatic 151, 3) := by decide +kernel
theorem d_S_condition_14 : decode prog_1_method_16_code 14 = .ok (.ifCond .ne 5, 3) := by decide +kernel
theorem d_S_condition_17 : decode prog_1_method_16_code 17 = .ok (.iconst (-1), 1) := by decide +kernel
theorem d_S_condition_18 : decode prog_1_method_16_code 18 = .ok (.ireturn, 1) := by decide +kernel
theorem d_S_condition_19 : decode prog_1_method_16_code 19 = .ok (.aload_n 3, 1) := by decide +kernel
theorem d_S_condition_20 : decode prog_1_method_16_code 20 = .ok (.getfield 154, 3) := by decide +kernel
theorem d_S_condition_23 : decode prog_1_method_16_code 23 = .ok (.iload_n 2, 1) := by decide +kernel
theorem d_S_condition_24 : decode prog_1_method_16_code 24 = .ok (.aaload, 1) := by decide +kernel
theorem d_S_condition_25 : decode prog_1_method_16_code 25 = .ok (.getfield 158, 3) := by decide +kernel
theorem d_S_condition_28 : decode prog_1_method_16_code 28 = .ok (.ireturn, 1) := by decide +kernel
theorem d_S_value_0 : decode prog_1_method_17_code 0 = .ok (.aload_n 0, 1) := by decide +kernel
theorem d_S_value_1 : decode prog_1_method_17_code 1 = .ok (.iload_n 1, 1) := by decide +kernel
theorem d_S_value_2 : decode prog_1_method_17_code 2 = .ok (.iload_n 2, 1) := by decide +kernel
theorem d_S_value_3 : decode prog_1_method_17_code 3 = .ok (.invokevirtual 198, 3) := by decide +kernel
theorem d_S_value_6 : decode prog_1_method_17_code 6 = .ok (.astore_n 3, 1) := by decide +kernel
theorem d_S_value_7 : decode prog_1_method_17_code 7 = .ok (.aload_n 3, 1) := by decide +kernel
theorem d_S_value_8 : decode prog_1_method_17_code 8 = .ok (.ifnonnull 7, 3) := by decide +kernel
theorem d_S_value_11 : decode prog_1_method_17_code 11 = .ok (.iconst (-1), 1) := by decide +kernel
theorem d_S_value_12 : decode prog_1_method_17_code 12 = .ok (.goto 12, 3) := by decide +kernel
theorem d_S_value_15 : decode prog_1_method_17_code 15 = .ok (.aload_n 3, 1) := by decide +kernel
theorem d_S_value_16 : decode prog_1_method_17_code 16 = .ok (.getfield 202, 3) := by decide +kernel
theorem d_S_value_19 : decode prog_1_method_17_code 19 = .ok (.iload_n 2, 1) := by decide +kernel
theorem d_S_value_20 : decode prog_1_method_17_code 20 = .ok (.invokestatic 205, 3) := by decide +kernel
theorem d_S_value_23 : decode prog_1_method_17_code 23 = .ok (.iaload, 1) := by decide +kernel
theorem d_S_value_24 : decode prog_1_method_17_code 24 = .ok (.ireturn, 1) := by decide +kernel
theorem d_S_heldShard_0 : decode prog_1_method_34_code 0 = .ok (.aload_n 0, 1) := by decide +kernel
theorem d_S_heldShard_1 : decode prog_1_method_34_code 1 = .ok (.iload_n 1, 1) := by decide +kernel
theorem d_S_heldShard_2 : decode prog_1_method_34_code 2 = .ok (.invokevirtual 195, 3) := by decide +kernel
theorem d_S_heldShard_5 : decode prog_1_method_34_code 5 = .ok (.astore_n 3, 1) := by decide +kernel
theorem d_S_heldShard_6 : decode prog_1_method_34_code 6 = .ok (.aload_n 3, 1) := by decide +kernel
theorem d_S_heldShard_7 : decode prog_1_method_34_code 7 = .ok (.ifnull 10, 3) := by decide +kernel
theorem d_S_heldShard_10 : decode prog_1_method_34_code 10 = .ok (.iload_n 2, 1) := by decide +kernel
theorem d_S_heldShard_11 : decode prog_1_method_34_code 11 = .ok (.invokestatic 121, 3) := by decide +kernel
theorem d_S_heldShard_14 : decode prog_1_method_34_code 14 = .ok (.ifCond .ne 5, 3) := by decide +kernel
theorem d_S_heldShard_17 : decode prog_1_method_34_code 17 = .ok (.aconst_null, 1) := by decide +kernel
theorem d_S_heldShard_18 : decode prog_1_method_34_code 18 = .ok (.areturn, 1) := by decide +kernel
theorem d_S_heldShard_19 : decode prog_1_method_34_code 19 = .ok (.aload_n 3, 1) := by decide +kernel
theorem d_S_heldShard_20 : decode prog_1_method_34_code 20 = .ok (.getfield 154, 3) := by decide +kernel
theorem d_S_heldShard_23 : decode prog_1_method_34_code 23 = .ok (.iload_n 2, 1) := by decide +kernel
theorem d_S_heldShard_24 : decode prog_1_method_34_code 24 = .ok (.invokestatic 219, 3) := by decide +kernel
theorem d_S_heldShard_27 : decode prog_1_method_34_code 27 = .ok (.aaload, 1) := by decide +kernel
theorem d_S_heldShard_28 : decode prog_1_method_34_code 28 = .ok (.astore 4, 2) := by decide +kernel
theorem d_S_heldShard_30 : decode prog_1_method_34_code 30 = .ok (.aload 4, 2) := by decide +kernel
theorem d_S_heldShard_32 : decode prog_1_method_34_code 32 = .ok (.invokevirtual 222, 3) := by decide +kernel
theorem d_S_heldShard_35 : decode prog_1_method_34_code 35 = .ok (.ifCond .eq 8, 3) := by decide +kernel
theorem d_S_heldShard_38 : decode prog_1_method_34_code 38 = .ok (.aload 4, 2) := by decide +kernel
theorem d_S_heldShard_40 : decode prog_1_method_34_code 40 = .ok (.goto 4, 3) := by decide +kernel
theorem d_S_heldShard_43 : decode prog_1_method_34_code 43 = .ok (.aconst_null, 1) := by decide +kernel
theorem d_S_heldShard_44 : decode prog_1_method_34_code 44 = .ok (.areturn, 1) := by decide +kernel
end
section
theorem d_H_hasContents_0 : decode prog_11_method_2_code 0 = .ok (.aload_n 0, 1) := by decide +kernel
theorem d_H_hasContents_1 : decode prog_11_method_2_code 1 = .ok (.getfield 9, 3) := by decide +kernel
theorem d_H_hasContents_4 : decode prog_11_method_2_code 4 = .ok (.iconst 1, 1) := by decide +kernel
theorem d_H_hasContents_5 : decode prog_11_method_2_code 5 = .ok (.if_icmp .eq 11, 3) := by decide +kernel
theorem d_H_hasContents_8 : decode prog_11_method_2_code 8 = .ok (.aload_n 0, 1) := by decide +kernel
theorem d_H_hasContents_9 : decode prog_11_method_2_code 9 = .ok (.getfield 9, 3) := by decide +kernel
theorem d_H_hasContents_12 : decode prog_11_method_2_code 12 = .ok (.iconst 3, 1) := by decide +kernel
theorem d_H_hasContents_13 : decode prog_11_method_2_code 13 = .ok (.if_icmp .ne 7, 3) := by decide +kernel
theorem d_H_hasContents_16 : decode prog_11_method_2_code 16 = .ok (.iconst 1, 1) := by decide +kernel
theorem d_H_hasContents_17 : decode prog_11_method_2_code 17 = .ok (.goto 4, 3) := by decide +kernel
theorem d_H_hasContents_20 : decode prog_11_method_2_code 20 = .ok (.iconst 0, 1) := by decide +kernel
theorem d_H_hasContents_21 : decode prog_11_method_2_code 21 = .ok (.ireturn, 1) := by decide +kernel
theorem d_S_latest_0 : decode prog_1_method_18_code 0 = .ok (.aload_n 0, 1) := by decide +kernel
theorem d_S_latest_1 : decode prog_1_method_18_code 1 = .ok (.iload_n 1, 1) := by decide +kernel
theorem d_S_latest_2 : decode prog_1_method_18_code 2 = .ok (.iload_n 3, 1) := by decide +kernel
theorem d_S_latest_3 : decode prog_1_method_18_code 3 = .ok (.invokevirtual 198, 3) := by decide +kernel
theorem d_S_latest_6 : decode prog_1_method_18_code 6 = .ok (.astore 4, 2) := by decide +kernel
theorem d_S_latest_8 : decode prog_1_method_18_code 8 = .ok (.aload 4, 2) := by decide +kernel
theorem d_S_latest_10 : decode prog_1_method_18_code 10 = .ok (.ifnull 10, 3) := by decide +kernel
theorem d_S_latest_13 : decode prog_1_method_18_code 13 = .ok (.iload_n 2, 1) := by decide +kernel
theorem d_S_latest_14 : decode prog_1_method_18_code 14 = .ok (.invokestatic 117, 3) := by decide +kernel
theorem d_S_latest_17 : decode prog_1_method_18_code 17 = .ok (.ifCond .ne 7, 3) := by decide +kernel
theorem d_S_latest_20 : decode prog_1_method_18_code 20 = .ok (.iconst (-1), 1) := by decide +kernel
theorem d_S_latest_21 : decode prog_1_method_18_code 21 = .ok (.goto 10, 3) := by decide +kernel
theorem d_S_latest_24 : decode prog_1_method_18_code 24 = .ok (.aload 4, 2) := by decide +kernel
theorem d_S_latest_26 : decode prog_1_method_18_code 26 = .ok (.getfield 208, 3) := by decide +kernel
theorem d_S_latest_29 : decode prog_1_method_18_code 29 = .ok (.iload_n 2, 1) := by decide +kernel
theorem d_S_latest_30 : decode prog_1_method_18_code 30 = .ok (.iaload, 1) := by decide +kernel
theorem d_S_latest_31 : decode prog_1_method_18_code 31 = .ok (.ireturn, 1) := by decide +kernel
theorem d_S_answer_0 : decode prog_1_method_19_code 0 = .ok (.aload_n 0, 1) := by decide +kernel
theorem d_S_answer_1 : decode prog_1_method_19_code 1 = .ok (.iload_n 1, 1) := by decide +kernel
theorem d_S_answer_2 : decode prog_1_method_19_code 2 = .ok (.iload_n 3, 1) := by decide +kernel
theorem d_S_answer_3 : decode prog_1_method_19_code 3 = .ok (.invokevirtual 198, 3) := by decide +kernel
theorem d_S_answer_6 : decode prog_1_method_19_code 6 = .ok (.astore 4, 2) := by decide +kernel
theorem d_S_answer_8 : decode prog_1_method_19_code 8 = .ok (.aload 4, 2) := by decide +kernel
theorem d_S_answer_10 : decode prog_1_method_19_code 10 = .ok (.ifnull 10, 3) := by decide +kernel
theorem d_S_answer_13 : decode prog_1_method_19_code 13 = .ok (.iload_n 2, 1) := by decide +kernel
theorem d_S_answer_14 : decode prog_1_method_19_code 14 = .ok (.invokestatic 117, 3) := by decide +kernel
theorem d_S_answer_17 : decode prog_1_method_19_code 17 = .ok (.ifCond .ne 7, 3) := by decide +kernel
theorem d_S_answer_20 : decode prog_1_method_19_code 20 = .ok (.iconst (-1), 1) := by decide +kernel
theorem d_S_answer_21 : decode prog_1_method_19_code 21 = .ok (.goto 10, 3) := by decide +kernel
theorem d_S_answer_24 : decode prog_1_method_19_code 24 = .ok (.aload 4, 2) := by decide +kernel
theorem d_S_answer_26 : decode prog_1_method_19_code 26 = .ok (.getfield 211, 3) := by decide +kernel
theorem d_S_answer_29 : decode prog_1_method_19_code 29 = .ok (.iload_n 2, 1) := by decide +kernel
theorem d_S_answer_30 : decode prog_1_method_19_code 30 = .ok (.iaload, 1) := by decide +kernel
theorem d_S_answer_31 : decode prog_1_method_19_code 31 = .ok (.ireturn, 1) := by decide +kernel
theorem d_M_init_0 : decode prog_14_method_1_code 0 = .ok (.aload_n 0, 1) := by decide +kernel
theorem d_M_init_1 : decode prog_14_method_1_code 1 = .ok (.invokespecial 1, 3) := by decide +kernel
theorem d_M_init_4 : decode prog_14_method_1_code 4 = .ok (.aload_n 0, 1) := by decide +kernel
theorem d_M_init_5 : decode prog_14_method_1_code 5 = .ok (.bipush 12, 2) := by decide +kernel
theorem d_M_init_7 : decode prog_14_method_1_code 7 = .ok (.newarray .boolean, 2) := by decide +kernel
theorem d_M_init_9 : decode prog_14_method_1_code 9 = .ok (.putfield 7, 3) := by decide +kernel
theorem d_M_init_12 : decode prog_14_method_1_code 12 = .ok (.aload_n 0, 1) := by decide +kernel
theorem d_M_init_13 : decode prog_14_method_1_code 13 = .ok (.bipush 12, 2) := by decide +kernel
theorem d_M_init_15 : decode prog_14_method_1_code 15 = .ok (.newarray .boolean, 2) := by decide +kernel
theorem d_M_init_17 : decode prog_14_method_1_code 17 = .ok (.putfield 13, 3) := by decide +kernel
theorem d_M_init_20 : decode prog_14_method_1_code 20 = .ok (.aload_n 0, 1) := by decide +kernel
theorem d_M_init_21 : decode prog_14_method_1_code 21 = .ok (.bipush 12, 2) := by decide +kernel
theorem d_M_init_23 : decode prog_14_method_1_code 23 = .ok (.newarray .int, 2) := by decide +kernel
theorem d_M_init_25 : decode prog_14_method_1_code 25 = .ok (.putfield 16, 3) := by decide +kernel
theorem d_M_init_28 : decode prog_14_method_1_code 28 = .ok (.aload_n 0, 1) := by decide +kernel
theorem d_M_init_29 : decode prog_14_method_1_code 29 = .ok (.bipush 12, 2) := by decide +kernel
theorem d_M_init_31 : decode prog_14_method_1_code 31 = .ok (.newarray .int, 2) := by decide +kernel
theorem d_M_init_33 : decode prog_14_method_1_code 33 = .ok (.putfield 20, 3) := by decide +kernel
theorem d_M_init_36 : decode prog_14_method_1_code 36 = .ok (.aload_n 0, 1) := by decide +kernel
theorem d_M_init_37 : decode prog_14_method_1_code 37 = .ok (.bipush 12, 2) := by decide +kernel
theorem d_M_init_39 : decode prog_14_method_1_code 39 = .ok (.newarray .int, 2) := by decide +kernel
theorem d_M_init_41 : decode prog_14_method_1_code 41 = .ok (.putfield 23, 3) := by decide +kernel
theorem d_M_init_44 : decode prog_14_method_1_code 44 = .ok (.aload_n 0, 1) := by decide +kernel
theorem d_M_init_45 : decode prog_14_method_1_code 45 = .ok (.sipush 14400, 3) := by decide +kernel
theorem d_M_init_48 : decode prog_14_method_1_code 48 = .ok (.newarray .int, 2) := by decide +kernel
theorem d_M_init_50 : decode prog_14_method_1_code 50 = .ok (.putfield 26, 3) := by decide +kernel
theorem d_M_init_53 : decode prog_14_method_1_code 53 = .ok (.aload_n 0, 1) := by decide +kernel
theorem d_M_init_54 : decode prog_14_method_1_code 54 = .ok (.bipush 15, 2) := by decide +kernel
theorem d_M_init_56 : decode prog_14_method_1_code 56 = .ok (.newarray .int, 2) := by decide +kernel
theorem d_M_init_58 : decode prog_14_method_1_code 58 = .ok (.putfield 29, 3) := by decide +kernel
theorem d_M_init_61 : decode prog_14_method_1_code 61 = .ok (.aload_n 0, 1) := by decide +kernel
theorem d_M_init_62 : decode prog_14_method_1_code 62 = .ok (.bipush 16, 2) := by decide +kernel
theorem d_M_init_64 : decode prog_14_method_1_code 64 = .ok (.newarray .int, 2) := by decide +kernel
theorem d_M_init_66 : decode prog_14_method_1_code 66 = .ok (.putfield 32, 3) := by decide +kernel
theorem d_M_init_69 : decode prog_14_method_1_code 69 = .ok (.aload_n 0, 1) := by decide +kernel
theorem d_M_init_70 : decode prog_14_method_1_code 70 = .ok (.sipush 128, 3) := by decide +kernel
theorem d_M_init_73 : decode prog_14_method_1_code 73 = .ok (.newarray .int, 2) := by decide +kernel
theorem d_M_init_75 : decode prog_14_method_1_code 75 = .ok (.putfield 35, 3) := by decide +kernel
theorem d_M_init_78 : decode prog_14_method_1_code 78 = .ok (.aload_n 0, 1) := by decide +kernel
theorem d_M_init_79 : decode prog_14_method_1_code 79 = .ok (.bipush 8, 2) := by decide +kernel
theorem d_M_init_81 : decode prog_14_method_1_code 81 = .ok (.newarray .int, 2) := by decide +kernel
theorem d_M_init_83 : decode prog_14_method_1_code 83 = .ok (.putfield 38, 3) := by decide +kernel
theorem d_M_init_86 : decode prog_14_method_1_code 86 = .ok (.aload_n 0, 1) := by decide +kernel
theorem d_M_init_87 : decode prog_14_method_1_code 87 = .ok (.bipush 8, 2) := by decide +kernel
theorem d_M_init_89 : decode prog_14_method_1_code 89 = .ok (.newarray .int, 2) := by decide +kernel
theorem d_M_init_91 : decode prog_14_method_1_code 91 = .ok (.putfield 41, 3) := by decide +kernel
theorem d_M_init_94 : decode prog_14_method_1_code 94 = .ok (.aload_n 0, 1) := by decide +kernel
theorem d_M_init_95 : decode prog_14_method_1_code 95 = .ok (.bipush 64, 2) := by decide +kernel
theorem d_M_init_97 : decode prog_14_method_1_code 97 = .ok (.newarray .int, 2) := by decide +kernel
theorem d_M_init_99 : decode prog_14_method_1_code 99 = .ok (.putfield 44, 3) := by decide +kernel
theorem d_M_init_102 : decode prog_14_method_1_code 102 = .ok (.return_, 1) := by decide +kernel
theorem d_M_crash_0 : decode prog_14_method_5_code 0 = .ok (.iload_n 1, 1) := by decide +kernel
theorem d_M_crash_1 : decode prog_14_method_5_code 1 = .ok (.bipush 12, 2) := by decide +kernel
theorem d_M_crash_3 : decode prog_14_method_5_code 3 = .ok (.invokestatic 47, 3) := by decide +kernel
theorem d_M_crash_6 : decode prog_14_method_5_code 6 = .ok (.ifCond .eq 12, 3) := by decide +kernel
theorem d_M_crash_9 : decode prog_14_method_5_code 9 = .ok (.aload_n 0, 1) := by decide +kernel
theorem d_M_crash_10 : decode prog_14_method_5_code 10 = .ok (.getfield 7, 3) := by decide +kernel
theorem d_M_crash_13 : decode prog_14_method_5_code 13 = .ok (.iload_n 1, 1) := by decide +kernel
theorem d_M_crash_14 : decode prog_14_method_5_code 14 = .ok (.baload, 1) := by decide +kernel
theorem d_M_crash_15 : decode prog_14_method_5_code 15 = .ok (.ifCond .eq 5, 3) := by decide +kernel
theorem d_M_crash_18 : decode prog_14_method_5_code 18 = .ok (.iconst 0, 1) := by decide +kernel
theorem d_M_crash_19 : decode prog_14_method_5_code 19 = .ok (.ireturn, 1) := by decide +kernel
theorem d_M_crash_20 : decode prog_14_method_5_code 20 = .ok (.aload_n 0, 1) := by decide +kernel
theorem d_M_crash_21 : decode prog_14_method_5_code 21 = .ok (.getfield 7, 3) := by decide +kernel
theorem d_M_crash_24 : decode prog_14_method_5_code 24 = .ok (.iload_n 1, 1) := by decide +kernel
theorem d_M_crash_25 : decode prog_14_method_5_code 25 = .ok (.iconst 1, 1) := by decide +kernel
theorem d_M_crash_26 : decode prog_14_method_5_code 26 = .ok (.bastore, 1) := by decide +kernel
theorem d_M_crash_27 : decode prog_14_method_5_code 27 = .ok (.aload_n 0, 1) := by decide +kernel
theorem d_M_crash_28 : decode prog_14_method_5_code 28 = .ok (.getfield 13, 3) := by decide +kernel
theorem d_M_crash_31 : decode prog_14_method_5_code 31 = .ok (.iload_n 1, 1) := by decide +kernel
theorem d_M_crash_32 : decode prog_14_method_5_code 32 = .ok (.iconst 0, 1) := by decide +kernel
theorem d_M_crash_33 : decode prog_14_method_5_code 33 = .ok (.bastore, 1) := by decide +kernel
theorem d_M_crash_34 : decode prog_14_method_5_code 34 = .ok (.iconst 1, 1) := by decide +kernel
theorem d_M_crash_35 : decode prog_14_method_5_code 35 = .ok (.ireturn, 1) := by decide +kernel
theorem d_M_below_0 : decode prog_14_method_2_code 0 = .ok (.iload_n 0, 1) := by decide +kernel
theorem d_M_below_1 : decode prog_14_method_2_code 1 = .ok (.ifCond .lt 12, 3) := by decide +kernel
theorem d_M_below_4 : decode prog_14_method_2_code 4 = .ok (.iload_n 0, 1) := by decide +kernel
theorem d_M_below_5 : decode prog_14_method_2_code 5 = .ok (.iload_n 1, 1) := by decide +kernel
theorem d_M_below_6 : decode prog_14_method_2_code 6 = .ok (.if_icmp .ge 7, 3) := by decide +kernel
theorem d_M_below_9 : decode prog_14_method_2_code 9 = .ok (.iconst 1, 1) := by decide +kernel
theorem d_M_below_10 : decode prog_14_method_2_code 10 = .ok (.goto 4, 3) := by decide +kernel
theorem d_M_below_13 : decode prog_14_method_2_code 13 = .ok (.iconst 0, 1) := by decide +kernel
theorem d_M_below_14 : decode prog_14_method_2_code 14 = .ok (.ireturn, 1) := by decide +kernel
theorem d_M_recover_0 : decode prog_14_method_6_code 0 = .ok (.iload_n 1, 1) := by decide +kernel
theorem d_M_recover_1 : decode prog_14_method_6_code 1 = .ok (.bipush 12, 2) := by decide +kernel
theorem d_M_recover_3 : decode prog_14_method_6_code 3 = .ok (.invokestatic 47, 3) := by decide +kernel
theorem d_M_recover_6 : decode prog_14_method_6_code 6 = .ok (.ifCond .eq 12, 3) := by decide +kernel
theorem d_M_recover_9 : decode prog_14_method_6_code 9 = .ok (.aload_n 0, 1) := by decide +kernel
theorem d_M_recover_10 : decode prog_14_method_6_code 10 = .ok (.getfield 7, 3) := by decide +kernel
theorem d_M_recover_13 : decode prog_14_method_6_code 13 = .ok (.iload_n 1, 1) := by decide +kernel
theorem d_M_recover_14 : decode prog_14_method_6_code 14 = .ok (.baload, 1) := by decide +kernel
theorem d_M_recover_15 : decode prog_14_method_6_code 15 = .ok (.ifCond .ne 5, 3) := by decide +kernel
theorem d_M_recover_18 : decode prog_14_method_6_code 18 = .ok (.iconst 0, 1) := by decide +kernel
theorem d_M_recover_19 : decode prog_14_method_6_code 19 = .ok (.ireturn, 1) := by decide +kernel
theorem d_M_recover_20 : decode prog_14_method_6_code 20 = .ok (.aload_n 0, 1) := by decide +kernel
theorem d_M_recover_21 : decode prog_14_method_6_code 21 = .ok (.getfield 7, 3) := by decide +kernel
theorem d_M_recover_24 : decode prog_14_method_6_code 24 = .ok (.iload_n 1, 1) := by decide +kernel
theorem d_M_recover_25 : decode prog_14_method_6_code 25 = .ok (.iconst 0, 1) := by decide +kernel
theorem d_M_recover_26 : decode prog_14_method_6_code 26 = .ok (.bastore, 1) := by decide +kernel
theorem d_M_recover_27 : decode prog_14_method_6_code 27 = .ok (.iconst 1, 1) := by decide +kernel
theorem d_M_recover_28 : decode prog_14_method_6_code 28 = .ok (.ireturn, 1) := by decide +kernel
theorem d_M_elect_0 : decode prog_14_method_13_code 0 = .ok (.iload_n 1, 1) := by decide +kernel
theorem d_M_elect_1 : decode prog_14_method_13_code 1 = .ok (.bipush 12, 2) := by decide +kernel
theorem d_M_elect_3 : decode prog_14_method_13_code 3 = .ok (.invokestatic 47, 3) := by decide +kernel
theorem d_M_elect_6 : decode prog_14_method_13_code 6 = .ok (.ifCond .eq 12, 3) := by decide +kernel
theorem d_M_elect_9 : decode prog_14_method_13_code 9 = .ok (.aload_n 0, 1) := by decide +kernel
theorem d_M_elect_10 : decode prog_14_method_13_code 10 = .ok (.getfield 7, 3) := by decide +kernel
theorem d_M_elect_13 : decode prog_14_method_13_code 13 = .ok (.iload_n 1, 1) := by decide +kernel
theorem d_M_elect_14 : decode prog_14_method_13_code 14 = .ok (.baload, 1) := by decide +kernel
theorem d_M_elect_15 : decode prog_14_method_13_code 15 = .ok (.ifCond .eq 5, 3) := by decide +kernel
theorem d_M_elect_18 : decode prog_14_method_13_code 18 = .ok (.iconst (-1), 1) := by decide +kernel
theorem d_M_elect_19 : decode prog_14_method_13_code 19 = .ok (.ireturn, 1) := by decide +kernel
theorem d_M_elect_20 : decode prog_14_method_13_code 20 = .ok (.aload_n 0, 1) := by decide +kernel
theorem d_M_elect_21 : decode prog_14_method_13_code 21 = .ok (.getfield 16, 3) := by decide +kernel
theorem d_M_elect_24 : decode prog_14_method_13_code 24 = .ok (.iload_n 1, 1) := by decide +kernel
theorem d_M_elect_25 : decode prog_14_method_13_code 25 = .ok (.iaload, 1) := by decide +kernel
theorem d_M_elect_26 : decode prog_14_method_13_code 26 = .ok (.iconst 1, 1) := by decide +kernel
theorem d_M_elect_27 : decode prog_14_method_13_code 27 = .ok (.iadd, 1) := by decide +kernel
theorem d_M_elect_28 : decode prog_14_method_13_code 28 = .ok (.istore_n 2, 1) := by decide +kernel
theorem d_M_elect_29 : decode prog_14_method_13_code 29 = .ok (.iload_n 2, 1) := by decide +kernel
theorem d_M_elect_30 : decode prog_14_method_13_code 30 = .ok (.iconst 3, 1) := by decide +kernel
theorem d_M_elect_31 : decode prog_14_method_13_code 31 = .ok (.irem, 1) := by decide +kernel
theorem d_M_elect_32 : decode prog_14_method_13_code 32 = .ok (.iload_n 1, 1) := by decide +kernel
theorem d_M_elect_33 : decode prog_14_method_13_code 33 = .ok (.iconst 3, 1) := by decide +kernel
theorem d_M_elect_34 : decode prog_14_method_13_code 34 = .ok (.irem, 1) := by decide +kernel
theorem d_M_elect_35 : decode prog_14_method_13_code 35 = .ok (.if_icmp .eq 9, 3) := by decide +kernel
theorem d_M_elect_38 : decode prog_14_method_13_code 38 = .ok (.iinc 2 1, 3) := by decide +kernel
theorem d_M_elect_41 : decode prog_14_method_13_code 41 = .ok (.goto (-12), 3) := by decide +kernel
theorem d_M_elect_44 : decode prog_14_method_13_code 44 = .ok (.iconst 0, 1) := by decide +kernel
theorem d_M_elect_45 : decode prog_14_method_13_code 45 = .ok (.istore_n 3, 1) := by decide +kernel
theorem d_M_elect_46 : decode prog_14_method_13_code 46 = .ok (.iload_n 1, 1) := by decide +kernel
theorem d_M_elect_47 : decode prog_14_method_13_code 47 = .ok (.iconst 3, 1) := by decide +kernel
theorem d_M_elect_48 : decode prog_14_method_13_code 48 = .ok (.idiv, 1) := by decide +kernel
theorem d_M_elect_49 : decode prog_14_method_13_code 49 = .ok (.iconst 3, 1) := by decide +kernel
theorem d_M_elect_50 : decode prog_14_method_13_code 50 = .ok (.imul, 1) := by decide +kernel
theorem d_M_elect_51 : decode prog_14_method_13_code 51 = .ok (.istore 4, 2) := by decide +kernel
theorem d_M_elect_53 : decode prog_14_method_13_code 53 = .ok (.iload 4, 2) := by decide +kernel
theorem d_M_elect_55 : decode prog_14_method_13_code 55 = .ok (.iload_n 1, 1) := by decide +kernel
theorem d_M_elect_56 : decode prog_14_method_13_code 56 = .ok (.iconst 3, 1) := by decide +kernel
theorem d_M_elect_57 : decode prog_14_method_13_code 57 = .ok (.idiv, 1) := by decide +kernel
theorem d_M_elect_58 : decode prog_14_method_13_code 58 = .ok (.iconst 3, 1) := by decide +kernel
theorem d_M_elect_59 : decode prog_14_method_13_code 59 = .ok (.imul, 1) := by decide +kernel
theorem d_M_elect_60 : decode prog_14_method_13_code 60 = .ok (.iconst 3, 1) := by decide +kernel
theorem d_M_elect_61 : decode prog_14_method_13_code 61 = .ok (.iadd, 1) := by decide +kernel
theorem d_M_elect_62 : decode prog_14_method_13_code 62 = .ok (.if_icmp .ge 96, 3) := by decide +kernel
theorem d_M_elect_65 : decode prog_14_method_13_code 65 = .ok (.aload_n 0, 1) := by decide +kernel
theorem d_M_elect_66 : decode prog_14_method_13_code 66 = .ok (.iload_n 1, 1) := by decide +kernel
theorem d_M_elect_67 : decode prog_14_method_13_code 67 = .ok (.invokevirtual 58, 3) := by decide +kernel
theorem d_M_elect_70 : decode prog_14_method_13_code 70 = .ok (.aload_n 0, 1) := by decide +kernel
theorem d_M_elect_71 : decode prog_14_method_13_code 71 = .ok (.iload 4, 2) := by decide +kernel
theorem d_M_elect_73 : decode prog_14_method_13_code 73 = .ok (.invokevirtual 58, 3) := by decide +kernel
theorem d_M_elect_76 : decode prog_14_method_13_code 76 = .ok (.if_icmp .lt 33, 3) := by decide +kernel
theorem d_M_elect_79 : decode prog_14_method_13_code 79 = .ok (.aload_n 0, 1) := by decide +kernel
theorem d_M_elect_80 : decode prog_14_method_13_code 80 = .ok (.iload_n 1, 1) := by decide +kernel
theorem d_M_elect_81 : decode prog_14_method_13_code 81 = .ok (.invokevirtual 58, 3) := by decide +kernel
theorem d_M_elect_84 : decode prog_14_method_13_code 84 = .ok (.aload_n 0, 1) := by decide +kernel
theorem d_M_elect_85 : decode prog_14_method_13_code 85 = .ok (.iload 4, 2) := by decide +kernel
theorem d_M_elect_87 : decode prog_14_method_13_code 87 = .ok (.invokevirtual 58, 3) := by decide +kernel
theorem d_M_elect_90 : decode prog_14_method_13_code 90 = .ok (.if_icmp .ne 23, 3) := by decide +kernel
theorem d_M_elect_93 : decode prog_14_method_13_code 93 = .ok (.aload_n 0, 1) := by decide +kernel
theorem d_M_elect_94 : decode prog_14_method_13_code 94 = .ok (.getfield 20, 3) := by decide +kernel
theorem d_M_elect_97 : decode prog_14_method_13_code 97 = .ok (.iload_n 1, 1) := by decide +kernel
theorem d_M_elect_98 : decode prog_14_method_13_code 98 = .ok (.iaload, 1) := by decide +kernel
theorem d_M_elect_99 : decode prog_14_method_13_code 99 = .ok (.aload_n 0, 1) := by decide +kernel
theorem d_M_elect_100 : decode prog_14_method_13_code 100 = .ok (.getfield 20, 3) := by decide +kernel
theorem d_M_elect_103 : decode prog_14_method_13_code 103 = .ok (.iload 4, 2) := by decide +kernel
theorem d_M_elect_105 : decode prog_14_method_13_code 105 = .ok (.iaload, 1) := by decide +kernel
theorem d_M_elect_106 : decode prog_14_method_13_code 106 = .ok (.if_icmp .ge 7, 3) := by decide +kernel
theorem d_M_elect_109 : decode prog_14_method_13_code 109 = .ok (.iconst 1, 1) := by decide +kernel
theorem d_M_elect_110 : decode prog_14_method_13_code 110 = .ok (.goto 4, 3) := by decide +kernel
theorem d_M_elect_113 : decode prog_14_method_13_code 113 = .ok (.iconst 0, 1) := by decide +kernel
theorem d_M_elect_114 : decode prog_14_method_13_code 114 = .ok (.istore 5, 2) := by decide +kernel
theorem d_M_elect_116 : decode prog_14_method_13_code 116 = .ok (.aload_n 0, 1) := by decide +kernel
theorem d_M_elect_117 : decode prog_14_method_13_code 117 = .ok (.getfield 7, 3) := by decide +kernel
theorem d_M_elect_120 : decode prog_14_method_13_code 120 = .ok (.iload 4, 2) := by decide +kernel
theorem d_M_elect_122 : decode prog_14_method_13_code 122 = .ok (.baload, 1) := by decide +kernel
theorem d_M_elect_123 : decode prog_14_method_13_code 123 = .ok (.ifCond .ne 29, 3) := by decide +kernel
theorem d_M_elect_126 : decode prog_14_method_13_code 126 = .ok (.aload_n 0, 1) := by decide +kernel
theorem d_M_elect_127 : decode prog_14_method_13_code 127 = .ok (.getfield 16, 3) := by decide +kernel
theorem d_M_elect_130 : decode prog_14_method_13_code 130 = .ok (.iload 4, 2) := by decide +kernel
theorem d_M_elect_132 : decode prog_14_method_13_code 132 = .ok (.iaload, 1) := by decide +kernel
theorem d_M_elect_133 : decode prog_14_method_13_code 133 = .ok (.iload_n 2, 1) := by decide +kernel
theorem d_M_elect_134 : decode prog_14_method_13_code 134 = .ok (.if_icmp .ge 18, 3) := by decide +kernel
theorem d_M_elect_137 : decode prog_14_method_13_code 137 = .ok (.iload 5, 2) := by decide +kernel
theorem d_M_elect_139 : decode prog_14_method_13_code 139 = .ok (.ifCond .ne 13, 3) := by decide +kernel
theorem d_M_elect_142 : decode prog_14_method_13_code 142 = .ok (.aload_n 0, 1) := by decide +kernel
theorem d_M_elect_143 : decode prog_14_method_13_code 143 = .ok (.iload 4, 2) := by decide +kernel
theorem d_M_elect_145 : decode prog_14_method_13_code 145 = .ok (.iload_n 2, 1) := by decide +kernel
theorem d_M_elect_146 : decode prog_14_method_13_code 146 = .ok (.invokevirtual 62, 3) := by decide +kernel
theorem d_M_elect_149 : decode prog_14_method_13_code 149 = .ok (.iinc 3 1, 3) := by decide +kernel
theorem d_M_elect_152 : decode prog_14_method_13_code 152 = .ok (.iinc 4 1, 3) := by decide +kernel
theorem d_M_elect_155 : decode prog_14_method_13_code 155 = .ok (.goto (-102), 3) := by decide +kernel
theorem d_M_elect_158 : decode prog_14_method_13_code 158 = .ok (.iload_n 3, 1) := by decide +kernel
theorem d_M_elect_159 : decode prog_14_method_13_code 159 = .ok (.iconst 2, 1) := by decide +kernel
theorem d_M_elect_160 : decode prog_14_method_13_code 160 = .ok (.if_icmp .ge 5, 3) := by decide +kernel
theorem d_M_elect_163 : decode prog_14_method_13_code 163 = .ok (.iconst 0, 1) := by decide +kernel
theorem d_M_elect_164 : decode prog_14_method_13_code 164 = .ok (.ireturn, 1) := by decide +kernel
theorem d_M_elect_165 : decode prog_14_method_13_code 165 = .ok (.aload_n 0, 1) := by decide +kernel
theorem d_M_elect_166 : decode prog_14_method_13_code 166 = .ok (.getfield 13, 3) := by decide +kernel
theorem d_M_elect_169 : decode prog_14_method_13_code 169 = .ok (.iload_n 1, 1) := by decide +kernel
theorem d_M_elect_170 : decode prog_14_method_13_code 170 = .ok (.iconst 1, 1) := by decide +kernel
theorem d_M_elect_171 : decode prog_14_method_13_code 171 = .ok (.bastore, 1) := by decide +kernel
theorem d_M_elect_172 : decode prog_14_method_13_code 172 = .ok (.aload_n 0, 1) := by decide +kernel
theorem d_M_elect_173 : decode prog_14_method_13_code 173 = .ok (.iconst 0, 1) := by decide +kernel
end
section
theorem d_M_elect_174 : decode prog_14_method_13_code 174 = .ok (.iconst 0, 1) := by decide +kernel
theorem d_M_elect_175 : decode prog_14_method_13_code 175 = .ok (.iconst 0, 1) := by decide +kernel
theorem d_M_elect_176 : decode prog_14_method_13_code 176 = .ok (.iconst 0, 1) := by decide +kernel
theorem d_M_elect_177 : decode prog_14_method_13_code 177 = .ok (.iconst 0, 1) := by decide +kernel
theorem d_M_elect_178 : decode prog_14_method_13_code 178 = .ok (.iconst 0, 1) := by decide +kernel
theorem d_M_elect_179 : decode prog_14_method_13_code 179 = .ok (.invokevirtual 66, 3) := by decide +kernel
theorem d_M_elect_182 : decode prog_14_method_13_code 182 = .ok (.aload_n 0, 1) := by decide +kernel
theorem d_M_elect_183 : decode prog_14_method_13_code 183 = .ok (.iload_n 1, 1) := by decide +kernel
theorem d_M_elect_184 : decode prog_14_method_13_code 184 = .ok (.invokevirtual 70, 3) := by decide +kernel
theorem d_M_elect_187 : decode prog_14_method_13_code 187 = .ok (.pop, 1) := by decide +kernel
theorem d_M_elect_188 : decode prog_14_method_13_code 188 = .ok (.iload_n 2, 1) := by decide +kernel
theorem d_M_elect_189 : decode prog_14_method_13_code 189 = .ok (.ireturn, 1) := by decide +kernel
theorem d_M_lastTerm_0 : decode prog_14_method_9_code 0 = .ok (.aload_n 0, 1) := by decide +kernel
theorem d_M_lastTerm_1 : decode prog_14_method_9_code 1 = .ok (.getfield 20, 3) := by decide +kernel
theorem d_M_lastTerm_4 : decode prog_14_method_9_code 4 = .ok (.iload_n 1, 1) := by decide +kernel
theorem d_M_lastTerm_5 : decode prog_14_method_9_code 5 = .ok (.iaload, 1) := by decide +kernel
theorem d_M_lastTerm_6 : decode prog_14_method_9_code 6 = .ok (.ifCond .ne 7, 3) := by decide +kernel
theorem d_M_lastTerm_9 : decode prog_14_method_9_code 9 = .ok (.iconst 0, 1) := by decide +kernel
theorem d_M_lastTerm_10 : decode prog_14_method_9_code 10 = .ok (.goto 16, 3) := by decide +kernel
theorem d_M_lastTerm_13 : decode prog_14_method_9_code 13 = .ok (.aload_n 0, 1) := by decide +kernel
theorem d_M_lastTerm_14 : decode prog_14_method_9_code 14 = .ok (.iload_n 1, 1) := by decide +kernel
theorem d_M_lastTerm_15 : decode prog_14_method_9_code 15 = .ok (.aload_n 0, 1) := by decide +kernel
theorem d_M_lastTerm_16 : decode prog_14_method_9_code 16 = .ok (.getfield 20, 3) := by decide +kernel
theorem d_M_lastTerm_19 : decode prog_14_method_9_code 19 = .ok (.iload_n 1, 1) := by decide +kernel
theorem d_M_lastTerm_20 : decode prog_14_method_9_code 20 = .ok (.iaload, 1) := by decide +kernel
theorem d_M_lastTerm_21 : decode prog_14_method_9_code 21 = .ok (.iconst 1, 1) := by decide +kernel
theorem d_M_lastTerm_22 : decode prog_14_method_9_code 22 = .ok (.isub, 1) := by decide +kernel
theorem d_M_lastTerm_23 : decode prog_14_method_9_code 23 = .ok (.invokevirtual 55, 3) := by decide +kernel
theorem d_M_lastTerm_26 : decode prog_14_method_9_code 26 = .ok (.ireturn, 1) := by decide +kernel
theorem d_M_termAt_0 : decode prog_14_method_8_code 0 = .ok (.aload_n 0, 1) := by decide +kernel
theorem d_M_termAt_1 : decode prog_14_method_8_code 1 = .ok (.getfield 26, 3) := by decide +kernel
theorem d_M_termAt_4 : decode prog_14_method_8_code 4 = .ok (.iload_n 1, 1) := by decide +kernel
theorem d_M_termAt_5 : decode prog_14_method_8_code 5 = .ok (.iload_n 2, 1) := by decide +kernel
theorem d_M_termAt_6 : decode prog_14_method_8_code 6 = .ok (.invokestatic 51, 3) := by decide +kernel
theorem d_M_termAt_9 : decode prog_14_method_8_code 9 = .ok (.iaload, 1) := by decide +kernel
theorem d_M_termAt_10 : decode prog_14_method_8_code 10 = .ok (.ireturn, 1) := by decide +kernel
theorem d_M_place_0 : decode prog_14_method_7_code 0 = .ok (.bipush 15, 2) := by decide +kernel
theorem d_M_place_2 : decode prog_14_method_7_code 2 = .ok (.bipush 80, 2) := by decide +kernel
theorem d_M_place_4 : decode prog_14_method_7_code 4 = .ok (.iload_n 0, 1) := by decide +kernel
theorem d_M_place_5 : decode prog_14_method_7_code 5 = .ok (.imul, 1) := by decide +kernel
theorem d_M_place_6 : decode prog_14_method_7_code 6 = .ok (.iload_n 1, 1) := by decide +kernel
theorem d_M_place_7 : decode prog_14_method_7_code 7 = .ok (.iadd, 1) := by decide +kernel
theorem d_M_place_8 : decode prog_14_method_7_code 8 = .ok (.imul, 1) := by decide +kernel
theorem d_M_place_9 : decode prog_14_method_7_code 9 = .ok (.ireturn, 1) := by decide +kernel
theorem d_M_raise_0 : decode prog_14_method_10_code 0 = .ok (.aload_n 0, 1) := by decide +kernel
theorem d_M_raise_1 : decode prog_14_method_10_code 1 = .ok (.getfield 13, 3) := by decide +kernel
theorem d_M_raise_4 : decode prog_14_method_10_code 4 = .ok (.iload_n 1, 1) := by decide +kernel
theorem d_M_raise_5 : decode prog_14_method_10_code 5 = .ok (.aload_n 0, 1) := by decide +kernel
theorem d_M_raise_6 : decode prog_14_method_10_code 6 = .ok (.getfield 13, 3) := by decide +kernel
theorem d_M_raise_9 : decode prog_14_method_10_code 9 = .ok (.iload_n 1, 1) := by decide +kernel
theorem d_M_raise_10 : decode prog_14_method_10_code 10 = .ok (.baload, 1) := by decide +kernel
theorem d_M_raise_11 : decode prog_14_method_10_code 11 = .ok (.ifCond .eq 17, 3) := by decide +kernel
theorem d_M_raise_14 : decode prog_14_method_10_code 14 = .ok (.aload_n 0, 1) := by decide +kernel
theorem d_M_raise_15 : decode prog_14_method_10_code 15 = .ok (.getfield 16, 3) := by decide +kernel
theorem d_M_raise_18 : decode prog_14_method_10_code 18 = .ok (.iload_n 1, 1) := by decide +kernel
theorem d_M_raise_19 : decode prog_14_method_10_code 19 = .ok (.iaload, 1) := by decide +kernel
theorem d_M_raise_20 : decode prog_14_method_10_code 20 = .ok (.iload_n 2, 1) := by decide +kernel
theorem d_M_raise_21 : decode prog_14_method_10_code 21 = .ok (.if_icmp .ne 7, 3) := by decide +kernel
theorem d_M_raise_24 : decode prog_14_method_10_code 24 = .ok (.iconst 1, 1) := by decide +kernel
theorem d_M_raise_25 : decode prog_14_method_10_code 25 = .ok (.goto 4, 3) := by decide +kernel
theorem d_M_raise_28 : decode prog_14_method_10_code 28 = .ok (.iconst 0, 1) := by decide +kernel
theorem d_M_raise_29 : decode prog_14_method_10_code 29 = .ok (.bastore, 1) := by decide +kernel
theorem d_M_raise_30 : decode prog_14_method_10_code 30 = .ok (.aload_n 0, 1) := by decide +kernel
theorem d_M_raise_31 : decode prog_14_method_10_code 31 = .ok (.getfield 16, 3) := by decide +kernel
theorem d_M_raise_34 : decode prog_14_method_10_code 34 = .ok (.iload_n 1, 1) := by decide +kernel
theorem d_M_raise_35 : decode prog_14_method_10_code 35 = .ok (.iload_n 2, 1) := by decide +kernel
theorem d_M_raise_36 : decode prog_14_method_10_code 36 = .ok (.iastore, 1) := by decide +kernel
theorem d_M_raise_37 : decode prog_14_method_10_code 37 = .ok (.return_, 1) := by decide +kernel
theorem d_M_say_0 : decode prog_14_method_11_code 0 = .ok (.iconst 0, 1) := by decide +kernel
theorem d_M_say_1 : decode prog_14_method_11_code 1 = .ok (.istore 7, 2) := by decide +kernel
theorem d_M_say_3 : decode prog_14_method_11_code 3 = .ok (.iload 7, 2) := by decide +kernel
theorem d_M_say_5 : decode prog_14_method_11_code 5 = .ok (.bipush 15, 2) := by decide +kernel
theorem d_M_say_7 : decode prog_14_method_11_code 7 = .ok (.if_icmp .ge 17, 3) := by decide +kernel
theorem d_M_say_10 : decode prog_14_method_11_code 10 = .ok (.aload_n 0, 1) := by decide +kernel
theorem d_M_say_11 : decode prog_14_method_11_code 11 = .ok (.getfield 29, 3) := by decide +kernel
theorem d_M_say_14 : decode prog_14_method_11_code 14 = .ok (.iload 7, 2) := by decide +kernel
theorem d_M_say_16 : decode prog_14_method_11_code 16 = .ok (.iconst 0, 1) := by decide +kernel
theorem d_M_say_17 : decode prog_14_method_11_code 17 = .ok (.iastore, 1) := by decide +kernel
theorem d_M_say_18 : decode prog_14_method_11_code 18 = .ok (.iinc 7 1, 3) := by decide +kernel
theorem d_M_say_21 : decode prog_14_method_11_code 21 = .ok (.goto (-18), 3) := by decide +kernel
theorem d_M_say_24 : decode prog_14_method_11_code 24 = .ok (.aload_n 0, 1) := by decide +kernel
theorem d_M_say_25 : decode prog_14_method_11_code 25 = .ok (.getfield 29, 3) := by decide +kernel
theorem d_M_say_28 : decode prog_14_method_11_code 28 = .ok (.iconst 1, 1) := by decide +kernel
theorem d_M_say_29 : decode prog_14_method_11_code 29 = .ok (.iload_n 1, 1) := by decide +kernel
theorem d_M_say_30 : decode prog_14_method_11_code 30 = .ok (.iastore, 1) := by decide +kernel
theorem d_M_say_31 : decode prog_14_method_11_code 31 = .ok (.aload_n 0, 1) := by decide +kernel
theorem d_M_say_32 : decode prog_14_method_11_code 32 = .ok (.getfield 29, 3) := by decide +kernel
theorem d_M_say_35 : decode prog_14_method_11_code 35 = .ok (.iconst 2, 1) := by decide +kernel
theorem d_M_say_36 : decode prog_14_method_11_code 36 = .ok (.iload_n 2, 1) := by decide +kernel
theorem d_M_say_37 : decode prog_14_method_11_code 37 = .ok (.iastore, 1) := by decide +kernel
theorem d_M_say_38 : decode prog_14_method_11_code 38 = .ok (.aload_n 0, 1) := by decide +kernel
theorem d_M_say_39 : decode prog_14_method_11_code 39 = .ok (.getfield 29, 3) := by decide +kernel
theorem d_M_say_42 : decode prog_14_method_11_code 42 = .ok (.iconst 3, 1) := by decide +kernel
theorem d_M_say_43 : decode prog_14_method_11_code 43 = .ok (.iload_n 3, 1) := by decide +kernel
theorem d_M_say_44 : decode prog_14_method_11_code 44 = .ok (.iastore, 1) := by decide +kernel
theorem d_M_say_45 : decode prog_14_method_11_code 45 = .ok (.aload_n 0, 1) := by decide +kernel
theorem d_M_say_46 : decode prog_14_method_11_code 46 = .ok (.getfield 29, 3) := by decide +kernel
theorem d_M_say_49 : decode prog_14_method_11_code 49 = .ok (.iconst 4, 1) := by decide +kernel
theorem d_M_say_50 : decode prog_14_method_11_code 50 = .ok (.iload 4, 2) := by decide +kernel
theorem d_M_say_52 : decode prog_14_method_11_code 52 = .ok (.iastore, 1) := by decide +kernel
theorem d_M_say_53 : decode prog_14_method_11_code 53 = .ok (.aload_n 0, 1) := by decide +kernel
theorem d_M_say_54 : decode prog_14_method_11_code 54 = .ok (.getfield 29, 3) := by decide +kernel
theorem d_M_say_57 : decode prog_14_method_11_code 57 = .ok (.iconst 5, 1) := by decide +kernel
theorem d_M_say_58 : decode prog_14_method_11_code 58 = .ok (.iload 5, 2) := by decide +kernel
theorem d_M_say_60 : decode prog_14_method_11_code 60 = .ok (.iastore, 1) := by decide +kernel
theorem d_M_say_61 : decode prog_14_method_11_code 61 = .ok (.aload_n 0, 1) := by decide +kernel
theorem d_M_say_62 : decode prog_14_method_11_code 62 = .ok (.getfield 29, 3) := by decide +kernel
theorem d_M_say_65 : decode prog_14_method_11_code 65 = .ok (.bipush 6, 2) := by decide +kernel
theorem d_M_say_67 : decode prog_14_method_11_code 67 = .ok (.iload 6, 2) := by decide +kernel
theorem d_M_say_69 : decode prog_14_method_11_code 69 = .ok (.iastore, 1) := by decide +kernel
theorem d_M_say_70 : decode prog_14_method_11_code 70 = .ok (.return_, 1) := by decide +kernel
theorem d_M_write_0 : decode prog_14_method_12_code 0 = .ok (.aload_n 0, 1) := by decide +kernel
theorem d_M_write_1 : decode prog_14_method_12_code 1 = .ok (.getfield 20, 3) := by decide +kernel
theorem d_M_write_4 : decode prog_14_method_12_code 4 = .ok (.iload_n 1, 1) := by decide +kernel
theorem d_M_write_5 : decode prog_14_method_12_code 5 = .ok (.iaload, 1) := by decide +kernel
theorem d_M_write_6 : decode prog_14_method_12_code 6 = .ok (.bipush 80, 2) := by decide +kernel
theorem d_M_write_8 : decode prog_14_method_12_code 8 = .ok (.if_icmp .ne 6, 3) := by decide +kernel
theorem d_M_write_11 : decode prog_14_method_12_code 11 = .ok (.bipush (-3), 2) := by decide +kernel
theorem d_M_write_13 : decode prog_14_method_12_code 13 = .ok (.ireturn, 1) := by decide +kernel
theorem d_M_write_14 : decode prog_14_method_12_code 14 = .ok (.aload_n 0, 1) := by decide +kernel
theorem d_M_write_15 : decode prog_14_method_12_code 15 = .ok (.getfield 29, 3) := by decide +kernel
theorem d_M_write_18 : decode prog_14_method_12_code 18 = .ok (.iconst 0, 1) := by decide +kernel
theorem d_M_write_19 : decode prog_14_method_12_code 19 = .ok (.aload_n 0, 1) := by decide +kernel
theorem d_M_write_20 : decode prog_14_method_12_code 20 = .ok (.getfield 16, 3) := by decide +kernel
theorem d_M_write_23 : decode prog_14_method_12_code 23 = .ok (.iload_n 1, 1) := by decide +kernel
theorem d_M_write_24 : decode prog_14_method_12_code 24 = .ok (.iaload, 1) := by decide +kernel
theorem d_M_write_25 : decode prog_14_method_12_code 25 = .ok (.iastore, 1) := by decide +kernel
theorem d_M_write_26 : decode prog_14_method_12_code 26 = .ok (.iconst 0, 1) := by decide +kernel
theorem d_M_write_27 : decode prog_14_method_12_code 27 = .ok (.istore_n 2, 1) := by decide +kernel
theorem d_M_write_28 : decode prog_14_method_12_code 28 = .ok (.iload_n 2, 1) := by decide +kernel
theorem d_M_write_29 : decode prog_14_method_12_code 29 = .ok (.bipush 15, 2) := by decide +kernel
theorem d_M_write_31 : decode prog_14_method_12_code 31 = .ok (.if_icmp .ge 32, 3) := by decide +kernel
theorem d_M_write_34 : decode prog_14_method_12_code 34 = .ok (.aload_n 0, 1) := by decide +kernel
theorem d_M_write_35 : decode prog_14_method_12_code 35 = .ok (.getfield 26, 3) := by decide +kernel
theorem d_M_write_38 : decode prog_14_method_12_code 38 = .ok (.iload_n 1, 1) := by decide +kernel
theorem d_M_write_39 : decode prog_14_method_12_code 39 = .ok (.aload_n 0, 1) := by decide +kernel
theorem d_M_write_40 : decode prog_14_method_12_code 40 = .ok (.getfield 20, 3) := by decide +kernel
theorem d_M_write_43 : decode prog_14_method_12_code 43 = .ok (.iload_n 1, 1) := by decide +kernel
theorem d_M_write_44 : decode prog_14_method_12_code 44 = .ok (.iaload, 1) := by decide +kernel
theorem d_M_write_45 : decode prog_14_method_12_code 45 = .ok (.invokestatic 51, 3) := by decide +kernel
theorem d_M_write_48 : decode prog_14_method_12_code 48 = .ok (.iload_n 2, 1) := by decide +kernel
theorem d_M_write_49 : decode prog_14_method_12_code 49 = .ok (.iadd, 1) := by decide +kernel
theorem d_M_write_50 : decode prog_14_method_12_code 50 = .ok (.aload_n 0, 1) := by decide +kernel
theorem d_M_write_51 : decode prog_14_method_12_code 51 = .ok (.getfield 29, 3) := by decide +kernel
theorem d_M_write_54 : decode prog_14_method_12_code 54 = .ok (.iload_n 2, 1) := by decide +kernel
theorem d_M_write_55 : decode prog_14_method_12_code 55 = .ok (.iaload, 1) := by decide +kernel
theorem d_M_write_56 : decode prog_14_method_12_code 56 = .ok (.iastore, 1) := by decide +kernel
theorem d_M_write_57 : decode prog_14_method_12_code 57 = .ok (.iinc 2 1, 3) := by decide +kernel
theorem d_M_write_60 : decode prog_14_method_12_code 60 = .ok (.goto (-32), 3) := by decide +kernel
theorem d_M_write_63 : decode prog_14_method_12_code 63 = .ok (.aload_n 0, 1) := by decide +kernel
theorem d_M_write_64 : decode prog_14_method_12_code 64 = .ok (.getfield 20, 3) := by decide +kernel
theorem d_M_write_67 : decode prog_14_method_12_code 67 = .ok (.iload_n 1, 1) := by decide +kernel
theorem d_M_write_68 : decode prog_14_method_12_code 68 = .ok (.dup2, 1) := by decide +kernel
theorem d_M_write_69 : decode prog_14_method_12_code 69 = .ok (.iaload, 1) := by decide +kernel
theorem d_M_write_70 : decode prog_14_method_12_code 70 = .ok (.iconst 1, 1) := by decide +kernel
theorem d_M_write_71 : decode prog_14_method_12_code 71 = .ok (.iadd, 1) := by decide +kernel
theorem d_M_write_72 : decode prog_14_method_12_code 72 = .ok (.iastore, 1) := by decide +kernel
theorem d_M_write_73 : decode prog_14_method_12_code 73 = .ok (.aload_n 0, 1) := by decide +kernel
theorem d_M_write_74 : decode prog_14_method_12_code 74 = .ok (.getfield 20, 3) := by decide +kernel
theorem d_M_write_77 : decode prog_14_method_12_code 77 = .ok (.iload_n 1, 1) := by decide +kernel
theorem d_M_write_78 : decode prog_14_method_12_code 78 = .ok (.iaload, 1) := by decide +kernel
theorem d_M_write_79 : decode prog_14_method_12_code 79 = .ok (.ireturn, 1) := by decide +kernel
theorem d_M_ship_0 : decode prog_14_method_15_code 0 = .ok (.iload_n 1, 1) := by decide +kernel
theorem d_M_ship_1 : decode prog_14_method_15_code 1 = .ok (.bipush 12, 2) := by decide +kernel
theorem d_M_ship_3 : decode prog_14_method_15_code 3 = .ok (.invokestatic 47, 3) := by decide +kernel
theorem d_M_ship_6 : decode prog_14_method_15_code 6 = .ok (.ifCond .eq 44, 3) := by decide +kernel
theorem d_M_ship_9 : decode prog_14_method_15_code 9 = .ok (.iload_n 2, 1) := by decide +kernel
theorem d_M_ship_10 : decode prog_14_method_15_code 10 = .ok (.bipush 12, 2) := by decide +kernel
theorem d_M_ship_12 : decode prog_14_method_15_code 12 = .ok (.invokestatic 47, 3) := by decide +kernel
theorem d_M_ship_15 : decode prog_14_method_15_code 15 = .ok (.ifCond .eq 35, 3) := by decide +kernel
theorem d_M_ship_18 : decode prog_14_method_15_code 18 = .ok (.iload_n 1, 1) := by decide +kernel
theorem d_M_ship_19 : decode prog_14_method_15_code 19 = .ok (.iload_n 2, 1) := by decide +kernel
theorem d_M_ship_20 : decode prog_14_method_15_code 20 = .ok (.if_icmp .eq 30, 3) := by decide +kernel
theorem d_M_ship_23 : decode prog_14_method_15_code 23 = .ok (.iload_n 1, 1) := by decide +kernel
theorem d_M_ship_24 : decode prog_14_method_15_code 24 = .ok (.iconst 3, 1) := by decide +kernel
theorem d_M_ship_25 : decode prog_14_method_15_code 25 = .ok (.idiv, 1) := by decide +kernel
theorem d_M_ship_26 : decode prog_14_method_15_code 26 = .ok (.iload_n 2, 1) := by decide +kernel
theorem d_M_ship_27 : decode prog_14_method_15_code 27 = .ok (.iconst 3, 1) := by decide +kernel
theorem d_M_ship_28 : decode prog_14_method_15_code 28 = .ok (.idiv, 1) := by decide +kernel
theorem d_M_ship_29 : decode prog_14_method_15_code 29 = .ok (.if_icmp .ne 21, 3) := by decide +kernel
theorem d_M_ship_32 : decode prog_14_method_15_code 32 = .ok (.aload_n 0, 1) := by decide +kernel
theorem d_M_ship_33 : decode prog_14_method_15_code 33 = .ok (.getfield 7, 3) := by decide +kernel
theorem d_M_ship_36 : decode prog_14_method_15_code 36 = .ok (.iload_n 1, 1) := by decide +kernel
theorem d_M_ship_37 : decode prog_14_method_15_code 37 = .ok (.baload, 1) := by decide +kernel
theorem d_M_ship_38 : decode prog_14_method_15_code 38 = .ok (.ifCond .ne 12, 3) := by decide +kernel
theorem d_M_ship_41 : decode prog_14_method_15_code 41 = .ok (.aload_n 0, 1) := by decide +kernel
theorem d_M_ship_42 : decode prog_14_method_15_code 42 = .ok (.getfield 7, 3) := by decide +kernel
theorem d_M_ship_45 : decode prog_14_method_15_code 45 = .ok (.iload_n 2, 1) := by decide +kernel
theorem d_M_ship_46 : decode prog_14_method_15_code 46 = .ok (.baload, 1) := by decide +kernel
theorem d_M_ship_47 : decode prog_14_method_15_code 47 = .ok (.ifCond .eq 5, 3) := by decide +kernel
theorem d_M_ship_50 : decode prog_14_method_15_code 50 = .ok (.iconst (-1), 1) := by decide +kernel
theorem d_M_ship_51 : decode prog_14_method_15_code 51 = .ok (.ireturn, 1) := by decide +kernel
theorem d_M_ship_52 : decode prog_14_method_15_code 52 = .ok (.aload_n 0, 1) := by decide +kernel
theorem d_M_ship_53 : decode prog_14_method_15_code 53 = .ok (.getfield 13, 3) := by decide +kernel
theorem d_M_ship_56 : decode prog_14_method_15_code 56 = .ok (.iload_n 1, 1) := by decide +kernel
theorem d_M_ship_57 : decode prog_14_method_15_code 57 = .ok (.baload, 1) := by decide +kernel
theorem d_M_ship_58 : decode prog_14_method_15_code 58 = .ok (.ifCond .ne 6, 3) := by decide +kernel
theorem d_M_ship_61 : decode prog_14_method_15_code 61 = .ok (.bipush (-2), 2) := by decide +kernel
theorem d_M_ship_63 : decode prog_14_method_15_code 63 = .ok (.ireturn, 1) := by decide +kernel
theorem d_M_ship_64 : decode prog_14_method_15_code 64 = .ok (.aload_n 0, 1) := by decide +kernel
theorem d_M_ship_65 : decode prog_14_method_15_code 65 = .ok (.getfield 16, 3) := by decide +kernel
theorem d_M_ship_68 : decode prog_14_method_15_code 68 = .ok (.iload_n 2, 1) := by decide +kernel
theorem d_M_ship_69 : decode prog_14_method_15_code 69 = .ok (.iaload, 1) := by decide +kernel
theorem d_M_ship_70 : decode prog_14_method_15_code 70 = .ok (.aload_n 0, 1) := by decide +kernel
theorem d_M_ship_71 : decode prog_14_method_15_code 71 = .ok (.getfield 16, 3) := by decide +kernel
theorem d_M_ship_74 : decode prog_14_method_15_code 74 = .ok (.iload_n 1, 1) := by decide +kernel
theorem d_M_ship_75 : decode prog_14_method_15_code 75 = .ok (.iaload, 1) := by decide +kernel
theorem d_M_ship_76 : decode prog_14_method_15_code 76 = .ok (.if_icmp .le 13, 3) := by decide +kernel
theorem d_M_ship_79 : decode prog_14_method_15_code 79 = .ok (.aload_n 0, 1) := by decide +kernel
theorem d_M_ship_80 : decode prog_14_method_15_code 80 = .ok (.getfield 13, 3) := by decide +kernel
theorem d_M_ship_83 : decode prog_14_method_15_code 83 = .ok (.iload_n 1, 1) := by decide +kernel
theorem d_M_ship_84 : decode prog_14_method_15_code 84 = .ok (.iconst 0, 1) := by decide +kernel
theorem d_M_ship_85 : decode prog_14_method_15_code 85 = .ok (.bastore, 1) := by decide +kernel
theorem d_M_ship_86 : decode prog_14_method_15_code 86 = .ok (.bipush (-5), 2) := by decide +kernel
theorem d_M_ship_88 : decode prog_14_method_15_code 88 = .ok (.ireturn, 1) := by decide +kernel
theorem d_M_ship_89 : decode prog_14_method_15_code 89 = .ok (.aload_n 0, 1) := by decide +kernel
theorem d_M_ship_90 : decode prog_14_method_15_code 90 = .ok (.iload_n 2, 1) := by decide +kernel
theorem d_M_ship_91 : decode prog_14_method_15_code 91 = .ok (.aload_n 0, 1) := by decide +kernel
theorem d_M_ship_92 : decode prog_14_method_15_code 92 = .ok (.getfield 16, 3) := by decide +kernel
theorem d_M_ship_95 : decode prog_14_method_15_code 95 = .ok (.iload_n 1, 1) := by decide +kernel
theorem d_M_ship_96 : decode prog_14_method_15_code 96 = .ok (.iaload, 1) := by decide +kernel
theorem d_M_ship_97 : decode prog_14_method_15_code 97 = .ok (.invokevirtual 62, 3) := by decide +kernel
theorem d_M_ship_100 : decode prog_14_method_15_code 100 = .ok (.iconst 0, 1) := by decide +kernel
theorem d_M_ship_101 : decode prog_14_method_15_code 101 = .ok (.istore_n 3, 1) := by decide +kernel
theorem d_M_ship_102 : decode prog_14_method_15_code 102 = .ok (.iload_n 3, 1) := by decide +kernel
theorem d_M_ship_103 : decode prog_14_method_15_code 103 = .ok (.aload_n 0, 1) := by decide +kernel
theorem d_M_ship_104 : decode prog_14_method_15_code 104 = .ok (.getfield 20, 3) := by decide +kernel
theorem d_M_ship_107 : decode prog_14_method_15_code 107 = .ok (.iload_n 1, 1) := by decide +kernel
theorem d_M_ship_108 : decode prog_14_method_15_code 108 = .ok (.iaload, 1) := by decide +kernel
theorem d_M_ship_109 : decode prog_14_method_15_code 109 = .ok (.if_icmp .ge 34, 3) := by decide +kernel
theorem d_M_ship_112 : decode prog_14_method_15_code 112 = .ok (.iload_n 3, 1) := by decide +kernel
theorem d_M_ship_113 : decode prog_14_method_15_code 113 = .ok (.aload_n 0, 1) := by decide +kernel
theorem d_M_ship_114 : decode prog_14_method_15_code 114 = .ok (.getfield 20, 3) := by decide +kernel
theorem d_M_ship_117 : decode prog_14_method_15_code 117 = .ok (.iload_n 2, 1) := by decide +kernel
theorem d_M_ship_118 : decode prog_14_method_15_code 118 = .ok (.iaload, 1) := by decide +kernel
theorem d_M_ship_119 : decode prog_14_method_15_code 119 = .ok (.if_icmp .ge 24, 3) := by decide +kernel
theorem d_M_ship_122 : decode prog_14_method_15_code 122 = .ok (.aload_n 0, 1) := by decide +kernel
theorem d_M_ship_123 : decode prog_14_method_15_code 123 = .ok (.iload_n 1, 1) := by decide +kernel
theorem d_M_ship_124 : decode prog_14_method_15_code 124 = .ok (.iload_n 3, 1) := by decide +kernel
theorem d_M_ship_125 : decode prog_14_method_15_code 125 = .ok (.invokevirtual 55, 3) := by decide +kernel
theorem d_M_ship_128 : decode prog_14_method_15_code 128 = .ok (.aload_n 0, 1) := by decide +kernel
theorem d_M_ship_129 : decode prog_14_method_15_code 129 = .ok (.iload_n 2, 1) := by decide +kernel
theorem d_M_ship_130 : decode prog_14_method_15_code 130 = .ok (.iload_n 3, 1) := by decide +kernel
theorem d_M_ship_131 : decode prog_14_method_15_code 131 = .ok (.invokevirtual 55, 3) := by decide +kernel
theorem d_M_ship_134 : decode prog_14_method_15_code 134 = .ok (.if_icmp .ne 9, 3) := by decide +kernel
theorem d_M_ship_137 : decode prog_14_method_15_code 137 = .ok (.iinc 3 1, 3) := by decide +kernel
theorem d_M_ship_140 : decode prog_14_method_15_code 140 = .ok (.goto (-38), 3) := by decide +kernel
theorem d_M_ship_143 : decode prog_14_method_15_code 143 = .ok (.aload_n 0, 1) := by decide +kernel
theorem d_M_ship_144 : decode prog_14_method_15_code 144 = .ok (.getfield 20, 3) := by decide +kernel
theorem d_M_ship_147 : decode prog_14_method_15_code 147 = .ok (.iload_n 2, 1) := by decide +kernel
end
section
theorem d_M_ship_148 : decode prog_14_method_15_code 148 = .ok (.iload_n 3, 1) := by decide +kernel
theorem d_M_ship_149 : decode prog_14_method_15_code 149 = .ok (.iastore, 1) := by decide +kernel
theorem d_M_ship_150 : decode prog_14_method_15_code 150 = .ok (.iload_n 3, 1) := by decide +kernel
theorem d_M_ship_151 : decode prog_14_method_15_code 151 = .ok (.aload_n 0, 1) := by decide +kernel
theorem d_M_ship_152 : decode prog_14_method_15_code 152 = .ok (.getfield 20, 3) := by decide +kernel
theorem d_M_ship_155 : decode prog_14_method_15_code 155 = .ok (.iload_n 1, 1) := by decide +kernel
theorem d_M_ship_156 : decode prog_14_method_15_code 156 = .ok (.iaload, 1) := by decide +kernel
theorem d_M_ship_157 : decode prog_14_method_15_code 157 = .ok (.if_icmp .ge 55, 3) := by decide +kernel
theorem d_M_ship_160 : decode prog_14_method_15_code 160 = .ok (.iconst 0, 1) := by decide +kernel
theorem d_M_ship_161 : decode prog_14_method_15_code 161 = .ok (.istore 4, 2) := by decide +kernel
theorem d_M_ship_163 : decode prog_14_method_15_code 163 = .ok (.iload 4, 2) := by decide +kernel
theorem d_M_ship_165 : decode prog_14_method_15_code 165 = .ok (.bipush 15, 2) := by decide +kernel
theorem d_M_ship_167 : decode prog_14_method_15_code 167 = .ok (.if_icmp .ge 35, 3) := by decide +kernel
theorem d_M_ship_170 : decode prog_14_method_15_code 170 = .ok (.aload_n 0, 1) := by decide +kernel
theorem d_M_ship_171 : decode prog_14_method_15_code 171 = .ok (.getfield 26, 3) := by decide +kernel
theorem d_M_ship_174 : decode prog_14_method_15_code 174 = .ok (.iload_n 2, 1) := by decide +kernel
theorem d_M_ship_175 : decode prog_14_method_15_code 175 = .ok (.iload_n 3, 1) := by decide +kernel
theorem d_M_ship_176 : decode prog_14_method_15_code 176 = .ok (.invokestatic 51, 3) := by decide +kernel
theorem d_M_ship_179 : decode prog_14_method_15_code 179 = .ok (.iload 4, 2) := by decide +kernel
theorem d_M_ship_181 : decode prog_14_method_15_code 181 = .ok (.iadd, 1) := by decide +kernel
theorem d_M_ship_182 : decode prog_14_method_15_code 182 = .ok (.aload_n 0, 1) := by decide +kernel
theorem d_M_ship_183 : decode prog_14_method_15_code 183 = .ok (.getfield 26, 3) := by decide +kernel
theorem d_M_ship_186 : decode prog_14_method_15_code 186 = .ok (.iload_n 1, 1) := by decide +kernel
theorem d_M_ship_187 : decode prog_14_method_15_code 187 = .ok (.iload_n 3, 1) := by decide +kernel
theorem d_M_ship_188 : decode prog_14_method_15_code 188 = .ok (.invokestatic 51, 3) := by decide +kernel
theorem d_M_ship_191 : decode prog_14_method_15_code 191 = .ok (.iload 4, 2) := by decide +kernel
theorem d_M_ship_193 : decode prog_14_method_15_code 193 = .ok (.iadd, 1) := by decide +kernel
theorem d_M_ship_194 : decode prog_14_method_15_code 194 = .ok (.iaload, 1) := by decide +kernel
theorem d_M_ship_195 : decode prog_14_method_15_code 195 = .ok (.iastore, 1) := by decide +kernel
theorem d_M_ship_196 : decode prog_14_method_15_code 196 = .ok (.iinc 4 1, 3) := by decide +kernel
theorem d_M_ship_199 : decode prog_14_method_15_code 199 = .ok (.goto (-36), 3) := by decide +kernel
theorem d_M_ship_202 : decode prog_14_method_15_code 202 = .ok (.aload_n 0, 1) := by decide +kernel
theorem d_M_ship_203 : decode prog_14_method_15_code 203 = .ok (.getfield 20, 3) := by decide +kernel
theorem d_M_ship_206 : decode prog_14_method_15_code 206 = .ok (.iload_n 2, 1) := by decide +kernel
theorem d_M_ship_207 : decode prog_14_method_15_code 207 = .ok (.dup2, 1) := by decide +kernel
theorem d_M_ship_208 : decode prog_14_method_15_code 208 = .ok (.iaload, 1) := by decide +kernel
theorem d_M_ship_209 : decode prog_14_method_15_code 209 = .ok (.iconst 1, 1) := by decide +kernel
theorem d_M_ship_210 : decode prog_14_method_15_code 210 = .ok (.iadd, 1) := by decide +kernel
theorem d_M_ship_211 : decode prog_14_method_15_code 211 = .ok (.iastore, 1) := by decide +kernel
theorem d_M_ship_212 : decode prog_14_method_15_code 212 = .ok (.aload_n 0, 1) := by decide +kernel
theorem d_M_ship_213 : decode prog_14_method_15_code 213 = .ok (.getfield 23, 3) := by decide +kernel
theorem d_M_ship_216 : decode prog_14_method_15_code 216 = .ok (.iload_n 1, 1) := by decide +kernel
theorem d_M_ship_217 : decode prog_14_method_15_code 217 = .ok (.iaload, 1) := by decide +kernel
theorem d_M_ship_218 : decode prog_14_method_15_code 218 = .ok (.istore 4, 2) := by decide +kernel
theorem d_M_ship_220 : decode prog_14_method_15_code 220 = .ok (.iload 4, 2) := by decide +kernel
theorem d_M_ship_222 : decode prog_14_method_15_code 222 = .ok (.aload_n 0, 1) := by decide +kernel
theorem d_M_ship_223 : decode prog_14_method_15_code 223 = .ok (.getfield 20, 3) := by decide +kernel
theorem d_M_ship_226 : decode prog_14_method_15_code 226 = .ok (.iload_n 1, 1) := by decide +kernel
theorem d_M_ship_227 : decode prog_14_method_15_code 227 = .ok (.iaload, 1) := by decide +kernel
theorem d_M_ship_228 : decode prog_14_method_15_code 228 = .ok (.if_icmp .ge 46, 3) := by decide +kernel
theorem d_M_ship_231 : decode prog_14_method_15_code 231 = .ok (.aload_n 0, 1) := by decide +kernel
theorem d_M_ship_232 : decode prog_14_method_15_code 232 = .ok (.iload_n 1, 1) := by decide +kernel
theorem d_M_ship_233 : decode prog_14_method_15_code 233 = .ok (.iload 4, 2) := by decide +kernel
theorem d_M_ship_235 : decode prog_14_method_15_code 235 = .ok (.invokevirtual 55, 3) := by decide +kernel
theorem d_M_ship_238 : decode prog_14_method_15_code 238 = .ok (.aload_n 0, 1) := by decide +kernel
theorem d_M_ship_239 : decode prog_14_method_15_code 239 = .ok (.getfield 16, 3) := by decide +kernel
theorem d_M_ship_242 : decode prog_14_method_15_code 242 = .ok (.iload_n 1, 1) := by decide +kernel
theorem d_M_ship_243 : decode prog_14_method_15_code 243 = .ok (.iaload, 1) := by decide +kernel
theorem d_M_ship_244 : decode prog_14_method_15_code 244 = .ok (.if_icmp .ne 24, 3) := by decide +kernel
theorem d_M_ship_247 : decode prog_14_method_15_code 247 = .ok (.aload_n 0, 1) := by decide +kernel
theorem d_M_ship_248 : decode prog_14_method_15_code 248 = .ok (.iload_n 1, 1) := by decide +kernel
theorem d_M_ship_249 : decode prog_14_method_15_code 249 = .ok (.iload 4, 2) := by decide +kernel
theorem d_M_ship_251 : decode prog_14_method_15_code 251 = .ok (.invokevirtual 73, 3) := by decide +kernel
theorem d_M_ship_254 : decode prog_14_method_15_code 254 = .ok (.iconst 2, 1) := by decide +kernel
theorem d_M_ship_255 : decode prog_14_method_15_code 255 = .ok (.if_icmp .lt 13, 3) := by decide +kernel
theorem d_M_ship_258 : decode prog_14_method_15_code 258 = .ok (.aload_n 0, 1) := by decide +kernel
theorem d_M_ship_259 : decode prog_14_method_15_code 259 = .ok (.getfield 23, 3) := by decide +kernel
theorem d_M_ship_262 : decode prog_14_method_15_code 262 = .ok (.iload_n 1, 1) := by decide +kernel
theorem d_M_ship_263 : decode prog_14_method_15_code 263 = .ok (.iload 4, 2) := by decide +kernel
theorem d_M_ship_265 : decode prog_14_method_15_code 265 = .ok (.iconst 1, 1) := by decide +kernel
theorem d_M_ship_266 : decode prog_14_method_15_code 266 = .ok (.iadd, 1) := by decide +kernel
theorem d_M_ship_267 : decode prog_14_method_15_code 267 = .ok (.iastore, 1) := by decide +kernel
theorem d_M_ship_268 : decode prog_14_method_15_code 268 = .ok (.iinc 4 1, 3) := by decide +kernel
theorem d_M_ship_271 : decode prog_14_method_15_code 271 = .ok (.goto (-51), 3) := by decide +kernel
theorem d_M_ship_274 : decode prog_14_method_15_code 274 = .ok (.aload_n 0, 1) := by decide +kernel
theorem d_M_ship_275 : decode prog_14_method_15_code 275 = .ok (.getfield 23, 3) := by decide +kernel
theorem d_M_ship_278 : decode prog_14_method_15_code 278 = .ok (.iload_n 1, 1) := by decide +kernel
theorem d_M_ship_279 : decode prog_14_method_15_code 279 = .ok (.iaload, 1) := by decide +kernel
theorem d_M_ship_280 : decode prog_14_method_15_code 280 = .ok (.aload_n 0, 1) := by decide +kernel
theorem d_M_ship_281 : decode prog_14_method_15_code 281 = .ok (.getfield 20, 3) := by decide +kernel
theorem d_M_ship_284 : decode prog_14_method_15_code 284 = .ok (.iload_n 2, 1) := by decide +kernel
theorem d_M_ship_285 : decode prog_14_method_15_code 285 = .ok (.iaload, 1) := by decide +kernel
theorem d_M_ship_286 : decode prog_14_method_15_code 286 = .ok (.if_icmp .ge 12, 3) := by decide +kernel
theorem d_M_ship_289 : decode prog_14_method_15_code 289 = .ok (.aload_n 0, 1) := by decide +kernel
theorem d_M_ship_290 : decode prog_14_method_15_code 290 = .ok (.getfield 23, 3) := by decide +kernel
theorem d_M_ship_293 : decode prog_14_method_15_code 293 = .ok (.iload_n 1, 1) := by decide +kernel
theorem d_M_ship_294 : decode prog_14_method_15_code 294 = .ok (.iaload, 1) := by decide +kernel
theorem d_M_ship_295 : decode prog_14_method_15_code 295 = .ok (.goto 9, 3) := by decide +kernel
theorem d_M_ship_298 : decode prog_14_method_15_code 298 = .ok (.aload_n 0, 1) := by decide +kernel
theorem d_M_ship_299 : decode prog_14_method_15_code 299 = .ok (.getfield 20, 3) := by decide +kernel
theorem d_M_ship_302 : decode prog_14_method_15_code 302 = .ok (.iload_n 2, 1) := by decide +kernel
theorem d_M_ship_303 : decode prog_14_method_15_code 303 = .ok (.iaload, 1) := by decide +kernel
theorem d_M_ship_304 : decode prog_14_method_15_code 304 = .ok (.istore 4, 2) := by decide +kernel
theorem d_M_ship_306 : decode prog_14_method_15_code 306 = .ok (.aload_n 0, 1) := by decide +kernel
theorem d_M_ship_307 : decode prog_14_method_15_code 307 = .ok (.getfield 23, 3) := by decide +kernel
theorem d_M_ship_310 : decode prog_14_method_15_code 310 = .ok (.iload_n 2, 1) := by decide +kernel
theorem d_M_ship_311 : decode prog_14_method_15_code 311 = .ok (.iload 4, 2) := by decide +kernel
theorem d_M_ship_313 : decode prog_14_method_15_code 313 = .ok (.aload_n 0, 1) := by decide +kernel
theorem d_M_ship_314 : decode prog_14_method_15_code 314 = .ok (.getfield 23, 3) := by decide +kernel
theorem d_M_ship_317 : decode prog_14_method_15_code 317 = .ok (.iload_n 2, 1) := by decide +kernel
theorem d_M_ship_318 : decode prog_14_method_15_code 318 = .ok (.iaload, 1) := by decide +kernel
theorem d_M_ship_319 : decode prog_14_method_15_code 319 = .ok (.if_icmp .le 8, 3) := by decide +kernel
theorem d_M_ship_322 : decode prog_14_method_15_code 322 = .ok (.iload 4, 2) := by decide +kernel
theorem d_M_ship_324 : decode prog_14_method_15_code 324 = .ok (.goto 9, 3) := by decide +kernel
theorem d_M_ship_327 : decode prog_14_method_15_code 327 = .ok (.aload_n 0, 1) := by decide +kernel
theorem d_M_ship_328 : decode prog_14_method_15_code 328 = .ok (.getfield 23, 3) := by decide +kernel
theorem d_M_ship_331 : decode prog_14_method_15_code 331 = .ok (.iload_n 2, 1) := by decide +kernel
theorem d_M_ship_332 : decode prog_14_method_15_code 332 = .ok (.iaload, 1) := by decide +kernel
theorem d_M_ship_333 : decode prog_14_method_15_code 333 = .ok (.iastore, 1) := by decide +kernel
theorem d_M_ship_334 : decode prog_14_method_15_code 334 = .ok (.aload_n 0, 1) := by decide +kernel
theorem d_M_ship_335 : decode prog_14_method_15_code 335 = .ok (.getfield 20, 3) := by decide +kernel
theorem d_M_ship_338 : decode prog_14_method_15_code 338 = .ok (.iload_n 2, 1) := by decide +kernel
theorem d_M_ship_339 : decode prog_14_method_15_code 339 = .ok (.iaload, 1) := by decide +kernel
theorem d_M_ship_340 : decode prog_14_method_15_code 340 = .ok (.ireturn, 1) := by decide +kernel
end
section
theorem d_M_copies_0 : decode prog_14_method_14_code 0 = .ok (.iconst 0, 1) := by decide +kernel
theorem d_M_copies_1 : decode prog_14_method_14_code 1 = .ok (.istore_n 3, 1) := by decide +kernel
theorem d_M_copies_2 : decode prog_14_method_14_code 2 = .ok (.iload_n 1, 1) := by decide +kernel
theorem d_M_copies_3 : decode prog_14_method_14_code 3 = .ok (.iconst 3, 1) := by decide +kernel
theorem d_M_copies_4 : decode prog_14_method_14_code 4 = .ok (.idiv, 1) := by decide +kernel
theorem d_M_copies_5 : decode prog_14_method_14_code 5 = .ok (.iconst 3, 1) := by decide +kernel
theorem d_M_copies_6 : decode prog_14_method_14_code 6 = .ok (.imul, 1) := by decide +kernel
theorem d_M_copies_7 : decode prog_14_method_14_code 7 = .ok (.istore 4, 2) := by decide +kernel
theorem d_M_copies_9 : decode prog_14_method_14_code 9 = .ok (.iload 4, 2) := by decide +kernel
theorem d_M_copies_11 : decode prog_14_method_14_code 11 = .ok (.iload_n 1, 1) := by decide +kernel
theorem d_M_copies_12 : decode prog_14_method_14_code 12 = .ok (.iconst 3, 1) := by decide +kernel
theorem d_M_copies_13 : decode prog_14_method_14_code 13 = .ok (.idiv, 1) := by decide +kernel
theorem d_M_copies_14 : decode prog_14_method_14_code 14 = .ok (.iconst 3, 1) := by decide +kernel
theorem d_M_copies_15 : decode prog_14_method_14_code 15 = .ok (.imul, 1) := by decide +kernel
theorem d_M_copies_16 : decode prog_14_method_14_code 16 = .ok (.iconst 3, 1) := by decide +kernel
theorem d_M_copies_17 : decode prog_14_method_14_code 17 = .ok (.iadd, 1) := by decide +kernel
theorem d_M_copies_18 : decode prog_14_method_14_code 18 = .ok (.if_icmp .ge 44, 3) := by decide +kernel
theorem d_M_copies_21 : decode prog_14_method_14_code 21 = .ok (.iload_n 3, 1) := by decide +kernel
theorem d_M_copies_22 : decode prog_14_method_14_code 22 = .ok (.iload_n 2, 1) := by decide +kernel
theorem d_M_copies_23 : decode prog_14_method_14_code 23 = .ok (.aload_n 0, 1) := by decide +kernel
theorem d_M_copies_24 : decode prog_14_method_14_code 24 = .ok (.getfield 20, 3) := by decide +kernel
theorem d_M_copies_27 : decode prog_14_method_14_code 27 = .ok (.iload 4, 2) := by decide +kernel
theorem d_M_copies_29 : decode prog_14_method_14_code 29 = .ok (.iaload, 1) := by decide +kernel
theorem d_M_copies_30 : decode prog_14_method_14_code 30 = .ok (.if_icmp .ge 23, 3) := by decide +kernel
theorem d_M_copies_33 : decode prog_14_method_14_code 33 = .ok (.aload_n 0, 1) := by decide +kernel
theorem d_M_copies_34 : decode prog_14_method_14_code 34 = .ok (.iload 4, 2) := by decide +kernel
theorem d_M_copies_36 : decode prog_14_method_14_code 36 = .ok (.iload_n 2, 1) := by decide +kernel
theorem d_M_copies_37 : decode prog_14_method_14_code 37 = .ok (.invokevirtual 55, 3) := by decide +kernel
theorem d_M_copies_40 : decode prog_14_method_14_code 40 = .ok (.aload_n 0, 1) := by decide +kernel
theorem d_M_copies_41 : decode prog_14_method_14_code 41 = .ok (.iload_n 1, 1) := by decide +kernel
theorem d_M_copies_42 : decode prog_14_method_14_code 42 = .ok (.iload_n 2, 1) := by decide +kernel
theorem d_M_copies_43 : decode prog_14_method_14_code 43 = .ok (.invokevirtual 55, 3) := by decide +kernel
theorem d_M_copies_46 : decode prog_14_method_14_code 46 = .ok (.if_icmp .ne 7, 3) := by decide +kernel
theorem d_M_copies_49 : decode prog_14_method_14_code 49 = .ok (.iconst 1, 1) := by decide +kernel
theorem d_M_copies_50 : decode prog_14_method_14_code 50 = .ok (.goto 4, 3) := by decide +kernel
theorem d_M_copies_53 : decode prog_14_method_14_code 53 = .ok (.iconst 0, 1) := by decide +kernel
theorem d_M_copies_54 : decode prog_14_method_14_code 54 = .ok (.iadd, 1) := by decide +kernel
theorem d_M_copies_55 : decode prog_14_method_14_code 55 = .ok (.istore_n 3, 1) := by decide +kernel
theorem d_M_copies_56 : decode prog_14_method_14_code 56 = .ok (.iinc 4 1, 3) := by decide +kernel
theorem d_M_copies_59 : decode prog_14_method_14_code 59 = .ok (.goto (-50), 3) := by decide +kernel
theorem d_M_copies_62 : decode prog_14_method_14_code 62 = .ok (.iload_n 3, 1) := by decide +kernel
theorem d_M_copies_63 : decode prog_14_method_14_code 63 = .ok (.ireturn, 1) := by decide +kernel
theorem d_M_change_0 : decode prog_14_method_25_code 0 = .ok (.iload_n 2, 1) := by decide +kernel
theorem d_M_change_1 : decode prog_14_method_25_code 1 = .ok (.iconst 2, 1) := by decide +kernel
theorem d_M_change_2 : decode prog_14_method_25_code 2 = .ok (.if_icmp .ne 31, 3) := by decide +kernel
theorem d_M_change_5 : decode prog_14_method_25_code 5 = .ok (.iload_n 3, 1) := by decide +kernel
theorem d_M_change_6 : decode prog_14_method_25_code 6 = .ok (.bipush 8, 2) := by decide +kernel
theorem d_M_change_8 : decode prog_14_method_25_code 8 = .ok (.invokestatic 47, 3) := by decide +kernel
theorem d_M_change_11 : decode prog_14_method_25_code 11 = .ok (.ifCond .eq 18, 3) := by decide +kernel
theorem d_M_change_14 : decode prog_14_method_25_code 14 = .ok (.iload 4, 2) := by decide +kernel
theorem d_M_change_16 : decode prog_14_method_25_code 16 = .ok (.iconst 1, 1) := by decide +kernel
theorem d_M_change_17 : decode prog_14_method_25_code 17 = .ok (.isub, 1) := by decide +kernel
theorem d_M_change_18 : decode prog_14_method_25_code 18 = .ok (.iconst 3, 1) := by decide +kernel
theorem d_M_change_19 : decode prog_14_method_25_code 19 = .ok (.invokestatic 47, 3) := by decide +kernel
theorem d_M_change_22 : decode prog_14_method_25_code 22 = .ok (.ifCond .eq 7, 3) := by decide +kernel
theorem d_M_change_25 : decode prog_14_method_25_code 25 = .ok (.iconst 1, 1) := by decide +kernel
theorem d_M_change_26 : decode prog_14_method_25_code 26 = .ok (.goto 14, 3) := by decide +kernel
theorem d_M_change_29 : decode prog_14_method_25_code 29 = .ok (.iconst 0, 1) := by decide +kernel
theorem d_M_change_30 : decode prog_14_method_25_code 30 = .ok (.goto 10, 3) := by decide +kernel
theorem d_M_change_33 : decode prog_14_method_25_code 33 = .ok (.iload_n 3, 1) := by decide +kernel
theorem d_M_change_34 : decode prog_14_method_25_code 34 = .ok (.iconst 1, 1) := by decide +kernel
theorem d_M_change_35 : decode prog_14_method_25_code 35 = .ok (.isub, 1) := by decide +kernel
theorem d_M_change_36 : decode prog_14_method_25_code 36 = .ok (.iconst 3, 1) := by decide +kernel
theorem d_M_change_37 : decode prog_14_method_25_code 37 = .ok (.invokestatic 47, 3) := by decide +kernel
theorem d_M_change_40 : decode prog_14_method_25_code 40 = .ok (.istore 5, 2) := by decide +kernel
theorem d_M_change_42 : decode prog_14_method_25_code 42 = .ok (.aload_n 0, 1) := by decide +kernel
theorem d_M_change_43 : decode prog_14_method_25_code 43 = .ok (.iload_n 1, 1) := by decide +kernel
theorem d_M_change_44 : decode prog_14_method_25_code 44 = .ok (.invokevirtual 108, 3) := by decide +kernel
theorem d_M_change_47 : decode prog_14_method_25_code 47 = .ok (.ifCond .ne 16, 3) := by decide +kernel
theorem d_M_change_50 : decode prog_14_method_25_code 50 = .ok (.iload_n 2, 1) := by decide +kernel
theorem d_M_change_51 : decode prog_14_method_25_code 51 = .ok (.iconst 3, 1) := by decide +kernel
theorem d_M_change_52 : decode prog_14_method_25_code 52 = .ok (.invokestatic 47, 3) := by decide +kernel
theorem d_M_change_55 : decode prog_14_method_25_code 55 = .ok (.ifCond .eq 8, 3) := by decide +kernel
theorem d_M_change_58 : decode prog_14_method_25_code 58 = .ok (.iload 5, 2) := by decide +kernel
theorem d_M_change_60 : decode prog_14_method_25_code 60 = .ok (.ifCond .ne 5, 3) := by decide +kernel
theorem d_M_change_63 : decode prog_14_method_25_code 63 = .ok (.iconst (-1), 1) := by decide +kernel
theorem d_M_change_64 : decode prog_14_method_25_code 64 = .ok (.ireturn, 1) := by decide +kernel
theorem d_M_change_65 : decode prog_14_method_25_code 65 = .ok (.aload_n 0, 1) := by decide +kernel
theorem d_M_change_66 : decode prog_14_method_25_code 66 = .ok (.getfield 13, 3) := by decide +kernel
theorem d_M_change_69 : decode prog_14_method_25_code 69 = .ok (.iload_n 1, 1) := by decide +kernel
theorem d_M_change_70 : decode prog_14_method_25_code 70 = .ok (.baload, 1) := by decide +kernel
theorem d_M_change_71 : decode prog_14_method_25_code 71 = .ok (.ifCond .ne 6, 3) := by decide +kernel
theorem d_M_change_74 : decode prog_14_method_25_code 74 = .ok (.bipush (-2), 2) := by decide +kernel
theorem d_M_change_76 : decode prog_14_method_25_code 76 = .ok (.ireturn, 1) := by decide +kernel
theorem d_M_change_77 : decode prog_14_method_25_code 77 = .ok (.aload_n 0, 1) := by decide +kernel
theorem d_M_change_78 : decode prog_14_method_25_code 78 = .ok (.iconst 1, 1) := by decide +kernel
theorem d_M_change_79 : decode prog_14_method_25_code 79 = .ok (.iload_n 2, 1) := by decide +kernel
theorem d_M_change_80 : decode prog_14_method_25_code 80 = .ok (.iadd, 1) := by decide +kernel
theorem d_M_change_81 : decode prog_14_method_25_code 81 = .ok (.iload_n 3, 1) := by decide +kernel
theorem d_M_change_82 : decode prog_14_method_25_code 82 = .ok (.iload_n 2, 1) := by decide +kernel
theorem d_M_change_83 : decode prog_14_method_25_code 83 = .ok (.iconst 2, 1) := by decide +kernel
theorem d_M_change_84 : decode prog_14_method_25_code 84 = .ok (.if_icmp .ne 8, 3) := by decide +kernel
theorem d_M_change_87 : decode prog_14_method_25_code 87 = .ok (.iload 4, 2) := by decide +kernel
theorem d_M_change_89 : decode prog_14_method_25_code 89 = .ok (.goto 4, 3) := by decide +kernel
theorem d_M_change_92 : decode prog_14_method_25_code 92 = .ok (.iconst 0, 1) := by decide +kernel
theorem d_M_change_93 : decode prog_14_method_25_code 93 = .ok (.iconst 0, 1) := by decide +kernel
theorem d_M_change_94 : decode prog_14_method_25_code 94 = .ok (.iconst 0, 1) := by decide +kernel
theorem d_M_change_95 : decode prog_14_method_25_code 95 = .ok (.iconst 0, 1) := by decide +kernel
theorem d_M_change_96 : decode prog_14_method_25_code 96 = .ok (.invokevirtual 66, 3) := by decide +kernel
theorem d_M_change_99 : decode prog_14_method_25_code 99 = .ok (.aload_n 0, 1) := by decide +kernel
theorem d_M_change_100 : decode prog_14_method_25_code 100 = .ok (.iload_n 1, 1) := by decide +kernel
theorem d_M_change_101 : decode prog_14_method_25_code 101 = .ok (.invokevirtual 70, 3) := by decide +kernel
theorem d_M_change_104 : decode prog_14_method_25_code 104 = .ok (.ireturn, 1) := by decide +kernel
theorem d_M_noServer_0 : decode prog_14_method_3_code 0 = .ok (.iload_n 1, 1) := by decide +kernel
theorem d_M_noServer_1 : decode prog_14_method_3_code 1 = .ok (.iconst 3, 1) := by decide +kernel
theorem d_M_noServer_2 : decode prog_14_method_3_code 2 = .ok (.invokestatic 47, 3) := by decide +kernel
theorem d_M_noServer_5 : decode prog_14_method_3_code 5 = .ok (.ifCond .eq 12, 3) := by decide +kernel
theorem d_M_noServer_8 : decode prog_14_method_3_code 8 = .ok (.aload_n 0, 1) := by decide +kernel
theorem d_M_noServer_9 : decode prog_14_method_3_code 9 = .ok (.getfield 7, 3) := by decide +kernel
theorem d_M_noServer_12 : decode prog_14_method_3_code 12 = .ok (.iload_n 1, 1) := by decide +kernel
theorem d_M_noServer_13 : decode prog_14_method_3_code 13 = .ok (.baload, 1) := by decide +kernel
theorem d_M_noServer_14 : decode prog_14_method_3_code 14 = .ok (.ifCond .eq 7, 3) := by decide +kernel
theorem d_M_noServer_17 : decode prog_14_method_3_code 17 = .ok (.iconst 1, 1) := by decide +kernel
theorem d_M_noServer_18 : decode prog_14_method_3_code 18 = .ok (.goto 4, 3) := by decide +kernel
theorem d_M_noServer_21 : decode prog_14_method_3_code 21 = .ok (.iconst 0, 1) := by decide +kernel
theorem d_M_noServer_22 : decode prog_14_method_3_code 22 = .ok (.ireturn, 1) := by decide +kernel
theorem d_M_request_0 : decode prog_14_method_26_code 0 = .ok (.aload_n 0, 1) := by decide +kernel
theorem d_M_request_1 : decode prog_14_method_26_code 1 = .ok (.iload_n 1, 1) := by decide +kernel
theorem d_M_request_2 : decode prog_14_method_26_code 2 = .ok (.invokevirtual 112, 3) := by decide +kernel
theorem d_M_request_5 : decode prog_14_method_26_code 5 = .ok (.ifCond .ne 53, 3) := by decide +kernel
theorem d_M_request_8 : decode prog_14_method_26_code 8 = .ok (.iload_n 2, 1) := by decide +kernel
theorem d_M_request_9 : decode prog_14_method_26_code 9 = .ok (.iconst 3, 1) := by decide +kernel
theorem d_M_request_10 : decode prog_14_method_26_code 10 = .ok (.invokestatic 47, 3) := by decide +kernel
theorem d_M_request_13 : decode prog_14_method_26_code 13 = .ok (.ifCond .eq 45, 3) := by decide +kernel
theorem d_M_request_16 : decode prog_14_method_26_code 16 = .ok (.iload 5, 2) := by decide +kernel
theorem d_M_request_18 : decode prog_14_method_26_code 18 = .ok (.bipush 16, 2) := by decide +kernel
theorem d_M_request_20 : decode prog_14_method_26_code 20 = .ok (.invokestatic 47, 3) := by decide +kernel
theorem d_M_request_23 : decode prog_14_method_26_code 23 = .ok (.ifCond .eq 35, 3) := by decide +kernel
theorem d_M_request_26 : decode prog_14_method_26_code 26 = .ok (.iload_n 3, 1) := by decide +kernel
theorem d_M_request_27 : decode prog_14_method_26_code 27 = .ok (.iconst 1, 1) := by decide +kernel
theorem d_M_request_28 : decode prog_14_method_26_code 28 = .ok (.if_icmp .lt 30, 3) := by decide +kernel
theorem d_M_request_31 : decode prog_14_method_26_code 31 = .ok (.iload_n 3, 1) := by decide +kernel
theorem d_M_request_32 : decode prog_14_method_26_code 32 = .ok (.sipush 999, 3) := by decide +kernel
theorem d_M_request_35 : decode prog_14_method_26_code 35 = .ok (.if_icmp .gt 23, 3) := by decide +kernel
theorem d_M_request_38 : decode prog_14_method_26_code 38 = .ok (.iload 4, 2) := by decide +kernel
theorem d_M_request_40 : decode prog_14_method_26_code 40 = .ok (.iconst 3, 1) := by decide +kernel
theorem d_M_request_41 : decode prog_14_method_26_code 41 = .ok (.invokestatic 47, 3) := by decide +kernel
theorem d_M_request_44 : decode prog_14_method_26_code 44 = .ok (.ifCond .eq 14, 3) := by decide +kernel
theorem d_M_request_47 : decode prog_14_method_26_code 47 = .ok (.iload 6, 2) := by decide +kernel
theorem d_M_request_49 : decode prog_14_method_26_code 49 = .ok (.sipush 1000, 3) := by decide +kernel
theorem d_M_request_52 : decode prog_14_method_26_code 52 = .ok (.invokestatic 47, 3) := by decide +kernel
theorem d_M_request_55 : decode prog_14_method_26_code 55 = .ok (.ifCond .ne 5, 3) := by decide +kernel
theorem d_M_request_58 : decode prog_14_method_26_code 58 = .ok (.iconst (-1), 1) := by decide +kernel
theorem d_M_request_59 : decode prog_14_method_26_code 59 = .ok (.ireturn, 1) := by decide +kernel
theorem d_M_request_60 : decode prog_14_method_26_code 60 = .ok (.aload_n 0, 1) := by decide +kernel
theorem d_M_request_61 : decode prog_14_method_26_code 61 = .ok (.getfield 13, 3) := by decide +kernel
theorem d_M_request_64 : decode prog_14_method_26_code 64 = .ok (.iload_n 1, 1) := by decide +kernel
theorem d_M_request_65 : decode prog_14_method_26_code 65 = .ok (.baload, 1) := by decide +kernel
theorem d_M_request_66 : decode prog_14_method_26_code 66 = .ok (.ifCond .ne 6, 3) := by decide +kernel
theorem d_M_request_69 : decode prog_14_method_26_code 69 = .ok (.bipush (-2), 2) := by decide +kernel
theorem d_M_request_71 : decode prog_14_method_26_code 71 = .ok (.ireturn, 1) := by decide +kernel
theorem d_M_request_72 : decode prog_14_method_26_code 72 = .ok (.aload_n 0, 1) := by decide +kernel
theorem d_M_request_73 : decode prog_14_method_26_code 73 = .ok (.iconst 5, 1) := by decide +kernel
theorem d_M_request_74 : decode prog_14_method_26_code 74 = .ok (.iload_n 2, 1) := by decide +kernel
theorem d_M_request_75 : decode prog_14_method_26_code 75 = .ok (.iload_n 3, 1) := by decide +kernel
theorem d_M_request_76 : decode prog_14_method_26_code 76 = .ok (.iload 4, 2) := by decide +kernel
theorem d_M_request_78 : decode prog_14_method_26_code 78 = .ok (.iload 5, 2) := by decide +kernel
theorem d_M_request_80 : decode prog_14_method_26_code 80 = .ok (.iload 6, 2) := by decide +kernel
theorem d_M_request_82 : decode prog_14_method_26_code 82 = .ok (.invokevirtual 66, 3) := by decide +kernel
theorem d_M_request_85 : decode prog_14_method_26_code 85 = .ok (.aload_n 0, 1) := by decide +kernel
theorem d_M_request_86 : decode prog_14_method_26_code 86 = .ok (.iload_n 1, 1) := by decide +kernel
theorem d_M_request_87 : decode prog_14_method_26_code 87 = .ok (.invokevirtual 70, 3) := by decide +kernel
theorem d_M_request_90 : decode prog_14_method_26_code 90 = .ok (.ireturn, 1) := by decide +kernel
theorem d_M_noGroupNode_0 : decode prog_14_method_4_code 0 = .ok (.iload_n 1, 1) := by decide +kernel
theorem d_M_noGroupNode_1 : decode prog_14_method_4_code 1 = .ok (.iconst 3, 1) := by decide +kernel
theorem d_M_noGroupNode_2 : decode prog_14_method_4_code 2 = .ok (.if_icmp .lt 18, 3) := by decide +kernel
theorem d_M_noGroupNode_5 : decode prog_14_method_4_code 5 = .ok (.iload_n 1, 1) := by decide +kernel
theorem d_M_noGroupNode_6 : decode prog_14_method_4_code 6 = .ok (.bipush 11, 2) := by decide +kernel
theorem d_M_noGroupNode_8 : decode prog_14_method_4_code 8 = .ok (.if_icmp .gt 12, 3) := by decide +kernel
theorem d_M_noGroupNode_11 : decode prog_14_method_4_code 11 = .ok (.aload_n 0, 1) := by decide +kernel
theorem d_M_noGroupNode_12 : decode prog_14_method_4_code 12 = .ok (.getfield 7, 3) := by decide +kernel
theorem d_M_noGroupNode_15 : decode prog_14_method_4_code 15 = .ok (.iload_n 1, 1) := by decide +kernel
theorem d_M_noGroupNode_16 : decode prog_14_method_4_code 16 = .ok (.baload, 1) := by decide +kernel
theorem d_M_noGroupNode_17 : decode prog_14_method_4_code 17 = .ok (.ifCond .eq 7, 3) := by decide +kernel
theorem d_M_noGroupNode_20 : decode prog_14_method_4_code 20 = .ok (.iconst 1, 1) := by decide +kernel
theorem d_M_noGroupNode_21 : decode prog_14_method_4_code 21 = .ok (.goto 4, 3) := by decide +kernel
theorem d_M_noGroupNode_24 : decode prog_14_method_4_code 24 = .ok (.iconst 0, 1) := by decide +kernel
theorem d_M_noGroupNode_25 : decode prog_14_method_4_code 25 = .ok (.ireturn, 1) := by decide +kernel
theorem d_M_poll_0 : decode prog_14_method_27_code 0 = .ok (.aload_n 0, 1) := by decide +kernel
theorem d_M_poll_1 : decode prog_14_method_27_code 1 = .ok (.iload_n 1, 1) := by decide +kernel
theorem d_M_poll_2 : decode prog_14_method_27_code 2 = .ok (.invokevirtual 112, 3) := by decide +kernel
theorem d_M_poll_5 : decode prog_14_method_27_code 5 = .ok (.ifCond .ne 11, 3) := by decide +kernel
theorem d_M_poll_8 : decode prog_14_method_27_code 8 = .ok (.aload_n 0, 1) := by decide +kernel
theorem d_M_poll_9 : decode prog_14_method_27_code 9 = .ok (.iload_n 2, 1) := by decide +kernel
theorem d_M_poll_10 : decode prog_14_method_27_code 10 = .ok (.invokevirtual 108, 3) := by decide +kernel
theorem d_M_poll_13 : decode prog_14_method_27_code 13 = .ok (.ifCond .eq 5, 3) := by decide +kernel
theorem d_M_poll_16 : decode prog_14_method_27_code 16 = .ok (.iconst (-1), 1) := by decide +kernel
theorem d_M_poll_17 : decode prog_14_method_27_code 17 = .ok (.ireturn, 1) := by decide +kernel
theorem d_M_poll_18 : decode prog_14_method_27_code 18 = .ok (.aload_n 0, 1) := by decide +kernel
theorem d_M_poll_19 : decode prog_14_method_27_code 19 = .ok (.getfield 13, 3) := by decide +kernel
theorem d_M_poll_22 : decode prog_14_method_27_code 22 = .ok (.iload_n 1, 1) := by decide +kernel
theorem d_M_poll_23 : decode prog_14_method_27_code 23 = .ok (.baload, 1) := by decide +kernel
theorem d_M_poll_24 : decode prog_14_method_27_code 24 = .ok (.ifCond .ne 6, 3) := by decide +kernel
theorem d_M_poll_27 : decode prog_14_method_27_code 27 = .ok (.bipush (-2), 2) := by decide +kernel
theorem d_M_poll_29 : decode prog_14_method_27_code 29 = .ok (.ireturn, 1) := by decide +kernel
theorem d_M_poll_30 : decode prog_14_method_27_code 30 = .ok (.aload_n 0, 1) := by decide +kernel
theorem d_M_poll_31 : decode prog_14_method_27_code 31 = .ok (.iload_n 1, 1) := by decide +kernel
theorem d_M_poll_32 : decode prog_14_method_27_code 32 = .ok (.invokevirtual 115, 3) := by decide +kernel
theorem d_M_poll_35 : decode prog_14_method_27_code 35 = .ok (.aload_n 0, 1) := by decide +kernel
theorem d_M_poll_36 : decode prog_14_method_27_code 36 = .ok (.iload_n 2, 1) := by decide +kernel
theorem d_M_poll_37 : decode prog_14_method_27_code 37 = .ok (.invokevirtual 118, 3) := by decide +kernel
theorem d_M_poll_40 : decode prog_14_method_27_code 40 = .ok (.aload_n 0, 1) := by decide +kernel
theorem d_M_poll_41 : decode prog_14_method_27_code 41 = .ok (.getfield 99, 3) := by decide +kernel
theorem d_M_poll_44 : decode prog_14_method_27_code 44 = .ok (.iconst 1, 1) := by decide +kernel
theorem d_M_poll_45 : decode prog_14_method_27_code 45 = .ok (.iadd, 1) := by decide +kernel
theorem d_M_poll_46 : decode prog_14_method_27_code 46 = .ok (.istore_n 3, 1) := by decide +kernel
theorem d_M_poll_47 : decode prog_14_method_27_code 47 = .ok (.aload_n 0, 1) := by decide +kernel
theorem d_M_poll_48 : decode prog_14_method_27_code 48 = .ok (.invokevirtual 95, 3) := by decide +kernel
theorem d_M_poll_51 : decode prog_14_method_27_code 51 = .ok (.ifCond .eq 11, 3) := by decide +kernel
theorem d_M_poll_54 : decode prog_14_method_27_code 54 = .ok (.iload_n 3, 1) := by decide +kernel
theorem d_M_poll_55 : decode prog_14_method_27_code 55 = .ok (.aload_n 0, 1) := by decide +kernel
theorem d_M_poll_56 : decode prog_14_method_27_code 56 = .ok (.getfield 83, 3) := by decide +kernel
theorem d_M_poll_59 : decode prog_14_method_27_code 59 = .ok (.if_icmp .lt 6, 3) := by decide +kernel
theorem d_M_poll_62 : decode prog_14_method_27_code 62 = .ok (.bipush (-4), 2) := by decide +kernel
theorem d_M_poll_64 : decode prog_14_method_27_code 64 = .ok (.ireturn, 1) := by decide +kernel
theorem d_M_poll_65 : decode prog_14_method_27_code 65 = .ok (.aload_n 0, 1) := by decide +kernel
theorem d_M_poll_66 : decode prog_14_method_27_code 66 = .ok (.iconst 4, 1) := by decide +kernel
theorem d_M_poll_67 : decode prog_14_method_27_code 67 = .ok (.iload_n 3, 1) := by decide +kernel
theorem d_M_poll_68 : decode prog_14_method_27_code 68 = .ok (.iconst 0, 1) := by decide +kernel
theorem d_M_poll_69 : decode prog_14_method_27_code 69 = .ok (.iconst 0, 1) := by decide +kernel
theorem d_M_poll_70 : decode prog_14_method_27_code 70 = .ok (.iconst 0, 1) := by decide +kernel
theorem d_M_poll_71 : decode prog_14_method_27_code 71 = .ok (.iconst 0, 1) := by decide +kernel
theorem d_M_poll_72 : decode prog_14_method_27_code 72 = .ok (.invokevirtual 66, 3) := by decide +kernel
theorem d_M_poll_75 : decode prog_14_method_27_code 75 = .ok (.iconst 0, 1) := by decide +kernel
theorem d_M_poll_76 : decode prog_14_method_27_code 76 = .ok (.istore 4, 2) := by decide +kernel
theorem d_M_poll_78 : decode prog_14_method_27_code 78 = .ok (.iload 4, 2) := by decide +kernel
theorem d_M_poll_80 : decode prog_14_method_27_code 80 = .ok (.bipush 8, 2) := by decide +kernel
theorem d_M_poll_82 : decode prog_14_method_27_code 82 = .ok (.if_icmp .ge 31, 3) := by decide +kernel
theorem d_M_poll_85 : decode prog_14_method_27_code 85 = .ok (.aload_n 0, 1) := by decide +kernel
theorem d_M_poll_86 : decode prog_14_method_27_code 86 = .ok (.getfield 29, 3) := by decide +kernel
theorem d_M_poll_89 : decode prog_14_method_27_code 89 = .ok (.bipush 7, 2) := by decide +kernel
theorem d_M_poll_91 : decode prog_14_method_27_code 91 = .ok (.iload 4, 2) := by decide +kernel
theorem d_M_poll_93 : decode prog_14_method_27_code 93 = .ok (.iadd, 1) := by decide +kernel
theorem d_M_poll_94 : decode prog_14_method_27_code 94 = .ok (.aload_n 0, 1) := by decide +kernel
theorem d_M_poll_95 : decode prog_14_method_27_code 95 = .ok (.getfield 35, 3) := by decide +kernel
theorem d_M_poll_98 : decode prog_14_method_27_code 98 = .ok (.bipush 8, 2) := by decide +kernel
theorem d_M_poll_100 : decode prog_14_method_27_code 100 = .ok (.iload_n 3, 1) := by decide +kernel
theorem d_M_poll_101 : decode prog_14_method_27_code 101 = .ok (.imul, 1) := by decide +kernel
theorem d_M_poll_102 : decode prog_14_method_27_code 102 = .ok (.iload 4, 2) := by decide +kernel
theorem d_M_poll_104 : decode prog_14_method_27_code 104 = .ok (.iadd, 1) := by decide +kernel
theorem d_M_poll_105 : decode prog_14_method_27_code 105 = .ok (.iaload, 1) := by decide +kernel
theorem d_M_poll_106 : decode prog_14_method_27_code 106 = .ok (.iastore, 1) := by decide +kernel
theorem d_M_poll_107 : decode prog_14_method_27_code 107 = .ok (.iinc 4 1, 3) := by decide +kernel
theorem d_M_poll_110 : decode prog_14_method_27_code 110 = .ok (.goto (-32), 3) := by decide +kernel
theorem d_M_poll_113 : decode prog_14_method_27_code 113 = .ok (.aload_n 0, 1) := by decide +kernel
theorem d_M_poll_114 : decode prog_14_method_27_code 114 = .ok (.iload_n 1, 1) := by decide +kernel
theorem d_M_poll_115 : decode prog_14_method_27_code 115 = .ok (.invokevirtual 70, 3) := by decide +kernel
theorem d_M_poll_118 : decode prog_14_method_27_code 118 = .ok (.ireturn, 1) := by decide +kernel
theorem d_M_group_0 : decode prog_14_method_24_code 0 = .ok (.aload_n 0, 1) := by decide +kernel
theorem d_M_group_1 : decode prog_14_method_24_code 1 = .ok (.iconst 0, 1) := by decide +kernel
end
section
theorem d_M_group_2 : decode prog_14_method_24_code 2 = .ok (.putfield 99, 3) := by decide +kernel
theorem d_M_group_5 : decode prog_14_method_24_code 5 = .ok (.iconst 0, 1) := by decide +kernel
theorem d_M_group_6 : decode prog_14_method_24_code 6 = .ok (.istore_n 2, 1) := by decide +kernel
theorem d_M_group_7 : decode prog_14_method_24_code 7 = .ok (.iload_n 2, 1) := by decide +kernel
theorem d_M_group_8 : decode prog_14_method_24_code 8 = .ok (.bipush 8, 2) := by decide +kernel
theorem d_M_group_10 : decode prog_14_method_24_code 10 = .ok (.if_icmp .ge 23, 3) := by decide +kernel
theorem d_M_group_13 : decode prog_14_method_24_code 13 = .ok (.aload_n 0, 1) := by decide +kernel
theorem d_M_group_14 : decode prog_14_method_24_code 14 = .ok (.getfield 38, 3) := by decide +kernel
theorem d_M_group_17 : decode prog_14_method_24_code 17 = .ok (.iload_n 2, 1) := by decide +kernel
theorem d_M_group_18 : decode prog_14_method_24_code 18 = .ok (.iconst 0, 1) := by decide +kernel
theorem d_M_group_19 : decode prog_14_method_24_code 19 = .ok (.iastore, 1) := by decide +kernel
theorem d_M_group_20 : decode prog_14_method_24_code 20 = .ok (.aload_n 0, 1) := by decide +kernel
theorem d_M_group_21 : decode prog_14_method_24_code 21 = .ok (.getfield 41, 3) := by decide +kernel
theorem d_M_group_24 : decode prog_14_method_24_code 24 = .ok (.iload_n 2, 1) := by decide +kernel
theorem d_M_group_25 : decode prog_14_method_24_code 25 = .ok (.iconst 0, 1) := by decide +kernel
theorem d_M_group_26 : decode prog_14_method_24_code 26 = .ok (.iastore, 1) := by decide +kernel
theorem d_M_group_27 : decode prog_14_method_24_code 27 = .ok (.iinc 2 1, 3) := by decide +kernel
theorem d_M_group_30 : decode prog_14_method_24_code 30 = .ok (.goto (-23), 3) := by decide +kernel
theorem d_M_group_33 : decode prog_14_method_24_code 33 = .ok (.iconst 0, 1) := by decide +kernel
theorem d_M_group_34 : decode prog_14_method_24_code 34 = .ok (.istore_n 2, 1) := by decide +kernel
theorem d_M_group_35 : decode prog_14_method_24_code 35 = .ok (.iload_n 2, 1) := by decide +kernel
theorem d_M_group_36 : decode prog_14_method_24_code 36 = .ok (.aload_n 0, 1) := by decide +kernel
theorem d_M_group_37 : decode prog_14_method_24_code 37 = .ok (.getfield 23, 3) := by decide +kernel
theorem d_M_group_40 : decode prog_14_method_24_code 40 = .ok (.iload_n 1, 1) := by decide +kernel
theorem d_M_group_41 : decode prog_14_method_24_code 41 = .ok (.iaload, 1) := by decide +kernel
theorem d_M_group_42 : decode prog_14_method_24_code 42 = .ok (.if_icmp .ge 190, 3) := by decide +kernel
theorem d_M_group_45 : decode prog_14_method_24_code 45 = .ok (.iload_n 1, 1) := by decide +kernel
theorem d_M_group_46 : decode prog_14_method_24_code 46 = .ok (.iload_n 2, 1) := by decide +kernel
theorem d_M_group_47 : decode prog_14_method_24_code 47 = .ok (.invokestatic 51, 3) := by decide +kernel
theorem d_M_group_50 : decode prog_14_method_24_code 50 = .ok (.istore_n 3, 1) := by decide +kernel
theorem d_M_group_51 : decode prog_14_method_24_code 51 = .ok (.aload_n 0, 1) := by decide +kernel
theorem d_M_group_52 : decode prog_14_method_24_code 52 = .ok (.getfield 26, 3) := by decide +kernel
theorem d_M_group_55 : decode prog_14_method_24_code 55 = .ok (.iload_n 3, 1) := by decide +kernel
theorem d_M_group_56 : decode prog_14_method_24_code 56 = .ok (.iconst 1, 1) := by decide +kernel
theorem d_M_group_57 : decode prog_14_method_24_code 57 = .ok (.iadd, 1) := by decide +kernel
theorem d_M_group_58 : decode prog_14_method_24_code 58 = .ok (.iaload, 1) := by decide +kernel
theorem d_M_group_59 : decode prog_14_method_24_code 59 = .ok (.istore 4, 2) := by decide +kernel
theorem d_M_group_61 : decode prog_14_method_24_code 61 = .ok (.aload_n 0, 1) := by decide +kernel
theorem d_M_group_62 : decode prog_14_method_24_code 62 = .ok (.getfield 26, 3) := by decide +kernel
theorem d_M_group_65 : decode prog_14_method_24_code 65 = .ok (.iload_n 3, 1) := by decide +kernel
theorem d_M_group_66 : decode prog_14_method_24_code 66 = .ok (.iconst 2, 1) := by decide +kernel
theorem d_M_group_67 : decode prog_14_method_24_code 67 = .ok (.iadd, 1) := by decide +kernel
theorem d_M_group_68 : decode prog_14_method_24_code 68 = .ok (.iaload, 1) := by decide +kernel
theorem d_M_group_69 : decode prog_14_method_24_code 69 = .ok (.istore 5, 2) := by decide +kernel
theorem d_M_group_71 : decode prog_14_method_24_code 71 = .ok (.iload 4, 2) := by decide +kernel
theorem d_M_group_73 : decode prog_14_method_24_code 73 = .ok (.bipush 6, 2) := by decide +kernel
theorem d_M_group_75 : decode prog_14_method_24_code 75 = .ok (.if_icmp .eq 10, 3) := by decide +kernel
theorem d_M_group_78 : decode prog_14_method_24_code 78 = .ok (.iload 4, 2) := by decide +kernel
theorem d_M_group_80 : decode prog_14_method_24_code 80 = .ok (.bipush 7, 2) := by decide +kernel
theorem d_M_group_82 : decode prog_14_method_24_code 82 = .ok (.if_icmp .ne 44, 3) := by decide +kernel
theorem d_M_group_85 : decode prog_14_method_24_code 85 = .ok (.aload_n 0, 1) := by decide +kernel
theorem d_M_group_86 : decode prog_14_method_24_code 86 = .ok (.getfield 26, 3) := by decide +kernel
theorem d_M_group_89 : decode prog_14_method_24_code 89 = .ok (.iload_n 3, 1) := by decide +kernel
theorem d_M_group_90 : decode prog_14_method_24_code 90 = .ok (.iconst 3, 1) := by decide +kernel
theorem d_M_group_91 : decode prog_14_method_24_code 91 = .ok (.iadd, 1) := by decide +kernel
theorem d_M_group_92 : decode prog_14_method_24_code 92 = .ok (.iaload, 1) := by decide +kernel
theorem d_M_group_93 : decode prog_14_method_24_code 93 = .ok (.aload_n 0, 1) := by decide +kernel
theorem d_M_group_94 : decode prog_14_method_24_code 94 = .ok (.getfield 99, 3) := by decide +kernel
theorem d_M_group_97 : decode prog_14_method_24_code 97 = .ok (.if_icmp .ne 29, 3) := by decide +kernel
theorem d_M_group_100 : decode prog_14_method_24_code 100 = .ok (.aload_n 0, 1) := by decide +kernel
theorem d_M_group_101 : decode prog_14_method_24_code 101 = .ok (.getfield 41, 3) := by decide +kernel
theorem d_M_group_104 : decode prog_14_method_24_code 104 = .ok (.iload 5, 2) := by decide +kernel
theorem d_M_group_106 : decode prog_14_method_24_code 106 = .ok (.iaload, 1) := by decide +kernel
theorem d_M_group_107 : decode prog_14_method_24_code 107 = .ok (.iload 4, 2) := by decide +kernel
theorem d_M_group_109 : decode prog_14_method_24_code 109 = .ok (.bipush 6, 2) := by decide +kernel
theorem d_M_group_111 : decode prog_14_method_24_code 111 = .ok (.if_icmp .ne 7, 3) := by decide +kernel
theorem d_M_group_114 : decode prog_14_method_24_code 114 = .ok (.iconst 2, 1) := by decide +kernel
theorem d_M_group_115 : decode prog_14_method_24_code 115 = .ok (.goto 4, 3) := by decide +kernel
theorem d_M_group_118 : decode prog_14_method_24_code 118 = .ok (.iconst 3, 1) := by decide +kernel
theorem d_M_group_119 : decode prog_14_method_24_code 119 = .ok (.if_icmp .ne 7, 3) := by decide +kernel
theorem d_M_group_122 : decode prog_14_method_24_code 122 = .ok (.iconst 1, 1) := by decide +kernel
theorem d_M_group_123 : decode prog_14_method_24_code 123 = .ok (.goto 4, 3) := by decide +kernel
theorem d_M_group_126 : decode prog_14_method_24_code 126 = .ok (.iconst 0, 1) := by decide +kernel
theorem d_M_group_127 : decode prog_14_method_24_code 127 = .ok (.istore 6, 2) := by decide +kernel
theorem d_M_group_129 : decode prog_14_method_24_code 129 = .ok (.iload 4, 2) := by decide +kernel
theorem d_M_group_131 : decode prog_14_method_24_code 131 = .ok (.iconst 4, 1) := by decide +kernel
theorem d_M_group_132 : decode prog_14_method_24_code 132 = .ok (.if_icmp .ne 11, 3) := by decide +kernel
theorem d_M_group_135 : decode prog_14_method_24_code 135 = .ok (.aload_n 0, 1) := by decide +kernel
theorem d_M_group_136 : decode prog_14_method_24_code 136 = .ok (.iload_n 1, 1) := by decide +kernel
theorem d_M_group_137 : decode prog_14_method_24_code 137 = .ok (.iconst 3, 1) := by decide +kernel
theorem d_M_group_138 : decode prog_14_method_24_code 138 = .ok (.idiv, 1) := by decide +kernel
theorem d_M_group_139 : decode prog_14_method_24_code 139 = .ok (.iload_n 3, 1) := by decide +kernel
theorem d_M_group_140 : decode prog_14_method_24_code 140 = .ok (.invokevirtual 102, 3) := by decide +kernel
theorem d_M_group_143 : decode prog_14_method_24_code 143 = .ok (.iload 4, 2) := by decide +kernel
theorem d_M_group_145 : decode prog_14_method_24_code 145 = .ok (.iconst 5, 1) := by decide +kernel
theorem d_M_group_146 : decode prog_14_method_24_code 146 = .ok (.if_icmp .ne 8, 3) := by decide +kernel
theorem d_M_group_149 : decode prog_14_method_24_code 149 = .ok (.aload_n 0, 1) := by decide +kernel
theorem d_M_group_150 : decode prog_14_method_24_code 150 = .ok (.iload_n 3, 1) := by decide +kernel
theorem d_M_group_151 : decode prog_14_method_24_code 151 = .ok (.invokevirtual 105, 3) := by decide +kernel
theorem d_M_group_154 : decode prog_14_method_24_code 154 = .ok (.iload 6, 2) := by decide +kernel
theorem d_M_group_156 : decode prog_14_method_24_code 156 = .ok (.ifCond .eq 70, 3) := by decide +kernel
theorem d_M_group_159 : decode prog_14_method_24_code 159 = .ok (.aload_n 0, 1) := by decide +kernel
theorem d_M_group_160 : decode prog_14_method_24_code 160 = .ok (.getfield 41, 3) := by decide +kernel
theorem d_M_group_163 : decode prog_14_method_24_code 163 = .ok (.iload 5, 2) := by decide +kernel
theorem d_M_group_165 : decode prog_14_method_24_code 165 = .ok (.iload 4, 2) := by decide +kernel
theorem d_M_group_167 : decode prog_14_method_24_code 167 = .ok (.bipush 6, 2) := by decide +kernel
theorem d_M_group_169 : decode prog_14_method_24_code 169 = .ok (.if_icmp .ne 7, 3) := by decide +kernel
theorem d_M_group_172 : decode prog_14_method_24_code 172 = .ok (.iconst 1, 1) := by decide +kernel
theorem d_M_group_173 : decode prog_14_method_24_code 173 = .ok (.goto 4, 3) := by decide +kernel
theorem d_M_group_176 : decode prog_14_method_24_code 176 = .ok (.iconst 0, 1) := by decide +kernel
theorem d_M_group_177 : decode prog_14_method_24_code 177 = .ok (.iastore, 1) := by decide +kernel
theorem d_M_group_178 : decode prog_14_method_24_code 178 = .ok (.iconst 0, 1) := by decide +kernel
theorem d_M_group_179 : decode prog_14_method_24_code 179 = .ok (.istore 7, 2) := by decide +kernel
theorem d_M_group_181 : decode prog_14_method_24_code 181 = .ok (.iload 7, 2) := by decide +kernel
theorem d_M_group_183 : decode prog_14_method_24_code 183 = .ok (.bipush 8, 2) := by decide +kernel
theorem d_M_group_185 : decode prog_14_method_24_code 185 = .ok (.if_icmp .ge 41, 3) := by decide +kernel
theorem d_M_group_188 : decode prog_14_method_24_code 188 = .ok (.iload 4, 2) := by decide +kernel
theorem d_M_group_190 : decode prog_14_method_24_code 190 = .ok (.bipush 6, 2) := by decide +kernel
theorem d_M_group_192 : decode prog_14_method_24_code 192 = .ok (.if_icmp .ne 34, 3) := by decide +kernel
theorem d_M_group_195 : decode prog_14_method_24_code 195 = .ok (.aload_n 0, 1) := by decide +kernel
theorem d_M_group_196 : decode prog_14_method_24_code 196 = .ok (.getfield 44, 3) := by decide +kernel
theorem d_M_group_199 : decode prog_14_method_24_code 199 = .ok (.bipush 8, 2) := by decide +kernel
theorem d_M_group_201 : decode prog_14_method_24_code 201 = .ok (.iload 5, 2) := by decide +kernel
theorem d_M_group_203 : decode prog_14_method_24_code 203 = .ok (.imul, 1) := by decide +kernel
theorem d_M_group_204 : decode prog_14_method_24_code 204 = .ok (.iload 7, 2) := by decide +kernel
theorem d_M_group_206 : decode prog_14_method_24_code 206 = .ok (.iadd, 1) := by decide +kernel
theorem d_M_group_207 : decode prog_14_method_24_code 207 = .ok (.aload_n 0, 1) := by decide +kernel
theorem d_M_group_208 : decode prog_14_method_24_code 208 = .ok (.getfield 26, 3) := by decide +kernel
theorem d_M_group_211 : decode prog_14_method_24_code 211 = .ok (.iload_n 3, 1) := by decide +kernel
theorem d_M_group_212 : decode prog_14_method_24_code 212 = .ok (.bipush 7, 2) := by decide +kernel
theorem d_M_group_214 : decode prog_14_method_24_code 214 = .ok (.iadd, 1) := by decide +kernel
theorem d_M_group_215 : decode prog_14_method_24_code 215 = .ok (.iload 7, 2) := by decide +kernel
theorem d_M_group_217 : decode prog_14_method_24_code 217 = .ok (.iadd, 1) := by decide +kernel
theorem d_M_group_218 : decode prog_14_method_24_code 218 = .ok (.iaload, 1) := by decide +kernel
theorem d_M_group_219 : decode prog_14_method_24_code 219 = .ok (.iastore, 1) := by decide +kernel
theorem d_M_group_220 : decode prog_14_method_24_code 220 = .ok (.iinc 7 1, 3) := by decide +kernel
theorem d_M_group_223 : decode prog_14_method_24_code 223 = .ok (.goto (-42), 3) := by decide +kernel
theorem d_M_group_226 : decode prog_14_method_24_code 226 = .ok (.iinc 2 1, 3) := by decide +kernel
theorem d_M_group_229 : decode prog_14_method_24_code 229 = .ok (.goto (-194), 3) := by decide +kernel
theorem d_M_group_232 : decode prog_14_method_24_code 232 = .ok (.return_, 1) := by decide +kernel
theorem d_M_configure_0 : decode prog_14_method_22_code 0 = .ok (.aload_n 0, 1) := by decide +kernel
theorem d_M_configure_1 : decode prog_14_method_22_code 1 = .ok (.invokevirtual 95, 3) := by decide +kernel
theorem d_M_configure_4 : decode prog_14_method_22_code 4 = .ok (.ifCond .eq 20, 3) := by decide +kernel
theorem d_M_configure_7 : decode prog_14_method_22_code 7 = .ok (.aload_n 0, 1) := by decide +kernel
theorem d_M_configure_8 : decode prog_14_method_22_code 8 = .ok (.getfield 26, 3) := by decide +kernel
theorem d_M_configure_11 : decode prog_14_method_22_code 11 = .ok (.iload_n 2, 1) := by decide +kernel
theorem d_M_configure_12 : decode prog_14_method_22_code 12 = .ok (.iconst 2, 1) := by decide +kernel
theorem d_M_configure_13 : decode prog_14_method_22_code 13 = .ok (.iadd, 1) := by decide +kernel
theorem d_M_configure_14 : decode prog_14_method_22_code 14 = .ok (.iaload, 1) := by decide +kernel
theorem d_M_configure_15 : decode prog_14_method_22_code 15 = .ok (.aload_n 0, 1) := by decide +kernel
theorem d_M_configure_16 : decode prog_14_method_22_code 16 = .ok (.getfield 99, 3) := by decide +kernel
theorem d_M_configure_19 : decode prog_14_method_22_code 19 = .ok (.iconst 1, 1) := by decide +kernel
theorem d_M_configure_20 : decode prog_14_method_22_code 20 = .ok (.iadd, 1) := by decide +kernel
theorem d_M_configure_21 : decode prog_14_method_22_code 21 = .ok (.if_icmp .eq 4, 3) := by decide +kernel
theorem d_M_configure_24 : decode prog_14_method_22_code 24 = .ok (.return_, 1) := by decide +kernel
theorem d_M_configure_25 : decode prog_14_method_22_code 25 = .ok (.aload_n 0, 1) := by decide +kernel
theorem d_M_configure_26 : decode prog_14_method_22_code 26 = .ok (.dup, 1) := by decide +kernel
theorem d_M_configure_27 : decode prog_14_method_22_code 27 = .ok (.getfield 99, 3) := by decide +kernel
theorem d_M_configure_30 : decode prog_14_method_22_code 30 = .ok (.iconst 1, 1) := by decide +kernel
theorem d_M_configure_31 : decode prog_14_method_22_code 31 = .ok (.iadd, 1) := by decide +kernel
theorem d_M_configure_32 : decode prog_14_method_22_code 32 = .ok (.putfield 99, 3) := by decide +kernel
theorem d_M_configure_35 : decode prog_14_method_22_code 35 = .ok (.iconst 0, 1) := by decide +kernel
theorem d_M_configure_36 : decode prog_14_method_22_code 36 = .ok (.istore_n 3, 1) := by decide +kernel
theorem d_M_configure_37 : decode prog_14_method_22_code 37 = .ok (.iload_n 3, 1) := by decide +kernel
theorem d_M_configure_38 : decode prog_14_method_22_code 38 = .ok (.bipush 8, 2) := by decide +kernel
theorem d_M_configure_40 : decode prog_14_method_22_code 40 = .ok (.if_icmp .ge 114, 3) := by decide +kernel
theorem d_M_configure_43 : decode prog_14_method_22_code 43 = .ok (.aload_n 0, 1) := by decide +kernel
theorem d_M_configure_44 : decode prog_14_method_22_code 44 = .ok (.getfield 38, 3) := by decide +kernel
theorem d_M_configure_47 : decode prog_14_method_22_code 47 = .ok (.iload_n 3, 1) := by decide +kernel
theorem d_M_configure_48 : decode prog_14_method_22_code 48 = .ok (.iaload, 1) := by decide +kernel
theorem d_M_configure_49 : decode prog_14_method_22_code 49 = .ok (.istore 4, 2) := by decide +kernel
theorem d_M_configure_51 : decode prog_14_method_22_code 51 = .ok (.aload_n 0, 1) := by decide +kernel
theorem d_M_configure_52 : decode prog_14_method_22_code 52 = .ok (.getfield 26, 3) := by decide +kernel
theorem d_M_configure_55 : decode prog_14_method_22_code 55 = .ok (.iload_n 2, 1) := by decide +kernel
theorem d_M_configure_56 : decode prog_14_method_22_code 56 = .ok (.bipush 7, 2) := by decide +kernel
theorem d_M_configure_58 : decode prog_14_method_22_code 58 = .ok (.iadd, 1) := by decide +kernel
theorem d_M_configure_59 : decode prog_14_method_22_code 59 = .ok (.iload_n 3, 1) := by decide +kernel
theorem d_M_configure_60 : decode prog_14_method_22_code 60 = .ok (.iadd, 1) := by decide +kernel
theorem d_M_configure_61 : decode prog_14_method_22_code 61 = .ok (.iaload, 1) := by decide +kernel
theorem d_M_configure_62 : decode prog_14_method_22_code 62 = .ok (.istore 5, 2) := by decide +kernel
theorem d_M_configure_64 : decode prog_14_method_22_code 64 = .ok (.aload_n 0, 1) := by decide +kernel
theorem d_M_configure_65 : decode prog_14_method_22_code 65 = .ok (.getfield 38, 3) := by decide +kernel
theorem d_M_configure_68 : decode prog_14_method_22_code 68 = .ok (.iload_n 3, 1) := by decide +kernel
theorem d_M_configure_69 : decode prog_14_method_22_code 69 = .ok (.iload 5, 2) := by decide +kernel
theorem d_M_configure_71 : decode prog_14_method_22_code 71 = .ok (.iastore, 1) := by decide +kernel
theorem d_M_configure_72 : decode prog_14_method_22_code 72 = .ok (.iload 5, 2) := by decide +kernel
theorem d_M_configure_74 : decode prog_14_method_22_code 74 = .ok (.iload_n 1, 1) := by decide +kernel
theorem d_M_configure_75 : decode prog_14_method_22_code 75 = .ok (.if_icmp .ne 54, 3) := by decide +kernel
theorem d_M_configure_78 : decode prog_14_method_22_code 78 = .ok (.iload 4, 2) := by decide +kernel
theorem d_M_configure_80 : decode prog_14_method_22_code 80 = .ok (.iload_n 1, 1) := by decide +kernel
theorem d_M_configure_81 : decode prog_14_method_22_code 81 = .ok (.if_icmp .eq 48, 3) := by decide +kernel
theorem d_M_configure_84 : decode prog_14_method_22_code 84 = .ok (.aload_n 0, 1) := by decide +kernel
theorem d_M_configure_85 : decode prog_14_method_22_code 85 = .ok (.getfield 41, 3) := by decide +kernel
theorem d_M_configure_88 : decode prog_14_method_22_code 88 = .ok (.iload_n 3, 1) := by decide +kernel
theorem d_M_configure_89 : decode prog_14_method_22_code 89 = .ok (.iload 4, 2) := by decide +kernel
theorem d_M_configure_91 : decode prog_14_method_22_code 91 = .ok (.ifCond .ne 7, 3) := by decide +kernel
theorem d_M_configure_94 : decode prog_14_method_22_code 94 = .ok (.iconst 1, 1) := by decide +kernel
theorem d_M_configure_95 : decode prog_14_method_22_code 95 = .ok (.goto 4, 3) := by decide +kernel
theorem d_M_configure_98 : decode prog_14_method_22_code 98 = .ok (.iconst 2, 1) := by decide +kernel
theorem d_M_configure_99 : decode prog_14_method_22_code 99 = .ok (.iastore, 1) := by decide +kernel
theorem d_M_configure_100 : decode prog_14_method_22_code 100 = .ok (.iconst 0, 1) := by decide +kernel
theorem d_M_configure_101 : decode prog_14_method_22_code 101 = .ok (.istore 6, 2) := by decide +kernel
theorem d_M_configure_103 : decode prog_14_method_22_code 103 = .ok (.iload 6, 2) := by decide +kernel
theorem d_M_configure_105 : decode prog_14_method_22_code 105 = .ok (.bipush 8, 2) := by decide +kernel
theorem d_M_configure_107 : decode prog_14_method_22_code 107 = .ok (.if_icmp .ge 22, 3) := by decide +kernel
theorem d_M_configure_110 : decode prog_14_method_22_code 110 = .ok (.aload_n 0, 1) := by decide +kernel
theorem d_M_configure_111 : decode prog_14_method_22_code 111 = .ok (.getfield 44, 3) := by decide +kernel
theorem d_M_configure_114 : decode prog_14_method_22_code 114 = .ok (.bipush 8, 2) := by decide +kernel
theorem d_M_configure_116 : decode prog_14_method_22_code 116 = .ok (.iload_n 3, 1) := by decide +kernel
theorem d_M_configure_117 : decode prog_14_method_22_code 117 = .ok (.imul, 1) := by decide +kernel
theorem d_M_configure_118 : decode prog_14_method_22_code 118 = .ok (.iload 6, 2) := by decide +kernel
theorem d_M_configure_120 : decode prog_14_method_22_code 120 = .ok (.iadd, 1) := by decide +kernel
theorem d_M_configure_121 : decode prog_14_method_22_code 121 = .ok (.iconst 0, 1) := by decide +kernel
theorem d_M_configure_122 : decode prog_14_method_22_code 122 = .ok (.iastore, 1) := by decide +kernel
theorem d_M_configure_123 : decode prog_14_method_22_code 123 = .ok (.iinc 6 1, 3) := by decide +kernel
theorem d_M_configure_126 : decode prog_14_method_22_code 126 = .ok (.goto (-23), 3) := by decide +kernel
theorem d_M_configure_129 : decode prog_14_method_22_code 129 = .ok (.iload 5, 2) := by decide +kernel
theorem d_M_configure_131 : decode prog_14_method_22_code 131 = .ok (.iload_n 1, 1) := by decide +kernel
theorem d_M_configure_132 : decode prog_14_method_22_code 132 = .ok (.if_icmp .eq 16, 3) := by decide +kernel
theorem d_M_configure_135 : decode prog_14_method_22_code 135 = .ok (.iload 4, 2) := by decide +kernel
theorem d_M_configure_137 : decode prog_14_method_22_code 137 = .ok (.iload_n 1, 1) := by decide +kernel
theorem d_M_configure_138 : decode prog_14_method_22_code 138 = .ok (.if_icmp .ne 10, 3) := by decide +kernel
theorem d_M_configure_141 : decode prog_14_method_22_code 141 = .ok (.aload_n 0, 1) := by decide +kernel
theorem d_M_configure_142 : decode prog_14_method_22_code 142 = .ok (.getfield 41, 3) := by decide +kernel
theorem d_M_configure_145 : decode prog_14_method_22_code 145 = .ok (.iload_n 3, 1) := by decide +kernel
theorem d_M_configure_146 : decode prog_14_method_22_code 146 = .ok (.iconst 3, 1) := by decide +kernel
theorem d_M_configure_147 : decode prog_14_method_22_code 147 = .ok (.iastore, 1) := by decide +kernel
theorem d_M_configure_148 : decode prog_14_method_22_code 148 = .ok (.iinc 3 1, 3) := by decide +kernel
theorem d_M_configure_151 : decode prog_14_method_22_code 151 = .ok (.goto (-114), 3) := by decide +kernel
theorem d_M_configure_154 : decode prog_14_method_22_code 154 = .ok (.return_, 1) := by decide +kernel
end
section
theorem d_M_settled_0 : decode prog_14_method_21_code 0 = .ok (.iconst 1, 1) := by decide +kernel
theorem d_M_settled_1 : decode prog_14_method_21_code 1 = .ok (.istore_n 1, 1) := by decide +kernel
theorem d_M_settled_2 : decode prog_14_method_21_code 2 = .ok (.iconst 0, 1) := by decide +kernel
theorem d_M_settled_3 : decode prog_14_method_21_code 3 = .ok (.istore_n 2, 1) := by decide +kernel
theorem d_M_settled_4 : decode prog_14_method_21_code 4 = .ok (.iload_n 2, 1) := by decide +kernel
theorem d_M_settled_5 : decode prog_14_method_21_code 5 = .ok (.bipush 8, 2) := by decide +kernel
theorem d_M_settled_7 : decode prog_14_method_21_code 7 = .ok (.if_icmp .ge 29, 3) := by decide +kernel
theorem d_M_settled_10 : decode prog_14_method_21_code 10 = .ok (.iload_n 1, 1) := by decide +kernel
theorem d_M_settled_11 : decode prog_14_method_21_code 11 = .ok (.ifCond .eq 17, 3) := by decide +kernel
theorem d_M_settled_14 : decode prog_14_method_21_code 14 = .ok (.aload_n 0, 1) := by decide +kernel
theorem d_M_settled_15 : decode prog_14_method_21_code 15 = .ok (.getfield 41, 3) := by decide +kernel
theorem d_M_settled_18 : decode prog_14_method_21_code 18 = .ok (.iload_n 2, 1) := by decide +kernel
theorem d_M_settled_19 : decode prog_14_method_21_code 19 = .ok (.iaload, 1) := by decide +kernel
theorem d_M_settled_20 : decode prog_14_method_21_code 20 = .ok (.iconst 2, 1) := by decide +kernel
theorem d_M_settled_21 : decode prog_14_method_21_code 21 = .ok (.if_icmp .ge 7, 3) := by decide +kernel
theorem d_M_settled_24 : decode prog_14_method_21_code 24 = .ok (.iconst 1, 1) := by decide +kernel
theorem d_M_settled_25 : decode prog_14_method_21_code 25 = .ok (.goto 4, 3) := by decide +kernel
theorem d_M_settled_28 : decode prog_14_method_21_code 28 = .ok (.iconst 0, 1) := by decide +kernel
theorem d_M_settled_29 : decode prog_14_method_21_code 29 = .ok (.istore_n 1, 1) := by decide +kernel
theorem d_M_settled_30 : decode prog_14_method_21_code 30 = .ok (.iinc 2 1, 3) := by decide +kernel
theorem d_M_settled_33 : decode prog_14_method_21_code 33 = .ok (.goto (-29), 3) := by decide +kernel
theorem d_M_settled_36 : decode prog_14_method_21_code 36 = .ok (.iload_n 1, 1) := by decide +kernel
theorem d_M_settled_37 : decode prog_14_method_21_code 37 = .ok (.ireturn, 1) := by decide +kernel
theorem d_M_effect_0 : decode prog_14_method_23_code 0 = .ok (.aload_n 0, 1) := by decide +kernel
theorem d_M_effect_1 : decode prog_14_method_23_code 1 = .ok (.getfield 26, 3) := by decide +kernel
theorem d_M_effect_4 : decode prog_14_method_23_code 4 = .ok (.iload_n 1, 1) := by decide +kernel
theorem d_M_effect_5 : decode prog_14_method_23_code 5 = .ok (.iconst 2, 1) := by decide +kernel
theorem d_M_effect_6 : decode prog_14_method_23_code 6 = .ok (.iadd, 1) := by decide +kernel
theorem d_M_effect_7 : decode prog_14_method_23_code 7 = .ok (.iaload, 1) := by decide +kernel
theorem d_M_effect_8 : decode prog_14_method_23_code 8 = .ok (.istore_n 2, 1) := by decide +kernel
theorem d_M_effect_9 : decode prog_14_method_23_code 9 = .ok (.aload_n 0, 1) := by decide +kernel
theorem d_M_effect_10 : decode prog_14_method_23_code 10 = .ok (.getfield 26, 3) := by decide +kernel
theorem d_M_effect_13 : decode prog_14_method_23_code 13 = .ok (.iload_n 1, 1) := by decide +kernel
theorem d_M_effect_14 : decode prog_14_method_23_code 14 = .ok (.iconst 5, 1) := by decide +kernel
theorem d_M_effect_15 : decode prog_14_method_23_code 15 = .ok (.iadd, 1) := by decide +kernel
theorem d_M_effect_16 : decode prog_14_method_23_code 16 = .ok (.iaload, 1) := by decide +kernel
theorem d_M_effect_17 : decode prog_14_method_23_code 17 = .ok (.istore_n 3, 1) := by decide +kernel
theorem d_M_effect_18 : decode prog_14_method_23_code 18 = .ok (.iload_n 3, 1) := by decide +kernel
theorem d_M_effect_19 : decode prog_14_method_23_code 19 = .ok (.bipush 8, 2) := by decide +kernel
theorem d_M_effect_21 : decode prog_14_method_23_code 21 = .ok (.irem, 1) := by decide +kernel
theorem d_M_effect_22 : decode prog_14_method_23_code 22 = .ok (.istore 4, 2) := by decide +kernel
theorem d_M_effect_24 : decode prog_14_method_23_code 24 = .ok (.bipush 8, 2) := by decide +kernel
theorem d_M_effect_26 : decode prog_14_method_23_code 26 = .ok (.iload 4, 2) := by decide +kernel
theorem d_M_effect_28 : decode prog_14_method_23_code 28 = .ok (.imul, 1) := by decide +kernel
theorem d_M_effect_29 : decode prog_14_method_23_code 29 = .ok (.iload_n 3, 1) := by decide +kernel
theorem d_M_effect_30 : decode prog_14_method_23_code 30 = .ok (.bipush 8, 2) := by decide +kernel
theorem d_M_effect_32 : decode prog_14_method_23_code 32 = .ok (.idiv, 1) := by decide +kernel
theorem d_M_effect_33 : decode prog_14_method_23_code 33 = .ok (.iadd, 1) := by decide +kernel
theorem d_M_effect_34 : decode prog_14_method_23_code 34 = .ok (.istore 5, 2) := by decide +kernel
theorem d_M_effect_36 : decode prog_14_method_23_code 36 = .ok (.aload_n 0, 1) := by decide +kernel
theorem d_M_effect_37 : decode prog_14_method_23_code 37 = .ok (.getfield 41, 3) := by decide +kernel
theorem d_M_effect_40 : decode prog_14_method_23_code 40 = .ok (.iload 4, 2) := by decide +kernel
theorem d_M_effect_42 : decode prog_14_method_23_code 42 = .ok (.iaload, 1) := by decide +kernel
theorem d_M_effect_43 : decode prog_14_method_23_code 43 = .ok (.iconst 1, 1) := by decide +kernel
theorem d_M_effect_44 : decode prog_14_method_23_code 44 = .ok (.if_icmp .ne 28, 3) := by decide +kernel
theorem d_M_effect_47 : decode prog_14_method_23_code 47 = .ok (.aload_n 0, 1) := by decide +kernel
theorem d_M_effect_48 : decode prog_14_method_23_code 48 = .ok (.getfield 26, 3) := by decide +kernel
theorem d_M_effect_51 : decode prog_14_method_23_code 51 = .ok (.iload_n 1, 1) := by decide +kernel
theorem d_M_effect_52 : decode prog_14_method_23_code 52 = .ok (.iconst 3, 1) := by decide +kernel
theorem d_M_effect_53 : decode prog_14_method_23_code 53 = .ok (.iadd, 1) := by decide +kernel
theorem d_M_effect_54 : decode prog_14_method_23_code 54 = .ok (.iaload, 1) := by decide +kernel
theorem d_M_effect_55 : decode prog_14_method_23_code 55 = .ok (.aload_n 0, 1) := by decide +kernel
theorem d_M_effect_56 : decode prog_14_method_23_code 56 = .ok (.getfield 44, 3) := by decide +kernel
theorem d_M_effect_59 : decode prog_14_method_23_code 59 = .ok (.bipush 8, 2) := by decide +kernel
theorem d_M_effect_61 : decode prog_14_method_23_code 61 = .ok (.iload 4, 2) := by decide +kernel
theorem d_M_effect_63 : decode prog_14_method_23_code 63 = .ok (.imul, 1) := by decide +kernel
theorem d_M_effect_64 : decode prog_14_method_23_code 64 = .ok (.iconst 2, 1) := by decide +kernel
theorem d_M_effect_65 : decode prog_14_method_23_code 65 = .ok (.iadd, 1) := by decide +kernel
theorem d_M_effect_66 : decode prog_14_method_23_code 66 = .ok (.iload_n 2, 1) := by decide +kernel
theorem d_M_effect_67 : decode prog_14_method_23_code 67 = .ok (.iadd, 1) := by decide +kernel
theorem d_M_effect_68 : decode prog_14_method_23_code 68 = .ok (.iaload, 1) := by decide +kernel
theorem d_M_effect_69 : decode prog_14_method_23_code 69 = .ok (.if_icmp .gt 4, 3) := by decide +kernel
theorem d_M_effect_72 : decode prog_14_method_23_code 72 = .ok (.return_, 1) := by decide +kernel
theorem d_M_effect_73 : decode prog_14_method_23_code 73 = .ok (.aload_n 0, 1) := by decide +kernel
theorem d_M_effect_74 : decode prog_14_method_23_code 74 = .ok (.getfield 26, 3) := by decide +kernel
theorem d_M_effect_77 : decode prog_14_method_23_code 77 = .ok (.iload_n 1, 1) := by decide +kernel
theorem d_M_effect_78 : decode prog_14_method_23_code 78 = .ok (.iconst 4, 1) := by decide +kernel
theorem d_M_effect_79 : decode prog_14_method_23_code 79 = .ok (.iadd, 1) := by decide +kernel
theorem d_M_effect_80 : decode prog_14_method_23_code 80 = .ok (.iaload, 1) := by decide +kernel
theorem d_M_effect_81 : decode prog_14_method_23_code 81 = .ok (.istore 6, 2) := by decide +kernel
theorem d_M_effect_83 : decode prog_14_method_23_code 83 = .ok (.aload_n 0, 1) := by decide +kernel
theorem d_M_effect_84 : decode prog_14_method_23_code 84 = .ok (.getfield 26, 3) := by decide +kernel
theorem d_M_effect_87 : decode prog_14_method_23_code 87 = .ok (.iload_n 1, 1) := by decide +kernel
theorem d_M_effect_88 : decode prog_14_method_23_code 88 = .ok (.bipush 6, 2) := by decide +kernel
theorem d_M_effect_90 : decode prog_14_method_23_code 90 = .ok (.iadd, 1) := by decide +kernel
theorem d_M_effect_91 : decode prog_14_method_23_code 91 = .ok (.iaload, 1) := by decide +kernel
theorem d_M_effect_92 : decode prog_14_method_23_code 92 = .ok (.istore 7, 2) := by decide +kernel
theorem d_M_effect_94 : decode prog_14_method_23_code 94 = .ok (.aload_n 0, 1) := by decide +kernel
theorem d_M_effect_95 : decode prog_14_method_23_code 95 = .ok (.getfield 44, 3) := by decide +kernel
theorem d_M_effect_98 : decode prog_14_method_23_code 98 = .ok (.iload 5, 2) := by decide +kernel
theorem d_M_effect_100 : decode prog_14_method_23_code 100 = .ok (.iload 6, 2) := by decide +kernel
theorem d_M_effect_102 : decode prog_14_method_23_code 102 = .ok (.ifCond .ne 13, 3) := by decide +kernel
theorem d_M_effect_105 : decode prog_14_method_23_code 105 = .ok (.aload_n 0, 1) := by decide +kernel
theorem d_M_effect_106 : decode prog_14_method_23_code 106 = .ok (.getfield 44, 3) := by decide +kernel
theorem d_M_effect_109 : decode prog_14_method_23_code 109 = .ok (.iload 5, 2) := by decide +kernel
theorem d_M_effect_111 : decode prog_14_method_23_code 111 = .ok (.iaload, 1) := by decide +kernel
theorem d_M_effect_112 : decode prog_14_method_23_code 112 = .ok (.goto 28, 3) := by decide +kernel
theorem d_M_effect_115 : decode prog_14_method_23_code 115 = .ok (.iload 6, 2) := by decide +kernel
theorem d_M_effect_117 : decode prog_14_method_23_code 117 = .ok (.iconst 1, 1) := by decide +kernel
theorem d_M_effect_118 : decode prog_14_method_23_code 118 = .ok (.if_icmp .ne 8, 3) := by decide +kernel
theorem d_M_effect_121 : decode prog_14_method_23_code 121 = .ok (.iload 7, 2) := by decide +kernel
theorem d_M_effect_123 : decode prog_14_method_23_code 123 = .ok (.goto 17, 3) := by decide +kernel
theorem d_M_effect_126 : decode prog_14_method_23_code 126 = .ok (.aload_n 0, 1) := by decide +kernel
theorem d_M_effect_127 : decode prog_14_method_23_code 127 = .ok (.getfield 44, 3) := by decide +kernel
theorem d_M_effect_130 : decode prog_14_method_23_code 130 = .ok (.iload 5, 2) := by decide +kernel
theorem d_M_effect_132 : decode prog_14_method_23_code 132 = .ok (.iaload, 1) := by decide +kernel
theorem d_M_effect_133 : decode prog_14_method_23_code 133 = .ok (.iload 7, 2) := by decide +kernel
theorem d_M_effect_135 : decode prog_14_method_23_code 135 = .ok (.iadd, 1) := by decide +kernel
theorem d_M_effect_136 : decode prog_14_method_23_code 136 = .ok (.sipush 1000, 3) := by decide +kernel
theorem d_M_effect_139 : decode prog_14_method_23_code 139 = .ok (.irem, 1) := by decide +kernel
theorem d_M_effect_140 : decode prog_14_method_23_code 140 = .ok (.iastore, 1) := by decide +kernel
theorem d_M_effect_141 : decode prog_14_method_23_code 141 = .ok (.aload_n 0, 1) := by decide +kernel
theorem d_M_effect_142 : decode prog_14_method_23_code 142 = .ok (.getfield 44, 3) := by decide +kernel
theorem d_M_effect_145 : decode prog_14_method_23_code 145 = .ok (.bipush 8, 2) := by decide +kernel
theorem d_M_effect_147 : decode prog_14_method_23_code 147 = .ok (.iload 4, 2) := by decide +kernel
theorem d_M_effect_149 : decode prog_14_method_23_code 149 = .ok (.imul, 1) := by decide +kernel
theorem d_M_effect_150 : decode prog_14_method_23_code 150 = .ok (.iconst 2, 1) := by decide +kernel
theorem d_M_effect_151 : decode prog_14_method_23_code 151 = .ok (.iadd, 1) := by decide +kernel
theorem d_M_effect_152 : decode prog_14_method_23_code 152 = .ok (.iload_n 2, 1) := by decide +kernel
theorem d_M_effect_153 : decode prog_14_method_23_code 153 = .ok (.iadd, 1) := by decide +kernel
theorem d_M_effect_154 : decode prog_14_method_23_code 154 = .ok (.aload_n 0, 1) := by decide +kernel
theorem d_M_effect_155 : decode prog_14_method_23_code 155 = .ok (.getfield 26, 3) := by decide +kernel
theorem d_M_effect_158 : decode prog_14_method_23_code 158 = .ok (.iload_n 1, 1) := by decide +kernel
theorem d_M_effect_159 : decode prog_14_method_23_code 159 = .ok (.iconst 3, 1) := by decide +kernel
theorem d_M_effect_160 : decode prog_14_method_23_code 160 = .ok (.iadd, 1) := by decide +kernel
theorem d_M_effect_161 : decode prog_14_method_23_code 161 = .ok (.iaload, 1) := by decide +kernel
theorem d_M_effect_162 : decode prog_14_method_23_code 162 = .ok (.iastore, 1) := by decide +kernel
theorem d_M_effect_163 : decode prog_14_method_23_code 163 = .ok (.aload_n 0, 1) := by decide +kernel
theorem d_M_effect_164 : decode prog_14_method_23_code 164 = .ok (.getfield 44, 3) := by decide +kernel
theorem d_M_effect_167 : decode prog_14_method_23_code 167 = .ok (.bipush 8, 2) := by decide +kernel
theorem d_M_effect_169 : decode prog_14_method_23_code 169 = .ok (.iload 4, 2) := by decide +kernel
theorem d_M_effect_171 : decode prog_14_method_23_code 171 = .ok (.imul, 1) := by decide +kernel
theorem d_M_effect_172 : decode prog_14_method_23_code 172 = .ok (.iconst 5, 1) := by decide +kernel
theorem d_M_effect_173 : decode prog_14_method_23_code 173 = .ok (.iadd, 1) := by decide +kernel
theorem d_M_effect_174 : decode prog_14_method_23_code 174 = .ok (.iload_n 2, 1) := by decide +kernel
theorem d_M_effect_175 : decode prog_14_method_23_code 175 = .ok (.iadd, 1) := by decide +kernel
theorem d_M_effect_176 : decode prog_14_method_23_code 176 = .ok (.aload_n 0, 1) := by decide +kernel
theorem d_M_effect_177 : decode prog_14_method_23_code 177 = .ok (.getfield 44, 3) := by decide +kernel
theorem d_M_effect_180 : decode prog_14_method_23_code 180 = .ok (.iload 5, 2) := by decide +kernel
theorem d_M_effect_182 : decode prog_14_method_23_code 182 = .ok (.iaload, 1) := by decide +kernel
theorem d_M_effect_183 : decode prog_14_method_23_code 183 = .ok (.iastore, 1) := by decide +kernel
theorem d_M_effect_184 : decode prog_14_method_23_code 184 = .ok (.return_, 1) := by decide +kernel
theorem d_M_service_0 : decode prog_14_method_20_code 0 = .ok (.aload_n 0, 1) := by decide +kernel
theorem d_M_service_1 : decode prog_14_method_20_code 1 = .ok (.iconst 1, 1) := by decide +kernel
theorem d_M_service_2 : decode prog_14_method_20_code 2 = .ok (.putfield 83, 3) := by decide +kernel
theorem d_M_service_5 : decode prog_14_method_20_code 5 = .ok (.aload_n 0, 1) := by decide +kernel
theorem d_M_service_6 : decode prog_14_method_20_code 6 = .ok (.getfield 32, 3) := by decide +kernel
theorem d_M_service_9 : decode prog_14_method_20_code 9 = .ok (.iconst 0, 1) := by decide +kernel
theorem d_M_service_10 : decode prog_14_method_20_code 10 = .ok (.iconst 0, 1) := by decide +kernel
theorem d_M_service_11 : decode prog_14_method_20_code 11 = .ok (.iastore, 1) := by decide +kernel
theorem d_M_service_12 : decode prog_14_method_20_code 12 = .ok (.iconst 0, 1) := by decide +kernel
theorem d_M_service_13 : decode prog_14_method_20_code 13 = .ok (.istore_n 2, 1) := by decide +kernel
theorem d_M_service_14 : decode prog_14_method_20_code 14 = .ok (.iload_n 2, 1) := by decide +kernel
theorem d_M_service_15 : decode prog_14_method_20_code 15 = .ok (.bipush 8, 2) := by decide +kernel
theorem d_M_service_17 : decode prog_14_method_20_code 17 = .ok (.if_icmp .ge 16, 3) := by decide +kernel
theorem d_M_service_20 : decode prog_14_method_20_code 20 = .ok (.aload_n 0, 1) := by decide +kernel
theorem d_M_service_21 : decode prog_14_method_20_code 21 = .ok (.getfield 35, 3) := by decide +kernel
theorem d_M_service_24 : decode prog_14_method_20_code 24 = .ok (.iload_n 2, 1) := by decide +kernel
theorem d_M_service_25 : decode prog_14_method_20_code 25 = .ok (.iconst 0, 1) := by decide +kernel
theorem d_M_service_26 : decode prog_14_method_20_code 26 = .ok (.iastore, 1) := by decide +kernel
theorem d_M_service_27 : decode prog_14_method_20_code 27 = .ok (.iinc 2 1, 3) := by decide +kernel
theorem d_M_service_30 : decode prog_14_method_20_code 30 = .ok (.goto (-16), 3) := by decide +kernel
theorem d_M_service_33 : decode prog_14_method_20_code 33 = .ok (.iconst 0, 1) := by decide +kernel
theorem d_M_service_34 : decode prog_14_method_20_code 34 = .ok (.istore_n 2, 1) := by decide +kernel
theorem d_M_service_35 : decode prog_14_method_20_code 35 = .ok (.iload_n 2, 1) := by decide +kernel
theorem d_M_service_36 : decode prog_14_method_20_code 36 = .ok (.aload_n 0, 1) := by decide +kernel
theorem d_M_service_37 : decode prog_14_method_20_code 37 = .ok (.getfield 23, 3) := by decide +kernel
theorem d_M_service_40 : decode prog_14_method_20_code 40 = .ok (.iload_n 1, 1) := by decide +kernel
theorem d_M_service_41 : decode prog_14_method_20_code 41 = .ok (.iaload, 1) := by decide +kernel
theorem d_M_service_42 : decode prog_14_method_20_code 42 = .ok (.if_icmp .ge 59, 3) := by decide +kernel
theorem d_M_service_45 : decode prog_14_method_20_code 45 = .ok (.iload_n 1, 1) := by decide +kernel
theorem d_M_service_46 : decode prog_14_method_20_code 46 = .ok (.iload_n 2, 1) := by decide +kernel
theorem d_M_service_47 : decode prog_14_method_20_code 47 = .ok (.invokestatic 51, 3) := by decide +kernel
theorem d_M_service_50 : decode prog_14_method_20_code 50 = .ok (.istore_n 3, 1) := by decide +kernel
theorem d_M_service_51 : decode prog_14_method_20_code 51 = .ok (.aload_n 0, 1) := by decide +kernel
theorem d_M_service_52 : decode prog_14_method_20_code 52 = .ok (.getfield 26, 3) := by decide +kernel
theorem d_M_service_55 : decode prog_14_method_20_code 55 = .ok (.iload_n 3, 1) := by decide +kernel
theorem d_M_service_56 : decode prog_14_method_20_code 56 = .ok (.iconst 1, 1) := by decide +kernel
theorem d_M_service_57 : decode prog_14_method_20_code 57 = .ok (.iadd, 1) := by decide +kernel
theorem d_M_service_58 : decode prog_14_method_20_code 58 = .ok (.iaload, 1) := by decide +kernel
theorem d_M_service_59 : decode prog_14_method_20_code 59 = .ok (.istore 4, 2) := by decide +kernel
theorem d_M_service_61 : decode prog_14_method_20_code 61 = .ok (.iload 4, 2) := by decide +kernel
theorem d_M_service_63 : decode prog_14_method_20_code 63 = .ok (.iconst 1, 1) := by decide +kernel
theorem d_M_service_64 : decode prog_14_method_20_code 64 = .ok (.if_icmp .lt 31, 3) := by decide +kernel
theorem d_M_service_67 : decode prog_14_method_20_code 67 = .ok (.iload 4, 2) := by decide +kernel
theorem d_M_service_69 : decode prog_14_method_20_code 69 = .ok (.iconst 3, 1) := by decide +kernel
theorem d_M_service_70 : decode prog_14_method_20_code 70 = .ok (.if_icmp .gt 25, 3) := by decide +kernel
theorem d_M_service_73 : decode prog_14_method_20_code 73 = .ok (.aload_n 0, 1) := by decide +kernel
theorem d_M_service_74 : decode prog_14_method_20_code 74 = .ok (.iload 4, 2) := by decide +kernel
theorem d_M_service_76 : decode prog_14_method_20_code 76 = .ok (.aload_n 0, 1) := by decide +kernel
theorem d_M_service_77 : decode prog_14_method_20_code 77 = .ok (.getfield 26, 3) := by decide +kernel
theorem d_M_service_80 : decode prog_14_method_20_code 80 = .ok (.iload_n 3, 1) := by decide +kernel
theorem d_M_service_81 : decode prog_14_method_20_code 81 = .ok (.iconst 2, 1) := by decide +kernel
theorem d_M_service_82 : decode prog_14_method_20_code 82 = .ok (.iadd, 1) := by decide +kernel
theorem d_M_service_83 : decode prog_14_method_20_code 83 = .ok (.iaload, 1) := by decide +kernel
theorem d_M_service_84 : decode prog_14_method_20_code 84 = .ok (.aload_n 0, 1) := by decide +kernel
theorem d_M_service_85 : decode prog_14_method_20_code 85 = .ok (.getfield 26, 3) := by decide +kernel
theorem d_M_service_88 : decode prog_14_method_20_code 88 = .ok (.iload_n 3, 1) := by decide +kernel
theorem d_M_service_89 : decode prog_14_method_20_code 89 = .ok (.iconst 3, 1) := by decide +kernel
theorem d_M_service_90 : decode prog_14_method_20_code 90 = .ok (.iadd, 1) := by decide +kernel
theorem d_M_service_91 : decode prog_14_method_20_code 91 = .ok (.iaload, 1) := by decide +kernel
theorem d_M_service_92 : decode prog_14_method_20_code 92 = .ok (.invokevirtual 91, 3) := by decide +kernel
theorem d_M_service_95 : decode prog_14_method_20_code 95 = .ok (.iinc 2 1, 3) := by decide +kernel
theorem d_M_service_98 : decode prog_14_method_20_code 98 = .ok (.goto (-63), 3) := by decide +kernel
theorem d_M_service_101 : decode prog_14_method_20_code 101 = .ok (.return_, 1) := by decide +kernel
theorem d_M_alter_0 : decode prog_14_method_19_code 0 = .ok (.aload_n 0, 1) := by decide +kernel
theorem d_M_alter_1 : decode prog_14_method_19_code 1 = .ok (.getfield 83, 3) := by decide +kernel
theorem d_M_alter_4 : decode prog_14_method_19_code 4 = .ok (.istore 4, 2) := by decide +kernel
theorem d_M_alter_6 : decode prog_14_method_19_code 6 = .ok (.aload_n 0, 1) := by decide +kernel
theorem d_M_alter_7 : decode prog_14_method_19_code 7 = .ok (.getfield 32, 3) := by decide +kernel
theorem d_M_alter_10 : decode prog_14_method_19_code 10 = .ok (.iload 4, 2) := by decide +kernel
theorem d_M_alter_12 : decode prog_14_method_19_code 12 = .ok (.iconst 1, 1) := by decide +kernel
theorem d_M_alter_13 : decode prog_14_method_19_code 13 = .ok (.isub, 1) := by decide +kernel
theorem d_M_alter_14 : decode prog_14_method_19_code 14 = .ok (.iaload, 1) := by decide +kernel
theorem d_M_alter_15 : decode prog_14_method_19_code 15 = .ok (.istore 5, 2) := by decide +kernel
theorem d_M_alter_17 : decode prog_14_method_19_code 17 = .ok (.iload 5, 2) := by decide +kernel
theorem d_M_alter_19 : decode prog_14_method_19_code 19 = .ok (.iload_n 1, 1) := by decide +kernel
theorem d_M_alter_20 : decode prog_14_method_19_code 20 = .ok (.iconst 3, 1) := by decide +kernel
theorem d_M_alter_21 : decode prog_14_method_19_code 21 = .ok (.if_icmp .ne 7, 3) := by decide +kernel
theorem d_M_alter_24 : decode prog_14_method_19_code 24 = .ok (.iload_n 3, 1) := by decide +kernel
theorem d_M_alter_25 : decode prog_14_method_19_code 25 = .ok (.goto 4, 3) := by decide +kernel
theorem d_M_alter_28 : decode prog_14_method_19_code 28 = .ok (.iload_n 2, 1) := by decide +kernel
theorem d_M_alter_29 : decode prog_14_method_19_code 29 = .ok (.ishr, 1) := by decide +kernel
theorem d_M_alter_30 : decode prog_14_method_19_code 30 = .ok (.iconst 1, 1) := by decide +kernel
theorem d_M_alter_31 : decode prog_14_method_19_code 31 = .ok (.iand, 1) := by decide +kernel
theorem d_M_alter_32 : decode prog_14_method_19_code 32 = .ok (.iconst 1, 1) := by decide +kernel
theorem d_M_alter_33 : decode prog_14_method_19_code 33 = .ok (.if_icmp .ne 7, 3) := by decide +kernel
theorem d_M_alter_36 : decode prog_14_method_19_code 36 = .ok (.iconst 1, 1) := by decide +kernel
theorem d_M_alter_37 : decode prog_14_method_19_code 37 = .ok (.goto 4, 3) := by decide +kernel
theorem d_M_alter_40 : decode prog_14_method_19_code 40 = .ok (.iconst 0, 1) := by decide +kernel
theorem d_M_alter_41 : decode prog_14_method_19_code 41 = .ok (.istore 6, 2) := by decide +kernel
theorem d_M_alter_43 : decode prog_14_method_19_code 43 = .ok (.iload_n 1, 1) := by decide +kernel
theorem d_M_alter_44 : decode prog_14_method_19_code 44 = .ok (.iconst 1, 1) := by decide +kernel
theorem d_M_alter_45 : decode prog_14_method_19_code 45 = .ok (.if_icmp .ne 16, 3) := by decide +kernel
theorem d_M_alter_48 : decode prog_14_method_19_code 48 = .ok (.iload 6, 2) := by decide +kernel
theorem d_M_alter_50 : decode prog_14_method_19_code 50 = .ok (.ifCond .ne 7, 3) := by decide +kernel
theorem d_M_alter_53 : decode prog_14_method_19_code 53 = .ok (.iconst 1, 1) := by decide +kernel
theorem d_M_alter_54 : decode prog_14_method_19_code 54 = .ok (.goto 35, 3) := by decide +kernel
theorem d_M_alter_57 : decode prog_14_method_19_code 57 = .ok (.iconst 0, 1) := by decide +kernel
theorem d_M_alter_58 : decode prog_14_method_19_code 58 = .ok (.goto 31, 3) := by decide +kernel
theorem d_M_alter_61 : decode prog_14_method_19_code 61 = .ok (.iload_n 1, 1) := by decide +kernel
theorem d_M_alter_62 : decode prog_14_method_19_code 62 = .ok (.iconst 2, 1) := by decide +kernel
theorem d_M_alter_63 : decode prog_14_method_19_code 63 = .ok (.if_icmp .ne 24, 3) := by decide +kernel
theorem d_M_alter_66 : decode prog_14_method_19_code 66 = .ok (.iload 6, 2) := by decide +kernel
theorem d_M_alter_68 : decode prog_14_method_19_code 68 = .ok (.ifCond .eq 15, 3) := by decide +kernel
theorem d_M_alter_71 : decode prog_14_method_19_code 71 = .ok (.iload 5, 2) := by decide +kernel
theorem d_M_alter_73 : decode prog_14_method_19_code 73 = .ok (.iconst 1, 1) := by decide +kernel
theorem d_M_alter_74 : decode prog_14_method_19_code 74 = .ok (.iload_n 2, 1) := by decide +kernel
theorem d_M_alter_75 : decode prog_14_method_19_code 75 = .ok (.ishl, 1) := by decide +kernel
theorem d_M_alter_76 : decode prog_14_method_19_code 76 = .ok (.if_icmp .eq 7, 3) := by decide +kernel
end
section
theorem d_M_alter_79 : decode prog_14_method_19_code 79 = .ok (.iconst 1, 1) := by decide +kernel
theorem d_M_alter_80 : decode prog_14_method_19_code 80 = .ok (.goto 9, 3) := by decide +kernel
theorem d_M_alter_83 : decode prog_14_method_19_code 83 = .ok (.iconst 0, 1) := by decide +kernel
theorem d_M_alter_84 : decode prog_14_method_19_code 84 = .ok (.goto 5, 3) := by decide +kernel
theorem d_M_alter_87 : decode prog_14_method_19_code 87 = .ok (.iload 6, 2) := by decide +kernel
theorem d_M_alter_89 : decode prog_14_method_19_code 89 = .ok (.istore 7, 2) := by decide +kernel
theorem d_M_alter_91 : decode prog_14_method_19_code 91 = .ok (.iload 4, 2) := by decide +kernel
theorem d_M_alter_93 : decode prog_14_method_19_code 93 = .ok (.bipush 16, 2) := by decide +kernel
theorem d_M_alter_95 : decode prog_14_method_19_code 95 = .ok (.if_icmp .eq 8, 3) := by decide +kernel
theorem d_M_alter_98 : decode prog_14_method_19_code 98 = .ok (.iload 7, 2) := by decide +kernel
theorem d_M_alter_100 : decode prog_14_method_19_code 100 = .ok (.ifCond .ne 4, 3) := by decide +kernel
theorem d_M_alter_103 : decode prog_14_method_19_code 103 = .ok (.return_, 1) := by decide +kernel
theorem d_M_alter_104 : decode prog_14_method_19_code 104 = .ok (.aload_n 0, 1) := by decide +kernel
theorem d_M_alter_105 : decode prog_14_method_19_code 105 = .ok (.dup, 1) := by decide +kernel
theorem d_M_alter_106 : decode prog_14_method_19_code 106 = .ok (.getfield 83, 3) := by decide +kernel
theorem d_M_alter_109 : decode prog_14_method_19_code 109 = .ok (.iconst 1, 1) := by decide +kernel
theorem d_M_alter_110 : decode prog_14_method_19_code 110 = .ok (.iadd, 1) := by decide +kernel
theorem d_M_alter_111 : decode prog_14_method_19_code 111 = .ok (.putfield 83, 3) := by decide +kernel
theorem d_M_alter_114 : decode prog_14_method_19_code 114 = .ok (.aload_n 0, 1) := by decide +kernel
theorem d_M_alter_115 : decode prog_14_method_19_code 115 = .ok (.getfield 32, 3) := by decide +kernel
theorem d_M_alter_118 : decode prog_14_method_19_code 118 = .ok (.iload 4, 2) := by decide +kernel
theorem d_M_alter_120 : decode prog_14_method_19_code 120 = .ok (.iload_n 1, 1) := by decide +kernel
theorem d_M_alter_121 : decode prog_14_method_19_code 121 = .ok (.iconst 1, 1) := by decide +kernel
theorem d_M_alter_122 : decode prog_14_method_19_code 122 = .ok (.if_icmp .ne 12, 3) := by decide +kernel
theorem d_M_alter_125 : decode prog_14_method_19_code 125 = .ok (.iload 5, 2) := by decide +kernel
theorem d_M_alter_127 : decode prog_14_method_19_code 127 = .ok (.iconst 1, 1) := by decide +kernel
theorem d_M_alter_128 : decode prog_14_method_19_code 128 = .ok (.iload_n 2, 1) := by decide +kernel
theorem d_M_alter_129 : decode prog_14_method_19_code 129 = .ok (.ishl, 1) := by decide +kernel
theorem d_M_alter_130 : decode prog_14_method_19_code 130 = .ok (.ior, 1) := by decide +kernel
theorem d_M_alter_131 : decode prog_14_method_19_code 131 = .ok (.goto 19, 3) := by decide +kernel
theorem d_M_alter_134 : decode prog_14_method_19_code 134 = .ok (.iload_n 1, 1) := by decide +kernel
theorem d_M_alter_135 : decode prog_14_method_19_code 135 = .ok (.iconst 2, 1) := by decide +kernel
theorem d_M_alter_136 : decode prog_14_method_19_code 136 = .ok (.if_icmp .ne 12, 3) := by decide +kernel
theorem d_M_alter_139 : decode prog_14_method_19_code 139 = .ok (.iload 5, 2) := by decide +kernel
theorem d_M_alter_141 : decode prog_14_method_19_code 141 = .ok (.iconst 1, 1) := by decide +kernel
theorem d_M_alter_142 : decode prog_14_method_19_code 142 = .ok (.iload_n 2, 1) := by decide +kernel
theorem d_M_alter_143 : decode prog_14_method_19_code 143 = .ok (.ishl, 1) := by decide +kernel
theorem d_M_alter_144 : decode prog_14_method_19_code 144 = .ok (.isub, 1) := by decide +kernel
theorem d_M_alter_145 : decode prog_14_method_19_code 145 = .ok (.goto 5, 3) := by decide +kernel
theorem d_M_alter_148 : decode prog_14_method_19_code 148 = .ok (.iload 5, 2) := by decide +kernel
theorem d_M_alter_150 : decode prog_14_method_19_code 150 = .ok (.iastore, 1) := by decide +kernel
theorem d_M_alter_151 : decode prog_14_method_19_code 151 = .ok (.iconst 0, 1) := by decide +kernel
theorem d_M_alter_152 : decode prog_14_method_19_code 152 = .ok (.istore 8, 2) := by decide +kernel
theorem d_M_alter_154 : decode prog_14_method_19_code 154 = .ok (.iload 8, 2) := by decide +kernel
theorem d_M_alter_156 : decode prog_14_method_19_code 156 = .ok (.bipush 8, 2) := by decide +kernel
theorem d_M_alter_158 : decode prog_14_method_19_code 158 = .ok (.if_icmp .ge 38, 3) := by decide +kernel
theorem d_M_alter_161 : decode prog_14_method_19_code 161 = .ok (.aload_n 0, 1) := by decide +kernel
theorem d_M_alter_162 : decode prog_14_method_19_code 162 = .ok (.getfield 35, 3) := by decide +kernel
theorem d_M_alter_165 : decode prog_14_method_19_code 165 = .ok (.bipush 8, 2) := by decide +kernel
theorem d_M_alter_167 : decode prog_14_method_19_code 167 = .ok (.iload 4, 2) := by decide +kernel
theorem d_M_alter_169 : decode prog_14_method_19_code 169 = .ok (.imul, 1) := by decide +kernel
theorem d_M_alter_170 : decode prog_14_method_19_code 170 = .ok (.iload 8, 2) := by decide +kernel
theorem d_M_alter_172 : decode prog_14_method_19_code 172 = .ok (.iadd, 1) := by decide +kernel
theorem d_M_alter_173 : decode prog_14_method_19_code 173 = .ok (.aload_n 0, 1) := by decide +kernel
theorem d_M_alter_174 : decode prog_14_method_19_code 174 = .ok (.getfield 35, 3) := by decide +kernel
theorem d_M_alter_177 : decode prog_14_method_19_code 177 = .ok (.bipush 8, 2) := by decide +kernel
theorem d_M_alter_179 : decode prog_14_method_19_code 179 = .ok (.iload 4, 2) := by decide +kernel
theorem d_M_alter_181 : decode prog_14_method_19_code 181 = .ok (.imul, 1) := by decide +kernel
theorem d_M_alter_182 : decode prog_14_method_19_code 182 = .ok (.bipush 8, 2) := by decide +kernel
theorem d_M_alter_184 : decode prog_14_method_19_code 184 = .ok (.isub, 1) := by decide +kernel
theorem d_M_alter_185 : decode prog_14_method_19_code 185 = .ok (.iload 8, 2) := by decide +kernel
theorem d_M_alter_187 : decode prog_14_method_19_code 187 = .ok (.iadd, 1) := by decide +kernel
theorem d_M_alter_188 : decode prog_14_method_19_code 188 = .ok (.iaload, 1) := by decide +kernel
theorem d_M_alter_189 : decode prog_14_method_19_code 189 = .ok (.iastore, 1) := by decide +kernel
theorem d_M_alter_190 : decode prog_14_method_19_code 190 = .ok (.iinc 8 1, 3) := by decide +kernel
theorem d_M_alter_193 : decode prog_14_method_19_code 193 = .ok (.goto (-39), 3) := by decide +kernel
theorem d_M_alter_196 : decode prog_14_method_19_code 196 = .ok (.iload_n 1, 1) := by decide +kernel
theorem d_M_alter_197 : decode prog_14_method_19_code 197 = .ok (.iconst 3, 1) := by decide +kernel
theorem d_M_alter_198 : decode prog_14_method_19_code 198 = .ok (.if_icmp .ne 17, 3) := by decide +kernel
theorem d_M_alter_201 : decode prog_14_method_19_code 201 = .ok (.aload_n 0, 1) := by decide +kernel
theorem d_M_alter_202 : decode prog_14_method_19_code 202 = .ok (.getfield 35, 3) := by decide +kernel
theorem d_M_alter_205 : decode prog_14_method_19_code 205 = .ok (.bipush 8, 2) := by decide +kernel
theorem d_M_alter_207 : decode prog_14_method_19_code 207 = .ok (.iload 4, 2) := by decide +kernel
theorem d_M_alter_209 : decode prog_14_method_19_code 209 = .ok (.imul, 1) := by decide +kernel
theorem d_M_alter_210 : decode prog_14_method_19_code 210 = .ok (.iload_n 2, 1) := by decide +kernel
theorem d_M_alter_211 : decode prog_14_method_19_code 211 = .ok (.iadd, 1) := by decide +kernel
theorem d_M_alter_212 : decode prog_14_method_19_code 212 = .ok (.iload_n 3, 1) := by decide +kernel
theorem d_M_alter_213 : decode prog_14_method_19_code 213 = .ok (.iastore, 1) := by decide +kernel
theorem d_M_alter_214 : decode prog_14_method_19_code 214 = .ok (.return_, 1) := by decide +kernel
theorem d_M_alter_215 : decode prog_14_method_19_code 215 = .ok (.iconst 0, 1) := by decide +kernel
theorem d_M_alter_216 : decode prog_14_method_19_code 216 = .ok (.istore 8, 2) := by decide +kernel
theorem d_M_alter_218 : decode prog_14_method_19_code 218 = .ok (.iload 8, 2) := by decide +kernel
theorem d_M_alter_220 : decode prog_14_method_19_code 220 = .ok (.bipush 8, 2) := by decide +kernel
theorem d_M_alter_222 : decode prog_14_method_19_code 222 = .ok (.if_icmp .ge 75, 3) := by decide +kernel
theorem d_M_alter_225 : decode prog_14_method_19_code 225 = .ok (.iload_n 1, 1) := by decide +kernel
theorem d_M_alter_226 : decode prog_14_method_19_code 226 = .ok (.iconst 1, 1) := by decide +kernel
theorem d_M_alter_227 : decode prog_14_method_19_code 227 = .ok (.if_icmp .ne 22, 3) := by decide +kernel
theorem d_M_alter_230 : decode prog_14_method_19_code 230 = .ok (.iload 5, 2) := by decide +kernel
theorem d_M_alter_232 : decode prog_14_method_19_code 232 = .ok (.ifCond .ne 17, 3) := by decide +kernel
theorem d_M_alter_235 : decode prog_14_method_19_code 235 = .ok (.aload_n 0, 1) := by decide +kernel
theorem d_M_alter_236 : decode prog_14_method_19_code 236 = .ok (.getfield 35, 3) := by decide +kernel
theorem d_M_alter_239 : decode prog_14_method_19_code 239 = .ok (.bipush 8, 2) := by decide +kernel
theorem d_M_alter_241 : decode prog_14_method_19_code 241 = .ok (.iload 4, 2) := by decide +kernel
theorem d_M_alter_243 : decode prog_14_method_19_code 243 = .ok (.imul, 1) := by decide +kernel
theorem d_M_alter_244 : decode prog_14_method_19_code 244 = .ok (.iload 8, 2) := by decide +kernel
theorem d_M_alter_246 : decode prog_14_method_19_code 246 = .ok (.iadd, 1) := by decide +kernel
theorem d_M_alter_247 : decode prog_14_method_19_code 247 = .ok (.iload_n 2, 1) := by decide +kernel
theorem d_M_alter_248 : decode prog_14_method_19_code 248 = .ok (.iastore, 1) := by decide +kernel
theorem d_M_alter_249 : decode prog_14_method_19_code 249 = .ok (.iload_n 1, 1) := by decide +kernel
theorem d_M_alter_250 : decode prog_14_method_19_code 250 = .ok (.iconst 2, 1) := by decide +kernel
theorem d_M_alter_251 : decode prog_14_method_19_code 251 = .ok (.if_icmp .ne 40, 3) := by decide +kernel
theorem d_M_alter_254 : decode prog_14_method_19_code 254 = .ok (.aload_n 0, 1) := by decide +kernel
theorem d_M_alter_255 : decode prog_14_method_19_code 255 = .ok (.getfield 35, 3) := by decide +kernel
theorem d_M_alter_258 : decode prog_14_method_19_code 258 = .ok (.bipush 8, 2) := by decide +kernel
theorem d_M_alter_260 : decode prog_14_method_19_code 260 = .ok (.iload 4, 2) := by decide +kernel
theorem d_M_alter_262 : decode prog_14_method_19_code 262 = .ok (.imul, 1) := by decide +kernel
theorem d_M_alter_263 : decode prog_14_method_19_code 263 = .ok (.iload 8, 2) := by decide +kernel
theorem d_M_alter_265 : decode prog_14_method_19_code 265 = .ok (.iadd, 1) := by decide +kernel
theorem d_M_alter_266 : decode prog_14_method_19_code 266 = .ok (.iaload, 1) := by decide +kernel
theorem d_M_alter_267 : decode prog_14_method_19_code 267 = .ok (.iload_n 2, 1) := by decide +kernel
theorem d_M_alter_268 : decode prog_14_method_19_code 268 = .ok (.if_icmp .ne 23, 3) := by decide +kernel
theorem d_M_alter_271 : decode prog_14_method_19_code 271 = .ok (.aload_n 0, 1) := by decide +kernel
theorem d_M_alter_272 : decode prog_14_method_19_code 272 = .ok (.getfield 35, 3) := by decide +kernel
theorem d_M_alter_275 : decode prog_14_method_19_code 275 = .ok (.bipush 8, 2) := by decide +kernel
theorem d_M_alter_277 : decode prog_14_method_19_code 277 = .ok (.iload 4, 2) := by decide +kernel
theorem d_M_alter_279 : decode prog_14_method_19_code 279 = .ok (.imul, 1) := by decide +kernel
theorem d_M_alter_280 : decode prog_14_method_19_code 280 = .ok (.iload 8, 2) := by decide +kernel
theorem d_M_alter_282 : decode prog_14_method_19_code 282 = .ok (.iadd, 1) := by decide +kernel
theorem d_M_alter_283 : decode prog_14_method_19_code 283 = .ok (.aload_n 0, 1) := by decide +kernel
theorem d_M_alter_284 : decode prog_14_method_19_code 284 = .ok (.iload 4, 2) := by decide +kernel
theorem d_M_alter_286 : decode prog_14_method_19_code 286 = .ok (.iconst 0, 1) := by decide +kernel
theorem d_M_alter_287 : decode prog_14_method_19_code 287 = .ok (.invokevirtual 79, 3) := by decide +kernel
theorem d_M_alter_290 : decode prog_14_method_19_code 290 = .ok (.iastore, 1) := by decide +kernel
theorem d_M_alter_291 : decode prog_14_method_19_code 291 = .ok (.iinc 8 1, 3) := by decide +kernel
theorem d_M_alter_294 : decode prog_14_method_19_code 294 = .ok (.goto (-76), 3) := by decide +kernel
theorem d_M_alter_297 : decode prog_14_method_19_code 297 = .ok (.aload_n 0, 1) := by decide +kernel
theorem d_M_alter_298 : decode prog_14_method_19_code 298 = .ok (.iload 4, 2) := by decide +kernel
theorem d_M_alter_300 : decode prog_14_method_19_code 300 = .ok (.invokevirtual 87, 3) := by decide +kernel
theorem d_M_alter_303 : decode prog_14_method_19_code 303 = .ok (.return_, 1) := by decide +kernel
theorem d_M_extreme_0 : decode prog_14_method_17_code 0 = .ok (.iconst (-1), 1) := by decide +kernel
theorem d_M_extreme_1 : decode prog_14_method_17_code 1 = .ok (.istore_n 3, 1) := by decide +kernel
theorem d_M_extreme_2 : decode prog_14_method_17_code 2 = .ok (.iconst 1, 1) := by decide +kernel
theorem d_M_extreme_3 : decode prog_14_method_17_code 3 = .ok (.istore 4, 2) := by decide +kernel
theorem d_M_extreme_5 : decode prog_14_method_17_code 5 = .ok (.iload 4, 2) := by decide +kernel
theorem d_M_extreme_7 : decode prog_14_method_17_code 7 = .ok (.iconst 3, 1) := by decide +kernel
theorem d_M_extreme_8 : decode prog_14_method_17_code 8 = .ok (.if_icmp .gt 98, 3) := by decide +kernel
theorem d_M_extreme_11 : decode prog_14_method_17_code 11 = .ok (.aload_n 0, 1) := by decide +kernel
theorem d_M_extreme_12 : decode prog_14_method_17_code 12 = .ok (.getfield 32, 3) := by decide +kernel
theorem d_M_extreme_15 : decode prog_14_method_17_code 15 = .ok (.iload_n 1, 1) := by decide +kernel
theorem d_M_extreme_16 : decode prog_14_method_17_code 16 = .ok (.iaload, 1) := by decide +kernel
theorem d_M_extreme_17 : decode prog_14_method_17_code 17 = .ok (.iload 4, 2) := by decide +kernel
theorem d_M_extreme_19 : decode prog_14_method_17_code 19 = .ok (.ishr, 1) := by decide +kernel
theorem d_M_extreme_20 : decode prog_14_method_17_code 20 = .ok (.iconst 1, 1) := by decide +kernel
theorem d_M_extreme_21 : decode prog_14_method_17_code 21 = .ok (.iand, 1) := by decide +kernel
theorem d_M_extreme_22 : decode prog_14_method_17_code 22 = .ok (.iconst 1, 1) := by decide +kernel
theorem d_M_extreme_23 : decode prog_14_method_17_code 23 = .ok (.if_icmp .ne 7, 3) := by decide +kernel
theorem d_M_extreme_26 : decode prog_14_method_17_code 26 = .ok (.iconst 1, 1) := by decide +kernel
theorem d_M_extreme_27 : decode prog_14_method_17_code 27 = .ok (.goto 4, 3) := by decide +kernel
theorem d_M_extreme_30 : decode prog_14_method_17_code 30 = .ok (.iconst 0, 1) := by decide +kernel
theorem d_M_extreme_31 : decode prog_14_method_17_code 31 = .ok (.istore 5, 2) := by decide +kernel
theorem d_M_extreme_33 : decode prog_14_method_17_code 33 = .ok (.iload_n 3, 1) := by decide +kernel
theorem d_M_extreme_34 : decode prog_14_method_17_code 34 = .ok (.ifCond .lt 42, 3) := by decide +kernel
theorem d_M_extreme_37 : decode prog_14_method_17_code 37 = .ok (.iload_n 2, 1) := by decide +kernel
theorem d_M_extreme_38 : decode prog_14_method_17_code 38 = .ok (.ifCond .eq 22, 3) := by decide +kernel
theorem d_M_extreme_41 : decode prog_14_method_17_code 41 = .ok (.aload_n 0, 1) := by decide +kernel
theorem d_M_extreme_42 : decode prog_14_method_17_code 42 = .ok (.iload_n 1, 1) := by decide +kernel
theorem d_M_extreme_43 : decode prog_14_method_17_code 43 = .ok (.iload 4, 2) := by decide +kernel
theorem d_M_extreme_45 : decode prog_14_method_17_code 45 = .ok (.invokevirtual 76, 3) := by decide +kernel
theorem d_M_extreme_48 : decode prog_14_method_17_code 48 = .ok (.aload_n 0, 1) := by decide +kernel
theorem d_M_extreme_49 : decode prog_14_method_17_code 49 = .ok (.iload_n 1, 1) := by decide +kernel
theorem d_M_extreme_50 : decode prog_14_method_17_code 50 = .ok (.iload_n 3, 1) := by decide +kernel
theorem d_M_extreme_51 : decode prog_14_method_17_code 51 = .ok (.invokevirtual 76, 3) := by decide +kernel
theorem d_M_extreme_54 : decode prog_14_method_17_code 54 = .ok (.if_icmp .le 26, 3) := by decide +kernel
theorem d_M_extreme_57 : decode prog_14_method_17_code 57 = .ok (.goto 19, 3) := by decide +kernel
theorem d_M_extreme_60 : decode prog_14_method_17_code 60 = .ok (.aload_n 0, 1) := by decide +kernel
theorem d_M_extreme_61 : decode prog_14_method_17_code 61 = .ok (.iload_n 1, 1) := by decide +kernel
theorem d_M_extreme_62 : decode prog_14_method_17_code 62 = .ok (.iload 4, 2) := by decide +kernel
theorem d_M_extreme_64 : decode prog_14_method_17_code 64 = .ok (.invokevirtual 76, 3) := by decide +kernel
theorem d_M_extreme_67 : decode prog_14_method_17_code 67 = .ok (.aload_n 0, 1) := by decide +kernel
theorem d_M_extreme_68 : decode prog_14_method_17_code 68 = .ok (.iload_n 1, 1) := by decide +kernel
theorem d_M_extreme_69 : decode prog_14_method_17_code 69 = .ok (.iload_n 3, 1) := by decide +kernel
theorem d_M_extreme_70 : decode prog_14_method_17_code 70 = .ok (.invokevirtual 76, 3) := by decide +kernel
theorem d_M_extreme_73 : decode prog_14_method_17_code 73 = .ok (.if_icmp .ge 7, 3) := by decide +kernel
theorem d_M_extreme_76 : decode prog_14_method_17_code 76 = .ok (.iconst 1, 1) := by decide +kernel
theorem d_M_extreme_77 : decode prog_14_method_17_code 77 = .ok (.goto 4, 3) := by decide +kernel
theorem d_M_extreme_80 : decode prog_14_method_17_code 80 = .ok (.iconst 0, 1) := by decide +kernel
theorem d_M_extreme_81 : decode prog_14_method_17_code 81 = .ok (.istore 6, 2) := by decide +kernel
theorem d_M_extreme_83 : decode prog_14_method_17_code 83 = .ok (.iload 5, 2) := by decide +kernel
theorem d_M_extreme_85 : decode prog_14_method_17_code 85 = .ok (.ifCond .eq 13, 3) := by decide +kernel
theorem d_M_extreme_88 : decode prog_14_method_17_code 88 = .ok (.iload 6, 2) := by decide +kernel
theorem d_M_extreme_90 : decode prog_14_method_17_code 90 = .ok (.ifCond .eq 8, 3) := by decide +kernel
theorem d_M_extreme_93 : decode prog_14_method_17_code 93 = .ok (.iload 4, 2) := by decide +kernel
theorem d_M_extreme_95 : decode prog_14_method_17_code 95 = .ok (.goto 4, 3) := by decide +kernel
theorem d_M_extreme_98 : decode prog_14_method_17_code 98 = .ok (.iload_n 3, 1) := by decide +kernel
theorem d_M_extreme_99 : decode prog_14_method_17_code 99 = .ok (.istore_n 3, 1) := by decide +kernel
theorem d_M_extreme_100 : decode prog_14_method_17_code 100 = .ok (.iinc 4 1, 3) := by decide +kernel
theorem d_M_extreme_103 : decode prog_14_method_17_code 103 = .ok (.goto (-98), 3) := by decide +kernel
theorem d_M_extreme_106 : decode prog_14_method_17_code 106 = .ok (.iload_n 3, 1) := by decide +kernel
theorem d_M_extreme_107 : decode prog_14_method_17_code 107 = .ok (.ireturn, 1) := by decide +kernel
theorem d_M_owned_0 : decode prog_14_method_16_code 0 = .ok (.iconst 0, 1) := by decide +kernel
theorem d_M_owned_1 : decode prog_14_method_16_code 1 = .ok (.istore_n 3, 1) := by decide +kernel
theorem d_M_owned_2 : decode prog_14_method_16_code 2 = .ok (.iconst 0, 1) := by decide +kernel
theorem d_M_owned_3 : decode prog_14_method_16_code 3 = .ok (.istore 4, 2) := by decide +kernel
theorem d_M_owned_5 : decode prog_14_method_16_code 5 = .ok (.iload 4, 2) := by decide +kernel
theorem d_M_owned_7 : decode prog_14_method_16_code 7 = .ok (.bipush 8, 2) := by decide +kernel
theorem d_M_owned_9 : decode prog_14_method_16_code 9 = .ok (.if_icmp .ge 33, 3) := by decide +kernel
theorem d_M_owned_12 : decode prog_14_method_16_code 12 = .ok (.iload_n 3, 1) := by decide +kernel
theorem d_M_owned_13 : decode prog_14_method_16_code 13 = .ok (.aload_n 0, 1) := by decide +kernel
theorem d_M_owned_14 : decode prog_14_method_16_code 14 = .ok (.getfield 35, 3) := by decide +kernel
theorem d_M_owned_17 : decode prog_14_method_16_code 17 = .ok (.bipush 8, 2) := by decide +kernel
theorem d_M_owned_19 : decode prog_14_method_16_code 19 = .ok (.iload_n 1, 1) := by decide +kernel
theorem d_M_owned_20 : decode prog_14_method_16_code 20 = .ok (.imul, 1) := by decide +kernel
theorem d_M_owned_21 : decode prog_14_method_16_code 21 = .ok (.iload 4, 2) := by decide +kernel
theorem d_M_owned_23 : decode prog_14_method_16_code 23 = .ok (.iadd, 1) := by decide +kernel
theorem d_M_owned_24 : decode prog_14_method_16_code 24 = .ok (.iaload, 1) := by decide +kernel
theorem d_M_owned_25 : decode prog_14_method_16_code 25 = .ok (.iload_n 2, 1) := by decide +kernel
theorem d_M_owned_26 : decode prog_14_method_16_code 26 = .ok (.if_icmp .ne 7, 3) := by decide +kernel
theorem d_M_owned_29 : decode prog_14_method_16_code 29 = .ok (.iconst 1, 1) := by decide +kernel
theorem d_M_owned_30 : decode prog_14_method_16_code 30 = .ok (.goto 4, 3) := by decide +kernel
theorem d_M_owned_33 : decode prog_14_method_16_code 33 = .ok (.iconst 0, 1) := by decide +kernel
theorem d_M_owned_34 : decode prog_14_method_16_code 34 = .ok (.iadd, 1) := by decide +kernel
theorem d_M_owned_35 : decode prog_14_method_16_code 35 = .ok (.istore_n 3, 1) := by decide +kernel
theorem d_M_owned_36 : decode prog_14_method_16_code 36 = .ok (.iinc 4 1, 3) := by decide +kernel
theorem d_M_owned_39 : decode prog_14_method_16_code 39 = .ok (.goto (-34), 3) := by decide +kernel
theorem d_M_owned_42 : decode prog_14_method_16_code 42 = .ok (.iload_n 3, 1) := by decide +kernel
theorem d_M_owned_43 : decode prog_14_method_16_code 43 = .ok (.ireturn, 1) := by decide +kernel
end
section
theorem d_M_balance_0 : decode prog_14_method_18_code 0 = .ok (.iconst 0, 1) := by decide +kernel
theorem d_M_balance_1 : decode prog_14_method_18_code 1 = .ok (.istore_n 2, 1) := by decide +kernel
theorem d_M_balance_2 : decode prog_14_method_18_code 2 = .ok (.iload_n 2, 1) := by decide +kernel
theorem d_M_balance_3 : decode prog_14_method_18_code 3 = .ok (.bipush 8, 2) := by decide +kernel
theorem d_M_balance_5 : decode prog_14_method_18_code 5 = .ok (.if_icmp .ge 103, 3) := by decide +kernel
theorem d_M_balance_8 : decode prog_14_method_18_code 8 = .ok (.aload_n 0, 1) := by decide +kernel
theorem d_M_balance_9 : decode prog_14_method_18_code 9 = .ok (.iload_n 1, 1) := by decide +kernel
theorem d_M_balance_10 : decode prog_14_method_18_code 10 = .ok (.iconst 1, 1) := by decide +kernel
theorem d_M_balance_11 : decode prog_14_method_18_code 11 = .ok (.invokevirtual 79, 3) := by decide +kernel
theorem d_M_balance_14 : decode prog_14_method_18_code 14 = .ok (.istore_n 3, 1) := by decide +kernel
theorem d_M_balance_15 : decode prog_14_method_18_code 15 = .ok (.aload_n 0, 1) := by decide +kernel
theorem d_M_balance_16 : decode prog_14_method_18_code 16 = .ok (.iload_n 1, 1) := by decide +kernel
theorem d_M_balance_17 : decode prog_14_method_18_code 17 = .ok (.iconst 0, 1) := by decide +kernel
theorem d_M_balance_18 : decode prog_14_method_18_code 18 = .ok (.invokevirtual 79, 3) := by decide +kernel
theorem d_M_balance_21 : decode prog_14_method_18_code 21 = .ok (.istore 4, 2) := by decide +kernel
theorem d_M_balance_23 : decode prog_14_method_18_code 23 = .ok (.aload_n 0, 1) := by decide +kernel
theorem d_M_balance_24 : decode prog_14_method_18_code 24 = .ok (.iload_n 1, 1) := by decide +kernel
theorem d_M_balance_25 : decode prog_14_method_18_code 25 = .ok (.iload_n 3, 1) := by decide +kernel
theorem d_M_balance_26 : decode prog_14_method_18_code 26 = .ok (.invokevirtual 76, 3) := by decide +kernel
theorem d_M_balance_29 : decode prog_14_method_18_code 29 = .ok (.aload_n 0, 1) := by decide +kernel
theorem d_M_balance_30 : decode prog_14_method_18_code 30 = .ok (.iload_n 1, 1) := by decide +kernel
theorem d_M_balance_31 : decode prog_14_method_18_code 31 = .ok (.iload 4, 2) := by decide +kernel
theorem d_M_balance_33 : decode prog_14_method_18_code 33 = .ok (.invokevirtual 76, 3) := by decide +kernel
theorem d_M_balance_36 : decode prog_14_method_18_code 36 = .ok (.iconst 2, 1) := by decide +kernel
theorem d_M_balance_37 : decode prog_14_method_18_code 37 = .ok (.iadd, 1) := by decide +kernel
theorem d_M_balance_38 : decode prog_14_method_18_code 38 = .ok (.if_icmp .ge 7, 3) := by decide +kernel
theorem d_M_balance_41 : decode prog_14_method_18_code 41 = .ok (.iconst 1, 1) := by decide +kernel
theorem d_M_balance_42 : decode prog_14_method_18_code 42 = .ok (.goto 4, 3) := by decide +kernel
theorem d_M_balance_45 : decode prog_14_method_18_code 45 = .ok (.iconst 0, 1) := by decide +kernel
theorem d_M_balance_46 : decode prog_14_method_18_code 46 = .ok (.istore 5, 2) := by decide +kernel
theorem d_M_balance_48 : decode prog_14_method_18_code 48 = .ok (.iconst 0, 1) := by decide +kernel
theorem d_M_balance_49 : decode prog_14_method_18_code 49 = .ok (.istore 6, 2) := by decide +kernel
theorem d_M_balance_51 : decode prog_14_method_18_code 51 = .ok (.iload 6, 2) := by decide +kernel
theorem d_M_balance_53 : decode prog_14_method_18_code 53 = .ok (.bipush 8, 2) := by decide +kernel
theorem d_M_balance_55 : decode prog_14_method_18_code 55 = .ok (.if_icmp .ge 47, 3) := by decide +kernel
theorem d_M_balance_58 : decode prog_14_method_18_code 58 = .ok (.iload 5, 2) := by decide +kernel
theorem d_M_balance_60 : decode prog_14_method_18_code 60 = .ok (.ifCond .ne 42, 3) := by decide +kernel
theorem d_M_balance_63 : decode prog_14_method_18_code 63 = .ok (.aload_n 0, 1) := by decide +kernel
theorem d_M_balance_64 : decode prog_14_method_18_code 64 = .ok (.getfield 35, 3) := by decide +kernel
theorem d_M_balance_67 : decode prog_14_method_18_code 67 = .ok (.bipush 8, 2) := by decide +kernel
theorem d_M_balance_69 : decode prog_14_method_18_code 69 = .ok (.iload_n 1, 1) := by decide +kernel
theorem d_M_balance_70 : decode prog_14_method_18_code 70 = .ok (.imul, 1) := by decide +kernel
theorem d_M_balance_71 : decode prog_14_method_18_code 71 = .ok (.iload 6, 2) := by decide +kernel
theorem d_M_balance_73 : decode prog_14_method_18_code 73 = .ok (.iadd, 1) := by decide +kernel
theorem d_M_balance_74 : decode prog_14_method_18_code 74 = .ok (.iaload, 1) := by decide +kernel
theorem d_M_balance_75 : decode prog_14_method_18_code 75 = .ok (.iload_n 3, 1) := by decide +kernel
theorem d_M_balance_76 : decode prog_14_method_18_code 76 = .ok (.if_icmp .ne 20, 3) := by decide +kernel
theorem d_M_balance_79 : decode prog_14_method_18_code 79 = .ok (.aload_n 0, 1) := by decide +kernel
theorem d_M_balance_80 : decode prog_14_method_18_code 80 = .ok (.getfield 35, 3) := by decide +kernel
theorem d_M_balance_83 : decode prog_14_method_18_code 83 = .ok (.bipush 8, 2) := by decide +kernel
theorem d_M_balance_85 : decode prog_14_method_18_code 85 = .ok (.iload_n 1, 1) := by decide +kernel
theorem d_M_balance_86 : decode prog_14_method_18_code 86 = .ok (.imul, 1) := by decide +kernel
theorem d_M_balance_87 : decode prog_14_method_18_code 87 = .ok (.iload 6, 2) := by decide +kernel
theorem d_M_balance_89 : decode prog_14_method_18_code 89 = .ok (.iadd, 1) := by decide +kernel
theorem d_M_balance_90 : decode prog_14_method_18_code 90 = .ok (.iload 4, 2) := by decide +kernel
theorem d_M_balance_92 : decode prog_14_method_18_code 92 = .ok (.iastore, 1) := by decide +kernel
theorem d_M_balance_93 : decode prog_14_method_18_code 93 = .ok (.iconst 1, 1) := by decide +kernel
theorem d_M_balance_94 : decode prog_14_method_18_code 94 = .ok (.istore 5, 2) := by decide +kernel
theorem d_M_balance_96 : decode prog_14_method_18_code 96 = .ok (.iinc 6 1, 3) := by decide +kernel
theorem d_M_balance_99 : decode prog_14_method_18_code 99 = .ok (.goto (-48), 3) := by decide +kernel
theorem d_M_balance_102 : decode prog_14_method_18_code 102 = .ok (.iinc 2 1, 3) := by decide +kernel
theorem d_M_balance_105 : decode prog_14_method_18_code 105 = .ok (.goto (-103), 3) := by decide +kernel
theorem d_M_balance_108 : decode prog_14_method_18_code 108 = .ok (.return_, 1) := by decide +kernel
theorem d_M_pull_0 : decode prog_14_method_28_code 0 = .ok (.aload_n 0, 1) := by decide +kernel
theorem d_M_pull_1 : decode prog_14_method_28_code 1 = .ok (.iload_n 1, 1) := by decide +kernel
theorem d_M_pull_2 : decode prog_14_method_28_code 2 = .ok (.invokevirtual 112, 3) := by decide +kernel
theorem d_M_pull_5 : decode prog_14_method_28_code 5 = .ok (.ifCond .ne 20, 3) := by decide +kernel
theorem d_M_pull_8 : decode prog_14_method_28_code 8 = .ok (.aload_n 0, 1) := by decide +kernel
theorem d_M_pull_9 : decode prog_14_method_28_code 9 = .ok (.iload_n 3, 1) := by decide +kernel
theorem d_M_pull_10 : decode prog_14_method_28_code 10 = .ok (.invokevirtual 112, 3) := by decide +kernel
theorem d_M_pull_13 : decode prog_14_method_28_code 13 = .ok (.ifCond .ne 12, 3) := by decide +kernel
theorem d_M_pull_16 : decode prog_14_method_28_code 16 = .ok (.iload_n 2, 1) := by decide +kernel
theorem d_M_pull_17 : decode prog_14_method_28_code 17 = .ok (.bipush 8, 2) := by decide +kernel
theorem d_M_pull_19 : decode prog_14_method_28_code 19 = .ok (.invokestatic 47, 3) := by decide +kernel
theorem d_M_pull_22 : decode prog_14_method_28_code 22 = .ok (.ifCond .ne 5, 3) := by decide +kernel
theorem d_M_pull_25 : decode prog_14_method_28_code 25 = .ok (.iconst (-1), 1) := by decide +kernel
theorem d_M_pull_26 : decode prog_14_method_28_code 26 = .ok (.ireturn, 1) := by decide +kernel
theorem d_M_pull_27 : decode prog_14_method_28_code 27 = .ok (.aload_n 0, 1) := by decide +kernel
theorem d_M_pull_28 : decode prog_14_method_28_code 28 = .ok (.getfield 13, 3) := by decide +kernel
theorem d_M_pull_31 : decode prog_14_method_28_code 31 = .ok (.iload_n 1, 1) := by decide +kernel
theorem d_M_pull_32 : decode prog_14_method_28_code 32 = .ok (.baload, 1) := by decide +kernel
theorem d_M_pull_33 : decode prog_14_method_28_code 33 = .ok (.ifCond .ne 6, 3) := by decide +kernel
theorem d_M_pull_36 : decode prog_14_method_28_code 36 = .ok (.bipush (-2), 2) := by decide +kernel
theorem d_M_pull_38 : decode prog_14_method_28_code 38 = .ok (.ireturn, 1) := by decide +kernel
theorem d_M_pull_39 : decode prog_14_method_28_code 39 = .ok (.aload_n 0, 1) := by decide +kernel
theorem d_M_pull_40 : decode prog_14_method_28_code 40 = .ok (.iload_n 1, 1) := by decide +kernel
theorem d_M_pull_41 : decode prog_14_method_28_code 41 = .ok (.invokevirtual 115, 3) := by decide +kernel
theorem d_M_pull_44 : decode prog_14_method_28_code 44 = .ok (.aload_n 0, 1) := by decide +kernel
theorem d_M_pull_45 : decode prog_14_method_28_code 45 = .ok (.getfield 41, 3) := by decide +kernel
theorem d_M_pull_48 : decode prog_14_method_28_code 48 = .ok (.iload_n 2, 1) := by decide +kernel
theorem d_M_pull_49 : decode prog_14_method_28_code 49 = .ok (.iaload, 1) := by decide +kernel
theorem d_M_pull_50 : decode prog_14_method_28_code 50 = .ok (.iconst 2, 1) := by decide +kernel
theorem d_M_pull_51 : decode prog_14_method_28_code 51 = .ok (.if_icmp .ne 7, 3) := by decide +kernel
theorem d_M_pull_54 : decode prog_14_method_28_code 54 = .ok (.iconst 1, 1) := by decide +kernel
theorem d_M_pull_55 : decode prog_14_method_28_code 55 = .ok (.goto 4, 3) := by decide +kernel
theorem d_M_pull_58 : decode prog_14_method_28_code 58 = .ok (.iconst 0, 1) := by decide +kernel
theorem d_M_pull_59 : decode prog_14_method_28_code 59 = .ok (.istore 4, 2) := by decide +kernel
theorem d_M_pull_61 : decode prog_14_method_28_code 61 = .ok (.aload_n 0, 1) := by decide +kernel
theorem d_M_pull_62 : decode prog_14_method_28_code 62 = .ok (.getfield 99, 3) := by decide +kernel
theorem d_M_pull_65 : decode prog_14_method_28_code 65 = .ok (.istore 5, 2) := by decide +kernel
theorem d_M_pull_67 : decode prog_14_method_28_code 67 = .ok (.aload_n 0, 1) := by decide +kernel
theorem d_M_pull_68 : decode prog_14_method_28_code 68 = .ok (.iload_n 3, 1) := by decide +kernel
theorem d_M_pull_69 : decode prog_14_method_28_code 69 = .ok (.invokevirtual 115, 3) := by decide +kernel
theorem d_M_pull_72 : decode prog_14_method_28_code 72 = .ok (.iload 4, 2) := by decide +kernel
theorem d_M_pull_74 : decode prog_14_method_28_code 74 = .ok (.ifCond .eq 22, 3) := by decide +kernel
theorem d_M_pull_77 : decode prog_14_method_28_code 77 = .ok (.aload_n 0, 1) := by decide +kernel
theorem d_M_pull_78 : decode prog_14_method_28_code 78 = .ok (.getfield 41, 3) := by decide +kernel
theorem d_M_pull_81 : decode prog_14_method_28_code 81 = .ok (.iload_n 2, 1) := by decide +kernel
theorem d_M_pull_82 : decode prog_14_method_28_code 82 = .ok (.iaload, 1) := by decide +kernel
theorem d_M_pull_83 : decode prog_14_method_28_code 83 = .ok (.iconst 3, 1) := by decide +kernel
theorem d_M_pull_84 : decode prog_14_method_28_code 84 = .ok (.if_icmp .ne 12, 3) := by decide +kernel
theorem d_M_pull_87 : decode prog_14_method_28_code 87 = .ok (.aload_n 0, 1) := by decide +kernel
theorem d_M_pull_88 : decode prog_14_method_28_code 88 = .ok (.getfield 99, 3) := by decide +kernel
theorem d_M_pull_91 : decode prog_14_method_28_code 91 = .ok (.iload 5, 2) := by decide +kernel
theorem d_M_pull_93 : decode prog_14_method_28_code 93 = .ok (.if_icmp .eq 6, 3) := by decide +kernel
theorem d_M_pull_96 : decode prog_14_method_28_code 96 = .ok (.bipush (-4), 2) := by decide +kernel
theorem d_M_pull_98 : decode prog_14_method_28_code 98 = .ok (.ireturn, 1) := by decide +kernel
theorem d_M_pull_99 : decode prog_14_method_28_code 99 = .ok (.aload_n 0, 1) := by decide +kernel
theorem d_M_pull_100 : decode prog_14_method_28_code 100 = .ok (.bipush 6, 2) := by decide +kernel
theorem d_M_pull_102 : decode prog_14_method_28_code 102 = .ok (.iload_n 2, 1) := by decide +kernel
theorem d_M_pull_103 : decode prog_14_method_28_code 103 = .ok (.iload 5, 2) := by decide +kernel
theorem d_M_pull_105 : decode prog_14_method_28_code 105 = .ok (.iconst 0, 1) := by decide +kernel
theorem d_M_pull_106 : decode prog_14_method_28_code 106 = .ok (.iconst 0, 1) := by decide +kernel
theorem d_M_pull_107 : decode prog_14_method_28_code 107 = .ok (.iconst 0, 1) := by decide +kernel
theorem d_M_pull_108 : decode prog_14_method_28_code 108 = .ok (.invokevirtual 66, 3) := by decide +kernel
theorem d_M_pull_111 : decode prog_14_method_28_code 111 = .ok (.iconst 0, 1) := by decide +kernel
theorem d_M_pull_112 : decode prog_14_method_28_code 112 = .ok (.istore 6, 2) := by decide +kernel
theorem d_M_pull_114 : decode prog_14_method_28_code 114 = .ok (.iload 6, 2) := by decide +kernel
theorem d_M_pull_116 : decode prog_14_method_28_code 116 = .ok (.bipush 8, 2) := by decide +kernel
theorem d_M_pull_118 : decode prog_14_method_28_code 118 = .ok (.if_icmp .ge 31, 3) := by decide +kernel
theorem d_M_pull_121 : decode prog_14_method_28_code 121 = .ok (.aload_n 0, 1) := by decide +kernel
theorem d_M_pull_122 : decode prog_14_method_28_code 122 = .ok (.getfield 29, 3) := by decide +kernel
theorem d_M_pull_125 : decode prog_14_method_28_code 125 = .ok (.bipush 7, 2) := by decide +kernel
theorem d_M_pull_127 : decode prog_14_method_28_code 127 = .ok (.iload 6, 2) := by decide +kernel
theorem d_M_pull_129 : decode prog_14_method_28_code 129 = .ok (.iadd, 1) := by decide +kernel
theorem d_M_pull_130 : decode prog_14_method_28_code 130 = .ok (.aload_n 0, 1) := by decide +kernel
theorem d_M_pull_131 : decode prog_14_method_28_code 131 = .ok (.getfield 44, 3) := by decide +kernel
theorem d_M_pull_134 : decode prog_14_method_28_code 134 = .ok (.bipush 8, 2) := by decide +kernel
theorem d_M_pull_136 : decode prog_14_method_28_code 136 = .ok (.iload_n 2, 1) := by decide +kernel
theorem d_M_pull_137 : decode prog_14_method_28_code 137 = .ok (.imul, 1) := by decide +kernel
theorem d_M_pull_138 : decode prog_14_method_28_code 138 = .ok (.iload 6, 2) := by decide +kernel
theorem d_M_pull_140 : decode prog_14_method_28_code 140 = .ok (.iadd, 1) := by decide +kernel
theorem d_M_pull_141 : decode prog_14_method_28_code 141 = .ok (.iaload, 1) := by decide +kernel
theorem d_M_pull_142 : decode prog_14_method_28_code 142 = .ok (.iastore, 1) := by decide +kernel
theorem d_M_pull_143 : decode prog_14_method_28_code 143 = .ok (.iinc 6 1, 3) := by decide +kernel
theorem d_M_pull_146 : decode prog_14_method_28_code 146 = .ok (.goto (-32), 3) := by decide +kernel
theorem d_M_pull_149 : decode prog_14_method_28_code 149 = .ok (.aload_n 0, 1) := by decide +kernel
theorem d_M_pull_150 : decode prog_14_method_28_code 150 = .ok (.iload_n 1, 1) := by decide +kernel
theorem d_M_pull_151 : decode prog_14_method_28_code 151 = .ok (.invokevirtual 70, 3) := by decide +kernel
theorem d_M_pull_154 : decode prog_14_method_28_code 154 = .ok (.ireturn, 1) := by decide +kernel
theorem d_M_confirm_0 : decode prog_14_method_29_code 0 = .ok (.aload_n 0, 1) := by decide +kernel
theorem d_M_confirm_1 : decode prog_14_method_29_code 1 = .ok (.iload_n 1, 1) := by decide +kernel
theorem d_M_confirm_2 : decode prog_14_method_29_code 2 = .ok (.invokevirtual 112, 3) := by decide +kernel
theorem d_M_confirm_5 : decode prog_14_method_29_code 5 = .ok (.ifCond .ne 20, 3) := by decide +kernel
theorem d_M_confirm_8 : decode prog_14_method_29_code 8 = .ok (.aload_n 0, 1) := by decide +kernel
theorem d_M_confirm_9 : decode prog_14_method_29_code 9 = .ok (.iload_n 3, 1) := by decide +kernel
theorem d_M_confirm_10 : decode prog_14_method_29_code 10 = .ok (.invokevirtual 112, 3) := by decide +kernel
theorem d_M_confirm_13 : decode prog_14_method_29_code 13 = .ok (.ifCond .ne 12, 3) := by decide +kernel
theorem d_M_confirm_16 : decode prog_14_method_29_code 16 = .ok (.iload_n 2, 1) := by decide +kernel
theorem d_M_confirm_17 : decode prog_14_method_29_code 17 = .ok (.bipush 8, 2) := by decide +kernel
theorem d_M_confirm_19 : decode prog_14_method_29_code 19 = .ok (.invokestatic 47, 3) := by decide +kernel
theorem d_M_confirm_22 : decode prog_14_method_29_code 22 = .ok (.ifCond .ne 5, 3) := by decide +kernel
theorem d_M_confirm_25 : decode prog_14_method_29_code 25 = .ok (.iconst (-1), 1) := by decide +kernel
theorem d_M_confirm_26 : decode prog_14_method_29_code 26 = .ok (.ireturn, 1) := by decide +kernel
theorem d_M_confirm_27 : decode prog_14_method_29_code 27 = .ok (.aload_n 0, 1) := by decide +kernel
theorem d_M_confirm_28 : decode prog_14_method_29_code 28 = .ok (.getfield 13, 3) := by decide +kernel
theorem d_M_confirm_31 : decode prog_14_method_29_code 31 = .ok (.iload_n 1, 1) := by decide +kernel
theorem d_M_confirm_32 : decode prog_14_method_29_code 32 = .ok (.baload, 1) := by decide +kernel
theorem d_M_confirm_33 : decode prog_14_method_29_code 33 = .ok (.ifCond .ne 6, 3) := by decide +kernel
theorem d_M_confirm_36 : decode prog_14_method_29_code 36 = .ok (.bipush (-2), 2) := by decide +kernel
theorem d_M_confirm_38 : decode prog_14_method_29_code 38 = .ok (.ireturn, 1) := by decide +kernel
theorem d_M_confirm_39 : decode prog_14_method_29_code 39 = .ok (.aload_n 0, 1) := by decide +kernel
theorem d_M_confirm_40 : decode prog_14_method_29_code 40 = .ok (.iload_n 1, 1) := by decide +kernel
theorem d_M_confirm_41 : decode prog_14_method_29_code 41 = .ok (.invokevirtual 115, 3) := by decide +kernel
theorem d_M_confirm_44 : decode prog_14_method_29_code 44 = .ok (.aload_n 0, 1) := by decide +kernel
theorem d_M_confirm_45 : decode prog_14_method_29_code 45 = .ok (.getfield 41, 3) := by decide +kernel
theorem d_M_confirm_48 : decode prog_14_method_29_code 48 = .ok (.iload_n 2, 1) := by decide +kernel
theorem d_M_confirm_49 : decode prog_14_method_29_code 49 = .ok (.iaload, 1) := by decide +kernel
theorem d_M_confirm_50 : decode prog_14_method_29_code 50 = .ok (.iconst 3, 1) := by decide +kernel
theorem d_M_confirm_51 : decode prog_14_method_29_code 51 = .ok (.if_icmp .ne 19, 3) := by decide +kernel
theorem d_M_confirm_54 : decode prog_14_method_29_code 54 = .ok (.aload_n 0, 1) := by decide +kernel
theorem d_M_confirm_55 : decode prog_14_method_29_code 55 = .ok (.getfield 38, 3) := by decide +kernel
theorem d_M_confirm_58 : decode prog_14_method_29_code 58 = .ok (.iload_n 2, 1) := by decide +kernel
theorem d_M_confirm_59 : decode prog_14_method_29_code 59 = .ok (.iaload, 1) := by decide +kernel
theorem d_M_confirm_60 : decode prog_14_method_29_code 60 = .ok (.iload_n 3, 1) := by decide +kernel
theorem d_M_confirm_61 : decode prog_14_method_29_code 61 = .ok (.iconst 3, 1) := by decide +kernel
theorem d_M_confirm_62 : decode prog_14_method_29_code 62 = .ok (.idiv, 1) := by decide +kernel
theorem d_M_confirm_63 : decode prog_14_method_29_code 63 = .ok (.if_icmp .ne 7, 3) := by decide +kernel
theorem d_M_confirm_66 : decode prog_14_method_29_code 66 = .ok (.iconst 1, 1) := by decide +kernel
theorem d_M_confirm_67 : decode prog_14_method_29_code 67 = .ok (.goto 4, 3) := by decide +kernel
theorem d_M_confirm_70 : decode prog_14_method_29_code 70 = .ok (.iconst 0, 1) := by decide +kernel
theorem d_M_confirm_71 : decode prog_14_method_29_code 71 = .ok (.istore 4, 2) := by decide +kernel
theorem d_M_confirm_73 : decode prog_14_method_29_code 73 = .ok (.aload_n 0, 1) := by decide +kernel
theorem d_M_confirm_74 : decode prog_14_method_29_code 74 = .ok (.getfield 99, 3) := by decide +kernel
theorem d_M_confirm_77 : decode prog_14_method_29_code 77 = .ok (.istore 5, 2) := by decide +kernel
theorem d_M_confirm_79 : decode prog_14_method_29_code 79 = .ok (.aload_n 0, 1) := by decide +kernel
theorem d_M_confirm_80 : decode prog_14_method_29_code 80 = .ok (.iload_n 3, 1) := by decide +kernel
theorem d_M_confirm_81 : decode prog_14_method_29_code 81 = .ok (.invokevirtual 115, 3) := by decide +kernel
theorem d_M_confirm_84 : decode prog_14_method_29_code 84 = .ok (.iload 4, 2) := by decide +kernel
theorem d_M_confirm_86 : decode prog_14_method_29_code 86 = .ok (.ifCond .eq 31, 3) := by decide +kernel
theorem d_M_confirm_89 : decode prog_14_method_29_code 89 = .ok (.aload_n 0, 1) := by decide +kernel
theorem d_M_confirm_90 : decode prog_14_method_29_code 90 = .ok (.getfield 99, 3) := by decide +kernel
theorem d_M_confirm_93 : decode prog_14_method_29_code 93 = .ok (.iload 5, 2) := by decide +kernel
theorem d_M_confirm_95 : decode prog_14_method_29_code 95 = .ok (.if_icmp .lt 22, 3) := by decide +kernel
theorem d_M_confirm_98 : decode prog_14_method_29_code 98 = .ok (.aload_n 0, 1) := by decide +kernel
theorem d_M_confirm_99 : decode prog_14_method_29_code 99 = .ok (.getfield 99, 3) := by decide +kernel
theorem d_M_confirm_102 : decode prog_14_method_29_code 102 = .ok (.iload 5, 2) := by decide +kernel
theorem d_M_confirm_104 : decode prog_14_method_29_code 104 = .ok (.if_icmp .ne 16, 3) := by decide +kernel
theorem d_M_confirm_107 : decode prog_14_method_29_code 107 = .ok (.aload_n 0, 1) := by decide +kernel
theorem d_M_confirm_108 : decode prog_14_method_29_code 108 = .ok (.getfield 41, 3) := by decide +kernel
theorem d_M_confirm_111 : decode prog_14_method_29_code 111 = .ok (.iload_n 2, 1) := by decide +kernel
theorem d_M_confirm_112 : decode prog_14_method_29_code 112 = .ok (.iaload, 1) := by decide +kernel
theorem d_M_confirm_113 : decode prog_14_method_29_code 113 = .ok (.iconst 1, 1) := by decide +kernel
theorem d_M_confirm_114 : decode prog_14_method_29_code 114 = .ok (.if_icmp .eq 6, 3) := by decide +kernel
theorem d_M_confirm_117 : decode prog_14_method_29_code 117 = .ok (.bipush (-4), 2) := by decide +kernel
theorem d_M_confirm_119 : decode prog_14_method_29_code 119 = .ok (.ireturn, 1) := by decide +kernel
theorem d_M_confirm_120 : decode prog_14_method_29_code 120 = .ok (.aload_n 0, 1) := by decide +kernel
theorem d_M_confirm_121 : decode prog_14_method_29_code 121 = .ok (.bipush 7, 2) := by decide +kernel
theorem d_M_confirm_123 : decode prog_14_method_29_code 123 = .ok (.iload_n 2, 1) := by decide +kernel
theorem d_M_confirm_124 : decode prog_14_method_29_code 124 = .ok (.iload 5, 2) := by decide +kernel
theorem d_M_confirm_126 : decode prog_14_method_29_code 126 = .ok (.iconst 0, 1) := by decide +kernel
theorem d_M_confirm_127 : decode prog_14_method_29_code 127 = .ok (.iconst 0, 1) := by decide +kernel
theorem d_M_confirm_128 : decode prog_14_method_29_code 128 = .ok (.iconst 0, 1) := by decide +kernel
theorem d_M_confirm_129 : decode prog_14_method_29_code 129 = .ok (.invokevirtual 66, 3) := by decide +kernel
theorem d_M_confirm_132 : decode prog_14_method_29_code 132 = .ok (.aload_n 0, 1) := by decide +kernel
theorem d_M_confirm_133 : decode prog_14_method_29_code 133 = .ok (.iload_n 1, 1) := by decide +kernel
theorem d_M_confirm_134 : decode prog_14_method_29_code 134 = .ok (.invokevirtual 70, 3) := by decide +kernel
theorem d_M_confirm_137 : decode prog_14_method_29_code 137 = .ok (.ireturn, 1) := by decide +kernel
theorem d_M_length_0 : decode prog_14_method_30_code 0 = .ok (.iload_n 1, 1) := by decide +kernel
theorem d_M_length_1 : decode prog_14_method_30_code 1 = .ok (.bipush 12, 2) := by decide +kernel
theorem d_M_length_3 : decode prog_14_method_30_code 3 = .ok (.invokestatic 47, 3) := by decide +kernel
theorem d_M_length_6 : decode prog_14_method_30_code 6 = .ok (.ifCond .eq 12, 3) := by decide +kernel
theorem d_M_length_9 : decode prog_14_method_30_code 9 = .ok (.aload_n 0, 1) := by decide +kernel
theorem d_M_length_10 : decode prog_14_method_30_code 10 = .ok (.getfield 20, 3) := by decide +kernel
theorem d_M_length_13 : decode prog_14_method_30_code 13 = .ok (.iload_n 1, 1) := by decide +kernel
theorem d_M_length_14 : decode prog_14_method_30_code 14 = .ok (.iaload, 1) := by decide +kernel
theorem d_M_length_15 : decode prog_14_method_30_code 15 = .ok (.goto 4, 3) := by decide +kernel
theorem d_M_length_18 : decode prog_14_method_30_code 18 = .ok (.iconst (-1), 1) := by decide +kernel
theorem d_M_length_19 : decode prog_14_method_30_code 19 = .ok (.ireturn, 1) := by decide +kernel
theorem d_M_known_0 : decode prog_14_method_31_code 0 = .ok (.iload_n 1, 1) := by decide +kernel
theorem d_M_known_1 : decode prog_14_method_31_code 1 = .ok (.bipush 12, 2) := by decide +kernel
theorem d_M_known_3 : decode prog_14_method_31_code 3 = .ok (.invokestatic 47, 3) := by decide +kernel
theorem d_M_known_6 : decode prog_14_method_31_code 6 = .ok (.ifCond .eq 12, 3) := by decide +kernel
theorem d_M_known_9 : decode prog_14_method_31_code 9 = .ok (.aload_n 0, 1) := by decide +kernel
theorem d_M_known_10 : decode prog_14_method_31_code 10 = .ok (.getfield 23, 3) := by decide +kernel
theorem d_M_known_13 : decode prog_14_method_31_code 13 = .ok (.iload_n 1, 1) := by decide +kernel
theorem d_M_known_14 : decode prog_14_method_31_code 14 = .ok (.iaload, 1) := by decide +kernel
theorem d_M_known_15 : decode prog_14_method_31_code 15 = .ok (.goto 4, 3) := by decide +kernel
theorem d_M_known_18 : decode prog_14_method_31_code 18 = .ok (.iconst (-1), 1) := by decide +kernel
theorem d_M_known_19 : decode prog_14_method_31_code 19 = .ok (.ireturn, 1) := by decide +kernel
end
section
theorem d_M_term_0 : decode prog_14_method_32_code 0 = .ok (.iload_n 1, 1) := by decide +kernel
theorem d_M_term_1 : decode prog_14_method_32_code 1 = .ok (.bipush 12, 2) := by decide +kernel
theorem d_M_term_3 : decode prog_14_method_32_code 3 = .ok (.invokestatic 47, 3) := by decide +kernel
theorem d_M_term_6 : decode prog_14_method_32_code 6 = .ok (.ifCond .eq 29, 3) := by decide +kernel
theorem d_M_term_9 : decode prog_14_method_32_code 9 = .ok (.aload_n 0, 1) := by decide +kernel
theorem d_M_term_10 : decode prog_14_method_32_code 10 = .ok (.getfield 16, 3) := by decide +kernel
theorem d_M_term_13 : decode prog_14_method_32_code 13 = .ok (.iload_n 1, 1) := by decide +kernel
theorem d_M_term_14 : decode prog_14_method_32_code 14 = .ok (.iaload, 1) := by decide +kernel
theorem d_M_term_15 : decode prog_14_method_32_code 15 = .ok (.aload_n 0, 1) := by decide +kernel
theorem d_M_term_16 : decode prog_14_method_32_code 16 = .ok (.getfield 13, 3) := by decide +kernel
theorem d_M_term_19 : decode prog_14_method_32_code 19 = .ok (.iload_n 1, 1) := by decide +kernel
theorem d_M_term_20 : decode prog_14_method_32_code 20 = .ok (.baload, 1) := by decide +kernel
theorem d_M_term_21 : decode prog_14_method_32_code 21 = .ok (.ifCond .eq 9, 3) := by decide +kernel
theorem d_M_term_24 : decode prog_14_method_32_code 24 = .ok (.sipush 1000, 3) := by decide +kernel
theorem d_M_term_27 : decode prog_14_method_32_code 27 = .ok (.goto 4, 3) := by decide +kernel
theorem d_M_term_30 : decode prog_14_method_32_code 30 = .ok (.iconst 0, 1) := by decide +kernel
theorem d_M_term_31 : decode prog_14_method_32_code 31 = .ok (.iadd, 1) := by decide +kernel
theorem d_M_term_32 : decode prog_14_method_32_code 32 = .ok (.goto 4, 3) := by decide +kernel
theorem d_M_term_35 : decode prog_14_method_32_code 35 = .ok (.iconst (-1), 1) := by decide +kernel
theorem d_M_term_36 : decode prog_14_method_32_code 36 = .ok (.ireturn, 1) := by decide +kernel
theorem d_M_configuration_0 : decode prog_14_method_33_code 0 = .ok (.iload_n 1, 1) := by decide +kernel
theorem d_M_configuration_1 : decode prog_14_method_33_code 1 = .ok (.bipush 12, 2) := by decide +kernel
theorem d_M_configuration_3 : decode prog_14_method_33_code 3 = .ok (.invokestatic 47, 3) := by decide +kernel
theorem d_M_configuration_6 : decode prog_14_method_33_code 6 = .ok (.ifCond .ne 5, 3) := by decide +kernel
theorem d_M_configuration_9 : decode prog_14_method_33_code 9 = .ok (.iconst (-1), 1) := by decide +kernel
theorem d_M_configuration_10 : decode prog_14_method_33_code 10 = .ok (.ireturn, 1) := by decide +kernel
theorem d_M_configuration_11 : decode prog_14_method_33_code 11 = .ok (.iload_n 1, 1) := by decide +kernel
theorem d_M_configuration_12 : decode prog_14_method_33_code 12 = .ok (.iconst 3, 1) := by decide +kernel
theorem d_M_configuration_13 : decode prog_14_method_33_code 13 = .ok (.if_icmp .ge 11, 3) := by decide +kernel
theorem d_M_configuration_16 : decode prog_14_method_33_code 16 = .ok (.aload_n 0, 1) := by decide +kernel
theorem d_M_configuration_17 : decode prog_14_method_33_code 17 = .ok (.iload_n 1, 1) := by decide +kernel
theorem d_M_configuration_18 : decode prog_14_method_33_code 18 = .ok (.invokevirtual 118, 3) := by decide +kernel
theorem d_M_configuration_21 : decode prog_14_method_33_code 21 = .ok (.goto 8, 3) := by decide +kernel
theorem d_M_configuration_24 : decode prog_14_method_33_code 24 = .ok (.aload_n 0, 1) := by decide +kernel
theorem d_M_configuration_25 : decode prog_14_method_33_code 25 = .ok (.iload_n 1, 1) := by decide +kernel
theorem d_M_configuration_26 : decode prog_14_method_33_code 26 = .ok (.invokevirtual 115, 3) := by decide +kernel
theorem d_M_configuration_29 : decode prog_14_method_33_code 29 = .ok (.iload_n 1, 1) := by decide +kernel
theorem d_M_configuration_30 : decode prog_14_method_33_code 30 = .ok (.iconst 3, 1) := by decide +kernel
theorem d_M_configuration_31 : decode prog_14_method_33_code 31 = .ok (.if_icmp .ge 12, 3) := by decide +kernel
theorem d_M_configuration_34 : decode prog_14_method_33_code 34 = .ok (.aload_n 0, 1) := by decide +kernel
theorem d_M_configuration_35 : decode prog_14_method_33_code 35 = .ok (.getfield 83, 3) := by decide +kernel
theorem d_M_configuration_38 : decode prog_14_method_33_code 38 = .ok (.iconst 1, 1) := by decide +kernel
theorem d_M_configuration_39 : decode prog_14_method_33_code 39 = .ok (.isub, 1) := by decide +kernel
theorem d_M_configuration_40 : decode prog_14_method_33_code 40 = .ok (.goto 7, 3) := by decide +kernel
theorem d_M_configuration_43 : decode prog_14_method_33_code 43 = .ok (.aload_n 0, 1) := by decide +kernel
theorem d_M_configuration_44 : decode prog_14_method_33_code 44 = .ok (.getfield 99, 3) := by decide +kernel
theorem d_M_configuration_47 : decode prog_14_method_33_code 47 = .ok (.ireturn, 1) := by decide +kernel
theorem d_M_owner_0 : decode prog_14_method_34_code 0 = .ok (.iload_n 1, 1) := by decide +kernel
theorem d_M_owner_1 : decode prog_14_method_34_code 1 = .ok (.iconst 3, 1) := by decide +kernel
theorem d_M_owner_2 : decode prog_14_method_34_code 2 = .ok (.invokestatic 47, 3) := by decide +kernel
theorem d_M_owner_5 : decode prog_14_method_34_code 5 = .ok (.ifCond .eq 12, 3) := by decide +kernel
theorem d_M_owner_8 : decode prog_14_method_34_code 8 = .ok (.iload_n 3, 1) := by decide +kernel
theorem d_M_owner_9 : decode prog_14_method_34_code 9 = .ok (.bipush 8, 2) := by decide +kernel
theorem d_M_owner_11 : decode prog_14_method_34_code 11 = .ok (.invokestatic 47, 3) := by decide +kernel
theorem d_M_owner_14 : decode prog_14_method_34_code 14 = .ok (.ifCond .ne 5, 3) := by decide +kernel
theorem d_M_owner_17 : decode prog_14_method_34_code 17 = .ok (.iconst (-1), 1) := by decide +kernel
theorem d_M_owner_18 : decode prog_14_method_34_code 18 = .ok (.ireturn, 1) := by decide +kernel
theorem d_M_owner_19 : decode prog_14_method_34_code 19 = .ok (.aload_n 0, 1) := by decide +kernel
theorem d_M_owner_20 : decode prog_14_method_34_code 20 = .ok (.iload_n 1, 1) := by decide +kernel
theorem d_M_owner_21 : decode prog_14_method_34_code 21 = .ok (.invokevirtual 118, 3) := by decide +kernel
theorem d_M_owner_24 : decode prog_14_method_34_code 24 = .ok (.iload_n 2, 1) := by decide +kernel
theorem d_M_owner_25 : decode prog_14_method_34_code 25 = .ok (.aload_n 0, 1) := by decide +kernel
theorem d_M_owner_26 : decode prog_14_method_34_code 26 = .ok (.getfield 83, 3) := by decide +kernel
theorem d_M_owner_29 : decode prog_14_method_34_code 29 = .ok (.invokestatic 47, 3) := by decide +kernel
theorem d_M_owner_32 : decode prog_14_method_34_code 32 = .ok (.ifCond .eq 17, 3) := by decide +kernel
theorem d_M_owner_35 : decode prog_14_method_34_code 35 = .ok (.aload_n 0, 1) := by decide +kernel
theorem d_M_owner_36 : decode prog_14_method_34_code 36 = .ok (.getfield 35, 3) := by decide +kernel
theorem d_M_owner_39 : decode prog_14_method_34_code 39 = .ok (.bipush 8, 2) := by decide +kernel
theorem d_M_owner_41 : decode prog_14_method_34_code 41 = .ok (.iload_n 2, 1) := by decide +kernel
theorem d_M_owner_42 : decode prog_14_method_34_code 42 = .ok (.imul, 1) := by decide +kernel
theorem d_M_owner_43 : decode prog_14_method_34_code 43 = .ok (.iload_n 3, 1) := by decide +kernel
theorem d_M_owner_44 : decode prog_14_method_34_code 44 = .ok (.iadd, 1) := by decide +kernel
theorem d_M_owner_45 : decode prog_14_method_34_code 45 = .ok (.iaload, 1) := by decide +kernel
theorem d_M_owner_46 : decode prog_14_method_34_code 46 = .ok (.goto 4, 3) := by decide +kernel
theorem d_M_owner_49 : decode prog_14_method_34_code 49 = .ok (.iconst (-1), 1) := by decide +kernel
theorem d_M_owner_50 : decode prog_14_method_34_code 50 = .ok (.ireturn, 1) := by decide +kernel
theorem d_M_condition_0 : decode prog_14_method_35_code 0 = .ok (.iload_n 1, 1) := by decide +kernel
theorem d_M_condition_1 : decode prog_14_method_35_code 1 = .ok (.iconst 3, 1) := by decide +kernel
theorem d_M_condition_2 : decode prog_14_method_35_code 2 = .ok (.if_icmp .lt 18, 3) := by decide +kernel
theorem d_M_condition_5 : decode prog_14_method_35_code 5 = .ok (.iload_n 1, 1) := by decide +kernel
theorem d_M_condition_6 : decode prog_14_method_35_code 6 = .ok (.bipush 11, 2) := by decide +kernel
theorem d_M_condition_8 : decode prog_14_method_35_code 8 = .ok (.if_icmp .gt 12, 3) := by decide +kernel
theorem d_M_condition_11 : decode prog_14_method_35_code 11 = .ok (.iload_n 2, 1) := by decide +kernel
theorem d_M_condition_12 : decode prog_14_method_35_code 12 = .ok (.bipush 8, 2) := by decide +kernel
theorem d_M_condition_14 : decode prog_14_method_35_code 14 = .ok (.invokestatic 47, 3) := by decide +kernel
theorem d_M_condition_17 : decode prog_14_method_35_code 17 = .ok (.ifCond .ne 5, 3) := by decide +kernel
theorem d_M_condition_20 : decode prog_14_method_35_code 20 = .ok (.iconst (-1), 1) := by decide +kernel
theorem d_M_condition_21 : decode prog_14_method_35_code 21 = .ok (.ireturn, 1) := by decide +kernel
theorem d_M_condition_22 : decode prog_14_method_35_code 22 = .ok (.aload_n 0, 1) := by decide +kernel
theorem d_M_condition_23 : decode prog_14_method_35_code 23 = .ok (.iload_n 1, 1) := by decide +kernel
theorem d_M_condition_24 : decode prog_14_method_35_code 24 = .ok (.invokevirtual 115, 3) := by decide +kernel
theorem d_M_condition_27 : decode prog_14_method_35_code 27 = .ok (.aload_n 0, 1) := by decide +kernel
theorem d_M_condition_28 : decode prog_14_method_35_code 28 = .ok (.getfield 41, 3) := by decide +kernel
theorem d_M_condition_31 : decode prog_14_method_35_code 31 = .ok (.iload_n 2, 1) := by decide +kernel
theorem d_M_condition_32 : decode prog_14_method_35_code 32 = .ok (.iaload, 1) := by decide +kernel
theorem d_M_condition_33 : decode prog_14_method_35_code 33 = .ok (.ireturn, 1) := by decide +kernel
theorem d_M_value_0 : decode prog_14_method_37_code 0 = .ok (.aload_n 0, 1) := by decide +kernel
theorem d_M_value_1 : decode prog_14_method_37_code 1 = .ok (.iload_n 1, 1) := by decide +kernel
theorem d_M_value_2 : decode prog_14_method_37_code 2 = .ok (.iload_n 2, 1) := by decide +kernel
theorem d_M_value_3 : decode prog_14_method_37_code 3 = .ok (.invokevirtual 121, 3) := by decide +kernel
theorem d_M_value_6 : decode prog_14_method_37_code 6 = .ok (.ifCond .eq 23, 3) := by decide +kernel
theorem d_M_value_9 : decode prog_14_method_37_code 9 = .ok (.aload_n 0, 1) := by decide +kernel
theorem d_M_value_10 : decode prog_14_method_37_code 10 = .ok (.getfield 44, 3) := by decide +kernel
theorem d_M_value_13 : decode prog_14_method_37_code 13 = .ok (.iload_n 2, 1) := by decide +kernel
theorem d_M_value_14 : decode prog_14_method_37_code 14 = .ok (.bipush 8, 2) := by decide +kernel
theorem d_M_value_16 : decode prog_14_method_37_code 16 = .ok (.irem, 1) := by decide +kernel
theorem d_M_value_17 : decode prog_14_method_37_code 17 = .ok (.bipush 8, 2) := by decide +kernel
theorem d_M_value_19 : decode prog_14_method_37_code 19 = .ok (.imul, 1) := by decide +kernel
theorem d_M_value_20 : decode prog_14_method_37_code 20 = .ok (.iload_n 2, 1) := by decide +kernel
theorem d_M_value_21 : decode prog_14_method_37_code 21 = .ok (.bipush 8, 2) := by decide +kernel
theorem d_M_value_23 : decode prog_14_method_37_code 23 = .ok (.idiv, 1) := by decide +kernel
theorem d_M_value_24 : decode prog_14_method_37_code 24 = .ok (.iadd, 1) := by decide +kernel
theorem d_M_value_25 : decode prog_14_method_37_code 25 = .ok (.iaload, 1) := by decide +kernel
theorem d_M_value_26 : decode prog_14_method_37_code 26 = .ok (.goto 4, 3) := by decide +kernel
theorem d_M_value_29 : decode prog_14_method_37_code 29 = .ok (.iconst (-1), 1) := by decide +kernel
theorem d_M_value_30 : decode prog_14_method_37_code 30 = .ok (.ireturn, 1) := by decide +kernel
theorem d_M_has_0 : decode prog_14_method_36_code 0 = .ok (.iload_n 1, 1) := by decide +kernel
theorem d_M_has_1 : decode prog_14_method_36_code 1 = .ok (.iconst 3, 1) := by decide +kernel
theorem d_M_has_2 : decode prog_14_method_36_code 2 = .ok (.if_icmp .lt 18, 3) := by decide +kernel
theorem d_M_has_5 : decode prog_14_method_36_code 5 = .ok (.iload_n 1, 1) := by decide +kernel
theorem d_M_has_6 : decode prog_14_method_36_code 6 = .ok (.bipush 11, 2) := by decide +kernel
theorem d_M_has_8 : decode prog_14_method_36_code 8 = .ok (.if_icmp .gt 12, 3) := by decide +kernel
theorem d_M_has_11 : decode prog_14_method_36_code 11 = .ok (.iload_n 2, 1) := by decide +kernel
theorem d_M_has_12 : decode prog_14_method_36_code 12 = .ok (.bipush 16, 2) := by decide +kernel
theorem d_M_has_14 : decode prog_14_method_36_code 14 = .ok (.invokestatic 47, 3) := by decide +kernel
theorem d_M_has_17 : decode prog_14_method_36_code 17 = .ok (.ifCond .ne 5, 3) := by decide +kernel
theorem d_M_has_20 : decode prog_14_method_36_code 20 = .ok (.iconst 0, 1) := by decide +kernel
theorem d_M_has_21 : decode prog_14_method_36_code 21 = .ok (.ireturn, 1) := by decide +kernel
theorem d_M_has_22 : decode prog_14_method_36_code 22 = .ok (.aload_n 0, 1) := by decide +kernel
theorem d_M_has_23 : decode prog_14_method_36_code 23 = .ok (.iload_n 1, 1) := by decide +kernel
theorem d_M_has_24 : decode prog_14_method_36_code 24 = .ok (.invokevirtual 115, 3) := by decide +kernel
theorem d_M_has_27 : decode prog_14_method_36_code 27 = .ok (.aload_n 0, 1) := by decide +kernel
theorem d_M_has_28 : decode prog_14_method_36_code 28 = .ok (.getfield 41, 3) := by decide +kernel
theorem d_M_has_31 : decode prog_14_method_36_code 31 = .ok (.iload_n 2, 1) := by decide +kernel
theorem d_M_has_32 : decode prog_14_method_36_code 32 = .ok (.bipush 8, 2) := by decide +kernel
theorem d_M_has_34 : decode prog_14_method_36_code 34 = .ok (.irem, 1) := by decide +kernel
theorem d_M_has_35 : decode prog_14_method_36_code 35 = .ok (.iaload, 1) := by decide +kernel
theorem d_M_has_36 : decode prog_14_method_36_code 36 = .ok (.iconst 1, 1) := by decide +kernel
theorem d_M_has_37 : decode prog_14_method_36_code 37 = .ok (.if_icmp .eq 16, 3) := by decide +kernel
theorem d_M_has_40 : decode prog_14_method_36_code 40 = .ok (.aload_n 0, 1) := by decide +kernel
theorem d_M_has_41 : decode prog_14_method_36_code 41 = .ok (.getfield 41, 3) := by decide +kernel
theorem d_M_has_44 : decode prog_14_method_36_code 44 = .ok (.iload_n 2, 1) := by decide +kernel
theorem d_M_has_45 : decode prog_14_method_36_code 45 = .ok (.bipush 8, 2) := by decide +kernel
theorem d_M_has_47 : decode prog_14_method_36_code 47 = .ok (.irem, 1) := by decide +kernel
theorem d_M_has_48 : decode prog_14_method_36_code 48 = .ok (.iaload, 1) := by decide +kernel
theorem d_M_has_49 : decode prog_14_method_36_code 49 = .ok (.iconst 3, 1) := by decide +kernel
theorem d_M_has_50 : decode prog_14_method_36_code 50 = .ok (.if_icmp .ne 7, 3) := by decide +kernel
theorem d_M_has_53 : decode prog_14_method_36_code 53 = .ok (.iconst 1, 1) := by decide +kernel
theorem d_M_has_54 : decode prog_14_method_36_code 54 = .ok (.goto 4, 3) := by decide +kernel
theorem d_M_has_57 : decode prog_14_method_36_code 57 = .ok (.iconst 0, 1) := by decide +kernel
theorem d_M_has_58 : decode prog_14_method_36_code 58 = .ok (.ireturn, 1) := by decide +kernel
theorem d_M_latest_0 : decode prog_14_method_38_code 0 = .ok (.iload_n 2, 1) := by decide +kernel
theorem d_M_latest_1 : decode prog_14_method_38_code 1 = .ok (.iconst 3, 1) := by decide +kernel
theorem d_M_latest_2 : decode prog_14_method_38_code 2 = .ok (.invokestatic 47, 3) := by decide +kernel
theorem d_M_latest_5 : decode prog_14_method_38_code 5 = .ok (.ifCond .eq 31, 3) := by decide +kernel
theorem d_M_latest_8 : decode prog_14_method_38_code 8 = .ok (.aload_n 0, 1) := by decide +kernel
theorem d_M_latest_9 : decode prog_14_method_38_code 9 = .ok (.iload_n 1, 1) := by decide +kernel
theorem d_M_latest_10 : decode prog_14_method_38_code 10 = .ok (.iload_n 3, 1) := by decide +kernel
theorem d_M_latest_11 : decode prog_14_method_38_code 11 = .ok (.invokevirtual 121, 3) := by decide +kernel
theorem d_M_latest_14 : decode prog_14_method_38_code 14 = .ok (.ifCond .eq 22, 3) := by decide +kernel
theorem d_M_latest_17 : decode prog_14_method_38_code 17 = .ok (.aload_n 0, 1) := by decide +kernel
theorem d_M_latest_18 : decode prog_14_method_38_code 18 = .ok (.getfield 44, 3) := by decide +kernel
theorem d_M_latest_21 : decode prog_14_method_38_code 21 = .ok (.iload_n 3, 1) := by decide +kernel
theorem d_M_latest_22 : decode prog_14_method_38_code 22 = .ok (.bipush 8, 2) := by decide +kernel
theorem d_M_latest_24 : decode prog_14_method_38_code 24 = .ok (.irem, 1) := by decide +kernel
theorem d_M_latest_25 : decode prog_14_method_38_code 25 = .ok (.bipush 8, 2) := by decide +kernel
theorem d_M_latest_27 : decode prog_14_method_38_code 27 = .ok (.imul, 1) := by decide +kernel
theorem d_M_latest_28 : decode prog_14_method_38_code 28 = .ok (.iconst 2, 1) := by decide +kernel
theorem d_M_latest_29 : decode prog_14_method_38_code 29 = .ok (.iadd, 1) := by decide +kernel
theorem d_M_latest_30 : decode prog_14_method_38_code 30 = .ok (.iload_n 2, 1) := by decide +kernel
theorem d_M_latest_31 : decode prog_14_method_38_code 31 = .ok (.iadd, 1) := by decide +kernel
theorem d_M_latest_32 : decode prog_14_method_38_code 32 = .ok (.iaload, 1) := by decide +kernel
theorem d_M_latest_33 : decode prog_14_method_38_code 33 = .ok (.goto 4, 3) := by decide +kernel
theorem d_M_latest_36 : decode prog_14_method_38_code 36 = .ok (.iconst (-1), 1) := by decide +kernel
theorem d_M_latest_37 : decode prog_14_method_38_code 37 = .ok (.ireturn, 1) := by decide +kernel
theorem d_M_answer_0 : decode prog_14_method_39_code 0 = .ok (.iload_n 2, 1) := by decide +kernel
theorem d_M_answer_1 : decode prog_14_method_39_code 1 = .ok (.iconst 3, 1) := by decide +kernel
theorem d_M_answer_2 : decode prog_14_method_39_code 2 = .ok (.invokestatic 47, 3) := by decide +kernel
theorem d_M_answer_5 : decode prog_14_method_39_code 5 = .ok (.ifCond .eq 31, 3) := by decide +kernel
theorem d_M_answer_8 : decode prog_14_method_39_code 8 = .ok (.aload_n 0, 1) := by decide +kernel
theorem d_M_answer_9 : decode prog_14_method_39_code 9 = .ok (.iload_n 1, 1) := by decide +kernel
theorem d_M_answer_10 : decode prog_14_method_39_code 10 = .ok (.iload_n 3, 1) := by decide +kernel
theorem d_M_answer_11 : decode prog_14_method_39_code 11 = .ok (.invokevirtual 121, 3) := by decide +kernel
theorem d_M_answer_14 : decode prog_14_method_39_code 14 = .ok (.ifCond .eq 22, 3) := by decide +kernel
theorem d_M_answer_17 : decode prog_14_method_39_code 17 = .ok (.aload_n 0, 1) := by decide +kernel
theorem d_M_answer_18 : decode prog_14_method_39_code 18 = .ok (.getfield 44, 3) := by decide +kernel
theorem d_M_answer_21 : decode prog_14_method_39_code 21 = .ok (.iload_n 3, 1) := by decide +kernel
theorem d_M_answer_22 : decode prog_14_method_39_code 22 = .ok (.bipush 8, 2) := by decide +kernel
theorem d_M_answer_24 : decode prog_14_method_39_code 24 = .ok (.irem, 1) := by decide +kernel
theorem d_M_answer_25 : decode prog_14_method_39_code 25 = .ok (.bipush 8, 2) := by decide +kernel
theorem d_M_answer_27 : decode prog_14_method_39_code 27 = .ok (.imul, 1) := by decide +kernel
theorem d_M_answer_28 : decode prog_14_method_39_code 28 = .ok (.iconst 5, 1) := by decide +kernel
theorem d_M_answer_29 : decode prog_14_method_39_code 29 = .ok (.iadd, 1) := by decide +kernel
theorem d_M_answer_30 : decode prog_14_method_39_code 30 = .ok (.iload_n 2, 1) := by decide +kernel
theorem d_M_answer_31 : decode prog_14_method_39_code 31 = .ok (.iadd, 1) := by decide +kernel
theorem d_M_answer_32 : decode prog_14_method_39_code 32 = .ok (.iaload, 1) := by decide +kernel
theorem d_M_answer_33 : decode prog_14_method_39_code 33 = .ok (.goto 4, 3) := by decide +kernel
theorem d_M_answer_36 : decode prog_14_method_39_code 36 = .ok (.iconst (-1), 1) := by decide +kernel
theorem d_M_answer_37 : decode prog_14_method_39_code 37 = .ok (.ireturn, 1) := by decide +kernel
theorem d_L_law_0 : decode code 0 = .ok (.new 7, 3) := by decide +kernel
theorem d_L_law_3 : decode code 3 = .ok (.dup, 1) := by decide +kernel
theorem d_L_law_4 : decode code 4 = .ok (.invokespecial 9, 3) := by decide +kernel
theorem d_L_law_7 : decode code 7 = .ok (.astore_n 1, 1) := by decide +kernel
theorem d_L_law_8 : decode code 8 = .ok (.new 10, 3) := by decide +kernel
theorem d_L_law_11 : decode code 11 = .ok (.dup, 1) := by decide +kernel
theorem d_L_law_12 : decode code 12 = .ok (.invokespecial 12, 3) := by decide +kernel
theorem d_L_law_15 : decode code 15 = .ok (.astore_n 2, 1) := by decide +kernel
theorem d_L_law_16 : decode code 16 = .ok (.iconst 0, 1) := by decide +kernel
theorem d_L_law_17 : decode code 17 = .ok (.istore_n 3, 1) := by decide +kernel
theorem d_L_law_18 : decode code 18 = .ok (.iload_n 3, 1) := by decide +kernel
theorem d_L_law_19 : decode code 19 = .ok (.aload_n 0, 1) := by decide +kernel
theorem d_L_law_20 : decode code 20 = .ok (.arraylength, 1) := by decide +kernel
theorem d_L_law_21 : decode code 21 = .ok (.bipush 7, 2) := by decide +kernel
theorem d_L_law_23 : decode code 23 = .ok (.isub, 1) := by decide +kernel
theorem d_L_law_24 : decode code 24 = .ok (.if_icmp .gt 738, 3) := by decide +kernel
theorem d_L_law_27 : decode code 27 = .ok (.aload_n 0, 1) := by decide +kernel
theorem d_L_law_28 : decode code 28 = .ok (.iload_n 3, 1) := by decide +kernel
theorem d_L_law_29 : decode code 29 = .ok (.iaload, 1) := by decide +kernel
theorem d_L_law_30 : decode code 30 = .ok (.bipush 31, 2) := by decide +kernel
theorem d_L_law_32 : decode code 32 = .ok (.iand, 1) := by decide +kernel
theorem d_L_law_33 : decode code 33 = .ok (.tableswitch 723 0 17 #[87, 110, 133, 156, 189, 242, 317, 350, 393, 436, 459, 482, 505, 528, 571, 604, 637, 680], 87) := by decide +kernel
theorem d_L_law_120 : decode code 120 = .ok (.aload_n 1, 1) := by decide +kernel
theorem d_L_law_121 : decode code 121 = .ok (.aload_n 0, 1) := by decide +kernel
theorem d_L_law_122 : decode code 122 = .ok (.iload_n 3, 1) := by decide +kernel
theorem d_L_law_123 : decode code 123 = .ok (.iconst 1, 1) := by decide +kernel
theorem d_L_law_124 : decode code 124 = .ok (.iadd, 1) := by decide +kernel
theorem d_L_law_125 : decode code 125 = .ok (.iaload, 1) := by decide +kernel
theorem d_L_law_126 : decode code 126 = .ok (.invokevirtual 13, 3) := by decide +kernel
theorem d_L_law_129 : decode code 129 = .ok (.aload_n 2, 1) := by decide +kernel
theorem d_L_law_130 : decode code 130 = .ok (.aload_n 0, 1) := by decide +kernel
theorem d_L_law_131 : decode code 131 = .ok (.iload_n 3, 1) := by decide +kernel
theorem d_L_law_132 : decode code 132 = .ok (.iconst 1, 1) := by decide +kernel
theorem d_L_law_133 : decode code 133 = .ok (.iadd, 1) := by decide +kernel
theorem d_L_law_134 : decode code 134 = .ok (.iaload, 1) := by decide +kernel
theorem d_L_law_135 : decode code 135 = .ok (.invokevirtual 17, 3) := by decide +kernel
theorem d_L_law_138 : decode code 138 = .ok (.if_icmp .eq 618, 3) := by decide +kernel
theorem d_L_law_141 : decode code 141 = .ok (.iconst 0, 1) := by decide +kernel
theorem d_L_law_142 : decode code 142 = .ok (.ireturn, 1) := by decide +kernel
theorem d_L_law_143 : decode code 143 = .ok (.aload_n 1, 1) := by decide +kernel
theorem d_L_law_144 : decode code 144 = .ok (.aload_n 0, 1) := by decide +kernel
theorem d_L_law_145 : decode code 145 = .ok (.iload_n 3, 1) := by decide +kernel
theorem d_L_law_146 : decode code 146 = .ok (.iconst 1, 1) := by decide +kernel
theorem d_L_law_147 : decode code 147 = .ok (.iadd, 1) := by decide +kernel
theorem d_L_law_148 : decode code 148 = .ok (.iaload, 1) := by decide +kernel
theorem d_L_law_149 : decode code 149 = .ok (.invokevirtual 18, 3) := by decide +kernel
theorem d_L_law_152 : decode code 152 = .ok (.aload_n 2, 1) := by decide +kernel
theorem d_L_law_153 : decode code 153 = .ok (.aload_n 0, 1) := by decide +kernel
theorem d_L_law_154 : decode code 154 = .ok (.iload_n 3, 1) := by decide +kernel
theorem d_L_law_155 : decode code 155 = .ok (.iconst 1, 1) := by decide +kernel
theorem d_L_law_156 : decode code 156 = .ok (.iadd, 1) := by decide +kernel
end
section
theorem d_L_law_157 : decode code 157 = .ok (.iaload, 1) := by decide +kernel
theorem d_L_law_158 : decode code 158 = .ok (.invokevirtual 21, 3) := by decide +kernel
theorem d_L_law_161 : decode code 161 = .ok (.if_icmp .eq 595, 3) := by decide +kernel
theorem d_L_law_164 : decode code 164 = .ok (.iconst 0, 1) := by decide +kernel
theorem d_L_law_165 : decode code 165 = .ok (.ireturn, 1) := by decide +kernel
theorem d_L_law_166 : decode code 166 = .ok (.aload_n 1, 1) := by decide +kernel
theorem d_L_law_167 : decode code 167 = .ok (.aload_n 0, 1) := by decide +kernel
theorem d_L_law_168 : decode code 168 = .ok (.iload_n 3, 1) := by decide +kernel
theorem d_L_law_169 : decode code 169 = .ok (.iconst 1, 1) := by decide +kernel
theorem d_L_law_170 : decode code 170 = .ok (.iadd, 1) := by decide +kernel
theorem d_L_law_171 : decode code 171 = .ok (.iaload, 1) := by decide +kernel
theorem d_L_law_172 : decode code 172 = .ok (.invokevirtual 22, 3) := by decide +kernel
theorem d_L_law_175 : decode code 175 = .ok (.aload_n 2, 1) := by decide +kernel
theorem d_L_law_176 : decode code 176 = .ok (.aload_n 0, 1) := by decide +kernel
theorem d_L_law_177 : decode code 177 = .ok (.iload_n 3, 1) := by decide +kernel
theorem d_L_law_178 : decode code 178 = .ok (.iconst 1, 1) := by decide +kernel
theorem d_L_law_179 : decode code 179 = .ok (.iadd, 1) := by decide +kernel
theorem d_L_law_180 : decode code 180 = .ok (.iaload, 1) := by decide +kernel
theorem d_L_law_181 : decode code 181 = .ok (.invokevirtual 26, 3) := by decide +kernel
theorem d_L_law_184 : decode code 184 = .ok (.if_icmp .eq 572, 3) := by decide +kernel
theorem d_L_law_187 : decode code 187 = .ok (.iconst 0, 1) := by decide +kernel
theorem d_L_law_188 : decode code 188 = .ok (.ireturn, 1) := by decide +kernel
theorem d_L_law_189 : decode code 189 = .ok (.aload_n 1, 1) := by decide +kernel
theorem d_L_law_190 : decode code 190 = .ok (.aload_n 0, 1) := by decide +kernel
theorem d_L_law_191 : decode code 191 = .ok (.iload_n 3, 1) := by decide +kernel
theorem d_L_law_192 : decode code 192 = .ok (.iconst 1, 1) := by decide +kernel
theorem d_L_law_193 : decode code 193 = .ok (.iadd, 1) := by decide +kernel
theorem d_L_law_194 : decode code 194 = .ok (.iaload, 1) := by decide +kernel
theorem d_L_law_195 : decode code 195 = .ok (.aload_n 0, 1) := by decide +kernel
theorem d_L_law_196 : decode code 196 = .ok (.iload_n 3, 1) := by decide +kernel
theorem d_L_law_197 : decode code 197 = .ok (.iconst 2, 1) := by decide +kernel
theorem d_L_law_198 : decode code 198 = .ok (.iadd, 1) := by decide +kernel
theorem d_L_law_199 : decode code 199 = .ok (.iaload, 1) := by decide +kernel
theorem d_L_law_200 : decode code 200 = .ok (.invokevirtual 27, 3) := by decide +kernel
theorem d_L_law_203 : decode code 203 = .ok (.aload_n 2, 1) := by decide +kernel
theorem d_L_law_204 : decode code 204 = .ok (.aload_n 0, 1) := by decide +kernel
theorem d_L_law_205 : decode code 205 = .ok (.iload_n 3, 1) := by decide +kernel
theorem d_L_law_206 : decode code 206 = .ok (.iconst 1, 1) := by decide +kernel
theorem d_L_law_207 : decode code 207 = .ok (.iadd, 1) := by decide +kernel
theorem d_L_law_208 : decode code 208 = .ok (.iaload, 1) := by decide +kernel
theorem d_L_law_209 : decode code 209 = .ok (.aload_n 0, 1) := by decide +kernel
theorem d_L_law_210 : decode code 210 = .ok (.iload_n 3, 1) := by decide +kernel
theorem d_L_law_211 : decode code 211 = .ok (.iconst 2, 1) := by decide +kernel
theorem d_L_law_212 : decode code 212 = .ok (.iadd, 1) := by decide +kernel
theorem d_L_law_213 : decode code 213 = .ok (.iaload, 1) := by decide +kernel
theorem d_L_law_214 : decode code 214 = .ok (.invokevirtual 31, 3) := by decide +kernel
theorem d_L_law_217 : decode code 217 = .ok (.if_icmp .eq 539, 3) := by decide +kernel
theorem d_L_law_220 : decode code 220 = .ok (.iconst 0, 1) := by decide +kernel
theorem d_L_law_221 : decode code 221 = .ok (.ireturn, 1) := by decide +kernel
theorem d_L_law_222 : decode code 222 = .ok (.aload_n 1, 1) := by decide +kernel
theorem d_L_law_223 : decode code 223 = .ok (.aload_n 0, 1) := by decide +kernel
theorem d_L_law_224 : decode code 224 = .ok (.iload_n 3, 1) := by decide +kernel
theorem d_L_law_225 : decode code 225 = .ok (.iconst 1, 1) := by decide +kernel
theorem d_L_law_226 : decode code 226 = .ok (.iadd, 1) := by decide +kernel
theorem d_L_law_227 : decode code 227 = .ok (.iaload, 1) := by decide +kernel
theorem d_L_law_228 : decode code 228 = .ok (.aload_n 0, 1) := by decide +kernel
theorem d_L_law_229 : decode code 229 = .ok (.iload_n 3, 1) := by decide +kernel
theorem d_L_law_230 : decode code 230 = .ok (.iconst 2, 1) := by decide +kernel
theorem d_L_law_231 : decode code 231 = .ok (.iadd, 1) := by decide +kernel
theorem d_L_law_232 : decode code 232 = .ok (.iaload, 1) := by decide +kernel
theorem d_L_law_233 : decode code 233 = .ok (.aload_n 0, 1) := by decide +kernel
theorem d_L_law_234 : decode code 234 = .ok (.iload_n 3, 1) := by decide +kernel
theorem d_L_law_235 : decode code 235 = .ok (.iconst 3, 1) := by decide +kernel
theorem d_L_law_236 : decode code 236 = .ok (.iadd, 1) := by decide +kernel
theorem d_L_law_237 : decode code 237 = .ok (.iaload, 1) := by decide +kernel
theorem d_L_law_238 : decode code 238 = .ok (.aload_n 0, 1) := by decide +kernel
theorem d_L_law_239 : decode code 239 = .ok (.iload_n 3, 1) := by decide +kernel
theorem d_L_law_240 : decode code 240 = .ok (.iconst 4, 1) := by decide +kernel
theorem d_L_law_241 : decode code 241 = .ok (.iadd, 1) := by decide +kernel
theorem d_L_law_242 : decode code 242 = .ok (.iaload, 1) := by decide +kernel
theorem d_L_law_243 : decode code 243 = .ok (.invokevirtual 32, 3) := by decide +kernel
theorem d_L_law_246 : decode code 246 = .ok (.aload_n 2, 1) := by decide +kernel
theorem d_L_law_247 : decode code 247 = .ok (.aload_n 0, 1) := by decide +kernel
theorem d_L_law_248 : decode code 248 = .ok (.iload_n 3, 1) := by decide +kernel
theorem d_L_law_249 : decode code 249 = .ok (.iconst 1, 1) := by decide +kernel
theorem d_L_law_250 : decode code 250 = .ok (.iadd, 1) := by decide +kernel
theorem d_L_law_251 : decode code 251 = .ok (.iaload, 1) := by decide +kernel
theorem d_L_law_252 : decode code 252 = .ok (.aload_n 0, 1) := by decide +kernel
theorem d_L_law_253 : decode code 253 = .ok (.iload_n 3, 1) := by decide +kernel
theorem d_L_law_254 : decode code 254 = .ok (.iconst 2, 1) := by decide +kernel
theorem d_L_law_255 : decode code 255 = .ok (.iadd, 1) := by decide +kernel
theorem d_L_law_256 : decode code 256 = .ok (.iaload, 1) := by decide +kernel
theorem d_L_law_257 : decode code 257 = .ok (.aload_n 0, 1) := by decide +kernel
theorem d_L_law_258 : decode code 258 = .ok (.iload_n 3, 1) := by decide +kernel
theorem d_L_law_259 : decode code 259 = .ok (.iconst 3, 1) := by decide +kernel
theorem d_L_law_260 : decode code 260 = .ok (.iadd, 1) := by decide +kernel
theorem d_L_law_261 : decode code 261 = .ok (.iaload, 1) := by decide +kernel
theorem d_L_law_262 : decode code 262 = .ok (.aload_n 0, 1) := by decide +kernel
theorem d_L_law_263 : decode code 263 = .ok (.iload_n 3, 1) := by decide +kernel
theorem d_L_law_264 : decode code 264 = .ok (.iconst 4, 1) := by decide +kernel
theorem d_L_law_265 : decode code 265 = .ok (.iadd, 1) := by decide +kernel
theorem d_L_law_266 : decode code 266 = .ok (.iaload, 1) := by decide +kernel
theorem d_L_law_267 : decode code 267 = .ok (.invokevirtual 36, 3) := by decide +kernel
theorem d_L_law_270 : decode code 270 = .ok (.if_icmp .eq 486, 3) := by decide +kernel
theorem d_L_law_273 : decode code 273 = .ok (.iconst 0, 1) := by decide +kernel
theorem d_L_law_274 : decode code 274 = .ok (.ireturn, 1) := by decide +kernel
theorem d_L_law_275 : decode code 275 = .ok (.aload_n 1, 1) := by decide +kernel
theorem d_L_law_276 : decode code 276 = .ok (.aload_n 0, 1) := by decide +kernel
theorem d_L_law_277 : decode code 277 = .ok (.iload_n 3, 1) := by decide +kernel
theorem d_L_law_278 : decode code 278 = .ok (.iconst 1, 1) := by decide +kernel
theorem d_L_law_279 : decode code 279 = .ok (.iadd, 1) := by decide +kernel
theorem d_L_law_280 : decode code 280 = .ok (.iaload, 1) := by decide +kernel
theorem d_L_law_281 : decode code 281 = .ok (.aload_n 0, 1) := by decide +kernel
theorem d_L_law_282 : decode code 282 = .ok (.iload_n 3, 1) := by decide +kernel
theorem d_L_law_283 : decode code 283 = .ok (.iconst 2, 1) := by decide +kernel
theorem d_L_law_284 : decode code 284 = .ok (.iadd, 1) := by decide +kernel
theorem d_L_law_285 : decode code 285 = .ok (.iaload, 1) := by decide +kernel
theorem d_L_law_286 : decode code 286 = .ok (.aload_n 0, 1) := by decide +kernel
theorem d_L_law_287 : decode code 287 = .ok (.iload_n 3, 1) := by decide +kernel
theorem d_L_law_288 : decode code 288 = .ok (.iconst 3, 1) := by decide +kernel
theorem d_L_law_289 : decode code 289 = .ok (.iadd, 1) := by decide +kernel
theorem d_L_law_290 : decode code 290 = .ok (.iaload, 1) := by decide +kernel
theorem d_L_law_291 : decode code 291 = .ok (.aload_n 0, 1) := by decide +kernel
theorem d_L_law_292 : decode code 292 = .ok (.iload_n 3, 1) := by decide +kernel
theorem d_L_law_293 : decode code 293 = .ok (.iconst 4, 1) := by decide +kernel
theorem d_L_law_294 : decode code 294 = .ok (.iadd, 1) := by decide +kernel
theorem d_L_law_295 : decode code 295 = .ok (.iaload, 1) := by decide +kernel
theorem d_L_law_296 : decode code 296 = .ok (.aload_n 0, 1) := by decide +kernel
theorem d_L_law_297 : decode code 297 = .ok (.iload_n 3, 1) := by decide +kernel
theorem d_L_law_298 : decode code 298 = .ok (.iconst 5, 1) := by decide +kernel
theorem d_L_law_299 : decode code 299 = .ok (.iadd, 1) := by decide +kernel
theorem d_L_law_300 : decode code 300 = .ok (.iaload, 1) := by decide +kernel
theorem d_L_law_301 : decode code 301 = .ok (.aload_n 0, 1) := by decide +kernel
theorem d_L_law_302 : decode code 302 = .ok (.iload_n 3, 1) := by decide +kernel
theorem d_L_law_303 : decode code 303 = .ok (.bipush 6, 2) := by decide +kernel
theorem d_L_law_305 : decode code 305 = .ok (.iadd, 1) := by decide +kernel
theorem d_L_law_306 : decode code 306 = .ok (.iaload, 1) := by decide +kernel
theorem d_L_law_307 : decode code 307 = .ok (.invokevirtual 37, 3) := by decide +kernel
theorem d_L_law_310 : decode code 310 = .ok (.aload_n 2, 1) := by decide +kernel
theorem d_L_law_311 : decode code 311 = .ok (.aload_n 0, 1) := by decide +kernel
theorem d_L_law_312 : decode code 312 = .ok (.iload_n 3, 1) := by decide +kernel
theorem d_L_law_313 : decode code 313 = .ok (.iconst 1, 1) := by decide +kernel
theorem d_L_law_314 : decode code 314 = .ok (.iadd, 1) := by decide +kernel
theorem d_L_law_315 : decode code 315 = .ok (.iaload, 1) := by decide +kernel
theorem d_L_law_316 : decode code 316 = .ok (.aload_n 0, 1) := by decide +kernel
theorem d_L_law_317 : decode code 317 = .ok (.iload_n 3, 1) := by decide +kernel
theorem d_L_law_318 : decode code 318 = .ok (.iconst 2, 1) := by decide +kernel
theorem d_L_law_319 : decode code 319 = .ok (.iadd, 1) := by decide +kernel
theorem d_L_law_320 : decode code 320 = .ok (.iaload, 1) := by decide +kernel
theorem d_L_law_321 : decode code 321 = .ok (.aload_n 0, 1) := by decide +kernel
theorem d_L_law_322 : decode code 322 = .ok (.iload_n 3, 1) := by decide +kernel
theorem d_L_law_323 : decode code 323 = .ok (.iconst 3, 1) := by decide +kernel
theorem d_L_law_324 : decode code 324 = .ok (.iadd, 1) := by decide +kernel
theorem d_L_law_325 : decode code 325 = .ok (.iaload, 1) := by decide +kernel
theorem d_L_law_326 : decode code 326 = .ok (.aload_n 0, 1) := by decide +kernel
theorem d_L_law_327 : decode code 327 = .ok (.iload_n 3, 1) := by decide +kernel
theorem d_L_law_328 : decode code 328 = .ok (.iconst 4, 1) := by decide +kernel
theorem d_L_law_329 : decode code 329 = .ok (.iadd, 1) := by decide +kernel
theorem d_L_law_330 : decode code 330 = .ok (.iaload, 1) := by decide +kernel
theorem d_L_law_331 : decode code 331 = .ok (.aload_n 0, 1) := by decide +kernel
theorem d_L_law_332 : decode code 332 = .ok (.iload_n 3, 1) := by decide +kernel
theorem d_L_law_333 : decode code 333 = .ok (.iconst 5, 1) := by decide +kernel
theorem d_L_law_334 : decode code 334 = .ok (.iadd, 1) := by decide +kernel
theorem d_L_law_335 : decode code 335 = .ok (.iaload, 1) := by decide +kernel
theorem d_L_law_336 : decode code 336 = .ok (.aload_n 0, 1) := by decide +kernel
theorem d_L_law_337 : decode code 337 = .ok (.iload_n 3, 1) := by decide +kernel
theorem d_L_law_338 : decode code 338 = .ok (.bipush 6, 2) := by decide +kernel
theorem d_L_law_340 : decode code 340 = .ok (.iadd, 1) := by decide +kernel
theorem d_L_law_341 : decode code 341 = .ok (.iaload, 1) := by decide +kernel
theorem d_L_law_342 : decode code 342 = .ok (.invokevirtual 41, 3) := by decide +kernel
theorem d_L_law_345 : decode code 345 = .ok (.if_icmp .eq 411, 3) := by decide +kernel
theorem d_L_law_348 : decode code 348 = .ok (.iconst 0, 1) := by decide +kernel
theorem d_L_law_349 : decode code 349 = .ok (.ireturn, 1) := by decide +kernel
theorem d_L_law_350 : decode code 350 = .ok (.aload_n 1, 1) := by decide +kernel
theorem d_L_law_351 : decode code 351 = .ok (.aload_n 0, 1) := by decide +kernel
theorem d_L_law_352 : decode code 352 = .ok (.iload_n 3, 1) := by decide +kernel
theorem d_L_law_353 : decode code 353 = .ok (.iconst 1, 1) := by decide +kernel
theorem d_L_law_354 : decode code 354 = .ok (.iadd, 1) := by decide +kernel
theorem d_L_law_355 : decode code 355 = .ok (.iaload, 1) := by decide +kernel
theorem d_L_law_356 : decode code 356 = .ok (.aload_n 0, 1) := by decide +kernel
theorem d_L_law_357 : decode code 357 = .ok (.iload_n 3, 1) := by decide +kernel
theorem d_L_law_358 : decode code 358 = .ok (.iconst 2, 1) := by decide +kernel
theorem d_L_law_359 : decode code 359 = .ok (.iadd, 1) := by decide +kernel
theorem d_L_law_360 : decode code 360 = .ok (.iaload, 1) := by decide +kernel
theorem d_L_law_361 : decode code 361 = .ok (.invokevirtual 42, 3) := by decide +kernel
theorem d_L_law_364 : decode code 364 = .ok (.aload_n 2, 1) := by decide +kernel
theorem d_L_law_365 : decode code 365 = .ok (.aload_n 0, 1) := by decide +kernel
theorem d_L_law_366 : decode code 366 = .ok (.iload_n 3, 1) := by decide +kernel
theorem d_L_law_367 : decode code 367 = .ok (.iconst 1, 1) := by decide +kernel
theorem d_L_law_368 : decode code 368 = .ok (.iadd, 1) := by decide +kernel
theorem d_L_law_369 : decode code 369 = .ok (.iaload, 1) := by decide +kernel
theorem d_L_law_370 : decode code 370 = .ok (.aload_n 0, 1) := by decide +kernel
theorem d_L_law_371 : decode code 371 = .ok (.iload_n 3, 1) := by decide +kernel
theorem d_L_law_372 : decode code 372 = .ok (.iconst 2, 1) := by decide +kernel
theorem d_L_law_373 : decode code 373 = .ok (.iadd, 1) := by decide +kernel
theorem d_L_law_374 : decode code 374 = .ok (.iaload, 1) := by decide +kernel
theorem d_L_law_375 : decode code 375 = .ok (.invokevirtual 45, 3) := by decide +kernel
theorem d_L_law_378 : decode code 378 = .ok (.if_icmp .eq 378, 3) := by decide +kernel
theorem d_L_law_381 : decode code 381 = .ok (.iconst 0, 1) := by decide +kernel
theorem d_L_law_382 : decode code 382 = .ok (.ireturn, 1) := by decide +kernel
theorem d_L_law_383 : decode code 383 = .ok (.aload_n 1, 1) := by decide +kernel
theorem d_L_law_384 : decode code 384 = .ok (.aload_n 0, 1) := by decide +kernel
theorem d_L_law_385 : decode code 385 = .ok (.iload_n 3, 1) := by decide +kernel
theorem d_L_law_386 : decode code 386 = .ok (.iconst 1, 1) := by decide +kernel
theorem d_L_law_387 : decode code 387 = .ok (.iadd, 1) := by decide +kernel
theorem d_L_law_388 : decode code 388 = .ok (.iaload, 1) := by decide +kernel
theorem d_L_law_389 : decode code 389 = .ok (.aload_n 0, 1) := by decide +kernel
theorem d_L_law_390 : decode code 390 = .ok (.iload_n 3, 1) := by decide +kernel
theorem d_L_law_391 : decode code 391 = .ok (.iconst 2, 1) := by decide +kernel
theorem d_L_law_392 : decode code 392 = .ok (.iadd, 1) := by decide +kernel
theorem d_L_law_393 : decode code 393 = .ok (.iaload, 1) := by decide +kernel
theorem d_L_law_394 : decode code 394 = .ok (.aload_n 0, 1) := by decide +kernel
theorem d_L_law_395 : decode code 395 = .ok (.iload_n 3, 1) := by decide +kernel
theorem d_L_law_396 : decode code 396 = .ok (.iconst 3, 1) := by decide +kernel
theorem d_L_law_397 : decode code 397 = .ok (.iadd, 1) := by decide +kernel
theorem d_L_law_398 : decode code 398 = .ok (.iaload, 1) := by decide +kernel
theorem d_L_law_399 : decode code 399 = .ok (.invokevirtual 46, 3) := by decide +kernel
theorem d_L_law_402 : decode code 402 = .ok (.aload_n 2, 1) := by decide +kernel
theorem d_L_law_403 : decode code 403 = .ok (.aload_n 0, 1) := by decide +kernel
theorem d_L_law_404 : decode code 404 = .ok (.iload_n 3, 1) := by decide +kernel
theorem d_L_law_405 : decode code 405 = .ok (.iconst 1, 1) := by decide +kernel
theorem d_L_law_406 : decode code 406 = .ok (.iadd, 1) := by decide +kernel
theorem d_L_law_407 : decode code 407 = .ok (.iaload, 1) := by decide +kernel
theorem d_L_law_408 : decode code 408 = .ok (.aload_n 0, 1) := by decide +kernel
theorem d_L_law_409 : decode code 409 = .ok (.iload_n 3, 1) := by decide +kernel
theorem d_L_law_410 : decode code 410 = .ok (.iconst 2, 1) := by decide +kernel
theorem d_L_law_411 : decode code 411 = .ok (.iadd, 1) := by decide +kernel
theorem d_L_law_412 : decode code 412 = .ok (.iaload, 1) := by decide +kernel
theorem d_L_law_413 : decode code 413 = .ok (.aload_n 0, 1) := by decide +kernel
theorem d_L_law_414 : decode code 414 = .ok (.iload_n 3, 1) := by decide +kernel
theorem d_L_law_415 : decode code 415 = .ok (.iconst 3, 1) := by decide +kernel
theorem d_L_law_416 : decode code 416 = .ok (.iadd, 1) := by decide +kernel
theorem d_L_law_417 : decode code 417 = .ok (.iaload, 1) := by decide +kernel
theorem d_L_law_418 : decode code 418 = .ok (.invokevirtual 50, 3) := by decide +kernel
theorem d_L_law_421 : decode code 421 = .ok (.if_icmp .eq 335, 3) := by decide +kernel
theorem d_L_law_424 : decode code 424 = .ok (.iconst 0, 1) := by decide +kernel
theorem d_L_law_425 : decode code 425 = .ok (.ireturn, 1) := by decide +kernel
theorem d_L_law_426 : decode code 426 = .ok (.aload_n 1, 1) := by decide +kernel
theorem d_L_law_427 : decode code 427 = .ok (.aload_n 0, 1) := by decide +kernel
theorem d_L_law_428 : decode code 428 = .ok (.iload_n 3, 1) := by decide +kernel
theorem d_L_law_429 : decode code 429 = .ok (.iconst 1, 1) := by decide +kernel
theorem d_L_law_430 : decode code 430 = .ok (.iadd, 1) := by decide +kernel
theorem d_L_law_431 : decode code 431 = .ok (.iaload, 1) := by decide +kernel
theorem d_L_law_432 : decode code 432 = .ok (.aload_n 0, 1) := by decide +kernel
theorem d_L_law_433 : decode code 433 = .ok (.iload_n 3, 1) := by decide +kernel
theorem d_L_law_434 : decode code 434 = .ok (.iconst 2, 1) := by decide +kernel
theorem d_L_law_435 : decode code 435 = .ok (.iadd, 1) := by decide +kernel
theorem d_L_law_436 : decode code 436 = .ok (.iaload, 1) := by decide +kernel
theorem d_L_law_437 : decode code 437 = .ok (.aload_n 0, 1) := by decide +kernel
theorem d_L_law_438 : decode code 438 = .ok (.iload_n 3, 1) := by decide +kernel
theorem d_L_law_439 : decode code 439 = .ok (.iconst 3, 1) := by decide +kernel
theorem d_L_law_440 : decode code 440 = .ok (.iadd, 1) := by decide +kernel
theorem d_L_law_441 : decode code 441 = .ok (.iaload, 1) := by decide +kernel
theorem d_L_law_442 : decode code 442 = .ok (.invokevirtual 51, 3) := by decide +kernel
theorem d_L_law_445 : decode code 445 = .ok (.aload_n 2, 1) := by decide +kernel
theorem d_L_law_446 : decode code 446 = .ok (.aload_n 0, 1) := by decide +kernel
theorem d_L_law_447 : decode code 447 = .ok (.iload_n 3, 1) := by decide +kernel
theorem d_L_law_448 : decode code 448 = .ok (.iconst 1, 1) := by decide +kernel
theorem d_L_law_449 : decode code 449 = .ok (.iadd, 1) := by decide +kernel
theorem d_L_law_450 : decode code 450 = .ok (.iaload, 1) := by decide +kernel
end
section
theorem d_L_law_451 : decode code 451 = .ok (.aload_n 0, 1) := by decide +kernel
theorem d_L_law_452 : decode code 452 = .ok (.iload_n 3, 1) := by decide +kernel
theorem d_L_law_453 : decode code 453 = .ok (.iconst 2, 1) := by decide +kernel
theorem d_L_law_454 : decode code 454 = .ok (.iadd, 1) := by decide +kernel
theorem d_L_law_455 : decode code 455 = .ok (.iaload, 1) := by decide +kernel
theorem d_L_law_456 : decode code 456 = .ok (.aload_n 0, 1) := by decide +kernel
theorem d_L_law_457 : decode code 457 = .ok (.iload_n 3, 1) := by decide +kernel
theorem d_L_law_458 : decode code 458 = .ok (.iconst 3, 1) := by decide +kernel
theorem d_L_law_459 : decode code 459 = .ok (.iadd, 1) := by decide +kernel
theorem d_L_law_460 : decode code 460 = .ok (.iaload, 1) := by decide +kernel
theorem d_L_law_461 : decode code 461 = .ok (.invokevirtual 54, 3) := by decide +kernel
theorem d_L_law_464 : decode code 464 = .ok (.if_icmp .eq 292, 3) := by decide +kernel
theorem d_L_law_467 : decode code 467 = .ok (.iconst 0, 1) := by decide +kernel
theorem d_L_law_468 : decode code 468 = .ok (.ireturn, 1) := by decide +kernel
theorem d_L_law_469 : decode code 469 = .ok (.aload_n 1, 1) := by decide +kernel
theorem d_L_law_470 : decode code 470 = .ok (.aload_n 0, 1) := by decide +kernel
theorem d_L_law_471 : decode code 471 = .ok (.iload_n 3, 1) := by decide +kernel
theorem d_L_law_472 : decode code 472 = .ok (.iconst 1, 1) := by decide +kernel
theorem d_L_law_473 : decode code 473 = .ok (.iadd, 1) := by decide +kernel
theorem d_L_law_474 : decode code 474 = .ok (.iaload, 1) := by decide +kernel
theorem d_L_law_475 : decode code 475 = .ok (.invokevirtual 55, 3) := by decide +kernel
theorem d_L_law_478 : decode code 478 = .ok (.aload_n 2, 1) := by decide +kernel
theorem d_L_law_479 : decode code 479 = .ok (.aload_n 0, 1) := by decide +kernel
theorem d_L_law_480 : decode code 480 = .ok (.iload_n 3, 1) := by decide +kernel
theorem d_L_law_481 : decode code 481 = .ok (.iconst 1, 1) := by decide +kernel
theorem d_L_law_482 : decode code 482 = .ok (.iadd, 1) := by decide +kernel
theorem d_L_law_483 : decode code 483 = .ok (.iaload, 1) := by decide +kernel
theorem d_L_law_484 : decode code 484 = .ok (.invokevirtual 58, 3) := by decide +kernel
theorem d_L_law_487 : decode code 487 = .ok (.if_icmp .eq 269, 3) := by decide +kernel
theorem d_L_law_490 : decode code 490 = .ok (.iconst 0, 1) := by decide +kernel
theorem d_L_law_491 : decode code 491 = .ok (.ireturn, 1) := by decide +kernel
theorem d_L_law_492 : decode code 492 = .ok (.aload_n 1, 1) := by decide +kernel
theorem d_L_law_493 : decode code 493 = .ok (.aload_n 0, 1) := by decide +kernel
theorem d_L_law_494 : decode code 494 = .ok (.iload_n 3, 1) := by decide +kernel
theorem d_L_law_495 : decode code 495 = .ok (.iconst 1, 1) := by decide +kernel
theorem d_L_law_496 : decode code 496 = .ok (.iadd, 1) := by decide +kernel
theorem d_L_law_497 : decode code 497 = .ok (.iaload, 1) := by decide +kernel
theorem d_L_law_498 : decode code 498 = .ok (.invokevirtual 59, 3) := by decide +kernel
theorem d_L_law_501 : decode code 501 = .ok (.aload_n 2, 1) := by decide +kernel
theorem d_L_law_502 : decode code 502 = .ok (.aload_n 0, 1) := by decide +kernel
theorem d_L_law_503 : decode code 503 = .ok (.iload_n 3, 1) := by decide +kernel
theorem d_L_law_504 : decode code 504 = .ok (.iconst 1, 1) := by decide +kernel
theorem d_L_law_505 : decode code 505 = .ok (.iadd, 1) := by decide +kernel
theorem d_L_law_506 : decode code 506 = .ok (.iaload, 1) := by decide +kernel
theorem d_L_law_507 : decode code 507 = .ok (.invokevirtual 62, 3) := by decide +kernel
theorem d_L_law_510 : decode code 510 = .ok (.if_icmp .eq 246, 3) := by decide +kernel
theorem d_L_law_513 : decode code 513 = .ok (.iconst 0, 1) := by decide +kernel
theorem d_L_law_514 : decode code 514 = .ok (.ireturn, 1) := by decide +kernel
theorem d_L_law_515 : decode code 515 = .ok (.aload_n 1, 1) := by decide +kernel
theorem d_L_law_516 : decode code 516 = .ok (.aload_n 0, 1) := by decide +kernel
theorem d_L_law_517 : decode code 517 = .ok (.iload_n 3, 1) := by decide +kernel
theorem d_L_law_518 : decode code 518 = .ok (.iconst 1, 1) := by decide +kernel
theorem d_L_law_519 : decode code 519 = .ok (.iadd, 1) := by decide +kernel
theorem d_L_law_520 : decode code 520 = .ok (.iaload, 1) := by decide +kernel
theorem d_L_law_521 : decode code 521 = .ok (.invokevirtual 63, 3) := by decide +kernel
theorem d_L_law_524 : decode code 524 = .ok (.aload_n 2, 1) := by decide +kernel
theorem d_L_law_525 : decode code 525 = .ok (.aload_n 0, 1) := by decide +kernel
theorem d_L_law_526 : decode code 526 = .ok (.iload_n 3, 1) := by decide +kernel
theorem d_L_law_527 : decode code 527 = .ok (.iconst 1, 1) := by decide +kernel
theorem d_L_law_528 : decode code 528 = .ok (.iadd, 1) := by decide +kernel
theorem d_L_law_529 : decode code 529 = .ok (.iaload, 1) := by decide +kernel
theorem d_L_law_530 : decode code 530 = .ok (.invokevirtual 66, 3) := by decide +kernel
theorem d_L_law_533 : decode code 533 = .ok (.if_icmp .eq 223, 3) := by decide +kernel
theorem d_L_law_536 : decode code 536 = .ok (.iconst 0, 1) := by decide +kernel
theorem d_L_law_537 : decode code 537 = .ok (.ireturn, 1) := by decide +kernel
theorem d_L_law_538 : decode code 538 = .ok (.aload_n 1, 1) := by decide +kernel
theorem d_L_law_539 : decode code 539 = .ok (.aload_n 0, 1) := by decide +kernel
theorem d_L_law_540 : decode code 540 = .ok (.iload_n 3, 1) := by decide +kernel
theorem d_L_law_541 : decode code 541 = .ok (.iconst 1, 1) := by decide +kernel
theorem d_L_law_542 : decode code 542 = .ok (.iadd, 1) := by decide +kernel
theorem d_L_law_543 : decode code 543 = .ok (.iaload, 1) := by decide +kernel
theorem d_L_law_544 : decode code 544 = .ok (.invokevirtual 67, 3) := by decide +kernel
theorem d_L_law_547 : decode code 547 = .ok (.aload_n 2, 1) := by decide +kernel
theorem d_L_law_548 : decode code 548 = .ok (.aload_n 0, 1) := by decide +kernel
theorem d_L_law_549 : decode code 549 = .ok (.iload_n 3, 1) := by decide +kernel
theorem d_L_law_550 : decode code 550 = .ok (.iconst 1, 1) := by decide +kernel
theorem d_L_law_551 : decode code 551 = .ok (.iadd, 1) := by decide +kernel
theorem d_L_law_552 : decode code 552 = .ok (.iaload, 1) := by decide +kernel
theorem d_L_law_553 : decode code 553 = .ok (.invokevirtual 70, 3) := by decide +kernel
theorem d_L_law_556 : decode code 556 = .ok (.if_icmp .eq 200, 3) := by decide +kernel
theorem d_L_law_559 : decode code 559 = .ok (.iconst 0, 1) := by decide +kernel
theorem d_L_law_560 : decode code 560 = .ok (.ireturn, 1) := by decide +kernel
theorem d_L_law_561 : decode code 561 = .ok (.aload_n 1, 1) := by decide +kernel
theorem d_L_law_562 : decode code 562 = .ok (.aload_n 0, 1) := by decide +kernel
theorem d_L_law_563 : decode code 563 = .ok (.iload_n 3, 1) := by decide +kernel
theorem d_L_law_564 : decode code 564 = .ok (.iconst 1, 1) := by decide +kernel
theorem d_L_law_565 : decode code 565 = .ok (.iadd, 1) := by decide +kernel
theorem d_L_law_566 : decode code 566 = .ok (.iaload, 1) := by decide +kernel
theorem d_L_law_567 : decode code 567 = .ok (.aload_n 0, 1) := by decide +kernel
theorem d_L_law_568 : decode code 568 = .ok (.iload_n 3, 1) := by decide +kernel
theorem d_L_law_569 : decode code 569 = .ok (.iconst 2, 1) := by decide +kernel
theorem d_L_law_570 : decode code 570 = .ok (.iadd, 1) := by decide +kernel
theorem d_L_law_571 : decode code 571 = .ok (.iaload, 1) := by decide +kernel
theorem d_L_law_572 : decode code 572 = .ok (.aload_n 0, 1) := by decide +kernel
theorem d_L_law_573 : decode code 573 = .ok (.iload_n 3, 1) := by decide +kernel
theorem d_L_law_574 : decode code 574 = .ok (.iconst 3, 1) := by decide +kernel
theorem d_L_law_575 : decode code 575 = .ok (.iadd, 1) := by decide +kernel
theorem d_L_law_576 : decode code 576 = .ok (.iaload, 1) := by decide +kernel
theorem d_L_law_577 : decode code 577 = .ok (.invokevirtual 71, 3) := by decide +kernel
theorem d_L_law_580 : decode code 580 = .ok (.aload_n 2, 1) := by decide +kernel
theorem d_L_law_581 : decode code 581 = .ok (.aload_n 0, 1) := by decide +kernel
theorem d_L_law_582 : decode code 582 = .ok (.iload_n 3, 1) := by decide +kernel
theorem d_L_law_583 : decode code 583 = .ok (.iconst 1, 1) := by decide +kernel
theorem d_L_law_584 : decode code 584 = .ok (.iadd, 1) := by decide +kernel
theorem d_L_law_585 : decode code 585 = .ok (.iaload, 1) := by decide +kernel
theorem d_L_law_586 : decode code 586 = .ok (.aload_n 0, 1) := by decide +kernel
theorem d_L_law_587 : decode code 587 = .ok (.iload_n 3, 1) := by decide +kernel
theorem d_L_law_588 : decode code 588 = .ok (.iconst 2, 1) := by decide +kernel
theorem d_L_law_589 : decode code 589 = .ok (.iadd, 1) := by decide +kernel
theorem d_L_law_590 : decode code 590 = .ok (.iaload, 1) := by decide +kernel
theorem d_L_law_591 : decode code 591 = .ok (.aload_n 0, 1) := by decide +kernel
theorem d_L_law_592 : decode code 592 = .ok (.iload_n 3, 1) := by decide +kernel
theorem d_L_law_593 : decode code 593 = .ok (.iconst 3, 1) := by decide +kernel
theorem d_L_law_594 : decode code 594 = .ok (.iadd, 1) := by decide +kernel
theorem d_L_law_595 : decode code 595 = .ok (.iaload, 1) := by decide +kernel
theorem d_L_law_596 : decode code 596 = .ok (.invokevirtual 74, 3) := by decide +kernel
theorem d_L_law_599 : decode code 599 = .ok (.if_icmp .eq 157, 3) := by decide +kernel
theorem d_L_law_602 : decode code 602 = .ok (.iconst 0, 1) := by decide +kernel
theorem d_L_law_603 : decode code 603 = .ok (.ireturn, 1) := by decide +kernel
theorem d_L_law_604 : decode code 604 = .ok (.aload_n 1, 1) := by decide +kernel
theorem d_L_law_605 : decode code 605 = .ok (.aload_n 0, 1) := by decide +kernel
theorem d_L_law_606 : decode code 606 = .ok (.iload_n 3, 1) := by decide +kernel
theorem d_L_law_607 : decode code 607 = .ok (.iconst 1, 1) := by decide +kernel
theorem d_L_law_608 : decode code 608 = .ok (.iadd, 1) := by decide +kernel
theorem d_L_law_609 : decode code 609 = .ok (.iaload, 1) := by decide +kernel
theorem d_L_law_610 : decode code 610 = .ok (.aload_n 0, 1) := by decide +kernel
theorem d_L_law_611 : decode code 611 = .ok (.iload_n 3, 1) := by decide +kernel
theorem d_L_law_612 : decode code 612 = .ok (.iconst 2, 1) := by decide +kernel
theorem d_L_law_613 : decode code 613 = .ok (.iadd, 1) := by decide +kernel
theorem d_L_law_614 : decode code 614 = .ok (.iaload, 1) := by decide +kernel
theorem d_L_law_615 : decode code 615 = .ok (.invokevirtual 75, 3) := by decide +kernel
theorem d_L_law_618 : decode code 618 = .ok (.aload_n 2, 1) := by decide +kernel
theorem d_L_law_619 : decode code 619 = .ok (.aload_n 0, 1) := by decide +kernel
theorem d_L_law_620 : decode code 620 = .ok (.iload_n 3, 1) := by decide +kernel
theorem d_L_law_621 : decode code 621 = .ok (.iconst 1, 1) := by decide +kernel
theorem d_L_law_622 : decode code 622 = .ok (.iadd, 1) := by decide +kernel
theorem d_L_law_623 : decode code 623 = .ok (.iaload, 1) := by decide +kernel
theorem d_L_law_624 : decode code 624 = .ok (.aload_n 0, 1) := by decide +kernel
theorem d_L_law_625 : decode code 625 = .ok (.iload_n 3, 1) := by decide +kernel
theorem d_L_law_626 : decode code 626 = .ok (.iconst 2, 1) := by decide +kernel
theorem d_L_law_627 : decode code 627 = .ok (.iadd, 1) := by decide +kernel
theorem d_L_law_628 : decode code 628 = .ok (.iaload, 1) := by decide +kernel
theorem d_L_law_629 : decode code 629 = .ok (.invokevirtual 78, 3) := by decide +kernel
theorem d_L_law_632 : decode code 632 = .ok (.if_icmp .eq 124, 3) := by decide +kernel
theorem d_L_law_635 : decode code 635 = .ok (.iconst 0, 1) := by decide +kernel
theorem d_L_law_636 : decode code 636 = .ok (.ireturn, 1) := by decide +kernel
theorem d_L_law_637 : decode code 637 = .ok (.aload_n 1, 1) := by decide +kernel
theorem d_L_law_638 : decode code 638 = .ok (.aload_n 0, 1) := by decide +kernel
theorem d_L_law_639 : decode code 639 = .ok (.iload_n 3, 1) := by decide +kernel
theorem d_L_law_640 : decode code 640 = .ok (.iconst 1, 1) := by decide +kernel
theorem d_L_law_641 : decode code 641 = .ok (.iadd, 1) := by decide +kernel
theorem d_L_law_642 : decode code 642 = .ok (.iaload, 1) := by decide +kernel
theorem d_L_law_643 : decode code 643 = .ok (.aload_n 0, 1) := by decide +kernel
theorem d_L_law_644 : decode code 644 = .ok (.iload_n 3, 1) := by decide +kernel
theorem d_L_law_645 : decode code 645 = .ok (.iconst 2, 1) := by decide +kernel
theorem d_L_law_646 : decode code 646 = .ok (.iadd, 1) := by decide +kernel
theorem d_L_law_647 : decode code 647 = .ok (.iaload, 1) := by decide +kernel
theorem d_L_law_648 : decode code 648 = .ok (.invokevirtual 79, 3) := by decide +kernel
theorem d_L_law_651 : decode code 651 = .ok (.aload_n 2, 1) := by decide +kernel
theorem d_L_law_652 : decode code 652 = .ok (.aload_n 0, 1) := by decide +kernel
theorem d_L_law_653 : decode code 653 = .ok (.iload_n 3, 1) := by decide +kernel
theorem d_L_law_654 : decode code 654 = .ok (.iconst 1, 1) := by decide +kernel
theorem d_L_law_655 : decode code 655 = .ok (.iadd, 1) := by decide +kernel
theorem d_L_law_656 : decode code 656 = .ok (.iaload, 1) := by decide +kernel
theorem d_L_law_657 : decode code 657 = .ok (.aload_n 0, 1) := by decide +kernel
theorem d_L_law_658 : decode code 658 = .ok (.iload_n 3, 1) := by decide +kernel
theorem d_L_law_659 : decode code 659 = .ok (.iconst 2, 1) := by decide +kernel
theorem d_L_law_660 : decode code 660 = .ok (.iadd, 1) := by decide +kernel
theorem d_L_law_661 : decode code 661 = .ok (.iaload, 1) := by decide +kernel
theorem d_L_law_662 : decode code 662 = .ok (.invokevirtual 82, 3) := by decide +kernel
theorem d_L_law_665 : decode code 665 = .ok (.if_icmp .eq 91, 3) := by decide +kernel
theorem d_L_law_668 : decode code 668 = .ok (.iconst 0, 1) := by decide +kernel
theorem d_L_law_669 : decode code 669 = .ok (.ireturn, 1) := by decide +kernel
theorem d_L_law_670 : decode code 670 = .ok (.aload_n 1, 1) := by decide +kernel
theorem d_L_law_671 : decode code 671 = .ok (.aload_n 0, 1) := by decide +kernel
theorem d_L_law_672 : decode code 672 = .ok (.iload_n 3, 1) := by decide +kernel
theorem d_L_law_673 : decode code 673 = .ok (.iconst 1, 1) := by decide +kernel
theorem d_L_law_674 : decode code 674 = .ok (.iadd, 1) := by decide +kernel
theorem d_L_law_675 : decode code 675 = .ok (.iaload, 1) := by decide +kernel
theorem d_L_law_676 : decode code 676 = .ok (.aload_n 0, 1) := by decide +kernel
theorem d_L_law_677 : decode code 677 = .ok (.iload_n 3, 1) := by decide +kernel
theorem d_L_law_678 : decode code 678 = .ok (.iconst 2, 1) := by decide +kernel
theorem d_L_law_679 : decode code 679 = .ok (.iadd, 1) := by decide +kernel
theorem d_L_law_680 : decode code 680 = .ok (.iaload, 1) := by decide +kernel
theorem d_L_law_681 : decode code 681 = .ok (.aload_n 0, 1) := by decide +kernel
theorem d_L_law_682 : decode code 682 = .ok (.iload_n 3, 1) := by decide +kernel
theorem d_L_law_683 : decode code 683 = .ok (.iconst 3, 1) := by decide +kernel
theorem d_L_law_684 : decode code 684 = .ok (.iadd, 1) := by decide +kernel
theorem d_L_law_685 : decode code 685 = .ok (.iaload, 1) := by decide +kernel
theorem d_L_law_686 : decode code 686 = .ok (.invokevirtual 83, 3) := by decide +kernel
theorem d_L_law_689 : decode code 689 = .ok (.aload_n 2, 1) := by decide +kernel
theorem d_L_law_690 : decode code 690 = .ok (.aload_n 0, 1) := by decide +kernel
theorem d_L_law_691 : decode code 691 = .ok (.iload_n 3, 1) := by decide +kernel
theorem d_L_law_692 : decode code 692 = .ok (.iconst 1, 1) := by decide +kernel
theorem d_L_law_693 : decode code 693 = .ok (.iadd, 1) := by decide +kernel
theorem d_L_law_694 : decode code 694 = .ok (.iaload, 1) := by decide +kernel
theorem d_L_law_695 : decode code 695 = .ok (.aload_n 0, 1) := by decide +kernel
theorem d_L_law_696 : decode code 696 = .ok (.iload_n 3, 1) := by decide +kernel
theorem d_L_law_697 : decode code 697 = .ok (.iconst 2, 1) := by decide +kernel
theorem d_L_law_698 : decode code 698 = .ok (.iadd, 1) := by decide +kernel
theorem d_L_law_699 : decode code 699 = .ok (.iaload, 1) := by decide +kernel
theorem d_L_law_700 : decode code 700 = .ok (.aload_n 0, 1) := by decide +kernel
theorem d_L_law_701 : decode code 701 = .ok (.iload_n 3, 1) := by decide +kernel
theorem d_L_law_702 : decode code 702 = .ok (.iconst 3, 1) := by decide +kernel
theorem d_L_law_703 : decode code 703 = .ok (.iadd, 1) := by decide +kernel
theorem d_L_law_704 : decode code 704 = .ok (.iaload, 1) := by decide +kernel
theorem d_L_law_705 : decode code 705 = .ok (.invokevirtual 86, 3) := by decide +kernel
theorem d_L_law_708 : decode code 708 = .ok (.if_icmp .eq 48, 3) := by decide +kernel
theorem d_L_law_711 : decode code 711 = .ok (.iconst 0, 1) := by decide +kernel
theorem d_L_law_712 : decode code 712 = .ok (.ireturn, 1) := by decide +kernel
theorem d_L_law_713 : decode code 713 = .ok (.aload_n 1, 1) := by decide +kernel
theorem d_L_law_714 : decode code 714 = .ok (.aload_n 0, 1) := by decide +kernel
theorem d_L_law_715 : decode code 715 = .ok (.iload_n 3, 1) := by decide +kernel
theorem d_L_law_716 : decode code 716 = .ok (.iconst 1, 1) := by decide +kernel
theorem d_L_law_717 : decode code 717 = .ok (.iadd, 1) := by decide +kernel
theorem d_L_law_718 : decode code 718 = .ok (.iaload, 1) := by decide +kernel
theorem d_L_law_719 : decode code 719 = .ok (.aload_n 0, 1) := by decide +kernel
theorem d_L_law_720 : decode code 720 = .ok (.iload_n 3, 1) := by decide +kernel
theorem d_L_law_721 : decode code 721 = .ok (.iconst 2, 1) := by decide +kernel
theorem d_L_law_722 : decode code 722 = .ok (.iadd, 1) := by decide +kernel
theorem d_L_law_723 : decode code 723 = .ok (.iaload, 1) := by decide +kernel
theorem d_L_law_724 : decode code 724 = .ok (.aload_n 0, 1) := by decide +kernel
theorem d_L_law_725 : decode code 725 = .ok (.iload_n 3, 1) := by decide +kernel
theorem d_L_law_726 : decode code 726 = .ok (.iconst 3, 1) := by decide +kernel
theorem d_L_law_727 : decode code 727 = .ok (.iadd, 1) := by decide +kernel
theorem d_L_law_728 : decode code 728 = .ok (.iaload, 1) := by decide +kernel
theorem d_L_law_729 : decode code 729 = .ok (.invokevirtual 87, 3) := by decide +kernel
theorem d_L_law_732 : decode code 732 = .ok (.aload_n 2, 1) := by decide +kernel
theorem d_L_law_733 : decode code 733 = .ok (.aload_n 0, 1) := by decide +kernel
theorem d_L_law_734 : decode code 734 = .ok (.iload_n 3, 1) := by decide +kernel
theorem d_L_law_735 : decode code 735 = .ok (.iconst 1, 1) := by decide +kernel
theorem d_L_law_736 : decode code 736 = .ok (.iadd, 1) := by decide +kernel
theorem d_L_law_737 : decode code 737 = .ok (.iaload, 1) := by decide +kernel
theorem d_L_law_738 : decode code 738 = .ok (.aload_n 0, 1) := by decide +kernel
theorem d_L_law_739 : decode code 739 = .ok (.iload_n 3, 1) := by decide +kernel
theorem d_L_law_740 : decode code 740 = .ok (.iconst 2, 1) := by decide +kernel
theorem d_L_law_741 : decode code 741 = .ok (.iadd, 1) := by decide +kernel
theorem d_L_law_742 : decode code 742 = .ok (.iaload, 1) := by decide +kernel
theorem d_L_law_743 : decode code 743 = .ok (.aload_n 0, 1) := by decide +kernel
theorem d_L_law_744 : decode code 744 = .ok (.iload_n 3, 1) := by decide +kernel
theorem d_L_law_745 : decode code 745 = .ok (.iconst 3, 1) := by decide +kernel
theorem d_L_law_746 : decode code 746 = .ok (.iadd, 1) := by decide +kernel
theorem d_L_law_747 : decode code 747 = .ok (.iaload, 1) := by decide +kernel
theorem d_L_law_748 : decode code 748 = .ok (.invokevirtual 90, 3) := by decide +kernel
theorem d_L_law_751 : decode code 751 = .ok (.if_icmp .eq 5, 3) := by decide +kernel
theorem d_L_law_754 : decode code 754 = .ok (.iconst 0, 1) := by decide +kernel
theorem d_L_law_755 : decode code 755 = .ok (.ireturn, 1) := by decide +kernel
theorem d_L_law_756 : decode code 756 = .ok (.iinc 3 7, 3) := by decide +kernel
theorem d_L_law_759 : decode code 759 = .ok (.goto (-741), 3) := by decide +kernel
theorem d_L_law_762 : decode code 762 = .ok (.iconst 1, 1) := by decide +kernel
end
section
theorem d_L_law_763 : decode code 763 = .ok (.ireturn, 1) := by decide +kernel
end
section
section JMore
variable {X : Nat → Nat → State → Prop} {μ : aMd} {d mc ms : Nat} {Q : aM → Option Value → Prop} {uc us pc : Nat} {ls : List (Option Value)} {st : List Value} {M : aM}
theorem j_ixor {x y : Int32} (hd : decode μ.2.1 pc = .ok (.ixor, 1)) (kk : aJ X μ d mc ms Q uc us (pc + 1) ls (.int (x ^^^ y) :: st) M) : aJ X μ d mc ms Q uc us pc ls (.int y :: .int x :: st) M := by
  intro D cA b scr p l e R s m args below meth c Qf H locs a C hX hO hS hL
  exact lv_ixor C.1 C.2.1 hd (kk D cA b scr p l e R s m args below meth c Qf H locs a C hX hO hS hL)
theorem j_getR {ix o k ci r : Nat} (hd : decode μ.2.1 pc = .ok (.getfield ix, 3)) (ht : tO M o ci) (hf : aFl μ.1.cls ix ci k) (hr : aRf ci k = true) (hc : ci < 100) (hv : mR M o k = some r) (kk : aJ X μ d mc ms Q uc us (pc + 3) ls (.ref r :: st) M) : aJ X μ d mc ms Q uc us pc ls (.ref o :: st) M :=
  j_getr hd ht hf hr hc (j_eqv (by rw [hv]; rfl) kk)
theorem j_getN {ix o k ci : Nat} (hd : decode μ.2.1 pc = .ok (.getfield ix, 3)) (ht : tO M o ci) (hf : aFl μ.1.cls ix ci k) (hr : aRf ci k = true) (hc : ci < 100) (hv : mR M o k = none) (kk : aJ X μ d mc ms Q uc us (pc + 3) ls (.null :: st) M) : aJ X μ d mc ms Q uc us pc ls (.ref o :: st) M :=
  j_getr hd ht hf hr hc (j_eqv (by rw [hv]; rfl) kk)
theorem j_putR {ix o k ci r : Nat} {ty : FieldType} (hd : decode μ.2.1 pc = .ok (.putfield ix, 3)) (ht : tO M o ci) (hf : aPl μ.1.cls ix ci k ty false) (hr : aRf ci k = true) (hc : ci < 100) (hn : ∀ z : Option Nat, narrow ty (va_rf z) = va_rf z) (hfit : ∀ z : Option Nat, fits ty (va_rf z) = true) (kk : aJ X μ d mc ms Q uc us (pc + 3) ls st (sR M o k (some r))) : aJ X μ d mc ms Q uc us pc ls (.ref r :: .ref o :: st) M :=
  j_putr (x := some r) hd ht hf hr hc hn hfit kk
theorem j_putRF {ix o k ci r : Nat} {ty : FieldType} (hd : decode μ.2.1 pc = .ok (.putfield ix, 3)) (ht : tO M o ci) (hf : aPl μ.1.cls ix ci k ty true) (hr : aRf ci k = true) (hc : ci < 100) (hn : ∀ z : Option Nat, narrow ty (va_rf z) = va_rf z) (hfit : ∀ z : Option Nat, fits ty (va_rf z) = true) (hin2 : μ.1.name = "<init>") (kk : aJ X μ d mc ms Q uc us (pc + 3) ls st (sR M o k (some r))) : aJ X μ d mc ms Q uc us pc ls (.ref r :: .ref o :: st) M :=
  j_putrF (x := some r) hd ht hf hr hc hn hfit hin2 kk
theorem j_aaldR {i : Int32} {o n j kd r : Nat} (hd : decode μ.2.1 pc = .ok (.aaload, 1)) (ht : tA M o kd n) (h2 : 102 ≤ kd) (hty : aTs kd) (hj : aIx i n j) (hv : mR M o j = some r) (kk : aJ X μ d mc ms Q uc us (pc + 1) ls (.ref r :: st) M) : aJ X μ d mc ms Q uc us pc ls (.int i :: .ref o :: st) M :=
  j_aald hd ht h2 hty hj (j_eqv (by rw [hv]; rfl) kk)
theorem j_aaldN {i : Int32} {o n j kd : Nat} (hd : decode μ.2.1 pc = .ok (.aaload, 1)) (ht : tA M o kd n) (h2 : 102 ≤ kd) (hty : aTs kd) (hj : aIx i n j) (hv : mR M o j = none) (kk : aJ X μ d mc ms Q uc us (pc + 1) ls (.null :: st) M) : aJ X μ d mc ms Q uc us pc ls (.int i :: .ref o :: st) M :=
  j_aald hd ht h2 hty hj (j_eqv (by rw [hv]; rfl) kk)
theorem tx_100 : ∀ cA : Nat → ClassId, (aT cA)[0]? = some (cA 100, .int) := fun _ => rfl
theorem tx_101 : ∀ cA : Nat → ClassId, (aT cA)[1]? = some (cA 101, .boolean) := fun _ => rfl
theorem tx_102 : ∀ cA : Nat → ClassId, (aT cA)[2]? = some (cA 102, .object "ShardGroups$Node") := fun _ => rfl
theorem tx_103 : ∀ cA : Nat → ClassId, (aT cA)[3]? = some (cA 103, .object "ShardGroups$ServiceNode") := fun _ => rfl
theorem tx_104 : ∀ cA : Nat → ClassId, (aT cA)[4]? = some (cA 104, .object "ShardGroups$StoreNode") := fun _ => rfl
theorem tx_105 : ∀ cA : Nat → ClassId, (aT cA)[5]? = some (cA 105, .object "ShardGroups$Configuration") := fun _ => rfl
theorem tx_106 : ∀ cA : Nat → ClassId, (aT cA)[6]? = some (cA 106, .object "ShardGroups$Entry") := fun _ => rfl
theorem tx_107 : ∀ cA : Nat → ClassId, (aT cA)[7]? = some (cA 107, .object "ShardGroups$Shard") := fun _ => rfl
theorem ts_102 : aTs 102 := fun cA => ⟨2, _, tx_102 cA⟩
theorem ts_103 : aTs 103 := fun cA => ⟨3, _, tx_103 cA⟩
theorem ts_104 : aTs 104 := fun cA => ⟨4, _, tx_104 cA⟩
theorem ts_105 : aTs 105 := fun cA => ⟨5, _, tx_105 cA⟩
theorem ts_106 : aTs 106 := fun cA => ⟨6, _, tx_106 cA⟩
theorem ts_107 : aTs 107 := fun cA => ⟨7, _, tx_107 cA⟩
theorem ty_100 : (100 : Nat) = 100 ∨ (100 : Nat) = 101 ∨ (102 ≤ 100 ∧ aTs 100) := Or.inl rfl
theorem ty_101 : (101 : Nat) = 100 ∨ (101 : Nat) = 101 ∨ (102 ≤ 101 ∧ aTs 101) := Or.inr (Or.inl rfl)
theorem ty_103 : (103 : Nat) = 100 ∨ (103 : Nat) = 101 ∨ (102 ≤ 103 ∧ aTs 103) := Or.inr (Or.inr ⟨by decide, ts_103⟩)
theorem ty_104 : (104 : Nat) = 100 ∨ (104 : Nat) = 101 ∨ (102 ≤ 104 ∧ aTs 104) := Or.inr (Or.inr ⟨by decide, ts_104⟩)
theorem ty_107 : (107 : Nat) = 100 ∨ (107 : Nat) = 101 ∨ (102 ≤ 107 ∧ aTs 107) := Or.inr (Or.inr ⟨by decide, ts_107⟩)
theorem j_newi {n : Int32} {N : Nat} (hd : decode μ.2.1 pc = .ok (.newarray .int, 2)) (hn : n = nI N) (hN : N ≤ 100000) (hu : uc + 1 ≤ mc) (hv : us + N ≤ ms) (kk : aJ X μ d mc ms Q (uc + 1) (us + N) (pc + 2) ls (.ref (mSz M) :: st) (mN M 100 N)) : aJ X μ d mc ms Q uc us pc ls (.int n :: st) M :=
  j_newa hd (by decide) (by decide) tx_100 rfl (fun _ _ h => h) w50 hn hN (by decide) hu hv kk
theorem j_newz {n : Int32} {N : Nat} (hd : decode μ.2.1 pc = .ok (.newarray .boolean, 2)) (hn : n = nI N) (hN : N ≤ 100000) (hu : uc + 1 ≤ mc) (hv : us + N ≤ ms) (kk : aJ X μ d mc ms Q (uc + 1) (us + N) (pc + 2) ls (.ref (mSz M) :: st) (mN M 101 N)) : aJ X μ d mc ms Q uc us pc ls (.int n :: st) M :=
  j_newa hd (by decide) (by decide) tx_101 rfl (fun _ _ h => h) w49 hn hN (by decide) hu hv kk
theorem j_min {ix : Nat} {x y : Int32} (hd : decode μ.2.1 pc = .ok (.invokestatic ix, 3)) (w1 : Cond.methodLink μ.1.cls ix Lib.Math.min.name ∈ aWS) (w2 : Cond.static Lib.Math.min.name ∈ aWS) (w3 : Cond.initialized "java/lang/Math" ∈ aWS) (w4 : Cond.code Lib.Math.min.name Lib.Math.min.code 2 (some .int) ∈ aWS) (hdep : 1 ≤ d) (hlen : st.length ≤ 8) (hc : uc ≤ mc) (hs : us ≤ ms) (kk : aJ X μ d mc ms Q uc us (pc + 3) ls (.int (if y < x then y else x) :: st) M) : aJ X μ d mc ms Q uc us pc ls (.int y :: .int x :: st) M := by
  intro D cA b scr p l e R s m args below meth c Qf H locs a C hX hO hS hL
  have hts := C.2.2.2.2.1
  have hR1 := C.2.2.2.2.2.2.1
  have hR2 := C.2.2.2.2.2.2.2.1
  have hR3 := C.2.2.2.2.2.2.2.2.1
  have hR4 := C.2.2.2.2.2.2.2.2.2.1
  exact va_mmin C.1 C.2.1 (C.2.2.1.trans hL.1.1.symm) C.2.2.2.1 (hts _ w1) (hts _ w2) (hts _ w3) (hts _ w4) (by omega) (by rw [aSum]; omega) (by omega) (by omega) hd (kk D cA b scr p l e R s m args below meth c Qf H locs a C hX hO hS hL)
theorem j_max {ix : Nat} {x y : Int32} (hd : decode μ.2.1 pc = .ok (.invokestatic ix, 3)) (w1 : Cond.methodLink μ.1.cls ix Lib.Math.max.name ∈ aWS) (w2 : Cond.static Lib.Math.max.name ∈ aWS) (w3 : Cond.initialized "java/lang/Math" ∈ aWS) (w4 : Cond.code Lib.Math.max.name Lib.Math.max.code 2 (some .int) ∈ aWS) (hdep : 1 ≤ d) (hlen : st.length ≤ 8) (hc : uc ≤ mc) (hs : us ≤ ms) (kk : aJ X μ d mc ms Q uc us (pc + 3) ls (.int (if x < y then y else x) :: st) M) : aJ X μ d mc ms Q uc us pc ls (.int y :: .int x :: st) M := by
  intro D cA b scr p l e R s m args below meth c Qf H locs a C hX hO hS hL
  have hts := C.2.2.2.2.1
  have hR1 := C.2.2.2.2.2.2.1
  have hR2 := C.2.2.2.2.2.2.2.1
  have hR3 := C.2.2.2.2.2.2.2.2.1
  have hR4 := C.2.2.2.2.2.2.2.2.2.1
  exact va_mmax C.1 C.2.1 (C.2.2.1.trans hL.1.1.symm) C.2.2.2.1 (hts _ w1) (hts _ w2) (hts _ w3) (hts _ w4) (by omega) (by rw [aSum]; omega) (by omega) (by omega) hd (kk D cA b scr p l e R s m args below meth c Qf H locs a C hX hO hS hL)
end JMore
theorem ca_V_103 : aCa 2 103 := ⟨_, _, rfl, fun cA => ⟨3, rfl⟩, Or.inl rfl⟩
theorem ca_T_104 : aCa 3 104 := ⟨_, _, rfl, fun cA => ⟨4, rfl⟩, Or.inl rfl⟩
theorem ca_V_102 : aCa 2 102 := ⟨_, _, rfl, fun cA => ⟨2, rfl⟩, Or.inr (by decide +kernel)⟩
theorem ca_T_102 : aCa 3 102 := ⟨_, _, rfl, fun cA => ⟨2, rfl⟩, Or.inr (by decide +kernel)⟩
theorem ca_C_105 : aCa 1 105 := ⟨_, _, rfl, fun cA => ⟨5, rfl⟩, Or.inl rfl⟩
theorem ca_H_107 : aCa 4 107 := ⟨_, _, rfl, fun cA => ⟨7, rfl⟩, Or.inl rfl⟩
theorem ca_E_106 : aCa 5 106 := ⟨_, _, rfl, fun cA => ⟨6, rfl⟩, Or.inl rfl⟩
theorem ca_G_106 : aCa 6 106 := ⟨_, _, rfl, fun cA => ⟨6, rfl⟩, Or.inr (by decide +kernel)⟩
theorem ca_F_106 : aCa 7 106 := ⟨_, _, rfl, fun cA => ⟨6, rfl⟩, Or.inr (by decide +kernel)⟩
theorem ca_R_106 : aCa 8 106 := ⟨_, _, rfl, fun cA => ⟨6, rfl⟩, Or.inr (by decide +kernel)⟩
theorem ca_I_106 : aCa 9 106 := ⟨_, _, rfl, fun cA => ⟨6, rfl⟩, Or.inr (by decide +kernel)⟩
theorem ca_D_106 : aCa 10 106 := ⟨_, _, rfl, fun cA => ⟨6, rfl⟩, Or.inr (by decide +kernel)⟩
theorem aK.ofF {μ : aMd} {d mc ms : Nat} {M : aM} {vs : List Value} {Q : aM → Option Value → Prop} (hy : plainFor μ.1 = true) (hn : vs.length ≤ μ.2.2.1) (h : aJ aX0 μ d mc ms Q 0 0 0 (vs.map some ++ List.replicate (μ.2.2.1 - vs.length) none) [] M) : aK μ d mc ms M vs Q := by
  intro l D cA b scr
  refine va_MetF (cc := μ.2.1) (maxL := μ.2.2.1) (ret := μ.2.2.2) hy rfl ?_
  intro p e s m args below meth c s₁ B hml hv
  obtain ⟨rfl, hO, hG⟩ := hv
  obtain ⟨a, ha, hL⟩ := aL.entry (b := b) (scr := scr) (nL := μ.2.2.1) (vs := vs) hn
  rw [ha]
  have hts := atoms_spec (ws := aws μ) B.pre
  have hlocks := B.notSynchronized
  have hL' : aL b scr μ.2.2.1 (vs.map some ++ List.replicate (μ.2.2.1 - vs.length) none) a := by
    refine ⟨hL.1, fun i v hi => ?_⟩
    by_cases h9 : i < (vs.map some).length
    · rw [List.getElem?_append_left h9] at hi
      exact hL.2 i v hi
    · rw [List.getElem?_append_right (by omega)] at hi
      have := List.mem_of_getElem? hi
      rw [List.mem_replicate] at this
      cases this.2
  refine h D cA b scr p l e _ s m _ below meth c _ s.heap [] a ⟨B.exec, B.bytes, hml, findClass_of_methodNamed B.named, fun w hw => hts w (List.mem_cons_of_mem _ hw), hG, Nat.le_refl _, Nat.le_refl _, Nat.le_refl _, Nat.le_refl _, by have := hO.1; omega, (name_of_methodNamed B.named B.method).1, ?_⟩ trivial hO va_S.rf hL'
  intro H locs uc us pc ls M' r hr hq hO' hS' hu hv'
  refine W.widen hu hv' ?_
  have hend : ∀ (v : Option Value), v = r.map (aV b scr) → ∀ t : State, t.heap = H → s.WarmedH t.vm → aQ D cA b scr Q (vs.map (aV b scr)).toArray s (.returned v) t := by
    intro v hv9 t ht hW
    subst hv9
    exact ⟨⟨M', r, rfl, hq, by rw [ht]; exact hO', aG.warm hW hG⟩, hS'.F ht⟩
  cases r with
  | none => exact W.vret B.exec B.bytes (B.returns.trans hr.1) (hend none rfl) hS'.2.2 hr.2
  | some v =>
    cases v with
    | int x =>
      obtain ⟨⟨ty, h1, h2⟩, h3⟩ := hr
      exact W.zret B.exec B.bytes (B.returns.trans h1) h2 (hend _ rfl) hS'.2.2 h3
    | ref x =>
      obtain ⟨⟨n, h1⟩, h3⟩ := hr
      exact W.aret B.exec B.bytes (B.returns.trans h1) (Or.inl ⟨n, rfl⟩) (Or.inr ⟨_, rfl⟩) (hend _ rfl) hS'.2.2 h3
    | null =>
      obtain ⟨⟨n, h1⟩, h3⟩ := hr
      exact W.aret B.exec B.bytes (B.returns.trans h1) (Or.inl ⟨n, rfl⟩) (Or.inl rfl) (hend _ rfl) hS'.2.2 h3
    | _ => exact hr.elim
end
section
/-! what is known is never cut: the logs of one group (three nodes), by their terms alone -/
def r2 (f : Nat → Prop) : Prop := ∃ a b, a < 3 ∧ b < 3 ∧ a ≠ b ∧ f a ∧ f b
theorem r2.meet {f g : Nat → Prop} (hf : r2 f) (hg : r2 g) : ∃ a, a < 3 ∧ f a ∧ g a := by
  obtain ⟨a, b, ha, hb, hab, fa, fb⟩ := hf
  obtain ⟨c, d, hc, hd, hcd, gc, gd⟩ := hg
  by_cases h1 : a = c
  · subst h1; exact ⟨a, ha, fa, gc⟩
  · by_cases h2 : a = d
    · subst h2; exact ⟨a, ha, fa, gd⟩
    · by_cases h3 : b = c
      · subst h3; exact ⟨b, hb, fb, gc⟩
      · by_cases h4 : b = d
        · subst h4; exact ⟨b, hb, fb, gd⟩
        · omega
theorem r2.mono {f g : Nat → Prop} (h : r2 f) (hg : ∀ a, a < 3 → f a → g a) : r2 g := by
  obtain ⟨a, b, ha, hb, hab, fa, fb⟩ := h
  exact ⟨a, b, ha, hb, hab, hg a ha fa, hg b hb fb⟩
def rHold (len : Nat → Nat) (tm : Nat → Nat → Nat) (P : Nat) (pt : Nat → Nat) (i : Nat) : Prop := P ≤ len i ∧ ∀ k, k < P → tm i k = pt k
def rT0 (P : Nat) (pt : Nat → Nat) : Nat := if P = 0 then 0 else pt (P - 1)
def rInv (T : Nat → Nat) (ld : Nat → Prop) (len : Nat → Nat) (tm : Nat → Nat → Nat) (kn : Nat → Nat) (P : Nat) (pt : Nat → Nat) : Prop :=
  (∀ i k, i < 3 → k < len i → tm i k ≤ T i) ∧
  (∀ i k k', i < 3 → k ≤ k' → k' < len i → tm i k ≤ tm i k') ∧
  (∀ i j k k', i < 3 → j < 3 → k < len i → k < len j → tm i k = tm j k → k' ≤ k → tm i k' = tm j k') ∧
  (∀ i j k k', i < 3 → j < 3 → k < len i → k' < len j → tm i k = tm j k' → k ≤ k' → tm j k = tm i k) ∧
  (∀ i j k, i < 3 → j < 3 → ld i → k < len j → tm j k = T i → k < len i ∧ tm i k = T i) ∧
  (∀ i j k, i < 3 → j < 3 → k < len j → tm j k % 3 = i → tm j k ≤ T i) ∧
  (∀ i, i < 3 → ld i → T i % 3 = i) ∧
  (∀ i, i < 3 → ld i → r2 (fun a => T i ≤ T a)) ∧
  (∀ j k, j < 3 → k < len j → r2 (fun a => tm j k ≤ T a)) ∧
  (∀ i, i < 3 → kn i ≤ P ∧ kn i ≤ len i ∧ ∀ k, k < kn i → tm i k = pt k) ∧
  r2 (rHold len tm P pt) ∧
  (∀ j k, j < 3 → k < len j → rT0 P pt < tm j k → rHold len tm P pt j) ∧
  (∀ i, i < 3 → ld i → rT0 P pt ≤ T i → rHold len tm P pt i)
theorem rInv.start : rInv (fun _ => 0) (fun _ => False) (fun _ => 0) (fun _ _ => 0) (fun _ => 0) 0 (fun _ => 0) := by
  refine ⟨fun i k _ h => absurd h (Nat.not_lt_zero _), fun i k k' _ _ h => absurd h (Nat.not_lt_zero _), fun i j k k' _ _ h => absurd h (Nat.not_lt_zero _), fun i j k k' _ _ h => absurd h (Nat.not_lt_zero _), fun i j k _ _ h => h.elim, fun i j k _ _ h => absurd h (Nat.not_lt_zero _), fun i _ h => h.elim, fun i _ h => h.elim, fun j k _ h => absurd h (Nat.not_lt_zero _), fun i _ => ⟨Nat.le_refl _, Nat.le_refl _, fun k h => absurd h (Nat.not_lt_zero _)⟩, ⟨0, 1, by omega, by omega, by omega, ⟨Nat.le_refl _, fun k h => absurd h (Nat.not_lt_zero _)⟩, ⟨Nat.le_refl _, fun k h => absurd h (Nat.not_lt_zero _)⟩⟩, fun j k _ h => absurd h (Nat.not_lt_zero _), fun i _ h => h.elim⟩
/-- terms grow; who leads keeps its term -/
theorem rInv.raise {T T' : Nat → Nat} {ld ld' : Nat → Prop} {len : Nat → Nat} {tm : Nat → Nat → Nat} {kn : Nat → Nat} {P : Nat} {pt : Nat → Nat} (h : rInv T ld len tm kn P pt) (hT : ∀ i, i < 3 → T i ≤ T' i) (hl : ∀ i, i < 3 → ld' i → ld i ∧ T' i = T i) : rInv T' ld' len tm kn P pt := by
  obtain ⟨a1, a2, b1, b2, c1, c0, e1, f1, f2, k1, h1, g1, l1⟩ := h
  refine ⟨fun i k hi hk => Nat.le_trans (a1 i k hi hk) (hT i hi), a2, b1, b2, fun i j k hi hj h hk he => ?_, fun i j k hi hj hk he => Nat.le_trans (c0 i j k hi hj hk he) (hT i hi), fun i hi h => ?_, fun i hi h => ?_, fun j k hj hk => (f2 j k hj hk).mono fun a ha h => Nat.le_trans h (hT a ha), k1, h1, g1, fun i hi h h0 => ?_⟩
  · obtain ⟨h2, h3⟩ := hl i hi h
    rw [h3] at he ⊢
    exact c1 i j k hi hj h2 hk he
  · obtain ⟨h2, h3⟩ := hl i hi h
    rw [h3]; exact e1 i hi h2
  · obtain ⟨h2, h3⟩ := hl i hi h
    rw [h3]; exact (f1 i hi h2).mono fun a ha h => Nat.le_trans h (hT a ha)
  · obtain ⟨h2, h3⟩ := hl i hi h
    exact l1 i hi h2 (by rw [← h3]; exact h0)
/-- a leader writes -/
theorem rInv.write {T : Nat → Nat} {ld : Nat → Prop} {len len' : Nat → Nat} {tm tm' : Nat → Nat → Nat} {kn : Nat → Nat} {P : Nat} {pt : Nat → Nat} (h : rInv T ld len tm kn P pt) {c : Nat} (hc : c < 3) (hl : ld c) (hlen : ∀ i, i < 3 → len' i = if i = c then len i + 1 else len i) (htm : ∀ i k, i < 3 → k < len' i → tm' i k = if i = c ∧ k = len c then T c else tm i k) : rInv T ld len' tm' kn P pt := by
  obtain ⟨a1, a2, b1, b2, c1, c0, e1, f1, f2, k1, h1, g1, l1⟩ := h
  have old : ∀ i k, i < 3 → k < len i → k < len' i ∧ tm' i k = tm i k := by
    intro i k hi hk
    have h9 : k < len' i := by rw [hlen i hi]; split <;> omega
    refine ⟨h9, ?_⟩
    rw [htm i k hi h9, if_neg]
    rintro ⟨rfl, h8⟩
    omega
  have new : ∀ i k, i < 3 → k < len' i → (k < len i ∧ tm' i k = tm i k) ∨ (i = c ∧ k = len c ∧ tm' i k = T c) := by
    intro i k hi hk
    rw [htm i k hi hk]
    rw [hlen i hi] at hk
    by_cases h9 : i = c
    · subst h9
      rw [if_pos rfl] at hk
      by_cases h8 : k = len i
      · exact Or.inr ⟨rfl, h8, by rw [if_pos ⟨rfl, h8⟩]⟩
      · exact Or.inl ⟨by omega, by rw [if_neg (fun q => h8 q.2)]⟩
    · rw [if_neg h9] at hk
      exact Or.inl ⟨hk, by rw [if_neg (fun q => h9 q.1)]⟩
  have hold : ∀ i, i < 3 → rHold len tm P pt i → rHold len' tm' P pt i := by
    intro i hi h9
    refine ⟨by have := h9.1; rw [hlen i hi]; split <;> omega, fun k hk => ?_⟩
    rw [(old i k hi (by have := h9.1; omega)).2]
    exact h9.2 k hk
  refine ⟨?_, ?_, ?_, ?_, ?_, ?_, e1, f1, ?_, ?_, h1.mono hold, ?_, fun i hi h h0 => hold i hi (l1 i hi h h0)⟩
  · intro i k hi hk
    rcases new i k hi hk with ⟨h2, h3⟩ | ⟨rfl, h2, h3⟩
    · rw [h3]; exact a1 i k hi h2
    · rw [h3]; exact Nat.le_refl _
  · intro i k k' hi hkk hk
    rcases new i k' hi hk with ⟨h2, h3⟩ | ⟨rfl, h2, h3⟩
    · rw [h3, (old i k hi (by omega)).2]; exact a2 i k k' hi hkk h2
    · rw [h3]
      rcases new i k hi (by omega) with ⟨h4, h5⟩ | ⟨-, h4, h5⟩
      · rw [h5]; exact a1 i k hi h4
      · rw [h5]; exact Nat.le_refl _
  · intro i j k k' hi hj hk hk2 he hkk
    rcases new i k hi hk with ⟨h2, h3⟩ | ⟨rfl, h2, h3⟩
    · rcases new j k hj hk2 with ⟨h4, h5⟩ | ⟨rfl, h4, h5⟩
      · rw [(old i k' hi (by omega)).2, (old j k' hj (by omega)).2]
        exact b1 i j k k' hi hj h2 h4 (by rw [← h3, ← h5]; exact he) hkk
      · have := (c1 j i k hj hi hl h2 (by rw [← h3, ← h5]; exact he)).1
        omega
    · rcases new j k hj hk2 with ⟨h4, h5⟩ | ⟨rfl, h4, h5⟩
      · have := (c1 i j k hi hj hl h4 (by rw [← h3, ← h5]; exact he.symm)).1
        omega
      · rfl
  · intro i j k k' hi hj hk hk2 he hkk
    rcases new i k hi hk with ⟨h2, h3⟩ | ⟨rfl, h2, h3⟩
    · rcases new j k' hj hk2 with ⟨h4, h5⟩ | ⟨rfl, h4, h5⟩
      · rw [(old j k hj (by omega)).2, h3]
        exact b2 i j k k' hi hj h2 h4 (by rw [← h3, ← h5]; exact he) hkk
      · obtain ⟨g2, g3⟩ := c1 j i k hj hi hl h2 (by rw [← h3, ← h5]; exact he)
        rw [(old j k hj g2).2, h3, g3, ← h3, he, h5]
    · rcases new j k' hj hk2 with ⟨h4, h5⟩ | ⟨rfl, h4, h5⟩
      · have := (c1 i j k' hi hj hl h4 (by rw [← h3, ← h5]; exact he.symm)).1
        omega
      · rw [h2, ← h4, h5]
  · intro i j k hi hj hli hk he
    rcases new j k hj hk with ⟨h4, h5⟩ | ⟨rfl, h4, h5⟩
    · obtain ⟨g2, g3⟩ := c1 i j k hi hj hli h4 (by rw [← h5]; exact he)
      obtain ⟨g4, g5⟩ := old i k hi g2
      exact ⟨g4, by rw [g5]; exact g3⟩
    · have e2 : j = i := by
        have q1 := e1 j hj hl
        have q2 := e1 i hi hli
        rw [← he, h5] at q2
        omega
      subst e2
      exact ⟨hk, he⟩
  · intro i j k hi hj hk he
    rcases new j k hj hk with ⟨h4, h5⟩ | ⟨rfl, h4, h5⟩
    · rw [h5] at he ⊢; exact c0 i j k hi hj h4 he
    · rw [h5] at he ⊢
      have := e1 j hj hl
      rw [show i = j by omega]
      exact Nat.le_refl _
  · intro j k hj hk
    rcases new j k hj hk with ⟨h4, h5⟩ | ⟨rfl, h4, h5⟩
    · rw [h5]; exact f2 j k hj h4
    · rw [h5]; exact f1 j hj hl
  · intro i hi
    obtain ⟨q1, q2, q3⟩ := k1 i hi
    refine ⟨q1, by rw [hlen i hi]; split <;> omega, fun k hk => ?_⟩
    rw [(old i k hi (by omega)).2]; exact q3 k hk
  · intro j k hj hk ht
    rcases new j k hj hk with ⟨h4, h5⟩ | ⟨rfl, h4, h5⟩
    · exact hold j hj (g1 j k hj h4 (by rw [← h5]; exact ht))
    · exact hold j hj (l1 j hj hl (by rw [h5] at ht; omega))
/-- the last term of a log -/
def rLt (len : Nat → Nat) (tm : Nat → Nat → Nat) (i : Nat) : Nat := if len i = 0 then 0 else tm i (len i - 1)
/-- c comes to lead: two have granted its term e, which no entry has yet -/
theorem rInv.elect {T : Nat → Nat} {ld ld' : Nat → Prop} {len : Nat → Nat} {tm : Nat → Nat → Nat} {kn : Nat → Nat} {P : Nat} {pt : Nat → Nat} (h : rInv T ld len tm kn P pt) {c : Nat} (hc : c < 3) (he : T c % 3 = c) (hno : ∀ j k, j < 3 → k < len j → tm j k ≠ T c)
    (hv : r2 (fun a => T c ≤ T a ∧ ¬ (rLt len tm c < rLt len tm a ∨ (rLt len tm c = rLt len tm a ∧ len c < len a)))) (hl : ∀ i, i < 3 → ld' i → ld i ∨ i = c) : rInv T ld' len tm kn P pt := by
  obtain ⟨a1, a2, b1, b2, c1, c0, e1, f1, f2, k1, h1, g1, l1⟩ := h
  have hhold : rHold len tm P pt c := by
    by_cases hP : P = 0
    · subst hP; exact ⟨Nat.zero_le _, fun k hk => absurd hk (Nat.not_lt_zero k)⟩
    · obtain ⟨v, hv3, hvh, hve, hvn⟩ := h1.meet hv
      have hT0 : rT0 P pt = tm v (P - 1) := by
        unfold rT0; rw [if_neg hP, hvh.2 (P - 1) (by omega)]
      have hlv : rLt len tm v = tm v (len v - 1) := by
        unfold rLt; rw [if_neg (by have := hvh.1; omega)]
      have hm : tm v (P - 1) ≤ tm v (len v - 1) := a2 v _ _ hv3 (by have := hvh.1; omega) (by have := hvh.1; omega)
      by_cases hgt : rT0 P pt < rLt len tm c
      · have hcl : ¬ len c = 0 := by
          intro q; unfold rLt at hgt; rw [if_pos q] at hgt; omega
        unfold rLt at hgt
        rw [if_neg hcl] at hgt
        exact g1 c (len c - 1) hc (by omega) hgt
      · have h5 : rLt len tm c = rLt len tm v := by omega
        have h6 : ¬ len c < len v := fun q => hvn (Or.inr ⟨h5, q⟩)
        have hlc : rLt len tm c = tm c (len c - 1) := by
          unfold rLt; rw [if_neg (by have := hvh.1; omega)]
        have h7 : tm v (P - 1) = tm c (len c - 1) := by omega
        have h8 := b2 v c (P - 1) (len c - 1) hv3 hc (by have := hvh.1; omega) (by have := hvh.1; omega) h7 (by have := hvh.1; omega)
        refine ⟨by have := hvh.1; omega, fun k hk => ?_⟩
        rw [b1 c v (P - 1) k hc hv3 (by have := hvh.1; omega) (by have := hvh.1; omega) h8 (by omega)]
        exact hvh.2 k hk
  refine ⟨a1, a2, b1, b2, fun i j k hi hj h hk hk2 => ?_, c0, fun i hi h => ?_, fun i hi h => ?_, f2, k1, h1, g1, fun i hi h h0 => ?_⟩
  · rcases hl i hi h with h | rfl
    · exact c1 i j k hi hj h hk hk2
    · exact absurd hk2 (hno j k hj hk)
  · rcases hl i hi h with h | rfl
    · exact e1 i hi h
    · exact he
  · rcases hl i hi h with h | rfl
    · exact f1 i hi h
    · exact hv.mono fun a _ h => h.1
  · rcases hl i hi h with h | rfl
    · exact l1 i hi h h0
    · exact hhold
/-- at a ship that isn't stale the leader holds what is committed -/
theorem rInv.lead {T : Nat → Nat} {ld : Nat → Prop} {len : Nat → Nat} {tm : Nat → Nat → Nat} {kn : Nat → Nat} {P : Nat} {pt : Nat → Nat} (h : rInv T ld len tm kn P pt) {a b : Nat} (ha : a < 3) (hb : b < 3) (hab : a ≠ b) (hl : ld a) (hT : T b = T a) : rHold len tm P pt a := by
  obtain ⟨a1, a2, b1, b2, c1, c0, e1, f1, f2, k1, h1, g1, l1⟩ := h
  refine l1 a ha hl ?_
  by_cases hP : P = 0
  · unfold rT0; rw [if_pos hP]; exact Nat.zero_le _
  · obtain ⟨v, hv3, hvh, hve⟩ := h1.meet (⟨a, b, ha, hb, hab, Nat.le_refl _, Nat.le_of_eq hT⟩ : r2 (fun x => T x ≤ T a))
    have := a1 v (P - 1) hv3 (by have := hvh.1; omega)
    unfold rT0; rw [if_neg hP, ← hvh.2 (P - 1) (by omega)]
    omega
/-- what is known is in the common beginning -/
theorem rInv.safe {T : Nat → Nat} {ld : Nat → Prop} {len : Nat → Nat} {tm : Nat → Nat → Nat} {kn : Nat → Nat} {P : Nat} {pt : Nat → Nat} (h : rInv T ld len tm kn P pt) {a b k0 : Nat} (ha : a < 3) (hb : b < 3) (hab : a ≠ b) (hl : ld a) (hT : T b = T a) (hk : ¬ (k0 < len a ∧ k0 < len b ∧ tm a k0 = tm b k0)) : kn b ≤ k0 := by
  have h9 := h.lead ha hb hab hl hT
  obtain ⟨a1, a2, b1, b2, c1, c0, e1, f1, f2, k1, h1, g1, l1⟩ := h
  obtain ⟨q1, q2, q3⟩ := k1 b hb
  refine Nat.le_of_not_lt fun q => hk ⟨by have := h9.1; omega, by omega, ?_⟩
  rw [q3 k0 q, h9.2 k0 (by omega)]
/-- b's log becomes a beginning of a's -/
theorem rInv.copy {T : Nat → Nat} {ld : Nat → Prop} {len len' : Nat → Nat} {tm tm' : Nat → Nat → Nat} {kn : Nat → Nat} {P : Nat} {pt : Nat → Nat} (h : rInv T ld len tm kn P pt) {a b n : Nat} (ha : a < 3) (hb : b < 3) (hab : a ≠ b) (hl : ld a) (hT : T b = T a) (hn : n ≤ len a) (hkn : kn b ≤ n) (hP : rHold len tm P pt b → P ≤ n)
    (hlen : ∀ i, i < 3 → len' i = if i = b then n else len i) (htm : ∀ i k, i < 3 → k < len' i → tm' i k = if i = b then tm a k else tm i k) : rInv T ld len' tm' kn P pt := by
  have h9 := h.lead ha hb hab hl hT
  obtain ⟨a1, a2, b1, b2, c1, c0, e1, f1, f2, k1, h1, g1, l1⟩ := h
  have hlb : ¬ ld b := by
    intro q
    have q1 := e1 a ha hl
    have q2 := e1 b hb q
    rw [hT] at q2
    omega
  -- each new log is one of the old, or a beginning of one
  have src : ∀ i, i < 3 → ∃ j, j < 3 ∧ (∀ k, k < len' i → k < len j ∧ tm' i k = tm j k) ∧ T j = T i ∧ (i ≠ b → j = i ∧ len' i = len i) ∧ (i = b → j = a ∧ len' i = n) := by
    intro i hi
    by_cases e : i = b
    · subst e
      refine ⟨a, ha, fun k hk => ?_, hT.symm, fun q => absurd rfl q, fun _ => ⟨rfl, by rw [hlen i hi, if_pos rfl]⟩⟩
      have hk2 := hk
      rw [hlen i hi, if_pos rfl] at hk2
      exact ⟨by omega, by rw [htm i k hi hk, if_pos rfl]⟩
    · refine ⟨i, hi, fun k hk => ?_, rfl, fun _ => ⟨rfl, by rw [hlen i hi, if_neg e]⟩, fun q => absurd q e⟩
      have hk2 := hk
      rw [hlen i hi, if_neg e] at hk2
      exact ⟨hk2, by rw [htm i k hi hk, if_neg e]⟩
  have hold : ∀ i, i < 3 → i ≠ b → rHold len tm P pt i → rHold len' tm' P pt i := by
    intro i hi e q
    obtain ⟨j, hj, s1, s2, s3, s4⟩ := src i hi
    obtain ⟨rfl, s5⟩ := s3 e
    refine ⟨by rw [s5]; exact q.1, fun k hk => ?_⟩
    rw [(s1 k (by rw [s5]; have := q.1; omega)).2]
    exact q.2 k hk
  have holdb : P ≤ n → rHold len' tm' P pt b := by
    intro q
    obtain ⟨j, hj, s1, s2, s3, s4⟩ := src b hb
    obtain ⟨rfl, s5⟩ := s4 rfl
    refine ⟨by omega, fun k hk => ?_⟩
    rw [(s1 k (by omega)).2]
    exact h9.2 k hk
  refine ⟨?_, ?_, ?_, ?_, ?_, ?_, e1, f1, ?_, ?_, ?_, ?_, ?_⟩
  · intro i k hi hk
    obtain ⟨j, hj, s1, s2, s3, s4⟩ := src i hi
    obtain ⟨q1, q2⟩ := s1 k hk
    rw [q2, ← s2]; exact a1 j k hj q1
  · intro i k k' hi hkk hk
    obtain ⟨j, hj, s1, s2, s3, s4⟩ := src i hi
    rw [(s1 k (by omega)).2, (s1 k' hk).2]
    exact a2 j k k' hj hkk (s1 k' hk).1
  · intro i j k k' hi hj hk hk2 he hkk
    obtain ⟨i', hi', s1, -⟩ := src i hi
    obtain ⟨j', hj', t1, -⟩ := src j hj
    rw [(s1 k' (by omega)).2, (t1 k' (by omega)).2]
    exact b1 i' j' k k' hi' hj' (s1 k hk).1 (t1 k hk2).1 (by rw [← (s1 k hk).2, ← (t1 k hk2).2]; exact he) hkk
  · intro i j k k' hi hj hk hk2 he hkk
    obtain ⟨i', hi', s1, -⟩ := src i hi
    obtain ⟨j', hj', t1, -⟩ := src j hj
    rw [(s1 k hk).2, (t1 k (by omega)).2]
    exact b2 i' j' k k' hi' hj' (s1 k hk).1 (t1 k' hk2).1 (by rw [← (s1 k hk).2, ← (t1 k' hk2).2]; exact he) hkk
  · intro i j k hi hj hli hk he
    have e : i ≠ b := fun q => hlb (q ▸ hli)
    obtain ⟨j', hj', t1, -⟩ := src j hj
    obtain ⟨i', hi', s1, s2, s3, s4⟩ := src i hi
    obtain ⟨rfl, s5⟩ := s3 e
    obtain ⟨g2, g3⟩ := c1 i' j' k hi' hj' hli (t1 k hk).1 (by rw [← (t1 k hk).2]; exact he)
    exact ⟨by omega, by rw [(s1 k (by omega)).2]; exact g3⟩
  · intro i j k hi hj hk he
    obtain ⟨j', hj', t1, -⟩ := src j hj
    rw [(t1 k hk).2] at he ⊢
    exact c0 i j' k hi hj' (t1 k hk).1 he
  · intro j k hj hk
    obtain ⟨j', hj', t1, -⟩ := src j hj
    rw [(t1 k hk).2]
    exact f2 j' k hj' (t1 k hk).1
  · intro i hi
    obtain ⟨q1, q2, q3⟩ := k1 i hi
    obtain ⟨i', hi', s1, s2, s3, s4⟩ := src i hi
    by_cases e : i = b
    · subst e
      obtain ⟨rfl, s5⟩ := s4 rfl
      refine ⟨q1, by omega, fun k hk => ?_⟩
      rw [(s1 k (by omega)).2]
      exact h9.2 k (by omega)
    · obtain ⟨rfl, s5⟩ := s3 e
      refine ⟨q1, by omega, fun k hk => ?_⟩
      rw [(s1 k (by omega)).2]
      exact q3 k hk
  · refine h1.mono fun x hx q => ?_
    by_cases e : x = b
    · subst e; exact holdb (hP q)
    · exact hold x hx e q
  · intro j k hj hk ht
    obtain ⟨j', hj', t1, t2, t3, t4⟩ := src j hj
    by_cases e : j = b
    · subst e
      obtain ⟨rfl, s5⟩ := t4 rfl
      refine holdb ?_
      by_cases hP0 : P = 0
      · omega
      · refine Nat.le_of_not_lt fun q => ?_
        rw [(t1 k hk).2] at ht
        unfold rT0 at ht
        rw [if_neg hP0, ← h9.2 (P - 1) (by omega)] at ht
        have := a2 j' k (P - 1) hj' (by omega) (by have := h9.1; omega)
        omega
    · obtain ⟨rfl, s5⟩ := t3 e
      refine hold j' hj' e (g1 j' k hj' (t1 k hk).1 (by rw [← (t1 k hk).2]; exact ht))
  · intro i hi hli h0
    have e : i ≠ b := fun q => hlb (q ▸ hli)
    exact hold i hi e (l1 i hi hli h0)
/-- the leader comes to know more -/
theorem rInv.know {T : Nat → Nat} {ld : Nat → Prop} {len : Nat → Nat} {tm : Nat → Nat → Nat} {kn kn' : Nat → Nat} {P : Nat} {pt : Nat → Nat} (h : rInv T ld len tm kn P pt) {a b v i : Nat} (ha : a < 3) (hb : b < 3) (hab : a ≠ b) (hl : ld a) (hT : T b = T a) (hi : i < len a) (hti : tm a i = T a) (hv : v < 3) (hva : v ≠ a) (hvi : i < len v) (htv : tm v i = T a)
    (hkn : ∀ x, x < 3 → kn' x = if x = a then i + 1 else kn x) : ∃ P' pt', rInv T ld len tm kn' P' pt' := by
  have h9 := h.lead ha hb hab hl hT
  obtain ⟨a1, a2, b1, b2, c1, c0, e1, f1, f2, k1, h1, g1, l1⟩ := h
  by_cases hP : i + 1 ≤ P
  · refine ⟨P, pt, a1, a2, b1, b2, c1, c0, e1, f1, f2, fun x hx => ?_, h1, g1, l1⟩
    rw [hkn x hx]
    split
    · rename_i e
      subst e
      exact ⟨hP, by omega, fun k hk => h9.2 k (by omega)⟩
    · exact k1 x hx
  · have two : ∀ f : Nat → Nat, ∀ y, r2 (fun x => y ≤ T x) → y ≤ T a := by
      intro _ y hy
      obtain ⟨x, hx, q1, q2⟩ := hy.meet (⟨a, b, ha, hb, hab, Nat.le_refl _, Nat.le_of_eq hT⟩ : r2 (fun x => T x ≤ T a))
      omega
    have ha2 : rHold len tm (i + 1) (tm a) a := ⟨by omega, fun k _ => rfl⟩
    have hv2 : rHold len tm (i + 1) (tm a) v := ⟨by omega, fun k hk => b1 v a i k hv ha hvi hi (by omega) (by omega)⟩
    have hT0 : rT0 (i + 1) (tm a) = T a := by
      unfold rT0; rw [if_neg (by omega), show i + 1 - 1 = i by omega]; exact hti
    refine ⟨i + 1, tm a, a1, a2, b1, b2, c1, c0, e1, f1, f2, fun x hx => ?_, ⟨v, a, hv, ha, hva, hv2, ha2⟩, fun j k hj hk ht => ?_, fun x hx hlx h0 => ?_⟩
    · rw [hkn x hx]
      split
      · rename_i e
        subst e
        exact ⟨Nat.le_refl _, by omega, fun k hk => rfl⟩
      · obtain ⟨q1, q2, q3⟩ := k1 x hx
        exact ⟨by omega, q2, fun k hk => by rw [q3 k hk, h9.2 k (by omega)]⟩
    · have := two T _ (f2 j k hj hk)
      rw [hT0] at ht
      omega
    · have q1 := two T _ (f1 x hx hlx)
      rw [hT0] at h0
      have q2 := e1 x hx hlx
      have q3 := e1 a ha hl
      rw [show T x = T a by omega] at q2
      rw [show x = a by omega]
      exact ha2
/-- b comes to know what its leader knows -/
theorem rInv.learn {T : Nat → Nat} {ld : Nat → Prop} {len : Nat → Nat} {tm : Nat → Nat → Nat} {kn kn' : Nat → Nat} {P : Nat} {pt : Nat → Nat} (h : rInv T ld len tm kn P pt) {a b : Nat} (ha : a < 3) (hb : b < 3) (hpre : ∀ k, k < len b → k < len a ∧ tm b k = tm a k)
    (hkn : ∀ x, x < 3 → kn' x = if x = b then max (kn b) (min (kn a) (len b)) else kn x) : rInv T ld len tm kn' P pt := by
  obtain ⟨a1, a2, b1, b2, c1, c0, e1, f1, f2, k1, h1, g1, l1⟩ := h
  refine ⟨a1, a2, b1, b2, c1, c0, e1, f1, f2, fun x hx => ?_, h1, g1, l1⟩
  rw [hkn x hx]
  split
  · rename_i e
    subst e
    obtain ⟨q1, q2, q3⟩ := k1 x hx
    obtain ⟨p1, p2, p3⟩ := k1 a ha
    refine ⟨by omega, by omega, fun k hk => ?_⟩
    by_cases h9 : k < kn x
    · exact q3 k h9
    · rw [(hpre k (by omega)).2]
      exact p3 k (by omega)
  · exact k1 x hx
end
section
/-! the mathematical state: who is up, who leads, terms, lengths, what is known, the logs (node, place, one of 15 numbers) -/
def fu {α : Type} (f : Nat → α) (n : Nat) (v : α) : Nat → α := fun i => if i = n then v else f i
theorem fu_s {α : Type} (f : Nat → α) (n : Nat) (v : α) : fu f n v n = v := if_pos rfl
theorem fu_n {α : Type} (f : Nat → α) {n i : Nat} (v : α) (h : i ≠ n) : fu f n v i = f i := if_neg h
def bI (b : Bool) : Int32 := if b then 1 else 0
abbrev aLg : Type := Nat → Nat → Nat
def aS : Type := (Nat → Bool) × (Nat → Bool) × (Nat → Nat) × (Nat → Nat) × (Nat → Nat) × (Nat → aLg)
def sUp (S : aS) : Nat → Bool := S.1
def sLd (S : aS) : Nat → Bool := S.2.1
def sT (S : aS) : Nat → Nat := S.2.2.1
def sLn (S : aS) : Nat → Nat := S.2.2.2.1
def sKn (S : aS) : Nat → Nat := S.2.2.2.2.1
def sLg (S : aS) : Nat → aLg := S.2.2.2.2.2
/-- the service's state: how many configurations, their members and owners -/
abbrev aCf : Type := (Nat → Bool) × (Nat → Nat)
abbrev aSv : Type := Nat × (Nat → aCf)
def cn (own : Nat → Nat) (g : Nat) : Nat → Nat
  | 0 => 0
  | n + 1 => cn own g n + if own n = g then 1 else 0
/-- the member with most (fewest) shards, the least of these; 0: no member -/
def ex (b : Bool) (mem : Nat → Bool) (c : Nat → Nat) : Nat → Nat
  | 0 => 0
  | g + 1 => if mem (g + 1) = true ∧ (ex b mem c g = 0 ∨ (if b then c (ex b mem c g) < c (g + 1) else c (g + 1) < c (ex b mem c g))) then g + 1 else ex b mem c g
/-- the least shard that g owns, below n; n: none -/
def ls (own : Nat → Nat) (g : Nat) : Nat → Nat
  | 0 => 0
  | n + 1 => if ls own g n < n then ls own g n else if own n = g then n else n + 1
def bal1 (mem : Nat → Bool) (own : Nat → Nat) : Nat → Nat :=
  if cn own (ex true mem (fun g => cn own g 8) 3) 8 < cn own (ex false mem (fun g => cn own g 8) 3) 8 + 2 then own
  else fu own (ls own (ex true mem (fun g => cn own g 8) 3) 8) (ex false mem (fun g => cn own g 8) 3)
def bal (mem : Nat → Bool) : Nat → (Nat → Nat) → (Nat → Nat)
  | 0, own => own
  | n + 1, own => bal1 mem (bal mem n own)
/-- the shards of a go, one after the other, each to the member with the fewest -/
def lv (mem : Nat → Bool) (a : Nat) : Nat → (Nat → Nat) → (Nat → Nat)
  | 0, own => own
  | n + 1, own => if lv mem a n own n = a then fu (lv mem a n own) n (ex false mem (fun g => cn (lv mem a n own) g 8) 3) else lv mem a n own
def cf0 : aCf := (fun _ => false, fun _ => 0)
def nomem (mem : Nat → Bool) : Prop := mem 1 = false ∧ mem 2 = false ∧ mem 3 = false
def nM (mem : Nat → Bool) : Nat := (if mem 1 then 1 else 0) + (if mem 2 then 1 else 0) + (if mem 3 then 1 else 0)
def cfJ (c : aCf) (a : Nat) : aCf := (fu c.1 a true, bal (fu c.1 a true) 8 (if nM c.1 = 0 then fun _ => a else c.2))
def cfL (c : aCf) (a : Nat) : aCf := (fu c.1 a false, bal (fu c.1 a false) 8 (lv (fu c.1 a false) a 8 c.2))
def cfM (c : aCf) (s g : Nat) : aCf := (c.1, fu c.2 s g)
def cfStep (c : aCf) (E : Nat → Nat) : aCf := if E 1 = 1 then cfJ c (E 2) else if E 1 = 2 then cfL c (E 2) else cfM c (E 2) (E 3)
def svOk (V : aSv) (E : Nat → Nat) : Bool := decide (1 ≤ E 1 ∧ E 1 ≤ 3) && decide (V.1 < 16) && (if E 1 = 1 then !(V.2 (V.1 - 1)).1 (E 2) else if E 1 = 2 then (V.2 (V.1 - 1)).1 (E 2) && decide (1 < nM (V.2 (V.1 - 1)).1) else (V.2 (V.1 - 1)).1 (E 3))
def svStep (V : aSv) (E : Nat → Nat) : aSv := if svOk V E = true then (V.1 + 1, fu V.2 V.1 (cfStep (V.2 (V.1 - 1)) E)) else V
def svc (lg : aLg) : Nat → aSv
  | 0 => (1, fun _ => cf0)
  | k + 1 => svStep (svc lg k) (lg k)
/-- a group's state: number, owners, conditions, what the shards hold -/
abbrev aGp : Type := Nat × (Nat → Nat) × (Nat → Nat) × (Nat → Nat → Nat)
def gSet (G : aGp) : Prop := ∀ s, s < 8 → G.2.2.1 s < 2
def gpCf (g : Nat) (G : aGp) (E : Nat → Nat) : aGp :=
  (G.1 + 1, (fun s => if s < 8 then E (7 + s) else G.2.1 s), (fun s => if s < 8 then (if E (7 + s) = g ∧ G.2.1 s ≠ g then (if G.2.1 s = 0 then 1 else 2) else if E (7 + s) ≠ g ∧ G.2.1 s = g then 3 else G.2.2.1 s) else G.2.2.1 s), (fun s => if s < 8 ∧ E (7 + s) = g ∧ G.2.1 s ≠ g then fun _ => 0 else G.2.2.2 s))
def gpRq (G : aGp) (E : Nat → Nat) : aGp :=
  (G.1, G.2.1, G.2.2.1, fu G.2.2.2 (E 5 % 8) (fu (fu (fu (G.2.2.2 (E 5 % 8)) (E 5 / 8) (if E 4 = 0 then G.2.2.2 (E 5 % 8) (E 5 / 8) else if E 4 = 1 then E 6 else (G.2.2.2 (E 5 % 8) (E 5 / 8) + E 6) % 1000)) (2 + E 2) (E 3)) (5 + E 2) (if E 4 = 0 then G.2.2.2 (E 5 % 8) (E 5 / 8) else if E 4 = 1 then E 6 else (G.2.2.2 (E 5 % 8) (E 5 / 8) + E 6) % 1000)))
def gpIn (G : aGp) (E : Nat → Nat) : aGp := (G.1, G.2.1, fu G.2.2.1 (E 2) 1, fu G.2.2.2 (E 2) (fun i => if i < 8 then E (7 + i) else G.2.2.2 (E 2) i))
def gpDl (G : aGp) (E : Nat → Nat) : aGp := (G.1, G.2.1, fu G.2.2.1 (E 2) 0, G.2.2.2)
noncomputable def gpStep (g : Nat) (G : aGp) (E : Nat → Nat) : aGp := by
  classical
  exact if E 1 = 4 then (if gSet G ∧ E 2 = G.1 + 1 then gpCf g G E else G)
    else if E 1 = 5 then (if G.2.2.1 (E 5 % 8) = 1 ∧ G.2.2.2 (E 5 % 8) (2 + E 2) < E 3 then gpRq G E else G)
    else if E 1 = 6 then (if E 3 = G.1 ∧ G.2.2.1 (E 2) = 2 then gpIn G E else G)
    else if E 1 = 7 then (if E 3 = G.1 ∧ G.2.2.1 (E 2) = 3 then gpDl G E else G)
    else G
noncomputable def grp (g : Nat) (lg : aLg) : Nat → aGp
  | 0 => (0, fun _ => 0, fun _ => 0, fun _ _ => 0)
  | k + 1 => gpStep g (grp g lg k) (lg k)
theorem gpStep_def (g : Nat) (G : aGp) (E : Nat → Nat) [Decidable (gSet G ∧ E 2 = G.1 + 1)] : gpStep g G E = if E 1 = 4 then (if gSet G ∧ E 2 = G.1 + 1 then gpCf g G E else G)
    else if E 1 = 5 then (if G.2.2.1 (E 5 % 8) = 1 ∧ G.2.2.2 (E 5 % 8) (2 + E 2) < E 3 then gpRq G E else G)
    else if E 1 = 6 then (if E 3 = G.1 ∧ G.2.2.1 (E 2) = 2 then gpIn G E else G)
    else if E 1 = 7 then (if E 3 = G.1 ∧ G.2.2.1 (E 2) = 3 then gpDl G E else G)
    else G := by
  unfold gpStep
  congr
/-- the state of a node follows from what it knows -/
def sSv (S : aS) (n : Nat) : aSv := svc (sLg S n) (sKn S n)
noncomputable def sGp (S : aS) (n : Nat) : aGp := grp (n / 3) (sLg S n) (sKn S n)
/-- an entry is as a call writes it -/
def eV (E : Nat → Nat) : Prop := E 0 < 1000000 ∧ E 1 ≤ 7 ∧ (E 1 = 1 ∨ E 1 = 2 → 1 ≤ E 2 ∧ E 2 ≤ 3) ∧ (E 1 = 3 → E 2 < 8 ∧ 1 ≤ E 3 ∧ E 3 ≤ 3) ∧ (E 1 = 4 → E 2 < 16 ∧ ∀ s, s < 8 → E (7 + s) ≤ 3) ∧ (E 1 = 5 → E 2 < 3 ∧ 1 ≤ E 3 ∧ E 3 ≤ 999 ∧ E 4 < 3 ∧ E 5 < 16 ∧ E 6 < 1000) ∧ (E 1 = 6 → E 2 < 8 ∧ E 3 < 16 ∧ ∀ i, i < 8 → E (7 + i) < 1000) ∧ (E 1 = 7 → E 2 < 8 ∧ E 3 < 16)
/-- the terms of a log, of a group's node -/
def sTm (S : aS) (n k : Nat) : Nat := sLg S n k 0
def sInv (S : aS) (t : Nat) : Prop := (∀ n, n < 12 → sLn S n ≤ 80 ∧ sKn S n ≤ sLn S n ∧ sT S n ≤ 3 * t ∧ ∀ k, k < sLn S n → eV (sLg S n k)) ∧
  ∀ g, g < 4 → ∃ P pt, rInv (fun i => sT S (3 * g + i)) (fun i => sLd S (3 * g + i) = true) (fun i => sLn S (3 * g + i)) (fun i => sTm S (3 * g + i)) (fun i => sKn S (3 * g + i)) P pt
end
section
def fN (M : aM) (a : Nat) : aM := sR (mN (sI M a 0 1) 106 80) a 5 (some (mSz M))
def fH (M : aM) (a : Nat) : aM := sR (mN (sR (mN (sR (mN (sI M a 0 0) 100 2) a 1 (some (mSz M))) 100 3) a 2 (some (mSz M + 1))) 100 3) a 3 (some (mSz M + 2))
def fC (M : aM) (a : Nat) : aM := sI (sR (mN (sR (mN (sR (mN M 101 4) a 0 (some (mSz M))) 100 8) a 1 (some (mSz M + 1))) 100 4) a 2 (some (mSz M + 2))) (mSz M + 2) 0 8
def fV (M : aM) (a f : Nat) : aM := sR (sR (mN (fN M a) 105 16) a 6 (some (mSz M + 1))) (mSz M + 1) 0 (some f)
def iH (sh : Nat) : Nat → aM → aM
  | 0, M => M
  | i + 1, M => sR (fH (mN (iH sh i M) 4 0) (mSz (iH sh i M))) sh i (some (mSz (iH sh i M)))
def fT0 (M : aM) (a : Nat) (g : Int32) (f : Nat) : aM := sR (sI (sR (mN (fN M a) 107 8) a 9 (some (mSz M + 1))) a 6 g) a 8 (some f)
def fT (M : aM) (a : Nat) (g : Int32) (f : Nat) : aM := iH (mSz M + 1) 8 (fT0 M a g f)
theorem tO_fH {M : aM} {o ci : Nat} (h : tO M o ci) (a : Nat) : tO (fH M a) o ci := by
  show tO (sR (mN (sR (mN (sR (mN (sI M a 0 0) 100 2) a 1 (some (mSz M))) 100 3) a 2 (some (mSz M + 1))) 100 3) a 3 (some (mSz M + 2))) o ci
  simp only [mm_tO_sR]
  apply tO.up
  simp only [mm_tO_sR]
  apply tO.up
  simp only [mm_tO_sR]
  apply tO.up
  exact h

set_option maxRecDepth 20000 in
set_option maxHeartbeats 1000000 in
theorem k_N_init_V (M : aM) (a : Nat) (ha : tO M a 2) : aK m_N_init 1 1 80 M [.ref a] (fun M1 r => r = none ∧ M1 = fN M a) := by
  refine aK.of (by decide) (Nat.le_of_ble_eq_true rfl) ?_
  refine j_aload_n d_N_init_0 rfl ?_
  refine j_objInit d_N_init_1 w58 w22 w23 (by decide) (Nat.le_of_ble_eq_true rfl) ?_
  refine j_aload_n d_N_init_4 rfl ?_
  refine j_iconst (v := 1) d_N_init_5 (by decide) ?_
  refine j_puti d_N_init_6 (by repeat (first | assumption | simp only [mm_tO_sI, mm_tO_sR, mm_tO_sC, mm_tA_sI, mm_tA_sR, mm_tA_sC] | exact tO.new _ _ _ | exact tA.new _ _ _ | apply tO.up | apply tA.up)) p_N_9_V rfl (by decide) rfl rfl ?_
  refine j_aload_n d_N_init_9 rfl ?_
  refine j_bipush (v := 80) d_N_init_10 (by decide) ?_
  refine j_anew (kd := 106) d_N_init_12 (by decide) tx_106 w59 nw4 rfl (by decide) (by decide) (by decide) ?_
  refine j_putRF d_N_init_15 (by repeat (first | assumption | simp only [mm_tO_sI, mm_tO_sR, mm_tO_sC, mm_tA_sI, mm_tA_sR, mm_tA_sC] | exact tO.new _ _ _ | exact tA.new _ _ _ | apply tO.up | apply tA.up)) p_N_17_V rfl (by decide) (fun z => by cases z <;> rfl) (fun z => by cases z <;> rfl) rfl ?_
  refine j_return d_N_init_18 rfl ?_ (by decide) (by decide)
  exact ⟨rfl, rfl⟩
set_option maxRecDepth 20000 in
set_option maxHeartbeats 1000000 in
theorem k_N_init_T (M : aM) (a : Nat) (ha : tO M a 3) : aK m_N_init 1 1 80 M [.ref a] (fun M1 r => r = none ∧ M1 = fN M a) := by
  refine aK.of (by decide) (Nat.le_of_ble_eq_true rfl) ?_
  refine j_aload_n d_N_init_0 rfl ?_
  refine j_objInit d_N_init_1 w58 w22 w23 (by decide) (Nat.le_of_ble_eq_true rfl) ?_
  refine j_aload_n d_N_init_4 rfl ?_
  refine j_iconst (v := 1) d_N_init_5 (by decide) ?_
  refine j_puti d_N_init_6 (by repeat (first | assumption | simp only [mm_tO_sI, mm_tO_sR, mm_tO_sC, mm_tA_sI, mm_tA_sR, mm_tA_sC] | exact tO.new _ _ _ | exact tA.new _ _ _ | apply tO.up | apply tA.up)) p_N_9_T rfl (by decide) rfl rfl ?_
  refine j_aload_n d_N_init_9 rfl ?_
  refine j_bipush (v := 80) d_N_init_10 (by decide) ?_
  refine j_anew (kd := 106) d_N_init_12 (by decide) tx_106 w59 nw4 rfl (by decide) (by decide) (by decide) ?_
  refine j_putRF d_N_init_15 (by repeat (first | assumption | simp only [mm_tO_sI, mm_tO_sR, mm_tO_sC, mm_tA_sI, mm_tA_sR, mm_tA_sC] | exact tO.new _ _ _ | exact tA.new _ _ _ | apply tO.up | apply tA.up)) p_N_17_T rfl (by decide) (fun z => by cases z <;> rfl) (fun z => by cases z <;> rfl) rfl ?_
  refine j_return d_N_init_18 rfl ?_ (by decide) (by decide)
  exact ⟨rfl, rfl⟩
set_option maxRecDepth 20000 in
set_option maxHeartbeats 1000000 in
theorem k_H_init (M : aM) (a : Nat) (ha : tO M a 4) : aK m_H_init 1 3 8 M [.ref a] (fun M1 r => r = none ∧ M1 = fH M a) := by
  refine aK.of (by decide) (Nat.le_of_ble_eq_true rfl) ?_
  refine j_aload_n d_H_init_0 rfl ?_
  refine j_objInit d_H_init_1 w123 w22 w23 (by decide) (Nat.le_of_ble_eq_true rfl) ?_
  refine j_aload_n d_H_init_4 rfl ?_
  refine j_iconst (v := 0) d_H_init_5 (by decide) ?_
  refine j_puti d_H_init_6 (by repeat (first | assumption | simp only [mm_tO_sI, mm_tO_sR, mm_tO_sC, mm_tA_sI, mm_tA_sR, mm_tA_sC] | exact tO.new _ _ _ | exact tA.new _ _ _ | apply tO.up | apply tA.up)) p_H_9_H rfl (by decide) rfl rfl ?_
  refine j_aload_n d_H_init_9 rfl ?_
  refine j_iconst (v := 2) d_H_init_10 (by decide) ?_
  refine j_newi d_H_init_11 rfl (by decide) (by decide) (by decide) ?_
  refine j_putRF d_H_init_13 (by repeat (first | assumption | simp only [mm_tO_sI, mm_tO_sR, mm_tO_sC, mm_tA_sI, mm_tA_sR, mm_tA_sC] | exact tO.new _ _ _ | exact tA.new _ _ _ | apply tO.up | apply tA.up)) p_H_15_H rfl (by decide) (fun z => by cases z <;> rfl) (fun z => by cases z <;> rfl) rfl ?_
  refine j_aload_n d_H_init_16 rfl ?_
  refine j_iconst (v := 3) d_H_init_17 (by decide) ?_
  refine j_newi d_H_init_18 rfl (by decide) (by decide) (by decide) ?_
  refine j_putRF d_H_init_20 (by repeat (first | assumption | simp only [mm_tO_sI, mm_tO_sR, mm_tO_sC, mm_tA_sI, mm_tA_sR, mm_tA_sC] | exact tO.new _ _ _ | exact tA.new _ _ _ | apply tO.up | apply tA.up)) p_H_19_H rfl (by decide) (fun z => by cases z <;> rfl) (fun z => by cases z <;> rfl) rfl ?_
  refine j_aload_n d_H_init_23 rfl ?_
  refine j_iconst (v := 3) d_H_init_24 (by decide) ?_
  refine j_newi d_H_init_25 rfl (by decide) (by decide) (by decide) ?_
  refine j_putRF d_H_init_27 (by repeat (first | assumption | simp only [mm_tO_sI, mm_tO_sR, mm_tO_sC, mm_tA_sI, mm_tA_sR, mm_tA_sC] | exact tO.new _ _ _ | exact tA.new _ _ _ | apply tO.up | apply tA.up)) p_H_22_H rfl (by decide) (fun z => by cases z <;> rfl) (fun z => by cases z <;> rfl) rfl ?_
  refine j_return d_H_init_30 rfl ?_ (by decide) (by decide)
  exact ⟨rfl, rfl⟩
set_option maxRecDepth 20000 in
set_option maxHeartbeats 1000000 in
theorem k_C_init (M : aM) (a : Nat) (ha : tO M a 1) : aK m_C_init 1 3 16 M [.ref a] (fun M1 r => r = none ∧ M1 = fC M a) := by
  refine aK.of (by decide) (Nat.le_of_ble_eq_true rfl) ?_
  refine j_aload_n d_C_init_0 rfl ?_
  refine j_objInit d_C_init_1 w35 w22 w23 (by decide) (Nat.le_of_ble_eq_true rfl) ?_
  refine j_aload_n d_C_init_4 rfl ?_
  refine j_iconst (v := 4) d_C_init_5 (by decide) ?_
  refine j_newz d_C_init_6 rfl (by decide) (by decide) (by decide) ?_
  refine j_putRF d_C_init_8 (by repeat (first | assumption | simp only [mm_tO_sI, mm_tO_sR, mm_tO_sC, mm_tA_sI, mm_tA_sR, mm_tA_sC] | exact tO.new _ _ _ | exact tA.new _ _ _ | apply tO.up | apply tA.up)) p_C_9_C rfl (by decide) (fun z => by cases z <;> rfl) (fun z => by cases z <;> rfl) rfl ?_
  refine j_aload_n d_C_init_11 rfl ?_
  refine j_bipush (v := 8) d_C_init_12 (by decide) ?_
  refine j_newi d_C_init_14 rfl (by decide) (by decide) (by decide) ?_
  refine j_putRF d_C_init_16 (by repeat (first | assumption | simp only [mm_tO_sI, mm_tO_sR, mm_tO_sC, mm_tA_sI, mm_tA_sR, mm_tA_sC] | exact tO.new _ _ _ | exact tA.new _ _ _ | apply tO.up | apply tA.up)) p_C_15_C rfl (by decide) (fun z => by cases z <;> rfl) (fun z => by cases z <;> rfl) rfl ?_
  refine j_aload_n d_C_init_19 rfl ?_
  refine j_iconst (v := 4) d_C_init_20 (by decide) ?_
  refine j_newi d_C_init_21 rfl (by decide) (by decide) (by decide) ?_
  refine j_putRF d_C_init_23 (by repeat (first | assumption | simp only [mm_tO_sI, mm_tO_sR, mm_tO_sC, mm_tA_sI, mm_tA_sR, mm_tA_sC] | exact tO.new _ _ _ | exact tA.new _ _ _ | apply tO.up | apply tA.up)) p_C_19_C rfl (by decide) (fun z => by cases z <;> rfl) (fun z => by cases z <;> rfl) rfl ?_
  refine j_aload_n d_C_init_26 rfl ?_
  refine j_getR d_C_init_27 (by repeat (first | assumption | simp only [mm_tO_sI, mm_tO_sR, mm_tO_sC, mm_tA_sI, mm_tA_sR, mm_tA_sC] | exact tO.new _ _ _ | exact tA.new _ _ _ | apply tO.up | apply tA.up)) f_C_19_C rfl (by decide) (by rw [mm_R_sR, if_pos ⟨rfl, rfl⟩]) ?_
  refine j_iconst (v := 0) d_C_init_30 (by decide) ?_
  refine j_bipush (v := 8) d_C_init_31 (by decide) ?_
  refine j_iast d_C_init_33 (by repeat (first | assumption | simp only [mm_tO_sI, mm_tO_sR, mm_tO_sC, mm_tA_sI, mm_tA_sR, mm_tA_sC] | exact tO.new _ _ _ | exact tA.new _ _ _ | apply tO.up | apply tA.up)) (aIx.n (by first | decide | omega) (by first | decide | omega)) ?_
  refine j_return d_C_init_34 rfl ?_ (by decide) (by decide)
  exact ⟨rfl, rfl⟩
set_option maxRecDepth 20000 in
set_option maxHeartbeats 1000000 in
theorem k_V_init (M : aM) (a f : Nat) (ha : tO M a 2) (hf : tO M f 1) : aK m_V_init 2 2 96 M [.ref a, .ref f] (fun M1 r => r = none ∧ M1 = fV M a f) := by
  refine aK.of (by decide) (Nat.le_of_ble_eq_true rfl) ?_
  refine j_aload_n d_V_init_0 rfl ?_
  refine j_callIN (vs := []) d_V_init_1 nw3 w56 w3 w57 rfl rfl y_N_init (by decide) (by decide) (k_N_init_V _ a (by repeat (first | assumption | simp only [mm_tO_sI, mm_tO_sR, mm_tO_sC, mm_tA_sI, mm_tA_sR, mm_tA_sC] | exact tO.new _ _ _ | exact tA.new _ _ _ | apply tO.up | apply tA.up))) rfl (Nat.le_of_ble_eq_true rfl) (by decide) (by decide) (fun M1 r1 hq1 => ?_)
  obtain ⟨rfl, rfl⟩ := hq1
  refine j_aload_n d_V_init_4 rfl ?_
  refine j_bipush (v := 16) d_V_init_5 (by decide) ?_
  refine j_anew (kd := 105) d_V_init_7 (by decide) tx_105 w61 nw5 rfl (by decide) (by decide) (by decide) ?_
  refine j_putRF d_V_init_10 (by repeat (first | assumption | simp only [mm_tO_sI, mm_tO_sR, mm_tO_sC, mm_tA_sI, mm_tA_sR, mm_tA_sC] | exact tO.new _ _ _ | exact tA.new _ _ _ | apply tO.up | apply tA.up)) p_V_11_V rfl (by decide) (fun z => by cases z <;> rfl) (fun z => by cases z <;> rfl) rfl ?_
  refine j_aload_n d_V_init_13 rfl ?_
  refine j_getR d_V_init_14 (by repeat (first | assumption | simp only [mm_tO_sI, mm_tO_sR, mm_tO_sC, mm_tA_sI, mm_tA_sR, mm_tA_sC] | exact tO.new _ _ _ | exact tA.new _ _ _ | apply tO.up | apply tA.up)) f_V_11_V rfl (by decide) (by rw [mm_R_sR, if_pos ⟨rfl, rfl⟩]) ?_
  refine j_iconst (v := 0) d_V_init_17 (by decide) ?_
  refine j_aload_n d_V_init_18 rfl ?_
  refine j_aast d_V_init_19 (by repeat (first | assumption | simp only [mm_tO_sI, mm_tO_sR, mm_tO_sC, mm_tA_sI, mm_tA_sR, mm_tA_sC] | exact tO.new _ _ _ | exact tA.new _ _ _ | apply tO.up | apply tA.up)) (by decide) (aIx.n (by first | decide | omega) (by first | decide | omega)) (by repeat (first | assumption | simp only [mm_tO_sI, mm_tO_sR, mm_tO_sC, mm_tA_sI, mm_tA_sR, mm_tA_sC] | exact tO.new _ _ _ | exact tA.new _ _ _ | apply tO.up | apply tA.up)) (by decide) ca_C_105 ?_
  refine j_return d_V_init_20 rfl ?_ (by decide) (by decide)
  exact ⟨rfl, rfl⟩
end
section
/-- a cell is as it was -/
def sm (M M1 : aM) (a : Nat) : Prop := mKd M1 a = mKd M a ∧ mLn M1 a = mLn M a ∧ (∀ k, mI M1 a k = mI M a k) ∧ ∀ k, mR M1 a k = mR M a k
theorem sm.rf (M : aM) (a : Nat) : sm M M a := ⟨rfl, rfl, fun _ => rfl, fun _ => rfl⟩
theorem sm.tr {M M1 M2 : aM} {a : Nat} (h : sm M M1 a) (g : sm M1 M2 a) : sm M M2 a := ⟨g.1.trans h.1, g.2.1.trans h.2.1, fun k => (g.2.2.1 k).trans (h.2.2.1 k), fun k => (g.2.2.2 k).trans (h.2.2.2 k)⟩
theorem sm.sI {M M1 : aM} {a o k : Nat} {x : Int32} (h : sm M M1 a) (hn : a ≠ o) : sm M (sI M1 o k x) a := h.tr ⟨rfl, rfl, fun j => by rw [mm_I_sI, if_neg (fun q => hn q.1)], fun _ => rfl⟩
theorem sm.sR {M M1 : aM} {a o k : Nat} {x : Option Nat} (h : sm M M1 a) (hn : a ≠ o) : sm M (sR M1 o k x) a := h.tr ⟨rfl, rfl, fun _ => rfl, fun j => by rw [mm_R_sR, if_neg (fun q => hn q.1)]⟩
theorem sm.sC {M M1 : aM} {a o sp q dp n : Nat} (h : sm M M1 a) (hn : a ≠ q) : sm M (sC M1 o sp q dp n) a := h.tr ⟨rfl, rfl, fun j => by rw [mm_I_sC, if_neg (fun z => hn z.1)], fun _ => rfl⟩
theorem sm.mN {M M1 : aM} {a kd ln : Nat} (h : sm M M1 a) (hn : a ≠ mSz M1) : sm M (mN M1 kd ln) a := h.tr ⟨by rw [mm_kd_mN, if_neg hn], by rw [mm_ln_mN, if_neg hn], fun j => by rw [mm_I_mN, if_neg hn], fun j => by rw [mm_R_mN, if_neg hn]⟩
theorem sm.tO {M M1 : aM} {a ci : Nat} (h : sm M M1 a) (hz : mSz M ≤ mSz M1) (t : tO M a ci) : tO M1 a ci := ⟨Nat.lt_of_lt_of_le t.1 hz, h.1.trans t.2⟩
theorem sm.tA {M M1 : aM} {a kd n : Nat} (h : sm M M1 a) (hz : mSz M ≤ mSz M1) (t : tA M a kd n) : tA M1 a kd n := ⟨Nat.lt_of_lt_of_le t.1 hz, h.1.trans t.2.1, h.2.1.trans t.2.2⟩
theorem sm.R {M M1 : aM} {a k : Nat} {r : Option Nat} (h : sm M M1 a) (t : mR M a k = r) : mR M1 a k = r := (h.2.2.2 k).trans t
theorem sm.I {M M1 : aM} {a k : Nat} {r : Int32} (h : sm M M1 a) (t : mI M a k = r) : mI M1 a k = r := (h.2.2.1 k).trans t
theorem sz_fH (M : aM) (a : Nat) : mSz (fH M a) = mSz M + 3 := rfl
theorem sm_fH {M M1 : aM} {o a : Nat} (h : sm M M1 o) (h1 : o ≠ a) (h2 : o < mSz M1) : sm M (fH M1 a) o := by
  unfold fH
  refine sm.sR (sm.mN (sm.sR (sm.mN (sm.sR (sm.mN (sm.sI h h1) ?_) h1) ?_) h1) ?_) h1
  · exact Nat.ne_of_lt h2
  · show o ≠ mSz M1 + 1
    omega
  · show o ≠ mSz M1 + 1 + 1
    omega
theorem tO_fHa {M : aM} {a ci : Nat} (h : tO M a ci) : tO (fH M a) a ci := tO_fH h a
theorem nI_inc (i : Nat) : nI i + Int32.ofInt 1 = nI (i + 1) := (nI_succ i).symm

set_option maxRecDepth 20000 in
set_option maxHeartbeats 2000000 in
theorem k_T_init (M : aM) (a f : Nat) (g : Int32) (ha : tO M a 3) (hf : tO M f 1) : aK m_T_init 2 34 184 M [.ref a, .int g, .ref f] (fun M1 r => r = none ∧ M1 = fT M a g f) := by
  refine aK.of (by decide) (Nat.le_of_ble_eq_true rfl) ?_
  have loop : ∀ (n i : Nat) (M1 : aM), i + n = 8 → tO M1 a 3 → mR M1 a 9 = some (mSz M + 1) → tA M1 (mSz M + 1) 107 8 → M1 = iH (mSz M + 1) i (fT0 M a g f) → aJ aX0 m_T_init 2 34 184 (fun M1 r => r = none ∧ M1 = fT M a g f) (2 + 4 * i) (88 + 12 * i) 25 [some (.ref a), some (.int g), some (.ref f), some (.int (nI i))] [] M1 := by
    intro n
    induction n with
    | zero =>
      intro i M1 hi h1 h2 h3 h4
      have e8 : i = 8 := by omega
      subst e8
      refine j_iload_n d_T_init_25 rfl ?_
      refine j_bipush (v := 8) d_T_init_26 (by decide) ?_
      refine j_icmp_ge (tgt := 50) d_T_init_28 (by decide) (fun h28 => ?_) (fun h28 => False.elim (h28 (nI_le (by decide) (by decide))))
      refine j_return d_T_init_50 rfl ⟨rfl, h4⟩ (by decide) (by decide)
    | succ n ih =>
      intro i M1 hi h1 h2 h3 h4
      refine j_iload_n d_T_init_25 rfl ?_
      refine j_bipush (v := 8) d_T_init_26 (by decide) ?_
      refine j_icmp_ge (tgt := 50) d_T_init_28 (by decide) (fun h28 => False.elim (nI_ge (b := 8) (by omega) (by decide) h28)) (fun h28 => ?_)
      refine j_aload_n d_T_init_31 rfl ?_
      refine j_getR d_T_init_32 (by repeat (first | assumption | simp only [mm_tO_sI, mm_tO_sR, mm_tO_sC, mm_tA_sI, mm_tA_sR, mm_tA_sC] | exact tO.new _ _ _ | exact tA.new _ _ _ | apply tO.up | apply tA.up)) f_T_11_T rfl (by decide) (by repeat (first | assumption | simp only [mm_tO_sI, mm_tO_sR, mm_tO_sC, mm_tA_sI, mm_tA_sR, mm_tA_sC] | exact tO.new _ _ _ | exact tA.new _ _ _ | apply tO.up | apply tA.up)) ?_
      refine j_iload_n d_T_init_35 rfl ?_
      refine j_new d_T_init_36 n_T_9 (by decide) (by omega) (by omega) ?_
      have hz := h1.1
      refine j_dup d_T_init_39 ?_
      refine j_callIN d_T_init_40 nw8 w121 w6 w122 rfl rfl y_H_init (by decide) (by decide) (k_H_init _ (mSz M1) (tO.new M1 4 0)) rfl (Nat.le_of_ble_eq_true rfl) (by omega) (by omega) (fun M1 r1 hq1 => ?_)
      obtain ⟨rfl, rfl⟩ := hq1
      have s0 : ∀ o, o < mSz M1 → sm M1 (fH (mN M1 4 0) (mSz M1)) o := fun o ho => sm_fH (sm.mN (sm.rf _ _) (Nat.ne_of_lt ho)) (Nat.ne_of_lt ho) (Nat.lt_succ_of_lt ho)
      have hz1 : mSz M1 ≤ mSz (fH (mN M1 4 0) (mSz M1)) := by show mSz M1 ≤ mSz M1 + 1 + 3; omega
      refine j_aast d_T_init_43 ((s0 _ h3.1).tA hz1 h3) (by decide) (aIx.n (by first | decide | omega) (by first | decide | omega)) (tO_fHa (tO.new M1 4 0)) (by decide) ca_H_107 ?_
      refine j_iinc (nI (i + 1)) d_T_init_44 rfl (nI_inc i) (by decide) ?_
      refine j_goto 25 d_T_init_47 (by decide) ?_
      -- at 25
      refine j_widen (uc1 := 2 + 4 * (i + 1)) (us1 := 88 + 12 * (i + 1)) (by omega) (by omega) ?_
      refine ih (i + 1) _ (by omega) ?_ ?_ ?_ ?_
      · exact (s0 a h1.1).tO hz1 h1
      · rw [mm_R_sR, if_neg]
        · exact (s0 a h1.1).R h2
        · rintro ⟨e, -⟩; rw [e] at h1; exact absurd (h1.2.symm.trans h3.2.1) (by decide)
      · exact (s0 _ h3.1).tA hz1 h3
      · subst h4; rfl
  refine j_aload_n d_T_init_0 rfl ?_
  refine j_callIN d_T_init_1 nw6 w56 w3 w57 rfl rfl y_N_init (by decide) (by decide) (k_N_init_T _ a (by repeat (first | assumption | simp only [mm_tO_sI, mm_tO_sR, mm_tO_sC, mm_tA_sI, mm_tA_sR, mm_tA_sC] | exact tO.new _ _ _ | exact tA.new _ _ _ | apply tO.up | apply tA.up))) rfl (Nat.le_of_ble_eq_true rfl) (by decide) (by decide) (fun M1 r1 hq1 => ?_)
  obtain ⟨rfl, rfl⟩ := hq1
  have h1 : tO (fN M a) a 3 := by unfold fN; repeat (first | assumption | simp only [mm_tO_sI, mm_tO_sR, mm_tO_sC, mm_tA_sI, mm_tA_sR, mm_tA_sC] | exact tO.new _ _ _ | exact tA.new _ _ _ | apply tO.up | apply tA.up)
  refine j_aload_n d_T_init_4 rfl ?_
  refine j_bipush (v := 8) d_T_init_5 (by decide) ?_
  refine j_anew (kd := 107) d_T_init_7 (by decide) tx_107 w117 nw7 rfl (by decide) (by decide) (by decide) ?_
  refine j_putRF d_T_init_10 (by repeat (first | assumption | simp only [mm_tO_sI, mm_tO_sR, mm_tO_sC, mm_tA_sI, mm_tA_sR, mm_tA_sC] | exact tO.new _ _ _ | exact tA.new _ _ _ | apply tO.up | apply tA.up)) p_T_11_T rfl (by decide) (fun z => by cases z <;> rfl) (fun z => by cases z <;> rfl) rfl ?_
  refine j_aload_n d_T_init_13 rfl ?_
  refine j_iload_n d_T_init_14 rfl ?_
  refine j_putiF d_T_init_15 (by repeat (first | assumption | simp only [mm_tO_sI, mm_tO_sR, mm_tO_sC, mm_tA_sI, mm_tA_sR, mm_tA_sC] | exact tO.new _ _ _ | exact tA.new _ _ _ | apply tO.up | apply tA.up)) p_T_17_T rfl (by decide) rfl rfl rfl ?_
  refine j_aload_n d_T_init_18 rfl ?_
  refine j_aload_n d_T_init_19 rfl ?_
  refine j_putR d_T_init_20 (by repeat (first | assumption | simp only [mm_tO_sI, mm_tO_sR, mm_tO_sC, mm_tA_sI, mm_tA_sR, mm_tA_sC] | exact tO.new _ _ _ | exact tA.new _ _ _ | apply tO.up | apply tA.up)) p_T_21_T rfl (by decide) (fun z => by cases z <;> rfl) (fun z => by cases z <;> rfl) ?_
  refine j_iconst (v := 0) d_T_init_23 (by decide) ?_
  refine j_istore_n d_T_init_24 (by decide) ?_
  -- at 25
  refine loop 8 0 _ (by decide) ?_ ?_ ?_ rfl
  · show tO (fT0 M a g f) a 3
    unfold fT0
    simp only [mm_tO_sI, mm_tO_sR]
    exact tO.up h1 _ _
  · show mR (sR (sI (sR (mN (fN M a) 107 8) a 9 (some (mSz M + 1))) a 6 g) a 8 (some f)) a 9 = _
    rw [mm_R_sR, if_neg (fun q => absurd q.2 (by decide)), mm_R_sI, mm_R_sR, if_pos ⟨rfl, rfl⟩]
  · show tA (fT0 M a g f) (mSz M + 1) 107 8
    unfold fT0
    simp only [mm_tA_sI, mm_tA_sR]
    exact tA.new (fN M a) 107 8
end
section
def bP (p : Prop) [Decidable p] : Int32 := if p then 1 else 0
theorem bP_t {p : Prop} [Decidable p] (h : p) : bP p = 1 := if_pos h
theorem bP_f {p : Prop} [Decidable p] (h : ¬ p) : bP p = 0 := if_neg h
theorem nI_0' {n : Nat} (hn : n < 2 ^ 31) : nI n = 0 ↔ n = 0 := nI_eq (b := 0) hn (by decide)
theorem i_sub {x : Int32} {a b : Nat} (h : x = nI a) (hb : b ≤ a) : x - nI b = nI (a - b) := by rw [h]; exact pk_sub hb
theorem i_lt0 {x : Int32} : x < 0 ↔ x.toInt < 0 := Int32.lt_iff_toInt_lt
theorem re_0 {ci : Nat} (h5 : 5 ≤ ci) (h6 : ci ≤ 10) : aRf ci 0 = false := by
  rcases (by omega : ci = 5 ∨ ci = 6 ∨ ci = 7 ∨ ci = 8 ∨ ci = 9 ∨ ci = 10) with rfl | rfl | rfl | rfl | rfl | rfl <;> rfl

theorem fe_N_43 {ci : Nat} (h5 : 5 ≤ ci) (h6 : ci ≤ 10) : aFl "ShardGroups$Node" 43 ci 0 := by
  rcases (by omega : ci = 5 ∨ ci = 6 ∨ ci = 7 ∨ ci = 8 ∨ ci = 9 ∨ ci = 10) with rfl | rfl | rfl | rfl | rfl | rfl
  · exact f_N_43_E
  · exact f_N_43_G
  · exact f_N_43_F
  · exact f_N_43_R
  · exact f_N_43_I
  · exact f_N_43_D
set_option maxRecDepth 20000 in
set_option maxHeartbeats 1000000 in
theorem k_groupOf (M : aM) (x : Int32) : aK m_S_groupOf 0 0 0 M [.int x] (fun M1 r => M1 = M ∧ r = some (.int (x / 3))) := by
  refine aK.of (by decide) (Nat.le_of_ble_eq_true rfl) ?_
  refine j_iload_n d_S_groupOf_0 rfl ?_
  refine j_iconst (v := 3) d_S_groupOf_1 (by decide) ?_
  refine j_idiv d_S_groupOf_2 (by decide) ?_
  refine j_ireturn d_S_groupOf_3 rfl rfl ?_ (by decide) (by decide)
  exact ⟨rfl, rfl⟩
set_option maxRecDepth 20000 in
set_option maxHeartbeats 1000000 in
theorem k_shardOf (M : aM) (x : Int32) : aK m_S_shardOf 0 0 0 M [.int x] (fun M1 r => M1 = M ∧ r = some (.int (x - x / 8 * 8))) := by
  refine aK.of (by decide) (Nat.le_of_ble_eq_true rfl) ?_
  refine j_iload_n d_S_shardOf_0 rfl ?_
  refine j_bipush (v := 8) d_S_shardOf_1 (by decide) ?_
  refine j_irem d_S_shardOf_3 (by decide) ?_
  refine j_ireturn d_S_shardOf_4 rfl rfl ?_ (by decide) (by decide)
  exact ⟨rfl, rfl⟩
set_option maxRecDepth 20000 in
set_option maxHeartbeats 1000000 in
theorem k_placeInShard (M : aM) (x : Int32) : aK m_S_placeInShard 0 0 0 M [.int x] (fun M1 r => M1 = M ∧ r = some (.int (x / 8))) := by
  refine aK.of (by decide) (Nat.le_of_ble_eq_true rfl) ?_
  refine j_iload_n d_S_placeInShard_0 rfl ?_
  refine j_bipush (v := 8) d_S_placeInShard_1 (by decide) ?_
  refine j_idiv d_S_placeInShard_3 (by decide) ?_
  refine j_ireturn d_S_placeInShard_4 rfl rfl ?_ (by decide) (by decide)
  exact ⟨rfl, rfl⟩
set_option maxRecDepth 20000 in
set_option maxHeartbeats 1000000 in
theorem k_isShard (M : aM) (x : Int32) : aK m_S_isShard 0 0 0 M [.int x] (fun M1 r => M1 = M ∧ r = some (.int (bP (0 ≤ x ∧ x < 8)))) := by
  refine aK.of (by decide) (Nat.le_of_ble_eq_true rfl) ?_
  refine j_iload_n d_S_isShard_0 rfl ?_
  refine j_if_lt (tgt := 14) d_S_isShard_1 (by decide) (fun h1 => ?_) (fun h1 => ?_)
  · have hb : bP (0 ≤ x ∧ x < 8) = 0 := bP_f (fun q => absurd h1 (Int32.not_lt.mpr q.1))
    refine j_iconst (v := 0) d_S_isShard_14 (by decide) ?_
    refine j_ireturn d_S_isShard_15 rfl rfl ?_ (by decide) (by decide)
    exact ⟨rfl, by rw [hb]⟩
  · refine j_iload_n d_S_isShard_4 rfl ?_
    refine j_bipush (v := 8) d_S_isShard_5 (by decide) ?_
    refine j_icmp_ge (tgt := 14) d_S_isShard_7 (by decide) (fun h7 => ?_) (fun h7 => ?_)
    · have hb : bP (0 ≤ x ∧ x < 8) = 0 := bP_f (fun q => absurd h7 (Int32.not_le.mpr q.2))
      refine j_iconst (v := 0) d_S_isShard_14 (by decide) ?_
      refine j_ireturn d_S_isShard_15 rfl rfl ?_ (by decide) (by decide)
      exact ⟨rfl, by rw [hb]⟩
    · have hb : bP (0 ≤ x ∧ x < 8) = 1 := bP_t ⟨Int32.not_lt.mp h1, Int32.not_le.mp h7⟩
      refine j_iconst (v := 1) d_S_isShard_10 (by decide) ?_
      refine j_goto 15 d_S_isShard_11 (by decide) ?_
      refine j_ireturn d_S_isShard_15 rfl rfl ?_ (by decide) (by decide)
      exact ⟨rfl, by rw [hb]⟩
set_option maxRecDepth 20000 in
set_option maxHeartbeats 1000000 in
theorem k_isKey (M : aM) (x : Int32) : aK m_S_isKey 0 0 0 M [.int x] (fun M1 r => M1 = M ∧ r = some (.int (bP (0 ≤ x ∧ x < 16)))) := by
  refine aK.of (by decide) (Nat.le_of_ble_eq_true rfl) ?_
  refine j_iload_n d_S_isKey_0 rfl ?_
  refine j_if_lt (tgt := 14) d_S_isKey_1 (by decide) (fun h1 => ?_) (fun h1 => ?_)
  · have hb : bP (0 ≤ x ∧ x < 16) = 0 := bP_f (fun q => absurd h1 (Int32.not_lt.mpr q.1))
    refine j_iconst (v := 0) d_S_isKey_14 (by decide) ?_
    refine j_ireturn d_S_isKey_15 rfl rfl ?_ (by decide) (by decide)
    exact ⟨rfl, by rw [hb]⟩
  · refine j_iload_n d_S_isKey_4 rfl ?_
    refine j_bipush (v := 16) d_S_isKey_5 (by decide) ?_
    refine j_icmp_ge (tgt := 14) d_S_isKey_7 (by decide) (fun h7 => ?_) (fun h7 => ?_)
    · have hb : bP (0 ≤ x ∧ x < 16) = 0 := bP_f (fun q => absurd h7 (Int32.not_le.mpr q.2))
      refine j_iconst (v := 0) d_S_isKey_14 (by decide) ?_
      refine j_ireturn d_S_isKey_15 rfl rfl ?_ (by decide) (by decide)
      exact ⟨rfl, by rw [hb]⟩
    · have hb : bP (0 ≤ x ∧ x < 16) = 1 := bP_t ⟨Int32.not_lt.mp h1, Int32.not_le.mp h7⟩
      refine j_iconst (v := 1) d_S_isKey_10 (by decide) ?_
      refine j_goto 15 d_S_isKey_11 (by decide) ?_
      refine j_ireturn d_S_isKey_15 rfl rfl ?_ (by decide) (by decide)
      exact ⟨rfl, by rw [hb]⟩
set_option maxRecDepth 20000 in
set_option maxHeartbeats 1000000 in
theorem k_isClient (M : aM) (x : Int32) : aK m_S_isClient 0 0 0 M [.int x] (fun M1 r => M1 = M ∧ r = some (.int (bP (0 ≤ x ∧ x < 3)))) := by
  refine aK.of (by decide) (Nat.le_of_ble_eq_true rfl) ?_
  refine j_iload_n d_S_isClient_0 rfl ?_
  refine j_if_lt (tgt := 13) d_S_isClient_1 (by decide) (fun h1 => ?_) (fun h1 => ?_)
  · have hb : bP (0 ≤ x ∧ x < 3) = 0 := bP_f (fun q => absurd h1 (Int32.not_lt.mpr q.1))
    refine j_iconst (v := 0) d_S_isClient_13 (by decide) ?_
    refine j_ireturn d_S_isClient_14 rfl rfl ?_ (by decide) (by decide)
    exact ⟨rfl, by rw [hb]⟩
  · refine j_iload_n d_S_isClient_4 rfl ?_
    refine j_iconst (v := 3) d_S_isClient_5 (by decide) ?_
    refine j_icmp_ge (tgt := 13) d_S_isClient_6 (by decide) (fun h6 => ?_) (fun h6 => ?_)
    · have hb : bP (0 ≤ x ∧ x < 3) = 0 := bP_f (fun q => absurd h6 (Int32.not_le.mpr q.2))
      refine j_iconst (v := 0) d_S_isClient_13 (by decide) ?_
      refine j_ireturn d_S_isClient_14 rfl rfl ?_ (by decide) (by decide)
      exact ⟨rfl, by rw [hb]⟩
    · have hb : bP (0 ≤ x ∧ x < 3) = 1 := bP_t ⟨Int32.not_lt.mp h1, Int32.not_le.mp h6⟩
      refine j_iconst (v := 1) d_S_isClient_9 (by decide) ?_
      refine j_goto 14 d_S_isClient_10 (by decide) ?_
      refine j_ireturn d_S_isClient_14 rfl rfl ?_ (by decide) (by decide)
      exact ⟨rfl, by rw [hb]⟩
set_option maxRecDepth 20000 in
set_option maxHeartbeats 1000000 in
theorem k_isOwningGroup (M : aM) (x : Int32) : aK m_S_isOwningGroup 0 0 0 M [.int x] (fun M1 r => M1 = M ∧ r = some (.int (bP (1 ≤ x ∧ x < 4)))) := by
  refine aK.of (by decide) (Nat.le_of_ble_eq_true rfl) ?_
  refine j_iload_n d_S_isOwningGroup_0 rfl ?_
  refine j_iconst (v := 1) d_S_isOwningGroup_1 (by decide) ?_
  refine j_icmp_lt (tgt := 14) d_S_isOwningGroup_2 (by decide) (fun h2 => ?_) (fun h2 => ?_)
  · have hb : bP (1 ≤ x ∧ x < 4) = 0 := bP_f (fun q => absurd h2 (Int32.not_lt.mpr q.1))
    refine j_iconst (v := 0) d_S_isOwningGroup_14 (by decide) ?_
    refine j_ireturn d_S_isOwningGroup_15 rfl rfl ?_ (by decide) (by decide)
    exact ⟨rfl, by rw [hb]⟩
  · refine j_iload_n d_S_isOwningGroup_5 rfl ?_
    refine j_iconst (v := 4) d_S_isOwningGroup_6 (by decide) ?_
    refine j_icmp_ge (tgt := 14) d_S_isOwningGroup_7 (by decide) (fun h7 => ?_) (fun h7 => ?_)
    · have hb : bP (1 ≤ x ∧ x < 4) = 0 := bP_f (fun q => absurd h7 (Int32.not_le.mpr q.2))
      refine j_iconst (v := 0) d_S_isOwningGroup_14 (by decide) ?_
      refine j_ireturn d_S_isOwningGroup_15 rfl rfl ?_ (by decide) (by decide)
      exact ⟨rfl, by rw [hb]⟩
    · have hb : bP (1 ≤ x ∧ x < 4) = 1 := bP_t ⟨Int32.not_lt.mp h2, Int32.not_le.mp h7⟩
      refine j_iconst (v := 1) d_S_isOwningGroup_10 (by decide) ?_
      refine j_goto 15 d_S_isOwningGroup_11 (by decide) ?_
      refine j_ireturn d_S_isOwningGroup_15 rfl rfl ?_ (by decide) (by decide)
      exact ⟨rfl, by rw [hb]⟩
set_option maxRecDepth 20000 in
set_option maxHeartbeats 1000000 in
theorem k_floorMod (M : aM) (x y : Int32) (hy : ¬ y = 0) : aK m_J_floorMod 0 0 0 M [.int x, .int y] (fun M1 r => M1 = M ∧ r = some (.int (if 0 ≤ x ^^^ y then x - x / y * y else if x - x / y * y = 0 then x - x / y * y else x - x / y * y + y))) := by
  refine aK.ofF (by decide +kernel) (Nat.le_of_ble_eq_true rfl) ?_
  refine j_iload_n d_J_floorMod_0 rfl ?_
  refine j_iload_n d_J_floorMod_1 rfl ?_
  refine j_irem d_J_floorMod_2 hy ?_
  refine j_istore_n d_J_floorMod_3 (by decide) ?_
  refine j_iload_n d_J_floorMod_4 rfl ?_
  refine j_iload_n d_J_floorMod_5 rfl ?_
  refine j_ixor d_J_floorMod_6 ?_
  refine j_if_ge (tgt := 18) d_J_floorMod_7 (by decide) (fun h7 => ?_) (fun h7 => ?_)
  · have hb : (if 0 ≤ x ^^^ y then x - x / y * y else if x - x / y * y = 0 then x - x / y * y else x - x / y * y + y) = x - x / y * y := if_pos h7
    refine j_iload_n d_J_floorMod_18 rfl ?_
    refine j_ireturn d_J_floorMod_19 rfl rfl ?_ (by decide) (by decide)
    exact ⟨rfl, by rw [hb]⟩
  · refine j_iload_n d_J_floorMod_10 rfl ?_
    refine j_if_eq (tgt := 18) d_J_floorMod_11 (by decide) (fun h11 => ?_) (fun h11 => ?_)
    · have hb : (if 0 ≤ x ^^^ y then x - x / y * y else if x - x / y * y = 0 then x - x / y * y else x - x / y * y + y) = x - x / y * y := by rw [if_neg h7, if_pos h11]
      refine j_iload_n d_J_floorMod_18 rfl ?_
      refine j_ireturn d_J_floorMod_19 rfl rfl ?_ (by decide) (by decide)
      exact ⟨rfl, by rw [hb]⟩
    · refine j_iload_n d_J_floorMod_14 rfl ?_
      refine j_iload_n d_J_floorMod_15 rfl ?_
      refine j_iadd d_J_floorMod_16 ?_
      refine j_ireturn d_J_floorMod_17 rfl rfl ?_ (by decide) (by decide)
      exact ⟨rfl, by rw [if_neg h7, if_neg h11]⟩
/-- the log of the node at a, by its terms -/
def lgT (M : aM) (a len : Nat) (tm : Nat → Nat) : Prop := len ≤ 80 ∧ mI M a 3 = nI len ∧ ∀ k, k < len → ∃ e ci, mR M (a + 1) k = some e ∧ tO M e ci ∧ 5 ≤ ci ∧ ci ≤ 10 ∧ mI M e 0 = nI (tm k) ∧ tm k < 1000000
def lT (len : Nat) (tm : Nat → Nat) : Nat := if len = 0 then 0 else tm (len - 1)
def ndS (M : aM) (a ci : Nat) : Prop := tO M a ci ∧ mR M a 5 = some (a + 1) ∧ tA M (a + 1) 106 80

set_option maxRecDepth 20000 in
set_option maxHeartbeats 1000000 in
theorem k_takeTerm_V (M : aM) (a : Nat) (x : Int32) (ha : tO M a 2) : aK m_N_takeTerm 0 0 0 M [.ref a, .int x] (fun M1 r => r = none ∧ M1 = if mI M a 2 < x then sI (sI M a 2 x) a 1 0 else M) := by
  refine aK.of (by decide) (Nat.le_of_ble_eq_true rfl) ?_
  refine j_iload_n d_N_takeTerm_0 rfl ?_
  refine j_aload_n d_N_takeTerm_1 rfl ?_
  refine j_geti d_N_takeTerm_2 (by assumption) f_N_21_V rfl (by decide) ?_
  refine j_icmp_le (tgt := 18) d_N_takeTerm_5 (by decide) (fun h5 => ?_) (fun h5 => ?_)
  · have hb : (if mI M a 2 < x then sI (sI M a 2 x) a 1 0 else M) = M := if_neg (Int32.not_lt.mpr h5)
    refine j_return d_N_takeTerm_18 rfl ?_ (by decide) (by decide)
    exact ⟨rfl, hb.symm⟩
  · have hb : (if mI M a 2 < x then sI (sI M a 2 x) a 1 0 else M) = sI (sI M a 2 x) a 1 0 := if_pos (Int32.not_le.mp h5)
    refine j_aload_n d_N_takeTerm_8 rfl ?_
    refine j_iload_n d_N_takeTerm_9 rfl ?_
    refine j_puti d_N_takeTerm_10 (by assumption) p_N_21_V rfl (by decide) rfl rfl ?_
    refine j_aload_n d_N_takeTerm_13 rfl ?_
    refine j_iconst (v := 0) d_N_takeTerm_14 (by decide) ?_
    refine j_puti d_N_takeTerm_15 (by assumption) p_N_25_V rfl (by decide) rfl rfl ?_
    refine j_return d_N_takeTerm_18 rfl ?_ (by decide) (by decide)
    exact ⟨rfl, hb.symm⟩
set_option maxRecDepth 20000 in
set_option maxHeartbeats 1000000 in
theorem k_lastTerm_V (M : aM) (a len : Nat) (tm : Nat → Nat) (hn : ndS M a 2) (hl : lgT M a len tm) : aK m_N_lastTerm 0 0 0 M [.ref a] (fun M1 r => M1 = M ∧ r = some (.int (nI (lT len tm)))) := by
  refine aK.of (by decide) (Nat.le_of_ble_eq_true rfl) ?_
  obtain ⟨ha, ha5, hA⟩ := hn
  refine j_aload_n d_N_lastTerm_0 rfl ?_
  refine j_geti d_N_lastTerm_1 (by assumption) f_N_40_V rfl (by decide) ?_
  refine j_eqi hl.2.1 ?_
  refine j_if_ne (tgt := 11) d_N_lastTerm_4 (by decide) (fun h4 => ?_) (fun h4 => ?_)
  · have hp : ¬ len = 0 := fun q => h4 (by rw [q]; rfl)
    refine j_aload_n d_N_lastTerm_11 rfl ?_
    refine j_getR d_N_lastTerm_12 (by assumption) f_N_17_V rfl (by decide) (by assumption) ?_
    refine j_aload_n d_N_lastTerm_15 rfl ?_
    refine j_geti d_N_lastTerm_16 (by assumption) f_N_40_V rfl (by decide) ?_
    refine j_iconst (v := 1) d_N_lastTerm_19 (by decide) ?_
    refine j_isub d_N_lastTerm_20 ?_
    obtain ⟨e, ei, g1, g2, g3, g4, g5, g6⟩ := hl.2.2 (len - 1) (by omega)
    refine j_eqi (i_sub (b := 1) hl.2.1 (by omega)) ?_
    refine j_aaldR d_N_lastTerm_21 (by assumption) (by decide) ts_106 (aIx.n (by have := hl.1; omega) (by decide)) (by assumption) ?_
    refine j_geti d_N_lastTerm_22 (by assumption) (fe_N_43 g3 g4) (re_0 g3 g4) (by omega) ?_
    have hb : nI (lT len tm) = mI M e 0 := by rw [show lT len tm = tm (len - 1) from if_neg hp, g5]
    refine j_ireturn d_N_lastTerm_25 rfl rfl ?_ (by decide) (by decide)
    exact ⟨rfl, by rw [hb]⟩
  · have hb : nI (lT len tm) = 0 := by rw [show lT len tm = 0 from if_pos ((nI_0' (by have := hl.1; omega)).mp h4)]; rfl
    refine j_iconst (v := 0) d_N_lastTerm_7 (by decide) ?_
    refine j_goto 25 d_N_lastTerm_8 (by decide) ?_
    refine j_ireturn d_N_lastTerm_25 rfl rfl ?_ (by decide) (by decide)
    exact ⟨rfl, by rw [hb]⟩
set_option maxRecDepth 20000 in
set_option maxHeartbeats 1000000 in
theorem k_takeTerm_T (M : aM) (a : Nat) (x : Int32) (ha : tO M a 3) : aK m_N_takeTerm 0 0 0 M [.ref a, .int x] (fun M1 r => r = none ∧ M1 = if mI M a 2 < x then sI (sI M a 2 x) a 1 0 else M) := by
  refine aK.of (by decide) (Nat.le_of_ble_eq_true rfl) ?_
  refine j_iload_n d_N_takeTerm_0 rfl ?_
  refine j_aload_n d_N_takeTerm_1 rfl ?_
  refine j_geti d_N_takeTerm_2 (by assumption) f_N_21_T rfl (by decide) ?_
  refine j_icmp_le (tgt := 18) d_N_takeTerm_5 (by decide) (fun h5 => ?_) (fun h5 => ?_)
  · have hb : (if mI M a 2 < x then sI (sI M a 2 x) a 1 0 else M) = M := if_neg (Int32.not_lt.mpr h5)
    refine j_return d_N_takeTerm_18 rfl ?_ (by decide) (by decide)
    exact ⟨rfl, hb.symm⟩
  · have hb : (if mI M a 2 < x then sI (sI M a 2 x) a 1 0 else M) = sI (sI M a 2 x) a 1 0 := if_pos (Int32.not_le.mp h5)
    refine j_aload_n d_N_takeTerm_8 rfl ?_
    refine j_iload_n d_N_takeTerm_9 rfl ?_
    refine j_puti d_N_takeTerm_10 (by assumption) p_N_21_T rfl (by decide) rfl rfl ?_
    refine j_aload_n d_N_takeTerm_13 rfl ?_
    refine j_iconst (v := 0) d_N_takeTerm_14 (by decide) ?_
    refine j_puti d_N_takeTerm_15 (by assumption) p_N_25_T rfl (by decide) rfl rfl ?_
    refine j_return d_N_takeTerm_18 rfl ?_ (by decide) (by decide)
    exact ⟨rfl, hb.symm⟩
set_option maxRecDepth 20000 in
set_option maxHeartbeats 1000000 in
theorem k_lastTerm_T (M : aM) (a len : Nat) (tm : Nat → Nat) (hn : ndS M a 3) (hl : lgT M a len tm) : aK m_N_lastTerm 0 0 0 M [.ref a] (fun M1 r => M1 = M ∧ r = some (.int (nI (lT len tm)))) := by
  refine aK.of (by decide) (Nat.le_of_ble_eq_true rfl) ?_
  obtain ⟨ha, ha5, hA⟩ := hn
  refine j_aload_n d_N_lastTerm_0 rfl ?_
  refine j_geti d_N_lastTerm_1 (by assumption) f_N_40_T rfl (by decide) ?_
  refine j_eqi hl.2.1 ?_
  refine j_if_ne (tgt := 11) d_N_lastTerm_4 (by decide) (fun h4 => ?_) (fun h4 => ?_)
  · have hp : ¬ len = 0 := fun q => h4 (by rw [q]; rfl)
    refine j_aload_n d_N_lastTerm_11 rfl ?_
    refine j_getR d_N_lastTerm_12 (by assumption) f_N_17_T rfl (by decide) (by assumption) ?_
    refine j_aload_n d_N_lastTerm_15 rfl ?_
    refine j_geti d_N_lastTerm_16 (by assumption) f_N_40_T rfl (by decide) ?_
    refine j_iconst (v := 1) d_N_lastTerm_19 (by decide) ?_
    refine j_isub d_N_lastTerm_20 ?_
    obtain ⟨e, ei, g1, g2, g3, g4, g5, g6⟩ := hl.2.2 (len - 1) (by omega)
    refine j_eqi (i_sub (b := 1) hl.2.1 (by omega)) ?_
    refine j_aaldR d_N_lastTerm_21 (by assumption) (by decide) ts_106 (aIx.n (by have := hl.1; omega) (by decide)) (by assumption) ?_
    refine j_geti d_N_lastTerm_22 (by assumption) (fe_N_43 g3 g4) (re_0 g3 g4) (by omega) ?_
    have hb : nI (lT len tm) = mI M e 0 := by rw [show lT len tm = tm (len - 1) from if_neg hp, g5]
    refine j_ireturn d_N_lastTerm_25 rfl rfl ?_ (by decide) (by decide)
    exact ⟨rfl, by rw [hb]⟩
  · have hb : nI (lT len tm) = 0 := by rw [show lT len tm = 0 from if_pos ((nI_0' (by have := hl.1; omega)).mp h4)]; rfl
    refine j_iconst (v := 0) d_N_lastTerm_7 (by decide) ?_
    refine j_goto 25 d_N_lastTerm_8 (by decide) ?_
    refine j_ireturn d_N_lastTerm_25 rfl rfl ?_ (by decide) (by decide)
    exact ⟨rfl, by rw [hb]⟩
theorem lT_lt {M : aM} {a len : Nat} {tm : Nat → Nat} (h : lgT M a len tm) : lT len tm < 1000000 := by
  unfold lT
  split
  · omega
  · obtain ⟨_, _, _, _, _, _, _, g⟩ := h.2.2 (len - 1) (by omega)
    exact g
theorem ca_any {ci : Nat} (h5 : 5 ≤ ci) (h6 : ci ≤ 10) : aCa ci 106 := by
  rcases (by omega : ci = 5 ∨ ci = 6 ∨ ci = 7 ∨ ci = 8 ∨ ci = 9 ∨ ci = 10) with rfl | rfl | rfl | rfl | rfl | rfl
  · exact ca_E_106
  · exact ca_G_106
  · exact ca_F_106
  · exact ca_R_106
  · exact ca_I_106
  · exact ca_D_106
theorem i_lt {a b : Nat} (ha : a < 2 ^ 31) (hb : b < 2 ^ 31) (h : nI a < nI b) : a < b := (nI_ltI ha hb).mp h
theorem i_nlt {a b : Nat} (ha : a < 2 ^ 31) (hb : b < 2 ^ 31) (h : ¬ nI a < nI b) : b ≤ a := Nat.le_of_not_lt fun q => h ((nI_ltI ha hb).mpr q)
theorem i_le {a b : Nat} (ha : a < 2 ^ 31) (hb : b < 2 ^ 31) (h : nI a ≤ nI b) : a ≤ b := (nI_leI ha hb).mp h
theorem i_nle {a b : Nat} (ha : a < 2 ^ 31) (hb : b < 2 ^ 31) (h : ¬ nI a ≤ nI b) : b < a := Nat.lt_of_not_le fun q => h ((nI_leI ha hb).mpr q)
theorem i_eq {a b : Nat} (ha : a < 2 ^ 31) (hb : b < 2 ^ 31) (h : nI a = nI b) : a = b := (nI_eq ha hb).mp h
theorem i_ne {a b : Nat} (ha : a < 2 ^ 31) (hb : b < 2 ^ 31) (h : ¬ nI a = nI b) : a ≠ b := fun q => h (by rw [q])
theorem i_min {a b : Nat} (ha : a < 2 ^ 31) (hb : b < 2 ^ 31) : (if nI b < nI a then nI b else nI a) = nI (min a b) := by
  split
  · rename_i h
    have := i_lt hb ha h
    rw [show min a b = b by omega]
  · rename_i h
    have := i_nlt hb ha h
    rw [show min a b = a by omega]
theorem i_max {a b : Nat} (ha : a < 2 ^ 31) (hb : b < 2 ^ 31) : (if nI a < nI b then nI b else nI a) = nI (max a b) := by
  split
  · rename_i h
    have := i_lt ha hb h
    rw [show max a b = b by omega]
  · rename_i h
    have := i_nlt ha hb h
    rw [show max a b = a by omega]
/-- how many entries two logs have alike from their beginning -/
def rCS (la lb : Nat) (ta tb : Nat → Nat) (k : Nat) : Prop := k ≤ la ∧ k ≤ lb ∧ (∀ j, j < k → ta j = tb j) ∧ ¬ (k < la ∧ k < lb ∧ ta k = tb k)

set_option maxRecDepth 20000 in
set_option maxHeartbeats 1000000 in
theorem k_isBehind_V (M : aM) (a b la lb : Nat) (ta tb : Nat → Nat) (hn : ndS M a 2) (hm : ndS M b 2) (hl : lgT M a la ta) (hk : lgT M b lb tb) : aK m_N_isBehind 1 0 0 M [.ref a, .ref b] (fun M1 r => M1 = M ∧ r = some (.int (bP (lT la ta < lT lb tb ∨ lT la ta = lT lb tb ∧ la < lb)))) := by
  refine aK.of (by decide) (Nat.le_of_ble_eq_true rfl) ?_
  have ha := hn.1
  have hb0 := hm.1
  have l1 := lT_lt hl
  have l2 := lT_lt hk
  refine j_aload_n d_N_isBehind_0 rfl ?_
  refine j_callU (owner := "ShardGroups$Node") (vs := []) d_N_isBehind_1 (by assumption) (by decide) rfl w221 w222 w3 w226 w224 w223 (Or.inl rfl) y_N_lastTerm (by decide) (by decide) (k_lastTerm_V M a la ta hn hl) rfl (Nat.le_of_ble_eq_true rfl) (by decide) (by decide) (fun M1 r1 hq1 => ?_)
  obtain ⟨rfl, rfl⟩ := hq1
  refine j_istore_n d_N_isBehind_4 (by decide) ?_
  refine j_aload_n d_N_isBehind_5 rfl ?_
  refine j_callU (owner := "ShardGroups$Node") (vs := []) d_N_isBehind_6 (by assumption) (by decide) rfl w221 w222 w3 w226 w224 w223 (Or.inl rfl) y_N_lastTerm (by decide) (by decide) (k_lastTerm_V M1 b lb tb hm hk) rfl (Nat.le_of_ble_eq_true rfl) (by decide) (by decide) (fun M2 r2 hq2 => ?_)
  obtain ⟨rfl, rfl⟩ := hq2
  refine j_istore_n d_N_isBehind_9 (by decide) ?_
  refine j_iload_n d_N_isBehind_10 rfl ?_
  refine j_iload_n d_N_isBehind_11 rfl ?_
  refine j_icmp_lt (tgt := 31) d_N_isBehind_12 (by decide) (fun h12 => ?_) (fun h12 => ?_)
  · have hb : bP (lT la ta < lT lb tb ∨ lT la ta = lT lb tb ∧ la < lb) = 1 := bP_t (Or.inl (i_lt (by omega) (by omega) h12))
    refine j_iconst (v := 1) d_N_isBehind_31 (by decide) ?_
    refine j_goto 36 d_N_isBehind_32 (by decide) ?_
    refine j_ireturn d_N_isBehind_36 rfl rfl ?_ (by decide) (by decide)
    exact ⟨rfl, by rw [hb]⟩
  · refine j_iload_n d_N_isBehind_15 rfl ?_
    refine j_iload_n d_N_isBehind_16 rfl ?_
    refine j_icmp_ne (tgt := 35) d_N_isBehind_17 (by decide) (fun h17 => ?_) (fun h17 => ?_)
    · have hb : bP (lT la ta < lT lb tb ∨ lT la ta = lT lb tb ∧ la < lb) = 0 := bP_f (fun q => q.elim (fun q => h12 (nI_lt q (by omega))) (fun q => h17 (by rw [q.1])))
      refine j_iconst (v := 0) d_N_isBehind_35 (by decide) ?_
      refine j_ireturn d_N_isBehind_36 rfl rfl ?_ (by decide) (by decide)
      exact ⟨rfl, by rw [hb]⟩
    · refine j_aload_n d_N_isBehind_20 rfl ?_
      refine j_geti d_N_isBehind_21 (by assumption) f_N_40_V rfl (by decide) ?_
      refine j_eqi hl.2.1 ?_
      refine j_aload_n d_N_isBehind_24 rfl ?_
      refine j_geti d_N_isBehind_25 (by assumption) f_N_40_V rfl (by decide) ?_
      refine j_eqi hk.2.1 ?_
      refine j_icmp_ge (tgt := 35) d_N_isBehind_28 (by decide) (fun h28 => ?_) (fun h28 => ?_)
      · have hb : bP (lT la ta < lT lb tb ∨ lT la ta = lT lb tb ∧ la < lb) = 0 := bP_f (fun q => q.elim (fun q => h12 (nI_lt q (by omega))) (fun q => absurd (i_le (by have := hk.1; omega) (by have := hl.1; omega) h28) (by omega)))
        refine j_iconst (v := 0) d_N_isBehind_35 (by decide) ?_
        refine j_ireturn d_N_isBehind_36 rfl rfl ?_ (by decide) (by decide)
        exact ⟨rfl, by rw [hb]⟩
      · have hb : bP (lT la ta < lT lb tb ∨ lT la ta = lT lb tb ∧ la < lb) = 1 := bP_t (Or.inr ⟨i_eq (by omega) (by omega) h17, i_nle (by have := hk.1; omega) (by have := hl.1; omega) h28⟩)
        refine j_iconst (v := 1) d_N_isBehind_31 (by decide) ?_
        refine j_goto 36 d_N_isBehind_32 (by decide) ?_
        refine j_ireturn d_N_isBehind_36 rfl rfl ?_ (by decide) (by decide)
        exact ⟨rfl, by rw [hb]⟩
set_option maxRecDepth 20000 in
set_option maxHeartbeats 1000000 in
theorem k_grants_V (M : aM) (a b la lb : Nat) (ta tb : Nat → Nat) (hn : ndS M a 2) (hm : ndS M b 2) (hl : lgT M a la ta) (hk : lgT M b lb tb) (t x : Nat) (ht : mI M b 2 = nI t) (h1 : t < 1000000) (h2 : x < 1000000) : aK m_N_grants 2 0 0 M [.ref b, .ref a, .int (nI x)] (fun M1 r => M1 = (if (mI M b 0 ≠ 0 ∧ t < x ∧ ¬ (lT la ta < lT lb tb ∨ lT la ta = lT lb tb ∧ la < lb)) then sI (sI M b 2 (nI x)) b 1 0 else M) ∧ r = some (.int (bP (mI M b 0 ≠ 0 ∧ t < x ∧ ¬ (lT la ta < lT lb tb ∨ lT la ta = lT lb tb ∧ la < lb))))) := by
  refine aK.of (by decide) (Nat.le_of_ble_eq_true rfl) ?_
  have ha := hn.1
  have hb0 := hm.1
  refine j_aload_n d_N_grants_0 rfl ?_
  refine j_geti d_N_grants_1 (by assumption) f_N_9_V rfl (by decide) ?_
  refine j_if_eq (tgt := 23) d_N_grants_4 (by decide) (fun h4 => ?_) (fun h4 => ?_)
  · have hg : ¬ (mI M b 0 ≠ 0 ∧ t < x ∧ ¬ (lT la ta < lT lb tb ∨ lT la ta = lT lb tb ∧ la < lb)) := fun q => q.1 h4
    refine j_iconst (v := 0) d_N_grants_23 (by decide) ?_
    refine j_ireturn d_N_grants_24 rfl rfl ?_ (by decide) (by decide)
    exact ⟨(if_neg hg).symm, by rw [bP_f hg]⟩
  · refine j_aload_n d_N_grants_7 rfl ?_
    refine j_geti d_N_grants_8 (by assumption) f_N_21_V rfl (by decide) ?_
    refine j_eqi ht ?_
    refine j_iload_n d_N_grants_11 rfl ?_
    refine j_icmp_ge (tgt := 23) d_N_grants_12 (by decide) (fun h12 => ?_) (fun h12 => ?_)
    · have hg : ¬ (mI M b 0 ≠ 0 ∧ t < x ∧ ¬ (lT la ta < lT lb tb ∨ lT la ta = lT lb tb ∧ la < lb)) := fun q => absurd (i_le (by omega) (by omega) h12) (by omega)
      refine j_iconst (v := 0) d_N_grants_23 (by decide) ?_
      refine j_ireturn d_N_grants_24 rfl rfl ?_ (by decide) (by decide)
      exact ⟨(if_neg hg).symm, by rw [bP_f hg]⟩
    · refine j_aload_n d_N_grants_15 rfl ?_
      refine j_aload_n d_N_grants_16 rfl ?_
      refine j_callU (owner := "ShardGroups$Node") (vs := [_]) d_N_grants_17 (by assumption) (by decide) rfl w215 w216 w3 w220 w218 w217 (Or.inl rfl) y_N_isBehind (by decide) (by decide) (k_isBehind_V M a b la lb ta tb hn hm hl hk) rfl (Nat.le_of_ble_eq_true rfl) (by decide) (by decide) (fun M1 r1 hq1 => ?_)
      obtain ⟨rfl, rfl⟩ := hq1
      refine j_if_eq (tgt := 25) d_N_grants_20 (by decide) (fun h20 => ?_) (fun h20 => ?_)
      · have hg : (mI M1 b 0 ≠ 0 ∧ t < x ∧ ¬ (lT la ta < lT lb tb ∨ lT la ta = lT lb tb ∧ la < lb)) := ⟨h4, i_nle (by omega) (by omega) h12, fun q => by rw [bP_t q] at h20; exact absurd h20 (by decide)⟩
        refine j_aload_n d_N_grants_25 rfl ?_
        refine j_iload_n d_N_grants_26 rfl ?_
        refine j_callU (owner := "ShardGroups$Node") (vs := [_]) d_N_grants_27 (by assumption) (by decide) rfl w227 w228 w3 w232 w230 w229 (Or.inl rfl) y_N_takeTerm (by decide) (by decide) (k_takeTerm_V M1 b (nI x) hm.1) rfl (Nat.le_of_ble_eq_true rfl) (by decide) (by decide) (fun M2 r2 hq2 => ?_)
        obtain ⟨rfl, rfl⟩ := hq2
        refine j_iconst (v := 1) d_N_grants_30 (by decide) ?_
        refine j_ireturn d_N_grants_31 rfl rfl ?_ (by decide) (by decide)
        exact ⟨by rw [if_pos hg, if_pos (show mI M1 b 2 < nI x by rw [ht]; exact nI_lt hg.2.1 (by omega))], by rw [bP_t hg]⟩
      · have hg : ¬ (mI M1 b 0 ≠ 0 ∧ t < x ∧ ¬ (lT la ta < lT lb tb ∨ lT la ta = lT lb tb ∧ la < lb)) := fun q => h20 (bP_f q.2.2)
        refine j_iconst (v := 0) d_N_grants_23 (by decide) ?_
        refine j_ireturn d_N_grants_24 rfl rfl ?_ (by decide) (by decide)
        exact ⟨(if_neg hg).symm, by rw [bP_f hg]⟩
set_option maxRecDepth 20000 in
set_option maxHeartbeats 1000000 in
theorem k_hasEntry_V (M : aM) (a la p t : Nat) (ta : Nat → Nat) (hn : ndS M a 2) (hl : lgT M a la ta) (hp : p < 1000000) (ht : t < 1000000) : aK m_N_hasEntry 0 0 0 M [.ref a, .int (nI p), .int (nI t)] (fun M1 r => M1 = M ∧ r = some (.int (bP (p < la ∧ ta p = t)))) := by
  refine aK.of (by decide) (Nat.le_of_ble_eq_true rfl) ?_
  obtain ⟨ha, ha5, hA⟩ := hn
  refine j_iload_n d_N_hasEntry_0 rfl ?_
  refine j_aload_n d_N_hasEntry_1 rfl ?_
  refine j_geti d_N_hasEntry_2 (by assumption) f_N_40_V rfl (by decide) ?_
  refine j_eqi hl.2.1 ?_
  refine j_icmp_ge (tgt := 25) d_N_hasEntry_5 (by decide) (fun h5 => ?_) (fun h5 => ?_)
  · have hb : bP (p < la ∧ ta p = t) = 0 := bP_f (fun q => absurd (i_le (by have := hl.1; omega) (by omega) h5) (by omega))
    refine j_iconst (v := 0) d_N_hasEntry_25 (by decide) ?_
    refine j_ireturn d_N_hasEntry_26 rfl rfl ?_ (by decide) (by decide)
    exact ⟨rfl, by rw [hb]⟩
  · have hpl := i_nle (by have := hl.1; omega) (by omega) h5
    obtain ⟨e, ei, g1, g2, g3, g4, g5, g6⟩ := hl.2.2 p hpl
    refine j_aload_n d_N_hasEntry_8 rfl ?_
    refine j_getR d_N_hasEntry_9 (by assumption) f_N_17_V rfl (by decide) (by assumption) ?_
    refine j_iload_n d_N_hasEntry_12 rfl ?_
    refine j_aaldR d_N_hasEntry_13 (by assumption) (by decide) ts_106 (aIx.n (by have := hl.1; omega) (by decide)) (by assumption) ?_
    refine j_geti d_N_hasEntry_14 (by assumption) (fe_N_43 g3 g4) (re_0 g3 g4) (by omega) ?_
    refine j_eqi g5 ?_
    refine j_iload_n d_N_hasEntry_17 rfl ?_
    refine j_icmp_ne (tgt := 25) d_N_hasEntry_18 (by decide) (fun h18 => ?_) (fun h18 => ?_)
    · have hb : bP (p < la ∧ ta p = t) = 0 := bP_f (fun q => h18 (by rw [q.2]))
      refine j_iconst (v := 0) d_N_hasEntry_25 (by decide) ?_
      refine j_ireturn d_N_hasEntry_26 rfl rfl ?_ (by decide) (by decide)
      exact ⟨rfl, by rw [hb]⟩
    · have hb : bP (p < la ∧ ta p = t) = 1 := bP_t ⟨hpl, i_eq (by omega) (by omega) h18⟩
      refine j_iconst (v := 1) d_N_hasEntry_21 (by decide) ?_
      refine j_goto 26 d_N_hasEntry_22 (by decide) ?_
      refine j_ireturn d_N_hasEntry_26 rfl rfl ?_ (by decide) (by decide)
      exact ⟨rfl, by rw [hb]⟩
set_option maxRecDepth 20000 in
set_option maxHeartbeats 1000000 in
theorem k_write_V (M : aM) (a len e ei : Nat) (hn : ndS M a 2) (hl : mI M a 3 = nI len) (hlen : len ≤ 80) (he : tO M e ei) (h5 : 5 ≤ ei) (h6 : ei ≤ 10) : aK m_N_write 0 0 0 M [.ref a, .ref e] (fun M1 r => if len = 80 then M1 = M ∧ r = some (.int (-3)) else M1 = sI (sR M (a + 1) len (some e)) a 3 (nI (len + 1)) ∧ r = some (.int (nI (len + 1)))) := by
  refine aK.of (by decide) (Nat.le_of_ble_eq_true rfl) ?_
  obtain ⟨ha, ha5, hA⟩ := hn
  have h60 := h6
  refine j_aload_n d_N_write_0 rfl ?_
  refine j_geti d_N_write_1 (by assumption) f_N_40_V rfl (by decide) ?_
  refine j_eqi hl ?_
  refine j_bipush (v := 80) d_N_write_4 (by decide) ?_
  refine j_icmp_ne (tgt := 12) d_N_write_6 (by decide) (fun h6 => ?_) (fun h6 => ?_)
  · have hne : ¬ len = 80 := fun q => h6 (by rw [q]; rfl)
    refine j_aload_n d_N_write_12 rfl ?_
    refine j_getR d_N_write_13 (by assumption) f_N_17_V rfl (by decide) (by assumption) ?_
    refine j_aload_n d_N_write_16 rfl ?_
    refine j_geti d_N_write_17 (by assumption) f_N_40_V rfl (by decide) ?_
    refine j_eqi hl ?_
    refine j_aload_n d_N_write_20 rfl ?_
    refine j_aast d_N_write_21 (by assumption) (by decide) (aIx.n (by omega) (by decide)) (by assumption) (by omega) (ca_any h5 h60) ?_
    refine j_aload_n d_N_write_22 rfl ?_
    refine j_dup d_N_write_23 ?_
    refine j_geti d_N_write_24 (by assumption) f_N_40_V rfl (by decide) ?_
    refine j_iconst (v := 1) d_N_write_27 (by decide) ?_
    refine j_iadd d_N_write_28 ?_
    refine j_eqi (show mI M a 3 + 1 = nI (len + 1) by rw [hl]; exact (nI_succ len).symm) ?_
    refine j_puti d_N_write_29 (by assumption) p_N_40_V rfl (by decide) rfl rfl ?_
    refine j_aload_n d_N_write_32 rfl ?_
    refine j_geti d_N_write_33 (by assumption) f_N_40_V rfl (by decide) ?_
    refine j_eqi (show _ = nI (len + 1) by rw [mm_I_sI, if_pos ⟨rfl, rfl⟩]) ?_
    refine j_ireturn d_N_write_36 rfl rfl ?_ (by decide) (by decide)
    rw [if_neg hne]
    exact ⟨rfl, rfl⟩
  · have hne : len = 80 := i_eq (b := 80) (by omega) (by decide) h6
    refine j_bipush (v := -3) d_N_write_9 (by decide) ?_
    refine j_ireturn d_N_write_11 rfl rfl ?_ (by decide) (by decide)
    rw [if_pos hne]
    exact ⟨rfl, rfl⟩
set_option maxRecDepth 20000 in
set_option maxHeartbeats 1000000 in
theorem k_countSame_V (M : aM) (a b la lb : Nat) (ta tb : Nat → Nat) (hn : ndS M a 2) (hm : ndS M b 2) (hl : lgT M a la ta) (hk : lgT M b lb tb) : aK m_N_countSame 1 0 0 M [.ref a, .ref b] (fun M1 r => M1 = M ∧ ∃ k, rCS la lb ta tb k ∧ r = some (.int (nI k))) := by
  refine aK.of (by decide) (Nat.le_of_ble_eq_true rfl) ?_
  obtain ⟨ha, ha5, hA⟩ := hn
  obtain ⟨hb, hb5, hB⟩ := hm
  obtain ⟨la80, hla, hl⟩ := hl
  obtain ⟨lb80, hlb, hk⟩ := hk
  have loop : ∀ (n i : Nat), i + n = min la lb → (∀ j, j < i → ta j = tb j) → aJ aX0 m_N_countSame 1 0 0 (fun M1 r => M1 = M ∧ ∃ k, rCS la lb ta tb k ∧ r = some (.int (nI k))) 0 0 14 [some (.ref a), some (.ref b), some (.int (nI (min la lb))), some (.int (nI i))] [] M := by
    intro n
    induction n with
    | zero =>
      intro i hi hj
      refine j_iload_n d_N_countSame_14 rfl ?_
      refine j_iload_n d_N_countSame_15 rfl ?_
      refine j_icmp_ge (tgt := 46) d_N_countSame_16 (by decide) (fun h16 => ?_) (fun h16 => False.elim (h16 (by rw [← hi]; exact nI_le (by omega) (by omega))))
      refine j_iload_n d_N_countSame_46 rfl ?_
      refine j_ireturn d_N_countSame_47 rfl rfl ⟨rfl, i, ⟨by omega, by omega, hj, by omega⟩, rfl⟩ (by decide) (by decide)
    | succ n ih =>
      intro i hi hj
      obtain ⟨e, ei, g1, g2, g3, g4, g5, g6⟩ := hl i (by omega)
      obtain ⟨e2, ei2, k1, k2, k3, k4, k5, k6⟩ := hk i (by omega)
      refine j_iload_n d_N_countSame_14 rfl ?_
      refine j_iload_n d_N_countSame_15 rfl ?_
      refine j_icmp_ge (tgt := 46) d_N_countSame_16 (by decide) (fun h16 => False.elim (nI_ge (a := i) (b := min la lb) (by omega) (by omega) h16)) (fun h16 => ?_)
      refine j_aload_n d_N_countSame_19 rfl ?_
      refine j_getR d_N_countSame_20 (by assumption) f_N_17_V rfl (by decide) (by assumption) ?_
      refine j_iload_n d_N_countSame_23 rfl ?_
      refine j_aaldR d_N_countSame_24 (by assumption) (by decide) ts_106 (aIx.n (by omega) (by decide)) (by assumption) ?_
      refine j_geti d_N_countSame_25 (by assumption) (fe_N_43 g3 g4) (re_0 g3 g4) (by omega) ?_
      refine j_eqi g5 ?_
      refine j_aload_n d_N_countSame_28 rfl ?_
      refine j_getR d_N_countSame_29 (by assumption) f_N_17_V rfl (by decide) (by assumption) ?_
      refine j_iload_n d_N_countSame_32 rfl ?_
      refine j_aaldR d_N_countSame_33 (by assumption) (by decide) ts_106 (aIx.n (by omega) (by decide)) (by assumption) ?_
      refine j_geti d_N_countSame_34 (by assumption) (fe_N_43 k3 k4) (re_0 k3 k4) (by omega) ?_
      refine j_eqi k5 ?_
      refine j_icmp_ne (tgt := 46) d_N_countSame_37 (by decide) (fun h37 => ?_) (fun h37 => ?_)
      · have hne := i_ne (by omega) (by omega) h37
        refine j_iload_n d_N_countSame_46 rfl ?_
        refine j_ireturn d_N_countSame_47 rfl rfl ⟨rfl, i, ⟨by omega, by omega, hj, fun q => hne q.2.2⟩, rfl⟩ (by decide) (by decide)
      · have hee := i_eq (by omega) (by omega) h37
        refine j_iinc (nI (i + 1)) d_N_countSame_40 rfl (nI_inc i) (by decide) ?_
        refine j_goto 14 d_N_countSame_43 (by decide) ?_
        -- at 14
        refine ih (i + 1) (by omega) (fun j h => ?_)
        by_cases hji : j = i
        · rw [hji]; exact hee
        · exact hj j (by omega)
  refine j_aload_n d_N_countSame_0 rfl ?_
  refine j_geti d_N_countSame_1 (by assumption) f_N_40_V rfl (by decide) ?_
  refine j_eqi hla ?_
  refine j_aload_n d_N_countSame_4 rfl ?_
  refine j_geti d_N_countSame_5 (by assumption) f_N_40_V rfl (by decide) ?_
  refine j_eqi hlb ?_
  refine j_min d_N_countSame_8 w267 w268 w8 w269 (by decide) (Nat.le_of_ble_eq_true rfl) (by decide) (by decide) ?_
  refine j_eqi (i_min (by omega) (by omega)) ?_
  refine j_istore_n d_N_countSame_11 (by decide) ?_
  refine j_iconst (v := 0) d_N_countSame_12 (by decide) ?_
  refine j_istore_n d_N_countSame_13 (by decide) ?_
  -- at 14
  exact loop (min la lb) 0 (by omega) (fun j h => absurd h (Nat.not_lt_zero j))
set_option maxRecDepth 20000 in
set_option maxHeartbeats 1000000 in
theorem k_isBehind_T (M : aM) (a b la lb : Nat) (ta tb : Nat → Nat) (hn : ndS M a 3) (hm : ndS M b 3) (hl : lgT M a la ta) (hk : lgT M b lb tb) : aK m_N_isBehind 1 0 0 M [.ref a, .ref b] (fun M1 r => M1 = M ∧ r = some (.int (bP (lT la ta < lT lb tb ∨ lT la ta = lT lb tb ∧ la < lb)))) := by
  refine aK.of (by decide) (Nat.le_of_ble_eq_true rfl) ?_
  have ha := hn.1
  have hb0 := hm.1
  have l1 := lT_lt hl
  have l2 := lT_lt hk
  refine j_aload_n d_N_isBehind_0 rfl ?_
  refine j_callU (owner := "ShardGroups$Node") (vs := []) d_N_isBehind_1 (by assumption) (by decide) rfl w221 w222 w3 w226 w225 w223 (Or.inl rfl) y_N_lastTerm (by decide) (by decide) (k_lastTerm_T M a la ta hn hl) rfl (Nat.le_of_ble_eq_true rfl) (by decide) (by decide) (fun M1 r1 hq1 => ?_)
  obtain ⟨rfl, rfl⟩ := hq1
  refine j_istore_n d_N_isBehind_4 (by decide) ?_
  refine j_aload_n d_N_isBehind_5 rfl ?_
  refine j_callU (owner := "ShardGroups$Node") (vs := []) d_N_isBehind_6 (by assumption) (by decide) rfl w221 w222 w3 w226 w225 w223 (Or.inl rfl) y_N_lastTerm (by decide) (by decide) (k_lastTerm_T M1 b lb tb hm hk) rfl (Nat.le_of_ble_eq_true rfl) (by decide) (by decide) (fun M2 r2 hq2 => ?_)
  obtain ⟨rfl, rfl⟩ := hq2
  refine j_istore_n d_N_isBehind_9 (by decide) ?_
  refine j_iload_n d_N_isBehind_10 rfl ?_
  refine j_iload_n d_N_isBehind_11 rfl ?_
  refine j_icmp_lt (tgt := 31) d_N_isBehind_12 (by decide) (fun h12 => ?_) (fun h12 => ?_)
  · have hb : bP (lT la ta < lT lb tb ∨ lT la ta = lT lb tb ∧ la < lb) = 1 := bP_t (Or.inl (i_lt (by omega) (by omega) h12))
    refine j_iconst (v := 1) d_N_isBehind_31 (by decide) ?_
    refine j_goto 36 d_N_isBehind_32 (by decide) ?_
    refine j_ireturn d_N_isBehind_36 rfl rfl ?_ (by decide) (by decide)
    exact ⟨rfl, by rw [hb]⟩
  · refine j_iload_n d_N_isBehind_15 rfl ?_
    refine j_iload_n d_N_isBehind_16 rfl ?_
    refine j_icmp_ne (tgt := 35) d_N_isBehind_17 (by decide) (fun h17 => ?_) (fun h17 => ?_)
    · have hb : bP (lT la ta < lT lb tb ∨ lT la ta = lT lb tb ∧ la < lb) = 0 := bP_f (fun q => q.elim (fun q => h12 (nI_lt q (by omega))) (fun q => h17 (by rw [q.1])))
      refine j_iconst (v := 0) d_N_isBehind_35 (by decide) ?_
      refine j_ireturn d_N_isBehind_36 rfl rfl ?_ (by decide) (by decide)
      exact ⟨rfl, by rw [hb]⟩
    · refine j_aload_n d_N_isBehind_20 rfl ?_
      refine j_geti d_N_isBehind_21 (by assumption) f_N_40_T rfl (by decide) ?_
      refine j_eqi hl.2.1 ?_
      refine j_aload_n d_N_isBehind_24 rfl ?_
      refine j_geti d_N_isBehind_25 (by assumption) f_N_40_T rfl (by decide) ?_
      refine j_eqi hk.2.1 ?_
      refine j_icmp_ge (tgt := 35) d_N_isBehind_28 (by decide) (fun h28 => ?_) (fun h28 => ?_)
      · have hb : bP (lT la ta < lT lb tb ∨ lT la ta = lT lb tb ∧ la < lb) = 0 := bP_f (fun q => q.elim (fun q => h12 (nI_lt q (by omega))) (fun q => absurd (i_le (by have := hk.1; omega) (by have := hl.1; omega) h28) (by omega)))
        refine j_iconst (v := 0) d_N_isBehind_35 (by decide) ?_
        refine j_ireturn d_N_isBehind_36 rfl rfl ?_ (by decide) (by decide)
        exact ⟨rfl, by rw [hb]⟩
      · have hb : bP (lT la ta < lT lb tb ∨ lT la ta = lT lb tb ∧ la < lb) = 1 := bP_t (Or.inr ⟨i_eq (by omega) (by omega) h17, i_nle (by have := hk.1; omega) (by have := hl.1; omega) h28⟩)
        refine j_iconst (v := 1) d_N_isBehind_31 (by decide) ?_
        refine j_goto 36 d_N_isBehind_32 (by decide) ?_
        refine j_ireturn d_N_isBehind_36 rfl rfl ?_ (by decide) (by decide)
        exact ⟨rfl, by rw [hb]⟩
set_option maxRecDepth 20000 in
set_option maxHeartbeats 1000000 in
theorem k_grants_T (M : aM) (a b la lb : Nat) (ta tb : Nat → Nat) (hn : ndS M a 3) (hm : ndS M b 3) (hl : lgT M a la ta) (hk : lgT M b lb tb) (t x : Nat) (ht : mI M b 2 = nI t) (h1 : t < 1000000) (h2 : x < 1000000) : aK m_N_grants 2 0 0 M [.ref b, .ref a, .int (nI x)] (fun M1 r => M1 = (if (mI M b 0 ≠ 0 ∧ t < x ∧ ¬ (lT la ta < lT lb tb ∨ lT la ta = lT lb tb ∧ la < lb)) then sI (sI M b 2 (nI x)) b 1 0 else M) ∧ r = some (.int (bP (mI M b 0 ≠ 0 ∧ t < x ∧ ¬ (lT la ta < lT lb tb ∨ lT la ta = lT lb tb ∧ la < lb))))) := by
  refine aK.of (by decide) (Nat.le_of_ble_eq_true rfl) ?_
  have ha := hn.1
  have hb0 := hm.1
  refine j_aload_n d_N_grants_0 rfl ?_
  refine j_geti d_N_grants_1 (by assumption) f_N_9_T rfl (by decide) ?_
  refine j_if_eq (tgt := 23) d_N_grants_4 (by decide) (fun h4 => ?_) (fun h4 => ?_)
  · have hg : ¬ (mI M b 0 ≠ 0 ∧ t < x ∧ ¬ (lT la ta < lT lb tb ∨ lT la ta = lT lb tb ∧ la < lb)) := fun q => q.1 h4
    refine j_iconst (v := 0) d_N_grants_23 (by decide) ?_
    refine j_ireturn d_N_grants_24 rfl rfl ?_ (by decide) (by decide)
    exact ⟨(if_neg hg).symm, by rw [bP_f hg]⟩
  · refine j_aload_n d_N_grants_7 rfl ?_
    refine j_geti d_N_grants_8 (by assumption) f_N_21_T rfl (by decide) ?_
    refine j_eqi ht ?_
    refine j_iload_n d_N_grants_11 rfl ?_
    refine j_icmp_ge (tgt := 23) d_N_grants_12 (by decide) (fun h12 => ?_) (fun h12 => ?_)
    · have hg : ¬ (mI M b 0 ≠ 0 ∧ t < x ∧ ¬ (lT la ta < lT lb tb ∨ lT la ta = lT lb tb ∧ la < lb)) := fun q => absurd (i_le (by omega) (by omega) h12) (by omega)
      refine j_iconst (v := 0) d_N_grants_23 (by decide) ?_
      refine j_ireturn d_N_grants_24 rfl rfl ?_ (by decide) (by decide)
      exact ⟨(if_neg hg).symm, by rw [bP_f hg]⟩
    · refine j_aload_n d_N_grants_15 rfl ?_
      refine j_aload_n d_N_grants_16 rfl ?_
      refine j_callU (owner := "ShardGroups$Node") (vs := [_]) d_N_grants_17 (by assumption) (by decide) rfl w215 w216 w3 w220 w219 w217 (Or.inl rfl) y_N_isBehind (by decide) (by decide) (k_isBehind_T M a b la lb ta tb hn hm hl hk) rfl (Nat.le_of_ble_eq_true rfl) (by decide) (by decide) (fun M1 r1 hq1 => ?_)
      obtain ⟨rfl, rfl⟩ := hq1
      refine j_if_eq (tgt := 25) d_N_grants_20 (by decide) (fun h20 => ?_) (fun h20 => ?_)
      · have hg : (mI M1 b 0 ≠ 0 ∧ t < x ∧ ¬ (lT la ta < lT lb tb ∨ lT la ta = lT lb tb ∧ la < lb)) := ⟨h4, i_nle (by omega) (by omega) h12, fun q => by rw [bP_t q] at h20; exact absurd h20 (by decide)⟩
        refine j_aload_n d_N_grants_25 rfl ?_
        refine j_iload_n d_N_grants_26 rfl ?_
        refine j_callU (owner := "ShardGroups$Node") (vs := [_]) d_N_grants_27 (by assumption) (by decide) rfl w227 w228 w3 w232 w231 w229 (Or.inl rfl) y_N_takeTerm (by decide) (by decide) (k_takeTerm_T M1 b (nI x) hm.1) rfl (Nat.le_of_ble_eq_true rfl) (by decide) (by decide) (fun M2 r2 hq2 => ?_)
        obtain ⟨rfl, rfl⟩ := hq2
        refine j_iconst (v := 1) d_N_grants_30 (by decide) ?_
        refine j_ireturn d_N_grants_31 rfl rfl ?_ (by decide) (by decide)
        exact ⟨by rw [if_pos hg, if_pos (show mI M1 b 2 < nI x by rw [ht]; exact nI_lt hg.2.1 (by omega))], by rw [bP_t hg]⟩
      · have hg : ¬ (mI M1 b 0 ≠ 0 ∧ t < x ∧ ¬ (lT la ta < lT lb tb ∨ lT la ta = lT lb tb ∧ la < lb)) := fun q => h20 (bP_f q.2.2)
        refine j_iconst (v := 0) d_N_grants_23 (by decide) ?_
        refine j_ireturn d_N_grants_24 rfl rfl ?_ (by decide) (by decide)
        exact ⟨(if_neg hg).symm, by rw [bP_f hg]⟩
set_option maxRecDepth 20000 in
set_option maxHeartbeats 1000000 in
theorem k_hasEntry_T (M : aM) (a la p t : Nat) (ta : Nat → Nat) (hn : ndS M a 3) (hl : lgT M a la ta) (hp : p < 1000000) (ht : t < 1000000) : aK m_N_hasEntry 0 0 0 M [.ref a, .int (nI p), .int (nI t)] (fun M1 r => M1 = M ∧ r = some (.int (bP (p < la ∧ ta p = t)))) := by
  refine aK.of (by decide) (Nat.le_of_ble_eq_true rfl) ?_
  obtain ⟨ha, ha5, hA⟩ := hn
  refine j_iload_n d_N_hasEntry_0 rfl ?_
  refine j_aload_n d_N_hasEntry_1 rfl ?_
  refine j_geti d_N_hasEntry_2 (by assumption) f_N_40_T rfl (by decide) ?_
  refine j_eqi hl.2.1 ?_
  refine j_icmp_ge (tgt := 25) d_N_hasEntry_5 (by decide) (fun h5 => ?_) (fun h5 => ?_)
  · have hb : bP (p < la ∧ ta p = t) = 0 := bP_f (fun q => absurd (i_le (by have := hl.1; omega) (by omega) h5) (by omega))
    refine j_iconst (v := 0) d_N_hasEntry_25 (by decide) ?_
    refine j_ireturn d_N_hasEntry_26 rfl rfl ?_ (by decide) (by decide)
    exact ⟨rfl, by rw [hb]⟩
  · have hpl := i_nle (by have := hl.1; omega) (by omega) h5
    obtain ⟨e, ei, g1, g2, g3, g4, g5, g6⟩ := hl.2.2 p hpl
    refine j_aload_n d_N_hasEntry_8 rfl ?_
    refine j_getR d_N_hasEntry_9 (by assumption) f_N_17_T rfl (by decide) (by assumption) ?_
    refine j_iload_n d_N_hasEntry_12 rfl ?_
    refine j_aaldR d_N_hasEntry_13 (by assumption) (by decide) ts_106 (aIx.n (by have := hl.1; omega) (by decide)) (by assumption) ?_
    refine j_geti d_N_hasEntry_14 (by assumption) (fe_N_43 g3 g4) (re_0 g3 g4) (by omega) ?_
    refine j_eqi g5 ?_
    refine j_iload_n d_N_hasEntry_17 rfl ?_
    refine j_icmp_ne (tgt := 25) d_N_hasEntry_18 (by decide) (fun h18 => ?_) (fun h18 => ?_)
    · have hb : bP (p < la ∧ ta p = t) = 0 := bP_f (fun q => h18 (by rw [q.2]))
      refine j_iconst (v := 0) d_N_hasEntry_25 (by decide) ?_
      refine j_ireturn d_N_hasEntry_26 rfl rfl ?_ (by decide) (by decide)
      exact ⟨rfl, by rw [hb]⟩
    · have hb : bP (p < la ∧ ta p = t) = 1 := bP_t ⟨hpl, i_eq (by omega) (by omega) h18⟩
      refine j_iconst (v := 1) d_N_hasEntry_21 (by decide) ?_
      refine j_goto 26 d_N_hasEntry_22 (by decide) ?_
      refine j_ireturn d_N_hasEntry_26 rfl rfl ?_ (by decide) (by decide)
      exact ⟨rfl, by rw [hb]⟩
set_option maxRecDepth 20000 in
set_option maxHeartbeats 1000000 in
theorem k_write_T (M : aM) (a len e ei : Nat) (hn : ndS M a 3) (hl : mI M a 3 = nI len) (hlen : len ≤ 80) (he : tO M e ei) (h5 : 5 ≤ ei) (h6 : ei ≤ 10) : aK m_N_write 0 0 0 M [.ref a, .ref e] (fun M1 r => if len = 80 then M1 = M ∧ r = some (.int (-3)) else M1 = sI (sR M (a + 1) len (some e)) a 3 (nI (len + 1)) ∧ r = some (.int (nI (len + 1)))) := by
  refine aK.of (by decide) (Nat.le_of_ble_eq_true rfl) ?_
  obtain ⟨ha, ha5, hA⟩ := hn
  have h60 := h6
  refine j_aload_n d_N_write_0 rfl ?_
  refine j_geti d_N_write_1 (by assumption) f_N_40_T rfl (by decide) ?_
  refine j_eqi hl ?_
  refine j_bipush (v := 80) d_N_write_4 (by decide) ?_
  refine j_icmp_ne (tgt := 12) d_N_write_6 (by decide) (fun h6 => ?_) (fun h6 => ?_)
  · have hne : ¬ len = 80 := fun q => h6 (by rw [q]; rfl)
    refine j_aload_n d_N_write_12 rfl ?_
    refine j_getR d_N_write_13 (by assumption) f_N_17_T rfl (by decide) (by assumption) ?_
    refine j_aload_n d_N_write_16 rfl ?_
    refine j_geti d_N_write_17 (by assumption) f_N_40_T rfl (by decide) ?_
    refine j_eqi hl ?_
    refine j_aload_n d_N_write_20 rfl ?_
    refine j_aast d_N_write_21 (by assumption) (by decide) (aIx.n (by omega) (by decide)) (by assumption) (by omega) (ca_any h5 h60) ?_
    refine j_aload_n d_N_write_22 rfl ?_
    refine j_dup d_N_write_23 ?_
    refine j_geti d_N_write_24 (by assumption) f_N_40_T rfl (by decide) ?_
    refine j_iconst (v := 1) d_N_write_27 (by decide) ?_
    refine j_iadd d_N_write_28 ?_
    refine j_eqi (show mI M a 3 + 1 = nI (len + 1) by rw [hl]; exact (nI_succ len).symm) ?_
    refine j_puti d_N_write_29 (by assumption) p_N_40_T rfl (by decide) rfl rfl ?_
    refine j_aload_n d_N_write_32 rfl ?_
    refine j_geti d_N_write_33 (by assumption) f_N_40_T rfl (by decide) ?_
    refine j_eqi (show _ = nI (len + 1) by rw [mm_I_sI, if_pos ⟨rfl, rfl⟩]) ?_
    refine j_ireturn d_N_write_36 rfl rfl ?_ (by decide) (by decide)
    rw [if_neg hne]
    exact ⟨rfl, rfl⟩
  · have hne : len = 80 := i_eq (b := 80) (by omega) (by decide) h6
    refine j_bipush (v := -3) d_N_write_9 (by decide) ?_
    refine j_ireturn d_N_write_11 rfl rfl ?_ (by decide) (by decide)
    rw [if_pos hne]
    exact ⟨rfl, rfl⟩
set_option maxRecDepth 20000 in
set_option maxHeartbeats 1000000 in
theorem k_countSame_T (M : aM) (a b la lb : Nat) (ta tb : Nat → Nat) (hn : ndS M a 3) (hm : ndS M b 3) (hl : lgT M a la ta) (hk : lgT M b lb tb) : aK m_N_countSame 1 0 0 M [.ref a, .ref b] (fun M1 r => M1 = M ∧ ∃ k, rCS la lb ta tb k ∧ r = some (.int (nI k))) := by
  refine aK.of (by decide) (Nat.le_of_ble_eq_true rfl) ?_
  obtain ⟨ha, ha5, hA⟩ := hn
  obtain ⟨hb, hb5, hB⟩ := hm
  obtain ⟨la80, hla, hl⟩ := hl
  obtain ⟨lb80, hlb, hk⟩ := hk
  have loop : ∀ (n i : Nat), i + n = min la lb → (∀ j, j < i → ta j = tb j) → aJ aX0 m_N_countSame 1 0 0 (fun M1 r => M1 = M ∧ ∃ k, rCS la lb ta tb k ∧ r = some (.int (nI k))) 0 0 14 [some (.ref a), some (.ref b), some (.int (nI (min la lb))), some (.int (nI i))] [] M := by
    intro n
    induction n with
    | zero =>
      intro i hi hj
      refine j_iload_n d_N_countSame_14 rfl ?_
      refine j_iload_n d_N_countSame_15 rfl ?_
      refine j_icmp_ge (tgt := 46) d_N_countSame_16 (by decide) (fun h16 => ?_) (fun h16 => False.elim (h16 (by rw [← hi]; exact nI_le (by omega) (by omega))))
      refine j_iload_n d_N_countSame_46 rfl ?_
      refine j_ireturn d_N_countSame_47 rfl rfl ⟨rfl, i, ⟨by omega, by omega, hj, by omega⟩, rfl⟩ (by decide) (by decide)
    | succ n ih =>
      intro i hi hj
      obtain ⟨e, ei, g1, g2, g3, g4, g5, g6⟩ := hl i (by omega)
      obtain ⟨e2, ei2, k1, k2, k3, k4, k5, k6⟩ := hk i (by omega)
      refine j_iload_n d_N_countSame_14 rfl ?_
      refine j_iload_n d_N_countSame_15 rfl ?_
      refine j_icmp_ge (tgt := 46) d_N_countSame_16 (by decide) (fun h16 => False.elim (nI_ge (a := i) (b := min la lb) (by omega) (by omega) h16)) (fun h16 => ?_)
      refine j_aload_n d_N_countSame_19 rfl ?_
      refine j_getR d_N_countSame_20 (by assumption) f_N_17_T rfl (by decide) (by assumption) ?_
      refine j_iload_n d_N_countSame_23 rfl ?_
      refine j_aaldR d_N_countSame_24 (by assumption) (by decide) ts_106 (aIx.n (by omega) (by decide)) (by assumption) ?_
      refine j_geti d_N_countSame_25 (by assumption) (fe_N_43 g3 g4) (re_0 g3 g4) (by omega) ?_
      refine j_eqi g5 ?_
      refine j_aload_n d_N_countSame_28 rfl ?_
      refine j_getR d_N_countSame_29 (by assumption) f_N_17_T rfl (by decide) (by assumption) ?_
      refine j_iload_n d_N_countSame_32 rfl ?_
      refine j_aaldR d_N_countSame_33 (by assumption) (by decide) ts_106 (aIx.n (by omega) (by decide)) (by assumption) ?_
      refine j_geti d_N_countSame_34 (by assumption) (fe_N_43 k3 k4) (re_0 k3 k4) (by omega) ?_
      refine j_eqi k5 ?_
      refine j_icmp_ne (tgt := 46) d_N_countSame_37 (by decide) (fun h37 => ?_) (fun h37 => ?_)
      · have hne := i_ne (by omega) (by omega) h37
        refine j_iload_n d_N_countSame_46 rfl ?_
        refine j_ireturn d_N_countSame_47 rfl rfl ⟨rfl, i, ⟨by omega, by omega, hj, fun q => hne q.2.2⟩, rfl⟩ (by decide) (by decide)
      · have hee := i_eq (by omega) (by omega) h37
        refine j_iinc (nI (i + 1)) d_N_countSame_40 rfl (nI_inc i) (by decide) ?_
        refine j_goto 14 d_N_countSame_43 (by decide) ?_
        -- at 14
        refine ih (i + 1) (by omega) (fun j h => ?_)
        by_cases hji : j = i
        · rw [hji]; exact hee
        · exact hj j (by omega)
  refine j_aload_n d_N_countSame_0 rfl ?_
  refine j_geti d_N_countSame_1 (by assumption) f_N_40_T rfl (by decide) ?_
  refine j_eqi hla ?_
  refine j_aload_n d_N_countSame_4 rfl ?_
  refine j_geti d_N_countSame_5 (by assumption) f_N_40_T rfl (by decide) ?_
  refine j_eqi hlb ?_
  refine j_min d_N_countSame_8 w267 w268 w8 w269 (by decide) (Nat.le_of_ble_eq_true rfl) (by decide) (by decide) ?_
  refine j_eqi (i_min (by omega) (by omega)) ?_
  refine j_istore_n d_N_countSame_11 (by decide) ?_
  refine j_iconst (v := 0) d_N_countSame_12 (by decide) ?_
  refine j_istore_n d_N_countSame_13 (by decide) ?_
  -- at 14
  exact loop (min la lb) 0 (by omega) (fun j h => absurd h (Nat.not_lt_zero j))
end
section
/-! how the class's cells hold the state -/
def nd (n : Nat) : Nat := if n < 3 then 8 + 3 * n else 17 + 35 * (n - 3)
def nc (n : Nat) : Nat := if n < 3 then 2 else 3
/-- cells that are never changed again: the first configuration's, and what calls make -/
def im (a : Nat) : Prop := (4 ≤ a ∧ a < 8) ∨ 345 ≤ a
def cfO (M : aM) (q : Nat) (own : Nat → Nat) : Prop := im q ∧ tO M q 1 ∧ ∃ o, im o ∧ mR M q 1 = some o ∧ tA M o 100 8 ∧ ∀ s, s < 8 → mI M o s = nI (own s)
def cfR (M : aM) (q : Nat) (c : aCf) : Prop := im q ∧ tO M q 1 ∧ ∃ m o w, im m ∧ im o ∧ im w ∧ mR M q 0 = some m ∧ mR M q 1 = some o ∧ mR M q 2 = some w ∧ tA M m 101 4 ∧ tA M o 100 8 ∧ tA M w 100 4 ∧ (∀ g, g < 4 → mI M m g = bI (c.1 g)) ∧ (∀ s, s < 8 → mI M o s = nI (c.2 s)) ∧ ∀ g, g < 4 → mI M w g = nI (cn c.2 g 8)
theorem cfR.o {M : aM} {q : Nat} {c : aCf} (h : cfR M q c) : cfO M q c.2 := by
  obtain ⟨h1, h2, m, o, w, h3, h4, h5, h6, h7, h8, h9, ha, hb, hc, hd, he⟩ := h
  exact ⟨h1, h2, o, h4, h7, ha, hd⟩
/-- the cells of a shard at h, with its rows behind it -/
def shT (M : aM) (h : Nat) : Prop := tO M h 4 ∧ mR M h 1 = some (h + 1) ∧ mR M h 2 = some (h + 2) ∧ mR M h 3 = some (h + 3) ∧ tA M (h + 1) 100 2 ∧ tA M (h + 2) 100 3 ∧ tA M (h + 3) 100 3
def shV (M : aM) (h : Nat) (v : Nat → Nat) : Prop := (∀ i, i < 2 → mI M (h + 1) i = nI (v i)) ∧ (∀ i, i < 3 → mI M (h + 2) i = nI (v (2 + i))) ∧ ∀ i, i < 3 → mI M (h + 3) i = nI (v (5 + i))
/-- an entry -/
def eR (M : aM) (e : Nat) (E : Nat → Nat) : Prop := 345 ≤ e ∧ mI M e 0 = nI (E 0) ∧
  ((E 1 = 0 ∧ tO M e 5) ∨
   ((1 ≤ E 1 ∧ E 1 ≤ 3) ∧ tO M e 6 ∧ mI M e 1 = nI (E 1 - 1) ∧ mI M e 2 = nI (E 2) ∧ (E 1 = 3 → mI M e 3 = nI (E 3))) ∨
   (E 1 = 4 ∧ tO M e 7 ∧ mI M e 1 = nI (E 2) ∧ ∃ q, mR M e 2 = some q ∧ cfO M q (fun s => E (7 + s))) ∨
   (E 1 = 5 ∧ tO M e 8 ∧ mI M e 1 = nI (E 2) ∧ mI M e 2 = nI (E 3) ∧ mI M e 3 = nI (E 4) ∧ mI M e 4 = nI (E 5) ∧ mI M e 5 = nI (E 6)) ∨
   (E 1 = 6 ∧ tO M e 9 ∧ mI M e 1 = nI (E 2) ∧ mI M e 2 = nI (E 3) ∧ ∃ h, 345 ≤ h ∧ mR M e 3 = some h ∧ shT M h ∧ shV M h (fun i => E (7 + i))) ∨
   (E 1 = 7 ∧ tO M e 10 ∧ mI M e 1 = nI (E 2) ∧ mI M e 2 = nI (E 3)))
theorem eR.cls {M : aM} {e : Nat} {E : Nat → Nat} (h : eR M e E) : ∃ ci, tO M e ci ∧ 5 ≤ ci ∧ ci ≤ 10 := by
  obtain ⟨-, -, h | h | h | h | h | h⟩ := h
  · exact ⟨5, h.2, by decide, by decide⟩
  · exact ⟨6, h.2.1, by decide, by decide⟩
  · exact ⟨7, h.2.1, by decide, by decide⟩
  · exact ⟨8, h.2.1, by decide, by decide⟩
  · exact ⟨9, h.2.1, by decide, by decide⟩
  · exact ⟨10, h.2.1, by decide, by decide⟩
/-- what was made once stays -/
def stb (M M1 : aM) : Prop := mSz M ≤ mSz M1 ∧ ∀ a, im a → a < mSz M → sm M M1 a
theorem stb.rf (M : aM) : stb M M := ⟨Nat.le_refl _, fun a _ _ => sm.rf M a⟩
theorem stb.tr {M M1 M2 : aM} (h : stb M M1) (g : stb M1 M2) : stb M M2 := ⟨Nat.le_trans h.1 g.1, fun a h1 h2 => (h.2 a h1 h2).tr (g.2 a h1 (Nat.lt_of_lt_of_le h2 h.1))⟩
theorem stb.sI {M M1 : aM} {o k : Nat} {x : Int32} (h : stb M M1) (hn : ¬ im o ∨ mSz M ≤ o) : stb M (sI M1 o k x) := ⟨h.1, fun a h1 h2 => (h.2 a h1 h2).sI (fun e => by subst e; rcases hn with q | q; exact q h1; omega)⟩
theorem stb.sR {M M1 : aM} {o k : Nat} {x : Option Nat} (h : stb M M1) (hn : ¬ im o ∨ mSz M ≤ o) : stb M (sR M1 o k x) := ⟨h.1, fun a h1 h2 => (h.2 a h1 h2).sR (fun e => by subst e; rcases hn with q | q; exact q h1; omega)⟩
theorem stb.sC {M M1 : aM} {o sp q dp n : Nat} (h : stb M M1) (hn : ¬ im q ∨ mSz M ≤ q) : stb M (sC M1 o sp q dp n) := ⟨h.1, fun a h1 h2 => (h.2 a h1 h2).sC (fun e => by subst e; rcases hn with z | z; exact z h1; omega)⟩
theorem stb.mN {M M1 : aM} {kd ln : Nat} (h : stb M M1) : stb M (mN M1 kd ln) := ⟨Nat.le_succ_of_le h.1, fun a h1 h2 => (h.2 a h1 h2).mN (Nat.ne_of_lt (Nat.lt_of_lt_of_le h2 h.1))⟩
theorem cfO.st {M M1 : aM} {q : Nat} {own : Nat → Nat} (s : stb M M1) (h : cfO M q own) : cfO M1 q own := by
  obtain ⟨h1, h2, o, h4, h7, ha, hd⟩ := h
  have s1 := s.2 q h1 h2.1
  have s2 := s.2 o h4 ha.1
  exact ⟨h1, s1.tO s.1 h2, o, h4, s1.R h7, s2.tA s.1 ha, fun i hi => s2.I (hd i hi)⟩
theorem cfR.st {M M1 : aM} {q : Nat} {c : aCf} (s : stb M M1) (h : cfR M q c) : cfR M1 q c := by
  obtain ⟨h1, h2, m, o, w, h3, h4, h5, h6, h7, h8, h9, ha, hb, hc, hd, he⟩ := h
  have s1 := s.2 q h1 h2.1
  have s2 := s.2 m h3 h9.1
  have s3 := s.2 o h4 ha.1
  have s4 := s.2 w h5 hb.1
  exact ⟨h1, s1.tO s.1 h2, m, o, w, h3, h4, h5, s1.R h6, s1.R h7, s1.R h8, s2.tA s.1 h9, s3.tA s.1 ha, s4.tA s.1 hb, fun i hi => s2.I (hc i hi), fun i hi => s3.I (hd i hi), fun i hi => s4.I (he i hi)⟩
theorem shT.st {M M1 : aM} {h : Nat} (s : stb M M1) (hh : 345 ≤ h) (t : shT M h) : shT M1 h := by
  obtain ⟨t1, t2, t3, t4, t5, t6, t7⟩ := t
  have s0 := s.2 h (Or.inr hh) t1.1
  have s1 := s.2 (h + 1) (Or.inr (by omega)) t5.1
  have s2 := s.2 (h + 2) (Or.inr (by omega)) t6.1
  have s3 := s.2 (h + 3) (Or.inr (by omega)) t7.1
  exact ⟨s0.tO s.1 t1, s0.R t2, s0.R t3, s0.R t4, s1.tA s.1 t5, s2.tA s.1 t6, s3.tA s.1 t7⟩
theorem shV.st {M M1 : aM} {h : Nat} {v : Nat → Nat} (s : stb M M1) (hh : 345 ≤ h) (t : shT M h) (g : shV M h v) : shV M1 h v := by
  obtain ⟨t1, t2, t3, t4, t5, t6, t7⟩ := t
  have s1 := s.2 (h + 1) (Or.inr (by omega)) t5.1
  have s2 := s.2 (h + 2) (Or.inr (by omega)) t6.1
  have s3 := s.2 (h + 3) (Or.inr (by omega)) t7.1
  exact ⟨fun i hi => s1.I (g.1 i hi), fun i hi => s2.I (g.2.1 i hi), fun i hi => s3.I (g.2.2 i hi)⟩
theorem eR.st {M M1 : aM} {e : Nat} {E : Nat → Nat} (s : stb M M1) (h : eR M e E) : eR M1 e E := by
  obtain ⟨ci, hci, -, -⟩ := h.cls
  obtain ⟨h0, ht, h⟩ := h
  have s0 := s.2 e (Or.inr h0) hci.1
  refine ⟨h0, s0.I ht, ?_⟩
  rcases h with ⟨h1, h2⟩ | ⟨h1, h2, h3, h4, h5⟩ | ⟨h1, h2, h3, q, h4, h5⟩ | ⟨h1, h2, h3, h4, h5, h6, h7⟩ | ⟨h1, h2, h3, h4, q, h5, h6, h7, h8⟩ | ⟨h1, h2, h3, h4⟩
  · exact Or.inl ⟨h1, s0.tO s.1 h2⟩
  · exact Or.inr (Or.inl ⟨h1, s0.tO s.1 h2, s0.I h3, s0.I h4, fun q => s0.I (h5 q)⟩)
  · exact Or.inr (Or.inr (Or.inl ⟨h1, s0.tO s.1 h2, s0.I h3, q, s0.R h4, h5.st s⟩))
  · exact Or.inr (Or.inr (Or.inr (Or.inl ⟨h1, s0.tO s.1 h2, s0.I h3, s0.I h4, s0.I h5, s0.I h6, s0.I h7⟩)))
  · exact Or.inr (Or.inr (Or.inr (Or.inr (Or.inl ⟨h1, s0.tO s.1 h2, s0.I h3, s0.I h4, q, h5, s0.R h6, h7.st s h5, h8.st s h5 h7⟩))))
  · exact Or.inr (Or.inr (Or.inr (Or.inr (Or.inr ⟨h1, s0.tO s.1 h2, s0.I h3, s0.I h4⟩))))
/-- the shape: what never changes of the class's cells -/
def cSh (M : aM) : Prop := 345 ≤ mSz M ∧ tO M 0 0 ∧ mR M 0 0 = some 1 ∧ mR M 0 1 = some 2 ∧ mR M 0 2 = some 3 ∧ tA M 1 102 12 ∧ tA M 2 103 3 ∧ tA M 3 104 9 ∧
  (∀ n, n < 12 → mR M 1 n = some (nd n) ∧ ndS M (nd n) (nc n)) ∧
  (∀ n, n < 3 → mR M 2 n = some (nd n) ∧ mR M (nd n) 6 = some (nd n + 2) ∧ tA M (nd n + 2) 105 16) ∧
  (∀ n, n < 9 → mR M 3 n = some (nd (3 + n))) ∧
  ∀ n, 3 ≤ n → n < 12 → mI M (nd n) 6 = nI (n / 3) ∧ mR M (nd n) 9 = some (nd n + 2) ∧ tA M (nd n + 2) 107 8 ∧ ∀ s, s < 8 → mR M (nd n + 2) s = some (nd n + 3 + 4 * s) ∧ shT M (nd n + 3 + 4 * s)
def lgR (M : aM) (n : Nat) (S : aS) : Prop := mI M (nd n) 3 = nI (sLn S n) ∧ ∀ k, k < sLn S n → ∃ e, mR M (nd n + 1) k = some e ∧ eR M e (sLg S n k)
def svR (M : aM) (n : Nat) (V : aSv) : Prop := mI M (nd n) 7 = nI (V.1 - 1) ∧ ∀ c, c < V.1 → ∃ q, mR M (nd n + 2) c = some q ∧ cfR M q (V.2 c)
def gpR (M : aM) (n : Nat) (G : aGp) : Prop := mI M (nd n) 7 = nI G.1 ∧ (∃ q, mR M (nd n) 8 = some q ∧ cfO M q G.2.1) ∧ ∀ s, s < 8 → mI M (nd n + 3 + 4 * s) 0 = nI (G.2.2.1 s) ∧ (G.2.2.1 s = 1 ∨ G.2.2.1 s = 3 → shV M (nd n + 3 + 4 * s) (G.2.2.2 s))
def ndR (M : aM) (n : Nat) (S : aS) : Prop := mI M (nd n) 0 = bI (sUp S n) ∧ mI M (nd n) 1 = bI (sLd S n) ∧ mI M (nd n) 2 = nI (sT S n) ∧ mI M (nd n) 4 = nI (sKn S n) ∧ lgR M n S ∧ (n < 3 → svR M n (sSv S n)) ∧ (3 ≤ n → gpR M n (sGp S n))
def cR (M : aM) (S : aS) : Prop := cSh M ∧ ∀ n, n < 12 → ndR M n S
end
section
theorem nd_lo (n : Nat) : 8 ≤ nd n := by unfold nd; split <;> omega
theorem nd_hi {n : Nat} (h : n < 12) : nd n + 3 ≤ 332 := by unfold nd; split <;> omega
theorem nd_hi3 {n : Nat} (h : n < 12) (h3 : 3 ≤ n) : nd n + 35 ≤ 332 := by unfold nd; rw [if_neg (by omega)]; omega
def wd (n : Nat) : Nat := if n < 3 then 3 else 35
theorem nd_apart {m n i j : Nat} (hm : m < 12) (hn : n < 12) (h : m ≠ n) (hi : i < wd m) (hj : j < wd n) : nd m + i ≠ nd n + j := by
  unfold wd at hi hj
  unfold nd
  split at hi <;> split at hj <;> rename_i a b
  · rw [if_pos a, if_pos b]; omega
  · rw [if_pos a, if_neg b]; omega
  · rw [if_neg a, if_pos b]; omega
  · rw [if_neg a, if_neg b]; omega
theorem wd_3 (n : Nat) : 3 ≤ wd n := by unfold wd; split <;> omega
theorem wd_35 {n : Nat} (h : 3 ≤ n) : wd n = 35 := by unfold wd; rw [if_neg (by omega)]
theorem nd_im {n i : Nat} (hn : n < 12) (hi : i < wd n) : ¬ im (nd n + i) := by
  have h1 := nd_lo n
  have h2 : nd n + wd n ≤ 332 := by
    unfold nd wd; split <;> omega
  unfold im
  omega
theorem nd_in {n i : Nat} (hn : n < 12) (hi : i < wd n) : 8 ≤ nd n + i ∧ nd n + i < 332 := by
  have h1 := nd_lo n
  have h2 : nd n + wd n ≤ 332 := by
    unfold nd wd; split <;> omega
  omega
/-- what the shape speaks of -/
def fx (a k : Nat) : Prop := a ≤ 3 ∨ (∃ n, n < 12 ∧ a = nd n ∧ k ≠ 8) ∨ (∃ n, 3 ≤ n ∧ n < 12 ∧ a = nd n + 2) ∨ ∃ n s, 3 ≤ n ∧ n < 12 ∧ s < 8 ∧ a = nd n + 3 + 4 * s
theorem ndS_sR {M : aM} {a ci o k : Nat} {x : Option Nat} (h : ndS M a ci) (hn : ¬ (o = a ∧ k = 5)) : ndS (sR M o k x) a ci := ⟨h.1, by rw [mm_R_sR, if_neg (fun q => hn ⟨q.1.symm, q.2.symm⟩)]; exact h.2.1, h.2.2⟩
theorem cSh_sI {M : aM} {o k : Nat} {x : Int32} (h : cSh M) (hk : k ≠ 6 ∨ ∀ n, n < 12 → o ≠ nd n) : cSh (sI M o k x) := by
  obtain ⟨h0, h1, h2, h3, h4, h5, h6, h7, h8, h9, ha, hb⟩ := h
  refine ⟨h0, h1, h2, h3, h4, h5, h6, h7, h8, h9, ha, fun n g1 g2 => ?_⟩
  obtain ⟨b1, b2⟩ := hb n g1 g2
  refine ⟨?_, b2⟩
  rw [mm_I_sI, if_neg]
  · exact b1
  · rintro ⟨e1, e2⟩
    rcases hk with q | q
    · exact q e2.symm
    · exact q n g2 e1.symm
theorem cSh_sC {M : aM} {o sp q dp n : Nat} (h : cSh M) (hk : ∀ n, n < 12 → q ≠ nd n) : cSh (sC M o sp q dp n) := by
  obtain ⟨h0, h1, h2, h3, h4, h5, h6, h7, h8, h9, ha, hb⟩ := h
  refine ⟨h0, h1, h2, h3, h4, h5, h6, h7, h8, h9, ha, fun n g1 g2 => ?_⟩
  obtain ⟨b1, b2⟩ := hb n g1 g2
  refine ⟨?_, b2⟩
  rw [mm_I_sC, if_neg]
  · exact b1
  · rintro ⟨e1, -⟩
    exact hk n g2 e1.symm
theorem cSh_sR {M : aM} {o k : Nat} {x : Option Nat} (h : cSh M) (hk : ¬ fx o k) : cSh (sR M o k x) := by
  obtain ⟨h0, h1, h2, h3, h4, h5, h6, h7, h8, h9, ha, hb⟩ := h
  have F : ∀ a j, fx a j → mR (sR M o k x) a j = mR M a j := by
    intro a j q
    rw [mm_R_sR, if_neg]
    rintro ⟨e1, e2⟩
    subst e1; subst e2
    exact hk q
  refine ⟨h0, h1, ?_, ?_, ?_, h5, h6, h7, fun n hn => ?_, fun n hn => ?_, fun n hn => ?_, fun n g1 g2 => ?_⟩
  · rw [F 0 0 (Or.inl (by omega))]; exact h2
  · rw [F 0 1 (Or.inl (by omega))]; exact h3
  · rw [F 0 2 (Or.inl (by omega))]; exact h4
  · obtain ⟨b1, b2, b3, b4⟩ := h8 n hn
    refine ⟨?_, b2, ?_, b4⟩
    · rw [F 1 n (Or.inl (by omega))]; exact b1
    · rw [F (nd n) 5 (Or.inr (Or.inl ⟨n, hn, rfl, by decide⟩))]; exact b3
  · obtain ⟨b1, b2, b3⟩ := h9 n hn
    refine ⟨?_, ?_, b3⟩
    · rw [F 2 n (Or.inl (by omega))]; exact b1
    · rw [F (nd n) 6 (Or.inr (Or.inl ⟨n, by omega, rfl, by decide⟩))]; exact b2
  · rw [F 3 n (Or.inl (by omega))]; exact ha n hn
  · obtain ⟨b1, b2, b3, b4⟩ := hb n g1 g2
    refine ⟨b1, ?_, b3, fun s hs => ?_⟩
    · rw [F (nd n) 9 (Or.inr (Or.inl ⟨n, by omega, rfl, by decide⟩))]; exact b2
    · obtain ⟨c1, c2, c3, c4, c5, c6⟩ := b4 s hs
      have fs : ∀ j, fx (nd n + 3 + 4 * s) j := fun j => Or.inr (Or.inr (Or.inr ⟨n, s, g1, g2, hs, rfl⟩))
      refine ⟨?_, c2, ?_, ?_, ?_, c6⟩
      · rw [F (nd n + 2) s (Or.inr (Or.inr (Or.inl ⟨n, g1, g2, rfl⟩)))]; exact c1
      · rw [F _ 1 (fs 1)]; exact c3
      · rw [F _ 2 (fs 2)]; exact c4
      · rw [F _ 3 (fs 3)]; exact c5
theorem cSh_mN {M : aM} {kd ln : Nat} (h : cSh M) : cSh (mN M kd ln) := by
  obtain ⟨h0, h1, h2, h3, h4, h5, h6, h7, h8, h9, ha, hb⟩ := h
  have R : ∀ a j, a < 332 → mR (mN M kd ln) a j = mR M a j := fun a j q => by rw [mm_R_mN, if_neg (by omega)]
  have I : ∀ a j, a < 332 → mI (mN M kd ln) a j = mI M a j := fun a j q => by rw [mm_I_mN, if_neg (by omega)]
  refine ⟨Nat.le_succ_of_le h0, h1.up _ _, ?_, ?_, ?_, h5.up _ _, h6.up _ _, h7.up _ _, fun n hn => ?_, fun n hn => ?_, fun n hn => ?_, fun n g1 g2 => ?_⟩
  · rw [R 0 0 (by omega)]; exact h2
  · rw [R 0 1 (by omega)]; exact h3
  · rw [R 0 2 (by omega)]; exact h4
  · obtain ⟨b1, b2, b3, b4⟩ := h8 n hn
    have := nd_hi hn
    refine ⟨?_, b2.up _ _, ?_, b4.up _ _⟩
    · rw [R 1 n (by omega)]; exact b1
    · rw [R (nd n) 5 (by omega)]; exact b3
  · obtain ⟨b1, b2, b3⟩ := h9 n hn
    have := nd_hi (show n < 12 by omega)
    refine ⟨?_, ?_, b3.up _ _⟩
    · rw [R 2 n (by omega)]; exact b1
    · rw [R (nd n) 6 (by omega)]; exact b2
  · rw [R 3 n (by omega)]; exact ha n hn
  · obtain ⟨b1, b2, b3, b4⟩ := hb n g1 g2
    have := nd_hi3 g2 g1
    refine ⟨?_, ?_, b3.up _ _, fun s hs => ?_⟩
    · rw [I (nd n) 6 (by omega)]; exact b1
    · rw [R (nd n) 9 (by omega)]; exact b2
    · obtain ⟨c1, c2, c3, c4, c5, c6, c7, c8⟩ := b4 s hs
      refine ⟨?_, c2.up _ _, ?_, ?_, ?_, c6.up _ _, c7.up _ _, c8.up _ _⟩
      · rw [R (nd n + 2) s (by omega)]; exact c1
      · rw [R (nd n + 3 + 4 * s) 1 (by omega)]; exact c3
      · rw [R (nd n + 3 + 4 * s) 2 (by omega)]; exact c4
      · rw [R (nd n + 3 + 4 * s) 3 (by omega)]; exact c5
theorem lgR.keep {M M1 : aM} {n : Nat} {S S1 : aS} (h : lgR M n S) (st : stb M M1) (h3 : mI M1 (nd n) 3 = mI M (nd n) 3) (hr : ∀ k, mR M1 (nd n + 1) k = mR M (nd n + 1) k) (e1 : sLn S1 n = sLn S n) (e3 : sLg S1 n = sLg S n) : lgR M1 n S1 := by
  obtain ⟨a1, a2⟩ := h
  refine ⟨by rw [h3, e1]; exact a1, fun k hk => ?_⟩
  rw [e1] at hk
  obtain ⟨e, b1, b2⟩ := a2 k hk
  exact ⟨e, by rw [hr]; exact b1, by rw [e3]; exact b2.st st⟩
theorem svR.keep {M M1 : aM} {n : Nat} {V : aSv} (h : svR M n V) (st : stb M M1) (h7 : mI M1 (nd n) 7 = mI M (nd n) 7) (hr : ∀ k, mR M1 (nd n + 2) k = mR M (nd n + 2) k) : svR M1 n V := by
  obtain ⟨a1, a2⟩ := h
  refine ⟨by rw [h7]; exact a1, fun c hc => ?_⟩
  obtain ⟨q, b1, b2⟩ := a2 c hc
  exact ⟨q, by rw [hr]; exact b1, b2.st st⟩
theorem gpR.keep {M M1 : aM} {n : Nat} {G : aGp} (h : gpR M n G) (st : stb M M1) (h7 : mI M1 (nd n) 7 = mI M (nd n) 7) (h8 : mR M1 (nd n) 8 = mR M (nd n) 8) (hs : ∀ i, 3 ≤ i → i < 35 → ∀ k, mI M1 (nd n + i) k = mI M (nd n + i) k) : gpR M1 n G := by
  obtain ⟨a1, ⟨q, a2, a3⟩, a4⟩ := h
  refine ⟨by rw [h7]; exact a1, ⟨q, by rw [h8]; exact a2, a3.st st⟩, fun s hs1 => ?_⟩
  obtain ⟨b1, b2⟩ := a4 s hs1
  refine ⟨by rw [show nd n + 3 + 4 * s = nd n + (3 + 4 * s) by omega] at b1 ⊢; rw [hs (3 + 4 * s) (by omega) (by omega)]; exact b1, fun hc => ?_⟩
  obtain ⟨c1, c2, c3⟩ := b2 hc
  refine ⟨fun i hi => ?_, fun i hi => ?_, fun i hi => ?_⟩
  · rw [show nd n + 3 + 4 * s + 1 = nd n + (3 + 4 * s + 1) by omega, hs (3 + 4 * s + 1) (by omega) (by omega), show nd n + (3 + 4 * s + 1) = nd n + 3 + 4 * s + 1 by omega]; exact c1 i hi
  · rw [show nd n + 3 + 4 * s + 2 = nd n + (3 + 4 * s + 2) by omega, hs (3 + 4 * s + 2) (by omega) (by omega), show nd n + (3 + 4 * s + 2) = nd n + 3 + 4 * s + 2 by omega]; exact c2 i hi
  · rw [show nd n + 3 + 4 * s + 3 = nd n + (3 + 4 * s + 3) by omega, hs (3 + 4 * s + 3) (by omega) (by omega), show nd n + (3 + 4 * s + 3) = nd n + 3 + 4 * s + 3 by omega]; exact c3 i hi
/-- a node whose flags alone have changed -/
theorem ndR.flags {M M1 : aM} {n : Nat} {S S1 : aS} (h : ndR M n S) (st : stb M M1) (hs : ∀ i, 1 ≤ i → i < wd n → sm M M1 (nd n + i)) (hR : ∀ k, mR M1 (nd n) k = mR M (nd n) k) (hI : ∀ k, 3 ≤ k → mI M1 (nd n) k = mI M (nd n) k) (e1 : sLn S1 n = sLn S n) (e2 : sKn S1 n = sKn S n) (e3 : sLg S1 n = sLg S n)
    (f0 : mI M1 (nd n) 0 = bI (sUp S1 n)) (f1 : mI M1 (nd n) 1 = bI (sLd S1 n)) (f2 : mI M1 (nd n) 2 = nI (sT S1 n)) : ndR M1 n S1 := by
  obtain ⟨a0, a1, a2, a4, a5, a6, a7⟩ := h
  have w := wd_3 n
  refine ⟨f0, f1, f2, by rw [hI 4 (by omega), e2]; exact a4, a5.keep st (hI 3 (by omega)) (fun k => (hs 1 (by omega) (by omega)).2.2.2 k) e1 e3, fun h3 => ?_, fun h3 => ?_⟩
  · have e : sSv S1 n = sSv S n := by unfold sSv; rw [e2, e3]
    rw [e]
    exact (a6 h3).keep st (hI 7 (by omega)) (fun k => (hs 2 (by omega) (by omega)).2.2.2 k)
  · have e : sGp S1 n = sGp S n := by unfold sGp; rw [e2, e3]
    rw [e]
    rw [wd_35 h3] at hs
    exact (a7 h3).keep st (hI 7 (by omega)) (hR 8) (fun i h1 h2 k => (hs i (by omega) h2).2.2.1 k)
/-- a node none of whose cells has changed -/
theorem ndR.keep {M M1 : aM} {n : Nat} {S S1 : aS} (h : ndR M n S) (st : stb M M1) (hs : ∀ i, i < wd n → sm M M1 (nd n + i)) (e0 : sUp S1 n = sUp S n) (e4 : sLd S1 n = sLd S n) (e5 : sT S1 n = sT S n) (e1 : sLn S1 n = sLn S n) (e2 : sKn S1 n = sKn S n) (e3 : sLg S1 n = sLg S n) : ndR M1 n S1 := by
  have w := wd_3 n
  have s0 := hs 0 (by omega)
  exact ndR.flags h st (fun i _ h => hs i h) (fun k => s0.2.2.2 k) (fun k _ => s0.2.2.1 k) e1 e2 e3 (by rw [e0]; exact s0.I h.1) (by rw [e4]; exact s0.I h.2.1) (by rw [e5]; exact s0.I h.2.2.1)
/-- the model's cells are as they were -/
def fM (M M1 : aM) : Prop := mSz M ≤ mSz M1 ∧ ∀ a, 332 ≤ a → a < 345 → sm M M1 a
end
section
theorem cSh_V {M : aM} (h : cSh M) {n : Nat} (hn : n < 3) : ndS M (nd n) 2 := by
  have := (h.2.2.2.2.2.2.2.2.1 n (by omega)).2
  unfold nc at this
  rw [if_pos hn] at this
  exact this
theorem cSh_T {M : aM} (h : cSh M) {n : Nat} (h3 : 3 ≤ n) (hn : n < 12) : ndS M (nd n) 3 := by
  have := (h.2.2.2.2.2.2.2.2.1 n hn).2
  unfold nc at this
  rw [if_neg (by omega)] at this
  exact this
def dN (x : Int32) (N : Nat) : Option Nat := if 0 ≤ x ∧ x < nI N then some x.toNatClampNeg else none
theorem dN_in {n N : Nat} (h : n < N) (hN : N < 2 ^ 31) : dN (nI n) N = some n := by
  unfold dN
  rw [if_pos ⟨nI_pos' (by omega), nI_lt h hN⟩, nI_clamp (by omega)]
theorem dN_out {x : Int32} {N : Nat} (h : x < 0 ∨ nI N ≤ x) : dN x N = none := by
  unfold dN
  rw [if_neg]
  rintro ⟨a, b⟩
  rcases h with h | h
  · exact Int32.not_lt.mpr a h
  · exact Int32.not_lt.mpr h b
theorem dN_cases (x : Int32) {N : Nat} (hN : N < 2 ^ 31) : (dN x N = none ∧ (x < 0 ∨ nI N ≤ x)) ∨ ∃ n, n < N ∧ x = nI n ∧ dN x N = some n := by
  rcases pk_ix x hN with h | h | ⟨j, h1, h2⟩
  · exact Or.inl ⟨dN_out (Or.inl h), Or.inl h⟩
  · exact Or.inl ⟨dN_out (Or.inr h), Or.inr h⟩
  · exact Or.inr ⟨j, h1, h2, by rw [h2]; exact dN_in h1 hN⟩
/-- no node of this number is up -/
def nUp (M : aM) (x : Int32) : Prop := (x < 0 ∨ nI 12 ≤ x) ∨ ∃ n, n < 12 ∧ x = nI n ∧ mI M (nd n) 0 = 0

set_option maxRecDepth 20000 in
set_option maxHeartbeats 1000000 in
theorem k_anyNode (M : aM) (n : Nat) (h : cSh M) (hn : n < 12) : aK m_S_anyNode 0 0 0 M [.ref 0, .int (nI n)] (fun M1 r => M1 = M ∧ r = some (.ref (nd n))) := by
  refine aK.of (by decide) (Nat.le_of_ble_eq_true rfl) ?_
  have h0 := h.2.1
  have hr0 := h.2.2.1
  have hr1 := h.2.2.2.1
  have hr2 := h.2.2.2.2.1
  have hA1 := h.2.2.2.2.2.1
  have hA2 := h.2.2.2.2.2.2.1
  have hA3 := h.2.2.2.2.2.2.2.1
  refine j_iload_n d_S_anyNode_0 rfl ?_
  refine j_if_lt (tgt := 19) d_S_anyNode_1 (by decide) (fun h1 => False.elim (nI_pos (by omega) h1)) (fun h1 => ?_)
  refine j_iload_n d_S_anyNode_4 rfl ?_
  refine j_bipush (v := 12) d_S_anyNode_5 (by decide) ?_
  refine j_icmp_ge (tgt := 19) d_S_anyNode_7 (by decide) (fun h7 => False.elim (nI_ge (b := 12) hn (by decide) h7)) (fun h7 => ?_)
  refine j_aload_n d_S_anyNode_10 rfl ?_
  refine j_getR d_S_anyNode_11 (by assumption) f_S_11_S rfl (by decide) (by assumption) ?_
  refine j_iload_n d_S_anyNode_14 rfl ?_
  refine j_aaldR d_S_anyNode_15 (by assumption) (by decide) ts_102 (aIx.n hn (by decide)) (h.2.2.2.2.2.2.2.2.1 n hn).1 ?_
  refine j_goto 20 d_S_anyNode_16 (by decide) ?_
  refine j_areturn d_S_anyNode_20 rfl ?_ (by decide) (by decide)
  exact ⟨rfl, rfl⟩
set_option maxRecDepth 20000 in
set_option maxHeartbeats 1000000 in
theorem k_anyNode_0 (M : aM) (x : Int32) (hx : x < 0 ∨ nI 12 ≤ x) : aK m_S_anyNode 0 0 0 M [.ref 0, .int x] (fun M1 r => M1 = M ∧ r = some .null) := by
  refine aK.of (by decide) (Nat.le_of_ble_eq_true rfl) ?_
  refine j_iload_n d_S_anyNode_0 rfl ?_
  refine j_if_lt (tgt := 19) d_S_anyNode_1 (by decide) (fun h1 => ?_) (fun h1 => ?_)
  · refine j_null d_S_anyNode_19 ?_
    refine j_areturnN d_S_anyNode_20 rfl ?_ (by decide) (by decide)
    exact ⟨rfl, rfl⟩
  · refine j_iload_n d_S_anyNode_4 rfl ?_
    refine j_bipush (v := 12) d_S_anyNode_5 (by decide) ?_
    refine j_icmp_ge (tgt := 19) d_S_anyNode_7 (by decide) (fun h7 => ?_) (fun h7 => False.elim (hx.elim h1 h7))
    refine j_null d_S_anyNode_19 ?_
    refine j_areturnN d_S_anyNode_20 rfl ?_ (by decide) (by decide)
    exact ⟨rfl, rfl⟩
set_option maxRecDepth 20000 in
set_option maxHeartbeats 1000000 in
theorem k_anyService (M : aM) (n : Nat) (h : cSh M) (hn : n < 3) : aK m_S_anyService 0 0 0 M [.ref 0, .int (nI n)] (fun M1 r => M1 = M ∧ r = some (.ref (nd n))) := by
  refine aK.of (by decide) (Nat.le_of_ble_eq_true rfl) ?_
  have h0 := h.2.1
  have hr0 := h.2.2.1
  have hr1 := h.2.2.2.1
  have hr2 := h.2.2.2.2.1
  have hA1 := h.2.2.2.2.2.1
  have hA2 := h.2.2.2.2.2.2.1
  have hA3 := h.2.2.2.2.2.2.2.1
  refine j_iload_n d_S_anyService_0 rfl ?_
  refine j_if_lt (tgt := 18) d_S_anyService_1 (by decide) (fun h1 => False.elim (nI_pos (by omega) h1)) (fun h1 => ?_)
  refine j_iload_n d_S_anyService_4 rfl ?_
  refine j_iconst (v := 3) d_S_anyService_5 (by decide) ?_
  refine j_icmp_ge (tgt := 18) d_S_anyService_6 (by decide) (fun h6 => False.elim (nI_ge (b := 3) hn (by decide) h6)) (fun h6 => ?_)
  refine j_aload_n d_S_anyService_9 rfl ?_
  refine j_getR d_S_anyService_10 (by assumption) f_S_17_S rfl (by decide) (by assumption) ?_
  refine j_iload_n d_S_anyService_13 rfl ?_
  refine j_aaldR d_S_anyService_14 (by assumption) (by decide) ts_103 (aIx.n hn (by decide)) (h.2.2.2.2.2.2.2.2.2.1 n hn).1 ?_
  refine j_goto 19 d_S_anyService_15 (by decide) ?_
  refine j_areturn d_S_anyService_19 rfl ?_ (by decide) (by decide)
  exact ⟨rfl, rfl⟩
set_option maxRecDepth 20000 in
set_option maxHeartbeats 1000000 in
theorem k_anyService_0 (M : aM) (x : Int32) (hx : x < 0 ∨ nI 3 ≤ x) : aK m_S_anyService 0 0 0 M [.ref 0, .int x] (fun M1 r => M1 = M ∧ r = some .null) := by
  refine aK.of (by decide) (Nat.le_of_ble_eq_true rfl) ?_
  refine j_iload_n d_S_anyService_0 rfl ?_
  refine j_if_lt (tgt := 18) d_S_anyService_1 (by decide) (fun h1 => ?_) (fun h1 => ?_)
  · refine j_null d_S_anyService_18 ?_
    refine j_areturnN d_S_anyService_19 rfl ?_ (by decide) (by decide)
    exact ⟨rfl, rfl⟩
  · refine j_iload_n d_S_anyService_4 rfl ?_
    refine j_iconst (v := 3) d_S_anyService_5 (by decide) ?_
    refine j_icmp_ge (tgt := 18) d_S_anyService_6 (by decide) (fun h6 => ?_) (fun h6 => False.elim (hx.elim h1 h6))
    refine j_null d_S_anyService_18 ?_
    refine j_areturnN d_S_anyService_19 rfl ?_ (by decide) (by decide)
    exact ⟨rfl, rfl⟩
set_option maxRecDepth 20000 in
set_option maxHeartbeats 1000000 in
theorem k_anyStore (M : aM) (n : Nat) (h : cSh M) (h3 : 3 ≤ n) (hn : n < 12) : aK m_S_anyStore 0 0 0 M [.ref 0, .int (nI n)] (fun M1 r => M1 = M ∧ r = some (.ref (nd n))) := by
  refine aK.of (by decide) (Nat.le_of_ble_eq_true rfl) ?_
  have h0 := h.2.1
  have hr0 := h.2.2.1
  have hr1 := h.2.2.2.1
  have hr2 := h.2.2.2.2.1
  have hA1 := h.2.2.2.2.2.1
  have hA2 := h.2.2.2.2.2.2.1
  have hA3 := h.2.2.2.2.2.2.2.1
  refine j_iload_n d_S_anyStore_0 rfl ?_
  refine j_iconst (v := 3) d_S_anyStore_1 (by decide) ?_
  refine j_icmp_lt (tgt := 22) d_S_anyStore_2 (by decide) (fun h2 => False.elim (nI_nlt (b := 3) h3 (by omega) h2)) (fun h2 => ?_)
  refine j_iload_n d_S_anyStore_5 rfl ?_
  refine j_bipush (v := 12) d_S_anyStore_6 (by decide) ?_
  refine j_icmp_ge (tgt := 22) d_S_anyStore_8 (by decide) (fun h8 => False.elim (nI_ge (b := 12) hn (by decide) h8)) (fun h8 => ?_)
  refine j_aload_n d_S_anyStore_11 rfl ?_
  refine j_getR d_S_anyStore_12 (by assumption) f_S_23_S rfl (by decide) (by assumption) ?_
  refine j_iload_n d_S_anyStore_15 rfl ?_
  refine j_iconst (v := 3) d_S_anyStore_16 (by decide) ?_
  refine j_isub d_S_anyStore_17 ?_
  refine j_eqi (pk_sub (b := 3) h3) ?_
  refine j_aaldR d_S_anyStore_18 (by assumption) (by decide) ts_104 (aIx.n (by omega) (by decide)) (by have := h.2.2.2.2.2.2.2.2.2.2.1 (n - 3) (by omega); rw [show 3 + (n - 3) = n by omega] at this; exact this) ?_
  refine j_goto 23 d_S_anyStore_19 (by decide) ?_
  refine j_areturn d_S_anyStore_23 rfl ?_ (by decide) (by decide)
  exact ⟨rfl, rfl⟩
set_option maxRecDepth 20000 in
set_option maxHeartbeats 1000000 in
theorem k_anyStore_0 (M : aM) (x : Int32) (hx : x < 3 ∨ nI 12 ≤ x) : aK m_S_anyStore 0 0 0 M [.ref 0, .int x] (fun M1 r => M1 = M ∧ r = some .null) := by
  refine aK.of (by decide) (Nat.le_of_ble_eq_true rfl) ?_
  refine j_iload_n d_S_anyStore_0 rfl ?_
  refine j_iconst (v := 3) d_S_anyStore_1 (by decide) ?_
  refine j_icmp_lt (tgt := 22) d_S_anyStore_2 (by decide) (fun h2 => ?_) (fun h2 => ?_)
  · refine j_null d_S_anyStore_22 ?_
    refine j_areturnN d_S_anyStore_23 rfl ?_ (by decide) (by decide)
    exact ⟨rfl, rfl⟩
  · refine j_iload_n d_S_anyStore_5 rfl ?_
    refine j_bipush (v := 12) d_S_anyStore_6 (by decide) ?_
    refine j_icmp_ge (tgt := 22) d_S_anyStore_8 (by decide) (fun h8 => ?_) (fun h8 => False.elim (hx.elim h2 h8))
    refine j_null d_S_anyStore_22 ?_
    refine j_areturnN d_S_anyStore_23 rfl ?_ (by decide) (by decide)
    exact ⟨rfl, rfl⟩
set_option maxRecDepth 20000 in
set_option maxHeartbeats 1000000 in
theorem k_upNode_V (M : aM) (n : Nat) (h : cSh M) (hn : n < 3) (hu : mI M (nd n) 0 ≠ 0) : aK m_S_upNode 1 0 0 M [.ref 0, .int (nI n)] (fun M1 r => M1 = M ∧ r = some (.ref (nd n))) := by
  refine aK.of (by decide) (Nat.le_of_ble_eq_true rfl) ?_
  have h0 := h.2.1
  have hr0 := h.2.2.1
  have hr1 := h.2.2.2.1
  have hr2 := h.2.2.2.2.1
  have hA1 := h.2.2.2.2.2.1
  have hA2 := h.2.2.2.2.2.2.1
  have hA3 := h.2.2.2.2.2.2.2.1
  have hN := (cSh_V h hn).1
  refine j_aload_n d_S_upNode_0 rfl ?_
  refine j_iload_n d_S_upNode_1 rfl ?_
  refine j_callV (vs := [_]) d_S_upNode_2 (by assumption) (by decide) rfl w190 w192 w1 w193 ws_S_anyNode y_S_anyNode (by decide) (by decide) (k_anyNode M n h (by omega)) rfl (Nat.le_of_ble_eq_true rfl) (by decide) (by decide) (fun M1 r1 hq1 => ?_)
  obtain ⟨rfl, rfl⟩ := hq1
  refine j_astore_n d_S_upNode_5 (by decide) ?_
  refine j_aload_n d_S_upNode_6 rfl ?_
  refine j_ifnull d_S_upNode_7 ?_
  refine j_aload_n d_S_upNode_10 rfl ?_
  refine j_geti d_S_upNode_11 (by assumption) f_S_44_V rfl (by decide) ?_
  refine j_if_eq (tgt := 21) d_S_upNode_14 (by decide) (fun h14 => False.elim (hu h14)) (fun h14 => ?_)
  refine j_aload_n d_S_upNode_17 rfl ?_
  refine j_goto 22 d_S_upNode_18 (by decide) ?_
  refine j_areturn d_S_upNode_22 rfl ?_ (by decide) (by decide)
  exact ⟨rfl, rfl⟩
set_option maxRecDepth 20000 in
set_option maxHeartbeats 1000000 in
theorem k_upNode_V0 (M : aM) (n : Nat) (h : cSh M) (hn : n < 3) (hu : mI M (nd n) 0 = 0) : aK m_S_upNode 1 0 0 M [.ref 0, .int (nI n)] (fun M1 r => M1 = M ∧ r = some .null) := by
  refine aK.of (by decide) (Nat.le_of_ble_eq_true rfl) ?_
  have h0 := h.2.1
  have hr0 := h.2.2.1
  have hr1 := h.2.2.2.1
  have hr2 := h.2.2.2.2.1
  have hA1 := h.2.2.2.2.2.1
  have hA2 := h.2.2.2.2.2.2.1
  have hA3 := h.2.2.2.2.2.2.2.1
  have hN := (cSh_V h hn).1
  refine j_aload_n d_S_upNode_0 rfl ?_
  refine j_iload_n d_S_upNode_1 rfl ?_
  refine j_callV (vs := [_]) d_S_upNode_2 (by assumption) (by decide) rfl w190 w192 w1 w193 ws_S_anyNode y_S_anyNode (by decide) (by decide) (k_anyNode M n h (by omega)) rfl (Nat.le_of_ble_eq_true rfl) (by decide) (by decide) (fun M1 r1 hq1 => ?_)
  obtain ⟨rfl, rfl⟩ := hq1
  refine j_astore_n d_S_upNode_5 (by decide) ?_
  refine j_aload_n d_S_upNode_6 rfl ?_
  refine j_ifnull d_S_upNode_7 ?_
  refine j_aload_n d_S_upNode_10 rfl ?_
  refine j_geti d_S_upNode_11 (by assumption) f_S_44_V rfl (by decide) ?_
  refine j_if_eq (tgt := 21) d_S_upNode_14 (by decide) (fun h14 => ?_) (fun h14 => False.elim (h14 hu))
  refine j_null d_S_upNode_21 ?_
  refine j_areturnN d_S_upNode_22 rfl ?_ (by decide) (by decide)
  exact ⟨rfl, rfl⟩
set_option maxRecDepth 20000 in
set_option maxHeartbeats 1000000 in
theorem k_upV (M : aM) (n : Nat) (h : cSh M) (hn : n < 3) (hu : mI M (nd n) 0 ≠ 0) : aK m_S_upService 1 0 0 M [.ref 0, .int (nI n)] (fun M1 r => M1 = M ∧ r = some (.ref (nd n))) := by
  refine aK.of (by decide) (Nat.le_of_ble_eq_true rfl) ?_
  have h0 := h.2.1
  have hr0 := h.2.2.1
  have hr1 := h.2.2.2.1
  have hr2 := h.2.2.2.2.1
  have hA1 := h.2.2.2.2.2.1
  have hA2 := h.2.2.2.2.2.2.1
  have hA3 := h.2.2.2.2.2.2.2.1
  have hN := (cSh_V h hn).1
  refine j_aload_n d_S_upService_0 rfl ?_
  refine j_iload_n d_S_upService_1 rfl ?_
  refine j_callV (vs := [_]) d_S_upService_2 (by assumption) (by decide) rfl w426 w428 w1 w429 ws_S_anyService y_S_anyService (by decide) (by decide) (k_anyService M n h hn) rfl (Nat.le_of_ble_eq_true rfl) (by decide) (by decide) (fun M1 r1 hq1 => ?_)
  obtain ⟨rfl, rfl⟩ := hq1
  refine j_astore_n d_S_upService_5 (by decide) ?_
  refine j_aload_n d_S_upService_6 rfl ?_
  refine j_ifnull d_S_upService_7 ?_
  refine j_aload_n d_S_upService_10 rfl ?_
  refine j_geti d_S_upService_11 (by assumption) f_S_217_V rfl (by decide) ?_
  refine j_if_eq (tgt := 21) d_S_upService_14 (by decide) (fun h14 => False.elim (hu h14)) (fun h14 => ?_)
  refine j_aload_n d_S_upService_17 rfl ?_
  refine j_goto 22 d_S_upService_18 (by decide) ?_
  refine j_areturn d_S_upService_22 rfl ?_ (by decide) (by decide)
  exact ⟨rfl, rfl⟩
set_option maxRecDepth 20000 in
set_option maxHeartbeats 1000000 in
theorem k_upV_1 (M : aM) (n : Nat) (h : cSh M) (hn : n < 3) (hu : mI M (nd n) 0 = 0) : aK m_S_upService 1 0 0 M [.ref 0, .int (nI n)] (fun M1 r => M1 = M ∧ r = some .null) := by
  refine aK.of (by decide) (Nat.le_of_ble_eq_true rfl) ?_
  have h0 := h.2.1
  have hr0 := h.2.2.1
  have hr1 := h.2.2.2.1
  have hr2 := h.2.2.2.2.1
  have hA1 := h.2.2.2.2.2.1
  have hA2 := h.2.2.2.2.2.2.1
  have hA3 := h.2.2.2.2.2.2.2.1
  have hN := (cSh_V h hn).1
  refine j_aload_n d_S_upService_0 rfl ?_
  refine j_iload_n d_S_upService_1 rfl ?_
  refine j_callV (vs := [_]) d_S_upService_2 (by assumption) (by decide) rfl w426 w428 w1 w429 ws_S_anyService y_S_anyService (by decide) (by decide) (k_anyService M n h hn) rfl (Nat.le_of_ble_eq_true rfl) (by decide) (by decide) (fun M1 r1 hq1 => ?_)
  obtain ⟨rfl, rfl⟩ := hq1
  refine j_astore_n d_S_upService_5 (by decide) ?_
  refine j_aload_n d_S_upService_6 rfl ?_
  refine j_ifnull d_S_upService_7 ?_
  refine j_aload_n d_S_upService_10 rfl ?_
  refine j_geti d_S_upService_11 (by assumption) f_S_217_V rfl (by decide) ?_
  refine j_if_eq (tgt := 21) d_S_upService_14 (by decide) (fun h14 => ?_) (fun h14 => False.elim (h14 hu))
  refine j_null d_S_upService_21 ?_
  refine j_areturnN d_S_upService_22 rfl ?_ (by decide) (by decide)
  exact ⟨rfl, rfl⟩
set_option maxRecDepth 20000 in
set_option maxHeartbeats 1000000 in
theorem k_upV_2 (M : aM) (x : Int32) (h : cSh M) (hx : x < 0 ∨ nI 3 ≤ x) : aK m_S_upService 1 0 0 M [.ref 0, .int x] (fun M1 r => M1 = M ∧ r = some .null) := by
  refine aK.of (by decide) (Nat.le_of_ble_eq_true rfl) ?_
  have h0 := h.2.1
  have hr0 := h.2.2.1
  have hr1 := h.2.2.2.1
  have hr2 := h.2.2.2.2.1
  have hA1 := h.2.2.2.2.2.1
  have hA2 := h.2.2.2.2.2.2.1
  have hA3 := h.2.2.2.2.2.2.2.1
  refine j_aload_n d_S_upService_0 rfl ?_
  refine j_iload_n d_S_upService_1 rfl ?_
  refine j_callV (vs := [_]) d_S_upService_2 (by assumption) (by decide) rfl w426 w428 w1 w429 ws_S_anyService y_S_anyService (by decide) (by decide) (k_anyService_0 M x hx) rfl (Nat.le_of_ble_eq_true rfl) (by decide) (by decide) (fun M1 r1 hq1 => ?_)
  obtain ⟨rfl, rfl⟩ := hq1
  refine j_astore_nN d_S_upService_5 (by decide) ?_
  refine j_aload_nN d_S_upService_6 rfl ?_
  refine j_ifnullN 21 d_S_upService_7 (by decide) ?_
  refine j_null d_S_upService_21 ?_
  refine j_areturnN d_S_upService_22 rfl ?_ (by decide) (by decide)
  exact ⟨rfl, rfl⟩
set_option maxRecDepth 20000 in
set_option maxHeartbeats 1000000 in
theorem k_upNode_T (M : aM) (n : Nat) (h : cSh M) (h3 : 3 ≤ n) (hn : n < 12) (hu : mI M (nd n) 0 ≠ 0) : aK m_S_upNode 1 0 0 M [.ref 0, .int (nI n)] (fun M1 r => M1 = M ∧ r = some (.ref (nd n))) := by
  refine aK.of (by decide) (Nat.le_of_ble_eq_true rfl) ?_
  have h0 := h.2.1
  have hr0 := h.2.2.1
  have hr1 := h.2.2.2.1
  have hr2 := h.2.2.2.2.1
  have hA1 := h.2.2.2.2.2.1
  have hA2 := h.2.2.2.2.2.2.1
  have hA3 := h.2.2.2.2.2.2.2.1
  have hN := (cSh_T h h3 hn).1
  refine j_aload_n d_S_upNode_0 rfl ?_
  refine j_iload_n d_S_upNode_1 rfl ?_
  refine j_callV (vs := [_]) d_S_upNode_2 (by assumption) (by decide) rfl w190 w192 w1 w193 ws_S_anyNode y_S_anyNode (by decide) (by decide) (k_anyNode M n h (by omega)) rfl (Nat.le_of_ble_eq_true rfl) (by decide) (by decide) (fun M1 r1 hq1 => ?_)
  obtain ⟨rfl, rfl⟩ := hq1
  refine j_astore_n d_S_upNode_5 (by decide) ?_
  refine j_aload_n d_S_upNode_6 rfl ?_
  refine j_ifnull d_S_upNode_7 ?_
  refine j_aload_n d_S_upNode_10 rfl ?_
  refine j_geti d_S_upNode_11 (by assumption) f_S_44_T rfl (by decide) ?_
  refine j_if_eq (tgt := 21) d_S_upNode_14 (by decide) (fun h14 => False.elim (hu h14)) (fun h14 => ?_)
  refine j_aload_n d_S_upNode_17 rfl ?_
  refine j_goto 22 d_S_upNode_18 (by decide) ?_
  refine j_areturn d_S_upNode_22 rfl ?_ (by decide) (by decide)
  exact ⟨rfl, rfl⟩
set_option maxRecDepth 20000 in
set_option maxHeartbeats 1000000 in
theorem k_upNode_T0 (M : aM) (n : Nat) (h : cSh M) (h3 : 3 ≤ n) (hn : n < 12) (hu : mI M (nd n) 0 = 0) : aK m_S_upNode 1 0 0 M [.ref 0, .int (nI n)] (fun M1 r => M1 = M ∧ r = some .null) := by
  refine aK.of (by decide) (Nat.le_of_ble_eq_true rfl) ?_
  have h0 := h.2.1
  have hr0 := h.2.2.1
  have hr1 := h.2.2.2.1
  have hr2 := h.2.2.2.2.1
  have hA1 := h.2.2.2.2.2.1
  have hA2 := h.2.2.2.2.2.2.1
  have hA3 := h.2.2.2.2.2.2.2.1
  have hN := (cSh_T h h3 hn).1
  refine j_aload_n d_S_upNode_0 rfl ?_
  refine j_iload_n d_S_upNode_1 rfl ?_
  refine j_callV (vs := [_]) d_S_upNode_2 (by assumption) (by decide) rfl w190 w192 w1 w193 ws_S_anyNode y_S_anyNode (by decide) (by decide) (k_anyNode M n h (by omega)) rfl (Nat.le_of_ble_eq_true rfl) (by decide) (by decide) (fun M1 r1 hq1 => ?_)
  obtain ⟨rfl, rfl⟩ := hq1
  refine j_astore_n d_S_upNode_5 (by decide) ?_
  refine j_aload_n d_S_upNode_6 rfl ?_
  refine j_ifnull d_S_upNode_7 ?_
  refine j_aload_n d_S_upNode_10 rfl ?_
  refine j_geti d_S_upNode_11 (by assumption) f_S_44_T rfl (by decide) ?_
  refine j_if_eq (tgt := 21) d_S_upNode_14 (by decide) (fun h14 => ?_) (fun h14 => False.elim (h14 hu))
  refine j_null d_S_upNode_21 ?_
  refine j_areturnN d_S_upNode_22 rfl ?_ (by decide) (by decide)
  exact ⟨rfl, rfl⟩
set_option maxRecDepth 20000 in
set_option maxHeartbeats 1000000 in
theorem k_upT (M : aM) (n : Nat) (h : cSh M) (h3 : 3 ≤ n) (hn : n < 12) (hu : mI M (nd n) 0 ≠ 0) : aK m_S_upStore 1 0 0 M [.ref 0, .int (nI n)] (fun M1 r => M1 = M ∧ r = some (.ref (nd n))) := by
  refine aK.of (by decide) (Nat.le_of_ble_eq_true rfl) ?_
  have h0 := h.2.1
  have hr0 := h.2.2.1
  have hr1 := h.2.2.2.1
  have hr2 := h.2.2.2.2.1
  have hA1 := h.2.2.2.2.2.1
  have hA2 := h.2.2.2.2.2.2.1
  have hA3 := h.2.2.2.2.2.2.2.1
  have hN := (cSh_T h h3 hn).1
  refine j_aload_n d_S_upStore_0 rfl ?_
  refine j_iload_n d_S_upStore_1 rfl ?_
  refine j_callV (vs := [_]) d_S_upStore_2 (by assumption) (by decide) rfl w467 w469 w1 w470 ws_S_anyStore y_S_anyStore (by decide) (by decide) (k_anyStore M n h h3 hn) rfl (Nat.le_of_ble_eq_true rfl) (by decide) (by decide) (fun M1 r1 hq1 => ?_)
  obtain ⟨rfl, rfl⟩ := hq1
  refine j_astore_n d_S_upStore_5 (by decide) ?_
  refine j_aload_n d_S_upStore_6 rfl ?_
  refine j_ifnull d_S_upStore_7 ?_
  refine j_aload_n d_S_upStore_10 rfl ?_
  refine j_geti d_S_upStore_11 (by assumption) f_S_218_T rfl (by decide) ?_
  refine j_if_eq (tgt := 21) d_S_upStore_14 (by decide) (fun h14 => False.elim (hu h14)) (fun h14 => ?_)
  refine j_aload_n d_S_upStore_17 rfl ?_
  refine j_goto 22 d_S_upStore_18 (by decide) ?_
  refine j_areturn d_S_upStore_22 rfl ?_ (by decide) (by decide)
  exact ⟨rfl, rfl⟩
set_option maxRecDepth 20000 in
set_option maxHeartbeats 1000000 in
theorem k_upT_1 (M : aM) (n : Nat) (h : cSh M) (h3 : 3 ≤ n) (hn : n < 12) (hu : mI M (nd n) 0 = 0) : aK m_S_upStore 1 0 0 M [.ref 0, .int (nI n)] (fun M1 r => M1 = M ∧ r = some .null) := by
  refine aK.of (by decide) (Nat.le_of_ble_eq_true rfl) ?_
  have h0 := h.2.1
  have hr0 := h.2.2.1
  have hr1 := h.2.2.2.1
  have hr2 := h.2.2.2.2.1
  have hA1 := h.2.2.2.2.2.1
  have hA2 := h.2.2.2.2.2.2.1
  have hA3 := h.2.2.2.2.2.2.2.1
  have hN := (cSh_T h h3 hn).1
  refine j_aload_n d_S_upStore_0 rfl ?_
  refine j_iload_n d_S_upStore_1 rfl ?_
  refine j_callV (vs := [_]) d_S_upStore_2 (by assumption) (by decide) rfl w467 w469 w1 w470 ws_S_anyStore y_S_anyStore (by decide) (by decide) (k_anyStore M n h h3 hn) rfl (Nat.le_of_ble_eq_true rfl) (by decide) (by decide) (fun M1 r1 hq1 => ?_)
  obtain ⟨rfl, rfl⟩ := hq1
  refine j_astore_n d_S_upStore_5 (by decide) ?_
  refine j_aload_n d_S_upStore_6 rfl ?_
  refine j_ifnull d_S_upStore_7 ?_
  refine j_aload_n d_S_upStore_10 rfl ?_
  refine j_geti d_S_upStore_11 (by assumption) f_S_218_T rfl (by decide) ?_
  refine j_if_eq (tgt := 21) d_S_upStore_14 (by decide) (fun h14 => ?_) (fun h14 => False.elim (h14 hu))
  refine j_null d_S_upStore_21 ?_
  refine j_areturnN d_S_upStore_22 rfl ?_ (by decide) (by decide)
  exact ⟨rfl, rfl⟩
set_option maxRecDepth 20000 in
set_option maxHeartbeats 1000000 in
theorem k_upT_2 (M : aM) (x : Int32) (h : cSh M) (hx : x < 3 ∨ nI 12 ≤ x) : aK m_S_upStore 1 0 0 M [.ref 0, .int x] (fun M1 r => M1 = M ∧ r = some .null) := by
  refine aK.of (by decide) (Nat.le_of_ble_eq_true rfl) ?_
  have h0 := h.2.1
  have hr0 := h.2.2.1
  have hr1 := h.2.2.2.1
  have hr2 := h.2.2.2.2.1
  have hA1 := h.2.2.2.2.2.1
  have hA2 := h.2.2.2.2.2.2.1
  have hA3 := h.2.2.2.2.2.2.2.1
  refine j_aload_n d_S_upStore_0 rfl ?_
  refine j_iload_n d_S_upStore_1 rfl ?_
  refine j_callV (vs := [_]) d_S_upStore_2 (by assumption) (by decide) rfl w467 w469 w1 w470 ws_S_anyStore y_S_anyStore (by decide) (by decide) (k_anyStore_0 M x hx) rfl (Nat.le_of_ble_eq_true rfl) (by decide) (by decide) (fun M1 r1 hq1 => ?_)
  obtain ⟨rfl, rfl⟩ := hq1
  refine j_astore_nN d_S_upStore_5 (by decide) ?_
  refine j_aload_nN d_S_upStore_6 rfl ?_
  refine j_ifnullN 21 d_S_upStore_7 (by decide) ?_
  refine j_null d_S_upStore_21 ?_
  refine j_areturnN d_S_upStore_22 rfl ?_ (by decide) (by decide)
  exact ⟨rfl, rfl⟩
set_option maxRecDepth 20000 in
set_option maxHeartbeats 1000000 in
theorem k_upNode_2 (M : aM) (x : Int32) (h : cSh M) (hx : x < 0 ∨ nI 12 ≤ x) : aK m_S_upNode 1 0 0 M [.ref 0, .int x] (fun M1 r => M1 = M ∧ r = some .null) := by
  refine aK.of (by decide) (Nat.le_of_ble_eq_true rfl) ?_
  have h0 := h.2.1
  have hr0 := h.2.2.1
  have hr1 := h.2.2.2.1
  have hr2 := h.2.2.2.2.1
  have hA1 := h.2.2.2.2.2.1
  have hA2 := h.2.2.2.2.2.2.1
  have hA3 := h.2.2.2.2.2.2.2.1
  refine j_aload_n d_S_upNode_0 rfl ?_
  refine j_iload_n d_S_upNode_1 rfl ?_
  refine j_callV (vs := [_]) d_S_upNode_2 (by assumption) (by decide) rfl w190 w192 w1 w193 ws_S_anyNode y_S_anyNode (by decide) (by decide) (k_anyNode_0 M x hx) rfl (Nat.le_of_ble_eq_true rfl) (by decide) (by decide) (fun M1 r1 hq1 => ?_)
  obtain ⟨rfl, rfl⟩ := hq1
  refine j_astore_nN d_S_upNode_5 (by decide) ?_
  refine j_aload_nN d_S_upNode_6 rfl ?_
  refine j_ifnullN 21 d_S_upNode_7 (by decide) ?_
  refine j_null d_S_upNode_21 ?_
  refine j_areturnN d_S_upNode_22 rfl ?_ (by decide) (by decide)
  exact ⟨rfl, rfl⟩
theorem k_upNode_n (M : aM) (x : Int32) (h : cSh M) (hx : nUp M x) : aK m_S_upNode 1 0 0 M [.ref 0, .int x] (fun M1 r => M1 = M ∧ r = some .null) := by
  rcases hx with hx | ⟨n, hn, rfl, hu⟩
  · exact k_upNode_2 M x h hx
  · by_cases h3 : n < 3
    · exact k_upNode_V0 M n h h3 hu
    · exact k_upNode_T0 M n h (by omega) hn hu
set_option maxRecDepth 20000 in
set_option maxHeartbeats 1000000 in
theorem k_crash_n (M : aM) (x : Int32) (h : cSh M) (hx : nUp M x) : aK m_S_crash 2 0 0 M [.ref 0, .int x] (fun M1 r => M1 = M ∧ r = some (.int 0)) := by
  refine aK.of (by decide) (Nat.le_of_ble_eq_true rfl) ?_
  have h0 := h.2.1
  have hr0 := h.2.2.1
  have hr1 := h.2.2.2.1
  have hr2 := h.2.2.2.2.1
  have hA1 := h.2.2.2.2.2.1
  have hA2 := h.2.2.2.2.2.2.1
  have hA3 := h.2.2.2.2.2.2.2.1
  refine j_aload_n d_S_crash_0 rfl ?_
  refine j_iload_n d_S_crash_1 rfl ?_
  refine j_callV (vs := [_]) d_S_crash_2 (by assumption) (by decide) rfl w186 w188 w1 w189 ws_S_upNode y_S_upNode (by decide) (by decide) (k_upNode_n M x h hx) rfl (Nat.le_of_ble_eq_true rfl) (by decide) (by decide) (fun M1 r1 hq1 => ?_)
  obtain ⟨rfl, rfl⟩ := hq1
  refine j_astore_nN d_S_crash_5 (by decide) ?_
  refine j_aload_nN d_S_crash_6 rfl ?_
  refine j_ifnonnullN d_S_crash_7 ?_
  refine j_iconst (v := 0) d_S_crash_10 (by decide) ?_
  refine j_ireturn d_S_crash_11 rfl rfl ?_ (by decide) (by decide)
  exact ⟨rfl, rfl⟩
set_option maxRecDepth 20000 in
set_option maxHeartbeats 1000000 in
theorem k_crash_V (M : aM) (n : Nat) (h : cSh M) (hn : n < 3) (hu : mI M (nd n) 0 ≠ 0) : aK m_S_crash 2 0 0 M [.ref 0, .int (nI n)] (fun M1 r => M1 = sI (sI M (nd n) 0 0) (nd n) 1 0 ∧ r = some (.int 1)) := by
  refine aK.of (by decide) (Nat.le_of_ble_eq_true rfl) ?_
  have h0 := h.2.1
  have hr0 := h.2.2.1
  have hr1 := h.2.2.2.1
  have hr2 := h.2.2.2.2.1
  have hA1 := h.2.2.2.2.2.1
  have hA2 := h.2.2.2.2.2.2.1
  have hA3 := h.2.2.2.2.2.2.2.1
  have hN := (cSh_V h hn).1
  refine j_aload_n d_S_crash_0 rfl ?_
  refine j_iload_n d_S_crash_1 rfl ?_
  refine j_callV (vs := [_]) d_S_crash_2 (by assumption) (by decide) rfl w186 w188 w1 w189 ws_S_upNode y_S_upNode (by decide) (by decide) (k_upNode_V M n h hn hu) rfl (Nat.le_of_ble_eq_true rfl) (by decide) (by decide) (fun M1 r1 hq1 => ?_)
  obtain ⟨rfl, rfl⟩ := hq1
  refine j_astore_n d_S_crash_5 (by decide) ?_
  refine j_aload_n d_S_crash_6 rfl ?_
  refine j_ifnonnull 12 d_S_crash_7 (by decide) ?_
  refine j_aload_n d_S_crash_12 rfl ?_
  refine j_iconst (v := 0) d_S_crash_13 (by decide) ?_
  refine j_puti d_S_crash_14 (by assumption) p_S_44_V rfl (by decide) rfl rfl ?_
  refine j_aload_n d_S_crash_17 rfl ?_
  refine j_iconst (v := 0) d_S_crash_18 (by decide) ?_
  refine j_puti d_S_crash_19 (by assumption) p_S_48_V rfl (by decide) rfl rfl ?_
  refine j_iconst (v := 1) d_S_crash_22 (by decide) ?_
  refine j_ireturn d_S_crash_23 rfl rfl ?_ (by decide) (by decide)
  exact ⟨rfl, rfl⟩
set_option maxRecDepth 20000 in
set_option maxHeartbeats 1000000 in
theorem k_recover_V (M : aM) (n : Nat) (h : cSh M) (hn : n < 3) (hu : mI M (nd n) 0 = 0) : aK m_S_recover 1 0 0 M [.ref 0, .int (nI n)] (fun M1 r => M1 = sI M (nd n) 0 1 ∧ r = some (.int 1)) := by
  refine aK.of (by decide) (Nat.le_of_ble_eq_true rfl) ?_
  have h0 := h.2.1
  have hr0 := h.2.2.1
  have hr1 := h.2.2.2.1
  have hr2 := h.2.2.2.2.1
  have hA1 := h.2.2.2.2.2.1
  have hA2 := h.2.2.2.2.2.2.1
  have hA3 := h.2.2.2.2.2.2.2.1
  have hN := (cSh_V h hn).1
  refine j_aload_n d_S_recover_0 rfl ?_
  refine j_iload_n d_S_recover_1 rfl ?_
  refine j_callV (vs := [_]) d_S_recover_2 (by assumption) (by decide) rfl w190 w192 w1 w193 ws_S_anyNode y_S_anyNode (by decide) (by decide) (k_anyNode M n h (by omega)) rfl (Nat.le_of_ble_eq_true rfl) (by decide) (by decide) (fun M1 r1 hq1 => ?_)
  obtain ⟨rfl, rfl⟩ := hq1
  refine j_astore_n d_S_recover_5 (by decide) ?_
  refine j_aload_n d_S_recover_6 rfl ?_
  refine j_ifnull d_S_recover_7 ?_
  refine j_aload_n d_S_recover_10 rfl ?_
  refine j_geti d_S_recover_11 (by assumption) f_S_44_V rfl (by decide) ?_
  refine j_if_eq (tgt := 19) d_S_recover_14 (by decide) (fun h14 => ?_) (fun h14 => False.elim (h14 hu))
  refine j_aload_n d_S_recover_19 rfl ?_
  refine j_iconst (v := 1) d_S_recover_20 (by decide) ?_
  refine j_puti d_S_recover_21 (by assumption) p_S_44_V rfl (by decide) rfl rfl ?_
  refine j_iconst (v := 1) d_S_recover_24 (by decide) ?_
  refine j_ireturn d_S_recover_25 rfl rfl ?_ (by decide) (by decide)
  exact ⟨rfl, rfl⟩
set_option maxRecDepth 20000 in
set_option maxHeartbeats 1000000 in
theorem k_recover_Vn (M : aM) (n : Nat) (h : cSh M) (hn : n < 3) (hu : mI M (nd n) 0 ≠ 0) : aK m_S_recover 1 0 0 M [.ref 0, .int (nI n)] (fun M1 r => M1 = M ∧ r = some (.int 0)) := by
  refine aK.of (by decide) (Nat.le_of_ble_eq_true rfl) ?_
  have h0 := h.2.1
  have hr0 := h.2.2.1
  have hr1 := h.2.2.2.1
  have hr2 := h.2.2.2.2.1
  have hA1 := h.2.2.2.2.2.1
  have hA2 := h.2.2.2.2.2.2.1
  have hA3 := h.2.2.2.2.2.2.2.1
  have hN := (cSh_V h hn).1
  refine j_aload_n d_S_recover_0 rfl ?_
  refine j_iload_n d_S_recover_1 rfl ?_
  refine j_callV (vs := [_]) d_S_recover_2 (by assumption) (by decide) rfl w190 w192 w1 w193 ws_S_anyNode y_S_anyNode (by decide) (by decide) (k_anyNode M n h (by omega)) rfl (Nat.le_of_ble_eq_true rfl) (by decide) (by decide) (fun M1 r1 hq1 => ?_)
  obtain ⟨rfl, rfl⟩ := hq1
  refine j_astore_n d_S_recover_5 (by decide) ?_
  refine j_aload_n d_S_recover_6 rfl ?_
  refine j_ifnull d_S_recover_7 ?_
  refine j_aload_n d_S_recover_10 rfl ?_
  refine j_geti d_S_recover_11 (by assumption) f_S_44_V rfl (by decide) ?_
  refine j_if_eq (tgt := 19) d_S_recover_14 (by decide) (fun h14 => False.elim (hu h14)) (fun h14 => ?_)
  refine j_iconst (v := 0) d_S_recover_17 (by decide) ?_
  refine j_ireturn d_S_recover_18 rfl rfl ?_ (by decide) (by decide)
  exact ⟨rfl, rfl⟩
set_option maxRecDepth 20000 in
set_option maxHeartbeats 1000000 in
theorem k_length_V (M : aM) (n : Nat) (h : cSh M) (hn : n < 3) : aK m_S_length 1 0 0 M [.ref 0, .int (nI n)] (fun M1 r => M1 = M ∧ r = some (.int (mI M (nd n) 3))) := by
  refine aK.of (by decide) (Nat.le_of_ble_eq_true rfl) ?_
  have h0 := h.2.1
  have hr0 := h.2.2.1
  have hr1 := h.2.2.2.1
  have hr2 := h.2.2.2.2.1
  have hA1 := h.2.2.2.2.2.1
  have hA2 := h.2.2.2.2.2.2.1
  have hA3 := h.2.2.2.2.2.2.2.1
  have hN := (cSh_V h hn).1
  refine j_aload_n d_S_length_0 rfl ?_
  refine j_iload_n d_S_length_1 rfl ?_
  refine j_callV (vs := [_]) d_S_length_2 (by assumption) (by decide) rfl w190 w192 w1 w193 ws_S_anyNode y_S_anyNode (by decide) (by decide) (k_anyNode M n h (by omega)) rfl (Nat.le_of_ble_eq_true rfl) (by decide) (by decide) (fun M1 r1 hq1 => ?_)
  obtain ⟨rfl, rfl⟩ := hq1
  refine j_astore_n d_S_length_5 (by decide) ?_
  refine j_aload_n d_S_length_6 rfl ?_
  refine j_ifnonnull 14 d_S_length_7 (by decide) ?_
  refine j_aload_n d_S_length_14 rfl ?_
  refine j_geti d_S_length_15 (by assumption) f_S_94_V rfl (by decide) ?_
  refine j_ireturn d_S_length_18 rfl rfl ?_ (by decide) (by decide)
  exact ⟨rfl, rfl⟩
set_option maxRecDepth 20000 in
set_option maxHeartbeats 1000000 in
theorem k_known_V (M : aM) (n : Nat) (h : cSh M) (hn : n < 3) : aK m_S_known 1 0 0 M [.ref 0, .int (nI n)] (fun M1 r => M1 = M ∧ r = some (.int (mI M (nd n) 4))) := by
  refine aK.of (by decide) (Nat.le_of_ble_eq_true rfl) ?_
  have h0 := h.2.1
  have hr0 := h.2.2.1
  have hr1 := h.2.2.2.1
  have hr2 := h.2.2.2.2.1
  have hA1 := h.2.2.2.2.2.1
  have hA2 := h.2.2.2.2.2.2.1
  have hA3 := h.2.2.2.2.2.2.2.1
  have hN := (cSh_V h hn).1
  refine j_aload_n d_S_known_0 rfl ?_
  refine j_iload_n d_S_known_1 rfl ?_
  refine j_callV (vs := [_]) d_S_known_2 (by assumption) (by decide) rfl w190 w192 w1 w193 ws_S_anyNode y_S_anyNode (by decide) (by decide) (k_anyNode M n h (by omega)) rfl (Nat.le_of_ble_eq_true rfl) (by decide) (by decide) (fun M1 r1 hq1 => ?_)
  obtain ⟨rfl, rfl⟩ := hq1
  refine j_astore_n d_S_known_5 (by decide) ?_
  refine j_aload_n d_S_known_6 rfl ?_
  refine j_ifnonnull 14 d_S_known_7 (by decide) ?_
  refine j_aload_n d_S_known_14 rfl ?_
  refine j_geti d_S_known_15 (by assumption) f_S_91_V rfl (by decide) ?_
  refine j_ireturn d_S_known_18 rfl rfl ?_ (by decide) (by decide)
  exact ⟨rfl, rfl⟩
set_option maxRecDepth 20000 in
set_option maxHeartbeats 1000000 in
theorem k_term_V (M : aM) (n : Nat) (h : cSh M) (hn : n < 3) : aK m_S_term 1 0 0 M [.ref 0, .int (nI n)] (fun M1 r => M1 = M ∧ r = some (.int (if mI M (nd n) 1 = 0 then mI M (nd n) 2 else mI M (nd n) 2 + 1000))) := by
  refine aK.of (by decide) (Nat.le_of_ble_eq_true rfl) ?_
  have h0 := h.2.1
  have hr0 := h.2.2.1
  have hr1 := h.2.2.2.1
  have hr2 := h.2.2.2.2.1
  have hA1 := h.2.2.2.2.2.1
  have hA2 := h.2.2.2.2.2.2.1
  have hA3 := h.2.2.2.2.2.2.2.1
  have hN := (cSh_V h hn).1
  refine j_aload_n d_S_term_0 rfl ?_
  refine j_iload_n d_S_term_1 rfl ?_
  refine j_callV (vs := [_]) d_S_term_2 (by assumption) (by decide) rfl w190 w192 w1 w193 ws_S_anyNode y_S_anyNode (by decide) (by decide) (k_anyNode M n h (by omega)) rfl (Nat.le_of_ble_eq_true rfl) (by decide) (by decide) (fun M1 r1 hq1 => ?_)
  obtain ⟨rfl, rfl⟩ := hq1
  refine j_astore_n d_S_term_5 (by decide) ?_
  refine j_aload_n d_S_term_6 rfl ?_
  refine j_ifnonnull 12 d_S_term_7 (by decide) ?_
  refine j_aload_n d_S_term_12 rfl ?_
  refine j_geti d_S_term_13 (by assumption) f_S_48_V rfl (by decide) ?_
  refine j_if_eq (tgt := 30) d_S_term_16 (by decide) (fun h16 => ?_) (fun h16 => ?_)
  · have hb : (if mI M1 (nd n) 1 = 0 then mI M1 (nd n) 2 else mI M1 (nd n) 2 + 1000) = mI M1 (nd n) 2 := if_pos h16
    refine j_aload_n d_S_term_30 rfl ?_
    refine j_geti d_S_term_31 (by assumption) f_S_54_V rfl (by decide) ?_
    refine j_ireturn d_S_term_34 rfl rfl ?_ (by decide) (by decide)
    exact ⟨rfl, by rw [hb]⟩
  · have hb : (if mI M1 (nd n) 1 = 0 then mI M1 (nd n) 2 else mI M1 (nd n) 2 + 1000) = mI M1 (nd n) 2 + 1000 := if_neg h16
    refine j_aload_n d_S_term_19 rfl ?_
    refine j_geti d_S_term_20 (by assumption) f_S_54_V rfl (by decide) ?_
    refine j_sipush (v := 1000) d_S_term_23 (by decide) ?_
    refine j_iadd d_S_term_26 ?_
    refine j_goto 34 d_S_term_27 (by decide) ?_
    refine j_ireturn d_S_term_34 rfl rfl ?_ (by decide) (by decide)
    exact ⟨rfl, by rw [hb]⟩
set_option maxRecDepth 20000 in
set_option maxHeartbeats 1000000 in
theorem k_crash_T (M : aM) (n : Nat) (h : cSh M) (h3 : 3 ≤ n) (hn : n < 12) (hu : mI M (nd n) 0 ≠ 0) : aK m_S_crash 2 0 0 M [.ref 0, .int (nI n)] (fun M1 r => M1 = sI (sI M (nd n) 0 0) (nd n) 1 0 ∧ r = some (.int 1)) := by
  refine aK.of (by decide) (Nat.le_of_ble_eq_true rfl) ?_
  have h0 := h.2.1
  have hr0 := h.2.2.1
  have hr1 := h.2.2.2.1
  have hr2 := h.2.2.2.2.1
  have hA1 := h.2.2.2.2.2.1
  have hA2 := h.2.2.2.2.2.2.1
  have hA3 := h.2.2.2.2.2.2.2.1
  have hN := (cSh_T h h3 hn).1
  refine j_aload_n d_S_crash_0 rfl ?_
  refine j_iload_n d_S_crash_1 rfl ?_
  refine j_callV (vs := [_]) d_S_crash_2 (by assumption) (by decide) rfl w186 w188 w1 w189 ws_S_upNode y_S_upNode (by decide) (by decide) (k_upNode_T M n h h3 hn hu) rfl (Nat.le_of_ble_eq_true rfl) (by decide) (by decide) (fun M1 r1 hq1 => ?_)
  obtain ⟨rfl, rfl⟩ := hq1
  refine j_astore_n d_S_crash_5 (by decide) ?_
  refine j_aload_n d_S_crash_6 rfl ?_
  refine j_ifnonnull 12 d_S_crash_7 (by decide) ?_
  refine j_aload_n d_S_crash_12 rfl ?_
  refine j_iconst (v := 0) d_S_crash_13 (by decide) ?_
  refine j_puti d_S_crash_14 (by assumption) p_S_44_T rfl (by decide) rfl rfl ?_
  refine j_aload_n d_S_crash_17 rfl ?_
  refine j_iconst (v := 0) d_S_crash_18 (by decide) ?_
  refine j_puti d_S_crash_19 (by assumption) p_S_48_T rfl (by decide) rfl rfl ?_
  refine j_iconst (v := 1) d_S_crash_22 (by decide) ?_
  refine j_ireturn d_S_crash_23 rfl rfl ?_ (by decide) (by decide)
  exact ⟨rfl, rfl⟩
set_option maxRecDepth 20000 in
set_option maxHeartbeats 1000000 in
theorem k_recover_T (M : aM) (n : Nat) (h : cSh M) (h3 : 3 ≤ n) (hn : n < 12) (hu : mI M (nd n) 0 = 0) : aK m_S_recover 1 0 0 M [.ref 0, .int (nI n)] (fun M1 r => M1 = sI M (nd n) 0 1 ∧ r = some (.int 1)) := by
  refine aK.of (by decide) (Nat.le_of_ble_eq_true rfl) ?_
  have h0 := h.2.1
  have hr0 := h.2.2.1
  have hr1 := h.2.2.2.1
  have hr2 := h.2.2.2.2.1
  have hA1 := h.2.2.2.2.2.1
  have hA2 := h.2.2.2.2.2.2.1
  have hA3 := h.2.2.2.2.2.2.2.1
  have hN := (cSh_T h h3 hn).1
  refine j_aload_n d_S_recover_0 rfl ?_
  refine j_iload_n d_S_recover_1 rfl ?_
  refine j_callV (vs := [_]) d_S_recover_2 (by assumption) (by decide) rfl w190 w192 w1 w193 ws_S_anyNode y_S_anyNode (by decide) (by decide) (k_anyNode M n h (by omega)) rfl (Nat.le_of_ble_eq_true rfl) (by decide) (by decide) (fun M1 r1 hq1 => ?_)
  obtain ⟨rfl, rfl⟩ := hq1
  refine j_astore_n d_S_recover_5 (by decide) ?_
  refine j_aload_n d_S_recover_6 rfl ?_
  refine j_ifnull d_S_recover_7 ?_
  refine j_aload_n d_S_recover_10 rfl ?_
  refine j_geti d_S_recover_11 (by assumption) f_S_44_T rfl (by decide) ?_
  refine j_if_eq (tgt := 19) d_S_recover_14 (by decide) (fun h14 => ?_) (fun h14 => False.elim (h14 hu))
  refine j_aload_n d_S_recover_19 rfl ?_
  refine j_iconst (v := 1) d_S_recover_20 (by decide) ?_
  refine j_puti d_S_recover_21 (by assumption) p_S_44_T rfl (by decide) rfl rfl ?_
  refine j_iconst (v := 1) d_S_recover_24 (by decide) ?_
  refine j_ireturn d_S_recover_25 rfl rfl ?_ (by decide) (by decide)
  exact ⟨rfl, rfl⟩
set_option maxRecDepth 20000 in
set_option maxHeartbeats 1000000 in
theorem k_recover_Tn (M : aM) (n : Nat) (h : cSh M) (h3 : 3 ≤ n) (hn : n < 12) (hu : mI M (nd n) 0 ≠ 0) : aK m_S_recover 1 0 0 M [.ref 0, .int (nI n)] (fun M1 r => M1 = M ∧ r = some (.int 0)) := by
  refine aK.of (by decide) (Nat.le_of_ble_eq_true rfl) ?_
  have h0 := h.2.1
  have hr0 := h.2.2.1
  have hr1 := h.2.2.2.1
  have hr2 := h.2.2.2.2.1
  have hA1 := h.2.2.2.2.2.1
  have hA2 := h.2.2.2.2.2.2.1
  have hA3 := h.2.2.2.2.2.2.2.1
  have hN := (cSh_T h h3 hn).1
  refine j_aload_n d_S_recover_0 rfl ?_
  refine j_iload_n d_S_recover_1 rfl ?_
  refine j_callV (vs := [_]) d_S_recover_2 (by assumption) (by decide) rfl w190 w192 w1 w193 ws_S_anyNode y_S_anyNode (by decide) (by decide) (k_anyNode M n h (by omega)) rfl (Nat.le_of_ble_eq_true rfl) (by decide) (by decide) (fun M1 r1 hq1 => ?_)
  obtain ⟨rfl, rfl⟩ := hq1
  refine j_astore_n d_S_recover_5 (by decide) ?_
  refine j_aload_n d_S_recover_6 rfl ?_
  refine j_ifnull d_S_recover_7 ?_
  refine j_aload_n d_S_recover_10 rfl ?_
  refine j_geti d_S_recover_11 (by assumption) f_S_44_T rfl (by decide) ?_
  refine j_if_eq (tgt := 19) d_S_recover_14 (by decide) (fun h14 => False.elim (hu h14)) (fun h14 => ?_)
  refine j_iconst (v := 0) d_S_recover_17 (by decide) ?_
  refine j_ireturn d_S_recover_18 rfl rfl ?_ (by decide) (by decide)
  exact ⟨rfl, rfl⟩
set_option maxRecDepth 20000 in
set_option maxHeartbeats 1000000 in
theorem k_length_T (M : aM) (n : Nat) (h : cSh M) (h3 : 3 ≤ n) (hn : n < 12) : aK m_S_length 1 0 0 M [.ref 0, .int (nI n)] (fun M1 r => M1 = M ∧ r = some (.int (mI M (nd n) 3))) := by
  refine aK.of (by decide) (Nat.le_of_ble_eq_true rfl) ?_
  have h0 := h.2.1
  have hr0 := h.2.2.1
  have hr1 := h.2.2.2.1
  have hr2 := h.2.2.2.2.1
  have hA1 := h.2.2.2.2.2.1
  have hA2 := h.2.2.2.2.2.2.1
  have hA3 := h.2.2.2.2.2.2.2.1
  have hN := (cSh_T h h3 hn).1
  refine j_aload_n d_S_length_0 rfl ?_
  refine j_iload_n d_S_length_1 rfl ?_
  refine j_callV (vs := [_]) d_S_length_2 (by assumption) (by decide) rfl w190 w192 w1 w193 ws_S_anyNode y_S_anyNode (by decide) (by decide) (k_anyNode M n h (by omega)) rfl (Nat.le_of_ble_eq_true rfl) (by decide) (by decide) (fun M1 r1 hq1 => ?_)
  obtain ⟨rfl, rfl⟩ := hq1
  refine j_astore_n d_S_length_5 (by decide) ?_
  refine j_aload_n d_S_length_6 rfl ?_
  refine j_ifnonnull 14 d_S_length_7 (by decide) ?_
  refine j_aload_n d_S_length_14 rfl ?_
  refine j_geti d_S_length_15 (by assumption) f_S_94_T rfl (by decide) ?_
  refine j_ireturn d_S_length_18 rfl rfl ?_ (by decide) (by decide)
  exact ⟨rfl, rfl⟩
set_option maxRecDepth 20000 in
set_option maxHeartbeats 1000000 in
theorem k_known_T (M : aM) (n : Nat) (h : cSh M) (h3 : 3 ≤ n) (hn : n < 12) : aK m_S_known 1 0 0 M [.ref 0, .int (nI n)] (fun M1 r => M1 = M ∧ r = some (.int (mI M (nd n) 4))) := by
  refine aK.of (by decide) (Nat.le_of_ble_eq_true rfl) ?_
  have h0 := h.2.1
  have hr0 := h.2.2.1
  have hr1 := h.2.2.2.1
  have hr2 := h.2.2.2.2.1
  have hA1 := h.2.2.2.2.2.1
  have hA2 := h.2.2.2.2.2.2.1
  have hA3 := h.2.2.2.2.2.2.2.1
  have hN := (cSh_T h h3 hn).1
  refine j_aload_n d_S_known_0 rfl ?_
  refine j_iload_n d_S_known_1 rfl ?_
  refine j_callV (vs := [_]) d_S_known_2 (by assumption) (by decide) rfl w190 w192 w1 w193 ws_S_anyNode y_S_anyNode (by decide) (by decide) (k_anyNode M n h (by omega)) rfl (Nat.le_of_ble_eq_true rfl) (by decide) (by decide) (fun M1 r1 hq1 => ?_)
  obtain ⟨rfl, rfl⟩ := hq1
  refine j_astore_n d_S_known_5 (by decide) ?_
  refine j_aload_n d_S_known_6 rfl ?_
  refine j_ifnonnull 14 d_S_known_7 (by decide) ?_
  refine j_aload_n d_S_known_14 rfl ?_
  refine j_geti d_S_known_15 (by assumption) f_S_91_T rfl (by decide) ?_
  refine j_ireturn d_S_known_18 rfl rfl ?_ (by decide) (by decide)
  exact ⟨rfl, rfl⟩
set_option maxRecDepth 20000 in
set_option maxHeartbeats 1000000 in
theorem k_term_T (M : aM) (n : Nat) (h : cSh M) (h3 : 3 ≤ n) (hn : n < 12) : aK m_S_term 1 0 0 M [.ref 0, .int (nI n)] (fun M1 r => M1 = M ∧ r = some (.int (if mI M (nd n) 1 = 0 then mI M (nd n) 2 else mI M (nd n) 2 + 1000))) := by
  refine aK.of (by decide) (Nat.le_of_ble_eq_true rfl) ?_
  have h0 := h.2.1
  have hr0 := h.2.2.1
  have hr1 := h.2.2.2.1
  have hr2 := h.2.2.2.2.1
  have hA1 := h.2.2.2.2.2.1
  have hA2 := h.2.2.2.2.2.2.1
  have hA3 := h.2.2.2.2.2.2.2.1
  have hN := (cSh_T h h3 hn).1
  refine j_aload_n d_S_term_0 rfl ?_
  refine j_iload_n d_S_term_1 rfl ?_
  refine j_callV (vs := [_]) d_S_term_2 (by assumption) (by decide) rfl w190 w192 w1 w193 ws_S_anyNode y_S_anyNode (by decide) (by decide) (k_anyNode M n h (by omega)) rfl (Nat.le_of_ble_eq_true rfl) (by decide) (by decide) (fun M1 r1 hq1 => ?_)
  obtain ⟨rfl, rfl⟩ := hq1
  refine j_astore_n d_S_term_5 (by decide) ?_
  refine j_aload_n d_S_term_6 rfl ?_
  refine j_ifnonnull 12 d_S_term_7 (by decide) ?_
  refine j_aload_n d_S_term_12 rfl ?_
  refine j_geti d_S_term_13 (by assumption) f_S_48_T rfl (by decide) ?_
  refine j_if_eq (tgt := 30) d_S_term_16 (by decide) (fun h16 => ?_) (fun h16 => ?_)
  · have hb : (if mI M1 (nd n) 1 = 0 then mI M1 (nd n) 2 else mI M1 (nd n) 2 + 1000) = mI M1 (nd n) 2 := if_pos h16
    refine j_aload_n d_S_term_30 rfl ?_
    refine j_geti d_S_term_31 (by assumption) f_S_54_T rfl (by decide) ?_
    refine j_ireturn d_S_term_34 rfl rfl ?_ (by decide) (by decide)
    exact ⟨rfl, by rw [hb]⟩
  · have hb : (if mI M1 (nd n) 1 = 0 then mI M1 (nd n) 2 else mI M1 (nd n) 2 + 1000) = mI M1 (nd n) 2 + 1000 := if_neg h16
    refine j_aload_n d_S_term_19 rfl ?_
    refine j_geti d_S_term_20 (by assumption) f_S_54_T rfl (by decide) ?_
    refine j_sipush (v := 1000) d_S_term_23 (by decide) ?_
    refine j_iadd d_S_term_26 ?_
    refine j_goto 34 d_S_term_27 (by decide) ?_
    refine j_ireturn d_S_term_34 rfl rfl ?_ (by decide) (by decide)
    exact ⟨rfl, by rw [hb]⟩
set_option maxRecDepth 20000 in
set_option maxHeartbeats 1000000 in
theorem k_recover_n (M : aM) (x : Int32) (h : cSh M) (hx : x < 0 ∨ nI 12 ≤ x) : aK m_S_recover 1 0 0 M [.ref 0, .int x] (fun M1 r => M1 = M ∧ r = some (.int 0)) := by
  refine aK.of (by decide) (Nat.le_of_ble_eq_true rfl) ?_
  have h0 := h.2.1
  have hr0 := h.2.2.1
  have hr1 := h.2.2.2.1
  have hr2 := h.2.2.2.2.1
  have hA1 := h.2.2.2.2.2.1
  have hA2 := h.2.2.2.2.2.2.1
  have hA3 := h.2.2.2.2.2.2.2.1
  refine j_aload_n d_S_recover_0 rfl ?_
  refine j_iload_n d_S_recover_1 rfl ?_
  refine j_callV (vs := [_]) d_S_recover_2 (by assumption) (by decide) rfl w190 w192 w1 w193 ws_S_anyNode y_S_anyNode (by decide) (by decide) (k_anyNode_0 M x hx) rfl (Nat.le_of_ble_eq_true rfl) (by decide) (by decide) (fun M1 r1 hq1 => ?_)
  obtain ⟨rfl, rfl⟩ := hq1
  refine j_astore_nN d_S_recover_5 (by decide) ?_
  refine j_aload_nN d_S_recover_6 rfl ?_
  refine j_ifnullN 17 d_S_recover_7 (by decide) ?_
  refine j_iconst (v := 0) d_S_recover_17 (by decide) ?_
  refine j_ireturn d_S_recover_18 rfl rfl ?_ (by decide) (by decide)
  exact ⟨rfl, rfl⟩
set_option maxRecDepth 20000 in
set_option maxHeartbeats 1000000 in
theorem k_length_n (M : aM) (x : Int32) (h : cSh M) (hx : x < 0 ∨ nI 12 ≤ x) : aK m_S_length 1 0 0 M [.ref 0, .int x] (fun M1 r => M1 = M ∧ r = some (.int (-1))) := by
  refine aK.of (by decide) (Nat.le_of_ble_eq_true rfl) ?_
  have h0 := h.2.1
  have hr0 := h.2.2.1
  have hr1 := h.2.2.2.1
  have hr2 := h.2.2.2.2.1
  have hA1 := h.2.2.2.2.2.1
  have hA2 := h.2.2.2.2.2.2.1
  have hA3 := h.2.2.2.2.2.2.2.1
  refine j_aload_n d_S_length_0 rfl ?_
  refine j_iload_n d_S_length_1 rfl ?_
  refine j_callV (vs := [_]) d_S_length_2 (by assumption) (by decide) rfl w190 w192 w1 w193 ws_S_anyNode y_S_anyNode (by decide) (by decide) (k_anyNode_0 M x hx) rfl (Nat.le_of_ble_eq_true rfl) (by decide) (by decide) (fun M1 r1 hq1 => ?_)
  obtain ⟨rfl, rfl⟩ := hq1
  refine j_astore_nN d_S_length_5 (by decide) ?_
  refine j_aload_nN d_S_length_6 rfl ?_
  refine j_ifnonnullN d_S_length_7 ?_
  refine j_iconst (v := -1) d_S_length_10 (by decide) ?_
  refine j_goto 18 d_S_length_11 (by decide) ?_
  refine j_ireturn d_S_length_18 rfl rfl ?_ (by decide) (by decide)
  exact ⟨rfl, rfl⟩
set_option maxRecDepth 20000 in
set_option maxHeartbeats 1000000 in
theorem k_known_n (M : aM) (x : Int32) (h : cSh M) (hx : x < 0 ∨ nI 12 ≤ x) : aK m_S_known 1 0 0 M [.ref 0, .int x] (fun M1 r => M1 = M ∧ r = some (.int (-1))) := by
  refine aK.of (by decide) (Nat.le_of_ble_eq_true rfl) ?_
  have h0 := h.2.1
  have hr0 := h.2.2.1
  have hr1 := h.2.2.2.1
  have hr2 := h.2.2.2.2.1
  have hA1 := h.2.2.2.2.2.1
  have hA2 := h.2.2.2.2.2.2.1
  have hA3 := h.2.2.2.2.2.2.2.1
  refine j_aload_n d_S_known_0 rfl ?_
  refine j_iload_n d_S_known_1 rfl ?_
  refine j_callV (vs := [_]) d_S_known_2 (by assumption) (by decide) rfl w190 w192 w1 w193 ws_S_anyNode y_S_anyNode (by decide) (by decide) (k_anyNode_0 M x hx) rfl (Nat.le_of_ble_eq_true rfl) (by decide) (by decide) (fun M1 r1 hq1 => ?_)
  obtain ⟨rfl, rfl⟩ := hq1
  refine j_astore_nN d_S_known_5 (by decide) ?_
  refine j_aload_nN d_S_known_6 rfl ?_
  refine j_ifnonnullN d_S_known_7 ?_
  refine j_iconst (v := -1) d_S_known_10 (by decide) ?_
  refine j_goto 18 d_S_known_11 (by decide) ?_
  refine j_ireturn d_S_known_18 rfl rfl ?_ (by decide) (by decide)
  exact ⟨rfl, rfl⟩
set_option maxRecDepth 20000 in
set_option maxHeartbeats 1000000 in
theorem k_term_n (M : aM) (x : Int32) (h : cSh M) (hx : x < 0 ∨ nI 12 ≤ x) : aK m_S_term 1 0 0 M [.ref 0, .int x] (fun M1 r => M1 = M ∧ r = some (.int (-1))) := by
  refine aK.of (by decide) (Nat.le_of_ble_eq_true rfl) ?_
  have h0 := h.2.1
  have hr0 := h.2.2.1
  have hr1 := h.2.2.2.1
  have hr2 := h.2.2.2.2.1
  have hA1 := h.2.2.2.2.2.1
  have hA2 := h.2.2.2.2.2.2.1
  have hA3 := h.2.2.2.2.2.2.2.1
  refine j_aload_n d_S_term_0 rfl ?_
  refine j_iload_n d_S_term_1 rfl ?_
  refine j_callV (vs := [_]) d_S_term_2 (by assumption) (by decide) rfl w190 w192 w1 w193 ws_S_anyNode y_S_anyNode (by decide) (by decide) (k_anyNode_0 M x hx) rfl (Nat.le_of_ble_eq_true rfl) (by decide) (by decide) (fun M1 r1 hq1 => ?_)
  obtain ⟨rfl, rfl⟩ := hq1
  refine j_astore_nN d_S_term_5 (by decide) ?_
  refine j_aload_nN d_S_term_6 rfl ?_
  refine j_ifnonnullN d_S_term_7 ?_
  refine j_iconst (v := -1) d_S_term_10 (by decide) ?_
  refine j_ireturn d_S_term_11 rfl rfl ?_ (by decide) (by decide)
  exact ⟨rfl, rfl⟩
end
section
theorem bI_0 {b : Bool} (h : bI b = 0) : b = false := by cases b; rfl; exact absurd h (by decide)
theorem bI_1 {b : Bool} (h : bI b ≠ 0) : b = true := by cases b; exact absurd rfl h; rfl
theorem bI_t {b : Bool} (h : b = true) : bI b ≠ 0 := by subst h; decide
theorem bI_f {b : Bool} (h : b = false) : bI b = 0 := by subst h; rfl
/-- what a call of the class does: its answer, the state behind it; the model's cells stay -/
def cQ (M : aM) (o : aS × Int32) : aM → Option Value → Prop := fun M1 r => r = some (.int o.2) ∧ cR M1 o.1 ∧ fM M M1
theorem fM.rf (M : aM) : fM M M := ⟨Nat.le_refl _, fun a _ _ => sm.rf M a⟩
def oCrash (S : aS) (x : Int32) : aS × Int32 := match dN x 12 with
  | none => (S, 0)
  | some n => if sUp S n = true then ((fu (sUp S) n false, fu (sLd S) n false, sT S, sLn S, sKn S, sLg S), 1) else (S, 0)
def oRecover (S : aS) (x : Int32) : aS × Int32 := match dN x 12 with
  | none => (S, 0)
  | some n => if sUp S n = true then (S, 0) else ((fu (sUp S) n true, sLd S, sT S, sLn S, sKn S, sLg S), 1)
def oLength (S : aS) (x : Int32) : aS × Int32 := match dN x 12 with
  | none => (S, -1)
  | some n => (S, nI (sLn S n))
def oKnown (S : aS) (x : Int32) : aS × Int32 := match dN x 12 with
  | none => (S, -1)
  | some n => (S, nI (sKn S n))
def oTerm (S : aS) (x : Int32) : aS × Int32 := match dN x 12 with
  | none => (S, -1)
  | some n => (S, if sLd S n = true then nI (sT S n) + 1000 else nI (sT S n))
theorem stb_nd {M : aM} {n k : Nat} {x : Int32} {M1 : aM} (hn : n < 12) (h : stb M M1) : stb M (sI M1 (nd n) k x) := h.sI (Or.inl (nd_im (i := 0) hn (by have := wd_3 n; omega)))
theorem fM_nd {M M1 : aM} {n i k : Nat} {x : Int32} (hn : n < 12) (hi : i < wd n) (h : fM M M1) : fM M (sI M1 (nd n + i) k x) := ⟨h.1, fun a h1 h2 => (h.2 a h1 h2).sI (by have := nd_in hn hi; omega)⟩
theorem fM_ndR {M M1 : aM} {n i k : Nat} {x : Option Nat} (hn : n < 12) (hi : i < wd n) (h : fM M M1) : fM M (sR M1 (nd n + i) k x) := ⟨h.1, fun a h1 h2 => (h.2 a h1 h2).sR (by have := nd_in hn hi; omega)⟩
theorem fM_mN {M M1 : aM} {kd ln : Nat} (hz : 345 ≤ mSz M) (h : fM M M1) : fM M (mN M1 kd ln) := ⟨Nat.le_succ_of_le h.1, fun a h1 h2 => (h.2 a h1 h2).mN (by have := h.1; omega)⟩
theorem fM.tr {M M1 M2 : aM} (h : fM M M1) (g : fM M1 M2) : fM M M2 := ⟨Nat.le_trans h.1 g.1, fun a h1 h2 => (h.2 a h1 h2).tr (g.2 a h1 h2)⟩
/-- of other nodes nothing changes where only node n's own cells are written -/
theorem sm_other {M M1 : aM} {m n i k : Nat} {x : Int32} (hm : m < 12) (hn : n < 12) (hmn : m ≠ n) (hi : i < wd n) (h : ∀ j, j < wd m → sm M M1 (nd m + j)) : ∀ j, j < wd m → sm M (sI M1 (nd n + i) k x) (nd m + j) := fun j hj => (h j hj).sI (nd_apart hm hn hmn hj hi)
theorem sm_otherR {M M1 : aM} {m n i k : Nat} {x : Option Nat} (hm : m < 12) (hn : n < 12) (hmn : m ≠ n) (hi : i < wd n) (h : ∀ j, j < wd m → sm M M1 (nd m + j)) : ∀ j, j < wd m → sm M (sR M1 (nd n + i) k x) (nd m + j) := fun j hj => (h j hj).sR (nd_apart hm hn hmn hj hi)
theorem cR.n {M : aM} {S : aS} (h : cR M S) {x : Int32} (hx : dN x 12 = none ∨ ∃ n, n < 12 ∧ x = nI n ∧ sUp S n = false) : nUp M x := by
  rcases hx with hx | ⟨n, hn, e, hu⟩
  · rcases dN_cases x (N := 12) (by decide) with ⟨-, h1⟩ | ⟨n, -, -, h2⟩
    · exact Or.inl h1
    · rw [hx] at h2; cases h2
  · exact Or.inr ⟨n, hn, e, by rw [(h.2 n hn).1]; exact bI_f hu⟩
theorem wd0 (n : Nat) : 0 < wd n := by have := wd_3 n; omega
theorem c_crash (M : aM) (S : aS) (x : Int32) (h : cR M S) : aK m_S_crash 2 0 0 M [.ref 0, .int x] (cQ M (oCrash S x)) := by
  rcases dN_cases x (N := 12) (by decide) with ⟨e, hx⟩ | ⟨n, hn, rfl, e⟩
  · refine (k_crash_n M x h.1 (Or.inl hx)).weaken ?_
    rintro M1 r ⟨rfl, rfl⟩
    unfold oCrash; rw [e]
    exact ⟨rfl, h, fM.rf _⟩
  · by_cases hu : sUp S n = true
    · have hu1 : mI M (nd n) 0 ≠ 0 := by rw [(h.2 n hn).1]; exact bI_t hu
      have key : aK m_S_crash 2 0 0 M [.ref 0, .int (nI n)] (fun M1 r => M1 = sI (sI M (nd n) 0 0) (nd n) 1 0 ∧ r = some (.int 1)) := by
        by_cases h3 : n < 3
        · exact k_crash_V M n h.1 h3 hu1
        · exact k_crash_T M n h.1 (by omega) hn hu1
      refine key.weaken ?_
      rintro M1 r ⟨rfl, rfl⟩
      unfold oCrash; rw [e]; simp only [hu, if_true]
      refine ⟨rfl, ⟨cSh_sI (cSh_sI h.1 (Or.inl (by decide))) (Or.inl (by decide)), fun m hm => ?_⟩, fM_nd (i := 0) hn (wd0 n) (fM_nd (i := 0) hn (wd0 n) (fM.rf M))⟩
      have st : stb M (sI (sI M (nd n) 0 0) (nd n) 1 0) := stb_nd hn (stb_nd hn (stb.rf M))
      by_cases hmn : m = n
      · subst hmn
        refine (h.2 m hm).flags st (fun i h1 h2 => ((sm.rf M _).sI (by omega)).sI (by omega)) (fun k => rfl) (fun k hk => by simp only [mm_I_sI]; rw [if_neg (by omega), if_neg (by omega)]) rfl rfl rfl ?_ ?_ ?_
        · simp only [mm_I_sI]; show _ = bI (fu (sUp S) m false m); rw [fu_s]; rfl
        · simp only [mm_I_sI]; show _ = bI (fu (sLd S) m false m); rw [fu_s]; rfl
        · simp only [mm_I_sI]; exact (h.2 m hm).2.2.1
      · exact (h.2 m hm).keep st (sm_other (i := 0) hm hn hmn (wd0 n) (sm_other (i := 0) hm hn hmn (wd0 n) (fun j _ => sm.rf M _))) (fu_n _ _ hmn) (fu_n _ _ hmn) rfl rfl rfl rfl
    · have hu0 : sUp S n = false := by cases q : sUp S n; rfl; exact absurd q hu
      refine (k_crash_n M (nI n) h.1 (h.n (Or.inr ⟨n, hn, rfl, hu0⟩))).weaken ?_
      rintro M1 r ⟨rfl, rfl⟩
      unfold oCrash; rw [e]; simp only [hu0]
      exact ⟨rfl, h, fM.rf _⟩
theorem c_recover (M : aM) (S : aS) (x : Int32) (h : cR M S) : aK m_S_recover 1 0 0 M [.ref 0, .int x] (cQ M (oRecover S x)) := by
  rcases dN_cases x (N := 12) (by decide) with ⟨e, hx⟩ | ⟨n, hn, rfl, e⟩
  · refine (k_recover_n M x h.1 hx).weaken ?_
    rintro M1 r ⟨rfl, rfl⟩
    unfold oRecover; rw [e]
    exact ⟨rfl, h, fM.rf _⟩
  · by_cases hu : sUp S n = true
    · have hu1 : mI M (nd n) 0 ≠ 0 := by rw [(h.2 n hn).1]; exact bI_t hu
      have key : aK m_S_recover 1 0 0 M [.ref 0, .int (nI n)] (fun M1 r => M1 = M ∧ r = some (.int 0)) := by
        by_cases h3 : n < 3
        · exact k_recover_Vn M n h.1 h3 hu1
        · exact k_recover_Tn M n h.1 (by omega) hn hu1
      refine key.weaken ?_
      rintro M1 r ⟨rfl, rfl⟩
      unfold oRecover; rw [e]; simp only [hu, if_true]
      exact ⟨rfl, h, fM.rf _⟩
    · have hu0 : sUp S n = false := by cases q : sUp S n; rfl; exact absurd q hu
      have hu1 : mI M (nd n) 0 = 0 := by rw [(h.2 n hn).1]; exact bI_f hu0
      have key : aK m_S_recover 1 0 0 M [.ref 0, .int (nI n)] (fun M1 r => M1 = sI M (nd n) 0 1 ∧ r = some (.int 1)) := by
        by_cases h3 : n < 3
        · exact k_recover_V M n h.1 h3 hu1
        · exact k_recover_T M n h.1 (by omega) hn hu1
      refine key.weaken ?_
      rintro M1 r ⟨rfl, rfl⟩
      unfold oRecover; rw [e]; simp only [hu0]
      refine ⟨rfl, ⟨cSh_sI h.1 (Or.inl (by decide)), fun m hm => ?_⟩, fM_nd (i := 0) hn (wd0 n) (fM.rf M)⟩
      have st : stb M (sI M (nd n) 0 1) := stb_nd hn (stb.rf M)
      by_cases hmn : m = n
      · subst hmn
        refine (h.2 m hm).flags st (fun i h1 h2 => (sm.rf M _).sI (by omega)) (fun k => rfl) (fun k hk => by simp only [mm_I_sI]; rw [if_neg (by omega)]) rfl rfl rfl ?_ ?_ ?_
        · simp only [mm_I_sI]; show _ = bI (fu (sUp S) m true m); rw [fu_s]; rfl
        · simp only [mm_I_sI]; exact (h.2 m hm).2.1
        · simp only [mm_I_sI]; exact (h.2 m hm).2.2.1
      · exact (h.2 m hm).keep st (sm_other (i := 0) hm hn hmn (wd0 n) (fun j _ => sm.rf M _)) (fu_n _ _ hmn) rfl rfl rfl rfl rfl
theorem c_length (M : aM) (S : aS) (x : Int32) (h : cR M S) : aK m_S_length 1 0 0 M [.ref 0, .int x] (cQ M (oLength S x)) := by
  rcases dN_cases x (N := 12) (by decide) with ⟨e, hx⟩ | ⟨n, hn, rfl, e⟩
  · refine (k_length_n M x h.1 hx).weaken ?_
    rintro M1 r ⟨rfl, rfl⟩
    unfold oLength; rw [e]
    exact ⟨rfl, h, fM.rf _⟩
  · have key : aK m_S_length 1 0 0 M [.ref 0, .int (nI n)] (fun M1 r => M1 = M ∧ r = some (.int (mI M (nd n) 3))) := by
      by_cases h3 : n < 3
      · exact k_length_V M n h.1 h3
      · exact k_length_T M n h.1 (by omega) hn
    refine key.weaken ?_
    rintro M1 r ⟨rfl, rfl⟩
    unfold oLength; rw [e]
    exact ⟨by rw [(h.2 n hn).2.2.2.2.1.1], h, fM.rf _⟩
theorem c_known (M : aM) (S : aS) (x : Int32) (h : cR M S) : aK m_S_known 1 0 0 M [.ref 0, .int x] (cQ M (oKnown S x)) := by
  rcases dN_cases x (N := 12) (by decide) with ⟨e, hx⟩ | ⟨n, hn, rfl, e⟩
  · refine (k_known_n M x h.1 hx).weaken ?_
    rintro M1 r ⟨rfl, rfl⟩
    unfold oKnown; rw [e]
    exact ⟨rfl, h, fM.rf _⟩
  · have key : aK m_S_known 1 0 0 M [.ref 0, .int (nI n)] (fun M1 r => M1 = M ∧ r = some (.int (mI M (nd n) 4))) := by
      by_cases h3 : n < 3
      · exact k_known_V M n h.1 h3
      · exact k_known_T M n h.1 (by omega) hn
    refine key.weaken ?_
    rintro M1 r ⟨rfl, rfl⟩
    unfold oKnown; rw [e]
    exact ⟨by rw [(h.2 n hn).2.2.2.1], h, fM.rf _⟩
theorem c_term (M : aM) (S : aS) (x : Int32) (h : cR M S) : aK m_S_term 1 0 0 M [.ref 0, .int x] (cQ M (oTerm S x)) := by
  rcases dN_cases x (N := 12) (by decide) with ⟨e, hx⟩ | ⟨n, hn, rfl, e⟩
  · refine (k_term_n M x h.1 hx).weaken ?_
    rintro M1 r ⟨rfl, rfl⟩
    unfold oTerm; rw [e]
    exact ⟨rfl, h, fM.rf _⟩
  · have key : aK m_S_term 1 0 0 M [.ref 0, .int (nI n)] (fun M1 r => M1 = M ∧ r = some (.int (if mI M (nd n) 1 = 0 then mI M (nd n) 2 else mI M (nd n) 2 + 1000))) := by
      by_cases h3 : n < 3
      · exact k_term_V M n h.1 h3
      · exact k_term_T M n h.1 (by omega) hn
    refine key.weaken ?_
    rintro M1 r ⟨rfl, rfl⟩
    unfold oTerm; rw [e]
    refine ⟨?_, h, fM.rf _⟩
    rw [(h.2 n hn).2.1, (h.2 n hn).2.2.1]
    show _ = some (Value.int (if sLd S n = true then nI (sT S n) + 1000 else nI (sT S n)))
    cases q : sLd S n
    · simp [bI]
    · simp [bI]
end
section
set_option maxRecDepth 20000 in
set_option maxHeartbeats 1000000 in
theorem k_E_init_E (M : aM) (o : Nat) (t : Int32) (ho : tO M o 5) : aK m_E_init 1 0 0 M [.ref o, .int t] (fun M1 r => r = none ∧ M1 = sI M o 0 t) := by
  refine aK.of (by decide) (Nat.le_of_ble_eq_true rfl) ?_
  refine j_aload_n d_E_init_0 rfl ?_
  refine j_objInit d_E_init_1 w238 w22 w23 (by decide) (Nat.le_of_ble_eq_true rfl) ?_
  refine j_aload_n d_E_init_4 rfl ?_
  refine j_iload_n d_E_init_5 rfl ?_
  refine j_putiF d_E_init_6 (by assumption) p_E_7_E rfl (by decide) rfl rfl rfl ?_
  refine j_return d_E_init_9 rfl ?_ (by decide) (by decide)
  exact ⟨rfl, rfl⟩
set_option maxRecDepth 20000 in
set_option maxHeartbeats 1000000 in
theorem k_E_init_G (M : aM) (o : Nat) (t : Int32) (ho : tO M o 6) : aK m_E_init 1 0 0 M [.ref o, .int t] (fun M1 r => r = none ∧ M1 = sI M o 0 t) := by
  refine aK.of (by decide) (Nat.le_of_ble_eq_true rfl) ?_
  refine j_aload_n d_E_init_0 rfl ?_
  refine j_objInit d_E_init_1 w238 w22 w23 (by decide) (Nat.le_of_ble_eq_true rfl) ?_
  refine j_aload_n d_E_init_4 rfl ?_
  refine j_iload_n d_E_init_5 rfl ?_
  refine j_putiF d_E_init_6 (by assumption) p_E_7_G rfl (by decide) rfl rfl rfl ?_
  refine j_return d_E_init_9 rfl ?_ (by decide) (by decide)
  exact ⟨rfl, rfl⟩
set_option maxRecDepth 20000 in
set_option maxHeartbeats 1000000 in
theorem k_E_init_F (M : aM) (o : Nat) (t : Int32) (ho : tO M o 7) : aK m_E_init 1 0 0 M [.ref o, .int t] (fun M1 r => r = none ∧ M1 = sI M o 0 t) := by
  refine aK.of (by decide) (Nat.le_of_ble_eq_true rfl) ?_
  refine j_aload_n d_E_init_0 rfl ?_
  refine j_objInit d_E_init_1 w238 w22 w23 (by decide) (Nat.le_of_ble_eq_true rfl) ?_
  refine j_aload_n d_E_init_4 rfl ?_
  refine j_iload_n d_E_init_5 rfl ?_
  refine j_putiF d_E_init_6 (by assumption) p_E_7_F rfl (by decide) rfl rfl rfl ?_
  refine j_return d_E_init_9 rfl ?_ (by decide) (by decide)
  exact ⟨rfl, rfl⟩
set_option maxRecDepth 20000 in
set_option maxHeartbeats 1000000 in
theorem k_E_init_R (M : aM) (o : Nat) (t : Int32) (ho : tO M o 8) : aK m_E_init 1 0 0 M [.ref o, .int t] (fun M1 r => r = none ∧ M1 = sI M o 0 t) := by
  refine aK.of (by decide) (Nat.le_of_ble_eq_true rfl) ?_
  refine j_aload_n d_E_init_0 rfl ?_
  refine j_objInit d_E_init_1 w238 w22 w23 (by decide) (Nat.le_of_ble_eq_true rfl) ?_
  refine j_aload_n d_E_init_4 rfl ?_
  refine j_iload_n d_E_init_5 rfl ?_
  refine j_putiF d_E_init_6 (by assumption) p_E_7_R rfl (by decide) rfl rfl rfl ?_
  refine j_return d_E_init_9 rfl ?_ (by decide) (by decide)
  exact ⟨rfl, rfl⟩
set_option maxRecDepth 20000 in
set_option maxHeartbeats 1000000 in
theorem k_E_init_I (M : aM) (o : Nat) (t : Int32) (ho : tO M o 9) : aK m_E_init 1 0 0 M [.ref o, .int t] (fun M1 r => r = none ∧ M1 = sI M o 0 t) := by
  refine aK.of (by decide) (Nat.le_of_ble_eq_true rfl) ?_
  refine j_aload_n d_E_init_0 rfl ?_
  refine j_objInit d_E_init_1 w238 w22 w23 (by decide) (Nat.le_of_ble_eq_true rfl) ?_
  refine j_aload_n d_E_init_4 rfl ?_
  refine j_iload_n d_E_init_5 rfl ?_
  refine j_putiF d_E_init_6 (by assumption) p_E_7_I rfl (by decide) rfl rfl rfl ?_
  refine j_return d_E_init_9 rfl ?_ (by decide) (by decide)
  exact ⟨rfl, rfl⟩
set_option maxRecDepth 20000 in
set_option maxHeartbeats 1000000 in
theorem k_E_init_D (M : aM) (o : Nat) (t : Int32) (ho : tO M o 10) : aK m_E_init 1 0 0 M [.ref o, .int t] (fun M1 r => r = none ∧ M1 = sI M o 0 t) := by
  refine aK.of (by decide) (Nat.le_of_ble_eq_true rfl) ?_
  refine j_aload_n d_E_init_0 rfl ?_
  refine j_objInit d_E_init_1 w238 w22 w23 (by decide) (Nat.le_of_ble_eq_true rfl) ?_
  refine j_aload_n d_E_init_4 rfl ?_
  refine j_iload_n d_E_init_5 rfl ?_
  refine j_putiF d_E_init_6 (by assumption) p_E_7_D rfl (by decide) rfl rfl rfl ?_
  refine j_return d_E_init_9 rfl ?_ (by decide) (by decide)
  exact ⟨rfl, rfl⟩
set_option maxRecDepth 20000 in
set_option maxHeartbeats 1000000 in
theorem k_G_init (M : aM) (o : Nat) (t k a b : Int32) (ho : tO M o 6) : aK m_G_init 2 0 0 M [.ref o, .int t, .int k, .int a, .int b] (fun M1 r => r = none ∧ M1 = sI (sI (sI (sI M o 0 t) o 1 k) o 2 a) o 3 b) := by
  refine aK.of (by decide) (Nat.le_of_ble_eq_true rfl) ?_
  refine j_aload_n d_G_init_0 rfl ?_
  refine j_iload_n d_G_init_1 rfl ?_
  refine j_callI (vs := [_]) d_G_init_2 w443 w236 w9 w237 rfl rfl y_E_init (by decide) (by decide) (k_E_init_G M o t ho) rfl (Nat.le_of_ble_eq_true rfl) (by decide) (by decide) (fun M1 r1 hq1 => ?_)
  obtain ⟨rfl, rfl⟩ := hq1
  refine j_aload_n d_G_init_5 rfl ?_
  refine j_iload_n d_G_init_6 rfl ?_
  refine j_putiF d_G_init_7 (by assumption) p_G_9_G rfl (by decide) rfl rfl rfl ?_
  refine j_aload_n d_G_init_10 rfl ?_
  refine j_iload_n d_G_init_11 rfl ?_
  refine j_putiF d_G_init_12 (by assumption) p_G_15_G rfl (by decide) rfl rfl rfl ?_
  refine j_aload_n d_G_init_15 rfl ?_
  refine j_iload d_G_init_16 rfl ?_
  refine j_putiF d_G_init_18 (by assumption) p_G_18_G rfl (by decide) rfl rfl rfl ?_
  refine j_return d_G_init_21 rfl ?_ (by decide) (by decide)
  exact ⟨rfl, rfl⟩
set_option maxRecDepth 20000 in
set_option maxHeartbeats 1000000 in
theorem k_R_init (M : aM) (o : Nat) (t x1 x2 x3 x4 x5 : Int32) (ho : tO M o 8) : aK m_R_init 2 0 0 M [.ref o, .int t, .int x1, .int x2, .int x3, .int x4, .int x5] (fun M1 r => r = none ∧ M1 = sI (sI (sI (sI (sI (sI M o 0 t) o 1 x1) o 2 x2) o 3 x3) o 4 x4) o 5 x5) := by
  refine aK.of (by decide) (Nat.le_of_ble_eq_true rfl) ?_
  refine j_aload_n d_R_init_0 rfl ?_
  refine j_iload_n d_R_init_1 rfl ?_
  refine j_callI (vs := [_]) d_R_init_2 w482 w236 w9 w237 rfl rfl y_E_init (by decide) (by decide) (k_E_init_R M o t ho) rfl (Nat.le_of_ble_eq_true rfl) (by decide) (by decide) (fun M1 r1 hq1 => ?_)
  obtain ⟨rfl, rfl⟩ := hq1
  refine j_aload_n d_R_init_5 rfl ?_
  refine j_iload_n d_R_init_6 rfl ?_
  refine j_putiF d_R_init_7 (by assumption) p_R_7_R rfl (by decide) rfl rfl rfl ?_
  refine j_aload_n d_R_init_10 rfl ?_
  refine j_iload_n d_R_init_11 rfl ?_
  refine j_putiF d_R_init_12 (by assumption) p_R_13_R rfl (by decide) rfl rfl rfl ?_
  refine j_aload_n d_R_init_15 rfl ?_
  refine j_iload d_R_init_16 rfl ?_
  refine j_putiF d_R_init_18 (by assumption) p_R_16_R rfl (by decide) rfl rfl rfl ?_
  refine j_aload_n d_R_init_21 rfl ?_
  refine j_iload d_R_init_22 rfl ?_
  refine j_putiF d_R_init_24 (by assumption) p_R_19_R rfl (by decide) rfl rfl rfl ?_
  refine j_aload_n d_R_init_27 rfl ?_
  refine j_iload d_R_init_28 rfl ?_
  refine j_putiF d_R_init_30 (by assumption) p_R_22_R rfl (by decide) rfl rfl rfl ?_
  refine j_return d_R_init_33 rfl ?_ (by decide) (by decide)
  exact ⟨rfl, rfl⟩
set_option maxRecDepth 20000 in
set_option maxHeartbeats 1000000 in
theorem k_F_init (M : aM) (o : Nat) (t k : Int32) (q : Nat) (ho : tO M o 7) : aK m_F_init 2 0 0 M [.ref o, .int t, .int k, .ref q] (fun M1 r => r = none ∧ M1 = sR (sI (sI M o 0 t) o 1 k) o 2 (some q)) := by
  refine aK.of (by decide) (Nat.le_of_ble_eq_true rfl) ?_
  refine j_aload_n d_F_init_0 rfl ?_
  refine j_iload_n d_F_init_1 rfl ?_
  refine j_callI (vs := [_]) d_F_init_2 w518 w236 w9 w237 rfl rfl y_E_init (by decide) (by decide) (k_E_init_F M o t ho) rfl (Nat.le_of_ble_eq_true rfl) (by decide) (by decide) (fun M1 r1 hq1 => ?_)
  obtain ⟨rfl, rfl⟩ := hq1
  refine j_aload_n d_F_init_5 rfl ?_
  refine j_iload_n d_F_init_6 rfl ?_
  refine j_putiF d_F_init_7 (by assumption) p_F_7_F rfl (by decide) rfl rfl rfl ?_
  refine j_aload_n d_F_init_10 rfl ?_
  refine j_aload_n d_F_init_11 rfl ?_
  refine j_putRF d_F_init_12 (by assumption) p_F_13_F rfl (by decide) (fun z => by cases z <;> rfl) (fun z => by cases z <;> rfl) rfl ?_
  refine j_return d_F_init_15 rfl ?_ (by decide) (by decide)
  exact ⟨rfl, rfl⟩
set_option maxRecDepth 20000 in
set_option maxHeartbeats 1000000 in
theorem k_D_init (M : aM) (o : Nat) (t x1 x2 : Int32) (ho : tO M o 10) : aK m_D_init 2 0 0 M [.ref o, .int t, .int x1, .int x2] (fun M1 r => r = none ∧ M1 = sI (sI (sI M o 0 t) o 1 x1) o 2 x2) := by
  refine aK.of (by decide) (Nat.le_of_ble_eq_true rfl) ?_
  refine j_aload_n d_D_init_0 rfl ?_
  refine j_iload_n d_D_init_1 rfl ?_
  refine j_callI (vs := [_]) d_D_init_2 w563 w236 w9 w237 rfl rfl y_E_init (by decide) (by decide) (k_E_init_D M o t ho) rfl (Nat.le_of_ble_eq_true rfl) (by decide) (by decide) (fun M1 r1 hq1 => ?_)
  obtain ⟨rfl, rfl⟩ := hq1
  refine j_aload_n d_D_init_5 rfl ?_
  refine j_iload_n d_D_init_6 rfl ?_
  refine j_putiF d_D_init_7 (by assumption) p_D_9_D rfl (by decide) rfl rfl rfl ?_
  refine j_aload_n d_D_init_10 rfl ?_
  refine j_iload_n d_D_init_11 rfl ?_
  refine j_putiF d_D_init_12 (by assumption) p_D_15_D rfl (by decide) rfl rfl rfl ?_
  refine j_return d_D_init_15 rfl ?_ (by decide) (by decide)
  exact ⟨rfl, rfl⟩
def oWr (S : aS) (n : Nat) (E : Nat → Nat) : aS × Int32 := if sLn S n = 80 then (S, -3) else ((sUp S, sLd S, sT S, fu (sLn S) n (sLn S n + 1), sKn S, fu (sLg S) n (fu (sLg S n) (sLn S n) E)), nI (sLn S n + 1))
def eM (l : List Nat) : Nat → Nat := fun i => l.getD i 0
theorem svc_congr {l1 l2 : aLg} : ∀ K, (∀ k, k < K → l1 k = l2 k) → svc l1 K = svc l2 K
  | 0, _ => rfl
  | K + 1, h => by
    show svStep (svc l1 K) (l1 K) = svStep (svc l2 K) (l2 K)
    rw [svc_congr K (fun k hk => h k (by omega)), h K (by omega)]
theorem grp_congr {g : Nat} {l1 l2 : aLg} : ∀ K, (∀ k, k < K → l1 k = l2 k) → grp g l1 K = grp g l2 K
  | 0, _ => rfl
  | K + 1, h => by
    show gpStep g (grp g l1 K) (l1 K) = gpStep g (grp g l2 K) (l2 K)
    rw [grp_congr K (fun k hk => h k (by omega)), h K (by omega)]
theorem cSh_sm {M M1 : aM} (hz : mSz M ≤ mSz M1) (hs : ∀ a, a < 332 → sm M M1 a) (h : cSh M) : cSh M1 := by
  obtain ⟨h0, h1, h2, h3, h4, h5, h6, h7, h8, h9, ha, hb⟩ := h
  refine ⟨by omega, (hs 0 (by omega)).tO hz h1, (hs 0 (by omega)).R h2, (hs 0 (by omega)).R h3, (hs 0 (by omega)).R h4, (hs 1 (by omega)).tA hz h5, (hs 2 (by omega)).tA hz h6, (hs 3 (by omega)).tA hz h7, fun n hn => ?_, fun n hn => ?_, fun n hn => ?_, fun n g1 g2 => ?_⟩
  · obtain ⟨b1, b2, b3, b4⟩ := h8 n hn
    have := nd_hi hn
    exact ⟨(hs 1 (by omega)).R b1, (hs (nd n) (by omega)).tO hz b2, (hs (nd n) (by omega)).R b3, (hs (nd n + 1) (by omega)).tA hz b4⟩
  · obtain ⟨b1, b2, b3⟩ := h9 n hn
    have := nd_hi (show n < 12 by omega)
    exact ⟨(hs 2 (by omega)).R b1, (hs (nd n) (by omega)).R b2, (hs (nd n + 2) (by omega)).tA hz b3⟩
  · exact (hs 3 (by omega)).R (ha n hn)
  · obtain ⟨b1, b2, b3, b4⟩ := hb n g1 g2
    have := nd_hi3 g2 g1
    refine ⟨(hs (nd n) (by omega)).I b1, (hs (nd n) (by omega)).R b2, (hs (nd n + 2) (by omega)).tA hz b3, fun s hs1 => ?_⟩
    obtain ⟨c1, c2, c3, c4, c5, c6, c7, c8⟩ := b4 s hs1
    have e0 := hs (nd n + 3 + 4 * s) (by omega)
    exact ⟨(hs (nd n + 2) (by omega)).R c1, e0.tO hz c2, e0.R c3, e0.R c4, e0.R c5, (hs (nd n + 3 + 4 * s + 1) (by omega)).tA hz c6, (hs (nd n + 3 + 4 * s + 2) (by omega)).tA hz c7, (hs (nd n + 3 + 4 * s + 3) (by omega)).tA hz c8⟩
theorem cR_sm {M M1 : aM} {S : aS} (st : stb M M1) (hs : ∀ a, a < 332 → sm M M1 a) (h : cR M S) : cR M1 S :=
  ⟨cSh_sm st.1 hs h.1, fun n hn => (h.2 n hn).keep st (fun i hi => hs _ (nd_in hn hi).2) rfl rfl rfl rfl rfl rfl⟩
/-- an entry comes to the end of a log -/
theorem cR_write {M : aM} {S : aS} {n e : Nat} {E : Nat → Nat} (h : cR M S) (hn : n < 12) (he : eR M e E) (hl : sLn S n < 80) (hk : sKn S n ≤ sLn S n) :
    cR (sI (sR M (nd n + 1) (sLn S n) (some e)) (nd n) 3 (nI (sLn S n + 1))) (oWr S n E).1 := by
  have w := wd_3 n
  unfold oWr
  rw [if_neg (by omega)]
  have hfx : ¬ fx (nd n + 1) (sLn S n) := by
    have := nd_lo n
    rintro (q | ⟨m, q1, q2, -⟩ | ⟨m, q1, q2, q3⟩ | ⟨m, s, q1, q2, q3, q4⟩)
    · omega
    · by_cases e9 : n = m
      · subst e9; omega
      · exact nd_apart (i := 1) (j := 0) hn q1 e9 (by omega) (by have := wd_3 m; omega) q2
    · by_cases e9 : n = m
      · subst e9; omega
      · exact nd_apart (i := 1) (j := 2) hn q2 e9 (by omega) (by have := wd_3 m; omega) q3
    · by_cases e9 : n = m
      · subst e9; omega
      · exact nd_apart (i := 1) (j := 3 + 4 * s) hn q2 e9 (by omega) (by rw [wd_35 q1]; omega) (by omega)
  have st : stb M (sI (sR M (nd n + 1) (sLn S n) (some e)) (nd n) 3 (nI (sLn S n + 1))) := stb_nd hn ((stb.rf M).sR (Or.inl (nd_im hn (by omega))))
  refine ⟨cSh_sI (cSh_sR h.1 hfx) (Or.inl (by decide)), fun m hm => ?_⟩
  by_cases hmn : m = n
  · subst hmn
    obtain ⟨a0, a1, a2, a4, ⟨a5, a6⟩, a7, a8⟩ := h.2 m hm
    refine ⟨?_, ?_, ?_, ?_, ⟨?_, fun k hk1 => ?_⟩, fun h3 => ?_, fun h3 => ?_⟩
    · rw [mm_I_sI, if_neg (by omega)]; exact a0
    · rw [mm_I_sI, if_neg (by omega)]; exact a1
    · rw [mm_I_sI, if_neg (by omega)]; exact a2
    · rw [mm_I_sI, if_neg (by omega)]; exact a4
    · rw [mm_I_sI, if_pos ⟨rfl, rfl⟩]; show _ = nI (fu (sLn S) m (sLn S m + 1) m); rw [fu_s]
    · have hk2 : k < sLn S m + 1 := by
        have : k < fu (sLn S) m (sLn S m + 1) m := hk1
        rw [fu_s] at this; exact this
      show ∃ e, _ ∧ eR _ e (fu (sLg S) m (fu (sLg S m) (sLn S m) E) m k)
      rw [fu_s, mm_R_sI, mm_R_sR]
      by_cases q : k = sLn S m
      · subst q
        rw [if_pos ⟨rfl, rfl⟩, fu_s]
        exact ⟨e, rfl, he.st st⟩
      · rw [if_neg (fun z => q z.2), fu_n _ _ q]
        obtain ⟨e1, b1, b2⟩ := a6 k (by omega)
        exact ⟨e1, b1, b2.st st⟩
    · have e9 : sSv (sUp S, sLd S, sT S, fu (sLn S) m (sLn S m + 1), sKn S, fu (sLg S) m (fu (sLg S m) (sLn S m) E)) m = sSv S m := by
        show svc (fu (sLg S) m (fu (sLg S m) (sLn S m) E) m) (sKn S m) = svc (sLg S m) (sKn S m)
        rw [fu_s]
        exact svc_congr _ (fun k hk1 => fu_n _ _ (by omega))
      rw [e9]
      refine (a7 h3).keep st ?_ (fun k => ?_)
      · rw [mm_I_sI, if_neg (by omega)]; rfl
      · rw [mm_R_sI, mm_R_sR, if_neg (by omega)]
    · have e9 : sGp (sUp S, sLd S, sT S, fu (sLn S) m (sLn S m + 1), sKn S, fu (sLg S) m (fu (sLg S m) (sLn S m) E)) m = sGp S m := by
        show grp (m / 3) (fu (sLg S) m (fu (sLg S m) (sLn S m) E) m) (sKn S m) = grp (m / 3) (sLg S m) (sKn S m)
        rw [fu_s]
        exact grp_congr _ (fun k hk1 => fu_n _ _ (by omega))
      rw [e9]
      refine (a8 h3).keep st ?_ ?_ (fun i h1 h2 k => ?_)
      · rw [mm_I_sI, if_neg (by omega)]; rfl
      · rw [mm_R_sI, mm_R_sR, if_neg (by omega)]
      · rw [mm_I_sI, if_neg (by omega)]; rfl
  · exact (h.2 m hm).keep st (sm_other (i := 0) hm hn hmn (wd0 n) (sm_otherR hm hn hmn (by omega) (fun j _ => sm.rf M _))) rfl rfl rfl (fu_n _ _ hmn) rfl (fu_n _ _ hmn)
theorem fM_write {M : aM} {n k e : Nat} {x : Int32} (hn : n < 12) : fM M (sI (sR M (nd n + 1) k (some e)) (nd n) 3 x) := fM_nd (i := 0) hn (wd0 n) (fM_ndR hn (by have := wd_3 n; omega) (fM.rf M))
/-- a new cell, and writes to it alone -/
def onew (M M1 : aM) : Prop := mSz M ≤ mSz M1 ∧ ∀ a, a < mSz M → sm M M1 a
theorem onew.rf (M : aM) : onew M M := ⟨Nat.le_refl _, fun a _ => sm.rf M a⟩
theorem onew.mN {M M1 : aM} {kd ln : Nat} (h : onew M M1) : onew M (mN M1 kd ln) := ⟨Nat.le_succ_of_le h.1, fun a ha => (h.2 a ha).mN (by have := h.1; omega)⟩
theorem onew.sI {M M1 : aM} {o k : Nat} {x : Int32} (h : onew M M1) (ho : mSz M ≤ o) : onew M (sI M1 o k x) := ⟨h.1, fun a ha => (h.2 a ha).sI (by omega)⟩
theorem onew.sR {M M1 : aM} {o k : Nat} {x : Option Nat} (h : onew M M1) (ho : mSz M ≤ o) : onew M (sR M1 o k x) := ⟨h.1, fun a ha => (h.2 a ha).sR (by omega)⟩
theorem onew.sC {M M1 : aM} {o sp q dp n : Nat} (h : onew M M1) (ho : mSz M ≤ q) : onew M (sC M1 o sp q dp n) := ⟨h.1, fun a ha => (h.2 a ha).sC (by omega)⟩
theorem onew.stb {M M1 : aM} (h : onew M M1) : stb M M1 := ⟨h.1, fun a _ ha => h.2 a ha⟩
theorem onew.cR {M M1 : aM} {S : aS} (h : onew M M1) (g : cR M S) : cR M1 S := cR_sm h.stb (fun a ha => h.2 a (by have := g.1.1; omega)) g
theorem onew.fM {M M1 : aM} (hz : 345 ≤ mSz M) (h : onew M M1) : fM M M1 := ⟨h.1, fun a _ h2 => h.2 a (by omega)⟩
end
section
abbrev chOk (k a b : Int32) : Prop := (k = 2 ∧ (0 ≤ a ∧ a < 8) ∧ (1 ≤ b ∧ b < 4)) ∨ ((k = 0 ∨ k = 1) ∧ (1 ≤ a ∧ a < 4))
abbrev rqOk (c n k y v : Int32) : Prop := (0 ≤ c ∧ c < 3) ∧ (0 ≤ y ∧ y < 16) ∧ 1 ≤ n ∧ n ≤ 999 ∧ 0 ≤ k ∧ k ≤ 2 ∧ 0 ≤ v ∧ v < 1000
def iN (x : Int32) : Nat := x.toNatClampNeg
def eCh (t k a b : Nat) : Nat → Nat := eM [t, 1 + k, a, if k = 2 then b else 0]
def eRq (t c n k y v : Nat) : Nat → Nat := eM [t, 5, c, n, k, y, v]
def oChange (S : aS) (x k a b : Int32) : aS × Int32 := match dN x 3 with
  | none => (S, -1)
  | some n => if sUp S n = true ∧ chOk k a b then (if sLd S n = true then oWr S n (eCh (sT S n) (iN k) (iN a) (iN b)) else (S, -2)) else (S, -1)
def dG (x : Int32) : Option Nat := if 3 ≤ x ∧ x < 12 then some (iN x) else none
def oRequest (S : aS) (x c n k y v : Int32) : aS × Int32 := match dG x with
  | none => (S, -1)
  | some m => if sUp S m = true ∧ rqOk c n k y v then (if sLd S m = true then oWr S m (eRq (sT S m) (iN c) (iN n) (iN k) (iN y) (iN v)) else (S, -2)) else (S, -1)
theorem dG_cases (x : Int32) : (dG x = none ∧ (x < 3 ∨ nI 12 ≤ x)) ∨ ∃ n, 3 ≤ n ∧ n < 12 ∧ x = nI n ∧ dG x = some n := by
  by_cases h1 : x < 3
  · exact Or.inl ⟨if_neg (fun q => Int32.not_lt.mpr q.1 h1), Or.inl h1⟩
  · by_cases h2 : nI 12 ≤ x
    · exact Or.inl ⟨if_neg (fun q => Int32.not_lt.mpr h2 q.2), Or.inr h2⟩
    · have h0 : ¬ x < 0 := fun q => h1 (Int32.lt_trans q (by decide))
      rcases pk_ix x (n := 12) (by decide) with h | h | ⟨j, g1, g2⟩
      · exact absurd h h0
      · exact absurd h h2
      · subst g2
        have g3 : 3 ≤ j := i_nlt (b := 3) (by omega) (by decide) h1
        refine Or.inr ⟨j, g3, g1, rfl, ?_⟩
        unfold dG
        rw [if_pos ⟨Int32.not_lt.mp h1, Int32.not_le.mp h2⟩]
        unfold iN
        rw [nI_clamp (by omega)]
theorem iN_nI {x : Int32} (h : 0 ≤ x) : nI (iN x) = x := by
  rcases nI_of (x := x) (Int32.not_lt.mpr h) with ⟨j, h1, rfl⟩
  unfold iN
  rw [nI_clamp h1]
theorem iN_lt {x : Int32} {n : Nat} (hn : n < 2 ^ 31) (h0 : 0 ≤ x) (h : x < nI n) : iN x < n := by
  rcases nI_of (x := x) (Int32.not_lt.mpr h0) with ⟨j, h1, rfl⟩
  unfold iN
  rw [nI_clamp h1]
  exact i_lt h1 hn h
theorem iN_ge {x : Int32} {n : Nat} (hn : n < 2 ^ 31) (h0 : 0 ≤ x) (h : nI n ≤ x) : n ≤ iN x := by
  rcases nI_of (x := x) (Int32.not_lt.mpr h0) with ⟨j, h1, rfl⟩
  unfold iN
  rw [nI_clamp h1]
  exact i_le hn h1 h

set_option maxRecDepth 20000 in
set_option maxHeartbeats 1000000 in
theorem k_isChange (M : aM) (k a b : Int32) : aK m_S_isChange 1 0 0 M [.int k, .int a, .int b] (fun M1 r => M1 = M ∧ r = some (.int (bP (chOk k a b)))) := by
  refine aK.of (by decide) (Nat.le_of_ble_eq_true rfl) ?_
  refine j_iload_n d_S_isChange_0 rfl ?_
  refine j_iconst (v := 2) d_S_isChange_1 (by decide) ?_
  refine j_icmp_ne (tgt := 25) d_S_isChange_2 (by decide) (fun h2 => ?_) (fun h2 => ?_)
  · refine j_iload_n d_S_isChange_25 rfl ?_
    refine j_if_eq (tgt := 34) d_S_isChange_26 (by decide) (fun h26 => ?_) (fun h26 => ?_)
    · have hk : k = 0 ∨ k = 1 := Or.inl h26
      refine j_iload_n d_S_isChange_34 rfl ?_
      refine j_callS (vs := [_]) d_S_isChange_35 w436 w437 w1 w438 y_S_isOwningGroup (by decide) (by decide) (k_isOwningGroup M a) rfl (Nat.le_of_ble_eq_true rfl) (by decide) (by decide) (fun M1 r1 hq1 => ?_)
      obtain ⟨rfl, rfl⟩ := hq1
      refine j_if_eq (tgt := 45) d_S_isChange_38 (by decide) (fun h38 => ?_) (fun h38 => ?_)
      · have hb : bP (chOk k a b) = 0 := bP_f (fun q => q.elim (fun q => h2 q.1) (fun q => absurd (bP_t q.2) (by rw [h38]; decide)))
        refine j_iconst (v := 0) d_S_isChange_45 (by decide) ?_
        refine j_ireturn d_S_isChange_46 rfl rfl ?_ (by decide) (by decide)
        exact ⟨rfl, by rw [hb]⟩
      · have hb : bP (chOk k a b) = 1 := bP_t (Or.inr ⟨hk, Decidable.byContradiction (fun q => h38 (bP_f q))⟩)
        refine j_iconst (v := 1) d_S_isChange_41 (by decide) ?_
        refine j_goto 46 d_S_isChange_42 (by decide) ?_
        refine j_ireturn d_S_isChange_46 rfl rfl ?_ (by decide) (by decide)
        exact ⟨rfl, by rw [hb]⟩
    · refine j_iload_n d_S_isChange_29 rfl ?_
      refine j_iconst (v := 1) d_S_isChange_30 (by decide) ?_
      refine j_icmp_ne (tgt := 45) d_S_isChange_31 (by decide) (fun h31 => ?_) (fun h31 => ?_)
      · have hb : bP (chOk k a b) = 0 := bP_f (fun q => q.elim (fun q => h2 q.1) (fun q => q.1.elim h26 h31))
        refine j_iconst (v := 0) d_S_isChange_45 (by decide) ?_
        refine j_ireturn d_S_isChange_46 rfl rfl ?_ (by decide) (by decide)
        exact ⟨rfl, by rw [hb]⟩
      · have hk : k = 0 ∨ k = 1 := Or.inr h31
        refine j_iload_n d_S_isChange_34 rfl ?_
        refine j_callS (vs := [_]) d_S_isChange_35 w436 w437 w1 w438 y_S_isOwningGroup (by decide) (by decide) (k_isOwningGroup M a) rfl (Nat.le_of_ble_eq_true rfl) (by decide) (by decide) (fun M1 r1 hq1 => ?_)
        obtain ⟨rfl, rfl⟩ := hq1
        refine j_if_eq (tgt := 45) d_S_isChange_38 (by decide) (fun h38 => ?_) (fun h38 => ?_)
        · have hb : bP (chOk k a b) = 0 := bP_f (fun q => q.elim (fun q => h2 q.1) (fun q => absurd (bP_t q.2) (by rw [h38]; decide)))
          refine j_iconst (v := 0) d_S_isChange_45 (by decide) ?_
          refine j_ireturn d_S_isChange_46 rfl rfl ?_ (by decide) (by decide)
          exact ⟨rfl, by rw [hb]⟩
        · have hb : bP (chOk k a b) = 1 := bP_t (Or.inr ⟨hk, Decidable.byContradiction (fun q => h38 (bP_f q))⟩)
          refine j_iconst (v := 1) d_S_isChange_41 (by decide) ?_
          refine j_goto 46 d_S_isChange_42 (by decide) ?_
          refine j_ireturn d_S_isChange_46 rfl rfl ?_ (by decide) (by decide)
          exact ⟨rfl, by rw [hb]⟩
  · refine j_iload_n d_S_isChange_5 rfl ?_
    refine j_callS (vs := [_]) d_S_isChange_6 w433 w434 w1 w435 y_S_isShard (by decide) (by decide) (k_isShard M a) rfl (Nat.le_of_ble_eq_true rfl) (by decide) (by decide) (fun M1 r1 hq1 => ?_)
    obtain ⟨rfl, rfl⟩ := hq1
    refine j_if_eq (tgt := 23) d_S_isChange_9 (by decide) (fun h9 => ?_) (fun h9 => ?_)
    · have hb : bP (chOk k a b) = 0 := bP_f (fun q => q.elim (fun q => absurd (bP_t q.2.1) (by rw [h9]; decide)) (fun q => q.1.elim (fun q => absurd (h2.symm.trans q) (by decide)) (fun q => absurd (h2.symm.trans q) (by decide))))
      refine j_iconst (v := 0) d_S_isChange_23 (by decide) ?_
      refine j_ireturn d_S_isChange_24 rfl rfl ?_ (by decide) (by decide)
      exact ⟨rfl, by rw [hb]⟩
    · refine j_iload_n d_S_isChange_12 rfl ?_
      refine j_callS (vs := [_]) d_S_isChange_13 w436 w437 w1 w438 y_S_isOwningGroup (by decide) (by decide) (k_isOwningGroup M1 b) rfl (Nat.le_of_ble_eq_true rfl) (by decide) (by decide) (fun M2 r2 hq2 => ?_)
      obtain ⟨rfl, rfl⟩ := hq2
      refine j_if_eq (tgt := 23) d_S_isChange_16 (by decide) (fun h16 => ?_) (fun h16 => ?_)
      · have hb : bP (chOk k a b) = 0 := bP_f (fun q => q.elim (fun q => absurd (bP_t q.2.2) (by rw [h16]; decide)) (fun q => q.1.elim (fun q => absurd (h2.symm.trans q) (by decide)) (fun q => absurd (h2.symm.trans q) (by decide))))
        refine j_iconst (v := 0) d_S_isChange_23 (by decide) ?_
        refine j_ireturn d_S_isChange_24 rfl rfl ?_ (by decide) (by decide)
        exact ⟨rfl, by rw [hb]⟩
      · have hb : bP (chOk k a b) = 1 := bP_t (Or.inl ⟨h2, Decidable.byContradiction (fun q => h9 (bP_f q)), Decidable.byContradiction (fun q => h16 (bP_f q))⟩)
        refine j_iconst (v := 1) d_S_isChange_19 (by decide) ?_
        refine j_goto 24 d_S_isChange_20 (by decide) ?_
        refine j_ireturn d_S_isChange_24 rfl rfl ?_ (by decide) (by decide)
        exact ⟨rfl, by rw [hb]⟩
set_option maxRecDepth 20000 in
set_option maxHeartbeats 1000000 in
theorem k_change_n (M : aM) (x k a b : Int32) (h : cSh M) (hx : aK m_S_upService 1 0 0 M [.ref 0, .int x] (fun M1 r => M1 = M ∧ r = some .null)) : aK m_S_change 3 1 4 M [.ref 0, .int x, .int k, .int a, .int b] (fun M1 r => M1 = M ∧ r = some (.int (-1))) := by
  refine aK.of (by decide) (Nat.le_of_ble_eq_true rfl) ?_
  have h0 := h.2.1
  have hr0 := h.2.2.1
  have hr1 := h.2.2.2.1
  have hr2 := h.2.2.2.2.1
  have hA1 := h.2.2.2.2.2.1
  have hA2 := h.2.2.2.2.2.2.1
  have hA3 := h.2.2.2.2.2.2.2.1
  refine j_aload_n d_S_change_0 rfl ?_
  refine j_iload_n d_S_change_1 rfl ?_
  refine j_callV (vs := [_]) d_S_change_2 (by assumption) (by decide) rfl w422 w424 w1 w425 ws_S_upService y_S_upService (by decide) (by decide) (hx) rfl (Nat.le_of_ble_eq_true rfl) (by decide) (by decide) (fun M1 r1 hq1 => ?_)
  obtain ⟨rfl, rfl⟩ := hq1
  refine j_astoreN d_S_change_5 (by decide) ?_
  refine j_aloadN d_S_change_7 rfl ?_
  refine j_ifnullN 22 d_S_change_9 (by decide) ?_
  refine j_iconst (v := -1) d_S_change_22 (by decide) ?_
  refine j_ireturn d_S_change_23 rfl rfl ?_ (by decide) (by decide)
  exact ⟨rfl, rfl⟩
set_option maxRecDepth 20000 in
set_option maxHeartbeats 1000000 in
theorem k_change_b (M : aM) (n : Nat) (k a b : Int32) (h : cSh M) (hn : n < 3) (hu : mI M (nd n) 0 ≠ 0) (hc : ¬ chOk k a b) : aK m_S_change 3 1 4 M [.ref 0, .int (nI n), .int k, .int a, .int b] (fun M1 r => M1 = M ∧ r = some (.int (-1))) := by
  refine aK.of (by decide) (Nat.le_of_ble_eq_true rfl) ?_
  have h0 := h.2.1
  have hr0 := h.2.2.1
  have hr1 := h.2.2.2.1
  have hr2 := h.2.2.2.2.1
  have hA1 := h.2.2.2.2.2.1
  have hA2 := h.2.2.2.2.2.2.1
  have hA3 := h.2.2.2.2.2.2.2.1
  have hN := (cSh_V h hn).1
  refine j_aload_n d_S_change_0 rfl ?_
  refine j_iload_n d_S_change_1 rfl ?_
  refine j_callV (vs := [_]) d_S_change_2 (by assumption) (by decide) rfl w422 w424 w1 w425 ws_S_upService y_S_upService (by decide) (by decide) (k_upV M n h hn hu) rfl (Nat.le_of_ble_eq_true rfl) (by decide) (by decide) (fun M1 r1 hq1 => ?_)
  obtain ⟨rfl, rfl⟩ := hq1
  refine j_astore d_S_change_5 (by decide) ?_
  refine j_aload d_S_change_7 rfl ?_
  refine j_ifnull d_S_change_9 ?_
  refine j_iload_n d_S_change_12 rfl ?_
  refine j_iload_n d_S_change_13 rfl ?_
  refine j_iload d_S_change_14 rfl ?_
  refine j_callS (vs := [_, _, _]) d_S_change_16 w430 w431 w1 w432 y_S_isChange (by decide) (by decide) (k_isChange M1 k a b) rfl (Nat.le_of_ble_eq_true rfl) (by decide) (by decide) (fun M2 r2 hq2 => ?_)
  obtain ⟨rfl, rfl⟩ := hq2
  refine j_if_ne (tgt := 24) d_S_change_19 (by decide) (fun h19 => False.elim (h19 (bP_f hc))) (fun h19 => ?_)
  refine j_iconst (v := -1) d_S_change_22 (by decide) ?_
  refine j_ireturn d_S_change_23 rfl rfl ?_ (by decide) (by decide)
  exact ⟨rfl, rfl⟩
set_option maxRecDepth 20000 in
set_option maxHeartbeats 1000000 in
theorem k_change_f (M : aM) (n : Nat) (k a b : Int32) (h : cSh M) (hn : n < 3) (hu : mI M (nd n) 0 ≠ 0) (hc : chOk k a b) (hl : mI M (nd n) 1 = 0) : aK m_S_change 3 1 4 M [.ref 0, .int (nI n), .int k, .int a, .int b] (fun M1 r => M1 = M ∧ r = some (.int (-2))) := by
  refine aK.of (by decide) (Nat.le_of_ble_eq_true rfl) ?_
  have h0 := h.2.1
  have hr0 := h.2.2.1
  have hr1 := h.2.2.2.1
  have hr2 := h.2.2.2.2.1
  have hA1 := h.2.2.2.2.2.1
  have hA2 := h.2.2.2.2.2.2.1
  have hA3 := h.2.2.2.2.2.2.2.1
  have hN := (cSh_V h hn).1
  refine j_aload_n d_S_change_0 rfl ?_
  refine j_iload_n d_S_change_1 rfl ?_
  refine j_callV (vs := [_]) d_S_change_2 (by assumption) (by decide) rfl w422 w424 w1 w425 ws_S_upService y_S_upService (by decide) (by decide) (k_upV M n h hn hu) rfl (Nat.le_of_ble_eq_true rfl) (by decide) (by decide) (fun M1 r1 hq1 => ?_)
  obtain ⟨rfl, rfl⟩ := hq1
  refine j_astore d_S_change_5 (by decide) ?_
  refine j_aload d_S_change_7 rfl ?_
  refine j_ifnull d_S_change_9 ?_
  refine j_iload_n d_S_change_12 rfl ?_
  refine j_iload_n d_S_change_13 rfl ?_
  refine j_iload d_S_change_14 rfl ?_
  refine j_callS (vs := [_, _, _]) d_S_change_16 w430 w431 w1 w432 y_S_isChange (by decide) (by decide) (k_isChange M1 k a b) rfl (Nat.le_of_ble_eq_true rfl) (by decide) (by decide) (fun M2 r2 hq2 => ?_)
  obtain ⟨rfl, rfl⟩ := hq2
  refine j_if_ne (tgt := 24) d_S_change_19 (by decide) (fun h19 => ?_) (fun h19 => False.elim (absurd (bP_t hc) (by rw [h19]; decide)))
  refine j_aload d_S_change_24 rfl ?_
  refine j_geti d_S_change_26 (by assumption) f_S_105_V rfl (by decide) ?_
  refine j_if_ne (tgt := 35) d_S_change_29 (by decide) (fun h29 => False.elim (h29 hl)) (fun h29 => ?_)
  refine j_bipush (v := -2) d_S_change_32 (by decide) ?_
  refine j_ireturn d_S_change_34 rfl rfl ?_ (by decide) (by decide)
  exact ⟨rfl, rfl⟩
def fG (M : aM) (o : Nat) (t k a b : Int32) : aM := sI (sI (sI (sI M o 0 t) o 1 k) o 2 a) o 3 b
def fR (M : aM) (o : Nat) (t x1 x2 x3 x4 x5 : Int32) : aM := sI (sI (sI (sI (sI (sI M o 0 t) o 1 x1) o 2 x2) o 3 x3) o 4 x4) o 5 x5
set_option maxRecDepth 20000 in
set_option maxHeartbeats 1000000 in
theorem k_change_w (M : aM) (n : Nat) (k a b : Int32) (h : cSh M) (hn : n < 3) (hu : mI M (nd n) 0 ≠ 0) (hc : chOk k a b) (hl : mI M (nd n) 1 ≠ 0) (len : Nat) (hlen : mI M (nd n) 3 = nI len) (h80 : len ≤ 80) : aK m_S_change 3 1 4 M [.ref 0, .int (nI n), .int k, .int a, .int b] (fun M1 r => if len = 80 then M1 = fG (mN M 6 0) (mSz M) (mI M (nd n) 2) k a b ∧ r = some (.int (-3)) else M1 = sI (sR (fG (mN M 6 0) (mSz M) (mI M (nd n) 2) k a b) (nd n + 1) len (some (mSz M))) (nd n) 3 (nI (len + 1)) ∧ r = some (.int (nI (len + 1)))) := by
  refine aK.of (by decide) (Nat.le_of_ble_eq_true rfl) ?_
  have h0 := h.2.1
  have hr0 := h.2.2.1
  have hr1 := h.2.2.2.1
  have hr2 := h.2.2.2.2.1
  have hA1 := h.2.2.2.2.2.1
  have hA2 := h.2.2.2.2.2.2.1
  have hA3 := h.2.2.2.2.2.2.2.1
  have hN := (cSh_V h hn).1
  refine j_aload_n d_S_change_0 rfl ?_
  refine j_iload_n d_S_change_1 rfl ?_
  refine j_callV (vs := [_]) d_S_change_2 (by assumption) (by decide) rfl w422 w424 w1 w425 ws_S_upService y_S_upService (by decide) (by decide) (k_upV M n h hn hu) rfl (Nat.le_of_ble_eq_true rfl) (by decide) (by decide) (fun M1 r1 hq1 => ?_)
  obtain ⟨rfl, rfl⟩ := hq1
  refine j_astore d_S_change_5 (by decide) ?_
  refine j_aload d_S_change_7 rfl ?_
  refine j_ifnull d_S_change_9 ?_
  refine j_iload_n d_S_change_12 rfl ?_
  refine j_iload_n d_S_change_13 rfl ?_
  refine j_iload d_S_change_14 rfl ?_
  refine j_callS (vs := [_, _, _]) d_S_change_16 w430 w431 w1 w432 y_S_isChange (by decide) (by decide) (k_isChange M1 k a b) rfl (Nat.le_of_ble_eq_true rfl) (by decide) (by decide) (fun M2 r2 hq2 => ?_)
  obtain ⟨rfl, rfl⟩ := hq2
  refine j_if_ne (tgt := 24) d_S_change_19 (by decide) (fun h19 => ?_) (fun h19 => False.elim (absurd (bP_t hc) (by rw [h19]; decide)))
  refine j_aload d_S_change_24 rfl ?_
  refine j_geti d_S_change_26 (by assumption) f_S_105_V rfl (by decide) ?_
  refine j_if_ne (tgt := 35) d_S_change_29 (by decide) (fun h29 => ?_) (fun h29 => False.elim (hl h29))
  refine j_aload d_S_change_35 rfl ?_
  refine j_new d_S_change_37 n_S_106 (by decide) (by decide) (by decide) ?_
  have hN1 := hN.up 6 0
  refine j_dup d_S_change_40 ?_
  refine j_aload d_S_change_41 rfl ?_
  refine j_geti d_S_change_43 (by assumption) f_S_108_V rfl (by decide) ?_
  refine j_eqi (show _ = mI M2 (nd n) 2 by rw [mm_I_mN, if_neg (Nat.ne_of_lt hN.1)]) ?_
  refine j_iload_n d_S_change_46 rfl ?_
  refine j_iload_n d_S_change_47 rfl ?_
  refine j_iload d_S_change_48 rfl ?_
  refine j_callI (vs := [_, _, _, _]) d_S_change_50 w440 w441 w11 w442 rfl rfl y_G_init (by decide) (by decide) (k_G_init _ (mSz M2) (mI M2 (nd n) 2) k a b (tO.new M2 6 0)) rfl (Nat.le_of_ble_eq_true rfl) (by decide) (by decide) (fun M3 r3 hq3 => ?_)
  obtain ⟨rfl, rfl⟩ := hq3
  have hnd := (cSh_V h hn).2
  have hnd : mR (fG (mN M2 6 0) (mSz M2) (mI M2 (nd n) 2) k a b) (nd n) 5 = some (nd n + 1) ∧ tA M2 (nd n + 1) 106 80 := ⟨by show mR (mN M2 6 0) (nd n) 5 = _; rw [mm_R_mN, if_neg (Nat.ne_of_lt hN.1)]; exact hnd.1, hnd.2⟩
  have hne := Nat.ne_of_lt hN.1
  have hlen4 : mI (fG (mN M2 6 0) (mSz M2) (mI M2 (nd n) 2) k a b) (nd n) 3 = nI len := by unfold fG; rw [mm_I_sI, if_neg (fun q => hne q.1), mm_I_sI, if_neg (fun q => hne q.1), mm_I_sI, if_neg (fun q => hne q.1), mm_I_sI, if_neg (fun q => hne q.1), mm_I_mN, if_neg hne]; exact hlen
  refine j_callU (owner := "ShardGroups$Node") (vs := [_]) d_S_change_53 hN1 (by decide) rfl w455 w245 w3 w249 w458 w456 (Or.inl rfl) y_N_write (by decide) (by decide) (k_write_V (fG (mN M2 6 0) (mSz M2) (mI M2 (nd n) 2) k a b) (nd n) len (mSz M2) 6 ⟨hN1, hnd.1, hnd.2.up 6 0⟩ hlen4 h80 (tO.new M2 6 0) (by decide) (by decide)) rfl (Nat.le_of_ble_eq_true rfl) (by decide) (by decide) (fun M4 r4 hq4 => ?_)
  have hr4 : ∃ z : Int32, r4 = some (.int z) := by
    split at hq4
    · exact ⟨_, hq4.2⟩
    · exact ⟨_, hq4.2⟩
  obtain ⟨z, rfl⟩ := hr4
  refine j_ireturn d_S_change_56 rfl rfl ?_ (by decide) (by decide)
  exact hq4
set_option maxRecDepth 20000 in
set_option maxHeartbeats 1000000 in
theorem k_request_n (M : aM) (x c n k y v : Int32) (h : cSh M) (hx : aK m_S_upStore 1 0 0 M [.ref 0, .int x] (fun M1 r => M1 = M ∧ r = some .null)) : aK m_S_request 3 1 6 M [.ref 0, .int x, .int c, .int n, .int k, .int y, .int v] (fun M1 r => M1 = M ∧ r = some (.int (-1))) := by
  refine aK.of (by decide) (Nat.le_of_ble_eq_true rfl) ?_
  have h0 := h.2.1
  have hr0 := h.2.2.1
  have hr1 := h.2.2.2.1
  have hr2 := h.2.2.2.2.1
  have hA1 := h.2.2.2.2.2.1
  have hA2 := h.2.2.2.2.2.2.1
  have hA3 := h.2.2.2.2.2.2.2.1
  refine j_aload_n d_S_request_0 rfl ?_
  refine j_iload_n d_S_request_1 rfl ?_
  refine j_callV (vs := [_]) d_S_request_2 (by assumption) (by decide) rfl w463 w465 w1 w466 ws_S_upStore y_S_upStore (by decide) (by decide) (hx) rfl (Nat.le_of_ble_eq_true rfl) (by decide) (by decide) (fun M1 r1 hq1 => ?_)
  obtain ⟨rfl, rfl⟩ := hq1
  refine j_astoreN d_S_request_5 (by decide) ?_
  refine j_aloadN d_S_request_7 rfl ?_
  refine j_ifnullN 63 d_S_request_9 (by decide) ?_
  refine j_iconst (v := -1) d_S_request_63 (by decide) ?_
  refine j_ireturn d_S_request_64 rfl rfl ?_ (by decide) (by decide)
  exact ⟨rfl, rfl⟩
set_option maxRecDepth 20000 in
set_option maxHeartbeats 1000000 in
theorem k_request_b (M : aM) (m : Nat) (c n k y v : Int32) (h : cSh M) (h3 : 3 ≤ m) (hm : m < 12) (hu : mI M (nd m) 0 ≠ 0) (hc : ¬ rqOk c n k y v) : aK m_S_request 3 1 6 M [.ref 0, .int (nI m), .int c, .int n, .int k, .int y, .int v] (fun M1 r => M1 = M ∧ r = some (.int (-1))) := by
  refine aK.of (by decide) (Nat.le_of_ble_eq_true rfl) ?_
  have h0 := h.2.1
  have hr0 := h.2.2.1
  have hr1 := h.2.2.2.1
  have hr2 := h.2.2.2.2.1
  have hA1 := h.2.2.2.2.2.1
  have hA2 := h.2.2.2.2.2.2.1
  have hA3 := h.2.2.2.2.2.2.2.1
  have hN := (cSh_T h h3 hm).1
  refine j_aload_n d_S_request_0 rfl ?_
  refine j_iload_n d_S_request_1 rfl ?_
  refine j_callV (vs := [_]) d_S_request_2 (by assumption) (by decide) rfl w463 w465 w1 w466 ws_S_upStore y_S_upStore (by decide) (by decide) (k_upT M m h h3 hm hu) rfl (Nat.le_of_ble_eq_true rfl) (by decide) (by decide) (fun M1 r1 hq1 => ?_)
  obtain ⟨rfl, rfl⟩ := hq1
  refine j_astore d_S_request_5 (by decide) ?_
  refine j_aload d_S_request_7 rfl ?_
  refine j_ifnull d_S_request_9 ?_
  refine j_iload_n d_S_request_12 rfl ?_
  refine j_callS (vs := [_]) d_S_request_13 w471 w472 w1 w473 y_S_isClient (by decide) (by decide) (k_isClient M1 c) rfl (Nat.le_of_ble_eq_true rfl) (by decide) (by decide) (fun M2 r2 hq2 => ?_)
  obtain ⟨rfl, rfl⟩ := hq2
  refine j_if_eq (tgt := 63) d_S_request_16 (by decide) (fun h16 => ?_) (fun h16 => ?_)
  · refine j_iconst (v := -1) d_S_request_63 (by decide) ?_
    refine j_ireturn d_S_request_64 rfl rfl ?_ (by decide) (by decide)
    exact ⟨rfl, rfl⟩
  · refine j_iload d_S_request_19 rfl ?_
    refine j_callS (vs := [_]) d_S_request_21 w474 w475 w1 w476 y_S_isKey (by decide) (by decide) (k_isKey M2 y) rfl (Nat.le_of_ble_eq_true rfl) (by decide) (by decide) (fun M3 r3 hq3 => ?_)
    obtain ⟨rfl, rfl⟩ := hq3
    refine j_if_eq (tgt := 63) d_S_request_24 (by decide) (fun h24 => ?_) (fun h24 => ?_)
    · refine j_iconst (v := -1) d_S_request_63 (by decide) ?_
      refine j_ireturn d_S_request_64 rfl rfl ?_ (by decide) (by decide)
      exact ⟨rfl, rfl⟩
    · refine j_iload_n d_S_request_27 rfl ?_
      refine j_iconst (v := 1) d_S_request_28 (by decide) ?_
      refine j_icmp_lt (tgt := 63) d_S_request_29 (by decide) (fun h29 => ?_) (fun h29 => ?_)
      · refine j_iconst (v := -1) d_S_request_63 (by decide) ?_
        refine j_ireturn d_S_request_64 rfl rfl ?_ (by decide) (by decide)
        exact ⟨rfl, rfl⟩
      · refine j_iload_n d_S_request_32 rfl ?_
        refine j_sipush (v := 999) d_S_request_33 (by decide) ?_
        refine j_icmp_gt (tgt := 63) d_S_request_36 (by decide) (fun h36 => ?_) (fun h36 => ?_)
        · refine j_iconst (v := -1) d_S_request_63 (by decide) ?_
          refine j_ireturn d_S_request_64 rfl rfl ?_ (by decide) (by decide)
          exact ⟨rfl, rfl⟩
        · refine j_iload d_S_request_39 rfl ?_
          refine j_if_lt (tgt := 63) d_S_request_41 (by decide) (fun h41 => ?_) (fun h41 => ?_)
          · refine j_iconst (v := -1) d_S_request_63 (by decide) ?_
            refine j_ireturn d_S_request_64 rfl rfl ?_ (by decide) (by decide)
            exact ⟨rfl, rfl⟩
          · refine j_iload d_S_request_44 rfl ?_
            refine j_iconst (v := 2) d_S_request_46 (by decide) ?_
            refine j_icmp_gt (tgt := 63) d_S_request_47 (by decide) (fun h47 => ?_) (fun h47 => ?_)
            · refine j_iconst (v := -1) d_S_request_63 (by decide) ?_
              refine j_ireturn d_S_request_64 rfl rfl ?_ (by decide) (by decide)
              exact ⟨rfl, rfl⟩
            · refine j_iload d_S_request_50 rfl ?_
              refine j_if_lt (tgt := 63) d_S_request_52 (by decide) (fun h52 => ?_) (fun h52 => ?_)
              · refine j_iconst (v := -1) d_S_request_63 (by decide) ?_
                refine j_ireturn d_S_request_64 rfl rfl ?_ (by decide) (by decide)
                exact ⟨rfl, rfl⟩
              · refine j_iload d_S_request_55 rfl ?_
                refine j_sipush (v := 1000) d_S_request_57 (by decide) ?_
                refine j_icmp_lt (tgt := 65) d_S_request_60 (by decide) (fun h60 => False.elim (hc ⟨(Decidable.byContradiction (fun q => h16 (bP_f q))), (Decidable.byContradiction (fun q => h24 (bP_f q))), Int32.not_lt.mp h29, Int32.not_lt.mp h36, Int32.not_lt.mp h41, Int32.not_lt.mp h47, Int32.not_lt.mp h52, h60⟩)) (fun h60 => ?_)
                refine j_iconst (v := -1) d_S_request_63 (by decide) ?_
                refine j_ireturn d_S_request_64 rfl rfl ?_ (by decide) (by decide)
                exact ⟨rfl, rfl⟩
set_option maxRecDepth 20000 in
set_option maxHeartbeats 1000000 in
theorem k_request_f (M : aM) (m : Nat) (c n k y v : Int32) (h : cSh M) (h3 : 3 ≤ m) (hm : m < 12) (hu : mI M (nd m) 0 ≠ 0) (hc : rqOk c n k y v) (hl : mI M (nd m) 1 = 0) : aK m_S_request 3 1 6 M [.ref 0, .int (nI m), .int c, .int n, .int k, .int y, .int v] (fun M1 r => M1 = M ∧ r = some (.int (-2))) := by
  refine aK.of (by decide) (Nat.le_of_ble_eq_true rfl) ?_
  have h0 := h.2.1
  have hr0 := h.2.2.1
  have hr1 := h.2.2.2.1
  have hr2 := h.2.2.2.2.1
  have hA1 := h.2.2.2.2.2.1
  have hA2 := h.2.2.2.2.2.2.1
  have hA3 := h.2.2.2.2.2.2.2.1
  have hN := (cSh_T h h3 hm).1
  refine j_aload_n d_S_request_0 rfl ?_
  refine j_iload_n d_S_request_1 rfl ?_
  refine j_callV (vs := [_]) d_S_request_2 (by assumption) (by decide) rfl w463 w465 w1 w466 ws_S_upStore y_S_upStore (by decide) (by decide) (k_upT M m h h3 hm hu) rfl (Nat.le_of_ble_eq_true rfl) (by decide) (by decide) (fun M1 r1 hq1 => ?_)
  obtain ⟨rfl, rfl⟩ := hq1
  refine j_astore d_S_request_5 (by decide) ?_
  refine j_aload d_S_request_7 rfl ?_
  refine j_ifnull d_S_request_9 ?_
  refine j_iload_n d_S_request_12 rfl ?_
  refine j_callS (vs := [_]) d_S_request_13 w471 w472 w1 w473 y_S_isClient (by decide) (by decide) (k_isClient M1 c) rfl (Nat.le_of_ble_eq_true rfl) (by decide) (by decide) (fun M2 r2 hq2 => ?_)
  obtain ⟨rfl, rfl⟩ := hq2
  refine j_if_eq (tgt := 63) d_S_request_16 (by decide) (fun h16 => False.elim (absurd (bP_t hc.1) (by rw [h16]; decide))) (fun h16 => ?_)
  refine j_iload d_S_request_19 rfl ?_
  refine j_callS (vs := [_]) d_S_request_21 w474 w475 w1 w476 y_S_isKey (by decide) (by decide) (k_isKey M2 y) rfl (Nat.le_of_ble_eq_true rfl) (by decide) (by decide) (fun M3 r3 hq3 => ?_)
  obtain ⟨rfl, rfl⟩ := hq3
  refine j_if_eq (tgt := 63) d_S_request_24 (by decide) (fun h24 => False.elim (absurd (bP_t hc.2.1) (by rw [h24]; decide))) (fun h24 => ?_)
  refine j_iload_n d_S_request_27 rfl ?_
  refine j_iconst (v := 1) d_S_request_28 (by decide) ?_
  refine j_icmp_lt (tgt := 63) d_S_request_29 (by decide) (fun h29 => False.elim (Int32.not_lt.mpr hc.2.2.1 h29)) (fun h29 => ?_)
  refine j_iload_n d_S_request_32 rfl ?_
  refine j_sipush (v := 999) d_S_request_33 (by decide) ?_
  refine j_icmp_gt (tgt := 63) d_S_request_36 (by decide) (fun h36 => False.elim (Int32.not_lt.mpr hc.2.2.2.1 h36)) (fun h36 => ?_)
  refine j_iload d_S_request_39 rfl ?_
  refine j_if_lt (tgt := 63) d_S_request_41 (by decide) (fun h41 => False.elim (Int32.not_lt.mpr hc.2.2.2.2.1 h41)) (fun h41 => ?_)
  refine j_iload d_S_request_44 rfl ?_
  refine j_iconst (v := 2) d_S_request_46 (by decide) ?_
  refine j_icmp_gt (tgt := 63) d_S_request_47 (by decide) (fun h47 => False.elim (Int32.not_lt.mpr hc.2.2.2.2.2.1 h47)) (fun h47 => ?_)
  refine j_iload d_S_request_50 rfl ?_
  refine j_if_lt (tgt := 63) d_S_request_52 (by decide) (fun h52 => False.elim (Int32.not_lt.mpr hc.2.2.2.2.2.2.1 h52)) (fun h52 => ?_)
  refine j_iload d_S_request_55 rfl ?_
  refine j_sipush (v := 1000) d_S_request_57 (by decide) ?_
  refine j_icmp_lt (tgt := 65) d_S_request_60 (by decide) (fun h60 => ?_) (fun h60 => False.elim (h60 hc.2.2.2.2.2.2.2))
  refine j_aload d_S_request_65 rfl ?_
  refine j_geti d_S_request_67 (by assumption) f_S_124_T rfl (by decide) ?_
  refine j_if_ne (tgt := 76) d_S_request_70 (by decide) (fun h70 => False.elim (h70 hl)) (fun h70 => ?_)
  refine j_bipush (v := -2) d_S_request_73 (by decide) ?_
  refine j_ireturn d_S_request_75 rfl rfl ?_ (by decide) (by decide)
  exact ⟨rfl, rfl⟩
set_option maxRecDepth 20000 in
set_option maxHeartbeats 1000000 in
theorem k_request_w (M : aM) (m : Nat) (c n k y v : Int32) (h : cSh M) (h3 : 3 ≤ m) (hm : m < 12) (hu : mI M (nd m) 0 ≠ 0) (hc : rqOk c n k y v) (hl : mI M (nd m) 1 ≠ 0) (len : Nat) (hlen : mI M (nd m) 3 = nI len) (h80 : len ≤ 80) : aK m_S_request 3 1 6 M [.ref 0, .int (nI m), .int c, .int n, .int k, .int y, .int v] (fun M1 r => if len = 80 then M1 = fR (mN M 8 0) (mSz M) (mI M (nd m) 2) c n k y v ∧ r = some (.int (-3)) else M1 = sI (sR (fR (mN M 8 0) (mSz M) (mI M (nd m) 2) c n k y v) (nd m + 1) len (some (mSz M))) (nd m) 3 (nI (len + 1)) ∧ r = some (.int (nI (len + 1)))) := by
  refine aK.of (by decide) (Nat.le_of_ble_eq_true rfl) ?_
  have h0 := h.2.1
  have hr0 := h.2.2.1
  have hr1 := h.2.2.2.1
  have hr2 := h.2.2.2.2.1
  have hA1 := h.2.2.2.2.2.1
  have hA2 := h.2.2.2.2.2.2.1
  have hA3 := h.2.2.2.2.2.2.2.1
  have hN := (cSh_T h h3 hm).1
  refine j_aload_n d_S_request_0 rfl ?_
  refine j_iload_n d_S_request_1 rfl ?_
  refine j_callV (vs := [_]) d_S_request_2 (by assumption) (by decide) rfl w463 w465 w1 w466 ws_S_upStore y_S_upStore (by decide) (by decide) (k_upT M m h h3 hm hu) rfl (Nat.le_of_ble_eq_true rfl) (by decide) (by decide) (fun M1 r1 hq1 => ?_)
  obtain ⟨rfl, rfl⟩ := hq1
  refine j_astore d_S_request_5 (by decide) ?_
  refine j_aload d_S_request_7 rfl ?_
  refine j_ifnull d_S_request_9 ?_
  refine j_iload_n d_S_request_12 rfl ?_
  refine j_callS (vs := [_]) d_S_request_13 w471 w472 w1 w473 y_S_isClient (by decide) (by decide) (k_isClient M1 c) rfl (Nat.le_of_ble_eq_true rfl) (by decide) (by decide) (fun M2 r2 hq2 => ?_)
  obtain ⟨rfl, rfl⟩ := hq2
  refine j_if_eq (tgt := 63) d_S_request_16 (by decide) (fun h16 => False.elim (absurd (bP_t hc.1) (by rw [h16]; decide))) (fun h16 => ?_)
  refine j_iload d_S_request_19 rfl ?_
  refine j_callS (vs := [_]) d_S_request_21 w474 w475 w1 w476 y_S_isKey (by decide) (by decide) (k_isKey M2 y) rfl (Nat.le_of_ble_eq_true rfl) (by decide) (by decide) (fun M3 r3 hq3 => ?_)
  obtain ⟨rfl, rfl⟩ := hq3
  refine j_if_eq (tgt := 63) d_S_request_24 (by decide) (fun h24 => False.elim (absurd (bP_t hc.2.1) (by rw [h24]; decide))) (fun h24 => ?_)
  refine j_iload_n d_S_request_27 rfl ?_
  refine j_iconst (v := 1) d_S_request_28 (by decide) ?_
  refine j_icmp_lt (tgt := 63) d_S_request_29 (by decide) (fun h29 => False.elim (Int32.not_lt.mpr hc.2.2.1 h29)) (fun h29 => ?_)
  refine j_iload_n d_S_request_32 rfl ?_
  refine j_sipush (v := 999) d_S_request_33 (by decide) ?_
  refine j_icmp_gt (tgt := 63) d_S_request_36 (by decide) (fun h36 => False.elim (Int32.not_lt.mpr hc.2.2.2.1 h36)) (fun h36 => ?_)
  refine j_iload d_S_request_39 rfl ?_
  refine j_if_lt (tgt := 63) d_S_request_41 (by decide) (fun h41 => False.elim (Int32.not_lt.mpr hc.2.2.2.2.1 h41)) (fun h41 => ?_)
  refine j_iload d_S_request_44 rfl ?_
  refine j_iconst (v := 2) d_S_request_46 (by decide) ?_
  refine j_icmp_gt (tgt := 63) d_S_request_47 (by decide) (fun h47 => False.elim (Int32.not_lt.mpr hc.2.2.2.2.2.1 h47)) (fun h47 => ?_)
  refine j_iload d_S_request_50 rfl ?_
  refine j_if_lt (tgt := 63) d_S_request_52 (by decide) (fun h52 => False.elim (Int32.not_lt.mpr hc.2.2.2.2.2.2.1 h52)) (fun h52 => ?_)
  refine j_iload d_S_request_55 rfl ?_
  refine j_sipush (v := 1000) d_S_request_57 (by decide) ?_
  refine j_icmp_lt (tgt := 65) d_S_request_60 (by decide) (fun h60 => ?_) (fun h60 => False.elim (h60 hc.2.2.2.2.2.2.2))
  refine j_aload d_S_request_65 rfl ?_
  refine j_geti d_S_request_67 (by assumption) f_S_124_T rfl (by decide) ?_
  refine j_if_ne (tgt := 76) d_S_request_70 (by decide) (fun h70 => ?_) (fun h70 => False.elim (hl h70))
  refine j_aload d_S_request_76 rfl ?_
  refine j_new d_S_request_78 n_S_125 (by decide) (by decide) (by decide) ?_
  have hN1 := hN.up 8 0
  refine j_dup d_S_request_81 ?_
  refine j_aload d_S_request_82 rfl ?_
  refine j_geti d_S_request_84 (by assumption) f_S_127_T rfl (by decide) ?_
  refine j_eqi (show _ = mI M3 (nd m) 2 by rw [mm_I_mN, if_neg (Nat.ne_of_lt hN.1)]) ?_
  refine j_iload_n d_S_request_87 rfl ?_
  refine j_iload_n d_S_request_88 rfl ?_
  refine j_iload d_S_request_89 rfl ?_
  refine j_iload d_S_request_91 rfl ?_
  refine j_iload d_S_request_93 rfl ?_
  refine j_callI (vs := [_, _, _, _, _, _]) d_S_request_95 w479 w480 w12 w481 rfl rfl y_R_init (by decide) (by decide) (k_R_init _ (mSz M3) (mI M3 (nd m) 2) c n k y v (tO.new M3 8 0)) rfl (Nat.le_of_ble_eq_true rfl) (by decide) (by decide) (fun M4 r4 hq4 => ?_)
  obtain ⟨rfl, rfl⟩ := hq4
  have hnd := (cSh_T h h3 hm).2
  have hnd : mR (fR (mN M3 8 0) (mSz M3) (mI M3 (nd m) 2) c n k y v) (nd m) 5 = some (nd m + 1) ∧ tA M3 (nd m + 1) 106 80 := ⟨by show mR (mN M3 8 0) (nd m) 5 = _; rw [mm_R_mN, if_neg (Nat.ne_of_lt hN.1)]; exact hnd.1, hnd.2⟩
  have hne := Nat.ne_of_lt hN.1
  have hlen4 : mI (fR (mN M3 8 0) (mSz M3) (mI M3 (nd m) 2) c n k y v) (nd m) 3 = nI len := by unfold fR; rw [mm_I_sI, if_neg (fun q => hne q.1), mm_I_sI, if_neg (fun q => hne q.1), mm_I_sI, if_neg (fun q => hne q.1), mm_I_sI, if_neg (fun q => hne q.1), mm_I_sI, if_neg (fun q => hne q.1), mm_I_sI, if_neg (fun q => hne q.1), mm_I_mN, if_neg hne]; exact hlen
  refine j_callU (owner := "ShardGroups$Node") (vs := [_]) d_S_request_98 hN1 (by decide) rfl w505 w245 w3 w249 w507 w506 (Or.inl rfl) y_N_write (by decide) (by decide) (k_write_T (fR (mN M3 8 0) (mSz M3) (mI M3 (nd m) 2) c n k y v) (nd m) len (mSz M3) 8 ⟨hN1, hnd.1, hnd.2.up 8 0⟩ hlen4 h80 (tO.new M3 8 0) (by decide) (by decide)) rfl (Nat.le_of_ble_eq_true rfl) (by decide) (by decide) (fun M5 r5 hq5 => ?_)
  have hr5 : ∃ z : Int32, r5 = some (.int z) := by
    split at hq5
    · exact ⟨_, hq5.2⟩
    · exact ⟨_, hq5.2⟩
  obtain ⟨z, rfl⟩ := hr5
  refine j_ireturn d_S_request_101 rfl rfl ?_ (by decide) (by decide)
  exact hq5
end
section
theorem fG_new (M : aM) (t k a b : Int32) : onew M (fG (mN M 6 0) (mSz M) t k a b) := by
  unfold fG
  exact ((((onew.rf M).mN.sI (Nat.le_refl _)).sI (Nat.le_refl _)).sI (Nat.le_refl _)).sI (Nat.le_refl _)
theorem fR_new (M : aM) (t x1 x2 x3 x4 x5 : Int32) : onew M (fR (mN M 8 0) (mSz M) t x1 x2 x3 x4 x5) := by
  unfold fR
  exact ((((((onew.rf M).mN.sI (Nat.le_refl _)).sI (Nat.le_refl _)).sI (Nat.le_refl _)).sI (Nat.le_refl _)).sI (Nat.le_refl _)).sI (Nat.le_refl _)
theorem ex_of_chOk {k a b : Int32} (h : chOk k a b) : 0 ≤ k ∧ 0 ≤ a ∧ iN k ≤ 2 ∧ (k = 2 → 0 ≤ b) ∧ (iN k = 2 ↔ k = 2) := by
  have z1 : ∀ x : Int32, 1 ≤ x → 0 ≤ x := fun x hx => Int32.le_trans (by decide) hx
  rcases h with ⟨rfl, ha, hb⟩ | ⟨rfl | rfl, ha⟩
  · exact ⟨by decide, ha.1, by decide, fun _ => z1 _ hb.1, by decide⟩
  · exact ⟨by decide, z1 _ ha.1, by decide, fun q => absurd q (by decide), by decide⟩
  · exact ⟨by decide, z1 _ ha.1, by decide, fun q => absurd q (by decide), by decide⟩
theorem eCh_R {M : aM} {t : Nat} {k a b : Int32} (hz : 345 ≤ mSz M) (h : chOk k a b) : eR (fG (mN M 6 0) (mSz M) (nI t) k a b) (mSz M) (eCh t (iN k) (iN a) (iN b)) := by
  obtain ⟨h1, h2, h3, h4, h5⟩ := ex_of_chOk h
  refine ⟨hz, ?_, Or.inr (Or.inl ⟨⟨?_, ?_⟩, tO.new M 6 0, ?_, ?_, fun q => ?_⟩)⟩
  · unfold fG; simp only [mm_I_sI]; rfl
  · show 1 ≤ 1 + iN k; omega
  · show 1 + iN k ≤ 3; omega
  · show mI (fG _ _ _ _ _ _) _ 1 = nI (1 + iN k - 1)
    rw [show 1 + iN k - 1 = iN k by omega, iN_nI h1]
    unfold fG; simp only [mm_I_sI]; rfl
  · show _ = nI (iN a)
    rw [iN_nI h2]
    unfold fG; simp only [mm_I_sI]; rfl
  · have q' : 1 + iN k = 3 := q
    have hk : iN k = 2 := by omega
    show _ = nI (if iN k = 2 then iN b else 0)
    rw [if_pos hk, iN_nI (h4 (h5.mp hk))]
    unfold fG; simp only [mm_I_sI]; rfl
theorem eRq_R {M : aM} {t : Nat} {c n k y v : Int32} (hz : 345 ≤ mSz M) (h : rqOk c n k y v) : eR (fR (mN M 8 0) (mSz M) (nI t) c n k y v) (mSz M) (eRq t (iN c) (iN n) (iN k) (iN y) (iN v)) := by
  obtain ⟨h1, h2, h3, h4, h5, h6, h7, h8⟩ := h
  refine ⟨hz, ?_, Or.inr (Or.inr (Or.inr (Or.inl ⟨rfl, tO.new M 8 0, ?_, ?_, ?_, ?_, ?_⟩)))⟩
  · unfold fR; simp only [mm_I_sI]; rfl
  · show _ = nI (iN c); rw [iN_nI h1.1]; unfold fR; simp only [mm_I_sI]; rfl
  · show _ = nI (iN n); rw [iN_nI (Int32.le_trans (by decide) h3)]; unfold fR; simp only [mm_I_sI]; rfl
  · show _ = nI (iN k); rw [iN_nI h5]; unfold fR; simp only [mm_I_sI]; rfl
  · show _ = nI (iN y); rw [iN_nI h2.1]; unfold fR; simp only [mm_I_sI]; rfl
  · show _ = nI (iN v); rw [iN_nI h7]; unfold fR; simp only [mm_I_sI]; rfl
/-- a call that has made an entry and writes it -/
theorem cQ_write {M M' : aM} {S : aS} {n e : Nat} {E : Nat → Nat} (h : cR M S) (hn : n < 12) (hl : sLn S n ≤ 80) (hk : sKn S n ≤ sLn S n) (hnew : onew M M') (he : eR M' e E) :
    ∀ M1 r, (if sLn S n = 80 then M1 = M' ∧ r = some (.int (-3)) else M1 = sI (sR M' (nd n + 1) (sLn S n) (some e)) (nd n) 3 (nI (sLn S n + 1)) ∧ r = some (.int (nI (sLn S n + 1)))) → cQ M (oWr S n E) M1 r := by
  intro M1 r hq
  have h' := hnew.cR h
  have f' := hnew.fM h.1.1
  by_cases q : sLn S n = 80
  · rw [if_pos q] at hq
    obtain ⟨rfl, rfl⟩ := hq
    unfold oWr; rw [if_pos q]
    exact ⟨rfl, h', f'⟩
  · rw [if_neg q] at hq
    obtain ⟨rfl, rfl⟩ := hq
    refine ⟨by unfold oWr; rw [if_neg q], cR_write h' hn he (by omega) hk, f'.tr (fM_write hn)⟩
theorem c_change (M : aM) (S : aS) (t : Nat) (x k a b : Int32) (h : cR M S) (hi : sInv S t) : aK m_S_change 3 1 4 M [.ref 0, .int x, .int k, .int a, .int b] (cQ M (oChange S x k a b)) := by
  rcases dN_cases x (N := 3) (by decide) with ⟨e, hx⟩ | ⟨n, hn, rfl, e⟩
  · refine (k_change_n M x k a b h.1 (k_upV_2 M x h.1 hx)).weaken ?_
    rintro M1 r ⟨rfl, rfl⟩
    unfold oChange; rw [e]
    exact ⟨rfl, h, fM.rf _⟩
  · obtain ⟨i1, i2, i3, i4⟩ := hi.1 n (by omega)
    have hu0 := (h.2 n (by omega)).1
    cases hu : sUp S n
    · rw [hu] at hu0
      refine (k_change_n M (nI n) k a b h.1 (k_upV_1 M n h.1 hn (by rw [hu0]; rfl))).weaken ?_
      rintro M1 r ⟨rfl, rfl⟩
      unfold oChange; rw [e]; simp only [hu]
      exact ⟨rfl, h, fM.rf _⟩
    · rw [hu] at hu0
      have hu1 : mI M (nd n) 0 ≠ 0 := by rw [hu0]; decide
      by_cases hc : chOk k a b
      · have hl0 := (h.2 n (by omega)).2.1
        cases hl : sLd S n
        · rw [hl] at hl0
          refine (k_change_f M n k a b h.1 hn hu1 hc (by rw [hl0]; rfl)).weaken ?_
          rintro M1 r ⟨rfl, rfl⟩
          unfold oChange; rw [e]; simp only [hu, hl, hc, and_self, if_true]
          exact ⟨rfl, h, fM.rf _⟩
        · rw [hl] at hl0
          refine (k_change_w M n k a b h.1 hn hu1 hc (by rw [hl0]; decide) (sLn S n) (h.2 n (by omega)).2.2.2.2.1.1 i1).weaken ?_
          have eo : oChange S (nI n) k a b = oWr S n (eCh (sT S n) (iN k) (iN a) (iN b)) := by
            unfold oChange; rw [e]; simp only [hu, hl, hc, and_self, if_true]
          rw [eo]
          refine cQ_write h (by omega) i1 i2 (fG_new M _ k a b) ?_
          rw [(h.2 n (by omega)).2.2.1]
          exact eCh_R h.1.1 hc
      · refine (k_change_b M n k a b h.1 hn hu1 hc).weaken ?_
        rintro M1 r ⟨rfl, rfl⟩
        unfold oChange; rw [e]; simp only [hc, and_false, if_false]
        exact ⟨rfl, h, fM.rf _⟩
theorem c_request (M : aM) (S : aS) (t : Nat) (x c n k y v : Int32) (h : cR M S) (hi : sInv S t) : aK m_S_request 3 1 6 M [.ref 0, .int x, .int c, .int n, .int k, .int y, .int v] (cQ M (oRequest S x c n k y v)) := by
  rcases dG_cases x with ⟨e, hx⟩ | ⟨m, h3, hm, rfl, e⟩
  · refine (k_request_n M x c n k y v h.1 (k_upT_2 M x h.1 hx)).weaken ?_
    rintro M1 r ⟨rfl, rfl⟩
    unfold oRequest; rw [e]
    exact ⟨rfl, h, fM.rf _⟩
  · obtain ⟨i1, i2, i3, i4⟩ := hi.1 m hm
    have hu0 := (h.2 m hm).1
    cases hu : sUp S m
    · rw [hu] at hu0
      refine (k_request_n M (nI m) c n k y v h.1 (k_upT_1 M m h.1 h3 hm (by rw [hu0]; rfl))).weaken ?_
      rintro M1 r ⟨rfl, rfl⟩
      unfold oRequest; rw [e]; simp only [hu]
      exact ⟨rfl, h, fM.rf _⟩
    · rw [hu] at hu0
      have hu1 : mI M (nd m) 0 ≠ 0 := by rw [hu0]; decide
      by_cases hc : rqOk c n k y v
      · have hl0 := (h.2 m hm).2.1
        cases hl : sLd S m
        · rw [hl] at hl0
          refine (k_request_f M m c n k y v h.1 h3 hm hu1 hc (by rw [hl0]; rfl)).weaken ?_
          rintro M1 r ⟨rfl, rfl⟩
          have eo : oRequest S (nI m) c n k y v = (S, -2) := by
            unfold oRequest; rw [e]; simp only []; rw [if_pos ⟨hu, hc⟩, hl]; rfl
          rw [eo]
          exact ⟨rfl, h, fM.rf _⟩
        · rw [hl] at hl0
          refine (k_request_w M m c n k y v h.1 h3 hm hu1 hc (by rw [hl0]; decide) (sLn S m) (h.2 m hm).2.2.2.2.1.1 i1).weaken ?_
          have eo : oRequest S (nI m) c n k y v = oWr S m (eRq (sT S m) (iN c) (iN n) (iN k) (iN y) (iN v)) := by
            unfold oRequest; rw [e]; simp only []; rw [if_pos ⟨hu, hc⟩, if_pos hl]
          rw [eo]
          refine cQ_write h hm i1 i2 (fR_new M _ c n k y v) ?_
          rw [(h.2 m hm).2.2.1]
          exact eRq_R h.1.1 hc
      · refine (k_request_b M m c n k y v h.1 h3 hm hu1 hc).weaken ?_
        rintro M1 r ⟨rfl, rfl⟩
        have eo : oRequest S (nI m) c n k y v = (S, -1) := by
          unfold oRequest; rw [e]; simp only []; rw [if_neg (fun q => hc q.2)]
        rw [eo]
        exact ⟨rfl, h, fM.rf _⟩
end
section
/-! how the model's cells hold the state -/
def mSh (M : aM) : Prop := tO M 332 11 ∧ mR M 332 0 = some 333 ∧ tA M 333 101 12 ∧ mR M 332 1 = some 334 ∧ tA M 334 101 12 ∧ mR M 332 2 = some 335 ∧ tA M 335 100 12 ∧ mR M 332 3 = some 336 ∧ tA M 336 100 12 ∧ mR M 332 4 = some 337 ∧ tA M 337 100 12 ∧ mR M 332 5 = some 338 ∧ tA M 338 100 14400 ∧ mR M 332 6 = some 339 ∧ tA M 339 100 15 ∧ mR M 332 8 = some 340 ∧ tA M 340 100 16 ∧ mR M 332 9 = some 341 ∧ tA M 341 100 128 ∧ mR M 332 11 = some 342 ∧ tA M 342 100 8 ∧ mR M 332 12 = some 343 ∧ tA M 343 100 8 ∧ mR M 332 13 = some 344 ∧ tA M 344 100 64
def mRep (M : aM) (S : aS) : Prop := mSh M ∧ ∀ n, n < 12 → mI M 333 n = bI (!sUp S n) ∧ mI M 334 n = bI (sLd S n) ∧ mI M 335 n = nI (sT S n) ∧ mI M 336 n = nI (sLn S n) ∧ mI M 337 n = nI (sKn S n) ∧ ∀ k, k < sLn S n → ∀ c, c < 15 → mI M 338 (15 * (80 * n + k) + c) = nI (sLg S n k c)
/-- the class's cells are as they were -/
def fY (M M1 : aM) : Prop := mSz M1 = mSz M ∧ ∀ a, ¬ (332 ≤ a ∧ a < 345) → sm M M1 a
def mQ (M : aM) (o : aS × Int32) : aM → Option Value → Prop := fun M1 r => r = some (.int o.2) ∧ mRep M1 o.1 ∧ fY M M1
theorem fY.rf (M : aM) : fY M M := ⟨rfl, fun a _ => sm.rf M a⟩
theorem fY.sI {M M1 : aM} {o k : Nat} {x : Int32} (h : fY M M1) (ho : 332 ≤ o ∧ o < 345) : fY M (sI M1 o k x) := ⟨h.1, fun a ha => (h.2 a ha).sI (fun e => ha (by rw [e]; exact ho))⟩
theorem fY.tr {M M1 M2 : aM} (h : fY M M1) (g : fY M1 M2) : fY M M2 := ⟨g.1.trans h.1, fun a ha => (h.2 a ha).tr (g.2 a ha)⟩
theorem mSh_sI {M : aM} {o k : Nat} {x : Int32} (h : mSh M) : mSh (sI M o k x) := h

set_option maxRecDepth 20000 in
set_option maxHeartbeats 1000000 in
theorem k_below (M : aM) (x y : Int32) : aK m_M_below 0 0 0 M [.int x, .int y] (fun M1 r => M1 = M ∧ r = some (.int (bP (0 ≤ x ∧ x < y)))) := by
  refine aK.of (by decide) (Nat.le_of_ble_eq_true rfl) ?_
  refine j_iload_n d_M_below_0 rfl ?_
  refine j_if_lt (tgt := 13) d_M_below_1 (by decide) (fun h1 => ?_) (fun h1 => ?_)
  · have hb : bP (0 ≤ x ∧ x < y) = 0 := bP_f (fun q => absurd h1 (Int32.not_lt.mpr q.1))
    refine j_iconst (v := 0) d_M_below_13 (by decide) ?_
    refine j_ireturn d_M_below_14 rfl rfl ?_ (by decide) (by decide)
    exact ⟨rfl, by rw [hb]⟩
  · refine j_iload_n d_M_below_4 rfl ?_
    refine j_iload_n d_M_below_5 rfl ?_
    refine j_icmp_ge (tgt := 13) d_M_below_6 (by decide) (fun h6 => ?_) (fun h6 => ?_)
    · have hb : bP (0 ≤ x ∧ x < y) = 0 := bP_f (fun q => absurd h6 (Int32.not_le.mpr q.2))
      refine j_iconst (v := 0) d_M_below_13 (by decide) ?_
      refine j_ireturn d_M_below_14 rfl rfl ?_ (by decide) (by decide)
      exact ⟨rfl, by rw [hb]⟩
    · have hb : bP (0 ≤ x ∧ x < y) = 1 := bP_t ⟨Int32.not_lt.mp h1, Int32.not_le.mp h6⟩
      refine j_iconst (v := 1) d_M_below_9 (by decide) ?_
      refine j_goto 14 d_M_below_10 (by decide) ?_
      refine j_ireturn d_M_below_14 rfl rfl ?_ (by decide) (by decide)
      exact ⟨rfl, by rw [hb]⟩
theorem k_below_t (M : aM) {n N : Nat} (h : n < N) (hN : N < 2 ^ 31) : aK m_M_below 0 0 0 M [.int (nI n), .int (nI N)] (fun M1 r => M1 = M ∧ r = some (.int 1)) := by
  have := k_below M (nI n) (nI N)
  rw [bP_t ⟨nI_pos' (by omega), nI_lt h hN⟩] at this
  exact this
theorem k_below_f (M : aM) {x : Int32} {N : Nat} (h : x < 0 ∨ nI N ≤ x) : aK m_M_below 0 0 0 M [.int x, .int (nI N)] (fun M1 r => M1 = M ∧ r = some (.int 0)) := by
  have := k_below M x (nI N)
  rw [bP_f (fun q => h.elim (fun h => Int32.not_lt.mpr q.1 h) (fun h => Int32.not_lt.mpr h q.2))] at this
  exact this
set_option maxRecDepth 20000 in
set_option maxHeartbeats 1000000 in
theorem q_crash_n (M : aM) (x : Int32) (hm : mSh M) (hx : x < 0 ∨ nI 12 ≤ x) : aK m_M_crash 1 0 0 M [.ref 332, .int x] (fun M1 r => M1 = M ∧ r = some (.int 0)) := by
  refine aK.of (by decide) (Nat.le_of_ble_eq_true rfl) ?_
  obtain ⟨h0, q_off, t_off, q_leads, t_leads, q_term, t_term, q_length, t_length, q_known, t_known, q_logs, t_logs, q_entry, t_entry, q_members, t_members, q_owners, t_owners, q_owner, t_owner, q_condition, t_condition, q_held, t_held⟩ := hm
  refine j_iload_n d_M_crash_0 rfl ?_
  refine j_bipush (v := 12) d_M_crash_1 (by decide) ?_
  refine j_callS (vs := [_, _]) d_M_crash_3 w680 w681 w7 w682 y_M_below (by decide) (by decide) (k_below_f M (N := 12) hx) rfl (Nat.le_of_ble_eq_true rfl) (by decide) (by decide) (fun M1 r1 hq1 => ?_)
  obtain ⟨rfl, rfl⟩ := hq1
  refine j_if_eq (tgt := 18) d_M_crash_6 (by decide) (fun h6 => ?_) (fun h6 => False.elim (h6 rfl))
  refine j_iconst (v := 0) d_M_crash_18 (by decide) ?_
  refine j_ireturn d_M_crash_19 rfl rfl ?_ (by decide) (by decide)
  exact ⟨rfl, rfl⟩
set_option maxRecDepth 20000 in
set_option maxHeartbeats 1000000 in
theorem q_recover_n (M : aM) (x : Int32) (hm : mSh M) (hx : x < 0 ∨ nI 12 ≤ x) : aK m_M_recover 1 0 0 M [.ref 332, .int x] (fun M1 r => M1 = M ∧ r = some (.int 0)) := by
  refine aK.of (by decide) (Nat.le_of_ble_eq_true rfl) ?_
  obtain ⟨h0, q_off, t_off, q_leads, t_leads, q_term, t_term, q_length, t_length, q_known, t_known, q_logs, t_logs, q_entry, t_entry, q_members, t_members, q_owners, t_owners, q_owner, t_owner, q_condition, t_condition, q_held, t_held⟩ := hm
  refine j_iload_n d_M_recover_0 rfl ?_
  refine j_bipush (v := 12) d_M_recover_1 (by decide) ?_
  refine j_callS (vs := [_, _]) d_M_recover_3 w680 w681 w7 w682 y_M_below (by decide) (by decide) (k_below_f M (N := 12) hx) rfl (Nat.le_of_ble_eq_true rfl) (by decide) (by decide) (fun M1 r1 hq1 => ?_)
  obtain ⟨rfl, rfl⟩ := hq1
  refine j_if_eq (tgt := 18) d_M_recover_6 (by decide) (fun h6 => ?_) (fun h6 => False.elim (h6 rfl))
  refine j_iconst (v := 0) d_M_recover_18 (by decide) ?_
  refine j_ireturn d_M_recover_19 rfl rfl ?_ (by decide) (by decide)
  exact ⟨rfl, rfl⟩
set_option maxRecDepth 20000 in
set_option maxHeartbeats 1000000 in
theorem q_length_n (M : aM) (x : Int32) (hm : mSh M) (hx : x < 0 ∨ nI 12 ≤ x) : aK m_M_length 1 0 0 M [.ref 332, .int x] (fun M1 r => M1 = M ∧ r = some (.int (-1))) := by
  refine aK.of (by decide) (Nat.le_of_ble_eq_true rfl) ?_
  obtain ⟨h0, q_off, t_off, q_leads, t_leads, q_term, t_term, q_length, t_length, q_known, t_known, q_logs, t_logs, q_entry, t_entry, q_members, t_members, q_owners, t_owners, q_owner, t_owner, q_condition, t_condition, q_held, t_held⟩ := hm
  refine j_iload_n d_M_length_0 rfl ?_
  refine j_bipush (v := 12) d_M_length_1 (by decide) ?_
  refine j_callS (vs := [_, _]) d_M_length_3 w680 w681 w7 w682 y_M_below (by decide) (by decide) (k_below_f M (N := 12) hx) rfl (Nat.le_of_ble_eq_true rfl) (by decide) (by decide) (fun M1 r1 hq1 => ?_)
  obtain ⟨rfl, rfl⟩ := hq1
  refine j_if_eq (tgt := 18) d_M_length_6 (by decide) (fun h6 => ?_) (fun h6 => False.elim (h6 rfl))
  refine j_iconst (v := -1) d_M_length_18 (by decide) ?_
  refine j_ireturn d_M_length_19 rfl rfl ?_ (by decide) (by decide)
  exact ⟨rfl, rfl⟩
set_option maxRecDepth 20000 in
set_option maxHeartbeats 1000000 in
theorem q_known_n (M : aM) (x : Int32) (hm : mSh M) (hx : x < 0 ∨ nI 12 ≤ x) : aK m_M_known 1 0 0 M [.ref 332, .int x] (fun M1 r => M1 = M ∧ r = some (.int (-1))) := by
  refine aK.of (by decide) (Nat.le_of_ble_eq_true rfl) ?_
  obtain ⟨h0, q_off, t_off, q_leads, t_leads, q_term, t_term, q_length, t_length, q_known, t_known, q_logs, t_logs, q_entry, t_entry, q_members, t_members, q_owners, t_owners, q_owner, t_owner, q_condition, t_condition, q_held, t_held⟩ := hm
  refine j_iload_n d_M_known_0 rfl ?_
  refine j_bipush (v := 12) d_M_known_1 (by decide) ?_
  refine j_callS (vs := [_, _]) d_M_known_3 w680 w681 w7 w682 y_M_below (by decide) (by decide) (k_below_f M (N := 12) hx) rfl (Nat.le_of_ble_eq_true rfl) (by decide) (by decide) (fun M1 r1 hq1 => ?_)
  obtain ⟨rfl, rfl⟩ := hq1
  refine j_if_eq (tgt := 18) d_M_known_6 (by decide) (fun h6 => ?_) (fun h6 => False.elim (h6 rfl))
  refine j_iconst (v := -1) d_M_known_18 (by decide) ?_
  refine j_ireturn d_M_known_19 rfl rfl ?_ (by decide) (by decide)
  exact ⟨rfl, rfl⟩
set_option maxRecDepth 20000 in
set_option maxHeartbeats 1000000 in
theorem q_term_n (M : aM) (x : Int32) (hm : mSh M) (hx : x < 0 ∨ nI 12 ≤ x) : aK m_M_term 1 0 0 M [.ref 332, .int x] (fun M1 r => M1 = M ∧ r = some (.int (-1))) := by
  refine aK.of (by decide) (Nat.le_of_ble_eq_true rfl) ?_
  obtain ⟨h0, q_off, t_off, q_leads, t_leads, q_term, t_term, q_length, t_length, q_known, t_known, q_logs, t_logs, q_entry, t_entry, q_members, t_members, q_owners, t_owners, q_owner, t_owner, q_condition, t_condition, q_held, t_held⟩ := hm
  refine j_iload_n d_M_term_0 rfl ?_
  refine j_bipush (v := 12) d_M_term_1 (by decide) ?_
  refine j_callS (vs := [_, _]) d_M_term_3 w680 w681 w7 w682 y_M_below (by decide) (by decide) (k_below_f M (N := 12) hx) rfl (Nat.le_of_ble_eq_true rfl) (by decide) (by decide) (fun M1 r1 hq1 => ?_)
  obtain ⟨rfl, rfl⟩ := hq1
  refine j_if_eq (tgt := 35) d_M_term_6 (by decide) (fun h6 => ?_) (fun h6 => False.elim (h6 rfl))
  refine j_iconst (v := -1) d_M_term_35 (by decide) ?_
  refine j_ireturn d_M_term_36 rfl rfl ?_ (by decide) (by decide)
  exact ⟨rfl, rfl⟩
set_option maxRecDepth 20000 in
set_option maxHeartbeats 1000000 in
theorem q_crash_0 (M : aM) (n : Nat) (hm : mSh M) (hn : n < 12) (hu : mI M 333 n ≠ 0) : aK m_M_crash 1 0 0 M [.ref 332, .int (nI n)] (fun M1 r => M1 = M ∧ r = some (.int 0)) := by
  refine aK.of (by decide) (Nat.le_of_ble_eq_true rfl) ?_
  obtain ⟨h0, q_off, t_off, q_leads, t_leads, q_term, t_term, q_length, t_length, q_known, t_known, q_logs, t_logs, q_entry, t_entry, q_members, t_members, q_owners, t_owners, q_owner, t_owner, q_condition, t_condition, q_held, t_held⟩ := hm
  refine j_iload_n d_M_crash_0 rfl ?_
  refine j_bipush (v := 12) d_M_crash_1 (by decide) ?_
  refine j_callS (vs := [_, _]) d_M_crash_3 w680 w681 w7 w682 y_M_below (by decide) (by decide) (k_below_t M (N := 12) hn (by decide)) rfl (Nat.le_of_ble_eq_true rfl) (by decide) (by decide) (fun M1 r1 hq1 => ?_)
  obtain ⟨rfl, rfl⟩ := hq1
  refine j_if_eq (tgt := 18) d_M_crash_6 (by decide) (fun h6 => False.elim (absurd h6 (by decide))) (fun h6 => ?_)
  refine j_aload_n d_M_crash_9 rfl ?_
  refine j_getR d_M_crash_10 h0 f_M_7_M rfl (by decide) q_off ?_
  refine j_iload_n d_M_crash_13 rfl ?_
  refine j_zald d_M_crash_14 t_off (aIx.n hn (by decide)) ?_
  refine j_if_eq (tgt := 20) d_M_crash_15 (by decide) (fun h15 => False.elim (hu h15)) (fun h15 => ?_)
  refine j_iconst (v := 0) d_M_crash_18 (by decide) ?_
  refine j_ireturn d_M_crash_19 rfl rfl ?_ (by decide) (by decide)
  exact ⟨rfl, rfl⟩
set_option maxRecDepth 20000 in
set_option maxHeartbeats 1000000 in
theorem q_crash_1 (M : aM) (n : Nat) (hm : mSh M) (hn : n < 12) (hu : mI M 333 n = 0) : aK m_M_crash 1 0 0 M [.ref 332, .int (nI n)] (fun M1 r => M1 = sI (sI M 333 n 1) 334 n 0 ∧ r = some (.int 1)) := by
  refine aK.of (by decide) (Nat.le_of_ble_eq_true rfl) ?_
  obtain ⟨h0, q_off, t_off, q_leads, t_leads, q_term, t_term, q_length, t_length, q_known, t_known, q_logs, t_logs, q_entry, t_entry, q_members, t_members, q_owners, t_owners, q_owner, t_owner, q_condition, t_condition, q_held, t_held⟩ := hm
  refine j_iload_n d_M_crash_0 rfl ?_
  refine j_bipush (v := 12) d_M_crash_1 (by decide) ?_
  refine j_callS (vs := [_, _]) d_M_crash_3 w680 w681 w7 w682 y_M_below (by decide) (by decide) (k_below_t M (N := 12) hn (by decide)) rfl (Nat.le_of_ble_eq_true rfl) (by decide) (by decide) (fun M1 r1 hq1 => ?_)
  obtain ⟨rfl, rfl⟩ := hq1
  refine j_if_eq (tgt := 18) d_M_crash_6 (by decide) (fun h6 => False.elim (absurd h6 (by decide))) (fun h6 => ?_)
  refine j_aload_n d_M_crash_9 rfl ?_
  refine j_getR d_M_crash_10 h0 f_M_7_M rfl (by decide) q_off ?_
  refine j_iload_n d_M_crash_13 rfl ?_
  refine j_zald d_M_crash_14 t_off (aIx.n hn (by decide)) ?_
  refine j_if_eq (tgt := 20) d_M_crash_15 (by decide) (fun h15 => ?_) (fun h15 => False.elim (h15 hu))
  refine j_aload_n d_M_crash_20 rfl ?_
  refine j_getR d_M_crash_21 h0 f_M_7_M rfl (by decide) q_off ?_
  refine j_iload_n d_M_crash_24 rfl ?_
  refine j_iconst (v := 1) d_M_crash_25 (by decide) ?_
  refine j_zast d_M_crash_26 t_off (aIx.n hn (by decide)) rfl ?_
  refine j_aload_n d_M_crash_27 rfl ?_
  refine j_getR d_M_crash_28 h0 f_M_13_M rfl (by decide) q_leads ?_
  refine j_iload_n d_M_crash_31 rfl ?_
  refine j_iconst (v := 0) d_M_crash_32 (by decide) ?_
  refine j_zast d_M_crash_33 t_leads (aIx.n hn (by decide)) rfl ?_
  refine j_iconst (v := 1) d_M_crash_34 (by decide) ?_
  refine j_ireturn d_M_crash_35 rfl rfl ?_ (by decide) (by decide)
  exact ⟨rfl, rfl⟩
set_option maxRecDepth 20000 in
set_option maxHeartbeats 1000000 in
theorem q_recover_0 (M : aM) (n : Nat) (hm : mSh M) (hn : n < 12) (hu : mI M 333 n = 0) : aK m_M_recover 1 0 0 M [.ref 332, .int (nI n)] (fun M1 r => M1 = M ∧ r = some (.int 0)) := by
  refine aK.of (by decide) (Nat.le_of_ble_eq_true rfl) ?_
  obtain ⟨h0, q_off, t_off, q_leads, t_leads, q_term, t_term, q_length, t_length, q_known, t_known, q_logs, t_logs, q_entry, t_entry, q_members, t_members, q_owners, t_owners, q_owner, t_owner, q_condition, t_condition, q_held, t_held⟩ := hm
  refine j_iload_n d_M_recover_0 rfl ?_
  refine j_bipush (v := 12) d_M_recover_1 (by decide) ?_
  refine j_callS (vs := [_, _]) d_M_recover_3 w680 w681 w7 w682 y_M_below (by decide) (by decide) (k_below_t M (N := 12) hn (by decide)) rfl (Nat.le_of_ble_eq_true rfl) (by decide) (by decide) (fun M1 r1 hq1 => ?_)
  obtain ⟨rfl, rfl⟩ := hq1
  refine j_if_eq (tgt := 18) d_M_recover_6 (by decide) (fun h6 => False.elim (absurd h6 (by decide))) (fun h6 => ?_)
  refine j_aload_n d_M_recover_9 rfl ?_
  refine j_getR d_M_recover_10 h0 f_M_7_M rfl (by decide) q_off ?_
  refine j_iload_n d_M_recover_13 rfl ?_
  refine j_zald d_M_recover_14 t_off (aIx.n hn (by decide)) ?_
  refine j_if_ne (tgt := 20) d_M_recover_15 (by decide) (fun h15 => False.elim (h15 hu)) (fun h15 => ?_)
  refine j_iconst (v := 0) d_M_recover_18 (by decide) ?_
  refine j_ireturn d_M_recover_19 rfl rfl ?_ (by decide) (by decide)
  exact ⟨rfl, rfl⟩
set_option maxRecDepth 20000 in
set_option maxHeartbeats 1000000 in
theorem q_recover_1 (M : aM) (n : Nat) (hm : mSh M) (hn : n < 12) (hu : mI M 333 n ≠ 0) : aK m_M_recover 1 0 0 M [.ref 332, .int (nI n)] (fun M1 r => M1 = sI M 333 n 0 ∧ r = some (.int 1)) := by
  refine aK.of (by decide) (Nat.le_of_ble_eq_true rfl) ?_
  obtain ⟨h0, q_off, t_off, q_leads, t_leads, q_term, t_term, q_length, t_length, q_known, t_known, q_logs, t_logs, q_entry, t_entry, q_members, t_members, q_owners, t_owners, q_owner, t_owner, q_condition, t_condition, q_held, t_held⟩ := hm
  refine j_iload_n d_M_recover_0 rfl ?_
  refine j_bipush (v := 12) d_M_recover_1 (by decide) ?_
  refine j_callS (vs := [_, _]) d_M_recover_3 w680 w681 w7 w682 y_M_below (by decide) (by decide) (k_below_t M (N := 12) hn (by decide)) rfl (Nat.le_of_ble_eq_true rfl) (by decide) (by decide) (fun M1 r1 hq1 => ?_)
  obtain ⟨rfl, rfl⟩ := hq1
  refine j_if_eq (tgt := 18) d_M_recover_6 (by decide) (fun h6 => False.elim (absurd h6 (by decide))) (fun h6 => ?_)
  refine j_aload_n d_M_recover_9 rfl ?_
  refine j_getR d_M_recover_10 h0 f_M_7_M rfl (by decide) q_off ?_
  refine j_iload_n d_M_recover_13 rfl ?_
  refine j_zald d_M_recover_14 t_off (aIx.n hn (by decide)) ?_
  refine j_if_ne (tgt := 20) d_M_recover_15 (by decide) (fun h15 => ?_) (fun h15 => False.elim (hu h15))
  refine j_aload_n d_M_recover_20 rfl ?_
  refine j_getR d_M_recover_21 h0 f_M_7_M rfl (by decide) q_off ?_
  refine j_iload_n d_M_recover_24 rfl ?_
  refine j_iconst (v := 0) d_M_recover_25 (by decide) ?_
  refine j_zast d_M_recover_26 t_off (aIx.n hn (by decide)) rfl ?_
  refine j_iconst (v := 1) d_M_recover_27 (by decide) ?_
  refine j_ireturn d_M_recover_28 rfl rfl ?_ (by decide) (by decide)
  exact ⟨rfl, rfl⟩
set_option maxRecDepth 20000 in
set_option maxHeartbeats 1000000 in
theorem q_length_1 (M : aM) (n : Nat) (hm : mSh M) (hn : n < 12) : aK m_M_length 1 0 0 M [.ref 332, .int (nI n)] (fun M1 r => M1 = M ∧ r = some (.int (mI M 336 n))) := by
  refine aK.of (by decide) (Nat.le_of_ble_eq_true rfl) ?_
  obtain ⟨h0, q_off, t_off, q_leads, t_leads, q_term, t_term, q_length, t_length, q_known, t_known, q_logs, t_logs, q_entry, t_entry, q_members, t_members, q_owners, t_owners, q_owner, t_owner, q_condition, t_condition, q_held, t_held⟩ := hm
  refine j_iload_n d_M_length_0 rfl ?_
  refine j_bipush (v := 12) d_M_length_1 (by decide) ?_
  refine j_callS (vs := [_, _]) d_M_length_3 w680 w681 w7 w682 y_M_below (by decide) (by decide) (k_below_t M (N := 12) hn (by decide)) rfl (Nat.le_of_ble_eq_true rfl) (by decide) (by decide) (fun M1 r1 hq1 => ?_)
  obtain ⟨rfl, rfl⟩ := hq1
  refine j_if_eq (tgt := 18) d_M_length_6 (by decide) (fun h6 => False.elim (absurd h6 (by decide))) (fun h6 => ?_)
  refine j_aload_n d_M_length_9 rfl ?_
  refine j_getR d_M_length_10 h0 f_M_20_M rfl (by decide) q_length ?_
  refine j_iload_n d_M_length_13 rfl ?_
  refine j_iald d_M_length_14 t_length (aIx.n hn (by decide)) ?_
  refine j_goto 19 d_M_length_15 (by decide) ?_
  refine j_ireturn d_M_length_19 rfl rfl ?_ (by decide) (by decide)
  exact ⟨rfl, rfl⟩
set_option maxRecDepth 20000 in
set_option maxHeartbeats 1000000 in
theorem q_known_1 (M : aM) (n : Nat) (hm : mSh M) (hn : n < 12) : aK m_M_known 1 0 0 M [.ref 332, .int (nI n)] (fun M1 r => M1 = M ∧ r = some (.int (mI M 337 n))) := by
  refine aK.of (by decide) (Nat.le_of_ble_eq_true rfl) ?_
  obtain ⟨h0, q_off, t_off, q_leads, t_leads, q_term, t_term, q_length, t_length, q_known, t_known, q_logs, t_logs, q_entry, t_entry, q_members, t_members, q_owners, t_owners, q_owner, t_owner, q_condition, t_condition, q_held, t_held⟩ := hm
  refine j_iload_n d_M_known_0 rfl ?_
  refine j_bipush (v := 12) d_M_known_1 (by decide) ?_
  refine j_callS (vs := [_, _]) d_M_known_3 w680 w681 w7 w682 y_M_below (by decide) (by decide) (k_below_t M (N := 12) hn (by decide)) rfl (Nat.le_of_ble_eq_true rfl) (by decide) (by decide) (fun M1 r1 hq1 => ?_)
  obtain ⟨rfl, rfl⟩ := hq1
  refine j_if_eq (tgt := 18) d_M_known_6 (by decide) (fun h6 => False.elim (absurd h6 (by decide))) (fun h6 => ?_)
  refine j_aload_n d_M_known_9 rfl ?_
  refine j_getR d_M_known_10 h0 f_M_23_M rfl (by decide) q_known ?_
  refine j_iload_n d_M_known_13 rfl ?_
  refine j_iald d_M_known_14 t_known (aIx.n hn (by decide)) ?_
  refine j_goto 19 d_M_known_15 (by decide) ?_
  refine j_ireturn d_M_known_19 rfl rfl ?_ (by decide) (by decide)
  exact ⟨rfl, rfl⟩
set_option maxRecDepth 20000 in
set_option maxHeartbeats 1000000 in
theorem q_term_1 (M : aM) (n : Nat) (hm : mSh M) (hn : n < 12) : aK m_M_term 1 0 0 M [.ref 332, .int (nI n)] (fun M1 r => M1 = M ∧ r = some (.int (mI M 335 n + if mI M 334 n = 0 then 0 else 1000))) := by
  refine aK.of (by decide) (Nat.le_of_ble_eq_true rfl) ?_
  obtain ⟨h0, q_off, t_off, q_leads, t_leads, q_term, t_term, q_length, t_length, q_known, t_known, q_logs, t_logs, q_entry, t_entry, q_members, t_members, q_owners, t_owners, q_owner, t_owner, q_condition, t_condition, q_held, t_held⟩ := hm
  refine j_iload_n d_M_term_0 rfl ?_
  refine j_bipush (v := 12) d_M_term_1 (by decide) ?_
  refine j_callS (vs := [_, _]) d_M_term_3 w680 w681 w7 w682 y_M_below (by decide) (by decide) (k_below_t M (N := 12) hn (by decide)) rfl (Nat.le_of_ble_eq_true rfl) (by decide) (by decide) (fun M1 r1 hq1 => ?_)
  obtain ⟨rfl, rfl⟩ := hq1
  refine j_if_eq (tgt := 35) d_M_term_6 (by decide) (fun h6 => False.elim (absurd h6 (by decide))) (fun h6 => ?_)
  refine j_aload_n d_M_term_9 rfl ?_
  refine j_getR d_M_term_10 h0 f_M_16_M rfl (by decide) q_term ?_
  refine j_iload_n d_M_term_13 rfl ?_
  refine j_iald d_M_term_14 t_term (aIx.n hn (by decide)) ?_
  refine j_aload_n d_M_term_15 rfl ?_
  refine j_getR d_M_term_16 h0 f_M_13_M rfl (by decide) q_leads ?_
  refine j_iload_n d_M_term_19 rfl ?_
  refine j_zald d_M_term_20 t_leads (aIx.n hn (by decide)) ?_
  refine j_if_eq (tgt := 30) d_M_term_21 (by decide) (fun h21 => ?_) (fun h21 => ?_)
  · have hb : (if mI M1 334 n = 0 then (0 : Int32) else 1000) = 0 := if_pos h21
    refine j_iconst (v := 0) d_M_term_30 (by decide) ?_
    refine j_iadd d_M_term_31 ?_
    refine j_goto 36 d_M_term_32 (by decide) ?_
    refine j_ireturn d_M_term_36 rfl rfl ?_ (by decide) (by decide)
    exact ⟨rfl, by rw [hb]⟩
  · have hb : (if mI M1 334 n = 0 then (0 : Int32) else 1000) = 1000 := if_neg h21
    refine j_sipush (v := 1000) d_M_term_24 (by decide) ?_
    refine j_goto 31 d_M_term_27 (by decide) ?_
    refine j_iadd d_M_term_31 ?_
    refine j_goto 36 d_M_term_32 (by decide) ?_
    refine j_ireturn d_M_term_36 rfl rfl ?_ (by decide) (by decide)
    exact ⟨rfl, by rw [hb]⟩
end
section
theorem m_crash (M : aM) (S : aS) (x : Int32) (h : mRep M S) : aK m_M_crash 1 0 0 M [.ref 332, .int x] (mQ M (oCrash S x)) := by
  rcases dN_cases x (N := 12) (by decide) with ⟨e, hx⟩ | ⟨n, hn, rfl, e⟩
  · refine (q_crash_n M x h.1 hx).weaken ?_
    rintro M1 r ⟨rfl, rfl⟩
    unfold oCrash; rw [e]
    exact ⟨rfl, h, fY.rf _⟩
  · have hu0 := (h.2 n hn).1
    cases hu : sUp S n
    · rw [hu] at hu0
      refine (q_crash_0 M n h.1 hn (by rw [hu0]; decide)).weaken ?_
      rintro M1 r ⟨rfl, rfl⟩
      unfold oCrash; rw [e]; simp only [hu]
      exact ⟨rfl, h, fY.rf _⟩
    · rw [hu] at hu0
      refine (q_crash_1 M n h.1 hn (by rw [hu0]; rfl)).weaken ?_
      rintro M1 r ⟨rfl, rfl⟩
      unfold oCrash; rw [e]; simp only [hu, if_true]
      refine ⟨rfl, ⟨h.1, fun m hm => ?_⟩, ((fY.rf M).sI (by omega)).sI (by omega)⟩
      obtain ⟨a1, a2, a3, a4, a5, a6⟩ := h.2 m hm
      refine ⟨?_, ?_, a3, a4, a5, a6⟩
      · show mI _ _ _ = bI (!fu (sUp S) n false m)
        rw [mm_I_sI, if_neg (by omega), mm_I_sI]
        by_cases q : m = n
        · subst q; rw [if_pos ⟨rfl, rfl⟩, fu_s]; rfl
        · rw [if_neg (fun z => q z.2), fu_n _ _ q]; exact a1
      · show mI _ _ _ = bI (fu (sLd S) n false m)
        rw [mm_I_sI]
        by_cases q : m = n
        · subst q; rw [if_pos ⟨rfl, rfl⟩, fu_s]; rfl
        · rw [if_neg (fun z => q z.2), fu_n _ _ q, mm_I_sI, if_neg (by omega)]; exact a2
theorem m_recover (M : aM) (S : aS) (x : Int32) (h : mRep M S) : aK m_M_recover 1 0 0 M [.ref 332, .int x] (mQ M (oRecover S x)) := by
  rcases dN_cases x (N := 12) (by decide) with ⟨e, hx⟩ | ⟨n, hn, rfl, e⟩
  · refine (q_recover_n M x h.1 hx).weaken ?_
    rintro M1 r ⟨rfl, rfl⟩
    unfold oRecover; rw [e]
    exact ⟨rfl, h, fY.rf _⟩
  · have hu0 := (h.2 n hn).1
    cases hu : sUp S n
    · rw [hu] at hu0
      refine (q_recover_1 M n h.1 hn (by rw [hu0]; decide)).weaken ?_
      rintro M1 r ⟨rfl, rfl⟩
      unfold oRecover; rw [e]; simp only [hu]
      refine ⟨rfl, ⟨h.1, fun m hm => ?_⟩, (fY.rf M).sI (by omega)⟩
      obtain ⟨a1, a2, a3, a4, a5, a6⟩ := h.2 m hm
      refine ⟨?_, a2, a3, a4, a5, a6⟩
      show mI _ _ _ = bI (!fu (sUp S) n true m)
      rw [mm_I_sI]
      by_cases q : m = n
      · subst q; rw [if_pos ⟨rfl, rfl⟩, fu_s]; rfl
      · rw [if_neg (fun z => q z.2), fu_n _ _ q]; exact a1
    · rw [hu] at hu0
      refine (q_recover_0 M n h.1 hn (by rw [hu0]; rfl)).weaken ?_
      rintro M1 r ⟨rfl, rfl⟩
      unfold oRecover; rw [e]; simp only [hu, if_true]
      exact ⟨rfl, h, fY.rf _⟩
theorem m_length (M : aM) (S : aS) (x : Int32) (h : mRep M S) : aK m_M_length 1 0 0 M [.ref 332, .int x] (mQ M (oLength S x)) := by
  rcases dN_cases x (N := 12) (by decide) with ⟨e, hx⟩ | ⟨n, hn, rfl, e⟩
  · refine (q_length_n M x h.1 hx).weaken ?_
    rintro M1 r ⟨rfl, rfl⟩
    unfold oLength; rw [e]
    exact ⟨rfl, h, fY.rf _⟩
  · refine (q_length_1 M n h.1 hn).weaken ?_
    rintro M1 r ⟨rfl, rfl⟩
    unfold oLength; rw [e]
    exact ⟨by rw [(h.2 n hn).2.2.2.1], h, fY.rf _⟩
theorem m_known (M : aM) (S : aS) (x : Int32) (h : mRep M S) : aK m_M_known 1 0 0 M [.ref 332, .int x] (mQ M (oKnown S x)) := by
  rcases dN_cases x (N := 12) (by decide) with ⟨e, hx⟩ | ⟨n, hn, rfl, e⟩
  · refine (q_known_n M x h.1 hx).weaken ?_
    rintro M1 r ⟨rfl, rfl⟩
    unfold oKnown; rw [e]
    exact ⟨rfl, h, fY.rf _⟩
  · refine (q_known_1 M n h.1 hn).weaken ?_
    rintro M1 r ⟨rfl, rfl⟩
    unfold oKnown; rw [e]
    exact ⟨by rw [(h.2 n hn).2.2.2.2.1], h, fY.rf _⟩
theorem m_term (M : aM) (S : aS) (x : Int32) (h : mRep M S) : aK m_M_term 1 0 0 M [.ref 332, .int x] (mQ M (oTerm S x)) := by
  rcases dN_cases x (N := 12) (by decide) with ⟨e, hx⟩ | ⟨n, hn, rfl, e⟩
  · refine (q_term_n M x h.1 hx).weaken ?_
    rintro M1 r ⟨rfl, rfl⟩
    unfold oTerm; rw [e]
    exact ⟨rfl, h, fY.rf _⟩
  · refine (q_term_1 M n h.1 hn).weaken ?_
    rintro M1 r ⟨rfl, rfl⟩
    unfold oTerm; rw [e]
    refine ⟨?_, h, fY.rf _⟩
    rw [(h.2 n hn).2.1, (h.2 n hn).2.2.1]
    show _ = some (Value.int (if sLd S n = true then nI (sT S n) + 1000 else nI (sT S n)))
    cases q : sLd S n
    · simp [bI]
    · simp [bI]
end
