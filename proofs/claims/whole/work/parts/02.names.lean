def aWS : List Cond := lw_tbl.filter goodWord
theorem aWS_good : ∀ w ∈ aWS, (w.onTables && w.keeps) = true ∨ ∃ ty, w = .arrayClass ty := fun w h => good_of_word (List.mem_filter.mp h).2
theorem aWS_of {w : Cond} (i : Nat) (h : tables_1[i]? = some w) (hg : goodWord w = true) : w ∈ aWS := List.mem_filter.mpr ⟨List.mem_append_right _ (List.mem_of_getElem? h), hg⟩
theorem aWS_p {q : MethodName × Nat} (i : Nat) (h : lw_privs[i]? = some q) (hg : goodWord (Cond.selects q.1.cls q.1 q.1) = true) : Cond.selects q.1.cls q.1 q.1 ∈ aWS := List.mem_filter.mpr ⟨List.mem_append_left _ (List.mem_map.mpr ⟨q, List.mem_of_getElem? h, rfl⟩), hg⟩
def T_S : u_T := fun k => match k with
  | 0 => ("ShardGroups", "nodes", "[LShardGroups$Node;", true)
  | 1 => ("ShardGroups", "services", "[LShardGroups$ServiceNode;", true)
  | _ => ("ShardGroups", "stores", "[LShardGroups$StoreNode;", true)
def tt_S : Nat → FieldType := fun k => match k with
  | 0 => (.array (.object "ShardGroups$Node"))
  | 1 => (.array (.object "ShardGroups$ServiceNode"))
  | _ => (.array (.object "ShardGroups$StoreNode"))
theorem nm_S : ∀ a, a < 3 → ∀ b, b < 3 → a ≠ b → (T_S a).2.1 ≠ (T_S b).2.1 := by decide +kernel
theorem ty_S : ∀ k, k < 3 → parseFieldDescriptor (T_S k).2.2.1 = some (tt_S k) := by decide +kernel
def T_C : u_T := fun k => match k with
  | 0 => ("ShardGroups$Configuration", "members", "[Z", true)
  | 1 => ("ShardGroups$Configuration", "owners", "[I", true)
  | _ => ("ShardGroups$Configuration", "owned", "[I", true)
def tt_C : Nat → FieldType := fun k => match k with
  | 0 => (.array .boolean)
  | 1 => (.array .int)
  | _ => (.array .int)
theorem nm_C : ∀ a, a < 3 → ∀ b, b < 3 → a ≠ b → (T_C a).2.1 ≠ (T_C b).2.1 := by decide +kernel
theorem ty_C : ∀ k, k < 3 → parseFieldDescriptor (T_C k).2.2.1 = some (tt_C k) := by decide +kernel
def T_V : u_T := fun k => match k with
  | 0 => ("ShardGroups$Node", "up", "Z", false)
  | 1 => ("ShardGroups$Node", "leads", "Z", false)
  | 2 => ("ShardGroups$Node", "term", "I", false)
  | 3 => ("ShardGroups$Node", "length", "I", false)
  | 4 => ("ShardGroups$Node", "known", "I", false)
  | 5 => ("ShardGroups$Node", "log", "[LShardGroups$Entry;", true)
  | 6 => ("ShardGroups$ServiceNode", "configurations", "[LShardGroups$Configuration;", true)
  | _ => ("ShardGroups$ServiceNode", "last", "I", false)
def tt_V : Nat → FieldType := fun k => match k with
  | 0 => .boolean
  | 1 => .boolean
  | 2 => .int
  | 3 => .int
  | 4 => .int
  | 5 => (.array (.object "ShardGroups$Entry"))
  | 6 => (.array (.object "ShardGroups$Configuration"))
  | _ => .int
theorem nm_V : ∀ a, a < 8 → ∀ b, b < 8 → a ≠ b → (T_V a).2.1 ≠ (T_V b).2.1 := by decide +kernel
theorem ty_V : ∀ k, k < 8 → parseFieldDescriptor (T_V k).2.2.1 = some (tt_V k) := by decide +kernel
def T_T : u_T := fun k => match k with
  | 0 => ("ShardGroups$Node", "up", "Z", false)
  | 1 => ("ShardGroups$Node", "leads", "Z", false)
  | 2 => ("ShardGroups$Node", "term", "I", false)
  | 3 => ("ShardGroups$Node", "length", "I", false)
  | 4 => ("ShardGroups$Node", "known", "I", false)
  | 5 => ("ShardGroups$Node", "log", "[LShardGroups$Entry;", true)
  | 6 => ("ShardGroups$StoreNode", "group", "I", true)
  | 7 => ("ShardGroups$StoreNode", "number", "I", false)
  | 8 => ("ShardGroups$StoreNode", "current", "LShardGroups$Configuration;", false)
  | _ => ("ShardGroups$StoreNode", "shards", "[LShardGroups$Shard;", true)
def tt_T : Nat → FieldType := fun k => match k with
  | 0 => .boolean
  | 1 => .boolean
  | 2 => .int
  | 3 => .int
  | 4 => .int
  | 5 => (.array (.object "ShardGroups$Entry"))
  | 6 => .int
  | 7 => .int
  | 8 => (.object "ShardGroups$Configuration")
  | _ => (.array (.object "ShardGroups$Shard"))
theorem nm_T : ∀ a, a < 10 → ∀ b, b < 10 → a ≠ b → (T_T a).2.1 ≠ (T_T b).2.1 := by decide +kernel
theorem ty_T : ∀ k, k < 10 → parseFieldDescriptor (T_T k).2.2.1 = some (tt_T k) := by decide +kernel
def T_H : u_T := fun k => match k with
  | 0 => ("ShardGroups$Shard", "condition", "I", false)
  | 1 => ("ShardGroups$Shard", "values", "[I", true)
  | 2 => ("ShardGroups$Shard", "latest", "[I", true)
  | _ => ("ShardGroups$Shard", "answers", "[I", true)
def tt_H : Nat → FieldType := fun k => match k with
  | 0 => .int
  | 1 => (.array .int)
  | 2 => (.array .int)
  | _ => (.array .int)
theorem nm_H : ∀ a, a < 4 → ∀ b, b < 4 → a ≠ b → (T_H a).2.1 ≠ (T_H b).2.1 := by decide +kernel
theorem ty_H : ∀ k, k < 4 → parseFieldDescriptor (T_H k).2.2.1 = some (tt_H k) := by decide +kernel
def T_E : u_T := fun k => match k with
  | _ => ("ShardGroups$Entry", "term", "I", true)
def tt_E : Nat → FieldType := fun k => match k with
  | _ => .int
theorem nm_E : ∀ a, a < 1 → ∀ b, b < 1 → a ≠ b → (T_E a).2.1 ≠ (T_E b).2.1 := by decide +kernel
theorem ty_E : ∀ k, k < 1 → parseFieldDescriptor (T_E k).2.2.1 = some (tt_E k) := by decide +kernel
def T_G : u_T := fun k => match k with
  | 0 => ("ShardGroups$Entry", "term", "I", true)
  | 1 => ("ShardGroups$Change", "kind", "I", true)
  | 2 => ("ShardGroups$Change", "a", "I", true)
  | _ => ("ShardGroups$Change", "b", "I", true)
def tt_G : Nat → FieldType := fun k => match k with
  | 0 => .int
  | 1 => .int
  | 2 => .int
  | _ => .int
theorem nm_G : ∀ a, a < 4 → ∀ b, b < 4 → a ≠ b → (T_G a).2.1 ≠ (T_G b).2.1 := by decide +kernel
theorem ty_G : ∀ k, k < 4 → parseFieldDescriptor (T_G k).2.2.1 = some (tt_G k) := by decide +kernel
def T_F : u_T := fun k => match k with
  | 0 => ("ShardGroups$Entry", "term", "I", true)
  | 1 => ("ShardGroups$Configure", "c", "I", true)
  | _ => ("ShardGroups$Configure", "next", "LShardGroups$Configuration;", true)
def tt_F : Nat → FieldType := fun k => match k with
  | 0 => .int
  | 1 => .int
  | _ => (.object "ShardGroups$Configuration")
theorem nm_F : ∀ a, a < 3 → ∀ b, b < 3 → a ≠ b → (T_F a).2.1 ≠ (T_F b).2.1 := by decide +kernel
theorem ty_F : ∀ k, k < 3 → parseFieldDescriptor (T_F k).2.2.1 = some (tt_F k) := by decide +kernel
def T_R : u_T := fun k => match k with
  | 0 => ("ShardGroups$Entry", "term", "I", true)
  | 1 => ("ShardGroups$Request", "client", "I", true)
  | 2 => ("ShardGroups$Request", "number", "I", true)
  | 3 => ("ShardGroups$Request", "kind", "I", true)
  | 4 => ("ShardGroups$Request", "key", "I", true)
  | _ => ("ShardGroups$Request", "value", "I", true)
def tt_R : Nat → FieldType := fun k => match k with
  | 0 => .int
  | 1 => .int
  | 2 => .int
  | 3 => .int
  | 4 => .int
  | _ => .int
theorem nm_R : ∀ a, a < 6 → ∀ b, b < 6 → a ≠ b → (T_R a).2.1 ≠ (T_R b).2.1 := by decide +kernel
theorem ty_R : ∀ k, k < 6 → parseFieldDescriptor (T_R k).2.2.1 = some (tt_R k) := by decide +kernel
def T_I : u_T := fun k => match k with
  | 0 => ("ShardGroups$Entry", "term", "I", true)
  | 1 => ("ShardGroups$Insert", "shard", "I", true)
  | 2 => ("ShardGroups$Insert", "c", "I", true)
  | _ => ("ShardGroups$Insert", "contents", "LShardGroups$Shard;", true)
def tt_I : Nat → FieldType := fun k => match k with
  | 0 => .int
  | 1 => .int
  | 2 => .int
  | _ => (.object "ShardGroups$Shard")
theorem nm_I : ∀ a, a < 4 → ∀ b, b < 4 → a ≠ b → (T_I a).2.1 ≠ (T_I b).2.1 := by decide +kernel
theorem ty_I : ∀ k, k < 4 → parseFieldDescriptor (T_I k).2.2.1 = some (tt_I k) := by decide +kernel
def T_D : u_T := fun k => match k with
  | 0 => ("ShardGroups$Entry", "term", "I", true)
  | 1 => ("ShardGroups$Delete", "shard", "I", true)
  | _ => ("ShardGroups$Delete", "c", "I", true)
def tt_D : Nat → FieldType := fun k => match k with
  | 0 => .int
  | 1 => .int
  | _ => .int
theorem nm_D : ∀ a, a < 3 → ∀ b, b < 3 → a ≠ b → (T_D a).2.1 ≠ (T_D b).2.1 := by decide +kernel
theorem ty_D : ∀ k, k < 3 → parseFieldDescriptor (T_D k).2.2.1 = some (tt_D k) := by decide +kernel
def T_M : u_T := fun k => match k with
  | 0 => ("ShardGroupsModel", "off", "[Z", true)
  | 1 => ("ShardGroupsModel", "leads", "[Z", true)
  | 2 => ("ShardGroupsModel", "term", "[I", true)
  | 3 => ("ShardGroupsModel", "length", "[I", true)
  | 4 => ("ShardGroupsModel", "known", "[I", true)
  | 5 => ("ShardGroupsModel", "logs", "[I", true)
  | 6 => ("ShardGroupsModel", "entry", "[I", true)
  | 7 => ("ShardGroupsModel", "configurations", "I", false)
  | 8 => ("ShardGroupsModel", "members", "[I", true)
  | 9 => ("ShardGroupsModel", "owners", "[I", true)
  | 10 => ("ShardGroupsModel", "number", "I", false)
  | 11 => ("ShardGroupsModel", "owner", "[I", true)
  | 12 => ("ShardGroupsModel", "condition", "[I", true)
  | _ => ("ShardGroupsModel", "held", "[I", true)
def tt_M : Nat → FieldType := fun k => match k with
  | 0 => (.array .boolean)
  | 1 => (.array .boolean)
  | 2 => (.array .int)
  | 3 => (.array .int)
  | 4 => (.array .int)
  | 5 => (.array .int)
  | 6 => (.array .int)
  | 7 => .int
  | 8 => (.array .int)
  | 9 => (.array .int)
  | 10 => .int
  | 11 => (.array .int)
  | 12 => (.array .int)
  | _ => (.array .int)
theorem nm_M : ∀ a, a < 14 → ∀ b, b < 14 → a ≠ b → (T_M a).2.1 ≠ (T_M b).2.1 := by decide +kernel
theorem ty_M : ∀ k, k < 14 → parseFieldDescriptor (T_M k).2.2.1 = some (tt_M k) := by decide +kernel
def aCl : List vw_C := [("ShardGroups", T_S, 3), ("ShardGroups$Configuration", T_C, 3), ("ShardGroups$ServiceNode", T_V, 8), ("ShardGroups$StoreNode", T_T, 10), ("ShardGroups$Shard", T_H, 4), ("ShardGroups$Entry", T_E, 1), ("ShardGroups$Change", T_G, 4), ("ShardGroups$Configure", T_F, 3), ("ShardGroups$Request", T_R, 6), ("ShardGroups$Insert", T_I, 4), ("ShardGroups$Delete", T_D, 3), ("ShardGroupsModel", T_M, 14)]
def aRfL : List (List Bool) := [[true, true, true], [true, true, true], [false, false, false, false, false, true, true, false], [false, false, false, false, false, true, false, false, true, true], [false, true, true, true], [false], [false, false, false, false], [false, false, true], [false, false, false, false, false, false], [false, false, false, true], [false, false, false], [true, true, true, true, true, true, true, false, true, true, false, true, true, true]]
def aRf (ci k : Nat) : Bool := (aRfL.getD ci []).getD k false
def aT (cA : Nat → ClassId) : List (ClassId × FieldType) := [(cA 100, .int), (cA 101, .boolean), (cA 102, (.object "ShardGroups$Node")), (cA 103, (.object "ShardGroups$ServiceNode")), (cA 104, (.object "ShardGroups$StoreNode")), (cA 105, (.object "ShardGroups$Configuration")), (cA 106, (.object "ShardGroups$Entry")), (cA 107, (.object "ShardGroups$Shard"))]
def aNW : List Cond := [Cond.arrayOver (Jvm.ClassFile.FieldType.object "ShardGroups$Node"), Cond.arrayOver (Jvm.ClassFile.FieldType.object "ShardGroups$ServiceNode"), Cond.arrayOver (Jvm.ClassFile.FieldType.object "ShardGroups$StoreNode"), Cond.methodLinkNest "ShardGroups$ServiceNode" 3 ⟨"ShardGroups$Node", "<init>", "()V"⟩ "ShardGroups", Cond.arrayOver (Jvm.ClassFile.FieldType.object "ShardGroups$Entry"), Cond.arrayOver (Jvm.ClassFile.FieldType.object "ShardGroups$Configuration"), Cond.methodLinkNest "ShardGroups$StoreNode" 3 ⟨"ShardGroups$Node", "<init>", "()V"⟩ "ShardGroups", Cond.arrayOver (Jvm.ClassFile.FieldType.object "ShardGroups$Shard"), Cond.methodLinkNest "ShardGroups$StoreNode" 25 ⟨"ShardGroups$Shard", "<init>", "()V"⟩ "ShardGroups", Cond.declares ⟨"ShardGroups$Node", "carryOut", "(LShardGroups$Entry;)V"⟩, Cond.methodLinkNest "ShardGroups$Request" 31 ⟨"ShardGroups", "shardOf", "(I)I"⟩ "ShardGroups", Cond.methodLinkNest "ShardGroups$Shard" 42 ⟨"ShardGroups", "placeInShard", "(I)I"⟩ "ShardGroups", Cond.declares ⟨"ShardGroups$Node", "write", "(LShardGroups$Entry;)I"⟩, Cond.methodLinkNest "ShardGroups$Insert" 11 ⟨"ShardGroups$Shard", "<init>", "()V"⟩ "ShardGroups", Cond.declares ⟨"ShardGroups$Node", "lastNumber", "()I"⟩, Cond.castable "ShardGroups$ServiceNode" "ShardGroups$Node", Cond.castable "ShardGroups$StoreNode" "ShardGroups$Node", Cond.castable "ShardGroups$Change" "ShardGroups$Entry", Cond.castable "ShardGroups$Configure" "ShardGroups$Entry", Cond.castable "ShardGroups$Delete" "ShardGroups$Entry", Cond.castable "ShardGroups$Insert" "ShardGroups$Entry", Cond.castable "ShardGroups$Request" "ShardGroups$Entry"]
theorem aNW_same {s U : State} (hv : s.vm = U.vm) : ∀ w ∈ aNW, va_Nw w s → va_Nw w U := by
  unfold aNW
  exact List.forall_mem_cons.mpr ⟨va_AO.moved (by rw [hv]; exact Vm.Alike.refl _), List.forall_mem_cons.mpr ⟨va_AO.moved (by rw [hv]; exact Vm.Alike.refl _), List.forall_mem_cons.mpr ⟨va_AO.moved (by rw [hv]; exact Vm.Alike.refl _), List.forall_mem_cons.mpr ⟨va_Nw.same rfl hv, List.forall_mem_cons.mpr ⟨va_AO.moved (by rw [hv]; exact Vm.Alike.refl _), List.forall_mem_cons.mpr ⟨va_AO.moved (by rw [hv]; exact Vm.Alike.refl _), List.forall_mem_cons.mpr ⟨va_Nw.same rfl hv, List.forall_mem_cons.mpr ⟨va_AO.moved (by rw [hv]; exact Vm.Alike.refl _), List.forall_mem_cons.mpr ⟨va_Nw.same rfl hv, List.forall_mem_cons.mpr ⟨va_Nw.same rfl hv, List.forall_mem_cons.mpr ⟨va_Nw.same rfl hv, List.forall_mem_cons.mpr ⟨va_Nw.same rfl hv, List.forall_mem_cons.mpr ⟨va_Nw.same rfl hv, List.forall_mem_cons.mpr ⟨va_Nw.same rfl hv, List.forall_mem_cons.mpr ⟨va_Nw.same rfl hv, List.forall_mem_cons.mpr ⟨va_Nw.same rfl hv, List.forall_mem_cons.mpr ⟨va_Nw.same rfl hv, List.forall_mem_cons.mpr ⟨va_Nw.same rfl hv, List.forall_mem_cons.mpr ⟨va_Nw.same rfl hv, List.forall_mem_cons.mpr ⟨va_Nw.same rfl hv, List.forall_mem_cons.mpr ⟨va_Nw.same rfl hv, List.forall_mem_cons.mpr ⟨va_Nw.same rfl hv, fun _ h => absurd h List.not_mem_nil⟩⟩⟩⟩⟩⟩⟩⟩⟩⟩⟩⟩⟩⟩⟩⟩⟩⟩⟩⟩⟩⟩
theorem aNW_warm {s U : State} (hW : s.WarmedH U.vm) : ∀ w ∈ aNW, va_Nw w s → va_Nw w U := by
  unfold aNW
  exact List.forall_mem_cons.mpr ⟨va_AO.moved hW.alike, List.forall_mem_cons.mpr ⟨va_AO.moved hW.alike, List.forall_mem_cons.mpr ⟨va_AO.moved hW.alike, List.forall_mem_cons.mpr ⟨va_Nw.warmM hW, List.forall_mem_cons.mpr ⟨va_AO.moved hW.alike, List.forall_mem_cons.mpr ⟨va_AO.moved hW.alike, List.forall_mem_cons.mpr ⟨va_Nw.warmM hW, List.forall_mem_cons.mpr ⟨va_AO.moved hW.alike, List.forall_mem_cons.mpr ⟨va_Nw.warmM hW, List.forall_mem_cons.mpr ⟨va_Nw.warmD hW, List.forall_mem_cons.mpr ⟨va_Nw.warmM hW, List.forall_mem_cons.mpr ⟨va_Nw.warmM hW, List.forall_mem_cons.mpr ⟨va_Nw.warmD hW, List.forall_mem_cons.mpr ⟨va_Nw.warmM hW, List.forall_mem_cons.mpr ⟨va_Nw.warmD hW, List.forall_mem_cons.mpr ⟨va_Nw.warmC hW, List.forall_mem_cons.mpr ⟨va_Nw.warmC hW, List.forall_mem_cons.mpr ⟨va_Nw.warmC hW, List.forall_mem_cons.mpr ⟨va_Nw.warmC hW, List.forall_mem_cons.mpr ⟨va_Nw.warmC hW, List.forall_mem_cons.mpr ⟨va_Nw.warmC hW, List.forall_mem_cons.mpr ⟨va_Nw.warmC hW, fun _ h => absurd h List.not_mem_nil⟩⟩⟩⟩⟩⟩⟩⟩⟩⟩⟩⟩⟩⟩⟩⟩⟩⟩⟩⟩⟩⟩
theorem nw0 : Cond.arrayOver (Jvm.ClassFile.FieldType.object "ShardGroups$Node") ∈ aNW := List.mem_of_getElem? (i := 0) rfl
theorem nw1 : Cond.arrayOver (Jvm.ClassFile.FieldType.object "ShardGroups$ServiceNode") ∈ aNW := List.mem_of_getElem? (i := 1) rfl
theorem nw2 : Cond.arrayOver (Jvm.ClassFile.FieldType.object "ShardGroups$StoreNode") ∈ aNW := List.mem_of_getElem? (i := 2) rfl
theorem nw3 : Cond.methodLinkNest "ShardGroups$ServiceNode" 3 ⟨"ShardGroups$Node", "<init>", "()V"⟩ "ShardGroups" ∈ aNW := List.mem_of_getElem? (i := 3) rfl
theorem nw4 : Cond.arrayOver (Jvm.ClassFile.FieldType.object "ShardGroups$Entry") ∈ aNW := List.mem_of_getElem? (i := 4) rfl
theorem nw5 : Cond.arrayOver (Jvm.ClassFile.FieldType.object "ShardGroups$Configuration") ∈ aNW := List.mem_of_getElem? (i := 5) rfl
theorem nw6 : Cond.methodLinkNest "ShardGroups$StoreNode" 3 ⟨"ShardGroups$Node", "<init>", "()V"⟩ "ShardGroups" ∈ aNW := List.mem_of_getElem? (i := 6) rfl
theorem nw7 : Cond.arrayOver (Jvm.ClassFile.FieldType.object "ShardGroups$Shard") ∈ aNW := List.mem_of_getElem? (i := 7) rfl
theorem nw8 : Cond.methodLinkNest "ShardGroups$StoreNode" 25 ⟨"ShardGroups$Shard", "<init>", "()V"⟩ "ShardGroups" ∈ aNW := List.mem_of_getElem? (i := 8) rfl
theorem nw9 : Cond.declares ⟨"ShardGroups$Node", "carryOut", "(LShardGroups$Entry;)V"⟩ ∈ aNW := List.mem_of_getElem? (i := 9) rfl
theorem nw10 : Cond.methodLinkNest "ShardGroups$Request" 31 ⟨"ShardGroups", "shardOf", "(I)I"⟩ "ShardGroups" ∈ aNW := List.mem_of_getElem? (i := 10) rfl
theorem nw11 : Cond.methodLinkNest "ShardGroups$Shard" 42 ⟨"ShardGroups", "placeInShard", "(I)I"⟩ "ShardGroups" ∈ aNW := List.mem_of_getElem? (i := 11) rfl
theorem nw12 : Cond.declares ⟨"ShardGroups$Node", "write", "(LShardGroups$Entry;)I"⟩ ∈ aNW := List.mem_of_getElem? (i := 12) rfl
theorem nw13 : Cond.methodLinkNest "ShardGroups$Insert" 11 ⟨"ShardGroups$Shard", "<init>", "()V"⟩ "ShardGroups" ∈ aNW := List.mem_of_getElem? (i := 13) rfl
theorem nw14 : Cond.declares ⟨"ShardGroups$Node", "lastNumber", "()I"⟩ ∈ aNW := List.mem_of_getElem? (i := 14) rfl
theorem nw15 : Cond.castable "ShardGroups$ServiceNode" "ShardGroups$Node" ∈ aNW := List.mem_of_getElem? (i := 15) rfl
theorem nw16 : Cond.castable "ShardGroups$StoreNode" "ShardGroups$Node" ∈ aNW := List.mem_of_getElem? (i := 16) rfl
theorem nw17 : Cond.castable "ShardGroups$Change" "ShardGroups$Entry" ∈ aNW := List.mem_of_getElem? (i := 17) rfl
theorem nw18 : Cond.castable "ShardGroups$Configure" "ShardGroups$Entry" ∈ aNW := List.mem_of_getElem? (i := 18) rfl
theorem nw19 : Cond.castable "ShardGroups$Delete" "ShardGroups$Entry" ∈ aNW := List.mem_of_getElem? (i := 19) rfl
theorem nw20 : Cond.castable "ShardGroups$Insert" "ShardGroups$Entry" ∈ aNW := List.mem_of_getElem? (i := 20) rfl
theorem nw21 : Cond.castable "ShardGroups$Request" "ShardGroups$Entry" ∈ aNW := List.mem_of_getElem? (i := 21) rfl
