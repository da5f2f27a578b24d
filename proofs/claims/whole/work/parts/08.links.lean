theorem in_S : ∀ w ∈ u_ws "ShardGroups" T_S 3, w ∈ aWS := by
  show ∀ w ∈ [Cond.laysFinal "ShardGroups" "ShardGroups" "nodes" "[LShardGroups$Node;", Cond.laysFinal "ShardGroups" "ShardGroups" "services" "[LShardGroups$ServiceNode;", Cond.laysFinal "ShardGroups" "ShardGroups" "stores" "[LShardGroups$StoreNode;"], w ∈ aWS
  exact List.forall_mem_cons.mpr ⟨w175, List.forall_mem_cons.mpr ⟨w177, List.forall_mem_cons.mpr ⟨w179, fun _ h => absurd h List.not_mem_nil⟩⟩⟩
theorem in_C : ∀ w ∈ u_ws "ShardGroups$Configuration" T_C 3, w ∈ aWS := by
  show ∀ w ∈ [Cond.laysFinal "ShardGroups$Configuration" "ShardGroups$Configuration" "members" "[Z", Cond.laysFinal "ShardGroups$Configuration" "ShardGroups$Configuration" "owners" "[I", Cond.laysFinal "ShardGroups$Configuration" "ShardGroups$Configuration" "owned" "[I"], w ∈ aWS
  exact List.forall_mem_cons.mpr ⟨w42, List.forall_mem_cons.mpr ⟨w44, List.forall_mem_cons.mpr ⟨w46, fun _ h => absurd h List.not_mem_nil⟩⟩⟩
theorem in_V : ∀ w ∈ u_ws "ShardGroups$ServiceNode" T_V 8, w ∈ aWS := by
  show ∀ w ∈ [Cond.lays "ShardGroups$ServiceNode" "ShardGroups$Node" "up" "Z", Cond.lays "ShardGroups$ServiceNode" "ShardGroups$Node" "leads" "Z", Cond.lays "ShardGroups$ServiceNode" "ShardGroups$Node" "term" "I", Cond.lays "ShardGroups$ServiceNode" "ShardGroups$Node" "length" "I", Cond.lays "ShardGroups$ServiceNode" "ShardGroups$Node" "known" "I", Cond.laysFinal "ShardGroups$ServiceNode" "ShardGroups$Node" "log" "[LShardGroups$Entry;", Cond.laysFinal "ShardGroups$ServiceNode" "ShardGroups$ServiceNode" "configurations" "[LShardGroups$Configuration;", Cond.lays "ShardGroups$ServiceNode" "ShardGroups$ServiceNode" "last" "I"], w ∈ aWS
  exact List.forall_mem_cons.mpr ⟨w96, List.forall_mem_cons.mpr ⟨w98, List.forall_mem_cons.mpr ⟨w100, List.forall_mem_cons.mpr ⟨w102, List.forall_mem_cons.mpr ⟨w104, List.forall_mem_cons.mpr ⟨w106, List.forall_mem_cons.mpr ⟨w92, List.forall_mem_cons.mpr ⟨w94, fun _ h => absurd h List.not_mem_nil⟩⟩⟩⟩⟩⟩⟩⟩
theorem in_T : ∀ w ∈ u_ws "ShardGroups$StoreNode" T_T 10, w ∈ aWS := by
  show ∀ w ∈ [Cond.lays "ShardGroups$StoreNode" "ShardGroups$Node" "up" "Z", Cond.lays "ShardGroups$StoreNode" "ShardGroups$Node" "leads" "Z", Cond.lays "ShardGroups$StoreNode" "ShardGroups$Node" "term" "I", Cond.lays "ShardGroups$StoreNode" "ShardGroups$Node" "length" "I", Cond.lays "ShardGroups$StoreNode" "ShardGroups$Node" "known" "I", Cond.laysFinal "ShardGroups$StoreNode" "ShardGroups$Node" "log" "[LShardGroups$Entry;", Cond.laysFinal "ShardGroups$StoreNode" "ShardGroups$StoreNode" "group" "I", Cond.lays "ShardGroups$StoreNode" "ShardGroups$StoreNode" "number" "I", Cond.lays "ShardGroups$StoreNode" "ShardGroups$StoreNode" "current" "LShardGroups$Configuration;", Cond.laysFinal "ShardGroups$StoreNode" "ShardGroups$StoreNode" "shards" "[LShardGroups$Shard;"], w ∈ aWS
  exact List.forall_mem_cons.mpr ⟨w165, List.forall_mem_cons.mpr ⟨w166, List.forall_mem_cons.mpr ⟨w167, List.forall_mem_cons.mpr ⟨w168, List.forall_mem_cons.mpr ⟨w169, List.forall_mem_cons.mpr ⟨w170, List.forall_mem_cons.mpr ⟨w157, List.forall_mem_cons.mpr ⟨w159, List.forall_mem_cons.mpr ⟨w161, List.forall_mem_cons.mpr ⟨w163, fun _ h => absurd h List.not_mem_nil⟩⟩⟩⟩⟩⟩⟩⟩⟩⟩
theorem in_H : ∀ w ∈ u_ws "ShardGroups$Shard" T_H 4, w ∈ aWS := by
  show ∀ w ∈ [Cond.lays "ShardGroups$Shard" "ShardGroups$Shard" "condition" "I", Cond.laysFinal "ShardGroups$Shard" "ShardGroups$Shard" "values" "[I", Cond.laysFinal "ShardGroups$Shard" "ShardGroups$Shard" "latest" "[I", Cond.laysFinal "ShardGroups$Shard" "ShardGroups$Shard" "answers" "[I"], w ∈ aWS
  exact List.forall_mem_cons.mpr ⟨w135, List.forall_mem_cons.mpr ⟨w137, List.forall_mem_cons.mpr ⟨w139, List.forall_mem_cons.mpr ⟨w141, fun _ h => absurd h List.not_mem_nil⟩⟩⟩⟩
theorem in_E : ∀ w ∈ u_ws "ShardGroups$Entry" T_E 1, w ∈ aWS := by
  show ∀ w ∈ [Cond.laysFinal "ShardGroups$Entry" "ShardGroups$Entry" "term" "I"], w ∈ aWS
  exact List.forall_mem_cons.mpr ⟨w241, fun _ h => absurd h List.not_mem_nil⟩
theorem in_G : ∀ w ∈ u_ws "ShardGroups$Change" T_G 4, w ∈ aWS := by
  show ∀ w ∈ [Cond.laysFinal "ShardGroups$Change" "ShardGroups$Entry" "term" "I", Cond.laysFinal "ShardGroups$Change" "ShardGroups$Change" "kind" "I", Cond.laysFinal "ShardGroups$Change" "ShardGroups$Change" "a" "I", Cond.laysFinal "ShardGroups$Change" "ShardGroups$Change" "b" "I"], w ∈ aWS
  exact List.forall_mem_cons.mpr ⟨w453, List.forall_mem_cons.mpr ⟨w447, List.forall_mem_cons.mpr ⟨w449, List.forall_mem_cons.mpr ⟨w451, fun _ h => absurd h List.not_mem_nil⟩⟩⟩⟩
theorem in_F : ∀ w ∈ u_ws "ShardGroups$Configure" T_F 3, w ∈ aWS := by
  show ∀ w ∈ [Cond.laysFinal "ShardGroups$Configure" "ShardGroups$Entry" "term" "I", Cond.laysFinal "ShardGroups$Configure" "ShardGroups$Configure" "c" "I", Cond.laysFinal "ShardGroups$Configure" "ShardGroups$Configure" "next" "LShardGroups$Configuration;"], w ∈ aWS
  exact List.forall_mem_cons.mpr ⟨w525, List.forall_mem_cons.mpr ⟨w521, List.forall_mem_cons.mpr ⟨w523, fun _ h => absurd h List.not_mem_nil⟩⟩⟩
theorem in_R : ∀ w ∈ u_ws "ShardGroups$Request" T_R 6, w ∈ aWS := by
  show ∀ w ∈ [Cond.laysFinal "ShardGroups$Request" "ShardGroups$Entry" "term" "I", Cond.laysFinal "ShardGroups$Request" "ShardGroups$Request" "client" "I", Cond.laysFinal "ShardGroups$Request" "ShardGroups$Request" "number" "I", Cond.laysFinal "ShardGroups$Request" "ShardGroups$Request" "kind" "I", Cond.laysFinal "ShardGroups$Request" "ShardGroups$Request" "key" "I", Cond.laysFinal "ShardGroups$Request" "ShardGroups$Request" "value" "I"], w ∈ aWS
  exact List.forall_mem_cons.mpr ⟨w503, List.forall_mem_cons.mpr ⟨w493, List.forall_mem_cons.mpr ⟨w495, List.forall_mem_cons.mpr ⟨w497, List.forall_mem_cons.mpr ⟨w499, List.forall_mem_cons.mpr ⟨w501, fun _ h => absurd h List.not_mem_nil⟩⟩⟩⟩⟩⟩
theorem in_I : ∀ w ∈ u_ws "ShardGroups$Insert" T_I 4, w ∈ aWS := by
  show ∀ w ∈ [Cond.laysFinal "ShardGroups$Insert" "ShardGroups$Entry" "term" "I", Cond.laysFinal "ShardGroups$Insert" "ShardGroups$Insert" "shard" "I", Cond.laysFinal "ShardGroups$Insert" "ShardGroups$Insert" "c" "I", Cond.laysFinal "ShardGroups$Insert" "ShardGroups$Insert" "contents" "LShardGroups$Shard;"], w ∈ aWS
  exact List.forall_mem_cons.mpr ⟨w548, List.forall_mem_cons.mpr ⟨w542, List.forall_mem_cons.mpr ⟨w544, List.forall_mem_cons.mpr ⟨w546, fun _ h => absurd h List.not_mem_nil⟩⟩⟩⟩
theorem in_D : ∀ w ∈ u_ws "ShardGroups$Delete" T_D 3, w ∈ aWS := by
  show ∀ w ∈ [Cond.laysFinal "ShardGroups$Delete" "ShardGroups$Entry" "term" "I", Cond.laysFinal "ShardGroups$Delete" "ShardGroups$Delete" "shard" "I", Cond.laysFinal "ShardGroups$Delete" "ShardGroups$Delete" "c" "I"], w ∈ aWS
  exact List.forall_mem_cons.mpr ⟨w570, List.forall_mem_cons.mpr ⟨w566, List.forall_mem_cons.mpr ⟨w568, fun _ h => absurd h List.not_mem_nil⟩⟩⟩
theorem in_M : ∀ w ∈ u_ws "ShardGroupsModel" T_M 14, w ∈ aWS := by
  show ∀ w ∈ [Cond.laysFinal "ShardGroupsModel" "ShardGroupsModel" "off" "[Z", Cond.laysFinal "ShardGroupsModel" "ShardGroupsModel" "leads" "[Z", Cond.laysFinal "ShardGroupsModel" "ShardGroupsModel" "term" "[I", Cond.laysFinal "ShardGroupsModel" "ShardGroupsModel" "length" "[I", Cond.laysFinal "ShardGroupsModel" "ShardGroupsModel" "known" "[I", Cond.laysFinal "ShardGroupsModel" "ShardGroupsModel" "logs" "[I", Cond.laysFinal "ShardGroupsModel" "ShardGroupsModel" "entry" "[I", Cond.lays "ShardGroupsModel" "ShardGroupsModel" "configurations" "I", Cond.laysFinal "ShardGroupsModel" "ShardGroupsModel" "members" "[I", Cond.laysFinal "ShardGroupsModel" "ShardGroupsModel" "owners" "[I", Cond.lays "ShardGroupsModel" "ShardGroupsModel" "number" "I", Cond.laysFinal "ShardGroupsModel" "ShardGroupsModel" "owner" "[I", Cond.laysFinal "ShardGroupsModel" "ShardGroupsModel" "condition" "[I", Cond.laysFinal "ShardGroupsModel" "ShardGroupsModel" "held" "[I"], w ∈ aWS
  exact List.forall_mem_cons.mpr ⟨w647, List.forall_mem_cons.mpr ⟨w649, List.forall_mem_cons.mpr ⟨w651, List.forall_mem_cons.mpr ⟨w653, List.forall_mem_cons.mpr ⟨w655, List.forall_mem_cons.mpr ⟨w657, List.forall_mem_cons.mpr ⟨w659, List.forall_mem_cons.mpr ⟨w661, List.forall_mem_cons.mpr ⟨w663, List.forall_mem_cons.mpr ⟨w665, List.forall_mem_cons.mpr ⟨w667, List.forall_mem_cons.mpr ⟨w669, List.forall_mem_cons.mpr ⟨w671, List.forall_mem_cons.mpr ⟨w673, fun _ h => absurd h List.not_mem_nil⟩⟩⟩⟩⟩⟩⟩⟩⟩⟩⟩⟩⟩⟩
abbrev m_S_init : aMd := (⟨"ShardGroups", "<init>", "()V"⟩, prog_1_method_1_code, 3, (Option.none : Option Jvm.ClassFile.FieldType))
abbrev m_C_init : aMd := (⟨"ShardGroups$Configuration", "<init>", "()V"⟩, prog_3_method_1_code, 1, (Option.none : Option Jvm.ClassFile.FieldType))
abbrev m_V_init : aMd := (⟨"ShardGroups$ServiceNode", "<init>", "(LShardGroups$Configuration;)V"⟩, prog_10_method_1_code, 2, (Option.none : Option Jvm.ClassFile.FieldType))
abbrev m_N_init : aMd := (⟨"ShardGroups$Node", "<init>", "()V"⟩, prog_8_method_1_code, 1, (Option.none : Option Jvm.ClassFile.FieldType))
abbrev m_S_groupOf : aMd := (⟨"ShardGroups", "groupOf", "(I)I"⟩, prog_1_method_20_code, 1, (Option.some Jvm.ClassFile.FieldType.int))
abbrev m_T_init : aMd := (⟨"ShardGroups$StoreNode", "<init>", "(ILShardGroups$Configuration;)V"⟩, prog_12_method_1_code, 4, (Option.none : Option Jvm.ClassFile.FieldType))
abbrev m_H_init : aMd := (⟨"ShardGroups$Shard", "<init>", "()V"⟩, prog_11_method_1_code, 1, (Option.none : Option Jvm.ClassFile.FieldType))
abbrev m_S_crash : aMd := (⟨"ShardGroups", "crash", "(I)Z"⟩, prog_1_method_2_code, 3, (Option.some Jvm.ClassFile.FieldType.boolean))
abbrev m_S_upNode : aMd := (⟨"ShardGroups", "upNode", "(I)LShardGroups$Node;"⟩, prog_1_method_31_code, 3, (Option.some (Jvm.ClassFile.FieldType.object "ShardGroups$Node")))
abbrev m_S_anyNode : aMd := (⟨"ShardGroups", "anyNode", "(I)LShardGroups$Node;"⟩, prog_1_method_28_code, 2, (Option.some (Jvm.ClassFile.FieldType.object "ShardGroups$Node")))
abbrev m_S_recover : aMd := (⟨"ShardGroups", "recover", "(I)Z"⟩, prog_1_method_3_code, 3, (Option.some Jvm.ClassFile.FieldType.boolean))
abbrev m_S_elect : aMd := (⟨"ShardGroups", "elect", "(I)I"⟩, prog_1_method_4_code, 4, (Option.some Jvm.ClassFile.FieldType.int))
abbrev m_J_floorMod : aMd := (⟨"java/lang/Math", "floorMod", "(II)I"⟩, prog_15_method_50_code, 3, (Option.some Jvm.ClassFile.FieldType.int))
abbrev m_S_countGrants : aMd := (⟨"ShardGroups", "countGrants", "(LShardGroups$Node;II)I"⟩, prog_1_method_35_code, 6, (Option.some Jvm.ClassFile.FieldType.int))
abbrev m_N_grants : aMd := (⟨"ShardGroups$Node", "grants", "(LShardGroups$Node;I)Z"⟩, prog_8_method_5_code, 3, (Option.some Jvm.ClassFile.FieldType.boolean))
abbrev m_N_isBehind : aMd := (⟨"ShardGroups$Node", "isBehind", "(LShardGroups$Node;)Z"⟩, prog_8_method_6_code, 4, (Option.some Jvm.ClassFile.FieldType.boolean))
abbrev m_N_lastTerm : aMd := (⟨"ShardGroups$Node", "lastTerm", "()I"⟩, prog_8_method_7_code, 1, (Option.some Jvm.ClassFile.FieldType.int))
abbrev m_N_takeTerm : aMd := (⟨"ShardGroups$Node", "takeTerm", "(I)V"⟩, prog_8_method_4_code, 2, (Option.none : Option Jvm.ClassFile.FieldType))
abbrev m_E_init : aMd := (⟨"ShardGroups$Entry", "<init>", "(I)V"⟩, prog_6_method_1_code, 2, (Option.none : Option Jvm.ClassFile.FieldType))
abbrev m_N_write : aMd := (⟨"ShardGroups$Node", "write", "(LShardGroups$Entry;)I"⟩, prog_8_method_9_code, 2, (Option.some Jvm.ClassFile.FieldType.int))
abbrev m_S_ship : aMd := (⟨"ShardGroups", "ship", "(II)I"⟩, prog_1_method_5_code, 5, (Option.some Jvm.ClassFile.FieldType.int))
abbrev m_N_copyNextFrom : aMd := (⟨"ShardGroups$Node", "copyNextFrom", "(LShardGroups$Node;)V"⟩, prog_8_method_10_code, 2, (Option.none : Option Jvm.ClassFile.FieldType))
abbrev m_N_countSame : aMd := (⟨"ShardGroups$Node", "countSame", "(LShardGroups$Node;)I"⟩, prog_8_method_11_code, 4, (Option.some Jvm.ClassFile.FieldType.int))
abbrev m_J_min : aMd := (⟨"java/lang/Math", "min", "(II)I"⟩, prog_15_method_69_code, 2, (Option.some Jvm.ClassFile.FieldType.int))
abbrev m_S_countAgreed : aMd := (⟨"ShardGroups", "countAgreed", "(LShardGroups$Node;I)I"⟩, prog_1_method_36_code, 4, (Option.some Jvm.ClassFile.FieldType.int))
abbrev m_N_hasEntry : aMd := (⟨"ShardGroups$Node", "hasEntry", "(II)Z"⟩, prog_8_method_8_code, 3, (Option.some Jvm.ClassFile.FieldType.boolean))
abbrev m_S_countCopies : aMd := (⟨"ShardGroups", "countCopies", "(III)I"⟩, prog_1_method_37_code, 6, (Option.some Jvm.ClassFile.FieldType.int))
abbrev m_N_learn : aMd := (⟨"ShardGroups$Node", "learn", "(I)V"⟩, prog_8_method_12_code, 4, (Option.none : Option Jvm.ClassFile.FieldType))
abbrev m_V_carryOut : aMd := (⟨"ShardGroups$ServiceNode", "carryOut", "(LShardGroups$Entry;)V"⟩, prog_10_method_2_code, 2, (Option.none : Option Jvm.ClassFile.FieldType))
abbrev m_G_changeService : aMd := (⟨"ShardGroups$Change", "changeService", "(LShardGroups$ServiceNode;)V"⟩, prog_2_method_2_code, 4, (Option.none : Option Jvm.ClassFile.FieldType))
abbrev m_V_isComplete : aMd := (⟨"ShardGroups$ServiceNode", "isComplete", "()Z"⟩, prog_10_method_4_code, 1, (Option.some Jvm.ClassFile.FieldType.boolean))
abbrev m_G_isAllowed : aMd := (⟨"ShardGroups$Change", "isAllowed", "(LShardGroups$Configuration;)Z"⟩, prog_2_method_3_code, 2, (Option.some Jvm.ClassFile.FieldType.boolean))
abbrev m_C_countMembers : aMd := (⟨"ShardGroups$Configuration", "countMembers", "()I"⟩, prog_3_method_3_code, 6, (Option.some Jvm.ClassFile.FieldType.int))
abbrev m_C_init2 : aMd := (⟨"ShardGroups$Configuration", "<init>", "(LShardGroups$Configuration;)V"⟩, prog_3_method_2_code, 2, (Option.none : Option Jvm.ClassFile.FieldType))
abbrev m_C_join : aMd := (⟨"ShardGroups$Configuration", "join", "(I)V"⟩, prog_3_method_4_code, 3, (Option.none : Option Jvm.ClassFile.FieldType))
abbrev m_C_give : aMd := (⟨"ShardGroups$Configuration", "give", "(II)V"⟩, prog_3_method_6_code, 3, (Option.none : Option Jvm.ClassFile.FieldType))
abbrev m_C_balance : aMd := (⟨"ShardGroups$Configuration", "balance", "()V"⟩, prog_3_method_7_code, 4, (Option.none : Option Jvm.ClassFile.FieldType))
abbrev m_C_most : aMd := (⟨"ShardGroups$Configuration", "most", "()I"⟩, prog_3_method_8_code, 3, (Option.some Jvm.ClassFile.FieldType.int))
abbrev m_C_fewest : aMd := (⟨"ShardGroups$Configuration", "fewest", "()I"⟩, prog_3_method_9_code, 3, (Option.some Jvm.ClassFile.FieldType.int))
abbrev m_C_leastShardOf : aMd := (⟨"ShardGroups$Configuration", "leastShardOf", "(I)I"⟩, prog_3_method_10_code, 3, (Option.some Jvm.ClassFile.FieldType.int))
abbrev m_C_leave : aMd := (⟨"ShardGroups$Configuration", "leave", "(I)V"⟩, prog_3_method_5_code, 3, (Option.none : Option Jvm.ClassFile.FieldType))
abbrev m_V_add : aMd := (⟨"ShardGroups$ServiceNode", "add", "(LShardGroups$Configuration;)V"⟩, prog_10_method_5_code, 2, (Option.none : Option Jvm.ClassFile.FieldType))
abbrev m_E_changeService : aMd := (⟨"ShardGroups$Entry", "changeService", "(LShardGroups$ServiceNode;)V"⟩, prog_6_method_2_code, 2, (Option.none : Option Jvm.ClassFile.FieldType))
abbrev m_T_carryOut : aMd := (⟨"ShardGroups$StoreNode", "carryOut", "(LShardGroups$Entry;)V"⟩, prog_12_method_2_code, 2, (Option.none : Option Jvm.ClassFile.FieldType))
abbrev m_F_changeStore : aMd := (⟨"ShardGroups$Configure", "changeStore", "(LShardGroups$StoreNode;)V"⟩, prog_4_method_2_code, 2, (Option.none : Option Jvm.ClassFile.FieldType))
abbrev m_T_adopt : aMd := (⟨"ShardGroups$StoreNode", "adopt", "(ILShardGroups$Configuration;)V"⟩, prog_12_method_6_code, 4, (Option.none : Option Jvm.ClassFile.FieldType))
abbrev m_T_isSettled : aMd := (⟨"ShardGroups$StoreNode", "isSettled", "()Z"⟩, prog_12_method_4_code, 5, (Option.some Jvm.ClassFile.FieldType.boolean))
abbrev m_T_handOver : aMd := (⟨"ShardGroups$StoreNode", "handOver", "(LShardGroups$Shard;II)V"⟩, prog_12_method_7_code, 4, (Option.none : Option Jvm.ClassFile.FieldType))
abbrev m_H_clear : aMd := (⟨"ShardGroups$Shard", "clear", "()V"⟩, prog_11_method_3_code, 2, (Option.none : Option Jvm.ClassFile.FieldType))
abbrev m_D_changeStore : aMd := (⟨"ShardGroups$Delete", "changeStore", "(LShardGroups$StoreNode;)V"⟩, prog_5_method_2_code, 3, (Option.none : Option Jvm.ClassFile.FieldType))
abbrev m_I_changeStore : aMd := (⟨"ShardGroups$Insert", "changeStore", "(LShardGroups$StoreNode;)V"⟩, prog_7_method_2_code, 3, (Option.none : Option Jvm.ClassFile.FieldType))
abbrev m_H_copyContents : aMd := (⟨"ShardGroups$Shard", "copyContents", "(LShardGroups$Shard;)V"⟩, prog_11_method_4_code, 2, (Option.none : Option Jvm.ClassFile.FieldType))
abbrev m_R_changeStore : aMd := (⟨"ShardGroups$Request", "changeStore", "(LShardGroups$StoreNode;)V"⟩, prog_9_method_2_code, 2, (Option.none : Option Jvm.ClassFile.FieldType))
abbrev m_S_shardOf : aMd := (⟨"ShardGroups", "shardOf", "(I)I"⟩, prog_1_method_21_code, 1, (Option.some Jvm.ClassFile.FieldType.int))
abbrev m_H_serve : aMd := (⟨"ShardGroups$Shard", "serve", "(LShardGroups$Request;)V"⟩, prog_11_method_5_code, 3, (Option.none : Option Jvm.ClassFile.FieldType))
abbrev m_S_placeInShard : aMd := (⟨"ShardGroups", "placeInShard", "(I)I"⟩, prog_1_method_22_code, 1, (Option.some Jvm.ClassFile.FieldType.int))
abbrev m_E_changeStore : aMd := (⟨"ShardGroups$Entry", "changeStore", "(LShardGroups$StoreNode;)V"⟩, prog_6_method_3_code, 2, (Option.none : Option Jvm.ClassFile.FieldType))
abbrev m_J_max : aMd := (⟨"java/lang/Math", "max", "(II)I"⟩, prog_15_method_65_code, 2, (Option.some Jvm.ClassFile.FieldType.int))
abbrev m_S_change : aMd := (⟨"ShardGroups", "change", "(IIII)I"⟩, prog_1_method_6_code, 6, (Option.some Jvm.ClassFile.FieldType.int))
abbrev m_S_upService : aMd := (⟨"ShardGroups", "upService", "(I)LShardGroups$ServiceNode;"⟩, prog_1_method_32_code, 3, (Option.some (Jvm.ClassFile.FieldType.object "ShardGroups$ServiceNode")))
abbrev m_S_anyService : aMd := (⟨"ShardGroups", "anyService", "(I)LShardGroups$ServiceNode;"⟩, prog_1_method_29_code, 2, (Option.some (Jvm.ClassFile.FieldType.object "ShardGroups$ServiceNode")))
abbrev m_S_isChange : aMd := (⟨"ShardGroups", "isChange", "(III)Z"⟩, prog_1_method_27_code, 3, (Option.some Jvm.ClassFile.FieldType.boolean))
abbrev m_S_isShard : aMd := (⟨"ShardGroups", "isShard", "(I)Z"⟩, prog_1_method_23_code, 1, (Option.some Jvm.ClassFile.FieldType.boolean))
abbrev m_S_isOwningGroup : aMd := (⟨"ShardGroups", "isOwningGroup", "(I)Z"⟩, prog_1_method_26_code, 1, (Option.some Jvm.ClassFile.FieldType.boolean))
abbrev m_G_init : aMd := (⟨"ShardGroups$Change", "<init>", "(IIII)V"⟩, prog_2_method_1_code, 5, (Option.none : Option Jvm.ClassFile.FieldType))
abbrev m_S_request : aMd := (⟨"ShardGroups", "request", "(IIIIII)I"⟩, prog_1_method_7_code, 8, (Option.some Jvm.ClassFile.FieldType.int))
abbrev m_S_upStore : aMd := (⟨"ShardGroups", "upStore", "(I)LShardGroups$StoreNode;"⟩, prog_1_method_33_code, 3, (Option.some (Jvm.ClassFile.FieldType.object "ShardGroups$StoreNode")))
abbrev m_S_anyStore : aMd := (⟨"ShardGroups", "anyStore", "(I)LShardGroups$StoreNode;"⟩, prog_1_method_30_code, 2, (Option.some (Jvm.ClassFile.FieldType.object "ShardGroups$StoreNode")))
abbrev m_S_isClient : aMd := (⟨"ShardGroups", "isClient", "(I)Z"⟩, prog_1_method_25_code, 1, (Option.some Jvm.ClassFile.FieldType.boolean))
abbrev m_S_isKey : aMd := (⟨"ShardGroups", "isKey", "(I)Z"⟩, prog_1_method_24_code, 1, (Option.some Jvm.ClassFile.FieldType.boolean))
abbrev m_R_init : aMd := (⟨"ShardGroups$Request", "<init>", "(IIIIII)V"⟩, prog_9_method_1_code, 7, (Option.none : Option Jvm.ClassFile.FieldType))
abbrev m_S_poll : aMd := (⟨"ShardGroups", "poll", "(II)I"⟩, prog_1_method_8_code, 6, (Option.some Jvm.ClassFile.FieldType.int))
abbrev m_F_init : aMd := (⟨"ShardGroups$Configure", "<init>", "(IILShardGroups$Configuration;)V"⟩, prog_4_method_1_code, 4, (Option.none : Option Jvm.ClassFile.FieldType))
abbrev m_S_pull : aMd := (⟨"ShardGroups", "pull", "(III)I"⟩, prog_1_method_9_code, 6, (Option.some Jvm.ClassFile.FieldType.int))
abbrev m_I_init : aMd := (⟨"ShardGroups$Insert", "<init>", "(IIILShardGroups$Shard;)V"⟩, prog_7_method_1_code, 5, (Option.none : Option Jvm.ClassFile.FieldType))
abbrev m_S_confirm : aMd := (⟨"ShardGroups", "confirm", "(III)I"⟩, prog_1_method_10_code, 6, (Option.some Jvm.ClassFile.FieldType.int))
abbrev m_T_hasReceived : aMd := (⟨"ShardGroups$StoreNode", "hasReceived", "(II)Z"⟩, prog_12_method_5_code, 3, (Option.some Jvm.ClassFile.FieldType.boolean))
abbrev m_D_init : aMd := (⟨"ShardGroups$Delete", "<init>", "(III)V"⟩, prog_5_method_1_code, 4, (Option.none : Option Jvm.ClassFile.FieldType))
abbrev m_S_length : aMd := (⟨"ShardGroups", "length", "(I)I"⟩, prog_1_method_11_code, 3, (Option.some Jvm.ClassFile.FieldType.int))
abbrev m_S_known : aMd := (⟨"ShardGroups", "known", "(I)I"⟩, prog_1_method_12_code, 3, (Option.some Jvm.ClassFile.FieldType.int))
abbrev m_S_term : aMd := (⟨"ShardGroups", "term", "(I)I"⟩, prog_1_method_13_code, 3, (Option.some Jvm.ClassFile.FieldType.int))
abbrev m_S_configuration : aMd := (⟨"ShardGroups", "configuration", "(I)I"⟩, prog_1_method_14_code, 3, (Option.some Jvm.ClassFile.FieldType.int))
abbrev m_V_lastNumber : aMd := (⟨"ShardGroups$ServiceNode", "lastNumber", "()I"⟩, prog_10_method_3_code, 1, (Option.some Jvm.ClassFile.FieldType.int))
abbrev m_T_lastNumber : aMd := (⟨"ShardGroups$StoreNode", "lastNumber", "()I"⟩, prog_12_method_3_code, 1, (Option.some Jvm.ClassFile.FieldType.int))
abbrev m_S_owner : aMd := (⟨"ShardGroups", "owner", "(III)I"⟩, prog_1_method_15_code, 5, (Option.some Jvm.ClassFile.FieldType.int))
abbrev m_S_condition : aMd := (⟨"ShardGroups", "condition", "(II)I"⟩, prog_1_method_16_code, 4, (Option.some Jvm.ClassFile.FieldType.int))
abbrev m_S_value : aMd := (⟨"ShardGroups", "value", "(II)I"⟩, prog_1_method_17_code, 4, (Option.some Jvm.ClassFile.FieldType.int))
abbrev m_S_heldShard : aMd := (⟨"ShardGroups", "heldShard", "(II)LShardGroups$Shard;"⟩, prog_1_method_34_code, 5, (Option.some (Jvm.ClassFile.FieldType.object "ShardGroups$Shard")))
abbrev m_H_hasContents : aMd := (⟨"ShardGroups$Shard", "hasContents", "()Z"⟩, prog_11_method_2_code, 1, (Option.some Jvm.ClassFile.FieldType.boolean))
abbrev m_S_latest : aMd := (⟨"ShardGroups", "latest", "(III)I"⟩, prog_1_method_18_code, 5, (Option.some Jvm.ClassFile.FieldType.int))
abbrev m_S_answer : aMd := (⟨"ShardGroups", "answer", "(III)I"⟩, prog_1_method_19_code, 5, (Option.some Jvm.ClassFile.FieldType.int))
abbrev m_M_init : aMd := (⟨"ShardGroupsModel", "<init>", "()V"⟩, prog_14_method_1_code, 1, (Option.none : Option Jvm.ClassFile.FieldType))
abbrev m_M_crash : aMd := (⟨"ShardGroupsModel", "crash", "(I)Z"⟩, prog_14_method_5_code, 2, (Option.some Jvm.ClassFile.FieldType.boolean))
abbrev m_M_below : aMd := (⟨"ShardGroupsModel", "below", "(II)Z"⟩, prog_14_method_2_code, 2, (Option.some Jvm.ClassFile.FieldType.boolean))
abbrev m_M_recover : aMd := (⟨"ShardGroupsModel", "recover", "(I)Z"⟩, prog_14_method_6_code, 2, (Option.some Jvm.ClassFile.FieldType.boolean))
abbrev m_M_elect : aMd := (⟨"ShardGroupsModel", "elect", "(I)I"⟩, prog_14_method_13_code, 6, (Option.some Jvm.ClassFile.FieldType.int))
abbrev m_M_lastTerm : aMd := (⟨"ShardGroupsModel", "lastTerm", "(I)I"⟩, prog_14_method_9_code, 2, (Option.some Jvm.ClassFile.FieldType.int))
abbrev m_M_termAt : aMd := (⟨"ShardGroupsModel", "termAt", "(II)I"⟩, prog_14_method_8_code, 3, (Option.some Jvm.ClassFile.FieldType.int))
abbrev m_M_place : aMd := (⟨"ShardGroupsModel", "place", "(II)I"⟩, prog_14_method_7_code, 2, (Option.some Jvm.ClassFile.FieldType.int))
abbrev m_M_raise : aMd := (⟨"ShardGroupsModel", "raise", "(II)V"⟩, prog_14_method_10_code, 3, (Option.none : Option Jvm.ClassFile.FieldType))
abbrev m_M_say : aMd := (⟨"ShardGroupsModel", "say", "(IIIIII)V"⟩, prog_14_method_11_code, 8, (Option.none : Option Jvm.ClassFile.FieldType))
abbrev m_M_write : aMd := (⟨"ShardGroupsModel", "write", "(I)I"⟩, prog_14_method_12_code, 3, (Option.some Jvm.ClassFile.FieldType.int))
abbrev m_M_ship : aMd := (⟨"ShardGroupsModel", "ship", "(II)I"⟩, prog_14_method_15_code, 5, (Option.some Jvm.ClassFile.FieldType.int))
abbrev m_M_copies : aMd := (⟨"ShardGroupsModel", "copies", "(II)I"⟩, prog_14_method_14_code, 5, (Option.some Jvm.ClassFile.FieldType.int))
abbrev m_M_change : aMd := (⟨"ShardGroupsModel", "change", "(IIII)I"⟩, prog_14_method_25_code, 6, (Option.some Jvm.ClassFile.FieldType.int))
abbrev m_M_noServer : aMd := (⟨"ShardGroupsModel", "noServer", "(I)Z"⟩, prog_14_method_3_code, 2, (Option.some Jvm.ClassFile.FieldType.boolean))
abbrev m_M_request : aMd := (⟨"ShardGroupsModel", "request", "(IIIIII)I"⟩, prog_14_method_26_code, 7, (Option.some Jvm.ClassFile.FieldType.int))
abbrev m_M_noGroupNode : aMd := (⟨"ShardGroupsModel", "noGroupNode", "(I)Z"⟩, prog_14_method_4_code, 2, (Option.some Jvm.ClassFile.FieldType.boolean))
abbrev m_M_poll : aMd := (⟨"ShardGroupsModel", "poll", "(II)I"⟩, prog_14_method_27_code, 5, (Option.some Jvm.ClassFile.FieldType.int))
abbrev m_M_group : aMd := (⟨"ShardGroupsModel", "group", "(I)V"⟩, prog_14_method_24_code, 8, (Option.none : Option Jvm.ClassFile.FieldType))
abbrev m_M_configure : aMd := (⟨"ShardGroupsModel", "configure", "(II)V"⟩, prog_14_method_22_code, 7, (Option.none : Option Jvm.ClassFile.FieldType))
abbrev m_M_settled : aMd := (⟨"ShardGroupsModel", "settled", "()Z"⟩, prog_14_method_21_code, 3, (Option.some Jvm.ClassFile.FieldType.boolean))
abbrev m_M_effect : aMd := (⟨"ShardGroupsModel", "effect", "(I)V"⟩, prog_14_method_23_code, 8, (Option.none : Option Jvm.ClassFile.FieldType))
abbrev m_M_service : aMd := (⟨"ShardGroupsModel", "service", "(I)V"⟩, prog_14_method_20_code, 5, (Option.none : Option Jvm.ClassFile.FieldType))
abbrev m_M_alter : aMd := (⟨"ShardGroupsModel", "alter", "(III)V"⟩, prog_14_method_19_code, 9, (Option.none : Option Jvm.ClassFile.FieldType))
abbrev m_M_extreme : aMd := (⟨"ShardGroupsModel", "extreme", "(IZ)I"⟩, prog_14_method_17_code, 7, (Option.some Jvm.ClassFile.FieldType.int))
abbrev m_M_owned : aMd := (⟨"ShardGroupsModel", "owned", "(II)I"⟩, prog_14_method_16_code, 5, (Option.some Jvm.ClassFile.FieldType.int))
abbrev m_M_balance : aMd := (⟨"ShardGroupsModel", "balance", "(I)V"⟩, prog_14_method_18_code, 7, (Option.none : Option Jvm.ClassFile.FieldType))
abbrev m_M_pull : aMd := (⟨"ShardGroupsModel", "pull", "(III)I"⟩, prog_14_method_28_code, 7, (Option.some Jvm.ClassFile.FieldType.int))
abbrev m_M_confirm : aMd := (⟨"ShardGroupsModel", "confirm", "(III)I"⟩, prog_14_method_29_code, 6, (Option.some Jvm.ClassFile.FieldType.int))
abbrev m_M_length : aMd := (⟨"ShardGroupsModel", "length", "(I)I"⟩, prog_14_method_30_code, 2, (Option.some Jvm.ClassFile.FieldType.int))
abbrev m_M_known : aMd := (⟨"ShardGroupsModel", "known", "(I)I"⟩, prog_14_method_31_code, 2, (Option.some Jvm.ClassFile.FieldType.int))
abbrev m_M_term : aMd := (⟨"ShardGroupsModel", "term", "(I)I"⟩, prog_14_method_32_code, 2, (Option.some Jvm.ClassFile.FieldType.int))
abbrev m_M_configuration : aMd := (⟨"ShardGroupsModel", "configuration", "(I)I"⟩, prog_14_method_33_code, 2, (Option.some Jvm.ClassFile.FieldType.int))
abbrev m_M_owner : aMd := (⟨"ShardGroupsModel", "owner", "(III)I"⟩, prog_14_method_34_code, 4, (Option.some Jvm.ClassFile.FieldType.int))
abbrev m_M_condition : aMd := (⟨"ShardGroupsModel", "condition", "(II)I"⟩, prog_14_method_35_code, 3, (Option.some Jvm.ClassFile.FieldType.int))
abbrev m_M_value : aMd := (⟨"ShardGroupsModel", "value", "(II)I"⟩, prog_14_method_37_code, 3, (Option.some Jvm.ClassFile.FieldType.int))
abbrev m_M_has : aMd := (⟨"ShardGroupsModel", "has", "(II)Z"⟩, prog_14_method_36_code, 3, (Option.some Jvm.ClassFile.FieldType.boolean))
abbrev m_M_latest : aMd := (⟨"ShardGroupsModel", "latest", "(III)I"⟩, prog_14_method_38_code, 4, (Option.some Jvm.ClassFile.FieldType.int))
abbrev m_M_answer : aMd := (⟨"ShardGroupsModel", "answer", "(III)I"⟩, prog_14_method_39_code, 4, (Option.some Jvm.ClassFile.FieldType.int))
abbrev m_L_law : aMd := (⟨"ShardGroupsLaw", "law", "([I)Z"⟩, code, 4, (some .boolean))
theorem f_C_9_C : aFl "ShardGroups$Configuration" 9 1 0 := ⟨"ShardGroups$Configuration", T_C, 3, "ShardGroups$Configuration", rfl, by decide, in_C, w36, Or.inl rfl⟩
theorem p_C_9_C : aPl "ShardGroups$Configuration" 9 1 0 (.array .boolean) true := ⟨"ShardGroups$Configuration", T_C, 3, "ShardGroups$Configuration", tt_C, rfl, by decide, in_C, w36, Or.inl rfl, ty_C, nm_C, rfl, rfl, fun _ => rfl⟩
theorem f_G_56_C : aFl "ShardGroups$Change" 56 1 0 := ⟨"ShardGroups$Configuration", T_C, 3, "ShardGroups$Configuration", rfl, by decide, in_C, w37, Or.inl rfl⟩
theorem f_C_15_C : aFl "ShardGroups$Configuration" 15 1 1 := ⟨"ShardGroups$Configuration", T_C, 3, "ShardGroups$Configuration", rfl, by decide, in_C, w38, Or.inl rfl⟩
theorem p_C_15_C : aPl "ShardGroups$Configuration" 15 1 1 (.array .int) true := ⟨"ShardGroups$Configuration", T_C, 3, "ShardGroups$Configuration", tt_C, rfl, by decide, in_C, w38, Or.inl rfl, ty_C, nm_C, rfl, rfl, fun _ => rfl⟩
theorem f_T_42_C : aFl "ShardGroups$StoreNode" 42 1 1 := ⟨"ShardGroups$Configuration", T_C, 3, "ShardGroups$Configuration", rfl, by decide, in_C, w39, Or.inl rfl⟩
theorem f_S_172_C : aFl "ShardGroups" 172 1 1 := ⟨"ShardGroups$Configuration", T_C, 3, "ShardGroups$Configuration", rfl, by decide, in_C, w40, Or.inl rfl⟩
theorem f_C_19_C : aFl "ShardGroups$Configuration" 19 1 2 := ⟨"ShardGroups$Configuration", T_C, 3, "ShardGroups$Configuration", rfl, by decide, in_C, w41, Or.inl rfl⟩
theorem p_C_19_C : aPl "ShardGroups$Configuration" 19 1 2 (.array .int) true := ⟨"ShardGroups$Configuration", T_C, 3, "ShardGroups$Configuration", tt_C, rfl, by decide, in_C, w41, Or.inl rfl, ty_C, nm_C, rfl, rfl, fun _ => rfl⟩
theorem f_V_11_V : aFl "ShardGroups$ServiceNode" 11 2 6 := ⟨"ShardGroups$ServiceNode", T_V, 8, "ShardGroups$ServiceNode", rfl, by decide, in_V, w63, Or.inl rfl⟩
theorem p_V_11_V : aPl "ShardGroups$ServiceNode" 11 2 6 (.array (.object "ShardGroups$Configuration")) true := ⟨"ShardGroups$ServiceNode", T_V, 8, "ShardGroups$ServiceNode", tt_V, rfl, by decide, in_V, w63, Or.inl rfl, ty_V, nm_V, rfl, rfl, fun _ => rfl⟩
theorem f_G_21_V : aFl "ShardGroups$Change" 21 2 6 := ⟨"ShardGroups$ServiceNode", T_V, 8, "ShardGroups$ServiceNode", rfl, by decide, in_V, w64, Or.inl rfl⟩
theorem f_S_144_V : aFl "ShardGroups" 144 2 6 := ⟨"ShardGroups$ServiceNode", T_V, 8, "ShardGroups$ServiceNode", rfl, by decide, in_V, w65, Or.inl rfl⟩
theorem f_G_27_V : aFl "ShardGroups$Change" 27 2 7 := ⟨"ShardGroups$ServiceNode", T_V, 8, "ShardGroups$ServiceNode", rfl, by decide, in_V, w66, Or.inl rfl⟩
theorem f_V_23_V : aFl "ShardGroups$ServiceNode" 23 2 7 := ⟨"ShardGroups$ServiceNode", T_V, 8, "ShardGroups$ServiceNode", rfl, by decide, in_V, w67, Or.inl rfl⟩
theorem p_V_23_V : aPl "ShardGroups$ServiceNode" 23 2 7 .int false := ⟨"ShardGroups$ServiceNode", T_V, 8, "ShardGroups$ServiceNode", tt_V, rfl, by decide, in_V, w67, Or.inl rfl, ty_V, nm_V, rfl, rfl, fun h => by cases h⟩
theorem f_S_139_V : aFl "ShardGroups" 139 2 7 := ⟨"ShardGroups$ServiceNode", T_V, 8, "ShardGroups$ServiceNode", rfl, by decide, in_V, w68, Or.inl rfl⟩
theorem f_N_9_V : aFl "ShardGroups$Node" 9 2 0 := ⟨"ShardGroups$ServiceNode", T_V, 8, "ShardGroups$Node", rfl, by decide, in_V, w69, Or.inl rfl⟩
theorem p_N_9_V : aPl "ShardGroups$Node" 9 2 0 .boolean false := ⟨"ShardGroups$ServiceNode", T_V, 8, "ShardGroups$Node", tt_V, rfl, by decide, in_V, w69, Or.inl rfl, ty_V, nm_V, rfl, rfl, fun h => by cases h⟩
theorem f_N_9_T : aFl "ShardGroups$Node" 9 3 0 := ⟨"ShardGroups$StoreNode", T_T, 10, "ShardGroups$Node", rfl, by decide, in_T, w69, Or.inl rfl⟩
theorem p_N_9_T : aPl "ShardGroups$Node" 9 3 0 .boolean false := ⟨"ShardGroups$StoreNode", T_T, 10, "ShardGroups$Node", tt_T, rfl, by decide, in_T, w69, Or.inl rfl, ty_T, nm_T, rfl, rfl, fun h => by cases h⟩
theorem f_S_44_V : aFl "ShardGroups" 44 2 0 := ⟨"ShardGroups$ServiceNode", T_V, 8, "ShardGroups$Node", rfl, by decide, in_V, w70, Or.inl rfl⟩
theorem p_S_44_V : aPl "ShardGroups" 44 2 0 .boolean false := ⟨"ShardGroups$ServiceNode", T_V, 8, "ShardGroups$Node", tt_V, rfl, by decide, in_V, w70, Or.inl rfl, ty_V, nm_V, rfl, rfl, fun h => by cases h⟩
theorem f_S_44_T : aFl "ShardGroups" 44 3 0 := ⟨"ShardGroups$StoreNode", T_T, 10, "ShardGroups$Node", rfl, by decide, in_T, w70, Or.inl rfl⟩
theorem p_S_44_T : aPl "ShardGroups" 44 3 0 .boolean false := ⟨"ShardGroups$StoreNode", T_T, 10, "ShardGroups$Node", tt_T, rfl, by decide, in_T, w70, Or.inl rfl, ty_T, nm_T, rfl, rfl, fun h => by cases h⟩
theorem f_S_217_V : aFl "ShardGroups" 217 2 0 := ⟨"ShardGroups$ServiceNode", T_V, 8, "ShardGroups$ServiceNode", rfl, by decide, in_V, w71, Or.inr w72⟩
theorem f_S_218_T : aFl "ShardGroups" 218 3 0 := ⟨"ShardGroups$StoreNode", T_T, 10, "ShardGroups$StoreNode", rfl, by decide, in_T, w73, Or.inr w74⟩
theorem f_S_48_V : aFl "ShardGroups" 48 2 1 := ⟨"ShardGroups$ServiceNode", T_V, 8, "ShardGroups$Node", rfl, by decide, in_V, w75, Or.inl rfl⟩
theorem p_S_48_V : aPl "ShardGroups" 48 2 1 .boolean false := ⟨"ShardGroups$ServiceNode", T_V, 8, "ShardGroups$Node", tt_V, rfl, by decide, in_V, w75, Or.inl rfl, ty_V, nm_V, rfl, rfl, fun h => by cases h⟩
theorem f_S_48_T : aFl "ShardGroups" 48 3 1 := ⟨"ShardGroups$StoreNode", T_T, 10, "ShardGroups$Node", rfl, by decide, in_T, w75, Or.inl rfl⟩
theorem p_S_48_T : aPl "ShardGroups" 48 3 1 .boolean false := ⟨"ShardGroups$StoreNode", T_T, 10, "ShardGroups$Node", tt_T, rfl, by decide, in_T, w75, Or.inl rfl, ty_T, nm_T, rfl, rfl, fun h => by cases h⟩
theorem f_N_25_V : aFl "ShardGroups$Node" 25 2 1 := ⟨"ShardGroups$ServiceNode", T_V, 8, "ShardGroups$Node", rfl, by decide, in_V, w76, Or.inl rfl⟩
theorem p_N_25_V : aPl "ShardGroups$Node" 25 2 1 .boolean false := ⟨"ShardGroups$ServiceNode", T_V, 8, "ShardGroups$Node", tt_V, rfl, by decide, in_V, w76, Or.inl rfl, ty_V, nm_V, rfl, rfl, fun h => by cases h⟩
theorem f_N_25_T : aFl "ShardGroups$Node" 25 3 1 := ⟨"ShardGroups$StoreNode", T_T, 10, "ShardGroups$Node", rfl, by decide, in_T, w76, Or.inl rfl⟩
theorem p_N_25_T : aPl "ShardGroups$Node" 25 3 1 .boolean false := ⟨"ShardGroups$StoreNode", T_T, 10, "ShardGroups$Node", tt_T, rfl, by decide, in_T, w76, Or.inl rfl, ty_T, nm_T, rfl, rfl, fun h => by cases h⟩
theorem f_S_105_V : aFl "ShardGroups" 105 2 1 := ⟨"ShardGroups$ServiceNode", T_V, 8, "ShardGroups$ServiceNode", rfl, by decide, in_V, w77, Or.inr w78⟩
theorem f_S_124_T : aFl "ShardGroups" 124 3 1 := ⟨"ShardGroups$StoreNode", T_T, 10, "ShardGroups$StoreNode", rfl, by decide, in_T, w79, Or.inr w80⟩
theorem f_N_21_V : aFl "ShardGroups$Node" 21 2 2 := ⟨"ShardGroups$ServiceNode", T_V, 8, "ShardGroups$Node", rfl, by decide, in_V, w81, Or.inl rfl⟩
theorem p_N_21_V : aPl "ShardGroups$Node" 21 2 2 .int false := ⟨"ShardGroups$ServiceNode", T_V, 8, "ShardGroups$Node", tt_V, rfl, by decide, in_V, w81, Or.inl rfl, ty_V, nm_V, rfl, rfl, fun h => by cases h⟩
theorem f_N_21_T : aFl "ShardGroups$Node" 21 3 2 := ⟨"ShardGroups$StoreNode", T_T, 10, "ShardGroups$Node", rfl, by decide, in_T, w81, Or.inl rfl⟩
theorem p_N_21_T : aPl "ShardGroups$Node" 21 3 2 .int false := ⟨"ShardGroups$StoreNode", T_T, 10, "ShardGroups$Node", tt_T, rfl, by decide, in_T, w81, Or.inl rfl, ty_T, nm_T, rfl, rfl, fun h => by cases h⟩
theorem f_S_54_V : aFl "ShardGroups" 54 2 2 := ⟨"ShardGroups$ServiceNode", T_V, 8, "ShardGroups$Node", rfl, by decide, in_V, w82, Or.inl rfl⟩
theorem f_S_54_T : aFl "ShardGroups" 54 3 2 := ⟨"ShardGroups$StoreNode", T_T, 10, "ShardGroups$Node", rfl, by decide, in_T, w82, Or.inl rfl⟩
theorem f_S_108_V : aFl "ShardGroups" 108 2 2 := ⟨"ShardGroups$ServiceNode", T_V, 8, "ShardGroups$ServiceNode", rfl, by decide, in_V, w83, Or.inr w84⟩
theorem f_S_127_T : aFl "ShardGroups" 127 3 2 := ⟨"ShardGroups$StoreNode", T_T, 10, "ShardGroups$StoreNode", rfl, by decide, in_T, w85, Or.inr w86⟩
theorem f_S_94_V : aFl "ShardGroups" 94 2 3 := ⟨"ShardGroups$ServiceNode", T_V, 8, "ShardGroups$Node", rfl, by decide, in_V, w87, Or.inl rfl⟩
theorem f_S_94_T : aFl "ShardGroups" 94 3 3 := ⟨"ShardGroups$StoreNode", T_T, 10, "ShardGroups$Node", rfl, by decide, in_T, w87, Or.inl rfl⟩
theorem f_N_40_V : aFl "ShardGroups$Node" 40 2 3 := ⟨"ShardGroups$ServiceNode", T_V, 8, "ShardGroups$Node", rfl, by decide, in_V, w88, Or.inl rfl⟩
theorem p_N_40_V : aPl "ShardGroups$Node" 40 2 3 .int false := ⟨"ShardGroups$ServiceNode", T_V, 8, "ShardGroups$Node", tt_V, rfl, by decide, in_V, w88, Or.inl rfl, ty_V, nm_V, rfl, rfl, fun h => by cases h⟩
theorem f_N_40_T : aFl "ShardGroups$Node" 40 3 3 := ⟨"ShardGroups$StoreNode", T_T, 10, "ShardGroups$Node", rfl, by decide, in_T, w88, Or.inl rfl⟩
theorem p_N_40_T : aPl "ShardGroups$Node" 40 3 3 .int false := ⟨"ShardGroups$StoreNode", T_T, 10, "ShardGroups$Node", tt_T, rfl, by decide, in_T, w88, Or.inl rfl, ty_T, nm_T, rfl, rfl, fun h => by cases h⟩
theorem f_S_91_V : aFl "ShardGroups" 91 2 4 := ⟨"ShardGroups$ServiceNode", T_V, 8, "ShardGroups$Node", rfl, by decide, in_V, w89, Or.inl rfl⟩
theorem f_S_91_T : aFl "ShardGroups" 91 3 4 := ⟨"ShardGroups$StoreNode", T_T, 10, "ShardGroups$Node", rfl, by decide, in_T, w89, Or.inl rfl⟩
theorem f_N_58_V : aFl "ShardGroups$Node" 58 2 4 := ⟨"ShardGroups$ServiceNode", T_V, 8, "ShardGroups$Node", rfl, by decide, in_V, w90, Or.inl rfl⟩
theorem p_N_58_V : aPl "ShardGroups$Node" 58 2 4 .int false := ⟨"ShardGroups$ServiceNode", T_V, 8, "ShardGroups$Node", tt_V, rfl, by decide, in_V, w90, Or.inl rfl, ty_V, nm_V, rfl, rfl, fun h => by cases h⟩
theorem f_N_58_T : aFl "ShardGroups$Node" 58 3 4 := ⟨"ShardGroups$StoreNode", T_T, 10, "ShardGroups$Node", rfl, by decide, in_T, w90, Or.inl rfl⟩
theorem p_N_58_T : aPl "ShardGroups$Node" 58 3 4 .int false := ⟨"ShardGroups$StoreNode", T_T, 10, "ShardGroups$Node", tt_T, rfl, by decide, in_T, w90, Or.inl rfl, ty_T, nm_T, rfl, rfl, fun h => by cases h⟩
theorem f_N_17_V : aFl "ShardGroups$Node" 17 2 5 := ⟨"ShardGroups$ServiceNode", T_V, 8, "ShardGroups$Node", rfl, by decide, in_V, w91, Or.inl rfl⟩
theorem p_N_17_V : aPl "ShardGroups$Node" 17 2 5 (.array (.object "ShardGroups$Entry")) true := ⟨"ShardGroups$ServiceNode", T_V, 8, "ShardGroups$Node", tt_V, rfl, by decide, in_V, w91, Or.inl rfl, ty_V, nm_V, rfl, rfl, fun _ => rfl⟩
theorem f_N_17_T : aFl "ShardGroups$Node" 17 3 5 := ⟨"ShardGroups$StoreNode", T_T, 10, "ShardGroups$Node", rfl, by decide, in_T, w91, Or.inl rfl⟩
theorem p_N_17_T : aPl "ShardGroups$Node" 17 3 5 (.array (.object "ShardGroups$Entry")) true := ⟨"ShardGroups$StoreNode", T_T, 10, "ShardGroups$Node", tt_T, rfl, by decide, in_T, w91, Or.inl rfl, ty_T, nm_T, rfl, rfl, fun _ => rfl⟩
theorem f_H_9_H : aFl "ShardGroups$Shard" 9 4 0 := ⟨"ShardGroups$Shard", T_H, 4, "ShardGroups$Shard", rfl, by decide, in_H, w124, Or.inl rfl⟩
theorem p_H_9_H : aPl "ShardGroups$Shard" 9 4 0 .int false := ⟨"ShardGroups$Shard", T_H, 4, "ShardGroups$Shard", tt_H, rfl, by decide, in_H, w124, Or.inl rfl, ty_H, nm_H, rfl, rfl, fun h => by cases h⟩
theorem f_D_24_H : aFl "ShardGroups$Delete" 24 4 0 := ⟨"ShardGroups$Shard", T_H, 4, "ShardGroups$Shard", rfl, by decide, in_H, w125, Or.inl rfl⟩
theorem p_D_24_H : aPl "ShardGroups$Delete" 24 4 0 .int false := ⟨"ShardGroups$Shard", T_H, 4, "ShardGroups$Shard", tt_H, rfl, by decide, in_H, w125, Or.inl rfl, ty_H, nm_H, rfl, rfl, fun h => by cases h⟩
theorem f_I_37_H : aFl "ShardGroups$Insert" 37 4 0 := ⟨"ShardGroups$Shard", T_H, 4, "ShardGroups$Shard", rfl, by decide, in_H, w126, Or.inl rfl⟩
theorem p_I_37_H : aPl "ShardGroups$Insert" 37 4 0 .int false := ⟨"ShardGroups$Shard", T_H, 4, "ShardGroups$Shard", tt_H, rfl, by decide, in_H, w126, Or.inl rfl, ty_H, nm_H, rfl, rfl, fun h => by cases h⟩
theorem f_T_35_H : aFl "ShardGroups$StoreNode" 35 4 0 := ⟨"ShardGroups$Shard", T_H, 4, "ShardGroups$Shard", rfl, by decide, in_H, w127, Or.inl rfl⟩
theorem p_T_35_H : aPl "ShardGroups$StoreNode" 35 4 0 .int false := ⟨"ShardGroups$Shard", T_H, 4, "ShardGroups$Shard", tt_H, rfl, by decide, in_H, w127, Or.inl rfl, ty_H, nm_H, rfl, rfl, fun h => by cases h⟩
theorem f_S_158_H : aFl "ShardGroups" 158 4 0 := ⟨"ShardGroups$Shard", T_H, 4, "ShardGroups$Shard", rfl, by decide, in_H, w128, Or.inl rfl⟩
theorem f_H_15_H : aFl "ShardGroups$Shard" 15 4 1 := ⟨"ShardGroups$Shard", T_H, 4, "ShardGroups$Shard", rfl, by decide, in_H, w129, Or.inl rfl⟩
theorem p_H_15_H : aPl "ShardGroups$Shard" 15 4 1 (.array .int) true := ⟨"ShardGroups$Shard", T_H, 4, "ShardGroups$Shard", tt_H, rfl, by decide, in_H, w129, Or.inl rfl, ty_H, nm_H, rfl, rfl, fun _ => rfl⟩
theorem f_S_202_H : aFl "ShardGroups" 202 4 1 := ⟨"ShardGroups$Shard", T_H, 4, "ShardGroups$Shard", rfl, by decide, in_H, w130, Or.inl rfl⟩
theorem f_H_19_H : aFl "ShardGroups$Shard" 19 4 2 := ⟨"ShardGroups$Shard", T_H, 4, "ShardGroups$Shard", rfl, by decide, in_H, w131, Or.inl rfl⟩
theorem p_H_19_H : aPl "ShardGroups$Shard" 19 4 2 (.array .int) true := ⟨"ShardGroups$Shard", T_H, 4, "ShardGroups$Shard", tt_H, rfl, by decide, in_H, w131, Or.inl rfl, ty_H, nm_H, rfl, rfl, fun _ => rfl⟩
theorem f_S_208_H : aFl "ShardGroups" 208 4 2 := ⟨"ShardGroups$Shard", T_H, 4, "ShardGroups$Shard", rfl, by decide, in_H, w132, Or.inl rfl⟩
theorem f_H_22_H : aFl "ShardGroups$Shard" 22 4 3 := ⟨"ShardGroups$Shard", T_H, 4, "ShardGroups$Shard", rfl, by decide, in_H, w133, Or.inl rfl⟩
theorem p_H_22_H : aPl "ShardGroups$Shard" 22 4 3 (.array .int) true := ⟨"ShardGroups$Shard", T_H, 4, "ShardGroups$Shard", tt_H, rfl, by decide, in_H, w133, Or.inl rfl, ty_H, nm_H, rfl, rfl, fun _ => rfl⟩
theorem f_S_211_H : aFl "ShardGroups" 211 4 3 := ⟨"ShardGroups$Shard", T_H, 4, "ShardGroups$Shard", rfl, by decide, in_H, w134, Or.inl rfl⟩
theorem f_T_17_T : aFl "ShardGroups$StoreNode" 17 3 6 := ⟨"ShardGroups$StoreNode", T_T, 10, "ShardGroups$StoreNode", rfl, by decide, in_T, w144, Or.inl rfl⟩
theorem p_T_17_T : aPl "ShardGroups$StoreNode" 17 3 6 .int true := ⟨"ShardGroups$StoreNode", T_T, 10, "ShardGroups$StoreNode", tt_T, rfl, by decide, in_T, w144, Or.inl rfl, ty_T, nm_T, rfl, rfl, fun _ => rfl⟩
theorem f_S_176_T : aFl "ShardGroups" 176 3 6 := ⟨"ShardGroups$StoreNode", T_T, 10, "ShardGroups$StoreNode", rfl, by decide, in_T, w145, Or.inl rfl⟩
theorem f_D_29_T : aFl "ShardGroups$Delete" 29 3 7 := ⟨"ShardGroups$StoreNode", T_T, 10, "ShardGroups$StoreNode", rfl, by decide, in_T, w146, Or.inl rfl⟩
theorem f_I_40_T : aFl "ShardGroups$Insert" 40 3 7 := ⟨"ShardGroups$StoreNode", T_T, 10, "ShardGroups$StoreNode", rfl, by decide, in_T, w147, Or.inl rfl⟩
theorem f_T_32_T : aFl "ShardGroups$StoreNode" 32 3 7 := ⟨"ShardGroups$StoreNode", T_T, 10, "ShardGroups$StoreNode", rfl, by decide, in_T, w148, Or.inl rfl⟩
theorem p_T_32_T : aPl "ShardGroups$StoreNode" 32 3 7 .int false := ⟨"ShardGroups$StoreNode", T_T, 10, "ShardGroups$StoreNode", tt_T, rfl, by decide, in_T, w148, Or.inl rfl, ty_T, nm_T, rfl, rfl, fun h => by cases h⟩
theorem f_S_132_T : aFl "ShardGroups" 132 3 7 := ⟨"ShardGroups$StoreNode", T_T, 10, "ShardGroups$StoreNode", rfl, by decide, in_T, w149, Or.inl rfl⟩
theorem f_T_21_T : aFl "ShardGroups$StoreNode" 21 3 8 := ⟨"ShardGroups$StoreNode", T_T, 10, "ShardGroups$StoreNode", rfl, by decide, in_T, w150, Or.inl rfl⟩
theorem p_T_21_T : aPl "ShardGroups$StoreNode" 21 3 8 (.object "ShardGroups$Configuration") false := ⟨"ShardGroups$StoreNode", T_T, 10, "ShardGroups$StoreNode", tt_T, rfl, by decide, in_T, w150, Or.inl rfl, ty_T, nm_T, rfl, rfl, fun h => by cases h⟩
theorem f_S_168_T : aFl "ShardGroups" 168 3 8 := ⟨"ShardGroups$StoreNode", T_T, 10, "ShardGroups$StoreNode", rfl, by decide, in_T, w151, Or.inl rfl⟩
theorem f_T_11_T : aFl "ShardGroups$StoreNode" 11 3 9 := ⟨"ShardGroups$StoreNode", T_T, 10, "ShardGroups$StoreNode", rfl, by decide, in_T, w152, Or.inl rfl⟩
theorem p_T_11_T : aPl "ShardGroups$StoreNode" 11 3 9 (.array (.object "ShardGroups$Shard")) true := ⟨"ShardGroups$StoreNode", T_T, 10, "ShardGroups$StoreNode", tt_T, rfl, by decide, in_T, w152, Or.inl rfl, ty_T, nm_T, rfl, rfl, fun _ => rfl⟩
theorem f_D_18_T : aFl "ShardGroups$Delete" 18 3 9 := ⟨"ShardGroups$StoreNode", T_T, 10, "ShardGroups$StoreNode", rfl, by decide, in_T, w153, Or.inl rfl⟩
theorem f_I_31_T : aFl "ShardGroups$Insert" 31 3 9 := ⟨"ShardGroups$StoreNode", T_T, 10, "ShardGroups$StoreNode", rfl, by decide, in_T, w154, Or.inl rfl⟩
theorem f_R_25_T : aFl "ShardGroups$Request" 25 3 9 := ⟨"ShardGroups$StoreNode", T_T, 10, "ShardGroups$StoreNode", rfl, by decide, in_T, w155, Or.inl rfl⟩
theorem f_S_154_T : aFl "ShardGroups" 154 3 9 := ⟨"ShardGroups$StoreNode", T_T, 10, "ShardGroups$StoreNode", rfl, by decide, in_T, w156, Or.inl rfl⟩
theorem f_S_11_S : aFl "ShardGroups" 11 0 0 := ⟨"ShardGroups", T_S, 3, "ShardGroups", rfl, by decide, in_S, w172, Or.inl rfl⟩
theorem p_S_11_S : aPl "ShardGroups" 11 0 0 (.array (.object "ShardGroups$Node")) true := ⟨"ShardGroups", T_S, 3, "ShardGroups", tt_S, rfl, by decide, in_S, w172, Or.inl rfl, ty_S, nm_S, rfl, rfl, fun _ => rfl⟩
theorem f_S_17_S : aFl "ShardGroups" 17 0 1 := ⟨"ShardGroups", T_S, 3, "ShardGroups", rfl, by decide, in_S, w173, Or.inl rfl⟩
theorem p_S_17_S : aPl "ShardGroups" 17 0 1 (.array (.object "ShardGroups$ServiceNode")) true := ⟨"ShardGroups", T_S, 3, "ShardGroups", tt_S, rfl, by decide, in_S, w173, Or.inl rfl, ty_S, nm_S, rfl, rfl, fun _ => rfl⟩
theorem f_S_23_S : aFl "ShardGroups" 23 0 2 := ⟨"ShardGroups", T_S, 3, "ShardGroups", rfl, by decide, in_S, w174, Or.inl rfl⟩
theorem p_S_23_S : aPl "ShardGroups" 23 0 2 (.array (.object "ShardGroups$StoreNode")) true := ⟨"ShardGroups", T_S, 3, "ShardGroups", tt_S, rfl, by decide, in_S, w174, Or.inl rfl, ty_S, nm_S, rfl, rfl, fun _ => rfl⟩
theorem f_E_7_E : aFl "ShardGroups$Entry" 7 5 0 := ⟨"ShardGroups$Entry", T_E, 1, "ShardGroups$Entry", rfl, by decide, in_E, w239, Or.inl rfl⟩
theorem p_E_7_E : aPl "ShardGroups$Entry" 7 5 0 .int true := ⟨"ShardGroups$Entry", T_E, 1, "ShardGroups$Entry", tt_E, rfl, by decide, in_E, w239, Or.inl rfl, ty_E, nm_E, rfl, rfl, fun _ => rfl⟩
theorem f_E_7_G : aFl "ShardGroups$Entry" 7 6 0 := ⟨"ShardGroups$Change", T_G, 4, "ShardGroups$Entry", rfl, by decide, in_G, w239, Or.inl rfl⟩
theorem p_E_7_G : aPl "ShardGroups$Entry" 7 6 0 .int true := ⟨"ShardGroups$Change", T_G, 4, "ShardGroups$Entry", tt_G, rfl, by decide, in_G, w239, Or.inl rfl, ty_G, nm_G, rfl, rfl, fun _ => rfl⟩
theorem f_E_7_F : aFl "ShardGroups$Entry" 7 7 0 := ⟨"ShardGroups$Configure", T_F, 3, "ShardGroups$Entry", rfl, by decide, in_F, w239, Or.inl rfl⟩
theorem p_E_7_F : aPl "ShardGroups$Entry" 7 7 0 .int true := ⟨"ShardGroups$Configure", T_F, 3, "ShardGroups$Entry", tt_F, rfl, by decide, in_F, w239, Or.inl rfl, ty_F, nm_F, rfl, rfl, fun _ => rfl⟩
theorem f_E_7_R : aFl "ShardGroups$Entry" 7 8 0 := ⟨"ShardGroups$Request", T_R, 6, "ShardGroups$Entry", rfl, by decide, in_R, w239, Or.inl rfl⟩
theorem p_E_7_R : aPl "ShardGroups$Entry" 7 8 0 .int true := ⟨"ShardGroups$Request", T_R, 6, "ShardGroups$Entry", tt_R, rfl, by decide, in_R, w239, Or.inl rfl, ty_R, nm_R, rfl, rfl, fun _ => rfl⟩
theorem f_E_7_I : aFl "ShardGroups$Entry" 7 9 0 := ⟨"ShardGroups$Insert", T_I, 4, "ShardGroups$Entry", rfl, by decide, in_I, w239, Or.inl rfl⟩
theorem p_E_7_I : aPl "ShardGroups$Entry" 7 9 0 .int true := ⟨"ShardGroups$Insert", T_I, 4, "ShardGroups$Entry", tt_I, rfl, by decide, in_I, w239, Or.inl rfl, ty_I, nm_I, rfl, rfl, fun _ => rfl⟩
theorem f_E_7_D : aFl "ShardGroups$Entry" 7 10 0 := ⟨"ShardGroups$Delete", T_D, 3, "ShardGroups$Entry", rfl, by decide, in_D, w239, Or.inl rfl⟩
theorem p_E_7_D : aPl "ShardGroups$Entry" 7 10 0 .int true := ⟨"ShardGroups$Delete", T_D, 3, "ShardGroups$Entry", tt_D, rfl, by decide, in_D, w239, Or.inl rfl, ty_D, nm_D, rfl, rfl, fun _ => rfl⟩
theorem f_N_43_E : aFl "ShardGroups$Node" 43 5 0 := ⟨"ShardGroups$Entry", T_E, 1, "ShardGroups$Entry", rfl, by decide, in_E, w240, Or.inl rfl⟩
theorem f_N_43_G : aFl "ShardGroups$Node" 43 6 0 := ⟨"ShardGroups$Change", T_G, 4, "ShardGroups$Entry", rfl, by decide, in_G, w240, Or.inl rfl⟩
theorem f_N_43_F : aFl "ShardGroups$Node" 43 7 0 := ⟨"ShardGroups$Configure", T_F, 3, "ShardGroups$Entry", rfl, by decide, in_F, w240, Or.inl rfl⟩
theorem f_N_43_R : aFl "ShardGroups$Node" 43 8 0 := ⟨"ShardGroups$Request", T_R, 6, "ShardGroups$Entry", rfl, by decide, in_R, w240, Or.inl rfl⟩
theorem f_N_43_I : aFl "ShardGroups$Node" 43 9 0 := ⟨"ShardGroups$Insert", T_I, 4, "ShardGroups$Entry", rfl, by decide, in_I, w240, Or.inl rfl⟩
theorem f_N_43_D : aFl "ShardGroups$Node" 43 10 0 := ⟨"ShardGroups$Delete", T_D, 3, "ShardGroups$Entry", rfl, by decide, in_D, w240, Or.inl rfl⟩
theorem f_G_9_G : aFl "ShardGroups$Change" 9 6 1 := ⟨"ShardGroups$Change", T_G, 4, "ShardGroups$Change", rfl, by decide, in_G, w444, Or.inl rfl⟩
theorem p_G_9_G : aPl "ShardGroups$Change" 9 6 1 .int true := ⟨"ShardGroups$Change", T_G, 4, "ShardGroups$Change", tt_G, rfl, by decide, in_G, w444, Or.inl rfl, ty_G, nm_G, rfl, rfl, fun _ => rfl⟩
theorem f_G_15_G : aFl "ShardGroups$Change" 15 6 2 := ⟨"ShardGroups$Change", T_G, 4, "ShardGroups$Change", rfl, by decide, in_G, w445, Or.inl rfl⟩
theorem p_G_15_G : aPl "ShardGroups$Change" 15 6 2 .int true := ⟨"ShardGroups$Change", T_G, 4, "ShardGroups$Change", tt_G, rfl, by decide, in_G, w445, Or.inl rfl, ty_G, nm_G, rfl, rfl, fun _ => rfl⟩
theorem f_G_18_G : aFl "ShardGroups$Change" 18 6 3 := ⟨"ShardGroups$Change", T_G, 4, "ShardGroups$Change", rfl, by decide, in_G, w446, Or.inl rfl⟩
theorem p_G_18_G : aPl "ShardGroups$Change" 18 6 3 .int true := ⟨"ShardGroups$Change", T_G, 4, "ShardGroups$Change", tt_G, rfl, by decide, in_G, w446, Or.inl rfl, ty_G, nm_G, rfl, rfl, fun _ => rfl⟩
theorem f_R_7_R : aFl "ShardGroups$Request" 7 8 1 := ⟨"ShardGroups$Request", T_R, 6, "ShardGroups$Request", rfl, by decide, in_R, w483, Or.inl rfl⟩
theorem p_R_7_R : aPl "ShardGroups$Request" 7 8 1 .int true := ⟨"ShardGroups$Request", T_R, 6, "ShardGroups$Request", tt_R, rfl, by decide, in_R, w483, Or.inl rfl, ty_R, nm_R, rfl, rfl, fun _ => rfl⟩
theorem f_H_36_R : aFl "ShardGroups$Shard" 36 8 1 := ⟨"ShardGroups$Request", T_R, 6, "ShardGroups$Request", rfl, by decide, in_R, w484, Or.inl rfl⟩
theorem f_R_13_R : aFl "ShardGroups$Request" 13 8 2 := ⟨"ShardGroups$Request", T_R, 6, "ShardGroups$Request", rfl, by decide, in_R, w485, Or.inl rfl⟩
theorem p_R_13_R : aPl "ShardGroups$Request" 13 8 2 .int true := ⟨"ShardGroups$Request", T_R, 6, "ShardGroups$Request", tt_R, rfl, by decide, in_R, w485, Or.inl rfl, ty_R, nm_R, rfl, rfl, fun _ => rfl⟩
theorem f_H_31_R : aFl "ShardGroups$Shard" 31 8 2 := ⟨"ShardGroups$Request", T_R, 6, "ShardGroups$Request", rfl, by decide, in_R, w486, Or.inl rfl⟩
theorem f_R_16_R : aFl "ShardGroups$Request" 16 8 3 := ⟨"ShardGroups$Request", T_R, 6, "ShardGroups$Request", rfl, by decide, in_R, w487, Or.inl rfl⟩
theorem p_R_16_R : aPl "ShardGroups$Request" 16 8 3 .int true := ⟨"ShardGroups$Request", T_R, 6, "ShardGroups$Request", tt_R, rfl, by decide, in_R, w487, Or.inl rfl, ty_R, nm_R, rfl, rfl, fun _ => rfl⟩
theorem f_H_46_R : aFl "ShardGroups$Shard" 46 8 3 := ⟨"ShardGroups$Request", T_R, 6, "ShardGroups$Request", rfl, by decide, in_R, w488, Or.inl rfl⟩
theorem f_R_19_R : aFl "ShardGroups$Request" 19 8 4 := ⟨"ShardGroups$Request", T_R, 6, "ShardGroups$Request", rfl, by decide, in_R, w489, Or.inl rfl⟩
theorem p_R_19_R : aPl "ShardGroups$Request" 19 8 4 .int true := ⟨"ShardGroups$Request", T_R, 6, "ShardGroups$Request", tt_R, rfl, by decide, in_R, w489, Or.inl rfl, ty_R, nm_R, rfl, rfl, fun _ => rfl⟩
theorem f_H_39_R : aFl "ShardGroups$Shard" 39 8 4 := ⟨"ShardGroups$Request", T_R, 6, "ShardGroups$Request", rfl, by decide, in_R, w490, Or.inl rfl⟩
theorem f_R_22_R : aFl "ShardGroups$Request" 22 8 5 := ⟨"ShardGroups$Request", T_R, 6, "ShardGroups$Request", rfl, by decide, in_R, w491, Or.inl rfl⟩
theorem p_R_22_R : aPl "ShardGroups$Request" 22 8 5 .int true := ⟨"ShardGroups$Request", T_R, 6, "ShardGroups$Request", tt_R, rfl, by decide, in_R, w491, Or.inl rfl, ty_R, nm_R, rfl, rfl, fun _ => rfl⟩
theorem f_H_49_R : aFl "ShardGroups$Shard" 49 8 5 := ⟨"ShardGroups$Request", T_R, 6, "ShardGroups$Request", rfl, by decide, in_R, w492, Or.inl rfl⟩
theorem f_F_7_F : aFl "ShardGroups$Configure" 7 7 1 := ⟨"ShardGroups$Configure", T_F, 3, "ShardGroups$Configure", rfl, by decide, in_F, w519, Or.inl rfl⟩
theorem p_F_7_F : aPl "ShardGroups$Configure" 7 7 1 .int true := ⟨"ShardGroups$Configure", T_F, 3, "ShardGroups$Configure", tt_F, rfl, by decide, in_F, w519, Or.inl rfl, ty_F, nm_F, rfl, rfl, fun _ => rfl⟩
theorem f_F_13_F : aFl "ShardGroups$Configure" 13 7 2 := ⟨"ShardGroups$Configure", T_F, 3, "ShardGroups$Configure", rfl, by decide, in_F, w520, Or.inl rfl⟩
theorem p_F_13_F : aPl "ShardGroups$Configure" 13 7 2 (.object "ShardGroups$Configuration") true := ⟨"ShardGroups$Configure", T_F, 3, "ShardGroups$Configure", tt_F, rfl, by decide, in_F, w520, Or.inl rfl, ty_F, nm_F, rfl, rfl, fun _ => rfl⟩
theorem f_I_20_I : aFl "ShardGroups$Insert" 20 9 1 := ⟨"ShardGroups$Insert", T_I, 4, "ShardGroups$Insert", rfl, by decide, in_I, w539, Or.inl rfl⟩
theorem p_I_20_I : aPl "ShardGroups$Insert" 20 9 1 .int true := ⟨"ShardGroups$Insert", T_I, 4, "ShardGroups$Insert", tt_I, rfl, by decide, in_I, w539, Or.inl rfl, ty_I, nm_I, rfl, rfl, fun _ => rfl⟩
theorem f_I_24_I : aFl "ShardGroups$Insert" 24 9 2 := ⟨"ShardGroups$Insert", T_I, 4, "ShardGroups$Insert", rfl, by decide, in_I, w540, Or.inl rfl⟩
theorem p_I_24_I : aPl "ShardGroups$Insert" 24 9 2 .int true := ⟨"ShardGroups$Insert", T_I, 4, "ShardGroups$Insert", tt_I, rfl, by decide, in_I, w540, Or.inl rfl, ty_I, nm_I, rfl, rfl, fun _ => rfl⟩
theorem f_I_14_I : aFl "ShardGroups$Insert" 14 9 3 := ⟨"ShardGroups$Insert", T_I, 4, "ShardGroups$Insert", rfl, by decide, in_I, w541, Or.inl rfl⟩
theorem p_I_14_I : aPl "ShardGroups$Insert" 14 9 3 (.object "ShardGroups$Shard") true := ⟨"ShardGroups$Insert", T_I, 4, "ShardGroups$Insert", tt_I, rfl, by decide, in_I, w541, Or.inl rfl, ty_I, nm_I, rfl, rfl, fun _ => rfl⟩
theorem f_D_9_D : aFl "ShardGroups$Delete" 9 10 1 := ⟨"ShardGroups$Delete", T_D, 3, "ShardGroups$Delete", rfl, by decide, in_D, w564, Or.inl rfl⟩
theorem p_D_9_D : aPl "ShardGroups$Delete" 9 10 1 .int true := ⟨"ShardGroups$Delete", T_D, 3, "ShardGroups$Delete", tt_D, rfl, by decide, in_D, w564, Or.inl rfl, ty_D, nm_D, rfl, rfl, fun _ => rfl⟩
theorem f_D_15_D : aFl "ShardGroups$Delete" 15 10 2 := ⟨"ShardGroups$Delete", T_D, 3, "ShardGroups$Delete", rfl, by decide, in_D, w565, Or.inl rfl⟩
theorem p_D_15_D : aPl "ShardGroups$Delete" 15 10 2 .int true := ⟨"ShardGroups$Delete", T_D, 3, "ShardGroups$Delete", tt_D, rfl, by decide, in_D, w565, Or.inl rfl, ty_D, nm_D, rfl, rfl, fun _ => rfl⟩
theorem f_M_7_M : aFl "ShardGroupsModel" 7 11 0 := ⟨"ShardGroupsModel", T_M, 14, "ShardGroupsModel", rfl, by decide, in_M, w633, Or.inl rfl⟩
theorem p_M_7_M : aPl "ShardGroupsModel" 7 11 0 (.array .boolean) true := ⟨"ShardGroupsModel", T_M, 14, "ShardGroupsModel", tt_M, rfl, by decide, in_M, w633, Or.inl rfl, ty_M, nm_M, rfl, rfl, fun _ => rfl⟩
theorem f_M_13_M : aFl "ShardGroupsModel" 13 11 1 := ⟨"ShardGroupsModel", T_M, 14, "ShardGroupsModel", rfl, by decide, in_M, w634, Or.inl rfl⟩
theorem p_M_13_M : aPl "ShardGroupsModel" 13 11 1 (.array .boolean) true := ⟨"ShardGroupsModel", T_M, 14, "ShardGroupsModel", tt_M, rfl, by decide, in_M, w634, Or.inl rfl, ty_M, nm_M, rfl, rfl, fun _ => rfl⟩
theorem f_M_16_M : aFl "ShardGroupsModel" 16 11 2 := ⟨"ShardGroupsModel", T_M, 14, "ShardGroupsModel", rfl, by decide, in_M, w635, Or.inl rfl⟩
theorem p_M_16_M : aPl "ShardGroupsModel" 16 11 2 (.array .int) true := ⟨"ShardGroupsModel", T_M, 14, "ShardGroupsModel", tt_M, rfl, by decide, in_M, w635, Or.inl rfl, ty_M, nm_M, rfl, rfl, fun _ => rfl⟩
theorem f_M_20_M : aFl "ShardGroupsModel" 20 11 3 := ⟨"ShardGroupsModel", T_M, 14, "ShardGroupsModel", rfl, by decide, in_M, w636, Or.inl rfl⟩
theorem p_M_20_M : aPl "ShardGroupsModel" 20 11 3 (.array .int) true := ⟨"ShardGroupsModel", T_M, 14, "ShardGroupsModel", tt_M, rfl, by decide, in_M, w636, Or.inl rfl, ty_M, nm_M, rfl, rfl, fun _ => rfl⟩
theorem f_M_23_M : aFl "ShardGroupsModel" 23 11 4 := ⟨"ShardGroupsModel", T_M, 14, "ShardGroupsModel", rfl, by decide, in_M, w637, Or.inl rfl⟩
theorem p_M_23_M : aPl "ShardGroupsModel" 23 11 4 (.array .int) true := ⟨"ShardGroupsModel", T_M, 14, "ShardGroupsModel", tt_M, rfl, by decide, in_M, w637, Or.inl rfl, ty_M, nm_M, rfl, rfl, fun _ => rfl⟩
theorem f_M_26_M : aFl "ShardGroupsModel" 26 11 5 := ⟨"ShardGroupsModel", T_M, 14, "ShardGroupsModel", rfl, by decide, in_M, w638, Or.inl rfl⟩
theorem p_M_26_M : aPl "ShardGroupsModel" 26 11 5 (.array .int) true := ⟨"ShardGroupsModel", T_M, 14, "ShardGroupsModel", tt_M, rfl, by decide, in_M, w638, Or.inl rfl, ty_M, nm_M, rfl, rfl, fun _ => rfl⟩
theorem f_M_29_M : aFl "ShardGroupsModel" 29 11 6 := ⟨"ShardGroupsModel", T_M, 14, "ShardGroupsModel", rfl, by decide, in_M, w639, Or.inl rfl⟩
theorem p_M_29_M : aPl "ShardGroupsModel" 29 11 6 (.array .int) true := ⟨"ShardGroupsModel", T_M, 14, "ShardGroupsModel", tt_M, rfl, by decide, in_M, w639, Or.inl rfl, ty_M, nm_M, rfl, rfl, fun _ => rfl⟩
theorem f_M_83_M : aFl "ShardGroupsModel" 83 11 7 := ⟨"ShardGroupsModel", T_M, 14, "ShardGroupsModel", rfl, by decide, in_M, w640, Or.inl rfl⟩
theorem p_M_83_M : aPl "ShardGroupsModel" 83 11 7 .int false := ⟨"ShardGroupsModel", T_M, 14, "ShardGroupsModel", tt_M, rfl, by decide, in_M, w640, Or.inl rfl, ty_M, nm_M, rfl, rfl, fun h => by cases h⟩
theorem f_M_32_M : aFl "ShardGroupsModel" 32 11 8 := ⟨"ShardGroupsModel", T_M, 14, "ShardGroupsModel", rfl, by decide, in_M, w641, Or.inl rfl⟩
theorem p_M_32_M : aPl "ShardGroupsModel" 32 11 8 (.array .int) true := ⟨"ShardGroupsModel", T_M, 14, "ShardGroupsModel", tt_M, rfl, by decide, in_M, w641, Or.inl rfl, ty_M, nm_M, rfl, rfl, fun _ => rfl⟩
theorem f_M_35_M : aFl "ShardGroupsModel" 35 11 9 := ⟨"ShardGroupsModel", T_M, 14, "ShardGroupsModel", rfl, by decide, in_M, w642, Or.inl rfl⟩
theorem p_M_35_M : aPl "ShardGroupsModel" 35 11 9 (.array .int) true := ⟨"ShardGroupsModel", T_M, 14, "ShardGroupsModel", tt_M, rfl, by decide, in_M, w642, Or.inl rfl, ty_M, nm_M, rfl, rfl, fun _ => rfl⟩
theorem f_M_99_M : aFl "ShardGroupsModel" 99 11 10 := ⟨"ShardGroupsModel", T_M, 14, "ShardGroupsModel", rfl, by decide, in_M, w643, Or.inl rfl⟩
theorem p_M_99_M : aPl "ShardGroupsModel" 99 11 10 .int false := ⟨"ShardGroupsModel", T_M, 14, "ShardGroupsModel", tt_M, rfl, by decide, in_M, w643, Or.inl rfl, ty_M, nm_M, rfl, rfl, fun h => by cases h⟩
theorem f_M_38_M : aFl "ShardGroupsModel" 38 11 11 := ⟨"ShardGroupsModel", T_M, 14, "ShardGroupsModel", rfl, by decide, in_M, w644, Or.inl rfl⟩
theorem p_M_38_M : aPl "ShardGroupsModel" 38 11 11 (.array .int) true := ⟨"ShardGroupsModel", T_M, 14, "ShardGroupsModel", tt_M, rfl, by decide, in_M, w644, Or.inl rfl, ty_M, nm_M, rfl, rfl, fun _ => rfl⟩
theorem f_M_41_M : aFl "ShardGroupsModel" 41 11 12 := ⟨"ShardGroupsModel", T_M, 14, "ShardGroupsModel", rfl, by decide, in_M, w645, Or.inl rfl⟩
theorem p_M_41_M : aPl "ShardGroupsModel" 41 11 12 (.array .int) true := ⟨"ShardGroupsModel", T_M, 14, "ShardGroupsModel", tt_M, rfl, by decide, in_M, w645, Or.inl rfl, ty_M, nm_M, rfl, rfl, fun _ => rfl⟩
theorem f_M_44_M : aFl "ShardGroupsModel" 44 11 13 := ⟨"ShardGroupsModel", T_M, 14, "ShardGroupsModel", rfl, by decide, in_M, w646, Or.inl rfl⟩
theorem p_M_44_M : aPl "ShardGroupsModel" 44 11 13 (.array .int) true := ⟨"ShardGroupsModel", T_M, 14, "ShardGroupsModel", tt_M, rfl, by decide, in_M, w646, Or.inl rfl, ty_M, nm_M, rfl, rfl, fun _ => rfl⟩
theorem n_L_7 : aNl "ShardGroupsLaw" 7 0 3 := ⟨"ShardGroups", T_S, tt_S, rfl, in_S, ty_S, w16, w17, w1, by decide +kernel⟩
theorem n_S_15 : aNl "ShardGroups" 15 2 8 := ⟨"ShardGroups$ServiceNode", T_V, tt_V, rfl, in_V, ty_V, w26, w51, w4, by decide +kernel⟩
theorem n_S_21 : aNl "ShardGroups" 21 3 10 := ⟨"ShardGroups$StoreNode", T_T, tt_T, rfl, in_T, ty_T, w28, w109, w5, by decide +kernel⟩
theorem n_S_27 : aNl "ShardGroups" 27 1 3 := ⟨"ShardGroups$Configuration", T_C, tt_C, rfl, in_C, ty_C, w30, w31, w2, by decide +kernel⟩
theorem n_T_9 : aNl "ShardGroups$StoreNode" 9 4 4 := ⟨"ShardGroups$Shard", T_H, tt_H, rfl, in_H, ty_H, w117, w119, w6, by decide +kernel⟩
theorem n_S_68 : aNl "ShardGroups" 68 5 1 := ⟨"ShardGroups$Entry", T_E, tt_E, rfl, in_E, ty_E, w233, w234, w9, by decide +kernel⟩
theorem n_G_38 : aNl "ShardGroups$Change" 38 1 3 := ⟨"ShardGroups$Configuration", T_C, tt_C, rfl, in_C, ty_C, w317, w31, w2, by decide +kernel⟩
theorem n_S_106 : aNl "ShardGroups" 106 6 4 := ⟨"ShardGroups$Change", T_G, tt_G, rfl, in_G, ty_G, w439, w311, w11, by decide +kernel⟩
theorem n_S_125 : aNl "ShardGroups" 125 8 6 := ⟨"ShardGroups$Request", T_R, tt_R, rfl, in_R, ty_R, w477, w478, w12, by decide +kernel⟩
theorem n_S_142 : aNl "ShardGroups" 142 7 3 := ⟨"ShardGroups$Configure", T_F, tt_F, rfl, in_F, ty_F, w513, w514, w13, by decide +kernel⟩
theorem n_S_163 : aNl "ShardGroups" 163 9 4 := ⟨"ShardGroups$Insert", T_I, tt_I, rfl, in_I, ty_I, w531, w532, w14, by decide +kernel⟩
theorem n_I_9 : aNl "ShardGroups$Insert" 9 4 4 := ⟨"ShardGroups$Shard", T_H, tt_H, rfl, in_H, ty_H, w537, w119, w6, by decide +kernel⟩
theorem n_S_183 : aNl "ShardGroups" 183 10 3 := ⟨"ShardGroups$Delete", T_D, tt_D, rfl, in_D, ty_D, w558, w559, w15, by decide +kernel⟩
theorem n_L_10 : aNl "ShardGroupsLaw" 10 11 14 := ⟨"ShardGroupsModel", T_M, tt_M, rfl, in_M, ty_M, w627, w628, w7, by decide +kernel⟩
theorem y_S_init : aNm ⟨"ShardGroups", "<init>", "()V"⟩ 0 := by unfold aNm; decide +kernel
theorem y_C_init : aNm ⟨"ShardGroups$Configuration", "<init>", "()V"⟩ 0 := by unfold aNm; decide +kernel
theorem y_V_init : aNm ⟨"ShardGroups$ServiceNode", "<init>", "(LShardGroups$Configuration;)V"⟩ 1 := by unfold aNm; decide +kernel
theorem y_N_init : aNm ⟨"ShardGroups$Node", "<init>", "()V"⟩ 0 := by unfold aNm; decide +kernel
theorem y_S_groupOf : aNm ⟨"ShardGroups", "groupOf", "(I)I"⟩ 1 := by unfold aNm; decide +kernel
theorem y_T_init : aNm ⟨"ShardGroups$StoreNode", "<init>", "(ILShardGroups$Configuration;)V"⟩ 2 := by unfold aNm; decide +kernel
theorem y_H_init : aNm ⟨"ShardGroups$Shard", "<init>", "()V"⟩ 0 := by unfold aNm; decide +kernel
theorem y_S_crash : aNm ⟨"ShardGroups", "crash", "(I)Z"⟩ 1 := by unfold aNm; decide +kernel
theorem y_S_upNode : aNm ⟨"ShardGroups", "upNode", "(I)LShardGroups$Node;"⟩ 1 := by unfold aNm; decide +kernel
theorem y_S_anyNode : aNm ⟨"ShardGroups", "anyNode", "(I)LShardGroups$Node;"⟩ 1 := by unfold aNm; decide +kernel
theorem y_S_recover : aNm ⟨"ShardGroups", "recover", "(I)Z"⟩ 1 := by unfold aNm; decide +kernel
theorem y_S_elect : aNm ⟨"ShardGroups", "elect", "(I)I"⟩ 1 := by unfold aNm; decide +kernel
theorem y_J_floorMod : aNm ⟨"java/lang/Math", "floorMod", "(II)I"⟩ 2 := by unfold aNm; decide +kernel
theorem y_S_countGrants : aNm ⟨"ShardGroups", "countGrants", "(LShardGroups$Node;II)I"⟩ 3 := by unfold aNm; decide +kernel
theorem y_N_grants : aNm ⟨"ShardGroups$Node", "grants", "(LShardGroups$Node;I)Z"⟩ 2 := by unfold aNm; decide +kernel
theorem y_N_isBehind : aNm ⟨"ShardGroups$Node", "isBehind", "(LShardGroups$Node;)Z"⟩ 1 := by unfold aNm; decide +kernel
theorem y_N_lastTerm : aNm ⟨"ShardGroups$Node", "lastTerm", "()I"⟩ 0 := by unfold aNm; decide +kernel
theorem y_N_takeTerm : aNm ⟨"ShardGroups$Node", "takeTerm", "(I)V"⟩ 1 := by unfold aNm; decide +kernel
theorem y_E_init : aNm ⟨"ShardGroups$Entry", "<init>", "(I)V"⟩ 1 := by unfold aNm; decide +kernel
theorem y_N_write : aNm ⟨"ShardGroups$Node", "write", "(LShardGroups$Entry;)I"⟩ 1 := by unfold aNm; decide +kernel
theorem y_S_ship : aNm ⟨"ShardGroups", "ship", "(II)I"⟩ 2 := by unfold aNm; decide +kernel
theorem y_N_copyNextFrom : aNm ⟨"ShardGroups$Node", "copyNextFrom", "(LShardGroups$Node;)V"⟩ 1 := by unfold aNm; decide +kernel
theorem y_N_countSame : aNm ⟨"ShardGroups$Node", "countSame", "(LShardGroups$Node;)I"⟩ 1 := by unfold aNm; decide +kernel
theorem y_J_min : aNm ⟨"java/lang/Math", "min", "(II)I"⟩ 2 := by unfold aNm; decide +kernel
theorem y_S_countAgreed : aNm ⟨"ShardGroups", "countAgreed", "(LShardGroups$Node;I)I"⟩ 2 := by unfold aNm; decide +kernel
theorem y_N_hasEntry : aNm ⟨"ShardGroups$Node", "hasEntry", "(II)Z"⟩ 2 := by unfold aNm; decide +kernel
theorem y_S_countCopies : aNm ⟨"ShardGroups", "countCopies", "(III)I"⟩ 3 := by unfold aNm; decide +kernel
theorem y_N_learn : aNm ⟨"ShardGroups$Node", "learn", "(I)V"⟩ 1 := by unfold aNm; decide +kernel
theorem y_V_carryOut : aNm ⟨"ShardGroups$ServiceNode", "carryOut", "(LShardGroups$Entry;)V"⟩ 1 := by unfold aNm; decide +kernel
theorem y_G_changeService : aNm ⟨"ShardGroups$Change", "changeService", "(LShardGroups$ServiceNode;)V"⟩ 1 := by unfold aNm; decide +kernel
theorem y_V_isComplete : aNm ⟨"ShardGroups$ServiceNode", "isComplete", "()Z"⟩ 0 := by unfold aNm; decide +kernel
theorem y_G_isAllowed : aNm ⟨"ShardGroups$Change", "isAllowed", "(LShardGroups$Configuration;)Z"⟩ 1 := by unfold aNm; decide +kernel
theorem y_C_countMembers : aNm ⟨"ShardGroups$Configuration", "countMembers", "()I"⟩ 0 := by unfold aNm; decide +kernel
theorem y_C_init2 : aNm ⟨"ShardGroups$Configuration", "<init>", "(LShardGroups$Configuration;)V"⟩ 1 := by unfold aNm; decide +kernel
theorem y_C_join : aNm ⟨"ShardGroups$Configuration", "join", "(I)V"⟩ 1 := by unfold aNm; decide +kernel
theorem y_C_give : aNm ⟨"ShardGroups$Configuration", "give", "(II)V"⟩ 2 := by unfold aNm; decide +kernel
theorem y_C_balance : aNm ⟨"ShardGroups$Configuration", "balance", "()V"⟩ 0 := by unfold aNm; decide +kernel
theorem y_C_most : aNm ⟨"ShardGroups$Configuration", "most", "()I"⟩ 0 := by unfold aNm; decide +kernel
theorem y_C_fewest : aNm ⟨"ShardGroups$Configuration", "fewest", "()I"⟩ 0 := by unfold aNm; decide +kernel
theorem y_C_leastShardOf : aNm ⟨"ShardGroups$Configuration", "leastShardOf", "(I)I"⟩ 1 := by unfold aNm; decide +kernel
theorem y_C_leave : aNm ⟨"ShardGroups$Configuration", "leave", "(I)V"⟩ 1 := by unfold aNm; decide +kernel
theorem y_V_add : aNm ⟨"ShardGroups$ServiceNode", "add", "(LShardGroups$Configuration;)V"⟩ 1 := by unfold aNm; decide +kernel
theorem y_E_changeService : aNm ⟨"ShardGroups$Entry", "changeService", "(LShardGroups$ServiceNode;)V"⟩ 1 := by unfold aNm; decide +kernel
theorem y_T_carryOut : aNm ⟨"ShardGroups$StoreNode", "carryOut", "(LShardGroups$Entry;)V"⟩ 1 := by unfold aNm; decide +kernel
theorem y_F_changeStore : aNm ⟨"ShardGroups$Configure", "changeStore", "(LShardGroups$StoreNode;)V"⟩ 1 := by unfold aNm; decide +kernel
theorem y_T_adopt : aNm ⟨"ShardGroups$StoreNode", "adopt", "(ILShardGroups$Configuration;)V"⟩ 2 := by unfold aNm; decide +kernel
theorem y_T_isSettled : aNm ⟨"ShardGroups$StoreNode", "isSettled", "()Z"⟩ 0 := by unfold aNm; decide +kernel
theorem y_T_handOver : aNm ⟨"ShardGroups$StoreNode", "handOver", "(LShardGroups$Shard;II)V"⟩ 3 := by unfold aNm; decide +kernel
theorem y_H_clear : aNm ⟨"ShardGroups$Shard", "clear", "()V"⟩ 0 := by unfold aNm; decide +kernel
theorem y_D_changeStore : aNm ⟨"ShardGroups$Delete", "changeStore", "(LShardGroups$StoreNode;)V"⟩ 1 := by unfold aNm; decide +kernel
theorem y_I_changeStore : aNm ⟨"ShardGroups$Insert", "changeStore", "(LShardGroups$StoreNode;)V"⟩ 1 := by unfold aNm; decide +kernel
theorem y_H_copyContents : aNm ⟨"ShardGroups$Shard", "copyContents", "(LShardGroups$Shard;)V"⟩ 1 := by unfold aNm; decide +kernel
theorem y_R_changeStore : aNm ⟨"ShardGroups$Request", "changeStore", "(LShardGroups$StoreNode;)V"⟩ 1 := by unfold aNm; decide +kernel
theorem y_S_shardOf : aNm ⟨"ShardGroups", "shardOf", "(I)I"⟩ 1 := by unfold aNm; decide +kernel
theorem y_H_serve : aNm ⟨"ShardGroups$Shard", "serve", "(LShardGroups$Request;)V"⟩ 1 := by unfold aNm; decide +kernel
theorem y_S_placeInShard : aNm ⟨"ShardGroups", "placeInShard", "(I)I"⟩ 1 := by unfold aNm; decide +kernel
theorem y_E_changeStore : aNm ⟨"ShardGroups$Entry", "changeStore", "(LShardGroups$StoreNode;)V"⟩ 1 := by unfold aNm; decide +kernel
theorem y_J_max : aNm ⟨"java/lang/Math", "max", "(II)I"⟩ 2 := by unfold aNm; decide +kernel
theorem y_S_change : aNm ⟨"ShardGroups", "change", "(IIII)I"⟩ 4 := by unfold aNm; decide +kernel
theorem y_S_upService : aNm ⟨"ShardGroups", "upService", "(I)LShardGroups$ServiceNode;"⟩ 1 := by unfold aNm; decide +kernel
theorem y_S_anyService : aNm ⟨"ShardGroups", "anyService", "(I)LShardGroups$ServiceNode;"⟩ 1 := by unfold aNm; decide +kernel
theorem y_S_isChange : aNm ⟨"ShardGroups", "isChange", "(III)Z"⟩ 3 := by unfold aNm; decide +kernel
theorem y_S_isShard : aNm ⟨"ShardGroups", "isShard", "(I)Z"⟩ 1 := by unfold aNm; decide +kernel
theorem y_S_isOwningGroup : aNm ⟨"ShardGroups", "isOwningGroup", "(I)Z"⟩ 1 := by unfold aNm; decide +kernel
theorem y_G_init : aNm ⟨"ShardGroups$Change", "<init>", "(IIII)V"⟩ 4 := by unfold aNm; decide +kernel
theorem y_S_request : aNm ⟨"ShardGroups", "request", "(IIIIII)I"⟩ 6 := by unfold aNm; decide +kernel
theorem y_S_upStore : aNm ⟨"ShardGroups", "upStore", "(I)LShardGroups$StoreNode;"⟩ 1 := by unfold aNm; decide +kernel
theorem y_S_anyStore : aNm ⟨"ShardGroups", "anyStore", "(I)LShardGroups$StoreNode;"⟩ 1 := by unfold aNm; decide +kernel
theorem y_S_isClient : aNm ⟨"ShardGroups", "isClient", "(I)Z"⟩ 1 := by unfold aNm; decide +kernel
theorem y_S_isKey : aNm ⟨"ShardGroups", "isKey", "(I)Z"⟩ 1 := by unfold aNm; decide +kernel
theorem y_R_init : aNm ⟨"ShardGroups$Request", "<init>", "(IIIIII)V"⟩ 6 := by unfold aNm; decide +kernel
theorem y_S_poll : aNm ⟨"ShardGroups", "poll", "(II)I"⟩ 2 := by unfold aNm; decide +kernel
theorem y_F_init : aNm ⟨"ShardGroups$Configure", "<init>", "(IILShardGroups$Configuration;)V"⟩ 3 := by unfold aNm; decide +kernel
theorem y_S_pull : aNm ⟨"ShardGroups", "pull", "(III)I"⟩ 3 := by unfold aNm; decide +kernel
theorem y_I_init : aNm ⟨"ShardGroups$Insert", "<init>", "(IIILShardGroups$Shard;)V"⟩ 4 := by unfold aNm; decide +kernel
theorem y_S_confirm : aNm ⟨"ShardGroups", "confirm", "(III)I"⟩ 3 := by unfold aNm; decide +kernel
theorem y_T_hasReceived : aNm ⟨"ShardGroups$StoreNode", "hasReceived", "(II)Z"⟩ 2 := by unfold aNm; decide +kernel
theorem y_D_init : aNm ⟨"ShardGroups$Delete", "<init>", "(III)V"⟩ 3 := by unfold aNm; decide +kernel
theorem y_S_length : aNm ⟨"ShardGroups", "length", "(I)I"⟩ 1 := by unfold aNm; decide +kernel
theorem y_S_known : aNm ⟨"ShardGroups", "known", "(I)I"⟩ 1 := by unfold aNm; decide +kernel
theorem y_S_term : aNm ⟨"ShardGroups", "term", "(I)I"⟩ 1 := by unfold aNm; decide +kernel
theorem y_S_configuration : aNm ⟨"ShardGroups", "configuration", "(I)I"⟩ 1 := by unfold aNm; decide +kernel
theorem y_V_lastNumber : aNm ⟨"ShardGroups$ServiceNode", "lastNumber", "()I"⟩ 0 := by unfold aNm; decide +kernel
theorem y_T_lastNumber : aNm ⟨"ShardGroups$StoreNode", "lastNumber", "()I"⟩ 0 := by unfold aNm; decide +kernel
theorem y_S_owner : aNm ⟨"ShardGroups", "owner", "(III)I"⟩ 3 := by unfold aNm; decide +kernel
theorem y_S_condition : aNm ⟨"ShardGroups", "condition", "(II)I"⟩ 2 := by unfold aNm; decide +kernel
theorem y_S_value : aNm ⟨"ShardGroups", "value", "(II)I"⟩ 2 := by unfold aNm; decide +kernel
theorem y_S_heldShard : aNm ⟨"ShardGroups", "heldShard", "(II)LShardGroups$Shard;"⟩ 2 := by unfold aNm; decide +kernel
theorem y_H_hasContents : aNm ⟨"ShardGroups$Shard", "hasContents", "()Z"⟩ 0 := by unfold aNm; decide +kernel
theorem y_S_latest : aNm ⟨"ShardGroups", "latest", "(III)I"⟩ 3 := by unfold aNm; decide +kernel
theorem y_S_answer : aNm ⟨"ShardGroups", "answer", "(III)I"⟩ 3 := by unfold aNm; decide +kernel
theorem y_M_init : aNm ⟨"ShardGroupsModel", "<init>", "()V"⟩ 0 := by unfold aNm; decide +kernel
theorem y_M_crash : aNm ⟨"ShardGroupsModel", "crash", "(I)Z"⟩ 1 := by unfold aNm; decide +kernel
theorem y_M_below : aNm ⟨"ShardGroupsModel", "below", "(II)Z"⟩ 2 := by unfold aNm; decide +kernel
theorem y_M_recover : aNm ⟨"ShardGroupsModel", "recover", "(I)Z"⟩ 1 := by unfold aNm; decide +kernel
theorem y_M_elect : aNm ⟨"ShardGroupsModel", "elect", "(I)I"⟩ 1 := by unfold aNm; decide +kernel
theorem y_M_lastTerm : aNm ⟨"ShardGroupsModel", "lastTerm", "(I)I"⟩ 1 := by unfold aNm; decide +kernel
theorem y_M_termAt : aNm ⟨"ShardGroupsModel", "termAt", "(II)I"⟩ 2 := by unfold aNm; decide +kernel
theorem y_M_place : aNm ⟨"ShardGroupsModel", "place", "(II)I"⟩ 2 := by unfold aNm; decide +kernel
theorem y_M_raise : aNm ⟨"ShardGroupsModel", "raise", "(II)V"⟩ 2 := by unfold aNm; decide +kernel
theorem y_M_say : aNm ⟨"ShardGroupsModel", "say", "(IIIIII)V"⟩ 6 := by unfold aNm; decide +kernel
theorem y_M_write : aNm ⟨"ShardGroupsModel", "write", "(I)I"⟩ 1 := by unfold aNm; decide +kernel
theorem y_M_ship : aNm ⟨"ShardGroupsModel", "ship", "(II)I"⟩ 2 := by unfold aNm; decide +kernel
theorem y_M_copies : aNm ⟨"ShardGroupsModel", "copies", "(II)I"⟩ 2 := by unfold aNm; decide +kernel
theorem y_M_change : aNm ⟨"ShardGroupsModel", "change", "(IIII)I"⟩ 4 := by unfold aNm; decide +kernel
theorem y_M_noServer : aNm ⟨"ShardGroupsModel", "noServer", "(I)Z"⟩ 1 := by unfold aNm; decide +kernel
theorem y_M_request : aNm ⟨"ShardGroupsModel", "request", "(IIIIII)I"⟩ 6 := by unfold aNm; decide +kernel
theorem y_M_noGroupNode : aNm ⟨"ShardGroupsModel", "noGroupNode", "(I)Z"⟩ 1 := by unfold aNm; decide +kernel
theorem y_M_poll : aNm ⟨"ShardGroupsModel", "poll", "(II)I"⟩ 2 := by unfold aNm; decide +kernel
theorem y_M_group : aNm ⟨"ShardGroupsModel", "group", "(I)V"⟩ 1 := by unfold aNm; decide +kernel
theorem y_M_configure : aNm ⟨"ShardGroupsModel", "configure", "(II)V"⟩ 2 := by unfold aNm; decide +kernel
theorem y_M_settled : aNm ⟨"ShardGroupsModel", "settled", "()Z"⟩ 0 := by unfold aNm; decide +kernel
theorem y_M_effect : aNm ⟨"ShardGroupsModel", "effect", "(I)V"⟩ 1 := by unfold aNm; decide +kernel
theorem y_M_service : aNm ⟨"ShardGroupsModel", "service", "(I)V"⟩ 1 := by unfold aNm; decide +kernel
theorem y_M_alter : aNm ⟨"ShardGroupsModel", "alter", "(III)V"⟩ 3 := by unfold aNm; decide +kernel
theorem y_M_extreme : aNm ⟨"ShardGroupsModel", "extreme", "(IZ)I"⟩ 2 := by unfold aNm; decide +kernel
theorem y_M_owned : aNm ⟨"ShardGroupsModel", "owned", "(II)I"⟩ 2 := by unfold aNm; decide +kernel
theorem y_M_balance : aNm ⟨"ShardGroupsModel", "balance", "(I)V"⟩ 1 := by unfold aNm; decide +kernel
theorem y_M_pull : aNm ⟨"ShardGroupsModel", "pull", "(III)I"⟩ 3 := by unfold aNm; decide +kernel
theorem y_M_confirm : aNm ⟨"ShardGroupsModel", "confirm", "(III)I"⟩ 3 := by unfold aNm; decide +kernel
theorem y_M_length : aNm ⟨"ShardGroupsModel", "length", "(I)I"⟩ 1 := by unfold aNm; decide +kernel
theorem y_M_known : aNm ⟨"ShardGroupsModel", "known", "(I)I"⟩ 1 := by unfold aNm; decide +kernel
theorem y_M_term : aNm ⟨"ShardGroupsModel", "term", "(I)I"⟩ 1 := by unfold aNm; decide +kernel
theorem y_M_configuration : aNm ⟨"ShardGroupsModel", "configuration", "(I)I"⟩ 1 := by unfold aNm; decide +kernel
theorem y_M_owner : aNm ⟨"ShardGroupsModel", "owner", "(III)I"⟩ 3 := by unfold aNm; decide +kernel
theorem y_M_condition : aNm ⟨"ShardGroupsModel", "condition", "(II)I"⟩ 2 := by unfold aNm; decide +kernel
theorem y_M_value : aNm ⟨"ShardGroupsModel", "value", "(II)I"⟩ 2 := by unfold aNm; decide +kernel
theorem y_M_has : aNm ⟨"ShardGroupsModel", "has", "(II)Z"⟩ 2 := by unfold aNm; decide +kernel
theorem y_M_latest : aNm ⟨"ShardGroupsModel", "latest", "(III)I"⟩ 3 := by unfold aNm; decide +kernel
theorem y_M_answer : aNm ⟨"ShardGroupsModel", "answer", "(III)I"⟩ 3 := by unfold aNm; decide +kernel
theorem y_L_law : aNm ⟨"ShardGroupsLaw", "law", "([I)Z"⟩ 1 := by unfold aNm; decide +kernel
