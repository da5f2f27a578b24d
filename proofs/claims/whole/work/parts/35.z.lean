theorem y_N_carryOut : aNm ⟨"ShardGroups$Node", "carryOut", "(LShardGroups$Entry;)V"⟩ 1 := by unfold aNm; decide +kernel
theorem y_N_lastNumber : aNm ⟨"ShardGroups$Node", "lastNumber", "()I"⟩ 0 := by unfold aNm; decide +kernel
