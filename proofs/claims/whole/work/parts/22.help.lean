def bP (p : Prop) [Decidable p] : Int32 := if p then 1 else 0
theorem bP_t {p : Prop} [Decidable p] (h : p) : bP p = 1 := if_pos h
theorem bP_f {p : Prop} [Decidable p] (h : ¬ p) : bP p = 0 := if_neg h
theorem nI_0' {n : Nat} (hn : n < 2 ^ 31) : nI n = 0 ↔ n = 0 := nI_eq (b := 0) hn (by decide)
theorem i_sub {x : Int32} {a b : Nat} (h : x = nI a) (hb : b ≤ a) : x - nI b = nI (a - b) := by rw [h]; exact pk_sub hb
theorem i_lt0 {x : Int32} : x < 0 ↔ x.toInt < 0 := Int32.lt_iff_toInt_lt
theorem re_0 {ci : Nat} (h5 : 5 ≤ ci) (h6 : ci ≤ 10) : aRf ci 0 = false := by
  rcases (by omega : ci = 5 ∨ ci = 6 ∨ ci = 7 ∨ ci = 8 ∨ ci = 9 ∨ ci = 10) with rfl | rfl | rfl | rfl | rfl | rfl <;> rfl

theorem fe_N_43 {ci : Nat} (h5 : 5 ≤ ci) (h6 : ci ≤ 10) : aFl "ShardGroups$Node" 43 ci 0 := by
  rcases (by omega : ci = 5 ∨ ci = 6 ∨ ci = 7 ∨ ci = 8 ∨ ci = 9 ∨ ci = 10) with rfl | rfl | rfl | rfl | rfl | rfl
  · exact f_N_43_E
  · exact f_N_43_G
  · exact f_N_43_F
  · exact f_N_43_R
  · exact f_N_43_I
  · exact f_N_43_D
set_option maxRecDepth 20000 in
set_option maxHeartbeats 1000000 in
theorem k_groupOf (M : aM) (x : Int32) : aK m_S_groupOf 0 0 0 M [.int x] (fun M1 r => M1 = M ∧ r = some (.int (x / 3))) := by
  refine aK.of (by decide) (Nat.le_of_ble_eq_true rfl) ?_
  refine j_iload_n d_S_groupOf_0 rfl ?_
  refine j_iconst (v := 3) d_S_groupOf_1 (by decide) ?_
  refine j_idiv d_S_groupOf_2 (by decide) ?_
  refine j_ireturn d_S_groupOf_3 rfl rfl ?_ (by decide) (by decide)
  exact ⟨rfl, rfl⟩
set_option maxRecDepth 20000 in
set_option maxHeartbeats 1000000 in
theorem k_shardOf (M : aM) (x : Int32) : aK m_S_shardOf 0 0 0 M [.int x] (fun M1 r => M1 = M ∧ r = some (.int (x - x / 8 * 8))) := by
  refine aK.of (by decide) (Nat.le_of_ble_eq_true rfl) ?_
  refine j_iload_n d_S_shardOf_0 rfl ?_
  refine j_bipush (v := 8) d_S_shardOf_1 (by decide) ?_
  refine j_irem d_S_shardOf_3 (by decide) ?_
  refine j_ireturn d_S_shardOf_4 rfl rfl ?_ (by decide) (by decide)
  exact ⟨rfl, rfl⟩
set_option maxRecDepth 20000 in
set_option maxHeartbeats 1000000 in
theorem k_placeInShard (M : aM) (x : Int32) : aK m_S_placeInShard 0 0 0 M [.int x] (fun M1 r => M1 = M ∧ r = some (.int (x / 8))) := by
  refine aK.of (by decide) (Nat.le_of_ble_eq_true rfl) ?_
  refine j_iload_n d_S_placeInShard_0 rfl ?_
  refine j_bipush (v := 8) d_S_placeInShard_1 (by decide) ?_
  refine j_idiv d_S_placeInShard_3 (by decide) ?_
  refine j_ireturn d_S_placeInShard_4 rfl rfl ?_ (by decide) (by decide)
  exact ⟨rfl, rfl⟩
set_option maxRecDepth 20000 in
set_option maxHeartbeats 1000000 in
theorem k_isShard (M : aM) (x : Int32) : aK m_S_isShard 0 0 0 M [.int x] (fun M1 r => M1 = M ∧ r = some (.int (bP (0 ≤ x ∧ x < 8)))) := by
  refine aK.of (by decide) (Nat.le_of_ble_eq_true rfl) ?_
  refine j_iload_n d_S_isShard_0 rfl ?_
  refine j_if_lt (tgt := 14) d_S_isShard_1 (by decide) (fun h1 => ?_) (fun h1 => ?_)
  · have hb : bP (0 ≤ x ∧ x < 8) = 0 := bP_f (fun q => absurd h1 (Int32.not_lt.mpr q.1))
    refine j_iconst (v := 0) d_S_isShard_14 (by decide) ?_
    refine j_ireturn d_S_isShard_15 rfl rfl ?_ (by decide) (by decide)
    exact ⟨rfl, by rw [hb]⟩
  · refine j_iload_n d_S_isShard_4 rfl ?_
    refine j_bipush (v := 8) d_S_isShard_5 (by decide) ?_
    refine j_icmp_ge (tgt := 14) d_S_isShard_7 (by decide) (fun h7 => ?_) (fun h7 => ?_)
    · have hb : bP (0 ≤ x ∧ x < 8) = 0 := bP_f (fun q => absurd h7 (Int32.not_le.mpr q.2))
      refine j_iconst (v := 0) d_S_isShard_14 (by decide) ?_
      refine j_ireturn d_S_isShard_15 rfl rfl ?_ (by decide) (by decide)
      exact ⟨rfl, by rw [hb]⟩
    · have hb : bP (0 ≤ x ∧ x < 8) = 1 := bP_t ⟨Int32.not_lt.mp h1, Int32.not_le.mp h7⟩
      refine j_iconst (v := 1) d_S_isShard_10 (by decide) ?_
      refine j_goto 15 d_S_isShard_11 (by decide) ?_
      refine j_ireturn d_S_isShard_15 rfl rfl ?_ (by decide) (by decide)
      exact ⟨rfl, by rw [hb]⟩
set_option maxRecDepth 20000 in
set_option maxHeartbeats 1000000 in
theorem k_isKey (M : aM) (x : Int32) : aK m_S_isKey 0 0 0 M [.int x] (fun M1 r => M1 = M ∧ r = some (.int (bP (0 ≤ x ∧ x < 16)))) := by
  refine aK.of (by decide) (Nat.le_of_ble_eq_true rfl) ?_
  refine j_iload_n d_S_isKey_0 rfl ?_
  refine j_if_lt (tgt := 14) d_S_isKey_1 (by decide) (fun h1 => ?_) (fun h1 => ?_)
  · have hb : bP (0 ≤ x ∧ x < 16) = 0 := bP_f (fun q => absurd h1 (Int32.not_lt.mpr q.1))
    refine j_iconst (v := 0) d_S_isKey_14 (by decide) ?_
    refine j_ireturn d_S_isKey_15 rfl rfl ?_ (by decide) (by decide)
    exact ⟨rfl, by rw [hb]⟩
  · refine j_iload_n d_S_isKey_4 rfl ?_
    refine j_bipush (v := 16) d_S_isKey_5 (by decide) ?_
    refine j_icmp_ge (tgt := 14) d_S_isKey_7 (by decide) (fun h7 => ?_) (fun h7 => ?_)
    · have hb : bP (0 ≤ x ∧ x < 16) = 0 := bP_f (fun q => absurd h7 (Int32.not_le.mpr q.2))
      refine j_iconst (v := 0) d_S_isKey_14 (by decide) ?_
      refine j_ireturn d_S_isKey_15 rfl rfl ?_ (by decide) (by decide)
      exact ⟨rfl, by rw [hb]⟩
    · have hb : bP (0 ≤ x ∧ x < 16) = 1 := bP_t ⟨Int32.not_lt.mp h1, Int32.not_le.mp h7⟩
      refine j_iconst (v := 1) d_S_isKey_10 (by decide) ?_
      refine j_goto 15 d_S_isKey_11 (by decide) ?_
      refine j_ireturn d_S_isKey_15 rfl rfl ?_ (by decide) (by decide)
      exact ⟨rfl, by rw [hb]⟩
set_option maxRecDepth 20000 in
set_option maxHeartbeats 1000000 in
theorem k_isClient (M : aM) (x : Int32) : aK m_S_isClient 0 0 0 M [.int x] (fun M1 r => M1 = M ∧ r = some (.int (bP (0 ≤ x ∧ x < 3)))) := by
  refine aK.of (by decide) (Nat.le_of_ble_eq_true rfl) ?_
  refine j_iload_n d_S_isClient_0 rfl ?_
  refine j_if_lt (tgt := 13) d_S_isClient_1 (by decide) (fun h1 => ?_) (fun h1 => ?_)
  · have hb : bP (0 ≤ x ∧ x < 3) = 0 := bP_f (fun q => absurd h1 (Int32.not_lt.mpr q.1))
    refine j_iconst (v := 0) d_S_isClient_13 (by decide) ?_
    refine j_ireturn d_S_isClient_14 rfl rfl ?_ (by decide) (by decide)
    exact ⟨rfl, by rw [hb]⟩
  · refine j_iload_n d_S_isClient_4 rfl ?_
    refine j_iconst (v := 3) d_S_isClient_5 (by decide) ?_
    refine j_icmp_ge (tgt := 13) d_S_isClient_6 (by decide) (fun h6 => ?_) (fun h6 => ?_)
    · have hb : bP (0 ≤ x ∧ x < 3) = 0 := bP_f (fun q => absurd h6 (Int32.not_le.mpr q.2))
      refine j_iconst (v := 0) d_S_isClient_13 (by decide) ?_
      refine j_ireturn d_S_isClient_14 rfl rfl ?_ (by decide) (by decide)
      exact ⟨rfl, by rw [hb]⟩
    · have hb : bP (0 ≤ x ∧ x < 3) = 1 := bP_t ⟨Int32.not_lt.mp h1, Int32.not_le.mp h6⟩
      refine j_iconst (v := 1) d_S_isClient_9 (by decide) ?_
      refine j_goto 14 d_S_isClient_10 (by decide) ?_
      refine j_ireturn d_S_isClient_14 rfl rfl ?_ (by decide) (by decide)
      exact ⟨rfl, by rw [hb]⟩
set_option maxRecDepth 20000 in
set_option maxHeartbeats 1000000 in
theorem k_isOwningGroup (M : aM) (x : Int32) : aK m_S_isOwningGroup 0 0 0 M [.int x] (fun M1 r => M1 = M ∧ r = some (.int (bP (1 ≤ x ∧ x < 4)))) := by
  refine aK.of (by decide) (Nat.le_of_ble_eq_true rfl) ?_
  refine j_iload_n d_S_isOwningGroup_0 rfl ?_
  refine j_iconst (v := 1) d_S_isOwningGroup_1 (by decide) ?_
  refine j_icmp_lt (tgt := 14) d_S_isOwningGroup_2 (by decide) (fun h2 => ?_) (fun h2 => ?_)
  · have hb : bP (1 ≤ x ∧ x < 4) = 0 := bP_f (fun q => absurd h2 (Int32.not_lt.mpr q.1))
    refine j_iconst (v := 0) d_S_isOwningGroup_14 (by decide) ?_
    refine j_ireturn d_S_isOwningGroup_15 rfl rfl ?_ (by decide) (by decide)
    exact ⟨rfl, by rw [hb]⟩
  · refine j_iload_n d_S_isOwningGroup_5 rfl ?_
    refine j_iconst (v := 4) d_S_isOwningGroup_6 (by decide) ?_
    refine j_icmp_ge (tgt := 14) d_S_isOwningGroup_7 (by decide) (fun h7 => ?_) (fun h7 => ?_)
    · have hb : bP (1 ≤ x ∧ x < 4) = 0 := bP_f (fun q => absurd h7 (Int32.not_le.mpr q.2))
      refine j_iconst (v := 0) d_S_isOwningGroup_14 (by decide) ?_
      refine j_ireturn d_S_isOwningGroup_15 rfl rfl ?_ (by decide) (by decide)
      exact ⟨rfl, by rw [hb]⟩
    · have hb : bP (1 ≤ x ∧ x < 4) = 1 := bP_t ⟨Int32.not_lt.mp h2, Int32.not_le.mp h7⟩
      refine j_iconst (v := 1) d_S_isOwningGroup_10 (by decide) ?_
      refine j_goto 15 d_S_isOwningGroup_11 (by decide) ?_
      refine j_ireturn d_S_isOwningGroup_15 rfl rfl ?_ (by decide) (by decide)
      exact ⟨rfl, by rw [hb]⟩
set_option maxRecDepth 20000 in
set_option maxHeartbeats 1000000 in
theorem k_floorMod (M : aM) (x y : Int32) (hy : ¬ y = 0) : aK m_J_floorMod 0 0 0 M [.int x, .int y] (fun M1 r => M1 = M ∧ r = some (.int (if 0 ≤ x ^^^ y then x - x / y * y else if x - x / y * y = 0 then x - x / y * y else x - x / y * y + y))) := by
  refine aK.ofF (by decide +kernel) (Nat.le_of_ble_eq_true rfl) ?_
  refine j_iload_n d_J_floorMod_0 rfl ?_
  refine j_iload_n d_J_floorMod_1 rfl ?_
  refine j_irem d_J_floorMod_2 hy ?_
  refine j_istore_n d_J_floorMod_3 (by decide) ?_
  refine j_iload_n d_J_floorMod_4 rfl ?_
  refine j_iload_n d_J_floorMod_5 rfl ?_
  refine j_ixor d_J_floorMod_6 ?_
  refine j_if_ge (tgt := 18) d_J_floorMod_7 (by decide) (fun h7 => ?_) (fun h7 => ?_)
  · have hb : (if 0 ≤ x ^^^ y then x - x / y * y else if x - x / y * y = 0 then x - x / y * y else x - x / y * y + y) = x - x / y * y := if_pos h7
    refine j_iload_n d_J_floorMod_18 rfl ?_
    refine j_ireturn d_J_floorMod_19 rfl rfl ?_ (by decide) (by decide)
    exact ⟨rfl, by rw [hb]⟩
  · refine j_iload_n d_J_floorMod_10 rfl ?_
    refine j_if_eq (tgt := 18) d_J_floorMod_11 (by decide) (fun h11 => ?_) (fun h11 => ?_)
    · have hb : (if 0 ≤ x ^^^ y then x - x / y * y else if x - x / y * y = 0 then x - x / y * y else x - x / y * y + y) = x - x / y * y := by rw [if_neg h7, if_pos h11]
      refine j_iload_n d_J_floorMod_18 rfl ?_
      refine j_ireturn d_J_floorMod_19 rfl rfl ?_ (by decide) (by decide)
      exact ⟨rfl, by rw [hb]⟩
    · refine j_iload_n d_J_floorMod_14 rfl ?_
      refine j_iload_n d_J_floorMod_15 rfl ?_
      refine j_iadd d_J_floorMod_16 ?_
      refine j_ireturn d_J_floorMod_17 rfl rfl ?_ (by decide) (by decide)
      exact ⟨rfl, by rw [if_neg h7, if_neg h11]⟩
/-- the log of the node at a, by its terms -/
def lgT (M : aM) (a len : Nat) (tm : Nat → Nat) : Prop := len ≤ 80 ∧ mI M a 3 = nI len ∧ ∀ k, k < len → ∃ e ci, mR M (a + 1) k = some e ∧ tO M e ci ∧ 5 ≤ ci ∧ ci ≤ 10 ∧ mI M e 0 = nI (tm k) ∧ tm k < 1000000
def lT (len : Nat) (tm : Nat → Nat) : Nat := if len = 0 then 0 else tm (len - 1)
def ndS (M : aM) (a ci : Nat) : Prop := tO M a ci ∧ mR M a 5 = some (a + 1) ∧ tA M (a + 1) 106 80

set_option maxRecDepth 20000 in
set_option maxHeartbeats 1000000 in
theorem k_takeTerm_V (M : aM) (a : Nat) (x : Int32) (ha : tO M a 2) : aK m_N_takeTerm 0 0 0 M [.ref a, .int x] (fun M1 r => r = none ∧ M1 = if mI M a 2 < x then sI (sI M a 2 x) a 1 0 else M) := by
  refine aK.of (by decide) (Nat.le_of_ble_eq_true rfl) ?_
  refine j_iload_n d_N_takeTerm_0 rfl ?_
  refine j_aload_n d_N_takeTerm_1 rfl ?_
  refine j_geti d_N_takeTerm_2 (by assumption) f_N_21_V rfl (by decide) ?_
  refine j_icmp_le (tgt := 18) d_N_takeTerm_5 (by decide) (fun h5 => ?_) (fun h5 => ?_)
  · have hb : (if mI M a 2 < x then sI (sI M a 2 x) a 1 0 else M) = M := if_neg (Int32.not_lt.mpr h5)
    refine j_return d_N_takeTerm_18 rfl ?_ (by decide) (by decide)
    exact ⟨rfl, hb.symm⟩
  · have hb : (if mI M a 2 < x then sI (sI M a 2 x) a 1 0 else M) = sI (sI M a 2 x) a 1 0 := if_pos (Int32.not_le.mp h5)
    refine j_aload_n d_N_takeTerm_8 rfl ?_
    refine j_iload_n d_N_takeTerm_9 rfl ?_
    refine j_puti d_N_takeTerm_10 (by assumption) p_N_21_V rfl (by decide) rfl rfl ?_
    refine j_aload_n d_N_takeTerm_13 rfl ?_
    refine j_iconst (v := 0) d_N_takeTerm_14 (by decide) ?_
    refine j_puti d_N_takeTerm_15 (by assumption) p_N_25_V rfl (by decide) rfl rfl ?_
    refine j_return d_N_takeTerm_18 rfl ?_ (by decide) (by decide)
    exact ⟨rfl, hb.symm⟩
set_option maxRecDepth 20000 in
set_option maxHeartbeats 1000000 in
theorem k_lastTerm_V (M : aM) (a len : Nat) (tm : Nat → Nat) (hn : ndS M a 2) (hl : lgT M a len tm) : aK m_N_lastTerm 0 0 0 M [.ref a] (fun M1 r => M1 = M ∧ r = some (.int (nI (lT len tm)))) := by
  refine aK.of (by decide) (Nat.le_of_ble_eq_true rfl) ?_
  obtain ⟨ha, ha5, hA⟩ := hn
  refine j_aload_n d_N_lastTerm_0 rfl ?_
  refine j_geti d_N_lastTerm_1 (by assumption) f_N_40_V rfl (by decide) ?_
  refine j_eqi hl.2.1 ?_
  refine j_if_ne (tgt := 11) d_N_lastTerm_4 (by decide) (fun h4 => ?_) (fun h4 => ?_)
  · have hp : ¬ len = 0 := fun q => h4 (by rw [q]; rfl)
    refine j_aload_n d_N_lastTerm_11 rfl ?_
    refine j_getR d_N_lastTerm_12 (by assumption) f_N_17_V rfl (by decide) (by assumption) ?_
    refine j_aload_n d_N_lastTerm_15 rfl ?_
    refine j_geti d_N_lastTerm_16 (by assumption) f_N_40_V rfl (by decide) ?_
    refine j_iconst (v := 1) d_N_lastTerm_19 (by decide) ?_
    refine j_isub d_N_lastTerm_20 ?_
    obtain ⟨e, ei, g1, g2, g3, g4, g5, g6⟩ := hl.2.2 (len - 1) (by omega)
    refine j_eqi (i_sub (b := 1) hl.2.1 (by omega)) ?_
    refine j_aaldR d_N_lastTerm_21 (by assumption) (by decide) ts_106 (aIx.n (by have := hl.1; omega) (by decide)) (by assumption) ?_
    refine j_geti d_N_lastTerm_22 (by assumption) (fe_N_43 g3 g4) (re_0 g3 g4) (by omega) ?_
    have hb : nI (lT len tm) = mI M e 0 := by rw [show lT len tm = tm (len - 1) from if_neg hp, g5]
    refine j_ireturn d_N_lastTerm_25 rfl rfl ?_ (by decide) (by decide)
    exact ⟨rfl, by rw [hb]⟩
  · have hb : nI (lT len tm) = 0 := by rw [show lT len tm = 0 from if_pos ((nI_0' (by have := hl.1; omega)).mp h4)]; rfl
    refine j_iconst (v := 0) d_N_lastTerm_7 (by decide) ?_
    refine j_goto 25 d_N_lastTerm_8 (by decide) ?_
    refine j_ireturn d_N_lastTerm_25 rfl rfl ?_ (by decide) (by decide)
    exact ⟨rfl, by rw [hb]⟩
set_option maxRecDepth 20000 in
set_option maxHeartbeats 1000000 in
theorem k_takeTerm_T (M : aM) (a : Nat) (x : Int32) (ha : tO M a 3) : aK m_N_takeTerm 0 0 0 M [.ref a, .int x] (fun M1 r => r = none ∧ M1 = if mI M a 2 < x then sI (sI M a 2 x) a 1 0 else M) := by
  refine aK.of (by decide) (Nat.le_of_ble_eq_true rfl) ?_
  refine j_iload_n d_N_takeTerm_0 rfl ?_
  refine j_aload_n d_N_takeTerm_1 rfl ?_
  refine j_geti d_N_takeTerm_2 (by assumption) f_N_21_T rfl (by decide) ?_
  refine j_icmp_le (tgt := 18) d_N_takeTerm_5 (by decide) (fun h5 => ?_) (fun h5 => ?_)
  · have hb : (if mI M a 2 < x then sI (sI M a 2 x) a 1 0 else M) = M := if_neg (Int32.not_lt.mpr h5)
    refine j_return d_N_takeTerm_18 rfl ?_ (by decide) (by decide)
    exact ⟨rfl, hb.symm⟩
  · have hb : (if mI M a 2 < x then sI (sI M a 2 x) a 1 0 else M) = sI (sI M a 2 x) a 1 0 := if_pos (Int32.not_le.mp h5)
    refine j_aload_n d_N_takeTerm_8 rfl ?_
    refine j_iload_n d_N_takeTerm_9 rfl ?_
    refine j_puti d_N_takeTerm_10 (by assumption) p_N_21_T rfl (by decide) rfl rfl ?_
    refine j_aload_n d_N_takeTerm_13 rfl ?_
    refine j_iconst (v := 0) d_N_takeTerm_14 (by decide) ?_
    refine j_puti d_N_takeTerm_15 (by assumption) p_N_25_T rfl (by decide) rfl rfl ?_
    refine j_return d_N_takeTerm_18 rfl ?_ (by decide) (by decide)
    exact ⟨rfl, hb.symm⟩
set_option maxRecDepth 20000 in
set_option maxHeartbeats 1000000 in
theorem k_lastTerm_T (M : aM) (a len : Nat) (tm : Nat → Nat) (hn : ndS M a 3) (hl : lgT M a len tm) : aK m_N_lastTerm 0 0 0 M [.ref a] (fun M1 r => M1 = M ∧ r = some (.int (nI (lT len tm)))) := by
  refine aK.of (by decide) (Nat.le_of_ble_eq_true rfl) ?_
  obtain ⟨ha, ha5, hA⟩ := hn
  refine j_aload_n d_N_lastTerm_0 rfl ?_
  refine j_geti d_N_lastTerm_1 (by assumption) f_N_40_T rfl (by decide) ?_
  refine j_eqi hl.2.1 ?_
  refine j_if_ne (tgt := 11) d_N_lastTerm_4 (by decide) (fun h4 => ?_) (fun h4 => ?_)
  · have hp : ¬ len = 0 := fun q => h4 (by rw [q]; rfl)
    refine j_aload_n d_N_lastTerm_11 rfl ?_
    refine j_getR d_N_lastTerm_12 (by assumption) f_N_17_T rfl (by decide) (by assumption) ?_
    refine j_aload_n d_N_lastTerm_15 rfl ?_
    refine j_geti d_N_lastTerm_16 (by assumption) f_N_40_T rfl (by decide) ?_
    refine j_iconst (v := 1) d_N_lastTerm_19 (by decide) ?_
    refine j_isub d_N_lastTerm_20 ?_
    obtain ⟨e, ei, g1, g2, g3, g4, g5, g6⟩ := hl.2.2 (len - 1) (by omega)
    refine j_eqi (i_sub (b := 1) hl.2.1 (by omega)) ?_
    refine j_aaldR d_N_lastTerm_21 (by assumption) (by decide) ts_106 (aIx.n (by have := hl.1; omega) (by decide)) (by assumption) ?_
    refine j_geti d_N_lastTerm_22 (by assumption) (fe_N_43 g3 g4) (re_0 g3 g4) (by omega) ?_
    have hb : nI (lT len tm) = mI M e 0 := by rw [show lT len tm = tm (len - 1) from if_neg hp, g5]
    refine j_ireturn d_N_lastTerm_25 rfl rfl ?_ (by decide) (by decide)
    exact ⟨rfl, by rw [hb]⟩
  · have hb : nI (lT len tm) = 0 := by rw [show lT len tm = 0 from if_pos ((nI_0' (by have := hl.1; omega)).mp h4)]; rfl
    refine j_iconst (v := 0) d_N_lastTerm_7 (by decide) ?_
    refine j_goto 25 d_N_lastTerm_8 (by decide) ?_
    refine j_ireturn d_N_lastTerm_25 rfl rfl ?_ (by decide) (by decide)
    exact ⟨rfl, by rw [hb]⟩
theorem lT_lt {M : aM} {a len : Nat} {tm : Nat → Nat} (h : lgT M a len tm) : lT len tm < 1000000 := by
  unfold lT
  split
  · omega
  · obtain ⟨_, _, _, _, _, _, _, g⟩ := h.2.2 (len - 1) (by omega)
    exact g
theorem ca_any {ci : Nat} (h5 : 5 ≤ ci) (h6 : ci ≤ 10) : aCa ci 106 := by
  rcases (by omega : ci = 5 ∨ ci = 6 ∨ ci = 7 ∨ ci = 8 ∨ ci = 9 ∨ ci = 10) with rfl | rfl | rfl | rfl | rfl | rfl
  · exact ca_E_106
  · exact ca_G_106
  · exact ca_F_106
  · exact ca_R_106
  · exact ca_I_106
  · exact ca_D_106
theorem i_lt {a b : Nat} (ha : a < 2 ^ 31) (hb : b < 2 ^ 31) (h : nI a < nI b) : a < b := (nI_ltI ha hb).mp h
theorem i_nlt {a b : Nat} (ha : a < 2 ^ 31) (hb : b < 2 ^ 31) (h : ¬ nI a < nI b) : b ≤ a := Nat.le_of_not_lt fun q => h ((nI_ltI ha hb).mpr q)
theorem i_le {a b : Nat} (ha : a < 2 ^ 31) (hb : b < 2 ^ 31) (h : nI a ≤ nI b) : a ≤ b := (nI_leI ha hb).mp h
theorem i_nle {a b : Nat} (ha : a < 2 ^ 31) (hb : b < 2 ^ 31) (h : ¬ nI a ≤ nI b) : b < a := Nat.lt_of_not_le fun q => h ((nI_leI ha hb).mpr q)
theorem i_eq {a b : Nat} (ha : a < 2 ^ 31) (hb : b < 2 ^ 31) (h : nI a = nI b) : a = b := (nI_eq ha hb).mp h
theorem i_ne {a b : Nat} (ha : a < 2 ^ 31) (hb : b < 2 ^ 31) (h : ¬ nI a = nI b) : a ≠ b := fun q => h (by rw [q])
theorem i_min {a b : Nat} (ha : a < 2 ^ 31) (hb : b < 2 ^ 31) : (if nI b < nI a then nI b else nI a) = nI (min a b) := by
  split
  · rename_i h
    have := i_lt hb ha h
    rw [show min a b = b by omega]
  · rename_i h
    have := i_nlt hb ha h
    rw [show min a b = a by omega]
theorem i_max {a b : Nat} (ha : a < 2 ^ 31) (hb : b < 2 ^ 31) : (if nI a < nI b then nI b else nI a) = nI (max a b) := by
  split
  · rename_i h
    have := i_lt ha hb h
    rw [show max a b = b by omega]
  · rename_i h
    have := i_nlt ha hb h
    rw [show max a b = a by omega]
/-- how many entries two logs have alike from their beginning -/
def rCS (la lb : Nat) (ta tb : Nat → Nat) (k : Nat) : Prop := k ≤ la ∧ k ≤ lb ∧ (∀ j, j < k → ta j = tb j) ∧ ¬ (k < la ∧ k < lb ∧ ta k = tb k)

set_option maxRecDepth 20000 in
set_option maxHeartbeats 1000000 in
theorem k_isBehind_V (M : aM) (a b la lb : Nat) (ta tb : Nat → Nat) (hn : ndS M a 2) (hm : ndS M b 2) (hl : lgT M a la ta) (hk : lgT M b lb tb) : aK m_N_isBehind 1 0 0 M [.ref a, .ref b] (fun M1 r => M1 = M ∧ r = some (.int (bP (lT la ta < lT lb tb ∨ lT la ta = lT lb tb ∧ la < lb)))) := by
  refine aK.of (by decide) (Nat.le_of_ble_eq_true rfl) ?_
  have ha := hn.1
  have hb0 := hm.1
  have l1 := lT_lt hl
  have l2 := lT_lt hk
  refine j_aload_n d_N_isBehind_0 rfl ?_
  refine j_callU (owner := "ShardGroups$Node") (vs := []) d_N_isBehind_1 (by assumption) (by decide) rfl w221 w222 w3 w226 w224 w223 (Or.inl rfl) y_N_lastTerm (by decide) (by decide) (k_lastTerm_V M a la ta hn hl) rfl (Nat.le_of_ble_eq_true rfl) (by decide) (by decide) (fun M1 r1 hq1 => ?_)
  obtain ⟨rfl, rfl⟩ := hq1
  refine j_istore_n d_N_isBehind_4 (by decide) ?_
  refine j_aload_n d_N_isBehind_5 rfl ?_
  refine j_callU (owner := "ShardGroups$Node") (vs := []) d_N_isBehind_6 (by assumption) (by decide) rfl w221 w222 w3 w226 w224 w223 (Or.inl rfl) y_N_lastTerm (by decide) (by decide) (k_lastTerm_V M1 b lb tb hm hk) rfl (Nat.le_of_ble_eq_true rfl) (by decide) (by decide) (fun M2 r2 hq2 => ?_)
  obtain ⟨rfl, rfl⟩ := hq2
  refine j_istore_n d_N_isBehind_9 (by decide) ?_
  refine j_iload_n d_N_isBehind_10 rfl ?_
  refine j_iload_n d_N_isBehind_11 rfl ?_
  refine j_icmp_lt (tgt := 31) d_N_isBehind_12 (by decide) (fun h12 => ?_) (fun h12 => ?_)
  · have hb : bP (lT la ta < lT lb tb ∨ lT la ta = lT lb tb ∧ la < lb) = 1 := bP_t (Or.inl (i_lt (by omega) (by omega) h12))
    refine j_iconst (v := 1) d_N_isBehind_31 (by decide) ?_
    refine j_goto 36 d_N_isBehind_32 (by decide) ?_
    refine j_ireturn d_N_isBehind_36 rfl rfl ?_ (by decide) (by decide)
    exact ⟨rfl, by rw [hb]⟩
  · refine j_iload_n d_N_isBehind_15 rfl ?_
    refine j_iload_n d_N_isBehind_16 rfl ?_
    refine j_icmp_ne (tgt := 35) d_N_isBehind_17 (by decide) (fun h17 => ?_) (fun h17 => ?_)
    · have hb : bP (lT la ta < lT lb tb ∨ lT la ta = lT lb tb ∧ la < lb) = 0 := bP_f (fun q => q.elim (fun q => h12 (nI_lt q (by omega))) (fun q => h17 (by rw [q.1])))
      refine j_iconst (v := 0) d_N_isBehind_35 (by decide) ?_
      refine j_ireturn d_N_isBehind_36 rfl rfl ?_ (by decide) (by decide)
      exact ⟨rfl, by rw [hb]⟩
    · refine j_aload_n d_N_isBehind_20 rfl ?_
      refine j_geti d_N_isBehind_21 (by assumption) f_N_40_V rfl (by decide) ?_
      refine j_eqi hl.2.1 ?_
      refine j_aload_n d_N_isBehind_24 rfl ?_
      refine j_geti d_N_isBehind_25 (by assumption) f_N_40_V rfl (by decide) ?_
      refine j_eqi hk.2.1 ?_
      refine j_icmp_ge (tgt := 35) d_N_isBehind_28 (by decide) (fun h28 => ?_) (fun h28 => ?_)
      · have hb : bP (lT la ta < lT lb tb ∨ lT la ta = lT lb tb ∧ la < lb) = 0 := bP_f (fun q => q.elim (fun q => h12 (nI_lt q (by omega))) (fun q => absurd (i_le (by have := hk.1; omega) (by have := hl.1; omega) h28) (by omega)))
        refine j_iconst (v := 0) d_N_isBehind_35 (by decide) ?_
        refine j_ireturn d_N_isBehind_36 rfl rfl ?_ (by decide) (by decide)
        exact ⟨rfl, by rw [hb]⟩
      · have hb : bP (lT la ta < lT lb tb ∨ lT la ta = lT lb tb ∧ la < lb) = 1 := bP_t (Or.inr ⟨i_eq (by omega) (by omega) h17, i_nle (by have := hk.1; omega) (by have := hl.1; omega) h28⟩)
        refine j_iconst (v := 1) d_N_isBehind_31 (by decide) ?_
        refine j_goto 36 d_N_isBehind_32 (by decide) ?_
        refine j_ireturn d_N_isBehind_36 rfl rfl ?_ (by decide) (by decide)
        exact ⟨rfl, by rw [hb]⟩
set_option maxRecDepth 20000 in
set_option maxHeartbeats 1000000 in
theorem k_grants_V (M : aM) (a b la lb : Nat) (ta tb : Nat → Nat) (hn : ndS M a 2) (hm : ndS M b 2) (hl : lgT M a la ta) (hk : lgT M b lb tb) (t x : Nat) (ht : mI M b 2 = nI t) (h1 : t < 1000000) (h2 : x < 1000000) : aK m_N_grants 2 0 0 M [.ref b, .ref a, .int (nI x)] (fun M1 r => M1 = (if (mI M b 0 ≠ 0 ∧ t < x ∧ ¬ (lT la ta < lT lb tb ∨ lT la ta = lT lb tb ∧ la < lb)) then sI (sI M b 2 (nI x)) b 1 0 else M) ∧ r = some (.int (bP (mI M b 0 ≠ 0 ∧ t < x ∧ ¬ (lT la ta < lT lb tb ∨ lT la ta = lT lb tb ∧ la < lb))))) := by
  refine aK.of (by decide) (Nat.le_of_ble_eq_true rfl) ?_
  have ha := hn.1
  have hb0 := hm.1
  refine j_aload_n d_N_grants_0 rfl ?_
  refine j_geti d_N_grants_1 (by assumption) f_N_9_V rfl (by decide) ?_
  refine j_if_eq (tgt := 23) d_N_grants_4 (by decide) (fun h4 => ?_) (fun h4 => ?_)
  · have hg : ¬ (mI M b 0 ≠ 0 ∧ t < x ∧ ¬ (lT la ta < lT lb tb ∨ lT la ta = lT lb tb ∧ la < lb)) := fun q => q.1 h4
    refine j_iconst (v := 0) d_N_grants_23 (by decide) ?_
    refine j_ireturn d_N_grants_24 rfl rfl ?_ (by decide) (by decide)
    exact ⟨(if_neg hg).symm, by rw [bP_f hg]⟩
  · refine j_aload_n d_N_grants_7 rfl ?_
    refine j_geti d_N_grants_8 (by assumption) f_N_21_V rfl (by decide) ?_
    refine j_eqi ht ?_
    refine j_iload_n d_N_grants_11 rfl ?_
    refine j_icmp_ge (tgt := 23) d_N_grants_12 (by decide) (fun h12 => ?_) (fun h12 => ?_)
    · have hg : ¬ (mI M b 0 ≠ 0 ∧ t < x ∧ ¬ (lT la ta < lT lb tb ∨ lT la ta = lT lb tb ∧ la < lb)) := fun q => absurd (i_le (by omega) (by omega) h12) (by omega)
      refine j_iconst (v := 0) d_N_grants_23 (by decide) ?_
      refine j_ireturn d_N_grants_24 rfl rfl ?_ (by decide) (by decide)
      exact ⟨(if_neg hg).symm, by rw [bP_f hg]⟩
    · refine j_aload_n d_N_grants_15 rfl ?_
      refine j_aload_n d_N_grants_16 rfl ?_
      refine j_callU (owner := "ShardGroups$Node") (vs := [_]) d_N_grants_17 (by assumption) (by decide) rfl w215 w216 w3 w220 w218 w217 (Or.inl rfl) y_N_isBehind (by decide) (by decide) (k_isBehind_V M a b la lb ta tb hn hm hl hk) rfl (Nat.le_of_ble_eq_true rfl) (by decide) (by decide) (fun M1 r1 hq1 => ?_)
      obtain ⟨rfl, rfl⟩ := hq1
      refine j_if_eq (tgt := 25) d_N_grants_20 (by decide) (fun h20 => ?_) (fun h20 => ?_)
      · have hg : (mI M1 b 0 ≠ 0 ∧ t < x ∧ ¬ (lT la ta < lT lb tb ∨ lT la ta = lT lb tb ∧ la < lb)) := ⟨h4, i_nle (by omega) (by omega) h12, fun q => by rw [bP_t q] at h20; exact absurd h20 (by decide)⟩
        refine j_aload_n d_N_grants_25 rfl ?_
        refine j_iload_n d_N_grants_26 rfl ?_
        refine j_callU (owner := "ShardGroups$Node") (vs := [_]) d_N_grants_27 (by assumption) (by decide) rfl w227 w228 w3 w232 w230 w229 (Or.inl rfl) y_N_takeTerm (by decide) (by decide) (k_takeTerm_V M1 b (nI x) hm.1) rfl (Nat.le_of_ble_eq_true rfl) (by decide) (by decide) (fun M2 r2 hq2 => ?_)
        obtain ⟨rfl, rfl⟩ := hq2
        refine j_iconst (v := 1) d_N_grants_30 (by decide) ?_
        refine j_ireturn d_N_grants_31 rfl rfl ?_ (by decide) (by decide)
        exact ⟨by rw [if_pos hg, if_pos (show mI M1 b 2 < nI x by rw [ht]; exact nI_lt hg.2.1 (by omega))], by rw [bP_t hg]⟩
      · have hg : ¬ (mI M1 b 0 ≠ 0 ∧ t < x ∧ ¬ (lT la ta < lT lb tb ∨ lT la ta = lT lb tb ∧ la < lb)) := fun q => h20 (bP_f q.2.2)
        refine j_iconst (v := 0) d_N_grants_23 (by decide) ?_
        refine j_ireturn d_N_grants_24 rfl rfl ?_ (by decide) (by decide)
        exact ⟨(if_neg hg).symm, by rw [bP_f hg]⟩
set_option maxRecDepth 20000 in
set_option maxHeartbeats 1000000 in
theorem k_hasEntry_V (M : aM) (a la p t : Nat) (ta : Nat → Nat) (hn : ndS M a 2) (hl : lgT M a la ta) (hp : p < 1000000) (ht : t < 1000000) : aK m_N_hasEntry 0 0 0 M [.ref a, .int (nI p), .int (nI t)] (fun M1 r => M1 = M ∧ r = some (.int (bP (p < la ∧ ta p = t)))) := by
  refine aK.of (by decide) (Nat.le_of_ble_eq_true rfl) ?_
  obtain ⟨ha, ha5, hA⟩ := hn
  refine j_iload_n d_N_hasEntry_0 rfl ?_
  refine j_aload_n d_N_hasEntry_1 rfl ?_
  refine j_geti d_N_hasEntry_2 (by assumption) f_N_40_V rfl (by decide) ?_
  refine j_eqi hl.2.1 ?_
  refine j_icmp_ge (tgt := 25) d_N_hasEntry_5 (by decide) (fun h5 => ?_) (fun h5 => ?_)
  · have hb : bP (p < la ∧ ta p = t) = 0 := bP_f (fun q => absurd (i_le (by have := hl.1; omega) (by omega) h5) (by omega))
    refine j_iconst (v := 0) d_N_hasEntry_25 (by decide) ?_
    refine j_ireturn d_N_hasEntry_26 rfl rfl ?_ (by decide) (by decide)
    exact ⟨rfl, by rw [hb]⟩
  · have hpl := i_nle (by have := hl.1; omega) (by omega) h5
    obtain ⟨e, ei, g1, g2, g3, g4, g5, g6⟩ := hl.2.2 p hpl
    refine j_aload_n d_N_hasEntry_8 rfl ?_
    refine j_getR d_N_hasEntry_9 (by assumption) f_N_17_V rfl (by decide) (by assumption) ?_
    refine j_iload_n d_N_hasEntry_12 rfl ?_
    refine j_aaldR d_N_hasEntry_13 (by assumption) (by decide) ts_106 (aIx.n (by have := hl.1; omega) (by decide)) (by assumption) ?_
    refine j_geti d_N_hasEntry_14 (by assumption) (fe_N_43 g3 g4) (re_0 g3 g4) (by omega) ?_
    refine j_eqi g5 ?_
    refine j_iload_n d_N_hasEntry_17 rfl ?_
    refine j_icmp_ne (tgt := 25) d_N_hasEntry_18 (by decide) (fun h18 => ?_) (fun h18 => ?_)
    · have hb : bP (p < la ∧ ta p = t) = 0 := bP_f (fun q => h18 (by rw [q.2]))
      refine j_iconst (v := 0) d_N_hasEntry_25 (by decide) ?_
      refine j_ireturn d_N_hasEntry_26 rfl rfl ?_ (by decide) (by decide)
      exact ⟨rfl, by rw [hb]⟩
    · have hb : bP (p < la ∧ ta p = t) = 1 := bP_t ⟨hpl, i_eq (by omega) (by omega) h18⟩
      refine j_iconst (v := 1) d_N_hasEntry_21 (by decide) ?_
      refine j_goto 26 d_N_hasEntry_22 (by decide) ?_
      refine j_ireturn d_N_hasEntry_26 rfl rfl ?_ (by decide) (by decide)
      exact ⟨rfl, by rw [hb]⟩
set_option maxRecDepth 20000 in
set_option maxHeartbeats 1000000 in
theorem k_write_V (M : aM) (a len e ei : Nat) (hn : ndS M a 2) (hl : mI M a 3 = nI len) (hlen : len ≤ 80) (he : tO M e ei) (h5 : 5 ≤ ei) (h6 : ei ≤ 10) : aK m_N_write 0 0 0 M [.ref a, .ref e] (fun M1 r => if len = 80 then M1 = M ∧ r = some (.int (-3)) else M1 = sI (sR M (a + 1) len (some e)) a 3 (nI (len + 1)) ∧ r = some (.int (nI (len + 1)))) := by
  refine aK.of (by decide) (Nat.le_of_ble_eq_true rfl) ?_
  obtain ⟨ha, ha5, hA⟩ := hn
  have h60 := h6
  refine j_aload_n d_N_write_0 rfl ?_
  refine j_geti d_N_write_1 (by assumption) f_N_40_V rfl (by decide) ?_
  refine j_eqi hl ?_
  refine j_bipush (v := 80) d_N_write_4 (by decide) ?_
  refine j_icmp_ne (tgt := 12) d_N_write_6 (by decide) (fun h6 => ?_) (fun h6 => ?_)
  · have hne : ¬ len = 80 := fun q => h6 (by rw [q]; rfl)
    refine j_aload_n d_N_write_12 rfl ?_
    refine j_getR d_N_write_13 (by assumption) f_N_17_V rfl (by decide) (by assumption) ?_
    refine j_aload_n d_N_write_16 rfl ?_
    refine j_geti d_N_write_17 (by assumption) f_N_40_V rfl (by decide) ?_
    refine j_eqi hl ?_
    refine j_aload_n d_N_write_20 rfl ?_
    refine j_aast d_N_write_21 (by assumption) (by decide) (aIx.n (by omega) (by decide)) (by assumption) (by omega) (ca_any h5 h60) ?_
    refine j_aload_n d_N_write_22 rfl ?_
    refine j_dup d_N_write_23 ?_
    refine j_geti d_N_write_24 (by assumption) f_N_40_V rfl (by decide) ?_
    refine j_iconst (v := 1) d_N_write_27 (by decide) ?_
    refine j_iadd d_N_write_28 ?_
    refine j_eqi (show mI M a 3 + 1 = nI (len + 1) by rw [hl]; exact (nI_succ len).symm) ?_
    refine j_puti d_N_write_29 (by assumption) p_N_40_V rfl (by decide) rfl rfl ?_
    refine j_aload_n d_N_write_32 rfl ?_
    refine j_geti d_N_write_33 (by assumption) f_N_40_V rfl (by decide) ?_
    refine j_eqi (show _ = nI (len + 1) by rw [mm_I_sI, if_pos ⟨rfl, rfl⟩]) ?_
    refine j_ireturn d_N_write_36 rfl rfl ?_ (by decide) (by decide)
    rw [if_neg hne]
    exact ⟨rfl, rfl⟩
  · have hne : len = 80 := i_eq (b := 80) (by omega) (by decide) h6
    refine j_bipush (v := -3) d_N_write_9 (by decide) ?_
    refine j_ireturn d_N_write_11 rfl rfl ?_ (by decide) (by decide)
    rw [if_pos hne]
    exact ⟨rfl, rfl⟩
set_option maxRecDepth 20000 in
set_option maxHeartbeats 1000000 in
theorem k_countSame_V (M : aM) (a b la lb : Nat) (ta tb : Nat → Nat) (hn : ndS M a 2) (hm : ndS M b 2) (hl : lgT M a la ta) (hk : lgT M b lb tb) : aK m_N_countSame 1 0 0 M [.ref a, .ref b] (fun M1 r => M1 = M ∧ ∃ k, rCS la lb ta tb k ∧ r = some (.int (nI k))) := by
  refine aK.of (by decide) (Nat.le_of_ble_eq_true rfl) ?_
  obtain ⟨ha, ha5, hA⟩ := hn
  obtain ⟨hb, hb5, hB⟩ := hm
  obtain ⟨la80, hla, hl⟩ := hl
  obtain ⟨lb80, hlb, hk⟩ := hk
  have loop : ∀ (n i : Nat), i + n = min la lb → (∀ j, j < i → ta j = tb j) → aJ aX0 m_N_countSame 1 0 0 (fun M1 r => M1 = M ∧ ∃ k, rCS la lb ta tb k ∧ r = some (.int (nI k))) 0 0 14 [some (.ref a), some (.ref b), some (.int (nI (min la lb))), some (.int (nI i))] [] M := by
    intro n
    induction n with
    | zero =>
      intro i hi hj
      refine j_iload_n d_N_countSame_14 rfl ?_
      refine j_iload_n d_N_countSame_15 rfl ?_
      refine j_icmp_ge (tgt := 46) d_N_countSame_16 (by decide) (fun h16 => ?_) (fun h16 => False.elim (h16 (by rw [← hi]; exact nI_le (by omega) (by omega))))
      refine j_iload_n d_N_countSame_46 rfl ?_
      refine j_ireturn d_N_countSame_47 rfl rfl ⟨rfl, i, ⟨by omega, by omega, hj, by omega⟩, rfl⟩ (by decide) (by decide)
    | succ n ih =>
      intro i hi hj
      obtain ⟨e, ei, g1, g2, g3, g4, g5, g6⟩ := hl i (by omega)
      obtain ⟨e2, ei2, k1, k2, k3, k4, k5, k6⟩ := hk i (by omega)
      refine j_iload_n d_N_countSame_14 rfl ?_
      refine j_iload_n d_N_countSame_15 rfl ?_
      refine j_icmp_ge (tgt := 46) d_N_countSame_16 (by decide) (fun h16 => False.elim (nI_ge (a := i) (b := min la lb) (by omega) (by omega) h16)) (fun h16 => ?_)
      refine j_aload_n d_N_countSame_19 rfl ?_
      refine j_getR d_N_countSame_20 (by assumption) f_N_17_V rfl (by decide) (by assumption) ?_
      refine j_iload_n d_N_countSame_23 rfl ?_
      refine j_aaldR d_N_countSame_24 (by assumption) (by decide) ts_106 (aIx.n (by omega) (by decide)) (by assumption) ?_
      refine j_geti d_N_countSame_25 (by assumption) (fe_N_43 g3 g4) (re_0 g3 g4) (by omega) ?_
      refine j_eqi g5 ?_
      refine j_aload_n d_N_countSame_28 rfl ?_
      refine j_getR d_N_countSame_29 (by assumption) f_N_17_V rfl (by decide) (by assumption) ?_
      refine j_iload_n d_N_countSame_32 rfl ?_
      refine j_aaldR d_N_countSame_33 (by assumption) (by decide) ts_106 (aIx.n (by omega) (by decide)) (by assumption) ?_
      refine j_geti d_N_countSame_34 (by assumption) (fe_N_43 k3 k4) (re_0 k3 k4) (by omega) ?_
      refine j_eqi k5 ?_
      refine j_icmp_ne (tgt := 46) d_N_countSame_37 (by decide) (fun h37 => ?_) (fun h37 => ?_)
      · have hne := i_ne (by omega) (by omega) h37
        refine j_iload_n d_N_countSame_46 rfl ?_
        refine j_ireturn d_N_countSame_47 rfl rfl ⟨rfl, i, ⟨by omega, by omega, hj, fun q => hne q.2.2⟩, rfl⟩ (by decide) (by decide)
      · have hee := i_eq (by omega) (by omega) h37
        refine j_iinc (nI (i + 1)) d_N_countSame_40 rfl (nI_inc i) (by decide) ?_
        refine j_goto 14 d_N_countSame_43 (by decide) ?_
        -- at 14
        refine ih (i + 1) (by omega) (fun j h => ?_)
        by_cases hji : j = i
        · rw [hji]; exact hee
        · exact hj j (by omega)
  refine j_aload_n d_N_countSame_0 rfl ?_
  refine j_geti d_N_countSame_1 (by assumption) f_N_40_V rfl (by decide) ?_
  refine j_eqi hla ?_
  refine j_aload_n d_N_countSame_4 rfl ?_
  refine j_geti d_N_countSame_5 (by assumption) f_N_40_V rfl (by decide) ?_
  refine j_eqi hlb ?_
  refine j_min d_N_countSame_8 w267 w268 w8 w269 (by decide) (Nat.le_of_ble_eq_true rfl) (by decide) (by decide) ?_
  refine j_eqi (i_min (by omega) (by omega)) ?_
  refine j_istore_n d_N_countSame_11 (by decide) ?_
  refine j_iconst (v := 0) d_N_countSame_12 (by decide) ?_
  refine j_istore_n d_N_countSame_13 (by decide) ?_
  -- at 14
  exact loop (min la lb) 0 (by omega) (fun j h => absurd h (Nat.not_lt_zero j))
set_option maxRecDepth 20000 in
set_option maxHeartbeats 1000000 in
theorem k_isBehind_T (M : aM) (a b la lb : Nat) (ta tb : Nat → Nat) (hn : ndS M a 3) (hm : ndS M b 3) (hl : lgT M a la ta) (hk : lgT M b lb tb) : aK m_N_isBehind 1 0 0 M [.ref a, .ref b] (fun M1 r => M1 = M ∧ r = some (.int (bP (lT la ta < lT lb tb ∨ lT la ta = lT lb tb ∧ la < lb)))) := by
  refine aK.of (by decide) (Nat.le_of_ble_eq_true rfl) ?_
  have ha := hn.1
  have hb0 := hm.1
  have l1 := lT_lt hl
  have l2 := lT_lt hk
  refine j_aload_n d_N_isBehind_0 rfl ?_
  refine j_callU (owner := "ShardGroups$Node") (vs := []) d_N_isBehind_1 (by assumption) (by decide) rfl w221 w222 w3 w226 w225 w223 (Or.inl rfl) y_N_lastTerm (by decide) (by decide) (k_lastTerm_T M a la ta hn hl) rfl (Nat.le_of_ble_eq_true rfl) (by decide) (by decide) (fun M1 r1 hq1 => ?_)
  obtain ⟨rfl, rfl⟩ := hq1
  refine j_istore_n d_N_isBehind_4 (by decide) ?_
  refine j_aload_n d_N_isBehind_5 rfl ?_
  refine j_callU (owner := "ShardGroups$Node") (vs := []) d_N_isBehind_6 (by assumption) (by decide) rfl w221 w222 w3 w226 w225 w223 (Or.inl rfl) y_N_lastTerm (by decide) (by decide) (k_lastTerm_T M1 b lb tb hm hk) rfl (Nat.le_of_ble_eq_true rfl) (by decide) (by decide) (fun M2 r2 hq2 => ?_)
  obtain ⟨rfl, rfl⟩ := hq2
  refine j_istore_n d_N_isBehind_9 (by decide) ?_
  refine j_iload_n d_N_isBehind_10 rfl ?_
  refine j_iload_n d_N_isBehind_11 rfl ?_
  refine j_icmp_lt (tgt := 31) d_N_isBehind_12 (by decide) (fun h12 => ?_) (fun h12 => ?_)
  · have hb : bP (lT la ta < lT lb tb ∨ lT la ta = lT lb tb ∧ la < lb) = 1 := bP_t (Or.inl (i_lt (by omega) (by omega) h12))
    refine j_iconst (v := 1) d_N_isBehind_31 (by decide) ?_
    refine j_goto 36 d_N_isBehind_32 (by decide) ?_
    refine j_ireturn d_N_isBehind_36 rfl rfl ?_ (by decide) (by decide)
    exact ⟨rfl, by rw [hb]⟩
  · refine j_iload_n d_N_isBehind_15 rfl ?_
    refine j_iload_n d_N_isBehind_16 rfl ?_
    refine j_icmp_ne (tgt := 35) d_N_isBehind_17 (by decide) (fun h17 => ?_) (fun h17 => ?_)
    · have hb : bP (lT la ta < lT lb tb ∨ lT la ta = lT lb tb ∧ la < lb) = 0 := bP_f (fun q => q.elim (fun q => h12 (nI_lt q (by omega))) (fun q => h17 (by rw [q.1])))
      refine j_iconst (v := 0) d_N_isBehind_35 (by decide) ?_
      refine j_ireturn d_N_isBehind_36 rfl rfl ?_ (by decide) (by decide)
      exact ⟨rfl, by rw [hb]⟩
    · refine j_aload_n d_N_isBehind_20 rfl ?_
      refine j_geti d_N_isBehind_21 (by assumption) f_N_40_T rfl (by decide) ?_
      refine j_eqi hl.2.1 ?_
      refine j_aload_n d_N_isBehind_24 rfl ?_
      refine j_geti d_N_isBehind_25 (by assumption) f_N_40_T rfl (by decide) ?_
      refine j_eqi hk.2.1 ?_
      refine j_icmp_ge (tgt := 35) d_N_isBehind_28 (by decide) (fun h28 => ?_) (fun h28 => ?_)
      · have hb : bP (lT la ta < lT lb tb ∨ lT la ta = lT lb tb ∧ la < lb) = 0 := bP_f (fun q => q.elim (fun q => h12 (nI_lt q (by omega))) (fun q => absurd (i_le (by have := hk.1; omega) (by have := hl.1; omega) h28) (by omega)))
        refine j_iconst (v := 0) d_N_isBehind_35 (by decide) ?_
        refine j_ireturn d_N_isBehind_36 rfl rfl ?_ (by decide) (by decide)
        exact ⟨rfl, by rw [hb]⟩
      · have hb : bP (lT la ta < lT lb tb ∨ lT la ta = lT lb tb ∧ la < lb) = 1 := bP_t (Or.inr ⟨i_eq (by omega) (by omega) h17, i_nle (by have := hk.1; omega) (by have := hl.1; omega) h28⟩)
        refine j_iconst (v := 1) d_N_isBehind_31 (by decide) ?_
        refine j_goto 36 d_N_isBehind_32 (by decide) ?_
        refine j_ireturn d_N_isBehind_36 rfl rfl ?_ (by decide) (by decide)
        exact ⟨rfl, by rw [hb]⟩
set_option maxRecDepth 20000 in
set_option maxHeartbeats 1000000 in
theorem k_grants_T (M : aM) (a b la lb : Nat) (ta tb : Nat → Nat) (hn : ndS M a 3) (hm : ndS M b 3) (hl : lgT M a la ta) (hk : lgT M b lb tb) (t x : Nat) (ht : mI M b 2 = nI t) (h1 : t < 1000000) (h2 : x < 1000000) : aK m_N_grants 2 0 0 M [.ref b, .ref a, .int (nI x)] (fun M1 r => M1 = (if (mI M b 0 ≠ 0 ∧ t < x ∧ ¬ (lT la ta < lT lb tb ∨ lT la ta = lT lb tb ∧ la < lb)) then sI (sI M b 2 (nI x)) b 1 0 else M) ∧ r = some (.int (bP (mI M b 0 ≠ 0 ∧ t < x ∧ ¬ (lT la ta < lT lb tb ∨ lT la ta = lT lb tb ∧ la < lb))))) := by
  refine aK.of (by decide) (Nat.le_of_ble_eq_true rfl) ?_
  have ha := hn.1
  have hb0 := hm.1
  refine j_aload_n d_N_grants_0 rfl ?_
  refine j_geti d_N_grants_1 (by assumption) f_N_9_T rfl (by decide) ?_
  refine j_if_eq (tgt := 23) d_N_grants_4 (by decide) (fun h4 => ?_) (fun h4 => ?_)
  · have hg : ¬ (mI M b 0 ≠ 0 ∧ t < x ∧ ¬ (lT la ta < lT lb tb ∨ lT la ta = lT lb tb ∧ la < lb)) := fun q => q.1 h4
    refine j_iconst (v := 0) d_N_grants_23 (by decide) ?_
    refine j_ireturn d_N_grants_24 rfl rfl ?_ (by decide) (by decide)
    exact ⟨(if_neg hg).symm, by rw [bP_f hg]⟩
  · refine j_aload_n d_N_grants_7 rfl ?_
    refine j_geti d_N_grants_8 (by assumption) f_N_21_T rfl (by decide) ?_
    refine j_eqi ht ?_
    refine j_iload_n d_N_grants_11 rfl ?_
    refine j_icmp_ge (tgt := 23) d_N_grants_12 (by decide) (fun h12 => ?_) (fun h12 => ?_)
    · have hg : ¬ (mI M b 0 ≠ 0 ∧ t < x ∧ ¬ (lT la ta < lT lb tb ∨ lT la ta = lT lb tb ∧ la < lb)) := fun q => absurd (i_le (by omega) (by omega) h12) (by omega)
      refine j_iconst (v := 0) d_N_grants_23 (by decide) ?_
      refine j_ireturn d_N_grants_24 rfl rfl ?_ (by decide) (by decide)
      exact ⟨(if_neg hg).symm, by rw [bP_f hg]⟩
    · refine j_aload_n d_N_grants_15 rfl ?_
      refine j_aload_n d_N_grants_16 rfl ?_
      refine j_callU (owner := "ShardGroups$Node") (vs := [_]) d_N_grants_17 (by assumption) (by decide) rfl w215 w216 w3 w220 w219 w217 (Or.inl rfl) y_N_isBehind (by decide) (by decide) (k_isBehind_T M a b la lb ta tb hn hm hl hk) rfl (Nat.le_of_ble_eq_true rfl) (by decide) (by decide) (fun M1 r1 hq1 => ?_)
      obtain ⟨rfl, rfl⟩ := hq1
      refine j_if_eq (tgt := 25) d_N_grants_20 (by decide) (fun h20 => ?_) (fun h20 => ?_)
      · have hg : (mI M1 b 0 ≠ 0 ∧ t < x ∧ ¬ (lT la ta < lT lb tb ∨ lT la ta = lT lb tb ∧ la < lb)) := ⟨h4, i_nle (by omega) (by omega) h12, fun q => by rw [bP_t q] at h20; exact absurd h20 (by decide)⟩
        refine j_aload_n d_N_grants_25 rfl ?_
        refine j_iload_n d_N_grants_26 rfl ?_
        refine j_callU (owner := "ShardGroups$Node") (vs := [_]) d_N_grants_27 (by assumption) (by decide) rfl w227 w228 w3 w232 w231 w229 (Or.inl rfl) y_N_takeTerm (by decide) (by decide) (k_takeTerm_T M1 b (nI x) hm.1) rfl (Nat.le_of_ble_eq_true rfl) (by decide) (by decide) (fun M2 r2 hq2 => ?_)
        obtain ⟨rfl, rfl⟩ := hq2
        refine j_iconst (v := 1) d_N_grants_30 (by decide) ?_
        refine j_ireturn d_N_grants_31 rfl rfl ?_ (by decide) (by decide)
        exact ⟨by rw [if_pos hg, if_pos (show mI M1 b 2 < nI x by rw [ht]; exact nI_lt hg.2.1 (by omega))], by rw [bP_t hg]⟩
      · have hg : ¬ (mI M1 b 0 ≠ 0 ∧ t < x ∧ ¬ (lT la ta < lT lb tb ∨ lT la ta = lT lb tb ∧ la < lb)) := fun q => h20 (bP_f q.2.2)
        refine j_iconst (v := 0) d_N_grants_23 (by decide) ?_
        refine j_ireturn d_N_grants_24 rfl rfl ?_ (by decide) (by decide)
        exact ⟨(if_neg hg).symm, by rw [bP_f hg]⟩
set_option maxRecDepth 20000 in
set_option maxHeartbeats 1000000 in
theorem k_hasEntry_T (M : aM) (a la p t : Nat) (ta : Nat → Nat) (hn : ndS M a 3) (hl : lgT M a la ta) (hp : p < 1000000) (ht : t < 1000000) : aK m_N_hasEntry 0 0 0 M [.ref a, .int (nI p), .int (nI t)] (fun M1 r => M1 = M ∧ r = some (.int (bP (p < la ∧ ta p = t)))) := by
  refine aK.of (by decide) (Nat.le_of_ble_eq_true rfl) ?_
  obtain ⟨ha, ha5, hA⟩ := hn
  refine j_iload_n d_N_hasEntry_0 rfl ?_
  refine j_aload_n d_N_hasEntry_1 rfl ?_
  refine j_geti d_N_hasEntry_2 (by assumption) f_N_40_T rfl (by decide) ?_
  refine j_eqi hl.2.1 ?_
  refine j_icmp_ge (tgt := 25) d_N_hasEntry_5 (by decide) (fun h5 => ?_) (fun h5 => ?_)
  · have hb : bP (p < la ∧ ta p = t) = 0 := bP_f (fun q => absurd (i_le (by have := hl.1; omega) (by omega) h5) (by omega))
    refine j_iconst (v := 0) d_N_hasEntry_25 (by decide) ?_
    refine j_ireturn d_N_hasEntry_26 rfl rfl ?_ (by decide) (by decide)
    exact ⟨rfl, by rw [hb]⟩
  · have hpl := i_nle (by have := hl.1; omega) (by omega) h5
    obtain ⟨e, ei, g1, g2, g3, g4, g5, g6⟩ := hl.2.2 p hpl
    refine j_aload_n d_N_hasEntry_8 rfl ?_
    refine j_getR d_N_hasEntry_9 (by assumption) f_N_17_T rfl (by decide) (by assumption) ?_
    refine j_iload_n d_N_hasEntry_12 rfl ?_
    refine j_aaldR d_N_hasEntry_13 (by assumption) (by decide) ts_106 (aIx.n (by have := hl.1; omega) (by decide)) (by assumption) ?_
    refine j_geti d_N_hasEntry_14 (by assumption) (fe_N_43 g3 g4) (re_0 g3 g4) (by omega) ?_
    refine j_eqi g5 ?_
    refine j_iload_n d_N_hasEntry_17 rfl ?_
    refine j_icmp_ne (tgt := 25) d_N_hasEntry_18 (by decide) (fun h18 => ?_) (fun h18 => ?_)
    · have hb : bP (p < la ∧ ta p = t) = 0 := bP_f (fun q => h18 (by rw [q.2]))
      refine j_iconst (v := 0) d_N_hasEntry_25 (by decide) ?_
      refine j_ireturn d_N_hasEntry_26 rfl rfl ?_ (by decide) (by decide)
      exact ⟨rfl, by rw [hb]⟩
    · have hb : bP (p < la ∧ ta p = t) = 1 := bP_t ⟨hpl, i_eq (by omega) (by omega) h18⟩
      refine j_iconst (v := 1) d_N_hasEntry_21 (by decide) ?_
      refine j_goto 26 d_N_hasEntry_22 (by decide) ?_
      refine j_ireturn d_N_hasEntry_26 rfl rfl ?_ (by decide) (by decide)
      exact ⟨rfl, by rw [hb]⟩
set_option maxRecDepth 20000 in
set_option maxHeartbeats 1000000 in
theorem k_write_T (M : aM) (a len e ei : Nat) (hn : ndS M a 3) (hl : mI M a 3 = nI len) (hlen : len ≤ 80) (he : tO M e ei) (h5 : 5 ≤ ei) (h6 : ei ≤ 10) : aK m_N_write 0 0 0 M [.ref a, .ref e] (fun M1 r => if len = 80 then M1 = M ∧ r = some (.int (-3)) else M1 = sI (sR M (a + 1) len (some e)) a 3 (nI (len + 1)) ∧ r = some (.int (nI (len + 1)))) := by
  refine aK.of (by decide) (Nat.le_of_ble_eq_true rfl) ?_
  obtain ⟨ha, ha5, hA⟩ := hn
  have h60 := h6
  refine j_aload_n d_N_write_0 rfl ?_
  refine j_geti d_N_write_1 (by assumption) f_N_40_T rfl (by decide) ?_
  refine j_eqi hl ?_
  refine j_bipush (v := 80) d_N_write_4 (by decide) ?_
  refine j_icmp_ne (tgt := 12) d_N_write_6 (by decide) (fun h6 => ?_) (fun h6 => ?_)
  · have hne : ¬ len = 80 := fun q => h6 (by rw [q]; rfl)
    refine j_aload_n d_N_write_12 rfl ?_
    refine j_getR d_N_write_13 (by assumption) f_N_17_T rfl (by decide) (by assumption) ?_
    refine j_aload_n d_N_write_16 rfl ?_
    refine j_geti d_N_write_17 (by assumption) f_N_40_T rfl (by decide) ?_
    refine j_eqi hl ?_
    refine j_aload_n d_N_write_20 rfl ?_
    refine j_aast d_N_write_21 (by assumption) (by decide) (aIx.n (by omega) (by decide)) (by assumption) (by omega) (ca_any h5 h60) ?_
    refine j_aload_n d_N_write_22 rfl ?_
    refine j_dup d_N_write_23 ?_
    refine j_geti d_N_write_24 (by assumption) f_N_40_T rfl (by decide) ?_
    refine j_iconst (v := 1) d_N_write_27 (by decide) ?_
    refine j_iadd d_N_write_28 ?_
    refine j_eqi (show mI M a 3 + 1 = nI (len + 1) by rw [hl]; exact (nI_succ len).symm) ?_
    refine j_puti d_N_write_29 (by assumption) p_N_40_T rfl (by decide) rfl rfl ?_
    refine j_aload_n d_N_write_32 rfl ?_
    refine j_geti d_N_write_33 (by assumption) f_N_40_T rfl (by decide) ?_
    refine j_eqi (show _ = nI (len + 1) by rw [mm_I_sI, if_pos ⟨rfl, rfl⟩]) ?_
    refine j_ireturn d_N_write_36 rfl rfl ?_ (by decide) (by decide)
    rw [if_neg hne]
    exact ⟨rfl, rfl⟩
  · have hne : len = 80 := i_eq (b := 80) (by omega) (by decide) h6
    refine j_bipush (v := -3) d_N_write_9 (by decide) ?_
    refine j_ireturn d_N_write_11 rfl rfl ?_ (by decide) (by decide)
    rw [if_pos hne]
    exact ⟨rfl, rfl⟩
set_option maxRecDepth 20000 in
set_option maxHeartbeats 1000000 in
theorem k_countSame_T (M : aM) (a b la lb : Nat) (ta tb : Nat → Nat) (hn : ndS M a 3) (hm : ndS M b 3) (hl : lgT M a la ta) (hk : lgT M b lb tb) : aK m_N_countSame 1 0 0 M [.ref a, .ref b] (fun M1 r => M1 = M ∧ ∃ k, rCS la lb ta tb k ∧ r = some (.int (nI k))) := by
  refine aK.of (by decide) (Nat.le_of_ble_eq_true rfl) ?_
  obtain ⟨ha, ha5, hA⟩ := hn
  obtain ⟨hb, hb5, hB⟩ := hm
  obtain ⟨la80, hla, hl⟩ := hl
  obtain ⟨lb80, hlb, hk⟩ := hk
  have loop : ∀ (n i : Nat), i + n = min la lb → (∀ j, j < i → ta j = tb j) → aJ aX0 m_N_countSame 1 0 0 (fun M1 r => M1 = M ∧ ∃ k, rCS la lb ta tb k ∧ r = some (.int (nI k))) 0 0 14 [some (.ref a), some (.ref b), some (.int (nI (min la lb))), some (.int (nI i))] [] M := by
    intro n
    induction n with
    | zero =>
      intro i hi hj
      refine j_iload_n d_N_countSame_14 rfl ?_
      refine j_iload_n d_N_countSame_15 rfl ?_
      refine j_icmp_ge (tgt := 46) d_N_countSame_16 (by decide) (fun h16 => ?_) (fun h16 => False.elim (h16 (by rw [← hi]; exact nI_le (by omega) (by omega))))
      refine j_iload_n d_N_countSame_46 rfl ?_
      refine j_ireturn d_N_countSame_47 rfl rfl ⟨rfl, i, ⟨by omega, by omega, hj, by omega⟩, rfl⟩ (by decide) (by decide)
    | succ n ih =>
      intro i hi hj
      obtain ⟨e, ei, g1, g2, g3, g4, g5, g6⟩ := hl i (by omega)
      obtain ⟨e2, ei2, k1, k2, k3, k4, k5, k6⟩ := hk i (by omega)
      refine j_iload_n d_N_countSame_14 rfl ?_
      refine j_iload_n d_N_countSame_15 rfl ?_
      refine j_icmp_ge (tgt := 46) d_N_countSame_16 (by decide) (fun h16 => False.elim (nI_ge (a := i) (b := min la lb) (by omega) (by omega) h16)) (fun h16 => ?_)
      refine j_aload_n d_N_countSame_19 rfl ?_
      refine j_getR d_N_countSame_20 (by assumption) f_N_17_T rfl (by decide) (by assumption) ?_
      refine j_iload_n d_N_countSame_23 rfl ?_
      refine j_aaldR d_N_countSame_24 (by assumption) (by decide) ts_106 (aIx.n (by omega) (by decide)) (by assumption) ?_
      refine j_geti d_N_countSame_25 (by assumption) (fe_N_43 g3 g4) (re_0 g3 g4) (by omega) ?_
      refine j_eqi g5 ?_
      refine j_aload_n d_N_countSame_28 rfl ?_
      refine j_getR d_N_countSame_29 (by assumption) f_N_17_T rfl (by decide) (by assumption) ?_
      refine j_iload_n d_N_countSame_32 rfl ?_
      refine j_aaldR d_N_countSame_33 (by assumption) (by decide) ts_106 (aIx.n (by omega) (by decide)) (by assumption) ?_
      refine j_geti d_N_countSame_34 (by assumption) (fe_N_43 k3 k4) (re_0 k3 k4) (by omega) ?_
      refine j_eqi k5 ?_
      refine j_icmp_ne (tgt := 46) d_N_countSame_37 (by decide) (fun h37 => ?_) (fun h37 => ?_)
      · have hne := i_ne (by omega) (by omega) h37
        refine j_iload_n d_N_countSame_46 rfl ?_
        refine j_ireturn d_N_countSame_47 rfl rfl ⟨rfl, i, ⟨by omega, by omega, hj, fun q => hne q.2.2⟩, rfl⟩ (by decide) (by decide)
      · have hee := i_eq (by omega) (by omega) h37
        refine j_iinc (nI (i + 1)) d_N_countSame_40 rfl (nI_inc i) (by decide) ?_
        refine j_goto 14 d_N_countSame_43 (by decide) ?_
        -- at 14
        refine ih (i + 1) (by omega) (fun j h => ?_)
        by_cases hji : j = i
        · rw [hji]; exact hee
        · exact hj j (by omega)
  refine j_aload_n d_N_countSame_0 rfl ?_
  refine j_geti d_N_countSame_1 (by assumption) f_N_40_T rfl (by decide) ?_
  refine j_eqi hla ?_
  refine j_aload_n d_N_countSame_4 rfl ?_
  refine j_geti d_N_countSame_5 (by assumption) f_N_40_T rfl (by decide) ?_
  refine j_eqi hlb ?_
  refine j_min d_N_countSame_8 w267 w268 w8 w269 (by decide) (Nat.le_of_ble_eq_true rfl) (by decide) (by decide) ?_
  refine j_eqi (i_min (by omega) (by omega)) ?_
  refine j_istore_n d_N_countSame_11 (by decide) ?_
  refine j_iconst (v := 0) d_N_countSame_12 (by decide) ?_
  refine j_istore_n d_N_countSame_13 (by decide) ?_
  -- at 14
  exact loop (min la lb) 0 (by omega) (fun j h => absurd h (Nat.not_lt_zero j))
