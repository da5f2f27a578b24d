theorem cSh_V {M : aM} (h : cSh M) {n : Nat} (hn : n < 3) : ndS M (nd n) 2 := by
  have := (h.2.2.2.2.2.2.2.2.1 n (by omega)).2
  unfold nc at this
  rw [if_pos hn] at this
  exact this
theorem cSh_T {M : aM} (h : cSh M) {n : Nat} (h3 : 3 ≤ n) (hn : n < 12) : ndS M (nd n) 3 := by
  have := (h.2.2.2.2.2.2.2.2.1 n hn).2
  unfold nc at this
  rw [if_neg (by omega)] at this
  exact this
def dN (x : Int32) (N : Nat) : Option Nat := if 0 ≤ x ∧ x < nI N then some x.toNatClampNeg else none
theorem dN_in {n N : Nat} (h : n < N) (hN : N < 2 ^ 31) : dN (nI n) N = some n := by
  unfold dN
  rw [if_pos ⟨nI_pos' (by omega), nI_lt h hN⟩, nI_clamp (by omega)]
theorem dN_out {x : Int32} {N : Nat} (h : x < 0 ∨ nI N ≤ x) : dN x N = none := by
  unfold dN
  rw [if_neg]
  rintro ⟨a, b⟩
  rcases h with h | h
  · exact Int32.not_lt.mpr a h
  · exact Int32.not_lt.mpr h b
theorem dN_cases (x : Int32) {N : Nat} (hN : N < 2 ^ 31) : (dN x N = none ∧ (x < 0 ∨ nI N ≤ x)) ∨ ∃ n, n < N ∧ x = nI n ∧ dN x N = some n := by
  rcases pk_ix x hN with h | h | ⟨j, h1, h2⟩
  · exact Or.inl ⟨dN_out (Or.inl h), Or.inl h⟩
  · exact Or.inl ⟨dN_out (Or.inr h), Or.inr h⟩
  · exact Or.inr ⟨j, h1, h2, by rw [h2]; exact dN_in h1 hN⟩
/-- no node of this number is up -/
def nUp (M : aM) (x : Int32) : Prop := (x < 0 ∨ nI 12 ≤ x) ∨ ∃ n, n < 12 ∧ x = nI n ∧ mI M (nd n) 0 = 0

set_option maxRecDepth 20000 in
set_option maxHeartbeats 1000000 in
theorem k_anyNode (M : aM) (n : Nat) (h : cSh M) (hn : n < 12) : aK m_S_anyNode 0 0 0 M [.ref 0, .int (nI n)] (fun M1 r => M1 = M ∧ r = some (.ref (nd n))) := by
  refine aK.of (by decide) (Nat.le_of_ble_eq_true rfl) ?_
  have h0 := h.2.1
  have hr0 := h.2.2.1
  have hr1 := h.2.2.2.1
  have hr2 := h.2.2.2.2.1
  have hA1 := h.2.2.2.2.2.1
  have hA2 := h.2.2.2.2.2.2.1
  have hA3 := h.2.2.2.2.2.2.2.1
  refine j_iload_n d_S_anyNode_0 rfl ?_
  refine j_if_lt (tgt := 19) d_S_anyNode_1 (by decide) (fun h1 => False.elim (nI_pos (by omega) h1)) (fun h1 => ?_)
  refine j_iload_n d_S_anyNode_4 rfl ?_
  refine j_bipush (v := 12) d_S_anyNode_5 (by decide) ?_
  refine j_icmp_ge (tgt := 19) d_S_anyNode_7 (by decide) (fun h7 => False.elim (nI_ge (b := 12) hn (by decide) h7)) (fun h7 => ?_)
  refine j_aload_n d_S_anyNode_10 rfl ?_
  refine j_getR d_S_anyNode_11 (by assumption) f_S_11_S rfl (by decide) (by assumption) ?_
  refine j_iload_n d_S_anyNode_14 rfl ?_
  refine j_aaldR d_S_anyNode_15 (by assumption) (by decide) ts_102 (aIx.n hn (by decide)) (h.2.2.2.2.2.2.2.2.1 n hn).1 ?_
  refine j_goto 20 d_S_anyNode_16 (by decide) ?_
  refine j_areturn d_S_anyNode_20 rfl ?_ (by decide) (by decide)
  exact ⟨rfl, rfl⟩
set_option maxRecDepth 20000 in
set_option maxHeartbeats 1000000 in
theorem k_anyNode_0 (M : aM) (x : Int32) (hx : x < 0 ∨ nI 12 ≤ x) : aK m_S_anyNode 0 0 0 M [.ref 0, .int x] (fun M1 r => M1 = M ∧ r = some .null) := by
  refine aK.of (by decide) (Nat.le_of_ble_eq_true rfl) ?_
  refine j_iload_n d_S_anyNode_0 rfl ?_
  refine j_if_lt (tgt := 19) d_S_anyNode_1 (by decide) (fun h1 => ?_) (fun h1 => ?_)
  · refine j_null d_S_anyNode_19 ?_
    refine j_areturnN d_S_anyNode_20 rfl ?_ (by decide) (by decide)
    exact ⟨rfl, rfl⟩
  · refine j_iload_n d_S_anyNode_4 rfl ?_
    refine j_bipush (v := 12) d_S_anyNode_5 (by decide) ?_
    refine j_icmp_ge (tgt := 19) d_S_anyNode_7 (by decide) (fun h7 => ?_) (fun h7 => False.elim (hx.elim h1 h7))
    refine j_null d_S_anyNode_19 ?_
    refine j_areturnN d_S_anyNode_20 rfl ?_ (by decide) (by decide)
    exact ⟨rfl, rfl⟩
set_option maxRecDepth 20000 in
set_option maxHeartbeats 1000000 in
theorem k_anyService (M : aM) (n : Nat) (h : cSh M) (hn : n < 3) : aK m_S_anyService 0 0 0 M [.ref 0, .int (nI n)] (fun M1 r => M1 = M ∧ r = some (.ref (nd n))) := by
  refine aK.of (by decide) (Nat.le_of_ble_eq_true rfl) ?_
  have h0 := h.2.1
  have hr0 := h.2.2.1
  have hr1 := h.2.2.2.1
  have hr2 := h.2.2.2.2.1
  have hA1 := h.2.2.2.2.2.1
  have hA2 := h.2.2.2.2.2.2.1
  have hA3 := h.2.2.2.2.2.2.2.1
  refine j_iload_n d_S_anyService_0 rfl ?_
  refine j_if_lt (tgt := 18) d_S_anyService_1 (by decide) (fun h1 => False.elim (nI_pos (by omega) h1)) (fun h1 => ?_)
  refine j_iload_n d_S_anyService_4 rfl ?_
  refine j_iconst (v := 3) d_S_anyService_5 (by decide) ?_
  refine j_icmp_ge (tgt := 18) d_S_anyService_6 (by decide) (fun h6 => False.elim (nI_ge (b := 3) hn (by decide) h6)) (fun h6 => ?_)
  refine j_aload_n d_S_anyService_9 rfl ?_
  refine j_getR d_S_anyService_10 (by assumption) f_S_17_S rfl (by decide) (by assumption) ?_
  refine j_iload_n d_S_anyService_13 rfl ?_
  refine j_aaldR d_S_anyService_14 (by assumption) (by decide) ts_103 (aIx.n hn (by decide)) (h.2.2.2.2.2.2.2.2.2.1 n hn).1 ?_
  refine j_goto 19 d_S_anyService_15 (by decide) ?_
  refine j_areturn d_S_anyService_19 rfl ?_ (by decide) (by decide)
  exact ⟨rfl, rfl⟩
set_option maxRecDepth 20000 in
set_option maxHeartbeats 1000000 in
theorem k_anyService_0 (M : aM) (x : Int32) (hx : x < 0 ∨ nI 3 ≤ x) : aK m_S_anyService 0 0 0 M [.ref 0, .int x] (fun M1 r => M1 = M ∧ r = some .null) := by
  refine aK.of (by decide) (Nat.le_of_ble_eq_true rfl) ?_
  refine j_iload_n d_S_anyService_0 rfl ?_
  refine j_if_lt (tgt := 18) d_S_anyService_1 (by decide) (fun h1 => ?_) (fun h1 => ?_)
  · refine j_null d_S_anyService_18 ?_
    refine j_areturnN d_S_anyService_19 rfl ?_ (by decide) (by decide)
    exact ⟨rfl, rfl⟩
  · refine j_iload_n d_S_anyService_4 rfl ?_
    refine j_iconst (v := 3) d_S_anyService_5 (by decide) ?_
    refine j_icmp_ge (tgt := 18) d_S_anyService_6 (by decide) (fun h6 => ?_) (fun h6 => False.elim (hx.elim h1 h6))
    refine j_null d_S_anyService_18 ?_
    refine j_areturnN d_S_anyService_19 rfl ?_ (by decide) (by decide)
    exact ⟨rfl, rfl⟩
set_option maxRecDepth 20000 in
set_option maxHeartbeats 1000000 in
theorem k_anyStore (M : aM) (n : Nat) (h : cSh M) (h3 : 3 ≤ n) (hn : n < 12) : aK m_S_anyStore 0 0 0 M [.ref 0, .int (nI n)] (fun M1 r => M1 = M ∧ r = some (.ref (nd n))) := by
  refine aK.of (by decide) (Nat.le_of_ble_eq_true rfl) ?_
  have h0 := h.2.1
  have hr0 := h.2.2.1
  have hr1 := h.2.2.2.1
  have hr2 := h.2.2.2.2.1
  have hA1 := h.2.2.2.2.2.1
  have hA2 := h.2.2.2.2.2.2.1
  have hA3 := h.2.2.2.2.2.2.2.1
  refine j_iload_n d_S_anyStore_0 rfl ?_
  refine j_iconst (v := 3) d_S_anyStore_1 (by decide) ?_
  refine j_icmp_lt (tgt := 22) d_S_anyStore_2 (by decide) (fun h2 => False.elim (nI_nlt (b := 3) h3 (by omega) h2)) (fun h2 => ?_)
  refine j_iload_n d_S_anyStore_5 rfl ?_
  refine j_bipush (v := 12) d_S_anyStore_6 (by decide) ?_
  refine j_icmp_ge (tgt := 22) d_S_anyStore_8 (by decide) (fun h8 => False.elim (nI_ge (b := 12) hn (by decide) h8)) (fun h8 => ?_)
  refine j_aload_n d_S_anyStore_11 rfl ?_
  refine j_getR d_S_anyStore_12 (by assumption) f_S_23_S rfl (by decide) (by assumption) ?_
  refine j_iload_n d_S_anyStore_15 rfl ?_
  refine j_iconst (v := 3) d_S_anyStore_16 (by decide) ?_
  refine j_isub d_S_anyStore_17 ?_
  refine j_eqi (pk_sub (b := 3) h3) ?_
  refine j_aaldR d_S_anyStore_18 (by assumption) (by decide) ts_104 (aIx.n (by omega) (by decide)) (by have := h.2.2.2.2.2.2.2.2.2.2.1 (n - 3) (by omega); rw [show 3 + (n - 3) = n by omega] at this; exact this) ?_
  refine j_goto 23 d_S_anyStore_19 (by decide) ?_
  refine j_areturn d_S_anyStore_23 rfl ?_ (by decide) (by decide)
  exact ⟨rfl, rfl⟩
set_option maxRecDepth 20000 in
set_option maxHeartbeats 1000000 in
theorem k_anyStore_0 (M : aM) (x : Int32) (hx : x < 3 ∨ nI 12 ≤ x) : aK m_S_anyStore 0 0 0 M [.ref 0, .int x] (fun M1 r => M1 = M ∧ r = some .null) := by
  refine aK.of (by decide) (Nat.le_of_ble_eq_true rfl) ?_
  refine j_iload_n d_S_anyStore_0 rfl ?_
  refine j_iconst (v := 3) d_S_anyStore_1 (by decide) ?_
  refine j_icmp_lt (tgt := 22) d_S_anyStore_2 (by decide) (fun h2 => ?_) (fun h2 => ?_)
  · refine j_null d_S_anyStore_22 ?_
    refine j_areturnN d_S_anyStore_23 rfl ?_ (by decide) (by decide)
    exact ⟨rfl, rfl⟩
  · refine j_iload_n d_S_anyStore_5 rfl ?_
    refine j_bipush (v := 12) d_S_anyStore_6 (by decide) ?_
    refine j_icmp_ge (tgt := 22) d_S_anyStore_8 (by decide) (fun h8 => ?_) (fun h8 => False.elim (hx.elim h2 h8))
    refine j_null d_S_anyStore_22 ?_
    refine j_areturnN d_S_anyStore_23 rfl ?_ (by decide) (by decide)
    exact ⟨rfl, rfl⟩
set_option maxRecDepth 20000 in
set_option maxHeartbeats 1000000 in
theorem k_upNode_V (M : aM) (n : Nat) (h : cSh M) (hn : n < 3) (hu : mI M (nd n) 0 ≠ 0) : aK m_S_upNode 1 0 0 M [.ref 0, .int (nI n)] (fun M1 r => M1 = M ∧ r = some (.ref (nd n))) := by
  refine aK.of (by decide) (Nat.le_of_ble_eq_true rfl) ?_
  have h0 := h.2.1
  have hr0 := h.2.2.1
  have hr1 := h.2.2.2.1
  have hr2 := h.2.2.2.2.1
  have hA1 := h.2.2.2.2.2.1
  have hA2 := h.2.2.2.2.2.2.1
  have hA3 := h.2.2.2.2.2.2.2.1
  have hN := (cSh_V h hn).1
  refine j_aload_n d_S_upNode_0 rfl ?_
  refine j_iload_n d_S_upNode_1 rfl ?_
  refine j_callV (vs := [_]) d_S_upNode_2 (by assumption) (by decide) rfl w190 w192 w1 w193 ws_S_anyNode y_S_anyNode (by decide) (by decide) (k_anyNode M n h (by omega)) rfl (Nat.le_of_ble_eq_true rfl) (by decide) (by decide) (fun M1 r1 hq1 => ?_)
  obtain ⟨rfl, rfl⟩ := hq1
  refine j_astore_n d_S_upNode_5 (by decide) ?_
  refine j_aload_n d_S_upNode_6 rfl ?_
  refine j_ifnull d_S_upNode_7 ?_
  refine j_aload_n d_S_upNode_10 rfl ?_
  refine j_geti d_S_upNode_11 (by assumption) f_S_44_V rfl (by decide) ?_
  refine j_if_eq (tgt := 21) d_S_upNode_14 (by decide) (fun h14 => False.elim (hu h14)) (fun h14 => ?_)
  refine j_aload_n d_S_upNode_17 rfl ?_
  refine j_goto 22 d_S_upNode_18 (by decide) ?_
  refine j_areturn d_S_upNode_22 rfl ?_ (by decide) (by decide)
  exact ⟨rfl, rfl⟩
set_option maxRecDepth 20000 in
set_option maxHeartbeats 1000000 in
theorem k_upNode_V0 (M : aM) (n : Nat) (h : cSh M) (hn : n < 3) (hu : mI M (nd n) 0 = 0) : aK m_S_upNode 1 0 0 M [.ref 0, .int (nI n)] (fun M1 r => M1 = M ∧ r = some .null) := by
  refine aK.of (by decide) (Nat.le_of_ble_eq_true rfl) ?_
  have h0 := h.2.1
  have hr0 := h.2.2.1
  have hr1 := h.2.2.2.1
  have hr2 := h.2.2.2.2.1
  have hA1 := h.2.2.2.2.2.1
  have hA2 := h.2.2.2.2.2.2.1
  have hA3 := h.2.2.2.2.2.2.2.1
  have hN := (cSh_V h hn).1
  refine j_aload_n d_S_upNode_0 rfl ?_
  refine j_iload_n d_S_upNode_1 rfl ?_
  refine j_callV (vs := [_]) d_S_upNode_2 (by assumption) (by decide) rfl w190 w192 w1 w193 ws_S_anyNode y_S_anyNode (by decide) (by decide) (k_anyNode M n h (by omega)) rfl (Nat.le_of_ble_eq_true rfl) (by decide) (by decide) (fun M1 r1 hq1 => ?_)
  obtain ⟨rfl, rfl⟩ := hq1
  refine j_astore_n d_S_upNode_5 (by decide) ?_
  refine j_aload_n d_S_upNode_6 rfl ?_
  refine j_ifnull d_S_upNode_7 ?_
  refine j_aload_n d_S_upNode_10 rfl ?_
  refine j_geti d_S_upNode_11 (by assumption) f_S_44_V rfl (by decide) ?_
  refine j_if_eq (tgt := 21) d_S_upNode_14 (by decide) (fun h14 => ?_) (fun h14 => False.elim (h14 hu))
  refine j_null d_S_upNode_21 ?_
  refine j_areturnN d_S_upNode_22 rfl ?_ (by decide) (by decide)
  exact ⟨rfl, rfl⟩
set_option maxRecDepth 20000 in
set_option maxHeartbeats 1000000 in
theorem k_upV (M : aM) (n : Nat) (h : cSh M) (hn : n < 3) (hu : mI M (nd n) 0 ≠ 0) : aK m_S_upService 1 0 0 M [.ref 0, .int (nI n)] (fun M1 r => M1 = M ∧ r = some (.ref (nd n))) := by
  refine aK.of (by decide) (Nat.le_of_ble_eq_true rfl) ?_
  have h0 := h.2.1
  have hr0 := h.2.2.1
  have hr1 := h.2.2.2.1
  have hr2 := h.2.2.2.2.1
  have hA1 := h.2.2.2.2.2.1
  have hA2 := h.2.2.2.2.2.2.1
  have hA3 := h.2.2.2.2.2.2.2.1
  have hN := (cSh_V h hn).1
  refine j_aload_n d_S_upService_0 rfl ?_
  refine j_iload_n d_S_upService_1 rfl ?_
  refine j_callV (vs := [_]) d_S_upService_2 (by assumption) (by decide) rfl w426 w428 w1 w429 ws_S_anyService y_S_anyService (by decide) (by decide) (k_anyService M n h hn) rfl (Nat.le_of_ble_eq_true rfl) (by decide) (by decide) (fun M1 r1 hq1 => ?_)
  obtain ⟨rfl, rfl⟩ := hq1
  refine j_astore_n d_S_upService_5 (by decide) ?_
  refine j_aload_n d_S_upService_6 rfl ?_
  refine j_ifnull d_S_upService_7 ?_
  refine j_aload_n d_S_upService_10 rfl ?_
  refine j_geti d_S_upService_11 (by assumption) f_S_217_V rfl (by decide) ?_
  refine j_if_eq (tgt := 21) d_S_upService_14 (by decide) (fun h14 => False.elim (hu h14)) (fun h14 => ?_)
  refine j_aload_n d_S_upService_17 rfl ?_
  refine j_goto 22 d_S_upService_18 (by decide) ?_
  refine j_areturn d_S_upService_22 rfl ?_ (by decide) (by decide)
  exact ⟨rfl, rfl⟩
set_option maxRecDepth 20000 in
set_option maxHeartbeats 1000000 in
theorem k_upV_1 (M : aM) (n : Nat) (h : cSh M) (hn : n < 3) (hu : mI M (nd n) 0 = 0) : aK m_S_upService 1 0 0 M [.ref 0, .int (nI n)] (fun M1 r => M1 = M ∧ r = some .null) := by
  refine aK.of (by decide) (Nat.le_of_ble_eq_true rfl) ?_
  have h0 := h.2.1
  have hr0 := h.2.2.1
  have hr1 := h.2.2.2.1
  have hr2 := h.2.2.2.2.1
  have hA1 := h.2.2.2.2.2.1
  have hA2 := h.2.2.2.2.2.2.1
  have hA3 := h.2.2.2.2.2.2.2.1
  have hN := (cSh_V h hn).1
  refine j_aload_n d_S_upService_0 rfl ?_
  refine j_iload_n d_S_upService_1 rfl ?_
  refine j_callV (vs := [_]) d_S_upService_2 (by assumption) (by decide) rfl w426 w428 w1 w429 ws_S_anyService y_S_anyService (by decide) (by decide) (k_anyService M n h hn) rfl (Nat.le_of_ble_eq_true rfl) (by decide) (by decide) (fun M1 r1 hq1 => ?_)
  obtain ⟨rfl, rfl⟩ := hq1
  refine j_astore_n d_S_upService_5 (by decide) ?_
  refine j_aload_n d_S_upService_6 rfl ?_
  refine j_ifnull d_S_upService_7 ?_
  refine j_aload_n d_S_upService_10 rfl ?_
  refine j_geti d_S_upService_11 (by assumption) f_S_217_V rfl (by decide) ?_
  refine j_if_eq (tgt := 21) d_S_upService_14 (by decide) (fun h14 => ?_) (fun h14 => False.elim (h14 hu))
  refine j_null d_S_upService_21 ?_
  refine j_areturnN d_S_upService_22 rfl ?_ (by decide) (by decide)
  exact ⟨rfl, rfl⟩
set_option maxRecDepth 20000 in
set_option maxHeartbeats 1000000 in
theorem k_upV_2 (M : aM) (x : Int32) (h : cSh M) (hx : x < 0 ∨ nI 3 ≤ x) : aK m_S_upService 1 0 0 M [.ref 0, .int x] (fun M1 r => M1 = M ∧ r = some .null) := by
  refine aK.of (by decide) (Nat.le_of_ble_eq_true rfl) ?_
  have h0 := h.2.1
  have hr0 := h.2.2.1
  have hr1 := h.2.2.2.1
  have hr2 := h.2.2.2.2.1
  have hA1 := h.2.2.2.2.2.1
  have hA2 := h.2.2.2.2.2.2.1
  have hA3 := h.2.2.2.2.2.2.2.1
  refine j_aload_n d_S_upService_0 rfl ?_
  refine j_iload_n d_S_upService_1 rfl ?_
  refine j_callV (vs := [_]) d_S_upService_2 (by assumption) (by decide) rfl w426 w428 w1 w429 ws_S_anyService y_S_anyService (by decide) (by decide) (k_anyService_0 M x hx) rfl (Nat.le_of_ble_eq_true rfl) (by decide) (by decide) (fun M1 r1 hq1 => ?_)
  obtain ⟨rfl, rfl⟩ := hq1
  refine j_astore_nN d_S_upService_5 (by decide) ?_
  refine j_aload_nN d_S_upService_6 rfl ?_
  refine j_ifnullN 21 d_S_upService_7 (by decide) ?_
  refine j_null d_S_upService_21 ?_
  refine j_areturnN d_S_upService_22 rfl ?_ (by decide) (by decide)
  exact ⟨rfl, rfl⟩
set_option maxRecDepth 20000 in
set_option maxHeartbeats 1000000 in
theorem k_upNode_T (M : aM) (n : Nat) (h : cSh M) (h3 : 3 ≤ n) (hn : n < 12) (hu : mI M (nd n) 0 ≠ 0) : aK m_S_upNode 1 0 0 M [.ref 0, .int (nI n)] (fun M1 r => M1 = M ∧ r = some (.ref (nd n))) := by
  refine aK.of (by decide) (Nat.le_of_ble_eq_true rfl) ?_
  have h0 := h.2.1
  have hr0 := h.2.2.1
  have hr1 := h.2.2.2.1
  have hr2 := h.2.2.2.2.1
  have hA1 := h.2.2.2.2.2.1
  have hA2 := h.2.2.2.2.2.2.1
  have hA3 := h.2.2.2.2.2.2.2.1
  have hN := (cSh_T h h3 hn).1
  refine j_aload_n d_S_upNode_0 rfl ?_
  refine j_iload_n d_S_upNode_1 rfl ?_
  refine j_callV (vs := [_]) d_S_upNode_2 (by assumption) (by decide) rfl w190 w192 w1 w193 ws_S_anyNode y_S_anyNode (by decide) (by decide) (k_anyNode M n h (by omega)) rfl (Nat.le_of_ble_eq_true rfl) (by decide) (by decide) (fun M1 r1 hq1 => ?_)
  obtain ⟨rfl, rfl⟩ := hq1
  refine j_astore_n d_S_upNode_5 (by decide) ?_
  refine j_aload_n d_S_upNode_6 rfl ?_
  refine j_ifnull d_S_upNode_7 ?_
  refine j_aload_n d_S_upNode_10 rfl ?_
  refine j_geti d_S_upNode_11 (by assumption) f_S_44_T rfl (by decide) ?_
  refine j_if_eq (tgt := 21) d_S_upNode_14 (by decide) (fun h14 => False.elim (hu h14)) (fun h14 => ?_)
  refine j_aload_n d_S_upNode_17 rfl ?_
  refine j_goto 22 d_S_upNode_18 (by decide) ?_
  refine j_areturn d_S_upNode_22 rfl ?_ (by decide) (by decide)
  exact ⟨rfl, rfl⟩
set_option maxRecDepth 20000 in
set_option maxHeartbeats 1000000 in
theorem k_upNode_T0 (M : aM) (n : Nat) (h : cSh M) (h3 : 3 ≤ n) (hn : n < 12) (hu : mI M (nd n) 0 = 0) : aK m_S_upNode 1 0 0 M [.ref 0, .int (nI n)] (fun M1 r => M1 = M ∧ r = some .null) := by
  refine aK.of (by decide) (Nat.le_of_ble_eq_true rfl) ?_
  have h0 := h.2.1
  have hr0 := h.2.2.1
  have hr1 := h.2.2.2.1
  have hr2 := h.2.2.2.2.1
  have hA1 := h.2.2.2.2.2.1
  have hA2 := h.2.2.2.2.2.2.1
  have hA3 := h.2.2.2.2.2.2.2.1
  have hN := (cSh_T h h3 hn).1
  refine j_aload_n d_S_upNode_0 rfl ?_
  refine j_iload_n d_S_upNode_1 rfl ?_
  refine j_callV (vs := [_]) d_S_upNode_2 (by assumption) (by decide) rfl w190 w192 w1 w193 ws_S_anyNode y_S_anyNode (by decide) (by decide) (k_anyNode M n h (by omega)) rfl (Nat.le_of_ble_eq_true rfl) (by decide) (by decide) (fun M1 r1 hq1 => ?_)
  obtain ⟨rfl, rfl⟩ := hq1
  refine j_astore_n d_S_upNode_5 (by decide) ?_
  refine j_aload_n d_S_upNode_6 rfl ?_
  refine j_ifnull d_S_upNode_7 ?_
  refine j_aload_n d_S_upNode_10 rfl ?_
  refine j_geti d_S_upNode_11 (by assumption) f_S_44_T rfl (by decide) ?_
  refine j_if_eq (tgt := 21) d_S_upNode_14 (by decide) (fun h14 => ?_) (fun h14 => False.elim (h14 hu))
  refine j_null d_S_upNode_21 ?_
  refine j_areturnN d_S_upNode_22 rfl ?_ (by decide) (by decide)
  exact ⟨rfl, rfl⟩
set_option maxRecDepth 20000 in
set_option maxHeartbeats 1000000 in
theorem k_upT (M : aM) (n : Nat) (h : cSh M) (h3 : 3 ≤ n) (hn : n < 12) (hu : mI M (nd n) 0 ≠ 0) : aK m_S_upStore 1 0 0 M [.ref 0, .int (nI n)] (fun M1 r => M1 = M ∧ r = some (.ref (nd n))) := by
  refine aK.of (by decide) (Nat.le_of_ble_eq_true rfl) ?_
  have h0 := h.2.1
  have hr0 := h.2.2.1
  have hr1 := h.2.2.2.1
  have hr2 := h.2.2.2.2.1
  have hA1 := h.2.2.2.2.2.1
  have hA2 := h.2.2.2.2.2.2.1
  have hA3 := h.2.2.2.2.2.2.2.1
  have hN := (cSh_T h h3 hn).1
  refine j_aload_n d_S_upStore_0 rfl ?_
  refine j_iload_n d_S_upStore_1 rfl ?_
  refine j_callV (vs := [_]) d_S_upStore_2 (by assumption) (by decide) rfl w467 w469 w1 w470 ws_S_anyStore y_S_anyStore (by decide) (by decide) (k_anyStore M n h h3 hn) rfl (Nat.le_of_ble_eq_true rfl) (by decide) (by decide) (fun M1 r1 hq1 => ?_)
  obtain ⟨rfl, rfl⟩ := hq1
  refine j_astore_n d_S_upStore_5 (by decide) ?_
  refine j_aload_n d_S_upStore_6 rfl ?_
  refine j_ifnull d_S_upStore_7 ?_
  refine j_aload_n d_S_upStore_10 rfl ?_
  refine j_geti d_S_upStore_11 (by assumption) f_S_218_T rfl (by decide) ?_
  refine j_if_eq (tgt := 21) d_S_upStore_14 (by decide) (fun h14 => False.elim (hu h14)) (fun h14 => ?_)
  refine j_aload_n d_S_upStore_17 rfl ?_
  refine j_goto 22 d_S_upStore_18 (by decide) ?_
  refine j_areturn d_S_upStore_22 rfl ?_ (by decide) (by decide)
  exact ⟨rfl, rfl⟩
set_option maxRecDepth 20000 in
set_option maxHeartbeats 1000000 in
theorem k_upT_1 (M : aM) (n : Nat) (h : cSh M) (h3 : 3 ≤ n) (hn : n < 12) (hu : mI M (nd n) 0 = 0) : aK m_S_upStore 1 0 0 M [.ref 0, .int (nI n)] (fun M1 r => M1 = M ∧ r = some .null) := by
  refine aK.of (by decide) (Nat.le_of_ble_eq_true rfl) ?_
  have h0 := h.2.1
  have hr0 := h.2.2.1
  have hr1 := h.2.2.2.1
  have hr2 := h.2.2.2.2.1
  have hA1 := h.2.2.2.2.2.1
  have hA2 := h.2.2.2.2.2.2.1
  have hA3 := h.2.2.2.2.2.2.2.1
  have hN := (cSh_T h h3 hn).1
  refine j_aload_n d_S_upStore_0 rfl ?_
  refine j_iload_n d_S_upStore_1 rfl ?_
  refine j_callV (vs := [_]) d_S_upStore_2 (by assumption) (by decide) rfl w467 w469 w1 w470 ws_S_anyStore y_S_anyStore (by decide) (by decide) (k_anyStore M n h h3 hn) rfl (Nat.le_of_ble_eq_true rfl) (by decide) (by decide) (fun M1 r1 hq1 => ?_)
  obtain ⟨rfl, rfl⟩ := hq1
  refine j_astore_n d_S_upStore_5 (by decide) ?_
  refine j_aload_n d_S_upStore_6 rfl ?_
  refine j_ifnull d_S_upStore_7 ?_
  refine j_aload_n d_S_upStore_10 rfl ?_
  refine j_geti d_S_upStore_11 (by assumption) f_S_218_T rfl (by decide) ?_
  refine j_if_eq (tgt := 21) d_S_upStore_14 (by decide) (fun h14 => ?_) (fun h14 => False.elim (h14 hu))
  refine j_null d_S_upStore_21 ?_
  refine j_areturnN d_S_upStore_22 rfl ?_ (by decide) (by decide)
  exact ⟨rfl, rfl⟩
set_option maxRecDepth 20000 in
set_option maxHeartbeats 1000000 in
theorem k_upT_2 (M : aM) (x : Int32) (h : cSh M) (hx : x < 3 ∨ nI 12 ≤ x) : aK m_S_upStore 1 0 0 M [.ref 0, .int x] (fun M1 r => M1 = M ∧ r = some .null) := by
  refine aK.of (by decide) (Nat.le_of_ble_eq_true rfl) ?_
  have h0 := h.2.1
  have hr0 := h.2.2.1
  have hr1 := h.2.2.2.1
  have hr2 := h.2.2.2.2.1
  have hA1 := h.2.2.2.2.2.1
  have hA2 := h.2.2.2.2.2.2.1
  have hA3 := h.2.2.2.2.2.2.2.1
  refine j_aload_n d_S_upStore_0 rfl ?_
  refine j_iload_n d_S_upStore_1 rfl ?_
  refine j_callV (vs := [_]) d_S_upStore_2 (by assumption) (by decide) rfl w467 w469 w1 w470 ws_S_anyStore y_S_anyStore (by decide) (by decide) (k_anyStore_0 M x hx) rfl (Nat.le_of_ble_eq_true rfl) (by decide) (by decide) (fun M1 r1 hq1 => ?_)
  obtain ⟨rfl, rfl⟩ := hq1
  refine j_astore_nN d_S_upStore_5 (by decide) ?_
  refine j_aload_nN d_S_upStore_6 rfl ?_
  refine j_ifnullN 21 d_S_upStore_7 (by decide) ?_
  refine j_null d_S_upStore_21 ?_
  refine j_areturnN d_S_upStore_22 rfl ?_ (by decide) (by decide)
  exact ⟨rfl, rfl⟩
set_option maxRecDepth 20000 in
set_option maxHeartbeats 1000000 in
theorem k_upNode_2 (M : aM) (x : Int32) (h : cSh M) (hx : x < 0 ∨ nI 12 ≤ x) : aK m_S_upNode 1 0 0 M [.ref 0, .int x] (fun M1 r => M1 = M ∧ r = some .null) := by
  refine aK.of (by decide) (Nat.le_of_ble_eq_true rfl) ?_
  have h0 := h.2.1
  have hr0 := h.2.2.1
  have hr1 := h.2.2.2.1
  have hr2 := h.2.2.2.2.1
  have hA1 := h.2.2.2.2.2.1
  have hA2 := h.2.2.2.2.2.2.1
  have hA3 := h.2.2.2.2.2.2.2.1
  refine j_aload_n d_S_upNode_0 rfl ?_
  refine j_iload_n d_S_upNode_1 rfl ?_
  refine j_callV (vs := [_]) d_S_upNode_2 (by assumption) (by decide) rfl w190 w192 w1 w193 ws_S_anyNode y_S_anyNode (by decide) (by decide) (k_anyNode_0 M x hx) rfl (Nat.le_of_ble_eq_true rfl) (by decide) (by decide) (fun M1 r1 hq1 => ?_)
  obtain ⟨rfl, rfl⟩ := hq1
  refine j_astore_nN d_S_upNode_5 (by decide) ?_
  refine j_aload_nN d_S_upNode_6 rfl ?_
  refine j_ifnullN 21 d_S_upNode_7 (by decide) ?_
  refine j_null d_S_upNode_21 ?_
  refine j_areturnN d_S_upNode_22 rfl ?_ (by decide) (by decide)
  exact ⟨rfl, rfl⟩
theorem k_upNode_n (M : aM) (x : Int32) (h : cSh M) (hx : nUp M x) : aK m_S_upNode 1 0 0 M [.ref 0, .int x] (fun M1 r => M1 = M ∧ r = some .null) := by
  rcases hx with hx | ⟨n, hn, rfl, hu⟩
  · exact k_upNode_2 M x h hx
  · by_cases h3 : n < 3
    · exact k_upNode_V0 M n h h3 hu
    · exact k_upNode_T0 M n h (by omega) hn hu
set_option maxRecDepth 20000 in
set_option maxHeartbeats 1000000 in
theorem k_crash_n (M : aM) (x : Int32) (h : cSh M) (hx : nUp M x) : aK m_S_crash 2 0 0 M [.ref 0, .int x] (fun M1 r => M1 = M ∧ r = some (.int 0)) := by
  refine aK.of (by decide) (Nat.le_of_ble_eq_true rfl) ?_
  have h0 := h.2.1
  have hr0 := h.2.2.1
  have hr1 := h.2.2.2.1
  have hr2 := h.2.2.2.2.1
  have hA1 := h.2.2.2.2.2.1
  have hA2 := h.2.2.2.2.2.2.1
  have hA3 := h.2.2.2.2.2.2.2.1
  refine j_aload_n d_S_crash_0 rfl ?_
  refine j_iload_n d_S_crash_1 rfl ?_
  refine j_callV (vs := [_]) d_S_crash_2 (by assumption) (by decide) rfl w186 w188 w1 w189 ws_S_upNode y_S_upNode (by decide) (by decide) (k_upNode_n M x h hx) rfl (Nat.le_of_ble_eq_true rfl) (by decide) (by decide) (fun M1 r1 hq1 => ?_)
  obtain ⟨rfl, rfl⟩ := hq1
  refine j_astore_nN d_S_crash_5 (by decide) ?_
  refine j_aload_nN d_S_crash_6 rfl ?_
  refine j_ifnonnullN d_S_crash_7 ?_
  refine j_iconst (v := 0) d_S_crash_10 (by decide) ?_
  refine j_ireturn d_S_crash_11 rfl rfl ?_ (by decide) (by decide)
  exact ⟨rfl, rfl⟩
set_option maxRecDepth 20000 in
set_option maxHeartbeats 1000000 in
theorem k_crash_V (M : aM) (n : Nat) (h : cSh M) (hn : n < 3) (hu : mI M (nd n) 0 ≠ 0) : aK m_S_crash 2 0 0 M [.ref 0, .int (nI n)] (fun M1 r => M1 = sI (sI M (nd n) 0 0) (nd n) 1 0 ∧ r = some (.int 1)) := by
  refine aK.of (by decide) (Nat.le_of_ble_eq_true rfl) ?_
  have h0 := h.2.1
  have hr0 := h.2.2.1
  have hr1 := h.2.2.2.1
  have hr2 := h.2.2.2.2.1
  have hA1 := h.2.2.2.2.2.1
  have hA2 := h.2.2.2.2.2.2.1
  have hA3 := h.2.2.2.2.2.2.2.1
  have hN := (cSh_V h hn).1
  refine j_aload_n d_S_crash_0 rfl ?_
  refine j_iload_n d_S_crash_1 rfl ?_
  refine j_callV (vs := [_]) d_S_crash_2 (by assumption) (by decide) rfl w186 w188 w1 w189 ws_S_upNode y_S_upNode (by decide) (by decide) (k_upNode_V M n h hn hu) rfl (Nat.le_of_ble_eq_true rfl) (by decide) (by decide) (fun M1 r1 hq1 => ?_)
  obtain ⟨rfl, rfl⟩ := hq1
  refine j_astore_n d_S_crash_5 (by decide) ?_
  refine j_aload_n d_S_crash_6 rfl ?_
  refine j_ifnonnull 12 d_S_crash_7 (by decide) ?_
  refine j_aload_n d_S_crash_12 rfl ?_
  refine j_iconst (v := 0) d_S_crash_13 (by decide) ?_
  refine j_puti d_S_crash_14 (by assumption) p_S_44_V rfl (by decide) rfl rfl ?_
  refine j_aload_n d_S_crash_17 rfl ?_
  refine j_iconst (v := 0) d_S_crash_18 (by decide) ?_
  refine j_puti d_S_crash_19 (by assumption) p_S_48_V rfl (by decide) rfl rfl ?_
  refine j_iconst (v := 1) d_S_crash_22 (by decide) ?_
  refine j_ireturn d_S_crash_23 rfl rfl ?_ (by decide) (by decide)
  exact ⟨rfl, rfl⟩
set_option maxRecDepth 20000 in
set_option maxHeartbeats 1000000 in
theorem k_recover_V (M : aM) (n : Nat) (h : cSh M) (hn : n < 3) (hu : mI M (nd n) 0 = 0) : aK m_S_recover 1 0 0 M [.ref 0, .int (nI n)] (fun M1 r => M1 = sI M (nd n) 0 1 ∧ r = some (.int 1)) := by
  refine aK.of (by decide) (Nat.le_of_ble_eq_true rfl) ?_
  have h0 := h.2.1
  have hr0 := h.2.2.1
  have hr1 := h.2.2.2.1
  have hr2 := h.2.2.2.2.1
  have hA1 := h.2.2.2.2.2.1
  have hA2 := h.2.2.2.2.2.2.1
  have hA3 := h.2.2.2.2.2.2.2.1
  have hN := (cSh_V h hn).1
  refine j_aload_n d_S_recover_0 rfl ?_
  refine j_iload_n d_S_recover_1 rfl ?_
  refine j_callV (vs := [_]) d_S_recover_2 (by assumption) (by decide) rfl w190 w192 w1 w193 ws_S_anyNode y_S_anyNode (by decide) (by decide) (k_anyNode M n h (by omega)) rfl (Nat.le_of_ble_eq_true rfl) (by decide) (by decide) (fun M1 r1 hq1 => ?_)
  obtain ⟨rfl, rfl⟩ := hq1
  refine j_astore_n d_S_recover_5 (by decide) ?_
  refine j_aload_n d_S_recover_6 rfl ?_
  refine j_ifnull d_S_recover_7 ?_
  refine j_aload_n d_S_recover_10 rfl ?_
  refine j_geti d_S_recover_11 (by assumption) f_S_44_V rfl (by decide) ?_
  refine j_if_eq (tgt := 19) d_S_recover_14 (by decide) (fun h14 => ?_) (fun h14 => False.elim (h14 hu))
  refine j_aload_n d_S_recover_19 rfl ?_
  refine j_iconst (v := 1) d_S_recover_20 (by decide) ?_
  refine j_puti d_S_recover_21 (by assumption) p_S_44_V rfl (by decide) rfl rfl ?_
  refine j_iconst (v := 1) d_S_recover_24 (by decide) ?_
  refine j_ireturn d_S_recover_25 rfl rfl ?_ (by decide) (by decide)
  exact ⟨rfl, rfl⟩
set_option maxRecDepth 20000 in
set_option maxHeartbeats 1000000 in
theorem k_recover_Vn (M : aM) (n : Nat) (h : cSh M) (hn : n < 3) (hu : mI M (nd n) 0 ≠ 0) : aK m_S_recover 1 0 0 M [.ref 0, .int (nI n)] (fun M1 r => M1 = M ∧ r = some (.int 0)) := by
  refine aK.of (by decide) (Nat.le_of_ble_eq_true rfl) ?_
  have h0 := h.2.1
  have hr0 := h.2.2.1
  have hr1 := h.2.2.2.1
  have hr2 := h.2.2.2.2.1
  have hA1 := h.2.2.2.2.2.1
  have hA2 := h.2.2.2.2.2.2.1
  have hA3 := h.2.2.2.2.2.2.2.1
  have hN := (cSh_V h hn).1
  refine j_aload_n d_S_recover_0 rfl ?_
  refine j_iload_n d_S_recover_1 rfl ?_
  refine j_callV (vs := [_]) d_S_recover_2 (by assumption) (by decide) rfl w190 w192 w1 w193 ws_S_anyNode y_S_anyNode (by decide) (by decide) (k_anyNode M n h (by omega)) rfl (Nat.le_of_ble_eq_true rfl) (by decide) (by decide) (fun M1 r1 hq1 => ?_)
  obtain ⟨rfl, rfl⟩ := hq1
  refine j_astore_n d_S_recover_5 (by decide) ?_
  refine j_aload_n d_S_recover_6 rfl ?_
  refine j_ifnull d_S_recover_7 ?_
  refine j_aload_n d_S_recover_10 rfl ?_
  refine j_geti d_S_recover_11 (by assumption) f_S_44_V rfl (by decide) ?_
  refine j_if_eq (tgt := 19) d_S_recover_14 (by decide) (fun h14 => False.elim (hu h14)) (fun h14 => ?_)
  refine j_iconst (v := 0) d_S_recover_17 (by decide) ?_
  refine j_ireturn d_S_recover_18 rfl rfl ?_ (by decide) (by decide)
  exact ⟨rfl, rfl⟩
set_option maxRecDepth 20000 in
set_option maxHeartbeats 1000000 in
theorem k_length_V (M : aM) (n : Nat) (h : cSh M) (hn : n < 3) : aK m_S_length 1 0 0 M [.ref 0, .int (nI n)] (fun M1 r => M1 = M ∧ r = some (.int (mI M (nd n) 3))) := by
  refine aK.of (by decide) (Nat.le_of_ble_eq_true rfl) ?_
  have h0 := h.2.1
  have hr0 := h.2.2.1
  have hr1 := h.2.2.2.1
  have hr2 := h.2.2.2.2.1
  have hA1 := h.2.2.2.2.2.1
  have hA2 := h.2.2.2.2.2.2.1
  have hA3 := h.2.2.2.2.2.2.2.1
  have hN := (cSh_V h hn).1
  refine j_aload_n d_S_length_0 rfl ?_
  refine j_iload_n d_S_length_1 rfl ?_
  refine j_callV (vs := [_]) d_S_length_2 (by assumption) (by decide) rfl w190 w192 w1 w193 ws_S_anyNode y_S_anyNode (by decide) (by decide) (k_anyNode M n h (by omega)) rfl (Nat.le_of_ble_eq_true rfl) (by decide) (by decide) (fun M1 r1 hq1 => ?_)
  obtain ⟨rfl, rfl⟩ := hq1
  refine j_astore_n d_S_length_5 (by decide) ?_
  refine j_aload_n d_S_length_6 rfl ?_
  refine j_ifnonnull 14 d_S_length_7 (by decide) ?_
  refine j_aload_n d_S_length_14 rfl ?_
  refine j_geti d_S_length_15 (by assumption) f_S_94_V rfl (by decide) ?_
  refine j_ireturn d_S_length_18 rfl rfl ?_ (by decide) (by decide)
  exact ⟨rfl, rfl⟩
set_option maxRecDepth 20000 in
set_option maxHeartbeats 1000000 in
theorem k_known_V (M : aM) (n : Nat) (h : cSh M) (hn : n < 3) : aK m_S_known 1 0 0 M [.ref 0, .int (nI n)] (fun M1 r => M1 = M ∧ r = some (.int (mI M (nd n) 4))) := by
  refine aK.of (by decide) (Nat.le_of_ble_eq_true rfl) ?_
  have h0 := h.2.1
  have hr0 := h.2.2.1
  have hr1 := h.2.2.2.1
  have hr2 := h.2.2.2.2.1
  have hA1 := h.2.2.2.2.2.1
  have hA2 := h.2.2.2.2.2.2.1
  have hA3 := h.2.2.2.2.2.2.2.1
  have hN := (cSh_V h hn).1
  refine j_aload_n d_S_known_0 rfl ?_
  refine j_iload_n d_S_known_1 rfl ?_
  refine j_callV (vs := [_]) d_S_known_2 (by assumption) (by decide) rfl w190 w192 w1 w193 ws_S_anyNode y_S_anyNode (by decide) (by decide) (k_anyNode M n h (by omega)) rfl (Nat.le_of_ble_eq_true rfl) (by decide) (by decide) (fun M1 r1 hq1 => ?_)
  obtain ⟨rfl, rfl⟩ := hq1
  refine j_astore_n d_S_known_5 (by decide) ?_
  refine j_aload_n d_S_known_6 rfl ?_
  refine j_ifnonnull 14 d_S_known_7 (by decide) ?_
  refine j_aload_n d_S_known_14 rfl ?_
  refine j_geti d_S_known_15 (by assumption) f_S_91_V rfl (by decide) ?_
  refine j_ireturn d_S_known_18 rfl rfl ?_ (by decide) (by decide)
  exact ⟨rfl, rfl⟩
set_option maxRecDepth 20000 in
set_option maxHeartbeats 1000000 in
theorem k_term_V (M : aM) (n : Nat) (h : cSh M) (hn : n < 3) : aK m_S_term 1 0 0 M [.ref 0, .int (nI n)] (fun M1 r => M1 = M ∧ r = some (.int (if mI M (nd n) 1 = 0 then mI M (nd n) 2 else mI M (nd n) 2 + 1000))) := by
  refine aK.of (by decide) (Nat.le_of_ble_eq_true rfl) ?_
  have h0 := h.2.1
  have hr0 := h.2.2.1
  have hr1 := h.2.2.2.1
  have hr2 := h.2.2.2.2.1
  have hA1 := h.2.2.2.2.2.1
  have hA2 := h.2.2.2.2.2.2.1
  have hA3 := h.2.2.2.2.2.2.2.1
  have hN := (cSh_V h hn).1
  refine j_aload_n d_S_term_0 rfl ?_
  refine j_iload_n d_S_term_1 rfl ?_
  refine j_callV (vs := [_]) d_S_term_2 (by assumption) (by decide) rfl w190 w192 w1 w193 ws_S_anyNode y_S_anyNode (by decide) (by decide) (k_anyNode M n h (by omega)) rfl (Nat.le_of_ble_eq_true rfl) (by decide) (by decide) (fun M1 r1 hq1 => ?_)
  obtain ⟨rfl, rfl⟩ := hq1
  refine j_astore_n d_S_term_5 (by decide) ?_
  refine j_aload_n d_S_term_6 rfl ?_
  refine j_ifnonnull 12 d_S_term_7 (by decide) ?_
  refine j_aload_n d_S_term_12 rfl ?_
  refine j_geti d_S_term_13 (by assumption) f_S_48_V rfl (by decide) ?_
  refine j_if_eq (tgt := 30) d_S_term_16 (by decide) (fun h16 => ?_) (fun h16 => ?_)
  · have hb : (if mI M1 (nd n) 1 = 0 then mI M1 (nd n) 2 else mI M1 (nd n) 2 + 1000) = mI M1 (nd n) 2 := if_pos h16
    refine j_aload_n d_S_term_30 rfl ?_
    refine j_geti d_S_term_31 (by assumption) f_S_54_V rfl (by decide) ?_
    refine j_ireturn d_S_term_34 rfl rfl ?_ (by decide) (by decide)
    exact ⟨rfl, by rw [hb]⟩
  · have hb : (if mI M1 (nd n) 1 = 0 then mI M1 (nd n) 2 else mI M1 (nd n) 2 + 1000) = mI M1 (nd n) 2 + 1000 := if_neg h16
    refine j_aload_n d_S_term_19 rfl ?_
    refine j_geti d_S_term_20 (by assumption) f_S_54_V rfl (by decide) ?_
    refine j_sipush (v := 1000) d_S_term_23 (by decide) ?_
    refine j_iadd d_S_term_26 ?_
    refine j_goto 34 d_S_term_27 (by decide) ?_
    refine j_ireturn d_S_term_34 rfl rfl ?_ (by decide) (by decide)
    exact ⟨rfl, by rw [hb]⟩
set_option maxRecDepth 20000 in
set_option maxHeartbeats 1000000 in
theorem k_crash_T (M : aM) (n : Nat) (h : cSh M) (h3 : 3 ≤ n) (hn : n < 12) (hu : mI M (nd n) 0 ≠ 0) : aK m_S_crash 2 0 0 M [.ref 0, .int (nI n)] (fun M1 r => M1 = sI (sI M (nd n) 0 0) (nd n) 1 0 ∧ r = some (.int 1)) := by
  refine aK.of (by decide) (Nat.le_of_ble_eq_true rfl) ?_
  have h0 := h.2.1
  have hr0 := h.2.2.1
  have hr1 := h.2.2.2.1
  have hr2 := h.2.2.2.2.1
  have hA1 := h.2.2.2.2.2.1
  have hA2 := h.2.2.2.2.2.2.1
  have hA3 := h.2.2.2.2.2.2.2.1
  have hN := (cSh_T h h3 hn).1
  refine j_aload_n d_S_crash_0 rfl ?_
  refine j_iload_n d_S_crash_1 rfl ?_
  refine j_callV (vs := [_]) d_S_crash_2 (by assumption) (by decide) rfl w186 w188 w1 w189 ws_S_upNode y_S_upNode (by decide) (by decide) (k_upNode_T M n h h3 hn hu) rfl (Nat.le_of_ble_eq_true rfl) (by decide) (by decide) (fun M1 r1 hq1 => ?_)
  obtain ⟨rfl, rfl⟩ := hq1
  refine j_astore_n d_S_crash_5 (by decide) ?_
  refine j_aload_n d_S_crash_6 rfl ?_
  refine j_ifnonnull 12 d_S_crash_7 (by decide) ?_
  refine j_aload_n d_S_crash_12 rfl ?_
  refine j_iconst (v := 0) d_S_crash_13 (by decide) ?_
  refine j_puti d_S_crash_14 (by assumption) p_S_44_T rfl (by decide) rfl rfl ?_
  refine j_aload_n d_S_crash_17 rfl ?_
  refine j_iconst (v := 0) d_S_crash_18 (by decide) ?_
  refine j_puti d_S_crash_19 (by assumption) p_S_48_T rfl (by decide) rfl rfl ?_
  refine j_iconst (v := 1) d_S_crash_22 (by decide) ?_
  refine j_ireturn d_S_crash_23 rfl rfl ?_ (by decide) (by decide)
  exact ⟨rfl, rfl⟩
set_option maxRecDepth 20000 in
set_option maxHeartbeats 1000000 in
theorem k_recover_T (M : aM) (n : Nat) (h : cSh M) (h3 : 3 ≤ n) (hn : n < 12) (hu : mI M (nd n) 0 = 0) : aK m_S_recover 1 0 0 M [.ref 0, .int (nI n)] (fun M1 r => M1 = sI M (nd n) 0 1 ∧ r = some (.int 1)) := by
  refine aK.of (by decide) (Nat.le_of_ble_eq_true rfl) ?_
  have h0 := h.2.1
  have hr0 := h.2.2.1
  have hr1 := h.2.2.2.1
  have hr2 := h.2.2.2.2.1
  have hA1 := h.2.2.2.2.2.1
  have hA2 := h.2.2.2.2.2.2.1
  have hA3 := h.2.2.2.2.2.2.2.1
  have hN := (cSh_T h h3 hn).1
  refine j_aload_n d_S_recover_0 rfl ?_
  refine j_iload_n d_S_recover_1 rfl ?_
  refine j_callV (vs := [_]) d_S_recover_2 (by assumption) (by decide) rfl w190 w192 w1 w193 ws_S_anyNode y_S_anyNode (by decide) (by decide) (k_anyNode M n h (by omega)) rfl (Nat.le_of_ble_eq_true rfl) (by decide) (by decide) (fun M1 r1 hq1 => ?_)
  obtain ⟨rfl, rfl⟩ := hq1
  refine j_astore_n d_S_recover_5 (by decide) ?_
  refine j_aload_n d_S_recover_6 rfl ?_
  refine j_ifnull d_S_recover_7 ?_
  refine j_aload_n d_S_recover_10 rfl ?_
  refine j_geti d_S_recover_11 (by assumption) f_S_44_T rfl (by decide) ?_
  refine j_if_eq (tgt := 19) d_S_recover_14 (by decide) (fun h14 => ?_) (fun h14 => False.elim (h14 hu))
  refine j_aload_n d_S_recover_19 rfl ?_
  refine j_iconst (v := 1) d_S_recover_20 (by decide) ?_
  refine j_puti d_S_recover_21 (by assumption) p_S_44_T rfl (by decide) rfl rfl ?_
  refine j_iconst (v := 1) d_S_recover_24 (by decide) ?_
  refine j_ireturn d_S_recover_25 rfl rfl ?_ (by decide) (by decide)
  exact ⟨rfl, rfl⟩
set_option maxRecDepth 20000 in
set_option maxHeartbeats 1000000 in
theorem k_recover_Tn (M : aM) (n : Nat) (h : cSh M) (h3 : 3 ≤ n) (hn : n < 12) (hu : mI M (nd n) 0 ≠ 0) : aK m_S_recover 1 0 0 M [.ref 0, .int (nI n)] (fun M1 r => M1 = M ∧ r = some (.int 0)) := by
  refine aK.of (by decide) (Nat.le_of_ble_eq_true rfl) ?_
  have h0 := h.2.1
  have hr0 := h.2.2.1
  have hr1 := h.2.2.2.1
  have hr2 := h.2.2.2.2.1
  have hA1 := h.2.2.2.2.2.1
  have hA2 := h.2.2.2.2.2.2.1
  have hA3 := h.2.2.2.2.2.2.2.1
  have hN := (cSh_T h h3 hn).1
  refine j_aload_n d_S_recover_0 rfl ?_
  refine j_iload_n d_S_recover_1 rfl ?_
  refine j_callV (vs := [_]) d_S_recover_2 (by assumption) (by decide) rfl w190 w192 w1 w193 ws_S_anyNode y_S_anyNode (by decide) (by decide) (k_anyNode M n h (by omega)) rfl (Nat.le_of_ble_eq_true rfl) (by decide) (by decide) (fun M1 r1 hq1 => ?_)
  obtain ⟨rfl, rfl⟩ := hq1
  refine j_astore_n d_S_recover_5 (by decide) ?_
  refine j_aload_n d_S_recover_6 rfl ?_
  refine j_ifnull d_S_recover_7 ?_
  refine j_aload_n d_S_recover_10 rfl ?_
  refine j_geti d_S_recover_11 (by assumption) f_S_44_T rfl (by decide) ?_
  refine j_if_eq (tgt := 19) d_S_recover_14 (by decide) (fun h14 => False.elim (hu h14)) (fun h14 => ?_)
  refine j_iconst (v := 0) d_S_recover_17 (by decide) ?_
  refine j_ireturn d_S_recover_18 rfl rfl ?_ (by decide) (by decide)
  exact ⟨rfl, rfl⟩
set_option maxRecDepth 20000 in
set_option maxHeartbeats 1000000 in
theorem k_length_T (M : aM) (n : Nat) (h : cSh M) (h3 : 3 ≤ n) (hn : n < 12) : aK m_S_length 1 0 0 M [.ref 0, .int (nI n)] (fun M1 r => M1 = M ∧ r = some (.int (mI M (nd n) 3))) := by
  refine aK.of (by decide) (Nat.le_of_ble_eq_true rfl) ?_
  have h0 := h.2.1
  have hr0 := h.2.2.1
  have hr1 := h.2.2.2.1
  have hr2 := h.2.2.2.2.1
  have hA1 := h.2.2.2.2.2.1
  have hA2 := h.2.2.2.2.2.2.1
  have hA3 := h.2.2.2.2.2.2.2.1
  have hN := (cSh_T h h3 hn).1
  refine j_aload_n d_S_length_0 rfl ?_
  refine j_iload_n d_S_length_1 rfl ?_
  refine j_callV (vs := [_]) d_S_length_2 (by assumption) (by decide) rfl w190 w192 w1 w193 ws_S_anyNode y_S_anyNode (by decide) (by decide) (k_anyNode M n h (by omega)) rfl (Nat.le_of_ble_eq_true rfl) (by decide) (by decide) (fun M1 r1 hq1 => ?_)
  obtain ⟨rfl, rfl⟩ := hq1
  refine j_astore_n d_S_length_5 (by decide) ?_
  refine j_aload_n d_S_length_6 rfl ?_
  refine j_ifnonnull 14 d_S_length_7 (by decide) ?_
  refine j_aload_n d_S_length_14 rfl ?_
  refine j_geti d_S_length_15 (by assumption) f_S_94_T rfl (by decide) ?_
  refine j_ireturn d_S_length_18 rfl rfl ?_ (by decide) (by decide)
  exact ⟨rfl, rfl⟩
set_option maxRecDepth 20000 in
set_option maxHeartbeats 1000000 in
theorem k_known_T (M : aM) (n : Nat) (h : cSh M) (h3 : 3 ≤ n) (hn : n < 12) : aK m_S_known 1 0 0 M [.ref 0, .int (nI n)] (fun M1 r => M1 = M ∧ r = some (.int (mI M (nd n) 4))) := by
  refine aK.of (by decide) (Nat.le_of_ble_eq_true rfl) ?_
  have h0 := h.2.1
  have hr0 := h.2.2.1
  have hr1 := h.2.2.2.1
  have hr2 := h.2.2.2.2.1
  have hA1 := h.2.2.2.2.2.1
  have hA2 := h.2.2.2.2.2.2.1
  have hA3 := h.2.2.2.2.2.2.2.1
  have hN := (cSh_T h h3 hn).1
  refine j_aload_n d_S_known_0 rfl ?_
  refine j_iload_n d_S_known_1 rfl ?_
  refine j_callV (vs := [_]) d_S_known_2 (by assumption) (by decide) rfl w190 w192 w1 w193 ws_S_anyNode y_S_anyNode (by decide) (by decide) (k_anyNode M n h (by omega)) rfl (Nat.le_of_ble_eq_true rfl) (by decide) (by decide) (fun M1 r1 hq1 => ?_)
  obtain ⟨rfl, rfl⟩ := hq1
  refine j_astore_n d_S_known_5 (by decide) ?_
  refine j_aload_n d_S_known_6 rfl ?_
  refine j_ifnonnull 14 d_S_known_7 (by decide) ?_
  refine j_aload_n d_S_known_14 rfl ?_
  refine j_geti d_S_known_15 (by assumption) f_S_91_T rfl (by decide) ?_
  refine j_ireturn d_S_known_18 rfl rfl ?_ (by decide) (by decide)
  exact ⟨rfl, rfl⟩
set_option maxRecDepth 20000 in
set_option maxHeartbeats 1000000 in
theorem k_term_T (M : aM) (n : Nat) (h : cSh M) (h3 : 3 ≤ n) (hn : n < 12) : aK m_S_term 1 0 0 M [.ref 0, .int (nI n)] (fun M1 r => M1 = M ∧ r = some (.int (if mI M (nd n) 1 = 0 then mI M (nd n) 2 else mI M (nd n) 2 + 1000))) := by
  refine aK.of (by decide) (Nat.le_of_ble_eq_true rfl) ?_
  have h0 := h.2.1
  have hr0 := h.2.2.1
  have hr1 := h.2.2.2.1
  have hr2 := h.2.2.2.2.1
  have hA1 := h.2.2.2.2.2.1
  have hA2 := h.2.2.2.2.2.2.1
  have hA3 := h.2.2.2.2.2.2.2.1
  have hN := (cSh_T h h3 hn).1
  refine j_aload_n d_S_term_0 rfl ?_
  refine j_iload_n d_S_term_1 rfl ?_
  refine j_callV (vs := [_]) d_S_term_2 (by assumption) (by decide) rfl w190 w192 w1 w193 ws_S_anyNode y_S_anyNode (by decide) (by decide) (k_anyNode M n h (by omega)) rfl (Nat.le_of_ble_eq_true rfl) (by decide) (by decide) (fun M1 r1 hq1 => ?_)
  obtain ⟨rfl, rfl⟩ := hq1
  refine j_astore_n d_S_term_5 (by decide) ?_
  refine j_aload_n d_S_term_6 rfl ?_
  refine j_ifnonnull 12 d_S_term_7 (by decide) ?_
  refine j_aload_n d_S_term_12 rfl ?_
  refine j_geti d_S_term_13 (by assumption) f_S_48_T rfl (by decide) ?_
  refine j_if_eq (tgt := 30) d_S_term_16 (by decide) (fun h16 => ?_) (fun h16 => ?_)
  · have hb : (if mI M1 (nd n) 1 = 0 then mI M1 (nd n) 2 else mI M1 (nd n) 2 + 1000) = mI M1 (nd n) 2 := if_pos h16
    refine j_aload_n d_S_term_30 rfl ?_
    refine j_geti d_S_term_31 (by assumption) f_S_54_T rfl (by decide) ?_
    refine j_ireturn d_S_term_34 rfl rfl ?_ (by decide) (by decide)
    exact ⟨rfl, by rw [hb]⟩
  · have hb : (if mI M1 (nd n) 1 = 0 then mI M1 (nd n) 2 else mI M1 (nd n) 2 + 1000) = mI M1 (nd n) 2 + 1000 := if_neg h16
    refine j_aload_n d_S_term_19 rfl ?_
    refine j_geti d_S_term_20 (by assumption) f_S_54_T rfl (by decide) ?_
    refine j_sipush (v := 1000) d_S_term_23 (by decide) ?_
    refine j_iadd d_S_term_26 ?_
    refine j_goto 34 d_S_term_27 (by decide) ?_
    refine j_ireturn d_S_term_34 rfl rfl ?_ (by decide) (by decide)
    exact ⟨rfl, by rw [hb]⟩
set_option maxRecDepth 20000 in
set_option maxHeartbeats 1000000 in
theorem k_recover_n (M : aM) (x : Int32) (h : cSh M) (hx : x < 0 ∨ nI 12 ≤ x) : aK m_S_recover 1 0 0 M [.ref 0, .int x] (fun M1 r => M1 = M ∧ r = some (.int 0)) := by
  refine aK.of (by decide) (Nat.le_of_ble_eq_true rfl) ?_
  have h0 := h.2.1
  have hr0 := h.2.2.1
  have hr1 := h.2.2.2.1
  have hr2 := h.2.2.2.2.1
  have hA1 := h.2.2.2.2.2.1
  have hA2 := h.2.2.2.2.2.2.1
  have hA3 := h.2.2.2.2.2.2.2.1
  refine j_aload_n d_S_recover_0 rfl ?_
  refine j_iload_n d_S_recover_1 rfl ?_
  refine j_callV (vs := [_]) d_S_recover_2 (by assumption) (by decide) rfl w190 w192 w1 w193 ws_S_anyNode y_S_anyNode (by decide) (by decide) (k_anyNode_0 M x hx) rfl (Nat.le_of_ble_eq_true rfl) (by decide) (by decide) (fun M1 r1 hq1 => ?_)
  obtain ⟨rfl, rfl⟩ := hq1
  refine j_astore_nN d_S_recover_5 (by decide) ?_
  refine j_aload_nN d_S_recover_6 rfl ?_
  refine j_ifnullN 17 d_S_recover_7 (by decide) ?_
  refine j_iconst (v := 0) d_S_recover_17 (by decide) ?_
  refine j_ireturn d_S_recover_18 rfl rfl ?_ (by decide) (by decide)
  exact ⟨rfl, rfl⟩
set_option maxRecDepth 20000 in
set_option maxHeartbeats 1000000 in
theorem k_length_n (M : aM) (x : Int32) (h : cSh M) (hx : x < 0 ∨ nI 12 ≤ x) : aK m_S_length 1 0 0 M [.ref 0, .int x] (fun M1 r => M1 = M ∧ r = some (.int (-1))) := by
  refine aK.of (by decide) (Nat.le_of_ble_eq_true rfl) ?_
  have h0 := h.2.1
  have hr0 := h.2.2.1
  have hr1 := h.2.2.2.1
  have hr2 := h.2.2.2.2.1
  have hA1 := h.2.2.2.2.2.1
  have hA2 := h.2.2.2.2.2.2.1
  have hA3 := h.2.2.2.2.2.2.2.1
  refine j_aload_n d_S_length_0 rfl ?_
  refine j_iload_n d_S_length_1 rfl ?_
  refine j_callV (vs := [_]) d_S_length_2 (by assumption) (by decide) rfl w190 w192 w1 w193 ws_S_anyNode y_S_anyNode (by decide) (by decide) (k_anyNode_0 M x hx) rfl (Nat.le_of_ble_eq_true rfl) (by decide) (by decide) (fun M1 r1 hq1 => ?_)
  obtain ⟨rfl, rfl⟩ := hq1
  refine j_astore_nN d_S_length_5 (by decide) ?_
  refine j_aload_nN d_S_length_6 rfl ?_
  refine j_ifnonnullN d_S_length_7 ?_
  refine j_iconst (v := -1) d_S_length_10 (by decide) ?_
  refine j_goto 18 d_S_length_11 (by decide) ?_
  refine j_ireturn d_S_length_18 rfl rfl ?_ (by decide) (by decide)
  exact ⟨rfl, rfl⟩
set_option maxRecDepth 20000 in
set_option maxHeartbeats 1000000 in
theorem k_known_n (M : aM) (x : Int32) (h : cSh M) (hx : x < 0 ∨ nI 12 ≤ x) : aK m_S_known 1 0 0 M [.ref 0, .int x] (fun M1 r => M1 = M ∧ r = some (.int (-1))) := by
  refine aK.of (by decide) (Nat.le_of_ble_eq_true rfl) ?_
  have h0 := h.2.1
  have hr0 := h.2.2.1
  have hr1 := h.2.2.2.1
  have hr2 := h.2.2.2.2.1
  have hA1 := h.2.2.2.2.2.1
  have hA2 := h.2.2.2.2.2.2.1
  have hA3 := h.2.2.2.2.2.2.2.1
  refine j_aload_n d_S_known_0 rfl ?_
  refine j_iload_n d_S_known_1 rfl ?_
  refine j_callV (vs := [_]) d_S_known_2 (by assumption) (by decide) rfl w190 w192 w1 w193 ws_S_anyNode y_S_anyNode (by decide) (by decide) (k_anyNode_0 M x hx) rfl (Nat.le_of_ble_eq_true rfl) (by decide) (by decide) (fun M1 r1 hq1 => ?_)
  obtain ⟨rfl, rfl⟩ := hq1
  refine j_astore_nN d_S_known_5 (by decide) ?_
  refine j_aload_nN d_S_known_6 rfl ?_
  refine j_ifnonnullN d_S_known_7 ?_
  refine j_iconst (v := -1) d_S_known_10 (by decide) ?_
  refine j_goto 18 d_S_known_11 (by decide) ?_
  refine j_ireturn d_S_known_18 rfl rfl ?_ (by decide) (by decide)
  exact ⟨rfl, rfl⟩
set_option maxRecDepth 20000 in
set_option maxHeartbeats 1000000 in
theorem k_term_n (M : aM) (x : Int32) (h : cSh M) (hx : x < 0 ∨ nI 12 ≤ x) : aK m_S_term 1 0 0 M [.ref 0, .int x] (fun M1 r => M1 = M ∧ r = some (.int (-1))) := by
  refine aK.of (by decide) (Nat.le_of_ble_eq_true rfl) ?_
  have h0 := h.2.1
  have hr0 := h.2.2.1
  have hr1 := h.2.2.2.1
  have hr2 := h.2.2.2.2.1
  have hA1 := h.2.2.2.2.2.1
  have hA2 := h.2.2.2.2.2.2.1
  have hA3 := h.2.2.2.2.2.2.2.1
  refine j_aload_n d_S_term_0 rfl ?_
  refine j_iload_n d_S_term_1 rfl ?_
  refine j_callV (vs := [_]) d_S_term_2 (by assumption) (by decide) rfl w190 w192 w1 w193 ws_S_anyNode y_S_anyNode (by decide) (by decide) (k_anyNode_0 M x hx) rfl (Nat.le_of_ble_eq_true rfl) (by decide) (by decide) (fun M1 r1 hq1 => ?_)
  obtain ⟨rfl, rfl⟩ := hq1
  refine j_astore_nN d_S_term_5 (by decide) ?_
  refine j_aload_nN d_S_term_6 rfl ?_
  refine j_ifnonnullN d_S_term_7 ?_
  refine j_iconst (v := -1) d_S_term_10 (by decide) ?_
  refine j_ireturn d_S_term_11 rfl rfl ?_ (by decide) (by decide)
  exact ⟨rfl, rfl⟩
