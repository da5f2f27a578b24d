noncomputable def oConfiguration (S : aS) (x : Int32) : aS × Int32 := match dN x 12 with
  | none => (S, -1)
  | some n => (S, if n < 3 then nI ((sSv S n).1 - 1) else nI (sGp S n).1)
def oOwner (S : aS) (x c z : Int32) : aS × Int32 := match dN x 3, dN z 8 with
  | some n, some s => (match dN c (sSv S n).1 with
    | some j => (S, nI (((sSv S n).2 j).2 s))
    | none => (S, -1))
  | _, _ => (S, -1)
noncomputable def oCondition (S : aS) (x z : Int32) : aS × Int32 := match dG x, dN z 8 with
  | some n, some s => (S, nI ((sGp S n).2.2.1 s))
  | _, _ => (S, -1)
abbrev hdOk (S : aS) (n k : Nat) : Prop := (sGp S n).2.2.1 (k % 8) = 1 ∨ (sGp S n).2.2.1 (k % 8) = 3
noncomputable def oValue (S : aS) (x y : Int32) : aS × Int32 := match dG x, dN y 16 with
  | some n, some k => if hdOk S n k then (S, nI ((sGp S n).2.2.2 (k % 8) (k / 8))) else (S, -1)
  | _, _ => (S, -1)
noncomputable def oHeld (d : Nat) (S : aS) (x c y : Int32) : aS × Int32 := match dG x, dN y 16, dN c 3 with
  | some n, some k, some j => if hdOk S n k then (S, nI ((sGp S n).2.2.2 (k % 8) (d + j))) else (S, -1)
  | _, _, _ => (S, -1)

set_option maxRecDepth 20000 in
set_option maxHeartbeats 1000000 in
theorem k_lastNumber_V (M : aM) (a : Nat) (hN : tO M a 2) : aK m_V_lastNumber 0 0 0 M [.ref a] (fun M1 r => M1 = M ∧ r = some (.int (mI M a 7))) := by
  refine aK.of (by decide) (Nat.le_of_ble_eq_true rfl) ?_
  refine j_aload_n d_V_lastNumber_0 rfl ?_
  refine j_geti d_V_lastNumber_1 (by assumption) f_V_23_V rfl (by decide) ?_
  refine j_ireturn d_V_lastNumber_4 rfl rfl ?_ (by decide) (by decide)
  exact ⟨rfl, rfl⟩
set_option maxRecDepth 20000 in
set_option maxHeartbeats 1000000 in
theorem k_lastNumber_T (M : aM) (a : Nat) (hN : tO M a 3) : aK m_T_lastNumber 0 0 0 M [.ref a] (fun M1 r => M1 = M ∧ r = some (.int (mI M a 7))) := by
  refine aK.of (by decide) (Nat.le_of_ble_eq_true rfl) ?_
  refine j_aload_n d_T_lastNumber_0 rfl ?_
  refine j_geti d_T_lastNumber_1 (by assumption) f_T_32_T rfl (by decide) ?_
  refine j_ireturn d_T_lastNumber_4 rfl rfl ?_ (by decide) (by decide)
  exact ⟨rfl, rfl⟩
set_option maxRecDepth 20000 in
set_option maxHeartbeats 1000000 in
theorem k_configuration_n (M : aM) (x : Int32) (h : cSh M) (hx : x < 0 ∨ nI 12 ≤ x) : aK m_S_configuration 1 0 0 M [.ref 0, .int x] (fun M1 r => M1 = M ∧ r = some (.int (-1))) := by
  refine aK.of (by decide) (Nat.le_of_ble_eq_true rfl) ?_
  have h0 := h.2.1
  have hr0 := h.2.2.1
  have hr1 := h.2.2.2.1
  have hr2 := h.2.2.2.2.1
  have hA1 := h.2.2.2.2.2.1
  have hA2 := h.2.2.2.2.2.2.1
  have hA3 := h.2.2.2.2.2.2.2.1
  refine j_aload_n d_S_configuration_0 rfl ?_
  refine j_iload_n d_S_configuration_1 rfl ?_
  refine j_callV (vs := [_]) d_S_configuration_2 (by assumption) (by decide) rfl w190 w192 w1 w193 ws_S_anyNode y_S_anyNode (by decide) (by decide) (k_anyNode_0 M x hx) rfl (Nat.le_of_ble_eq_true rfl) (by decide) (by decide) (fun M1 r1 hq1 => ?_)
  obtain ⟨rfl, rfl⟩ := hq1
  refine j_astore_nN d_S_configuration_5 (by decide) ?_
  refine j_aload_nN d_S_configuration_6 rfl ?_
  refine j_ifnonnullN d_S_configuration_7 ?_
  refine j_iconst (v := -1) d_S_configuration_10 (by decide) ?_
  refine j_goto 18 d_S_configuration_11 (by decide) ?_
  refine j_ireturn d_S_configuration_18 rfl rfl ?_ (by decide) (by decide)
  exact ⟨rfl, rfl⟩
set_option maxRecDepth 20000 in
set_option maxHeartbeats 1000000 in
theorem k_configuration_V (M : aM) (n : Nat) (h : cSh M) (hn : n < 3) : aK m_S_configuration 1 0 0 M [.ref 0, .int (nI n)] (fun M1 r => M1 = M ∧ r = some (.int (mI M (nd n) 7))) := by
  refine aK.of (by decide) (Nat.le_of_ble_eq_true rfl) ?_
  have h0 := h.2.1
  have hr0 := h.2.2.1
  have hr1 := h.2.2.2.1
  have hr2 := h.2.2.2.2.1
  have hA1 := h.2.2.2.2.2.1
  have hA2 := h.2.2.2.2.2.2.1
  have hA3 := h.2.2.2.2.2.2.2.1
  have hN := (cSh_V h hn).1
  refine j_aload_n d_S_configuration_0 rfl ?_
  refine j_iload_n d_S_configuration_1 rfl ?_
  refine j_callV (vs := [_]) d_S_configuration_2 (by assumption) (by decide) rfl w190 w192 w1 w193 ws_S_anyNode y_S_anyNode (by decide) (by decide) (k_anyNode M n h (by omega)) rfl (Nat.le_of_ble_eq_true rfl) (by decide) (by decide) (fun M1 r1 hq1 => ?_)
  obtain ⟨rfl, rfl⟩ := hq1
  refine j_astore_n d_S_configuration_5 (by decide) ?_
  refine j_aload_n d_S_configuration_6 rfl ?_
  refine j_ifnonnull 14 d_S_configuration_7 (by decide) ?_
  refine j_aload_n d_S_configuration_14 rfl ?_
  refine j_callU (owner := "ShardGroups$Node") (vs := []) d_S_configuration_15 hN (by decide) rfl w588 w592 w4 w593 w591 w590 (Or.inr (Or.inr nw14)) y_N_lastNumber (by decide) (by decide) (k_lastNumber_V M1 (nd n) hN) rfl (Nat.le_of_ble_eq_true rfl) (by decide) (by decide) (fun M2 r2 hq2 => ?_)
  obtain ⟨rfl, rfl⟩ := hq2
  refine j_ireturn d_S_configuration_18 rfl rfl ?_ (by decide) (by decide)
  exact ⟨rfl, rfl⟩
set_option maxRecDepth 20000 in
set_option maxHeartbeats 1000000 in
theorem k_configuration_T (M : aM) (n : Nat) (h : cSh M) (h3 : 3 ≤ n) (hn : n < 12) : aK m_S_configuration 1 0 0 M [.ref 0, .int (nI n)] (fun M1 r => M1 = M ∧ r = some (.int (mI M (nd n) 7))) := by
  refine aK.of (by decide) (Nat.le_of_ble_eq_true rfl) ?_
  have h0 := h.2.1
  have hr0 := h.2.2.1
  have hr1 := h.2.2.2.1
  have hr2 := h.2.2.2.2.1
  have hA1 := h.2.2.2.2.2.1
  have hA2 := h.2.2.2.2.2.2.1
  have hA3 := h.2.2.2.2.2.2.2.1
  have hN := (cSh_T h h3 hn).1
  refine j_aload_n d_S_configuration_0 rfl ?_
  refine j_iload_n d_S_configuration_1 rfl ?_
  refine j_callV (vs := [_]) d_S_configuration_2 (by assumption) (by decide) rfl w190 w192 w1 w193 ws_S_anyNode y_S_anyNode (by decide) (by decide) (k_anyNode M n h (by omega)) rfl (Nat.le_of_ble_eq_true rfl) (by decide) (by decide) (fun M1 r1 hq1 => ?_)
  obtain ⟨rfl, rfl⟩ := hq1
  refine j_astore_n d_S_configuration_5 (by decide) ?_
  refine j_aload_n d_S_configuration_6 rfl ?_
  refine j_ifnonnull 14 d_S_configuration_7 (by decide) ?_
  refine j_aload_n d_S_configuration_14 rfl ?_
  refine j_callU (owner := "ShardGroups$Node") (vs := []) d_S_configuration_15 hN (by decide) rfl w588 w595 w5 w596 w594 w590 (Or.inr (Or.inr nw14)) y_N_lastNumber (by decide) (by decide) (k_lastNumber_T M1 (nd n) hN) rfl (Nat.le_of_ble_eq_true rfl) (by decide) (by decide) (fun M2 r2 hq2 => ?_)
  obtain ⟨rfl, rfl⟩ := hq2
  refine j_ireturn d_S_configuration_18 rfl rfl ?_ (by decide) (by decide)
  exact ⟨rfl, rfl⟩
theorem c_configuration (M : aM) (S : aS) (x : Int32) (h : cR M S) : aK m_S_configuration 1 0 0 M [.ref 0, .int x] (cQ M (oConfiguration S x)) := by
  rcases dN_cases x (N := 12) (by decide) with ⟨e, hx⟩ | ⟨n, hn, rfl, e⟩
  · refine (k_configuration_n M x h.1 hx).weaken ?_
    rintro M1 r ⟨rfl, rfl⟩
    unfold oConfiguration; rw [e]
    exact ⟨rfl, h, fM.rf _⟩
  · have e0 : oConfiguration S (nI n) = (S, if n < 3 then nI ((sSv S n).1 - 1) else nI (sGp S n).1) := by unfold oConfiguration; rw [e]
    rw [e0]
    by_cases h3 : n < 3
    · refine (k_configuration_V M n h.1 h3).weaken ?_
      rintro M1 r ⟨rfl, rfl⟩
      rw [if_pos h3]
      exact ⟨by rw [((h.2 n hn).2.2.2.2.2.1 h3).1], h, fM.rf _⟩
    · refine (k_configuration_T M n h.1 (by omega) hn).weaken ?_
      rintro M1 r ⟨rfl, rfl⟩
      rw [if_neg h3]
      exact ⟨by rw [((h.2 n hn).2.2.2.2.2.2 (by omega)).1], h, fM.rf _⟩
set_option maxRecDepth 20000 in
set_option maxHeartbeats 1000000 in
theorem k_owner_1 (M : aM) (x c z : Int32) (h : cSh M) (hx : x < 0 ∨ nI 3 ≤ x) : aK m_S_owner 1 0 0 M [.ref 0, .int x, .int c, .int z] (fun M1 r => M1 = M ∧ r = some (.int (-1))) := by
  refine aK.of (by decide) (Nat.le_of_ble_eq_true rfl) ?_
  have h0 := h.2.1
  have hr0 := h.2.2.1
  have hr1 := h.2.2.2.1
  have hr2 := h.2.2.2.2.1
  have hA1 := h.2.2.2.2.2.1
  have hA2 := h.2.2.2.2.2.2.1
  have hA3 := h.2.2.2.2.2.2.2.1
  refine j_aload_n d_S_owner_0 rfl ?_
  refine j_iload_n d_S_owner_1 rfl ?_
  refine j_callV (vs := [_]) d_S_owner_2 (by assumption) (by decide) rfl w426 w428 w1 w429 ws_S_anyService y_S_anyService (by decide) (by decide) (k_anyService_0 M x hx) rfl (Nat.le_of_ble_eq_true rfl) (by decide) (by decide) (fun M1 r1 hq1 => ?_)
  obtain ⟨rfl, rfl⟩ := hq1
  refine j_astoreN d_S_owner_5 (by decide) ?_
  refine j_aloadN d_S_owner_7 rfl ?_
  refine j_ifnullN 32 d_S_owner_9 (by decide) ?_
  refine j_iconst (v := -1) d_S_owner_32 (by decide) ?_
  refine j_ireturn d_S_owner_33 rfl rfl ?_ (by decide) (by decide)
  exact ⟨rfl, rfl⟩
set_option maxRecDepth 20000 in
set_option maxHeartbeats 1000000 in
theorem k_owner_2 (M : aM) (S : aS) (t n : Nat) (c z : Int32) (h : cR M S) (hi : sInv S t) (hn : n < 3) (hno : (c < 0 ∨ nI (sSv S n).1 ≤ c) ∨ (z < 0 ∨ nI 8 ≤ z)) : aK m_S_owner 1 0 0 M [.ref 0, .int (nI n), .int c, .int z] (fun M1 r => M1 = M ∧ r = some (.int (-1))) := by
  refine aK.of (by decide) (Nat.le_of_ble_eq_true rfl) ?_
  have h0 := h.1.2.1
  have hr0 := h.1.2.2.1
  have hr1 := h.1.2.2.2.1
  have hr2 := h.1.2.2.2.2.1
  have hA1 := h.1.2.2.2.2.2.1
  have hA2 := h.1.2.2.2.2.2.2.1
  have hA3 := h.1.2.2.2.2.2.2.2.1
  have hN := (cSh_V h.1 hn).1
  have vr := (h.2 n (by omega)).2.2.2.2.2.1 hn
  obtain ⟨v1, v2, v3⟩ := hi.sv (show n < 12 by omega)
  have l7 := vr.1
  obtain ⟨a1, a2, a3⟩ := h.1.2.2.2.2.2.2.2.2.2.1 n hn
  refine j_aload_n d_S_owner_0 rfl ?_
  refine j_iload_n d_S_owner_1 rfl ?_
  refine j_callV (vs := [_]) d_S_owner_2 (by assumption) (by decide) rfl w426 w428 w1 w429 ws_S_anyService y_S_anyService (by decide) (by decide) (k_anyService M n h.1 hn) rfl (Nat.le_of_ble_eq_true rfl) (by decide) (by decide) (fun M1 r1 hq1 => ?_)
  obtain ⟨rfl, rfl⟩ := hq1
  refine j_astore d_S_owner_5 (by decide) ?_
  refine j_aload d_S_owner_7 rfl ?_
  refine j_ifnull d_S_owner_9 ?_
  refine j_iload_n d_S_owner_12 rfl ?_
  refine j_if_lt (tgt := 32) d_S_owner_13 (by decide) (fun h13 => ?_) (fun h13 => ?_)
  · refine j_iconst (v := -1) d_S_owner_32 (by decide) ?_
    refine j_ireturn d_S_owner_33 rfl rfl ?_ (by decide) (by decide)
    exact ⟨rfl, rfl⟩
  · refine j_iload_n d_S_owner_16 rfl ?_
    refine j_aload d_S_owner_17 rfl ?_
    refine j_geti d_S_owner_19 hN f_S_139_V rfl (by decide) ?_
    refine j_eqi l7 ?_
    refine j_icmp_gt (tgt := 32) d_S_owner_22 (by decide) (fun h22 => ?_) (fun h22 => ?_)
    · refine j_iconst (v := -1) d_S_owner_32 (by decide) ?_
      refine j_ireturn d_S_owner_33 rfl rfl ?_ (by decide) (by decide)
      exact ⟨rfl, rfl⟩
    · refine j_iload_n d_S_owner_25 rfl ?_
      refine j_callS (vs := [_]) d_S_owner_26 w433 w434 w1 w435 y_S_isShard (by decide) (by decide) (k_isShard M1 z) rfl (Nat.le_of_ble_eq_true rfl) (by decide) (by decide) (fun M2 r2 hq2 => ?_)
      obtain ⟨rfl, rfl⟩ := hq2
      refine j_if_ne (tgt := 34) d_S_owner_29 (by decide) (fun h29 => False.elim (hno.elim (fun q => q.elim h13 (fun q => h22 (Int32.lt_of_lt_of_le (nI_lt (by omega) (by omega)) q))) (fun q => h29 (bP_f (fun w => q.elim (fun q => Int32.not_lt.mpr w.1 q) (fun q => Int32.not_lt.mpr q w.2)))))) (fun h29 => ?_)
      refine j_iconst (v := -1) d_S_owner_32 (by decide) ?_
      refine j_ireturn d_S_owner_33 rfl rfl ?_ (by decide) (by decide)
      exact ⟨rfl, rfl⟩
set_option maxRecDepth 20000 in
set_option maxHeartbeats 1000000 in
theorem k_owner_3 (M : aM) (S : aS) (t n j s : Nat) (h : cR M S) (hi : sInv S t) (hn : n < 3) (hj : j < (sSv S n).1) (hs : s < 8) : aK m_S_owner 1 0 0 M [.ref 0, .int (nI n), .int (nI j), .int (nI s)] (fun M1 r => M1 = M ∧ r = some (.int (nI (((sSv S n).2 j).2 s)))) := by
  refine aK.of (by decide) (Nat.le_of_ble_eq_true rfl) ?_
  have h0 := h.1.2.1
  have hr0 := h.1.2.2.1
  have hr1 := h.1.2.2.2.1
  have hr2 := h.1.2.2.2.2.1
  have hA1 := h.1.2.2.2.2.2.1
  have hA2 := h.1.2.2.2.2.2.2.1
  have hA3 := h.1.2.2.2.2.2.2.2.1
  have hN := (cSh_V h.1 hn).1
  have vr := (h.2 n (by omega)).2.2.2.2.2.1 hn
  obtain ⟨v1, v2, v3⟩ := hi.sv (show n < 12 by omega)
  have l7 := vr.1
  obtain ⟨a1, a2, a3⟩ := h.1.2.2.2.2.2.2.2.2.2.1 n hn
  refine j_aload_n d_S_owner_0 rfl ?_
  refine j_iload_n d_S_owner_1 rfl ?_
  refine j_callV (vs := [_]) d_S_owner_2 (by assumption) (by decide) rfl w426 w428 w1 w429 ws_S_anyService y_S_anyService (by decide) (by decide) (k_anyService M n h.1 hn) rfl (Nat.le_of_ble_eq_true rfl) (by decide) (by decide) (fun M1 r1 hq1 => ?_)
  obtain ⟨rfl, rfl⟩ := hq1
  refine j_astore d_S_owner_5 (by decide) ?_
  refine j_aload d_S_owner_7 rfl ?_
  refine j_ifnull d_S_owner_9 ?_
  refine j_iload_n d_S_owner_12 rfl ?_
  refine j_if_lt (tgt := 32) d_S_owner_13 (by decide) (fun h13 => False.elim (nI_pos (by omega) h13)) (fun h13 => ?_)
  refine j_iload_n d_S_owner_16 rfl ?_
  refine j_aload d_S_owner_17 rfl ?_
  refine j_geti d_S_owner_19 hN f_S_139_V rfl (by decide) ?_
  refine j_eqi l7 ?_
  refine j_icmp_gt (tgt := 32) d_S_owner_22 (by decide) (fun h22 => False.elim (absurd (i_lt (by omega) (by omega) h22) (by omega))) (fun h22 => ?_)
  refine j_iload_n d_S_owner_25 rfl ?_
  refine j_callS (vs := [_]) d_S_owner_26 w433 w434 w1 w435 y_S_isShard (by decide) (by decide) (k_isShard M1 (nI s)) rfl (Nat.le_of_ble_eq_true rfl) (by decide) (by decide) (fun M2 r2 hq2 => ?_)
  obtain ⟨rfl, rfl⟩ := hq2
  refine j_if_ne (tgt := 34) d_S_owner_29 (by decide) (fun h29 => ?_) (fun h29 => False.elim (absurd (bP_t (p := 0 ≤ nI s ∧ nI s < 8) ⟨nI_pos' (by omega), nI_lt hs (by decide)⟩) (by rw [h29]; decide)))
  refine j_aload d_S_owner_34 rfl ?_
  refine j_getR d_S_owner_36 hN f_S_144_V rfl (by decide) a2 ?_
  obtain ⟨q, c1, c2⟩ := vr.2 j hj
  obtain ⟨y1, y2, y3, y4, y5, y6, y7⟩ := c2.o
  refine j_iload_n d_S_owner_39 rfl ?_
  refine j_aaldR d_S_owner_40 a3 (by decide) ts_105 (aIx.n (by omega) (by decide)) c1 ?_
  refine j_getR d_S_owner_41 y2 f_S_172_C rfl (by decide) y5 ?_
  refine j_iload_n d_S_owner_44 rfl ?_
  refine j_iald d_S_owner_45 y6 (aIx.n hs (by decide)) ?_
  refine j_eqi (y7 s hs) ?_
  refine j_ireturn d_S_owner_46 rfl rfl ?_ (by decide) (by decide)
  exact ⟨rfl, rfl⟩
theorem c_owner (M : aM) (S : aS) (t : Nat) (x c z : Int32) (h : cR M S) (hi : sInv S t) : aK m_S_owner 1 0 0 M [.ref 0, .int x, .int c, .int z] (cQ M (oOwner S x c z)) := by
  have no : ∀ v : Int32, oOwner S x c z = (S, v) → ∀ M1 r, (M1 = M ∧ r = some (.int v)) → cQ M (oOwner S x c z) M1 r := by
    rintro v e M1 r ⟨rfl, rfl⟩
    rw [e]
    exact ⟨rfl, h, fM.rf _⟩
  rcases dN_cases x (N := 3) (by decide) with ⟨e, hx⟩ | ⟨n, hn, rfl, e⟩
  · exact (k_owner_1 M x c z h.1 hx).weaken (no _ (by unfold oOwner; rw [e]))
  · have v2 := (hi.sv (show n < 12 by omega)).2.1
    rcases dN_cases z (N := 8) (by decide) with ⟨ez, hz⟩ | ⟨s, hs, rfl, ez⟩
    · exact (k_owner_2 M S t n c z h hi hn (Or.inr hz)).weaken (no _ (by unfold oOwner; rw [e, ez]))
    · rcases dN_cases c (N := (sSv S n).1) (by omega) with ⟨ec, hc⟩ | ⟨j, hj, rfl, ec⟩
      · exact (k_owner_2 M S t n c (nI s) h hi hn (Or.inl hc)).weaken (no _ (by unfold oOwner; rw [e, ez]; simp only []; rw [ec]))
      · exact (k_owner_3 M S t n j s h hi hn hj hs).weaken (no _ (by unfold oOwner; rw [e, ez]; simp only []; rw [ec]))
set_option maxRecDepth 20000 in
set_option maxHeartbeats 1000000 in
theorem k_condition_1 (M : aM) (x z : Int32) (h : cSh M) (hx : x < 3 ∨ nI 12 ≤ x) : aK m_S_condition 1 0 0 M [.ref 0, .int x, .int z] (fun M1 r => M1 = M ∧ r = some (.int (-1))) := by
  refine aK.of (by decide) (Nat.le_of_ble_eq_true rfl) ?_
  have h0 := h.2.1
  have hr0 := h.2.2.1
  have hr1 := h.2.2.2.1
  have hr2 := h.2.2.2.2.1
  have hA1 := h.2.2.2.2.2.1
  have hA2 := h.2.2.2.2.2.2.1
  have hA3 := h.2.2.2.2.2.2.2.1
  refine j_aload_n d_S_condition_0 rfl ?_
  refine j_iload_n d_S_condition_1 rfl ?_
  refine j_callV (vs := [_]) d_S_condition_2 (by assumption) (by decide) rfl w467 w469 w1 w470 ws_S_anyStore y_S_anyStore (by decide) (by decide) (k_anyStore_0 M x hx) rfl (Nat.le_of_ble_eq_true rfl) (by decide) (by decide) (fun M1 r1 hq1 => ?_)
  obtain ⟨rfl, rfl⟩ := hq1
  refine j_astore_nN d_S_condition_5 (by decide) ?_
  refine j_aload_nN d_S_condition_6 rfl ?_
  refine j_ifnullN 17 d_S_condition_7 (by decide) ?_
  refine j_iconst (v := -1) d_S_condition_17 (by decide) ?_
  refine j_ireturn d_S_condition_18 rfl rfl ?_ (by decide) (by decide)
  exact ⟨rfl, rfl⟩
set_option maxRecDepth 20000 in
set_option maxHeartbeats 1000000 in
theorem k_condition_2 (M : aM) (n : Nat) (z : Int32) (h : cSh M) (h3 : 3 ≤ n) (hn : n < 12) (hz : z < 0 ∨ nI 8 ≤ z) : aK m_S_condition 1 0 0 M [.ref 0, .int (nI n), .int z] (fun M1 r => M1 = M ∧ r = some (.int (-1))) := by
  refine aK.of (by decide) (Nat.le_of_ble_eq_true rfl) ?_
  have h0 := h.2.1
  have hr0 := h.2.2.1
  have hr1 := h.2.2.2.1
  have hr2 := h.2.2.2.2.1
  have hA1 := h.2.2.2.2.2.1
  have hA2 := h.2.2.2.2.2.2.1
  have hA3 := h.2.2.2.2.2.2.2.1
  refine j_aload_n d_S_condition_0 rfl ?_
  refine j_iload_n d_S_condition_1 rfl ?_
  refine j_callV (vs := [_]) d_S_condition_2 (by assumption) (by decide) rfl w467 w469 w1 w470 ws_S_anyStore y_S_anyStore (by decide) (by decide) (k_anyStore M n h h3 hn) rfl (Nat.le_of_ble_eq_true rfl) (by decide) (by decide) (fun M1 r1 hq1 => ?_)
  obtain ⟨rfl, rfl⟩ := hq1
  refine j_astore_n d_S_condition_5 (by decide) ?_
  refine j_aload_n d_S_condition_6 rfl ?_
  refine j_ifnull d_S_condition_7 ?_
  refine j_iload_n d_S_condition_10 rfl ?_
  refine j_callS (vs := [_]) d_S_condition_11 w433 w434 w1 w435 y_S_isShard (by decide) (by decide) (k_isShard M1 z) rfl (Nat.le_of_ble_eq_true rfl) (by decide) (by decide) (fun M2 r2 hq2 => ?_)
  obtain ⟨rfl, rfl⟩ := hq2
  refine j_if_ne (tgt := 19) d_S_condition_14 (by decide) (fun h14 => False.elim (h14 (bP_f (fun w => hz.elim (fun q => Int32.not_lt.mpr w.1 q) (fun q => Int32.not_lt.mpr q w.2))))) (fun h14 => ?_)
  refine j_iconst (v := -1) d_S_condition_17 (by decide) ?_
  refine j_ireturn d_S_condition_18 rfl rfl ?_ (by decide) (by decide)
  exact ⟨rfl, rfl⟩
set_option maxRecDepth 20000 in
set_option maxHeartbeats 1000000 in
theorem k_condition_3 (M : aM) (n s c : Nat) (h : cSh M) (h3 : 3 ≤ n) (hn : n < 12) (hs : s < 8) (hc : mI M (nd n + 3 + 4 * s) 0 = nI c) : aK m_S_condition 1 0 0 M [.ref 0, .int (nI n), .int (nI s)] (fun M1 r => M1 = M ∧ r = some (.int (nI c))) := by
  refine aK.of (by decide) (Nat.le_of_ble_eq_true rfl) ?_
  have h0 := h.2.1
  have hr0 := h.2.2.1
  have hr1 := h.2.2.2.1
  have hr2 := h.2.2.2.2.1
  have hA1 := h.2.2.2.2.2.1
  have hA2 := h.2.2.2.2.2.2.1
  have hA3 := h.2.2.2.2.2.2.2.1
  have hN := (cSh_T h h3 hn).1
  obtain ⟨st0, st1, st2, st3⟩ := cSh_st h h3 hn
  obtain ⟨d1, d2⟩ := st3 s hs
  refine j_aload_n d_S_condition_0 rfl ?_
  refine j_iload_n d_S_condition_1 rfl ?_
  refine j_callV (vs := [_]) d_S_condition_2 (by assumption) (by decide) rfl w467 w469 w1 w470 ws_S_anyStore y_S_anyStore (by decide) (by decide) (k_anyStore M n h h3 hn) rfl (Nat.le_of_ble_eq_true rfl) (by decide) (by decide) (fun M1 r1 hq1 => ?_)
  obtain ⟨rfl, rfl⟩ := hq1
  refine j_astore_n d_S_condition_5 (by decide) ?_
  refine j_aload_n d_S_condition_6 rfl ?_
  refine j_ifnull d_S_condition_7 ?_
  refine j_iload_n d_S_condition_10 rfl ?_
  refine j_callS (vs := [_]) d_S_condition_11 w433 w434 w1 w435 y_S_isShard (by decide) (by decide) (k_isShard M1 (nI s)) rfl (Nat.le_of_ble_eq_true rfl) (by decide) (by decide) (fun M2 r2 hq2 => ?_)
  obtain ⟨rfl, rfl⟩ := hq2
  refine j_if_ne (tgt := 19) d_S_condition_14 (by decide) (fun h14 => ?_) (fun h14 => False.elim (absurd (bP_t (p := 0 ≤ nI s ∧ nI s < 8) ⟨nI_pos' (by omega), nI_lt hs (by decide)⟩) (by rw [h14]; decide)))
  refine j_aload_n d_S_condition_19 rfl ?_
  refine j_getR d_S_condition_20 hN f_S_154_T rfl (by decide) st1 ?_
  refine j_iload_n d_S_condition_23 rfl ?_
  refine j_aaldR d_S_condition_24 st2 (by decide) ts_107 (aIx.n hs (by decide)) d1 ?_
  refine j_geti d_S_condition_25 d2.1 f_S_158_H rfl (by decide) ?_
  refine j_eqi hc ?_
  refine j_ireturn d_S_condition_28 rfl rfl ?_ (by decide) (by decide)
  exact ⟨rfl, rfl⟩
theorem c_condition (M : aM) (S : aS) (x z : Int32) (h : cR M S) : aK m_S_condition 1 0 0 M [.ref 0, .int x, .int z] (cQ M (oCondition S x z)) := by
  have no : ∀ v : Int32, oCondition S x z = (S, v) → ∀ M1 r, (M1 = M ∧ r = some (.int v)) → cQ M (oCondition S x z) M1 r := by
    rintro v e M1 r ⟨rfl, rfl⟩
    rw [e]
    exact ⟨rfl, h, fM.rf _⟩
  rcases dG_cases x with ⟨e, hx⟩ | ⟨n, h3, hn, rfl, e⟩
  · exact (k_condition_1 M x z h.1 hx).weaken (no _ (by unfold oCondition; rw [e]))
  · rcases dN_cases z (N := 8) (by decide) with ⟨ez, hz⟩ | ⟨s, hs, rfl, ez⟩
    · exact (k_condition_2 M n z h.1 h3 hn hz).weaken (no _ (by unfold oCondition; rw [e, ez]))
    · exact (k_condition_3 M n s _ h.1 h3 hn hs (((h.2 n hn).2.2.2.2.2.2 h3).2.2 s hs).1).weaken (no _ (by unfold oCondition; rw [e, ez]))
set_option maxRecDepth 20000 in
set_option maxHeartbeats 1000000 in
theorem k_held_1 (M : aM) (x y : Int32) (h : cSh M) (hx : x < 3 ∨ nI 12 ≤ x) : aK m_S_heldShard 1 0 0 M [.ref 0, .int x, .int y] (fun M1 r => M1 = M ∧ r = some .null) := by
  refine aK.of (by decide) (Nat.le_of_ble_eq_true rfl) ?_
  have h0 := h.2.1
  have hr0 := h.2.2.1
  have hr1 := h.2.2.2.1
  have hr2 := h.2.2.2.2.1
  have hA1 := h.2.2.2.2.2.1
  have hA2 := h.2.2.2.2.2.2.1
  have hA3 := h.2.2.2.2.2.2.2.1
  refine j_aload_n d_S_heldShard_0 rfl ?_
  refine j_iload_n d_S_heldShard_1 rfl ?_
  refine j_callV (vs := [_]) d_S_heldShard_2 (by assumption) (by decide) rfl w467 w469 w1 w470 ws_S_anyStore y_S_anyStore (by decide) (by decide) (k_anyStore_0 M x hx) rfl (Nat.le_of_ble_eq_true rfl) (by decide) (by decide) (fun M1 r1 hq1 => ?_)
  obtain ⟨rfl, rfl⟩ := hq1
  refine j_astore_nN d_S_heldShard_5 (by decide) ?_
  refine j_aload_nN d_S_heldShard_6 rfl ?_
  refine j_ifnullN 17 d_S_heldShard_7 (by decide) ?_
  refine j_null d_S_heldShard_17 ?_
  refine j_areturnN d_S_heldShard_18 rfl ?_ (by decide) (by decide)
  exact ⟨rfl, rfl⟩
set_option maxRecDepth 20000 in
set_option maxHeartbeats 1000000 in
theorem k_held_2 (M : aM) (n : Nat) (y : Int32) (h : cSh M) (h3 : 3 ≤ n) (hn : n < 12) (hz : y < 0 ∨ nI 16 ≤ y) : aK m_S_heldShard 1 0 0 M [.ref 0, .int (nI n), .int y] (fun M1 r => M1 = M ∧ r = some .null) := by
  refine aK.of (by decide) (Nat.le_of_ble_eq_true rfl) ?_
  have h0 := h.2.1
  have hr0 := h.2.2.1
  have hr1 := h.2.2.2.1
  have hr2 := h.2.2.2.2.1
  have hA1 := h.2.2.2.2.2.1
  have hA2 := h.2.2.2.2.2.2.1
  have hA3 := h.2.2.2.2.2.2.2.1
  refine j_aload_n d_S_heldShard_0 rfl ?_
  refine j_iload_n d_S_heldShard_1 rfl ?_
  refine j_callV (vs := [_]) d_S_heldShard_2 (by assumption) (by decide) rfl w467 w469 w1 w470 ws_S_anyStore y_S_anyStore (by decide) (by decide) (k_anyStore M n h h3 hn) rfl (Nat.le_of_ble_eq_true rfl) (by decide) (by decide) (fun M1 r1 hq1 => ?_)
  obtain ⟨rfl, rfl⟩ := hq1
  refine j_astore_n d_S_heldShard_5 (by decide) ?_
  refine j_aload_n d_S_heldShard_6 rfl ?_
  refine j_ifnull d_S_heldShard_7 ?_
  refine j_iload_n d_S_heldShard_10 rfl ?_
  refine j_callS (vs := [_]) d_S_heldShard_11 w474 w475 w1 w476 y_S_isKey (by decide) (by decide) (k_isKey M1 y) rfl (Nat.le_of_ble_eq_true rfl) (by decide) (by decide) (fun M2 r2 hq2 => ?_)
  obtain ⟨rfl, rfl⟩ := hq2
  refine j_if_ne (tgt := 19) d_S_heldShard_14 (by decide) (fun h14 => False.elim (h14 (bP_f (fun w => hz.elim (fun q => Int32.not_lt.mpr w.1 q) (fun q => Int32.not_lt.mpr q w.2))))) (fun h14 => ?_)
  refine j_null d_S_heldShard_17 ?_
  refine j_areturnN d_S_heldShard_18 rfl ?_ (by decide) (by decide)
  exact ⟨rfl, rfl⟩
set_option maxRecDepth 20000 in
set_option maxHeartbeats 1000000 in
theorem k_held_3 (M : aM) (n k c : Nat) (h : cSh M) (h3 : 3 ≤ n) (hn : n < 12) (hk : k < 16) (hc : mI M (nd n + 3 + 4 * (k % 8)) 0 = nI c) (hc3 : c < 100) (hno : ¬ (c = 1 ∨ c = 3)) : aK m_S_heldShard 1 0 0 M [.ref 0, .int (nI n), .int (nI k)] (fun M1 r => M1 = M ∧ r = some .null) := by
  refine aK.of (by decide) (Nat.le_of_ble_eq_true rfl) ?_
  have h0 := h.2.1
  have hr0 := h.2.2.1
  have hr1 := h.2.2.2.1
  have hr2 := h.2.2.2.2.1
  have hA1 := h.2.2.2.2.2.1
  have hA2 := h.2.2.2.2.2.2.1
  have hA3 := h.2.2.2.2.2.2.2.1
  have hN := (cSh_T h h3 hn).1
  obtain ⟨st0, st1, st2, st3⟩ := cSh_st h h3 hn
  have h8 : k % 8 < 8 := Nat.mod_lt _ (by decide)
  obtain ⟨d1, d2⟩ := st3 (k % 8) h8
  refine j_aload_n d_S_heldShard_0 rfl ?_
  refine j_iload_n d_S_heldShard_1 rfl ?_
  refine j_callV (vs := [_]) d_S_heldShard_2 (by assumption) (by decide) rfl w467 w469 w1 w470 ws_S_anyStore y_S_anyStore (by decide) (by decide) (k_anyStore M n h h3 hn) rfl (Nat.le_of_ble_eq_true rfl) (by decide) (by decide) (fun M1 r1 hq1 => ?_)
  obtain ⟨rfl, rfl⟩ := hq1
  refine j_astore_n d_S_heldShard_5 (by decide) ?_
  refine j_aload_n d_S_heldShard_6 rfl ?_
  refine j_ifnull d_S_heldShard_7 ?_
  refine j_iload_n d_S_heldShard_10 rfl ?_
  refine j_callS (vs := [_]) d_S_heldShard_11 w474 w475 w1 w476 y_S_isKey (by decide) (by decide) (k_isKey M1 (nI k)) rfl (Nat.le_of_ble_eq_true rfl) (by decide) (by decide) (fun M2 r2 hq2 => ?_)
  obtain ⟨rfl, rfl⟩ := hq2
  refine j_if_ne (tgt := 19) d_S_heldShard_14 (by decide) (fun h14 => ?_) (fun h14 => False.elim (absurd (bP_t (p := 0 ≤ nI k ∧ nI k < 16) ⟨nI_pos' (by omega), nI_lt hk (by decide)⟩) (by rw [h14]; decide)))
  refine j_aload_n d_S_heldShard_19 rfl ?_
  refine j_getR d_S_heldShard_20 hN f_S_154_T rfl (by decide) st1 ?_
  refine j_iload_n d_S_heldShard_23 rfl ?_
  refine j_callS (vs := [_]) d_S_heldShard_24 w613 w405 w1 w406 y_S_shardOf (by decide) (by decide) (k_shardOf M2 (nI k)) rfl (Nat.le_of_ble_eq_true rfl) (by decide) (by decide) (fun M3 r3 hq3 => ?_)
  obtain ⟨rfl, rfl⟩ := hq3
  rw [show nI k - nI k / 8 * 8 = nI (k % 8) from pk_rem (d := 8) (by omega) (by decide) (by decide)]
  refine j_aaldR d_S_heldShard_27 st2 (by decide) ts_107 (aIx.n h8 (by decide)) d1 ?_
  refine j_astore d_S_heldShard_28 (by decide) ?_
  refine j_aload d_S_heldShard_30 rfl ?_
  refine j_callV (vs := []) d_S_heldShard_32 d2.1 (by decide) rfl w614 w615 w6 w617 w616 y_H_hasContents (by decide) (by decide) (k_hasContents M3 _ c d2.1 hc hc3) rfl (Nat.le_of_ble_eq_true rfl) (by decide) (by decide) (fun M4 r4 hq4 => ?_)
  obtain ⟨rfl, rfl⟩ := hq4
  refine j_if_eq (tgt := 43) d_S_heldShard_35 (by decide) (fun h35 => ?_) (fun h35 => False.elim (h35 (bP_f hno)))
  refine j_null d_S_heldShard_43 ?_
  refine j_areturnN d_S_heldShard_44 rfl ?_ (by decide) (by decide)
  exact ⟨rfl, rfl⟩
set_option maxRecDepth 20000 in
set_option maxHeartbeats 1000000 in
theorem k_held_4 (M : aM) (n k c : Nat) (h : cSh M) (h3 : 3 ≤ n) (hn : n < 12) (hk : k < 16) (hc : mI M (nd n + 3 + 4 * (k % 8)) 0 = nI c) (hc3 : c < 100) (hy : c = 1 ∨ c = 3) : aK m_S_heldShard 1 0 0 M [.ref 0, .int (nI n), .int (nI k)] (fun M1 r => M1 = M ∧ r = some (.ref (nd n + 3 + 4 * (k % 8)))) := by
  refine aK.of (by decide) (Nat.le_of_ble_eq_true rfl) ?_
  have h0 := h.2.1
  have hr0 := h.2.2.1
  have hr1 := h.2.2.2.1
  have hr2 := h.2.2.2.2.1
  have hA1 := h.2.2.2.2.2.1
  have hA2 := h.2.2.2.2.2.2.1
  have hA3 := h.2.2.2.2.2.2.2.1
  have hN := (cSh_T h h3 hn).1
  obtain ⟨st0, st1, st2, st3⟩ := cSh_st h h3 hn
  have h8 : k % 8 < 8 := Nat.mod_lt _ (by decide)
  obtain ⟨d1, d2⟩ := st3 (k % 8) h8
  refine j_aload_n d_S_heldShard_0 rfl ?_
  refine j_iload_n d_S_heldShard_1 rfl ?_
  refine j_callV (vs := [_]) d_S_heldShard_2 (by assumption) (by decide) rfl w467 w469 w1 w470 ws_S_anyStore y_S_anyStore (by decide) (by decide) (k_anyStore M n h h3 hn) rfl (Nat.le_of_ble_eq_true rfl) (by decide) (by decide) (fun M1 r1 hq1 => ?_)
  obtain ⟨rfl, rfl⟩ := hq1
  refine j_astore_n d_S_heldShard_5 (by decide) ?_
  refine j_aload_n d_S_heldShard_6 rfl ?_
  refine j_ifnull d_S_heldShard_7 ?_
  refine j_iload_n d_S_heldShard_10 rfl ?_
  refine j_callS (vs := [_]) d_S_heldShard_11 w474 w475 w1 w476 y_S_isKey (by decide) (by decide) (k_isKey M1 (nI k)) rfl (Nat.le_of_ble_eq_true rfl) (by decide) (by decide) (fun M2 r2 hq2 => ?_)
  obtain ⟨rfl, rfl⟩ := hq2
  refine j_if_ne (tgt := 19) d_S_heldShard_14 (by decide) (fun h14 => ?_) (fun h14 => False.elim (absurd (bP_t (p := 0 ≤ nI k ∧ nI k < 16) ⟨nI_pos' (by omega), nI_lt hk (by decide)⟩) (by rw [h14]; decide)))
  refine j_aload_n d_S_heldShard_19 rfl ?_
  refine j_getR d_S_heldShard_20 hN f_S_154_T rfl (by decide) st1 ?_
  refine j_iload_n d_S_heldShard_23 rfl ?_
  refine j_callS (vs := [_]) d_S_heldShard_24 w613 w405 w1 w406 y_S_shardOf (by decide) (by decide) (k_shardOf M2 (nI k)) rfl (Nat.le_of_ble_eq_true rfl) (by decide) (by decide) (fun M3 r3 hq3 => ?_)
  obtain ⟨rfl, rfl⟩ := hq3
  rw [show nI k - nI k / 8 * 8 = nI (k % 8) from pk_rem (d := 8) (by omega) (by decide) (by decide)]
  refine j_aaldR d_S_heldShard_27 st2 (by decide) ts_107 (aIx.n h8 (by decide)) d1 ?_
  refine j_astore d_S_heldShard_28 (by decide) ?_
  refine j_aload d_S_heldShard_30 rfl ?_
  refine j_callV (vs := []) d_S_heldShard_32 d2.1 (by decide) rfl w614 w615 w6 w617 w616 y_H_hasContents (by decide) (by decide) (k_hasContents M3 _ c d2.1 hc hc3) rfl (Nat.le_of_ble_eq_true rfl) (by decide) (by decide) (fun M4 r4 hq4 => ?_)
  obtain ⟨rfl, rfl⟩ := hq4
  refine j_if_eq (tgt := 43) d_S_heldShard_35 (by decide) (fun h35 => False.elim (absurd (bP_t hy) (by rw [h35]; decide))) (fun h35 => ?_)
  refine j_aload d_S_heldShard_38 rfl ?_
  refine j_goto 44 d_S_heldShard_40 (by decide) ?_
  refine j_areturn d_S_heldShard_44 rfl ?_ (by decide) (by decide)
  exact ⟨rfl, rfl⟩
theorem held_cases {M : aM} {S : aS} {t : Nat} (h : cR M S) (hi : sInv S t) (x y : Int32) : (aK m_S_heldShard 1 0 0 M [.ref 0, .int x, .int y] (fun M1 r => M1 = M ∧ r = some .null) ∧ ∀ n k, dG x = some n → dN y 16 = some k → ¬ hdOk S n k) ∨ ∃ n k, 3 ≤ n ∧ n < 12 ∧ k < 16 ∧ y = nI k ∧ dG x = some n ∧ dN y 16 = some k ∧ hdOk S n k ∧ shT M (nd n + 3 + 4 * (k % 8)) ∧ shV M (nd n + 3 + 4 * (k % 8)) ((sGp S n).2.2.2 (k % 8)) ∧ aK m_S_heldShard 1 0 0 M [.ref 0, .int x, .int y] (fun M1 r => M1 = M ∧ r = some (.ref (nd n + 3 + 4 * (k % 8)))) := by
  rcases dG_cases x with ⟨e, hx⟩ | ⟨n, h3, hn, rfl, e⟩
  · exact Or.inl ⟨k_held_1 M x y h.1 hx, fun n k q => by rw [e] at q; cases q⟩
  · rcases dN_cases y (N := 16) (by decide) with ⟨ey, hy⟩ | ⟨k, hk, rfl, ey⟩
    · exact Or.inl ⟨k_held_2 M n y h.1 h3 hn hy, fun n k _ q => by rw [ey] at q; cases q⟩
    · have h8 : k % 8 < 8 := Nat.mod_lt _ (by decide)
      have gr := (h.2 n hn).2.2.2.2.2.2 h3
      obtain ⟨b1, b2⟩ := gr.2.2 (k % 8) h8
      have vc := (hi.gp h3 hn).c h8
      obtain ⟨d1, d2⟩ := (cSh_st h.1 h3 hn).2.2.2 (k % 8) h8
      by_cases q : hdOk S n k
      · exact Or.inr ⟨n, k, h3, hn, hk, rfl, e, ey, q, d2, b2 q, k_held_4 M n k _ h.1 h3 hn hk b1 (by omega) q⟩
      · exact Or.inl ⟨k_held_3 M n k _ h.1 h3 hn hk b1 (by omega) q, fun n1 k1 q1 q2 => by rw [e] at q1; rw [ey] at q2; cases q1; cases q2; exact q⟩
set_option maxRecDepth 20000 in
set_option maxHeartbeats 1000000 in
theorem k_value_n (M : aM) (x y : Int32) (h : cSh M) (hk : aK m_S_heldShard 1 0 0 M [.ref 0, .int x, .int y] (fun M1 r => M1 = M ∧ r = some .null)) : aK m_S_value 2 0 0 M [.ref 0, .int x, .int y] (fun M1 r => M1 = M ∧ r = some (.int (-1))) := by
  refine aK.of (by decide) (Nat.le_of_ble_eq_true rfl) ?_
  have h0 := h.2.1
  have hr0 := h.2.2.1
  have hr1 := h.2.2.2.1
  have hr2 := h.2.2.2.2.1
  have hA1 := h.2.2.2.2.2.1
  have hA2 := h.2.2.2.2.2.2.1
  have hA3 := h.2.2.2.2.2.2.2.1
  refine j_aload_n d_S_value_0 rfl ?_
  refine j_iload_n d_S_value_1 rfl ?_
  refine j_iload_n d_S_value_2 rfl ?_
  refine j_callV (vs := [_, _]) d_S_value_3 (by assumption) (by decide) rfl w609 w611 w1 w612 ws_S_heldShard y_S_heldShard (by decide) (by decide) (hk) rfl (Nat.le_of_ble_eq_true rfl) (by decide) (by decide) (fun M1 r1 hq1 => ?_)
  obtain ⟨rfl, rfl⟩ := hq1
  refine j_astore_nN d_S_value_6 (by decide) ?_
  refine j_aload_nN d_S_value_7 rfl ?_
  refine j_ifnonnullN d_S_value_8 ?_
  refine j_iconst (v := -1) d_S_value_11 (by decide) ?_
  refine j_goto 24 d_S_value_12 (by decide) ?_
  refine j_ireturn d_S_value_24 rfl rfl ?_ (by decide) (by decide)
  exact ⟨rfl, rfl⟩
set_option maxRecDepth 20000 in
set_option maxHeartbeats 1000000 in
theorem k_value_y (M : aM) (x : Int32) (k a : Nat) (v : Nat → Nat) (h : cSh M) (hk16 : k < 16) (ht : shT M a) (hv : shV M a v) (hk : aK m_S_heldShard 1 0 0 M [.ref 0, .int x, .int (nI k)] (fun M1 r => M1 = M ∧ r = some (.ref a))) : aK m_S_value 2 0 0 M [.ref 0, .int x, .int (nI k)] (fun M1 r => M1 = M ∧ r = some (.int (nI (v (k / 8))))) := by
  refine aK.of (by decide) (Nat.le_of_ble_eq_true rfl) ?_
  have h0 := h.2.1
  have hr0 := h.2.2.1
  have hr1 := h.2.2.2.1
  have hr2 := h.2.2.2.2.1
  have hA1 := h.2.2.2.2.2.1
  have hA2 := h.2.2.2.2.2.2.1
  have hA3 := h.2.2.2.2.2.2.2.1
  refine j_aload_n d_S_value_0 rfl ?_
  refine j_iload_n d_S_value_1 rfl ?_
  refine j_iload_n d_S_value_2 rfl ?_
  refine j_callV (vs := [_, _]) d_S_value_3 (by assumption) (by decide) rfl w609 w611 w1 w612 ws_S_heldShard y_S_heldShard (by decide) (by decide) (hk) rfl (Nat.le_of_ble_eq_true rfl) (by decide) (by decide) (fun M1 r1 hq1 => ?_)
  obtain ⟨rfl, rfl⟩ := hq1
  refine j_astore_n d_S_value_6 (by decide) ?_
  refine j_aload_n d_S_value_7 rfl ?_
  refine j_ifnonnull 15 d_S_value_8 (by decide) ?_
  refine j_aload_n d_S_value_15 rfl ?_
  refine j_getR d_S_value_16 ht.1 f_S_202_H rfl (by decide) ht.2.1 ?_
  refine j_iload_n d_S_value_19 rfl ?_
  refine j_callS (vs := [_]) d_S_value_20 w618 w412 w1 w413 y_S_placeInShard (by decide) (by decide) (k_placeInShard M1 (nI k)) rfl (Nat.le_of_ble_eq_true rfl) (by decide) (by decide) (fun M2 r2 hq2 => ?_)
  obtain ⟨rfl, rfl⟩ := hq2
  rw [show nI k / 8 = nI (k / 8) from pk_div (d := 8) (by omega) (by decide) (by decide)]
  refine j_iald d_S_value_23 ht.2.2.2.2.1 (aIx.n (by omega) (by decide)) ?_
  refine j_eqi (hv.1 (k / 8) (by omega)) ?_
  refine j_ireturn d_S_value_24 rfl rfl ?_ (by decide) (by decide)
  exact ⟨rfl, rfl⟩
set_option maxRecDepth 20000 in
set_option maxHeartbeats 1000000 in
theorem k_latest_n (M : aM) (x c y : Int32) (h : cSh M) (hk : aK m_S_heldShard 1 0 0 M [.ref 0, .int x, .int y] (fun M1 r => M1 = M ∧ r = some .null)) : aK m_S_latest 2 0 0 M [.ref 0, .int x, .int c, .int y] (fun M1 r => M1 = M ∧ r = some (.int (-1))) := by
  refine aK.of (by decide) (Nat.le_of_ble_eq_true rfl) ?_
  have h0 := h.2.1
  have hr0 := h.2.2.1
  have hr1 := h.2.2.2.1
  have hr2 := h.2.2.2.2.1
  have hA1 := h.2.2.2.2.2.1
  have hA2 := h.2.2.2.2.2.2.1
  have hA3 := h.2.2.2.2.2.2.2.1
  refine j_aload_n d_S_latest_0 rfl ?_
  refine j_iload_n d_S_latest_1 rfl ?_
  refine j_iload_n d_S_latest_2 rfl ?_
  refine j_callV (vs := [_, _]) d_S_latest_3 (by assumption) (by decide) rfl w609 w611 w1 w612 ws_S_heldShard y_S_heldShard (by decide) (by decide) (hk) rfl (Nat.le_of_ble_eq_true rfl) (by decide) (by decide) (fun M1 r1 hq1 => ?_)
  obtain ⟨rfl, rfl⟩ := hq1
  refine j_astoreN d_S_latest_6 (by decide) ?_
  refine j_aloadN d_S_latest_8 rfl ?_
  refine j_ifnullN 20 d_S_latest_10 (by decide) ?_
  refine j_iconst (v := -1) d_S_latest_20 (by decide) ?_
  refine j_goto 31 d_S_latest_21 (by decide) ?_
  refine j_ireturn d_S_latest_31 rfl rfl ?_ (by decide) (by decide)
  exact ⟨rfl, rfl⟩
set_option maxRecDepth 20000 in
set_option maxHeartbeats 1000000 in
theorem k_latest_c (M : aM) (x c y : Int32) (a : Nat) (h : cSh M) (hc : c < 0 ∨ nI 3 ≤ c) (hk : aK m_S_heldShard 1 0 0 M [.ref 0, .int x, .int y] (fun M1 r => M1 = M ∧ r = some (.ref a))) : aK m_S_latest 2 0 0 M [.ref 0, .int x, .int c, .int y] (fun M1 r => M1 = M ∧ r = some (.int (-1))) := by
  refine aK.of (by decide) (Nat.le_of_ble_eq_true rfl) ?_
  have h0 := h.2.1
  have hr0 := h.2.2.1
  have hr1 := h.2.2.2.1
  have hr2 := h.2.2.2.2.1
  have hA1 := h.2.2.2.2.2.1
  have hA2 := h.2.2.2.2.2.2.1
  have hA3 := h.2.2.2.2.2.2.2.1
  refine j_aload_n d_S_latest_0 rfl ?_
  refine j_iload_n d_S_latest_1 rfl ?_
  refine j_iload_n d_S_latest_2 rfl ?_
  refine j_callV (vs := [_, _]) d_S_latest_3 (by assumption) (by decide) rfl w609 w611 w1 w612 ws_S_heldShard y_S_heldShard (by decide) (by decide) (hk) rfl (Nat.le_of_ble_eq_true rfl) (by decide) (by decide) (fun M1 r1 hq1 => ?_)
  obtain ⟨rfl, rfl⟩ := hq1
  refine j_astore d_S_latest_6 (by decide) ?_
  refine j_aload d_S_latest_8 rfl ?_
  refine j_ifnull d_S_latest_10 ?_
  refine j_iload_n d_S_latest_13 rfl ?_
  refine j_callS (vs := [_]) d_S_latest_14 w471 w472 w1 w473 y_S_isClient (by decide) (by decide) (k_isClient M1 c) rfl (Nat.le_of_ble_eq_true rfl) (by decide) (by decide) (fun M2 r2 hq2 => ?_)
  obtain ⟨rfl, rfl⟩ := hq2
  refine j_if_ne (tgt := 24) d_S_latest_17 (by decide) (fun h17 => False.elim (h17 (bP_f (fun w => hc.elim (fun q => Int32.not_lt.mpr w.1 q) (fun q => Int32.not_lt.mpr q w.2))))) (fun h17 => ?_)
  refine j_iconst (v := -1) d_S_latest_20 (by decide) ?_
  refine j_goto 31 d_S_latest_21 (by decide) ?_
  refine j_ireturn d_S_latest_31 rfl rfl ?_ (by decide) (by decide)
  exact ⟨rfl, rfl⟩
set_option maxRecDepth 20000 in
set_option maxHeartbeats 1000000 in
theorem k_latest_y (M : aM) (x y : Int32) (j a : Nat) (v : Nat → Nat) (h : cSh M) (hj : j < 3) (ht : shT M a) (hv : shV M a v) (hk : aK m_S_heldShard 1 0 0 M [.ref 0, .int x, .int y] (fun M1 r => M1 = M ∧ r = some (.ref a))) : aK m_S_latest 2 0 0 M [.ref 0, .int x, .int (nI j), .int y] (fun M1 r => M1 = M ∧ r = some (.int (nI (v (2 + j))))) := by
  refine aK.of (by decide) (Nat.le_of_ble_eq_true rfl) ?_
  have h0 := h.2.1
  have hr0 := h.2.2.1
  have hr1 := h.2.2.2.1
  have hr2 := h.2.2.2.2.1
  have hA1 := h.2.2.2.2.2.1
  have hA2 := h.2.2.2.2.2.2.1
  have hA3 := h.2.2.2.2.2.2.2.1
  refine j_aload_n d_S_latest_0 rfl ?_
  refine j_iload_n d_S_latest_1 rfl ?_
  refine j_iload_n d_S_latest_2 rfl ?_
  refine j_callV (vs := [_, _]) d_S_latest_3 (by assumption) (by decide) rfl w609 w611 w1 w612 ws_S_heldShard y_S_heldShard (by decide) (by decide) (hk) rfl (Nat.le_of_ble_eq_true rfl) (by decide) (by decide) (fun M1 r1 hq1 => ?_)
  obtain ⟨rfl, rfl⟩ := hq1
  refine j_astore d_S_latest_6 (by decide) ?_
  refine j_aload d_S_latest_8 rfl ?_
  refine j_ifnull d_S_latest_10 ?_
  refine j_iload_n d_S_latest_13 rfl ?_
  refine j_callS (vs := [_]) d_S_latest_14 w471 w472 w1 w473 y_S_isClient (by decide) (by decide) (k_isClient M1 (nI j)) rfl (Nat.le_of_ble_eq_true rfl) (by decide) (by decide) (fun M2 r2 hq2 => ?_)
  obtain ⟨rfl, rfl⟩ := hq2
  refine j_if_ne (tgt := 24) d_S_latest_17 (by decide) (fun h17 => ?_) (fun h17 => False.elim (absurd (bP_t (p := 0 ≤ nI j ∧ nI j < 3) ⟨nI_pos' (by omega), nI_lt hj (by decide)⟩) (by rw [h17]; decide)))
  refine j_aload d_S_latest_24 rfl ?_
  refine j_getR d_S_latest_26 ht.1 f_S_208_H rfl (by decide) ht.2.2.1 ?_
  refine j_iload_n d_S_latest_29 rfl ?_
  refine j_iald d_S_latest_30 ht.2.2.2.2.2.1 (aIx.n (by omega) (by decide)) ?_
  refine j_eqi (hv.2.1 j hj) ?_
  refine j_ireturn d_S_latest_31 rfl rfl ?_ (by decide) (by decide)
  exact ⟨rfl, rfl⟩
theorem c_latest (M : aM) (S : aS) (t : Nat) (x c y : Int32) (h : cR M S) (hi : sInv S t) : aK m_S_latest 2 0 0 M [.ref 0, .int x, .int c, .int y] (cQ M (oHeld 2 S x c y)) := by
  have no : ∀ v : Int32, oHeld 2 S x c y = (S, v) → ∀ M1 r, (M1 = M ∧ r = some (.int v)) → cQ M (oHeld 2 S x c y) M1 r := by
    rintro v e M1 r ⟨rfl, rfl⟩
    rw [e]
    exact ⟨rfl, h, fM.rf _⟩
  rcases held_cases h hi x y with ⟨hk, q⟩ | ⟨n, k, h3, hn, hk16, rfl, en, ek, q, ht, hv, hk⟩
  · refine (k_latest_n M x c y h.1 hk).weaken (no _ ?_)
    unfold oHeld
    cases ex : dG x with
    | none => rfl
    | some a =>
      cases ey : dN y 16 with
      | none => rfl
      | some b =>
        cases ez : dN c 3 with
        | none => rfl
        | some s => simp only []; rw [if_neg (q a b ex ey)]
  · rcases dN_cases c (N := 3) (by decide) with ⟨ec, hc⟩ | ⟨j, hj, rfl, ec⟩
    · exact (k_latest_c M x c (nI k) _ h.1 hc hk).weaken (no _ (by unfold oHeld; rw [en, ek, ec]))
    · exact (k_latest_y M x (nI k) j _ _ h.1 hj ht hv hk).weaken (no _ (by unfold oHeld; rw [en, ek, ec]; simp only []; rw [if_pos q]))
set_option maxRecDepth 20000 in
set_option maxHeartbeats 1000000 in
theorem k_answer_n (M : aM) (x c y : Int32) (h : cSh M) (hk : aK m_S_heldShard 1 0 0 M [.ref 0, .int x, .int y] (fun M1 r => M1 = M ∧ r = some .null)) : aK m_S_answer 2 0 0 M [.ref 0, .int x, .int c, .int y] (fun M1 r => M1 = M ∧ r = some (.int (-1))) := by
  refine aK.of (by decide) (Nat.le_of_ble_eq_true rfl) ?_
  have h0 := h.2.1
  have hr0 := h.2.2.1
  have hr1 := h.2.2.2.1
  have hr2 := h.2.2.2.2.1
  have hA1 := h.2.2.2.2.2.1
  have hA2 := h.2.2.2.2.2.2.1
  have hA3 := h.2.2.2.2.2.2.2.1
  refine j_aload_n d_S_answer_0 rfl ?_
  refine j_iload_n d_S_answer_1 rfl ?_
  refine j_iload_n d_S_answer_2 rfl ?_
  refine j_callV (vs := [_, _]) d_S_answer_3 (by assumption) (by decide) rfl w609 w611 w1 w612 ws_S_heldShard y_S_heldShard (by decide) (by decide) (hk) rfl (Nat.le_of_ble_eq_true rfl) (by decide) (by decide) (fun M1 r1 hq1 => ?_)
  obtain ⟨rfl, rfl⟩ := hq1
  refine j_astoreN d_S_answer_6 (by decide) ?_
  refine j_aloadN d_S_answer_8 rfl ?_
  refine j_ifnullN 20 d_S_answer_10 (by decide) ?_
  refine j_iconst (v := -1) d_S_answer_20 (by decide) ?_
  refine j_goto 31 d_S_answer_21 (by decide) ?_
  refine j_ireturn d_S_answer_31 rfl rfl ?_ (by decide) (by decide)
  exact ⟨rfl, rfl⟩
set_option maxRecDepth 20000 in
set_option maxHeartbeats 1000000 in
theorem k_answer_c (M : aM) (x c y : Int32) (a : Nat) (h : cSh M) (hc : c < 0 ∨ nI 3 ≤ c) (hk : aK m_S_heldShard 1 0 0 M [.ref 0, .int x, .int y] (fun M1 r => M1 = M ∧ r = some (.ref a))) : aK m_S_answer 2 0 0 M [.ref 0, .int x, .int c, .int y] (fun M1 r => M1 = M ∧ r = some (.int (-1))) := by
  refine aK.of (by decide) (Nat.le_of_ble_eq_true rfl) ?_
  have h0 := h.2.1
  have hr0 := h.2.2.1
  have hr1 := h.2.2.2.1
  have hr2 := h.2.2.2.2.1
  have hA1 := h.2.2.2.2.2.1
  have hA2 := h.2.2.2.2.2.2.1
  have hA3 := h.2.2.2.2.2.2.2.1
  refine j_aload_n d_S_answer_0 rfl ?_
  refine j_iload_n d_S_answer_1 rfl ?_
  refine j_iload_n d_S_answer_2 rfl ?_
  refine j_callV (vs := [_, _]) d_S_answer_3 (by assumption) (by decide) rfl w609 w611 w1 w612 ws_S_heldShard y_S_heldShard (by decide) (by decide) (hk) rfl (Nat.le_of_ble_eq_true rfl) (by decide) (by decide) (fun M1 r1 hq1 => ?_)
  obtain ⟨rfl, rfl⟩ := hq1
  refine j_astore d_S_answer_6 (by decide) ?_
  refine j_aload d_S_answer_8 rfl ?_
  refine j_ifnull d_S_answer_10 ?_
  refine j_iload_n d_S_answer_13 rfl ?_
  refine j_callS (vs := [_]) d_S_answer_14 w471 w472 w1 w473 y_S_isClient (by decide) (by decide) (k_isClient M1 c) rfl (Nat.le_of_ble_eq_true rfl) (by decide) (by decide) (fun M2 r2 hq2 => ?_)
  obtain ⟨rfl, rfl⟩ := hq2
  refine j_if_ne (tgt := 24) d_S_answer_17 (by decide) (fun h17 => False.elim (h17 (bP_f (fun w => hc.elim (fun q => Int32.not_lt.mpr w.1 q) (fun q => Int32.not_lt.mpr q w.2))))) (fun h17 => ?_)
  refine j_iconst (v := -1) d_S_answer_20 (by decide) ?_
  refine j_goto 31 d_S_answer_21 (by decide) ?_
  refine j_ireturn d_S_answer_31 rfl rfl ?_ (by decide) (by decide)
  exact ⟨rfl, rfl⟩
set_option maxRecDepth 20000 in
set_option maxHeartbeats 1000000 in
theorem k_answer_y (M : aM) (x y : Int32) (j a : Nat) (v : Nat → Nat) (h : cSh M) (hj : j < 3) (ht : shT M a) (hv : shV M a v) (hk : aK m_S_heldShard 1 0 0 M [.ref 0, .int x, .int y] (fun M1 r => M1 = M ∧ r = some (.ref a))) : aK m_S_answer 2 0 0 M [.ref 0, .int x, .int (nI j), .int y] (fun M1 r => M1 = M ∧ r = some (.int (nI (v (5 + j))))) := by
  refine aK.of (by decide) (Nat.le_of_ble_eq_true rfl) ?_
  have h0 := h.2.1
  have hr0 := h.2.2.1
  have hr1 := h.2.2.2.1
  have hr2 := h.2.2.2.2.1
  have hA1 := h.2.2.2.2.2.1
  have hA2 := h.2.2.2.2.2.2.1
  have hA3 := h.2.2.2.2.2.2.2.1
  refine j_aload_n d_S_answer_0 rfl ?_
  refine j_iload_n d_S_answer_1 rfl ?_
  refine j_iload_n d_S_answer_2 rfl ?_
  refine j_callV (vs := [_, _]) d_S_answer_3 (by assumption) (by decide) rfl w609 w611 w1 w612 ws_S_heldShard y_S_heldShard (by decide) (by decide) (hk) rfl (Nat.le_of_ble_eq_true rfl) (by decide) (by decide) (fun M1 r1 hq1 => ?_)
  obtain ⟨rfl, rfl⟩ := hq1
  refine j_astore d_S_answer_6 (by decide) ?_
  refine j_aload d_S_answer_8 rfl ?_
  refine j_ifnull d_S_answer_10 ?_
  refine j_iload_n d_S_answer_13 rfl ?_
  refine j_callS (vs := [_]) d_S_answer_14 w471 w472 w1 w473 y_S_isClient (by decide) (by decide) (k_isClient M1 (nI j)) rfl (Nat.le_of_ble_eq_true rfl) (by decide) (by decide) (fun M2 r2 hq2 => ?_)
  obtain ⟨rfl, rfl⟩ := hq2
  refine j_if_ne (tgt := 24) d_S_answer_17 (by decide) (fun h17 => ?_) (fun h17 => False.elim (absurd (bP_t (p := 0 ≤ nI j ∧ nI j < 3) ⟨nI_pos' (by omega), nI_lt hj (by decide)⟩) (by rw [h17]; decide)))
  refine j_aload d_S_answer_24 rfl ?_
  refine j_getR d_S_answer_26 ht.1 f_S_211_H rfl (by decide) ht.2.2.2.1 ?_
  refine j_iload_n d_S_answer_29 rfl ?_
  refine j_iald d_S_answer_30 ht.2.2.2.2.2.2 (aIx.n (by omega) (by decide)) ?_
  refine j_eqi (hv.2.2 j hj) ?_
  refine j_ireturn d_S_answer_31 rfl rfl ?_ (by decide) (by decide)
  exact ⟨rfl, rfl⟩
theorem c_answer (M : aM) (S : aS) (t : Nat) (x c y : Int32) (h : cR M S) (hi : sInv S t) : aK m_S_answer 2 0 0 M [.ref 0, .int x, .int c, .int y] (cQ M (oHeld 5 S x c y)) := by
  have no : ∀ v : Int32, oHeld 5 S x c y = (S, v) → ∀ M1 r, (M1 = M ∧ r = some (.int v)) → cQ M (oHeld 5 S x c y) M1 r := by
    rintro v e M1 r ⟨rfl, rfl⟩
    rw [e]
    exact ⟨rfl, h, fM.rf _⟩
  rcases held_cases h hi x y with ⟨hk, q⟩ | ⟨n, k, h3, hn, hk16, rfl, en, ek, q, ht, hv, hk⟩
  · refine (k_answer_n M x c y h.1 hk).weaken (no _ ?_)
    unfold oHeld
    cases ex : dG x with
    | none => rfl
    | some a =>
      cases ey : dN y 16 with
      | none => rfl
      | some b =>
        cases ez : dN c 3 with
        | none => rfl
        | some s => simp only []; rw [if_neg (q a b ex ey)]
  · rcases dN_cases c (N := 3) (by decide) with ⟨ec, hc⟩ | ⟨j, hj, rfl, ec⟩
    · exact (k_answer_c M x c (nI k) _ h.1 hc hk).weaken (no _ (by unfold oHeld; rw [en, ek, ec]))
    · exact (k_answer_y M x (nI k) j _ _ h.1 hj ht hv hk).weaken (no _ (by unfold oHeld; rw [en, ek, ec]; simp only []; rw [if_pos q]))
theorem c_value (M : aM) (S : aS) (t : Nat) (x y : Int32) (h : cR M S) (hi : sInv S t) : aK m_S_value 2 0 0 M [.ref 0, .int x, .int y] (cQ M (oValue S x y)) := by
  have no : ∀ v : Int32, oValue S x y = (S, v) → ∀ M1 r, (M1 = M ∧ r = some (.int v)) → cQ M (oValue S x y) M1 r := by
    rintro v e M1 r ⟨rfl, rfl⟩
    rw [e]
    exact ⟨rfl, h, fM.rf _⟩
  rcases held_cases h hi x y with ⟨hk, q⟩ | ⟨n, k, h3, hn, hk16, rfl, en, ek, q, ht, hv, hk⟩
  · refine (k_value_n M x y h.1 hk).weaken (no _ ?_)
    unfold oValue
    cases ex : dG x with
    | none => rfl
    | some a =>
      cases ey : dN y 16 with
      | none => rfl
      | some b => simp only []; rw [if_neg (q a b ex ey)]
  · exact (k_value_y M x k _ _ h.1 hk16 ht hv hk).weaken (no _ (by unfold oValue; rw [en, ek]; simp only []; rw [if_pos q]))
