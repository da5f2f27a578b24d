theorem mRep_g {M M1 : aM} {S : aS} (h : mRep M S) (o : oI M M1 gcl) : mRep M1 S := mRep_scr h (o.mono gcl_s)
theorem mRep_v {M M1 : aM} {S : aS} (h : mRep M S) (o : oI M M1 vcl) : mRep M1 S := mRep_scr h (o.mono vcl_s)
theorem fY_g {M M1 : aM} (o : oI M M1 gcl) : fY M M1 := (o.mono gcl_s).fY scr_m
theorem fY_v {M M1 : aM} (o : oI M M1 vcl) : fY M M1 := (o.mono vcl_s).fY scr_m

set_option maxRecDepth 20000 in
set_option maxHeartbeats 1000000 in
theorem q_configuration_n (M : aM) (x : Int32) (hm : mSh M) (hx : x < 0 ∨ nI 12 ≤ x) : aK m_M_configuration 5 0 0 M [.ref 332, .int x] (fun M1 r => M1 = M ∧ r = some (.int (-1))) := by
  refine aK.of (by decide) (Nat.le_of_ble_eq_true rfl) ?_
  obtain ⟨h0, q_off, t_off, q_leads, t_leads, q_term, t_term, q_length, t_length, q_known, t_known, q_logs, t_logs, q_entry, t_entry, q_members, t_members, q_owners, t_owners, q_owner, t_owner, q_condition, t_condition, q_held, t_held⟩ := hm
  refine j_iload_n d_M_configuration_0 rfl ?_
  refine j_bipush (v := 12) d_M_configuration_1 (by decide) ?_
  refine j_callS (vs := [_, _]) d_M_configuration_3 w680 w681 w7 w682 y_M_below (by decide) (by decide) (k_below_f M (N := 12) hx) rfl (Nat.le_of_ble_eq_true rfl) (by decide) (by decide) (fun M1 r1 hq1 => ?_)
  obtain ⟨rfl, rfl⟩ := hq1
  refine j_if_ne (tgt := 11) d_M_configuration_6 (by decide) (fun h6 => False.elim (h6 rfl)) (fun h6 => ?_)
  refine j_iconst (v := -1) d_M_configuration_9 (by decide) ?_
  refine j_ireturn d_M_configuration_10 rfl rfl ?_ (by decide) (by decide)
  exact ⟨rfl, rfl⟩
set_option maxRecDepth 20000 in
set_option maxHeartbeats 1000000 in
theorem q_configuration_V (M : aM) (S : aS) (t : Nat) (n : Nat) (h : mRep M S) (hi : sInv S t) (hn : n < 3) : aK m_M_configuration 5 0 0 M [.ref 332, .int (nI n)] (mQ M (S, nI ((sSv S n).1 - 1))) := by
  refine aK.of (by decide) (Nat.le_of_ble_eq_true rfl) ?_
  have hm := h.1
  have hmm := h.1
  obtain ⟨h0, q_off, t_off, q_leads, t_leads, q_term, t_term, q_length, t_length, q_known, t_known, q_logs, t_logs, q_entry, t_entry, q_members, t_members, q_owners, t_owners, q_owner, t_owner, q_condition, t_condition, q_held, t_held⟩ := hm
  refine j_iload_n d_M_configuration_0 rfl ?_
  refine j_bipush (v := 12) d_M_configuration_1 (by decide) ?_
  refine j_callS (vs := [_, _]) d_M_configuration_3 w680 w681 w7 w682 y_M_below (by decide) (by decide) (k_below_t M (N := 12) (show n < 12 by omega) (by decide)) rfl (Nat.le_of_ble_eq_true rfl) (by decide) (by decide) (fun M1 r1 hq1 => ?_)
  obtain ⟨rfl, rfl⟩ := hq1
  refine j_if_ne (tgt := 11) d_M_configuration_6 (by decide) (fun h6 => ?_) (fun h6 => False.elim (absurd h6 (by decide)))
  refine j_iload_n d_M_configuration_11 rfl ?_
  refine j_iconst (v := 3) d_M_configuration_12 (by decide) ?_
  refine j_icmp_ge (tgt := 24) d_M_configuration_13 (by decide) (fun h13 => False.elim (nI_ge (b := 3) hn (by decide) h13)) (fun h13 => ?_)
  refine j_aload_n d_M_configuration_16 rfl ?_
  refine j_iload_n d_M_configuration_17 rfl ?_
  refine j_callV (vs := [_]) d_M_configuration_18 h0 (by decide) rfl w758 w760 w7 w761 ws_M_service y_M_service (by decide) (by decide) (q_service M1 S t n h hi (by omega)) rfl (Nat.le_of_ble_eq_true rfl) (by decide) (by decide) (fun M2 r2 hq2 => ?_)
  obtain ⟨rfl, hV, o, -⟩ := hq2
  obtain ⟨h0, q_off, t_off, q_leads, t_leads, q_term, t_term, q_length, t_length, q_known, t_known, q_logs, t_logs, q_entry, t_entry, q_members, t_members, q_owners, t_owners, q_owner, t_owner, q_condition, t_condition, q_held, t_held⟩ := o.mSh hmm
  refine j_goto 29 d_M_configuration_21 (by decide) ?_
  refine j_iload_n d_M_configuration_29 rfl ?_
  refine j_iconst (v := 3) d_M_configuration_30 (by decide) ?_
  refine j_icmp_ge (tgt := 43) d_M_configuration_31 (by decide) (fun h31 => False.elim (nI_ge (b := 3) hn (by decide) h31)) (fun h31 => ?_)
  refine j_aload_n d_M_configuration_34 rfl ?_
  refine j_geti d_M_configuration_35 h0 f_M_83_M rfl (by decide) ?_
  refine j_eqi hV.1 ?_
  refine j_iconst (v := 1) d_M_configuration_38 (by decide) ?_
  refine j_isub d_M_configuration_39 ?_
  refine j_eqi (pk_sub (b := 1) (hi.sv (n := n) (by omega)).1) ?_
  refine j_goto 47 d_M_configuration_40 (by decide) ?_
  refine j_ireturn d_M_configuration_47 rfl rfl ?_ (by decide) (by decide)
  exact ⟨rfl, mRep_v h o, fY_v o⟩
set_option maxRecDepth 20000 in
set_option maxHeartbeats 1000000 in
theorem q_configuration_T (M : aM) (S : aS) (t : Nat) (n : Nat) (h : mRep M S) (hi : sInv S t) (h3 : 3 ≤ n) (hn : n < 12) : aK m_M_configuration 5 0 0 M [.ref 332, .int (nI n)] (mQ M (S, nI (sGp S n).1)) := by
  refine aK.of (by decide) (Nat.le_of_ble_eq_true rfl) ?_
  have hm := h.1
  have hmm := h.1
  obtain ⟨h0, q_off, t_off, q_leads, t_leads, q_term, t_term, q_length, t_length, q_known, t_known, q_logs, t_logs, q_entry, t_entry, q_members, t_members, q_owners, t_owners, q_owner, t_owner, q_condition, t_condition, q_held, t_held⟩ := hm
  refine j_iload_n d_M_configuration_0 rfl ?_
  refine j_bipush (v := 12) d_M_configuration_1 (by decide) ?_
  refine j_callS (vs := [_, _]) d_M_configuration_3 w680 w681 w7 w682 y_M_below (by decide) (by decide) (k_below_t M (N := 12) hn (by decide)) rfl (Nat.le_of_ble_eq_true rfl) (by decide) (by decide) (fun M1 r1 hq1 => ?_)
  obtain ⟨rfl, rfl⟩ := hq1
  refine j_if_ne (tgt := 11) d_M_configuration_6 (by decide) (fun h6 => ?_) (fun h6 => False.elim (absurd h6 (by decide)))
  refine j_iload_n d_M_configuration_11 rfl ?_
  refine j_iconst (v := 3) d_M_configuration_12 (by decide) ?_
  refine j_icmp_ge (tgt := 24) d_M_configuration_13 (by decide) (fun h13 => ?_) (fun h13 => False.elim (h13 (nI_le (a := 3) h3 (by omega))))
  refine j_aload_n d_M_configuration_24 rfl ?_
  refine j_iload_n d_M_configuration_25 rfl ?_
  refine j_callV (vs := [_]) d_M_configuration_26 h0 (by decide) rfl w742 w744 w7 w745 ws_M_group y_M_group (by decide) (by decide) (q_group M1 S t n h hi h3 hn) rfl (Nat.le_of_ble_eq_true rfl) (by decide) (by decide) (fun M2 r2 hq2 => ?_)
  obtain ⟨rfl, hG, o⟩ := hq2
  obtain ⟨h0, q_off, t_off, q_leads, t_leads, q_term, t_term, q_length, t_length, q_known, t_known, q_logs, t_logs, q_entry, t_entry, q_members, t_members, q_owners, t_owners, q_owner, t_owner, q_condition, t_condition, q_held, t_held⟩ := o.mSh hmm
  refine j_iload_n d_M_configuration_29 rfl ?_
  refine j_iconst (v := 3) d_M_configuration_30 (by decide) ?_
  refine j_icmp_ge (tgt := 43) d_M_configuration_31 (by decide) (fun h31 => ?_) (fun h31 => False.elim (h31 (nI_le (a := 3) h3 (by omega))))
  refine j_aload_n d_M_configuration_43 rfl ?_
  refine j_geti d_M_configuration_44 h0 f_M_99_M rfl (by decide) ?_
  refine j_eqi hG.1 ?_
  refine j_ireturn d_M_configuration_47 rfl rfl ?_ (by decide) (by decide)
  exact ⟨rfl, mRep_g h o, fY_g o⟩
theorem m_configuration (M : aM) (S : aS) (t : Nat) (x : Int32) (h : mRep M S) (hi : sInv S t) : aK m_M_configuration 5 0 0 M [.ref 332, .int x] (mQ M (oConfiguration S x)) := by
  unfold oConfiguration
  rcases dN_cases x (N := 12) (by decide) with ⟨e, hx⟩ | ⟨n, hn, rfl, e⟩
  · rw [e]
    refine (q_configuration_n M x h.1 hx).weaken ?_
    rintro M1 r ⟨rfl, rfl⟩
    exact ⟨rfl, h, fY.rf _⟩
  · rw [e]
    by_cases h3 : n < 3
    · simp only [if_pos h3]; exact q_configuration_V M S t n h hi h3
    · simp only [if_neg h3]; exact q_configuration_T M S t n h hi (by omega) hn
set_option maxRecDepth 20000 in
set_option maxHeartbeats 1000000 in
theorem q_owner_1 (M : aM) (x c z : Int32) (hm : mSh M) (hx : x < 0 ∨ nI 3 ≤ x) : aK m_M_owner 5 0 0 M [.ref 332, .int x, .int c, .int z] (fun M1 r => M1 = M ∧ r = some (.int (-1))) := by
  refine aK.of (by decide) (Nat.le_of_ble_eq_true rfl) ?_
  obtain ⟨h0, q_off, t_off, q_leads, t_leads, q_term, t_term, q_length, t_length, q_known, t_known, q_logs, t_logs, q_entry, t_entry, q_members, t_members, q_owners, t_owners, q_owner, t_owner, q_condition, t_condition, q_held, t_held⟩ := hm
  refine j_iload_n d_M_owner_0 rfl ?_
  refine j_iconst (v := 3) d_M_owner_1 (by decide) ?_
  refine j_callS (vs := [_, _]) d_M_owner_2 w680 w681 w7 w682 y_M_below (by decide) (by decide) (k_below_f M (N := 3) hx) rfl (Nat.le_of_ble_eq_true rfl) (by decide) (by decide) (fun M1 r1 hq1 => ?_)
  obtain ⟨rfl, rfl⟩ := hq1
  refine j_if_eq (tgt := 17) d_M_owner_5 (by decide) (fun h5 => ?_) (fun h5 => False.elim (h5 rfl))
  refine j_iconst (v := -1) d_M_owner_17 (by decide) ?_
  refine j_ireturn d_M_owner_18 rfl rfl ?_ (by decide) (by decide)
  exact ⟨rfl, rfl⟩
set_option maxRecDepth 20000 in
set_option maxHeartbeats 1000000 in
theorem q_owner_2 (M : aM) (n : Nat) (c z : Int32) (hm : mSh M) (hn : n < 3) (hx : z < 0 ∨ nI 8 ≤ z) : aK m_M_owner 5 0 0 M [.ref 332, .int (nI n), .int c, .int z] (fun M1 r => M1 = M ∧ r = some (.int (-1))) := by
  refine aK.of (by decide) (Nat.le_of_ble_eq_true rfl) ?_
  obtain ⟨h0, q_off, t_off, q_leads, t_leads, q_term, t_term, q_length, t_length, q_known, t_known, q_logs, t_logs, q_entry, t_entry, q_members, t_members, q_owners, t_owners, q_owner, t_owner, q_condition, t_condition, q_held, t_held⟩ := hm
  refine j_iload_n d_M_owner_0 rfl ?_
  refine j_iconst (v := 3) d_M_owner_1 (by decide) ?_
  refine j_callS (vs := [_, _]) d_M_owner_2 w680 w681 w7 w682 y_M_below (by decide) (by decide) (k_below_t M (N := 3) hn (by decide)) rfl (Nat.le_of_ble_eq_true rfl) (by decide) (by decide) (fun M1 r1 hq1 => ?_)
  obtain ⟨rfl, rfl⟩ := hq1
  refine j_if_eq (tgt := 17) d_M_owner_5 (by decide) (fun h5 => False.elim (absurd h5 (by decide))) (fun h5 => ?_)
  refine j_iload_n d_M_owner_8 rfl ?_
  refine j_bipush (v := 8) d_M_owner_9 (by decide) ?_
  refine j_callS (vs := [_, _]) d_M_owner_11 w680 w681 w7 w682 y_M_below (by decide) (by decide) (k_below_f M1 (N := 8) hx) rfl (Nat.le_of_ble_eq_true rfl) (by decide) (by decide) (fun M2 r2 hq2 => ?_)
  obtain ⟨rfl, rfl⟩ := hq2
  refine j_if_ne (tgt := 19) d_M_owner_14 (by decide) (fun h14 => False.elim (h14 rfl)) (fun h14 => ?_)
  refine j_iconst (v := -1) d_M_owner_17 (by decide) ?_
  refine j_ireturn d_M_owner_18 rfl rfl ?_ (by decide) (by decide)
  exact ⟨rfl, rfl⟩
set_option maxRecDepth 20000 in
set_option maxHeartbeats 1000000 in
theorem q_owner_3 (M : aM) (S : aS) (t : Nat) (n s : Nat) (c : Int32) (h : mRep M S) (hi : sInv S t) (hn : n < 3) (hs : s < 8) (hc : c < 0 ∨ nI (sSv S n).1 ≤ c) : aK m_M_owner 5 0 0 M [.ref 332, .int (nI n), .int c, .int (nI s)] (mQ M (S, -1)) := by
  refine aK.of (by decide) (Nat.le_of_ble_eq_true rfl) ?_
  have hm := h.1
  have hmm := h.1
  obtain ⟨h0, q_off, t_off, q_leads, t_leads, q_term, t_term, q_length, t_length, q_known, t_known, q_logs, t_logs, q_entry, t_entry, q_members, t_members, q_owners, t_owners, q_owner, t_owner, q_condition, t_condition, q_held, t_held⟩ := hm
  refine j_iload_n d_M_owner_0 rfl ?_
  refine j_iconst (v := 3) d_M_owner_1 (by decide) ?_
  refine j_callS (vs := [_, _]) d_M_owner_2 w680 w681 w7 w682 y_M_below (by decide) (by decide) (k_below_t M (N := 3) hn (by decide)) rfl (Nat.le_of_ble_eq_true rfl) (by decide) (by decide) (fun M1 r1 hq1 => ?_)
  obtain ⟨rfl, rfl⟩ := hq1
  refine j_if_eq (tgt := 17) d_M_owner_5 (by decide) (fun h5 => False.elim (absurd h5 (by decide))) (fun h5 => ?_)
  refine j_iload_n d_M_owner_8 rfl ?_
  refine j_bipush (v := 8) d_M_owner_9 (by decide) ?_
  refine j_callS (vs := [_, _]) d_M_owner_11 w680 w681 w7 w682 y_M_below (by decide) (by decide) (k_below_t M1 (N := 8) hs (by decide)) rfl (Nat.le_of_ble_eq_true rfl) (by decide) (by decide) (fun M2 r2 hq2 => ?_)
  obtain ⟨rfl, rfl⟩ := hq2
  refine j_if_ne (tgt := 19) d_M_owner_14 (by decide) (fun h14 => ?_) (fun h14 => False.elim (absurd h14 (by decide)))
  refine j_aload_n d_M_owner_19 rfl ?_
  refine j_iload_n d_M_owner_20 rfl ?_
  refine j_callV (vs := [_]) d_M_owner_21 h0 (by decide) rfl w758 w760 w7 w761 ws_M_service y_M_service (by decide) (by decide) (q_service M2 S t n h hi (by omega)) rfl (Nat.le_of_ble_eq_true rfl) (by decide) (by decide) (fun M3 r3 hq3 => ?_)
  obtain ⟨rfl, hV, o, -⟩ := hq3
  obtain ⟨h0, q_off, t_off, q_leads, t_leads, q_term, t_term, q_length, t_length, q_known, t_known, q_logs, t_logs, q_entry, t_entry, q_members, t_members, q_owners, t_owners, q_owner, t_owner, q_condition, t_condition, q_held, t_held⟩ := o.mSh hmm
  refine j_iload_n d_M_owner_24 rfl ?_
  refine j_aload_n d_M_owner_25 rfl ?_
  refine j_geti d_M_owner_26 h0 f_M_83_M rfl (by decide) ?_
  refine j_eqi hV.1 ?_
  refine j_callS (vs := [_, _]) d_M_owner_29 w680 w681 w7 w682 y_M_below (by decide) (by decide) (k_below_f M3 hc) rfl (Nat.le_of_ble_eq_true rfl) (by decide) (by decide) (fun M4 r4 hq4 => ?_)
  obtain ⟨rfl, rfl⟩ := hq4
  refine j_if_eq (tgt := 49) d_M_owner_32 (by decide) (fun h32 => ?_) (fun h32 => False.elim (h32 rfl))
  refine j_iconst (v := -1) d_M_owner_49 (by decide) ?_
  refine j_ireturn d_M_owner_50 rfl rfl ?_ (by decide) (by decide)
  exact ⟨rfl, mRep_v h o, fY_v o⟩
set_option maxRecDepth 20000 in
set_option maxHeartbeats 1000000 in
theorem q_owner_4 (M : aM) (S : aS) (t : Nat) (n j s : Nat) (h : mRep M S) (hi : sInv S t) (hn : n < 3) (hs : s < 8) (hj : j < (sSv S n).1) : aK m_M_owner 5 0 0 M [.ref 332, .int (nI n), .int (nI j), .int (nI s)] (mQ M (S, nI (((sSv S n).2 j).2 s))) := by
  refine aK.of (by decide) (Nat.le_of_ble_eq_true rfl) ?_
  have hm := h.1
  have hmm := h.1
  obtain ⟨h0, q_off, t_off, q_leads, t_leads, q_term, t_term, q_length, t_length, q_known, t_known, q_logs, t_logs, q_entry, t_entry, q_members, t_members, q_owners, t_owners, q_owner, t_owner, q_condition, t_condition, q_held, t_held⟩ := hm
  have s16 := (hi.sv (n := n) (by omega)).2.1
  refine j_iload_n d_M_owner_0 rfl ?_
  refine j_iconst (v := 3) d_M_owner_1 (by decide) ?_
  refine j_callS (vs := [_, _]) d_M_owner_2 w680 w681 w7 w682 y_M_below (by decide) (by decide) (k_below_t M (N := 3) hn (by decide)) rfl (Nat.le_of_ble_eq_true rfl) (by decide) (by decide) (fun M1 r1 hq1 => ?_)
  obtain ⟨rfl, rfl⟩ := hq1
  refine j_if_eq (tgt := 17) d_M_owner_5 (by decide) (fun h5 => False.elim (absurd h5 (by decide))) (fun h5 => ?_)
  refine j_iload_n d_M_owner_8 rfl ?_
  refine j_bipush (v := 8) d_M_owner_9 (by decide) ?_
  refine j_callS (vs := [_, _]) d_M_owner_11 w680 w681 w7 w682 y_M_below (by decide) (by decide) (k_below_t M1 (N := 8) hs (by decide)) rfl (Nat.le_of_ble_eq_true rfl) (by decide) (by decide) (fun M2 r2 hq2 => ?_)
  obtain ⟨rfl, rfl⟩ := hq2
  refine j_if_ne (tgt := 19) d_M_owner_14 (by decide) (fun h14 => ?_) (fun h14 => False.elim (absurd h14 (by decide)))
  refine j_aload_n d_M_owner_19 rfl ?_
  refine j_iload_n d_M_owner_20 rfl ?_
  refine j_callV (vs := [_]) d_M_owner_21 h0 (by decide) rfl w758 w760 w7 w761 ws_M_service y_M_service (by decide) (by decide) (q_service M2 S t n h hi (by omega)) rfl (Nat.le_of_ble_eq_true rfl) (by decide) (by decide) (fun M3 r3 hq3 => ?_)
  obtain ⟨rfl, hV, o, -⟩ := hq3
  obtain ⟨h0, q_off, t_off, q_leads, t_leads, q_term, t_term, q_length, t_length, q_known, t_known, q_logs, t_logs, q_entry, t_entry, q_members, t_members, q_owners, t_owners, q_owner, t_owner, q_condition, t_condition, q_held, t_held⟩ := o.mSh hmm
  refine j_iload_n d_M_owner_24 rfl ?_
  refine j_aload_n d_M_owner_25 rfl ?_
  refine j_geti d_M_owner_26 h0 f_M_83_M rfl (by decide) ?_
  refine j_eqi hV.1 ?_
  refine j_callS (vs := [_, _]) d_M_owner_29 w680 w681 w7 w682 y_M_below (by decide) (by decide) (k_below_t M3 hj (by omega)) rfl (Nat.le_of_ble_eq_true rfl) (by decide) (by decide) (fun M4 r4 hq4 => ?_)
  obtain ⟨rfl, rfl⟩ := hq4
  refine j_if_eq (tgt := 49) d_M_owner_32 (by decide) (fun h32 => False.elim (absurd h32 (by decide))) (fun h32 => ?_)
  refine j_aload_n d_M_owner_35 rfl ?_
  refine j_getR d_M_owner_36 h0 f_M_35_M rfl (by decide) q_owners ?_
  refine j_bipush (v := 8) d_M_owner_39 (by decide) ?_
  refine j_iload_n d_M_owner_41 rfl ?_
  refine j_imul d_M_owner_42 ?_
  refine j_iload_n d_M_owner_43 rfl ?_
  refine j_iadd d_M_owner_44 ?_
  refine j_eqi (i8 j s) ?_
  refine j_iald d_M_owner_45 t_owners (aIx.n (by omega) (by decide)) ?_
  refine j_eqi ((hV.2 j hj).2 s hs) ?_
  refine j_goto 50 d_M_owner_46 (by decide) ?_
  refine j_ireturn d_M_owner_50 rfl rfl ?_ (by decide) (by decide)
  exact ⟨rfl, mRep_v h o, fY_v o⟩
theorem m_owner (M : aM) (S : aS) (t : Nat) (x c z : Int32) (h : mRep M S) (hi : sInv S t) : aK m_M_owner 5 0 0 M [.ref 332, .int x, .int c, .int z] (mQ M (oOwner S x c z)) := by
  unfold oOwner
  rcases dN_cases x (N := 3) (by decide) with ⟨e, hx⟩ | ⟨n, hn, rfl, e⟩
  · rw [e]
    refine (q_owner_1 M x c z h.1 hx).weaken ?_
    rintro M1 r ⟨rfl, rfl⟩
    exact ⟨rfl, h, fY.rf _⟩
  · rw [e]
    rcases dN_cases z (N := 8) (by decide) with ⟨e2, hz⟩ | ⟨s, hs, rfl, e2⟩
    · rw [e2]
      refine (q_owner_2 M n c z h.1 hn hz).weaken ?_
      rintro M1 r ⟨rfl, rfl⟩
      exact ⟨rfl, h, fY.rf _⟩
    · rw [e2]
      have s16 := (hi.sv (n := n) (by omega)).2.1
      rcases dN_cases c (N := (sSv S n).1) (by omega) with ⟨e3, hc⟩ | ⟨j, hj, rfl, e3⟩
      · simp only [e3]; exact q_owner_3 M S t n s c h hi hn hs hc
      · simp only [e3]; exact q_owner_4 M S t n j s h hi hn hs hj
set_option maxRecDepth 20000 in
set_option maxHeartbeats 1000000 in
theorem q_condition_1 (M : aM) (x z : Int32) (hm : mSh M) (hx : x < 3 ∨ nI 12 ≤ x) : aK m_M_condition 3 0 0 M [.ref 332, .int x, .int z] (fun M1 r => M1 = M ∧ r = some (.int (-1))) := by
  refine aK.of (by decide) (Nat.le_of_ble_eq_true rfl) ?_
  obtain ⟨h0, q_off, t_off, q_leads, t_leads, q_term, t_term, q_length, t_length, q_known, t_known, q_logs, t_logs, q_entry, t_entry, q_members, t_members, q_owners, t_owners, q_owner, t_owner, q_condition, t_condition, q_held, t_held⟩ := hm
  refine j_iload_n d_M_condition_0 rfl ?_
  refine j_iconst (v := 3) d_M_condition_1 (by decide) ?_
  refine j_icmp_lt (tgt := 20) d_M_condition_2 (by decide) (fun h2 => ?_) (fun h2 => ?_)
  · refine j_iconst (v := -1) d_M_condition_20 (by decide) ?_
    refine j_ireturn d_M_condition_21 rfl rfl ?_ (by decide) (by decide)
    exact ⟨rfl, rfl⟩
  · refine j_iload_n d_M_condition_5 rfl ?_
    refine j_bipush (v := 11) d_M_condition_6 (by decide) ?_
    refine j_icmp_gt (tgt := 20) d_M_condition_8 (by decide) (fun h8 => ?_) (fun h8 => False.elim (hx.elim h2 (fun q => h8 (Int32.lt_of_lt_of_le (by decide) q))))
    refine j_iconst (v := -1) d_M_condition_20 (by decide) ?_
    refine j_ireturn d_M_condition_21 rfl rfl ?_ (by decide) (by decide)
    exact ⟨rfl, rfl⟩
set_option maxRecDepth 20000 in
set_option maxHeartbeats 1000000 in
theorem q_condition_2 (M : aM) (n : Nat) (z : Int32) (hm : mSh M) (h3 : 3 ≤ n) (hn : n < 12) (hz : z < 0 ∨ nI 8 ≤ z) : aK m_M_condition 3 0 0 M [.ref 332, .int (nI n), .int z] (fun M1 r => M1 = M ∧ r = some (.int (-1))) := by
  refine aK.of (by decide) (Nat.le_of_ble_eq_true rfl) ?_
  obtain ⟨h0, q_off, t_off, q_leads, t_leads, q_term, t_term, q_length, t_length, q_known, t_known, q_logs, t_logs, q_entry, t_entry, q_members, t_members, q_owners, t_owners, q_owner, t_owner, q_condition, t_condition, q_held, t_held⟩ := hm
  refine j_iload_n d_M_condition_0 rfl ?_
  refine j_iconst (v := 3) d_M_condition_1 (by decide) ?_
  refine j_icmp_lt (tgt := 20) d_M_condition_2 (by decide) (fun h2 => False.elim (nI_nlt (b := 3) h3 (by omega) h2)) (fun h2 => ?_)
  refine j_iload_n d_M_condition_5 rfl ?_
  refine j_bipush (v := 11) d_M_condition_6 (by decide) ?_
  refine j_icmp_gt (tgt := 20) d_M_condition_8 (by decide) (fun h8 => False.elim (absurd (i_lt (a := 11) (by decide) (by omega) h8) (by omega))) (fun h8 => ?_)
  refine j_iload_n d_M_condition_11 rfl ?_
  refine j_bipush (v := 8) d_M_condition_12 (by decide) ?_
  refine j_callS (vs := [_, _]) d_M_condition_14 w680 w681 w7 w682 y_M_below (by decide) (by decide) (k_below_f M (N := 8) hz) rfl (Nat.le_of_ble_eq_true rfl) (by decide) (by decide) (fun M1 r1 hq1 => ?_)
  obtain ⟨rfl, rfl⟩ := hq1
  refine j_if_ne (tgt := 22) d_M_condition_17 (by decide) (fun h17 => False.elim (h17 rfl)) (fun h17 => ?_)
  refine j_iconst (v := -1) d_M_condition_20 (by decide) ?_
  refine j_ireturn d_M_condition_21 rfl rfl ?_ (by decide) (by decide)
  exact ⟨rfl, rfl⟩
set_option maxRecDepth 20000 in
set_option maxHeartbeats 1000000 in
theorem q_condition_3 (M : aM) (S : aS) (t : Nat) (n s : Nat) (h : mRep M S) (hi : sInv S t) (h3 : 3 ≤ n) (hn : n < 12) (hs : s < 8) : aK m_M_condition 3 0 0 M [.ref 332, .int (nI n), .int (nI s)] (mQ M (S, nI ((sGp S n).2.2.1 s))) := by
  refine aK.of (by decide) (Nat.le_of_ble_eq_true rfl) ?_
  have hm := h.1
  have hmm := h.1
  obtain ⟨h0, q_off, t_off, q_leads, t_leads, q_term, t_term, q_length, t_length, q_known, t_known, q_logs, t_logs, q_entry, t_entry, q_members, t_members, q_owners, t_owners, q_owner, t_owner, q_condition, t_condition, q_held, t_held⟩ := hm
  refine j_iload_n d_M_condition_0 rfl ?_
  refine j_iconst (v := 3) d_M_condition_1 (by decide) ?_
  refine j_icmp_lt (tgt := 20) d_M_condition_2 (by decide) (fun h2 => False.elim (nI_nlt (b := 3) h3 (by omega) h2)) (fun h2 => ?_)
  refine j_iload_n d_M_condition_5 rfl ?_
  refine j_bipush (v := 11) d_M_condition_6 (by decide) ?_
  refine j_icmp_gt (tgt := 20) d_M_condition_8 (by decide) (fun h8 => False.elim (absurd (i_lt (a := 11) (by decide) (by omega) h8) (by omega))) (fun h8 => ?_)
  refine j_iload_n d_M_condition_11 rfl ?_
  refine j_bipush (v := 8) d_M_condition_12 (by decide) ?_
  refine j_callS (vs := [_, _]) d_M_condition_14 w680 w681 w7 w682 y_M_below (by decide) (by decide) (k_below_t M (N := 8) hs (by decide)) rfl (Nat.le_of_ble_eq_true rfl) (by decide) (by decide) (fun M1 r1 hq1 => ?_)
  obtain ⟨rfl, rfl⟩ := hq1
  refine j_if_ne (tgt := 22) d_M_condition_17 (by decide) (fun h17 => ?_) (fun h17 => False.elim (absurd h17 (by decide)))
  refine j_aload_n d_M_condition_22 rfl ?_
  refine j_iload_n d_M_condition_23 rfl ?_
  refine j_callV (vs := [_]) d_M_condition_24 h0 (by decide) rfl w742 w744 w7 w745 ws_M_group y_M_group (by decide) (by decide) (q_group M1 S t n h hi h3 hn) rfl (Nat.le_of_ble_eq_true rfl) (by decide) (by decide) (fun M2 r2 hq2 => ?_)
  obtain ⟨rfl, hG, o⟩ := hq2
  obtain ⟨h0, q_off, t_off, q_leads, t_leads, q_term, t_term, q_length, t_length, q_known, t_known, q_logs, t_logs, q_entry, t_entry, q_members, t_members, q_owners, t_owners, q_owner, t_owner, q_condition, t_condition, q_held, t_held⟩ := o.mSh hmm
  refine j_aload_n d_M_condition_27 rfl ?_
  refine j_getR d_M_condition_28 h0 f_M_41_M rfl (by decide) q_condition ?_
  refine j_iload_n d_M_condition_31 rfl ?_
  refine j_iald d_M_condition_32 t_condition (aIx.n hs (by decide)) ?_
  refine j_eqi (hG.2 s hs).2.1 ?_
  refine j_ireturn d_M_condition_33 rfl rfl ?_ (by decide) (by decide)
  exact ⟨rfl, mRep_g h o, fY_g o⟩
theorem m_condition (M : aM) (S : aS) (t : Nat) (x z : Int32) (h : mRep M S) (hi : sInv S t) : aK m_M_condition 3 0 0 M [.ref 332, .int x, .int z] (mQ M (oCondition S x z)) := by
  unfold oCondition
  rcases dG_cases x with ⟨e, hx⟩ | ⟨n, h3, hn, rfl, e⟩
  · rw [e]
    refine (q_condition_1 M x z h.1 hx).weaken ?_
    rintro M1 r ⟨rfl, rfl⟩
    exact ⟨rfl, h, fY.rf _⟩
  · rw [e]
    rcases dN_cases z (N := 8) (by decide) with ⟨e2, hz⟩ | ⟨s, hs, rfl, e2⟩
    · rw [e2]
      refine (q_condition_2 M n z h.1 h3 hn hz).weaken ?_
      rintro M1 r ⟨rfl, rfl⟩
      exact ⟨rfl, h, fY.rf _⟩
    · rw [e2]
      exact q_condition_3 M S t n s h hi h3 hn hs
set_option maxRecDepth 20000 in
set_option maxHeartbeats 1000000 in
theorem q_has_1 (M : aM) (x z : Int32) (hm : mSh M) (hx : x < 3 ∨ nI 12 ≤ x) : aK m_M_has 3 0 0 M [.ref 332, .int x, .int z] (fun M1 r => M1 = M ∧ r = some (.int 0)) := by
  refine aK.of (by decide) (Nat.le_of_ble_eq_true rfl) ?_
  obtain ⟨h0, q_off, t_off, q_leads, t_leads, q_term, t_term, q_length, t_length, q_known, t_known, q_logs, t_logs, q_entry, t_entry, q_members, t_members, q_owners, t_owners, q_owner, t_owner, q_condition, t_condition, q_held, t_held⟩ := hm
  refine j_iload_n d_M_has_0 rfl ?_
  refine j_iconst (v := 3) d_M_has_1 (by decide) ?_
  refine j_icmp_lt (tgt := 20) d_M_has_2 (by decide) (fun h2 => ?_) (fun h2 => ?_)
  · refine j_iconst (v := 0) d_M_has_20 (by decide) ?_
    refine j_ireturn d_M_has_21 rfl rfl ?_ (by decide) (by decide)
    exact ⟨rfl, rfl⟩
  · refine j_iload_n d_M_has_5 rfl ?_
    refine j_bipush (v := 11) d_M_has_6 (by decide) ?_
    refine j_icmp_gt (tgt := 20) d_M_has_8 (by decide) (fun h8 => ?_) (fun h8 => False.elim (hx.elim h2 (fun q => h8 (Int32.lt_of_lt_of_le (by decide) q))))
    refine j_iconst (v := 0) d_M_has_20 (by decide) ?_
    refine j_ireturn d_M_has_21 rfl rfl ?_ (by decide) (by decide)
    exact ⟨rfl, rfl⟩
set_option maxRecDepth 20000 in
set_option maxHeartbeats 1000000 in
theorem q_has_2 (M : aM) (n : Nat) (z : Int32) (hm : mSh M) (h3 : 3 ≤ n) (hn : n < 12) (hz : z < 0 ∨ nI 16 ≤ z) : aK m_M_has 3 0 0 M [.ref 332, .int (nI n), .int z] (fun M1 r => M1 = M ∧ r = some (.int 0)) := by
  refine aK.of (by decide) (Nat.le_of_ble_eq_true rfl) ?_
  obtain ⟨h0, q_off, t_off, q_leads, t_leads, q_term, t_term, q_length, t_length, q_known, t_known, q_logs, t_logs, q_entry, t_entry, q_members, t_members, q_owners, t_owners, q_owner, t_owner, q_condition, t_condition, q_held, t_held⟩ := hm
  refine j_iload_n d_M_has_0 rfl ?_
  refine j_iconst (v := 3) d_M_has_1 (by decide) ?_
  refine j_icmp_lt (tgt := 20) d_M_has_2 (by decide) (fun h2 => False.elim (nI_nlt (b := 3) h3 (by omega) h2)) (fun h2 => ?_)
  refine j_iload_n d_M_has_5 rfl ?_
  refine j_bipush (v := 11) d_M_has_6 (by decide) ?_
  refine j_icmp_gt (tgt := 20) d_M_has_8 (by decide) (fun h8 => False.elim (absurd (i_lt (a := 11) (by decide) (by omega) h8) (by omega))) (fun h8 => ?_)
  refine j_iload_n d_M_has_11 rfl ?_
  refine j_bipush (v := 16) d_M_has_12 (by decide) ?_
  refine j_callS (vs := [_, _]) d_M_has_14 w680 w681 w7 w682 y_M_below (by decide) (by decide) (k_below_f M (N := 16) hz) rfl (Nat.le_of_ble_eq_true rfl) (by decide) (by decide) (fun M1 r1 hq1 => ?_)
  obtain ⟨rfl, rfl⟩ := hq1
  refine j_if_ne (tgt := 22) d_M_has_17 (by decide) (fun h17 => False.elim (h17 rfl)) (fun h17 => ?_)
  refine j_iconst (v := 0) d_M_has_20 (by decide) ?_
  refine j_ireturn d_M_has_21 rfl rfl ?_ (by decide) (by decide)
  exact ⟨rfl, rfl⟩
set_option maxRecDepth 20000 in
set_option maxHeartbeats 1000000 in
theorem q_has_3 (M : aM) (S : aS) (t : Nat) (n k : Nat) (h : mRep M S) (hi : sInv S t) (h3 : 3 ≤ n) (hn : n < 12) (hk : k < 16) : aK m_M_has 3 0 0 M [.ref 332, .int (nI n), .int (nI k)] (fun M1 r => oI M M1 gcl ∧ mGp M1 (sGp S n) ∧ ∃ v : Int32, r = some (.int v) ∧ (v ≠ 0 ↔ hdOk S n k)) := by
  refine aK.of (by decide) (Nat.le_of_ble_eq_true rfl) ?_
  have hm := h.1
  have hmm := h.1
  obtain ⟨h0, q_off, t_off, q_leads, t_leads, q_term, t_term, q_length, t_length, q_known, t_known, q_logs, t_logs, q_entry, t_entry, q_members, t_members, q_owners, t_owners, q_owner, t_owner, q_condition, t_condition, q_held, t_held⟩ := hm
  refine j_iload_n d_M_has_0 rfl ?_
  refine j_iconst (v := 3) d_M_has_1 (by decide) ?_
  refine j_icmp_lt (tgt := 20) d_M_has_2 (by decide) (fun h2 => False.elim (nI_nlt (b := 3) h3 (by omega) h2)) (fun h2 => ?_)
  refine j_iload_n d_M_has_5 rfl ?_
  refine j_bipush (v := 11) d_M_has_6 (by decide) ?_
  refine j_icmp_gt (tgt := 20) d_M_has_8 (by decide) (fun h8 => False.elim (absurd (i_lt (a := 11) (by decide) (by omega) h8) (by omega))) (fun h8 => ?_)
  refine j_iload_n d_M_has_11 rfl ?_
  refine j_bipush (v := 16) d_M_has_12 (by decide) ?_
  refine j_callS (vs := [_, _]) d_M_has_14 w680 w681 w7 w682 y_M_below (by decide) (by decide) (k_below_t M (N := 16) hk (by decide)) rfl (Nat.le_of_ble_eq_true rfl) (by decide) (by decide) (fun M1 r1 hq1 => ?_)
  obtain ⟨rfl, rfl⟩ := hq1
  refine j_if_ne (tgt := 22) d_M_has_17 (by decide) (fun h17 => ?_) (fun h17 => False.elim (absurd h17 (by decide)))
  refine j_aload_n d_M_has_22 rfl ?_
  refine j_iload_n d_M_has_23 rfl ?_
  refine j_callV (vs := [_]) d_M_has_24 h0 (by decide) rfl w742 w744 w7 w745 ws_M_group y_M_group (by decide) (by decide) (q_group M1 S t n h hi h3 hn) rfl (Nat.le_of_ble_eq_true rfl) (by decide) (by decide) (fun M2 r2 hq2 => ?_)
  obtain ⟨rfl, hG, o⟩ := hq2
  have hc := (hi.gp h3 hn).c (s := k % 8) (by omega)
  obtain ⟨h0, q_off, t_off, q_leads, t_leads, q_term, t_term, q_length, t_length, q_known, t_known, q_logs, t_logs, q_entry, t_entry, q_members, t_members, q_owners, t_owners, q_owner, t_owner, q_condition, t_condition, q_held, t_held⟩ := o.mSh hmm
  refine j_aload_n d_M_has_27 rfl ?_
  refine j_getR d_M_has_28 h0 f_M_41_M rfl (by decide) q_condition ?_
  refine j_iload_n d_M_has_31 rfl ?_
  refine j_bipush (v := 8) d_M_has_32 (by decide) ?_
  refine j_irem d_M_has_34 (by decide) ?_
  refine j_eqi (r8 hk) ?_
  refine j_iald d_M_has_35 t_condition (aIx.n (j := k % 8) (by omega) (by decide)) ?_
  refine j_eqi (hG.2 (k % 8) (by omega)).2.1 ?_
  refine j_iconst (v := 1) d_M_has_36 (by decide) ?_
  refine j_icmp_eq (tgt := 53) d_M_has_37 (by decide) (fun h37 => ?_) (fun h37 => ?_)
  · have hb : ((1 : Int32) ≠ 0 ↔ hdOk S n k) := ⟨fun _ => Or.inl (i_eq (b := 1) (by omega) (by decide) h37), fun _ => by decide⟩
    refine j_iconst (v := 1) d_M_has_53 (by decide) ?_
    refine j_goto 58 d_M_has_54 (by decide) ?_
    refine j_ireturn d_M_has_58 rfl rfl ?_ (by decide) (by decide)
    exact ⟨o, hG, _, rfl, hb⟩
  · have k37 := i_ne (b := 1) (by omega) (by decide) h37
    refine j_aload_n d_M_has_40 rfl ?_
    refine j_getR d_M_has_41 h0 f_M_41_M rfl (by decide) q_condition ?_
    refine j_iload_n d_M_has_44 rfl ?_
    refine j_bipush (v := 8) d_M_has_45 (by decide) ?_
    refine j_irem d_M_has_47 (by decide) ?_
    refine j_eqi (r8 hk) ?_
    refine j_iald d_M_has_48 t_condition (aIx.n (j := k % 8) (by omega) (by decide)) ?_
    refine j_eqi (hG.2 (k % 8) (by omega)).2.1 ?_
    refine j_iconst (v := 3) d_M_has_49 (by decide) ?_
    refine j_icmp_ne (tgt := 57) d_M_has_50 (by decide) (fun h50 => ?_) (fun h50 => ?_)
    · have hb : ((0 : Int32) ≠ 0 ↔ hdOk S n k) := ⟨fun q => absurd rfl q, fun q => q.elim (fun q => absurd q k37) (fun q => absurd q (i_ne (b := 3) (by omega) (by decide) h50))⟩
      refine j_iconst (v := 0) d_M_has_57 (by decide) ?_
      refine j_ireturn d_M_has_58 rfl rfl ?_ (by decide) (by decide)
      exact ⟨o, hG, _, rfl, hb⟩
    · have hb : ((1 : Int32) ≠ 0 ↔ hdOk S n k) := ⟨fun _ => Or.inr (i_eq (b := 3) (by omega) (by decide) h50), fun _ => by decide⟩
      refine j_iconst (v := 1) d_M_has_53 (by decide) ?_
      refine j_goto 58 d_M_has_54 (by decide) ?_
      refine j_ireturn d_M_has_58 rfl rfl ?_ (by decide) (by decide)
      exact ⟨o, hG, _, rfl, hb⟩
theorem q_has (M : aM) (S : aS) (t : Nat) (x y : Int32) (h : mRep M S) (hi : sInv S t) : aK m_M_has 3 0 0 M [.ref 332, .int x, .int y] (fun M1 r => oI M M1 gcl ∧ ∃ v : Int32, r = some (.int v) ∧ ((v ≠ 0 ∧ ∃ n k, 3 ≤ n ∧ n < 12 ∧ k < 16 ∧ y = nI k ∧ dG x = some n ∧ dN y 16 = some k ∧ hdOk S n k ∧ mGp M1 (sGp S n)) ∨ (v = 0 ∧ ∀ n k, dG x = some n → dN y 16 = some k → ¬ hdOk S n k))) := by
  rcases dG_cases x with ⟨e, hx⟩ | ⟨n, h3, hn, rfl, e⟩
  · refine (q_has_1 M x y h.1 hx).weaken ?_
    rintro M1 r ⟨rfl, rfl⟩
    exact ⟨oI.rf _ _, 0, rfl, Or.inr ⟨rfl, fun n k q _ => (by rw [e] at q; cases q)⟩⟩
  · rcases dN_cases y (N := 16) (by decide) with ⟨e2, hz⟩ | ⟨k, hk, rfl, e2⟩
    · refine (q_has_2 M n y h.1 h3 hn hz).weaken ?_
      rintro M1 r ⟨rfl, rfl⟩
      exact ⟨oI.rf _ _, 0, rfl, Or.inr ⟨rfl, fun n k _ q => (by rw [e2] at q; cases q)⟩⟩
    · refine (q_has_3 M S t n k h hi h3 hn hk).weaken ?_
      rintro M1 r ⟨o, hG, v, rfl, hv⟩
      refine ⟨o, v, rfl, ?_⟩
      by_cases z : v = 0
      · refine Or.inr ⟨z, fun n' k' q1 q2 q3 => ?_⟩
        rw [e] at q1; rw [e2] at q2; cases q1; cases q2
        exact hv.mpr q3 z
      · exact Or.inl ⟨z, n, k, h3, hn, hk, rfl, e, e2, hv.mp z, hG⟩
set_option maxRecDepth 20000 in
set_option maxHeartbeats 1000000 in
theorem m_value (M : aM) (S : aS) (t : Nat) (x y : Int32) (h : mRep M S) (hi : sInv S t) : aK m_M_value 4 0 0 M [.ref 332, .int x, .int y] (mQ M (oValue S x y)) := by
  refine aK.of (by decide) (Nat.le_of_ble_eq_true rfl) ?_
  have hm := h.1
  have hmm := h.1
  obtain ⟨h0, q_off, t_off, q_leads, t_leads, q_term, t_term, q_length, t_length, q_known, t_known, q_logs, t_logs, q_entry, t_entry, q_members, t_members, q_owners, t_owners, q_owner, t_owner, q_condition, t_condition, q_held, t_held⟩ := hm
  refine j_aload_n d_M_value_0 rfl ?_
  refine j_iload_n d_M_value_1 rfl ?_
  refine j_iload_n d_M_value_2 rfl ?_
  refine j_callV (vs := [_, _]) d_M_value_3 h0 (by decide) rfl w814 w816 w7 w817 ws_M_has y_M_has (by decide) (by decide) (q_has M S t x y h hi) rfl (Nat.le_of_ble_eq_true rfl) (by decide) (by decide) (fun M1 r1 hq1 => ?_)
  obtain ⟨o, v, rfl, hv⟩ := hq1
  obtain ⟨h0, q_off, t_off, q_leads, t_leads, q_term, t_term, q_length, t_length, q_known, t_known, q_logs, t_logs, q_entry, t_entry, q_members, t_members, q_owners, t_owners, q_owner, t_owner, q_condition, t_condition, q_held, t_held⟩ := o.mSh hmm
  refine j_if_eq (tgt := 29) d_M_value_6 (by decide) (fun h6 => ?_) (fun h6 => ?_)
  · have hv2 := (hv.resolve_left (fun q => q.1 h6)).2
    have eo : oValue S x y = (S, -1) := by
      unfold oValue
      cases e1 : dG x with
      | none => rfl
      | some n =>
        cases e2 : dN y 16 with
        | none => rfl
        | some k => exact if_neg (hv2 n k e1 e2)
    refine j_iconst (v := -1) d_M_value_29 (by decide) ?_
    refine j_ireturn d_M_value_30 rfl rfl ?_ (by decide) (by decide)
    rw [eo]
    exact ⟨rfl, mRep_g h o, fY_g o⟩
  · have hv2 := hv.resolve_right (fun q => h6 q.1)
    obtain ⟨-, n, k, n3, n12, hk, rfl, e1, e2, hd, hG⟩ := hv2
    have hne : (sGp S n).2.2.1 (k % 8) ≠ 0 := by rcases hd with q | q <;> omega
    have eo : oValue S x (nI k) = (S, nI ((sGp S n).2.2.2 (k % 8) (k / 8))) := by
      unfold oValue
      rw [e1, e2]
      exact if_pos hd
    refine j_aload_n d_M_value_9 rfl ?_
    refine j_getR d_M_value_10 h0 f_M_44_M rfl (by decide) q_held ?_
    refine j_iload_n d_M_value_13 rfl ?_
    refine j_bipush (v := 8) d_M_value_14 (by decide) ?_
    refine j_irem d_M_value_16 (by decide) ?_
    refine j_eqi (r8 hk) ?_
    refine j_bipush (v := 8) d_M_value_17 (by decide) ?_
    refine j_imul d_M_value_19 ?_
    refine j_eqi (pk_mul (k % 8) 8) ?_
    refine j_iload_n d_M_value_20 rfl ?_
    refine j_bipush (v := 8) d_M_value_21 (by decide) ?_
    refine j_idiv d_M_value_23 (by decide) ?_
    refine j_eqi (d8 hk) ?_
    refine j_iadd d_M_value_24 ?_
    refine j_eqi (nI_add _ _) ?_
    rw [Nat.mul_comm (k % 8) 8]
    refine j_iald d_M_value_25 t_held (aIx.n (by omega) (by decide)) ?_
    refine j_eqi ((hG.2 (k % 8) (by omega)).2.2 hne (k / 8) (by omega)) ?_
    refine j_goto 30 d_M_value_26 (by decide) ?_
    refine j_ireturn d_M_value_30 rfl rfl ?_ (by decide) (by decide)
    rw [eo]
    exact ⟨rfl, mRep_g h o, fY_g o⟩
set_option maxRecDepth 20000 in
set_option maxHeartbeats 1000000 in
theorem q_latest_n (M : aM) (x c y : Int32) (hm : mSh M) (hc : c < 0 ∨ nI 3 ≤ c) : aK m_M_latest 4 0 0 M [.ref 332, .int x, .int c, .int y] (fun M1 r => M1 = M ∧ r = some (.int (-1))) := by
  refine aK.of (by decide) (Nat.le_of_ble_eq_true rfl) ?_
  obtain ⟨h0, q_off, t_off, q_leads, t_leads, q_term, t_term, q_length, t_length, q_known, t_known, q_logs, t_logs, q_entry, t_entry, q_members, t_members, q_owners, t_owners, q_owner, t_owner, q_condition, t_condition, q_held, t_held⟩ := hm
  refine j_iload_n d_M_latest_0 rfl ?_
  refine j_iconst (v := 3) d_M_latest_1 (by decide) ?_
  refine j_callS (vs := [_, _]) d_M_latest_2 w680 w681 w7 w682 y_M_below (by decide) (by decide) (k_below_f M (N := 3) hc) rfl (Nat.le_of_ble_eq_true rfl) (by decide) (by decide) (fun M1 r1 hq1 => ?_)
  obtain ⟨rfl, rfl⟩ := hq1
  refine j_if_eq (tgt := 36) d_M_latest_5 (by decide) (fun h5 => ?_) (fun h5 => False.elim (h5 rfl))
  refine j_iconst (v := -1) d_M_latest_36 (by decide) ?_
  refine j_ireturn d_M_latest_37 rfl rfl ?_ (by decide) (by decide)
  exact ⟨rfl, rfl⟩
set_option maxRecDepth 20000 in
set_option maxHeartbeats 1000000 in
theorem q_latest_y (M : aM) (S : aS) (t : Nat) (x y : Int32) (j : Nat) (h : mRep M S) (hi : sInv S t) (hj : j < 3) (ej : dN (nI j) 3 = some j) : aK m_M_latest 4 0 0 M [.ref 332, .int x, .int (nI j), .int y] (mQ M (oHeld 2 S x (nI j) y)) := by
  refine aK.of (by decide) (Nat.le_of_ble_eq_true rfl) ?_
  have hm := h.1
  have hmm := h.1
  obtain ⟨h0, q_off, t_off, q_leads, t_leads, q_term, t_term, q_length, t_length, q_known, t_known, q_logs, t_logs, q_entry, t_entry, q_members, t_members, q_owners, t_owners, q_owner, t_owner, q_condition, t_condition, q_held, t_held⟩ := hm
  refine j_iload_n d_M_latest_0 rfl ?_
  refine j_iconst (v := 3) d_M_latest_1 (by decide) ?_
  refine j_callS (vs := [_, _]) d_M_latest_2 w680 w681 w7 w682 y_M_below (by decide) (by decide) (k_below_t M (N := 3) hj (by decide)) rfl (Nat.le_of_ble_eq_true rfl) (by decide) (by decide) (fun M1 r1 hq1 => ?_)
  obtain ⟨rfl, rfl⟩ := hq1
  refine j_if_eq (tgt := 36) d_M_latest_5 (by decide) (fun h5 => False.elim (absurd h5 (by decide))) (fun h5 => ?_)
  refine j_aload_n d_M_latest_8 rfl ?_
  refine j_iload_n d_M_latest_9 rfl ?_
  refine j_iload_n d_M_latest_10 rfl ?_
  refine j_callV (vs := [_, _]) d_M_latest_11 h0 (by decide) rfl w814 w816 w7 w817 ws_M_has y_M_has (by decide) (by decide) (q_has M1 S t x y h hi) rfl (Nat.le_of_ble_eq_true rfl) (by decide) (by decide) (fun M2 r2 hq2 => ?_)
  obtain ⟨o, v, rfl, hv⟩ := hq2
  obtain ⟨h0, q_off, t_off, q_leads, t_leads, q_term, t_term, q_length, t_length, q_known, t_known, q_logs, t_logs, q_entry, t_entry, q_members, t_members, q_owners, t_owners, q_owner, t_owner, q_condition, t_condition, q_held, t_held⟩ := o.mSh hmm
  refine j_if_eq (tgt := 36) d_M_latest_14 (by decide) (fun h14 => ?_) (fun h14 => ?_)
  · have hv2 := (hv.resolve_left (fun q => q.1 h14)).2
    have eo : oHeld 2 S x (nI j) y = (S, -1) := by
      unfold oHeld
      cases e1 : dG x with
      | none => rfl
      | some n =>
        cases e2 : dN y 16 with
        | none => rfl
        | some k => rw [ej]; exact if_neg (hv2 n k e1 e2)
    refine j_iconst (v := -1) d_M_latest_36 (by decide) ?_
    refine j_ireturn d_M_latest_37 rfl rfl ?_ (by decide) (by decide)
    rw [eo]
    exact ⟨rfl, mRep_g h o, fY_g o⟩
  · have hv2 := hv.resolve_right (fun q => h14 q.1)
    obtain ⟨-, n, k, n3, n12, hk, rfl, e1, e2, hd, hG⟩ := hv2
    have hne : (sGp S n).2.2.1 (k % 8) ≠ 0 := by rcases hd with q | q <;> omega
    have eo : oHeld 2 S x (nI j) (nI k) = (S, nI ((sGp S n).2.2.2 (k % 8) (2 + j))) := by
      unfold oHeld
      rw [e1, e2, ej]
      exact if_pos hd
    refine j_aload_n d_M_latest_17 rfl ?_
    refine j_getR d_M_latest_18 h0 f_M_44_M rfl (by decide) q_held ?_
    refine j_iload_n d_M_latest_21 rfl ?_
    refine j_bipush (v := 8) d_M_latest_22 (by decide) ?_
    refine j_irem d_M_latest_24 (by decide) ?_
    refine j_eqi (r8 hk) ?_
    refine j_bipush (v := 8) d_M_latest_25 (by decide) ?_
    refine j_imul d_M_latest_27 ?_
    refine j_eqi (pk_mul (k % 8) 8) ?_
    refine j_iconst (v := 2) d_M_latest_28 (by decide) ?_
    refine j_iadd d_M_latest_29 ?_
    refine j_eqi (nI_add _ 2) ?_
    refine j_iload_n d_M_latest_30 rfl ?_
    refine j_iadd d_M_latest_31 ?_
    refine j_eqi (nI_add _ _) ?_
    rw [show k % 8 * 8 + 2 + j = 8 * (k % 8) + (2 + j) by omega]
    refine j_iald d_M_latest_32 t_held (aIx.n (by omega) (by decide)) ?_
    refine j_eqi ((hG.2 (k % 8) (by omega)).2.2 hne (2 + j) (by omega)) ?_
    refine j_goto 37 d_M_latest_33 (by decide) ?_
    refine j_ireturn d_M_latest_37 rfl rfl ?_ (by decide) (by decide)
    rw [eo]
    exact ⟨rfl, mRep_g h o, fY_g o⟩
theorem m_latest (M : aM) (S : aS) (t : Nat) (x c y : Int32) (h : mRep M S) (hi : sInv S t) : aK m_M_latest 4 0 0 M [.ref 332, .int x, .int c, .int y] (mQ M (oHeld 2 S x c y)) := by
  rcases dN_cases c (N := 3) (by decide) with ⟨e, hx⟩ | ⟨j, hj, rfl, e⟩
  · have eo : oHeld 2 S x c y = (S, -1) := by
      unfold oHeld
      rw [e]
      cases dG x with
      | none => rfl
      | some n => cases dN y 16 <;> rfl
    rw [eo]
    refine (q_latest_n M x c y h.1 hx).weaken ?_
    rintro M1 r ⟨rfl, rfl⟩
    exact ⟨rfl, h, fY.rf _⟩
  · exact q_latest_y M S t x y j h hi hj e
set_option maxRecDepth 20000 in
set_option maxHeartbeats 1000000 in
theorem q_answer_n (M : aM) (x c y : Int32) (hm : mSh M) (hc : c < 0 ∨ nI 3 ≤ c) : aK m_M_answer 4 0 0 M [.ref 332, .int x, .int c, .int y] (fun M1 r => M1 = M ∧ r = some (.int (-1))) := by
  refine aK.of (by decide) (Nat.le_of_ble_eq_true rfl) ?_
  obtain ⟨h0, q_off, t_off, q_leads, t_leads, q_term, t_term, q_length, t_length, q_known, t_known, q_logs, t_logs, q_entry, t_entry, q_members, t_members, q_owners, t_owners, q_owner, t_owner, q_condition, t_condition, q_held, t_held⟩ := hm
  refine j_iload_n d_M_answer_0 rfl ?_
  refine j_iconst (v := 3) d_M_answer_1 (by decide) ?_
  refine j_callS (vs := [_, _]) d_M_answer_2 w680 w681 w7 w682 y_M_below (by decide) (by decide) (k_below_f M (N := 3) hc) rfl (Nat.le_of_ble_eq_true rfl) (by decide) (by decide) (fun M1 r1 hq1 => ?_)
  obtain ⟨rfl, rfl⟩ := hq1
  refine j_if_eq (tgt := 36) d_M_answer_5 (by decide) (fun h5 => ?_) (fun h5 => False.elim (h5 rfl))
  refine j_iconst (v := -1) d_M_answer_36 (by decide) ?_
  refine j_ireturn d_M_answer_37 rfl rfl ?_ (by decide) (by decide)
  exact ⟨rfl, rfl⟩
set_option maxRecDepth 20000 in
set_option maxHeartbeats 1000000 in
theorem q_answer_y (M : aM) (S : aS) (t : Nat) (x y : Int32) (j : Nat) (h : mRep M S) (hi : sInv S t) (hj : j < 3) (ej : dN (nI j) 3 = some j) : aK m_M_answer 4 0 0 M [.ref 332, .int x, .int (nI j), .int y] (mQ M (oHeld 5 S x (nI j) y)) := by
  refine aK.of (by decide) (Nat.le_of_ble_eq_true rfl) ?_
  have hm := h.1
  have hmm := h.1
  obtain ⟨h0, q_off, t_off, q_leads, t_leads, q_term, t_term, q_length, t_length, q_known, t_known, q_logs, t_logs, q_entry, t_entry, q_members, t_members, q_owners, t_owners, q_owner, t_owner, q_condition, t_condition, q_held, t_held⟩ := hm
  refine j_iload_n d_M_answer_0 rfl ?_
  refine j_iconst (v := 3) d_M_answer_1 (by decide) ?_
  refine j_callS (vs := [_, _]) d_M_answer_2 w680 w681 w7 w682 y_M_below (by decide) (by decide) (k_below_t M (N := 3) hj (by decide)) rfl (Nat.le_of_ble_eq_true rfl) (by decide) (by decide) (fun M1 r1 hq1 => ?_)
  obtain ⟨rfl, rfl⟩ := hq1
  refine j_if_eq (tgt := 36) d_M_answer_5 (by decide) (fun h5 => False.elim (absurd h5 (by decide))) (fun h5 => ?_)
  refine j_aload_n d_M_answer_8 rfl ?_
  refine j_iload_n d_M_answer_9 rfl ?_
  refine j_iload_n d_M_answer_10 rfl ?_
  refine j_callV (vs := [_, _]) d_M_answer_11 h0 (by decide) rfl w814 w816 w7 w817 ws_M_has y_M_has (by decide) (by decide) (q_has M1 S t x y h hi) rfl (Nat.le_of_ble_eq_true rfl) (by decide) (by decide) (fun M2 r2 hq2 => ?_)
  obtain ⟨o, v, rfl, hv⟩ := hq2
  obtain ⟨h0, q_off, t_off, q_leads, t_leads, q_term, t_term, q_length, t_length, q_known, t_known, q_logs, t_logs, q_entry, t_entry, q_members, t_members, q_owners, t_owners, q_owner, t_owner, q_condition, t_condition, q_held, t_held⟩ := o.mSh hmm
  refine j_if_eq (tgt := 36) d_M_answer_14 (by decide) (fun h14 => ?_) (fun h14 => ?_)
  · have hv2 := (hv.resolve_left (fun q => q.1 h14)).2
    have eo : oHeld 5 S x (nI j) y = (S, -1) := by
      unfold oHeld
      cases e1 : dG x with
      | none => rfl
      | some n =>
        cases e2 : dN y 16 with
        | none => rfl
        | some k => rw [ej]; exact if_neg (hv2 n k e1 e2)
    refine j_iconst (v := -1) d_M_answer_36 (by decide) ?_
    refine j_ireturn d_M_answer_37 rfl rfl ?_ (by decide) (by decide)
    rw [eo]
    exact ⟨rfl, mRep_g h o, fY_g o⟩
  · have hv2 := hv.resolve_right (fun q => h14 q.1)
    obtain ⟨-, n, k, n3, n12, hk, rfl, e1, e2, hd, hG⟩ := hv2
    have hne : (sGp S n).2.2.1 (k % 8) ≠ 0 := by rcases hd with q | q <;> omega
    have eo : oHeld 5 S x (nI j) (nI k) = (S, nI ((sGp S n).2.2.2 (k % 8) (5 + j))) := by
      unfold oHeld
      rw [e1, e2, ej]
      exact if_pos hd
    refine j_aload_n d_M_answer_17 rfl ?_
    refine j_getR d_M_answer_18 h0 f_M_44_M rfl (by decide) q_held ?_
    refine j_iload_n d_M_answer_21 rfl ?_
    refine j_bipush (v := 8) d_M_answer_22 (by decide) ?_
    refine j_irem d_M_answer_24 (by decide) ?_
    refine j_eqi (r8 hk) ?_
    refine j_bipush (v := 8) d_M_answer_25 (by decide) ?_
    refine j_imul d_M_answer_27 ?_
    refine j_eqi (pk_mul (k % 8) 8) ?_
    refine j_iconst (v := 5) d_M_answer_28 (by decide) ?_
    refine j_iadd d_M_answer_29 ?_
    refine j_eqi (nI_add _ 5) ?_
    refine j_iload_n d_M_answer_30 rfl ?_
    refine j_iadd d_M_answer_31 ?_
    refine j_eqi (nI_add _ _) ?_
    rw [show k % 8 * 8 + 5 + j = 8 * (k % 8) + (5 + j) by omega]
    refine j_iald d_M_answer_32 t_held (aIx.n (by omega) (by decide)) ?_
    refine j_eqi ((hG.2 (k % 8) (by omega)).2.2 hne (5 + j) (by omega)) ?_
    refine j_goto 37 d_M_answer_33 (by decide) ?_
    refine j_ireturn d_M_answer_37 rfl rfl ?_ (by decide) (by decide)
    rw [eo]
    exact ⟨rfl, mRep_g h o, fY_g o⟩
theorem m_answer (M : aM) (S : aS) (t : Nat) (x c y : Int32) (h : mRep M S) (hi : sInv S t) : aK m_M_answer 4 0 0 M [.ref 332, .int x, .int c, .int y] (mQ M (oHeld 5 S x c y)) := by
  rcases dN_cases c (N := 3) (by decide) with ⟨e, hx⟩ | ⟨j, hj, rfl, e⟩
  · have eo : oHeld 5 S x c y = (S, -1) := by
      unfold oHeld
      rw [e]
      cases dG x with
      | none => rfl
      | some n => cases dN y 16 <;> rfl
    rw [eo]
    refine (q_answer_n M x c y h.1 hx).weaken ?_
    rintro M1 r ⟨rfl, rfl⟩
    exact ⟨rfl, h, fY.rf _⟩
  · exact q_answer_y M S t x y j h hi hj e
