/-! how the model's cells hold the state -/
def mSh (M : aM) : Prop := tO M 332 11 ∧ mR M 332 0 = some 333 ∧ tA M 333 101 12 ∧ mR M 332 1 = some 334 ∧ tA M 334 101 12 ∧ mR M 332 2 = some 335 ∧ tA M 335 100 12 ∧ mR M 332 3 = some 336 ∧ tA M 336 100 12 ∧ mR M 332 4 = some 337 ∧ tA M 337 100 12 ∧ mR M 332 5 = some 338 ∧ tA M 338 100 14400 ∧ mR M 332 6 = some 339 ∧ tA M 339 100 15 ∧ mR M 332 8 = some 340 ∧ tA M 340 100 16 ∧ mR M 332 9 = some 341 ∧ tA M 341 100 128 ∧ mR M 332 11 = some 342 ∧ tA M 342 100 8 ∧ mR M 332 12 = some 343 ∧ tA M 343 100 8 ∧ mR M 332 13 = some 344 ∧ tA M 344 100 64
def mRep (M : aM) (S : aS) : Prop := mSh M ∧ ∀ n, n < 12 → mI M 333 n = bI (!sUp S n) ∧ mI M 334 n = bI (sLd S n) ∧ mI M 335 n = nI (sT S n) ∧ mI M 336 n = nI (sLn S n) ∧ mI M 337 n = nI (sKn S n) ∧ ∀ k, k < sLn S n → ∀ c, c < 15 → mI M 338 (15 * (80 * n + k) + c) = nI (sLg S n k c)
/-- the class's cells are as they were -/
def fY (M M1 : aM) : Prop := mSz M1 = mSz M ∧ ∀ a, ¬ (332 ≤ a ∧ a < 345) → sm M M1 a
def mQ (M : aM) (o : aS × Int32) : aM → Option Value → Prop := fun M1 r => r = some (.int o.2) ∧ mRep M1 o.1 ∧ fY M M1
theorem fY.rf (M : aM) : fY M M := ⟨rfl, fun a _ => sm.rf M a⟩
theorem fY.sI {M M1 : aM} {o k : Nat} {x : Int32} (h : fY M M1) (ho : 332 ≤ o ∧ o < 345) : fY M (sI M1 o k x) := ⟨h.1, fun a ha => (h.2 a ha).sI (fun e => ha (by rw [e]; exact ho))⟩
theorem fY.tr {M M1 M2 : aM} (h : fY M M1) (g : fY M1 M2) : fY M M2 := ⟨g.1.trans h.1, fun a ha => (h.2 a ha).tr (g.2 a ha)⟩
theorem mSh_sI {M : aM} {o k : Nat} {x : Int32} (h : mSh M) : mSh (sI M o k x) := h

set_option maxRecDepth 20000 in
set_option maxHeartbeats 1000000 in
theorem k_below (M : aM) (x y : Int32) : aK m_M_below 0 0 0 M [.int x, .int y] (fun M1 r => M1 = M ∧ r = some (.int (bP (0 ≤ x ∧ x < y)))) := by
  refine aK.of (by decide) (Nat.le_of_ble_eq_true rfl) ?_
  refine j_iload_n d_M_below_0 rfl ?_
  refine j_if_lt (tgt := 13) d_M_below_1 (by decide) (fun h1 => ?_) (fun h1 => ?_)
  · have hb : bP (0 ≤ x ∧ x < y) = 0 := bP_f (fun q => absurd h1 (Int32.not_lt.mpr q.1))
    refine j_iconst (v := 0) d_M_below_13 (by decide) ?_
    refine j_ireturn d_M_below_14 rfl rfl ?_ (by decide) (by decide)
    exact ⟨rfl, by rw [hb]⟩
  · refine j_iload_n d_M_below_4 rfl ?_
    refine j_iload_n d_M_below_5 rfl ?_
    refine j_icmp_ge (tgt := 13) d_M_below_6 (by decide) (fun h6 => ?_) (fun h6 => ?_)
    · have hb : bP (0 ≤ x ∧ x < y) = 0 := bP_f (fun q => absurd h6 (Int32.not_le.mpr q.2))
      refine j_iconst (v := 0) d_M_below_13 (by decide) ?_
      refine j_ireturn d_M_below_14 rfl rfl ?_ (by decide) (by decide)
      exact ⟨rfl, by rw [hb]⟩
    · have hb : bP (0 ≤ x ∧ x < y) = 1 := bP_t ⟨Int32.not_lt.mp h1, Int32.not_le.mp h6⟩
      refine j_iconst (v := 1) d_M_below_9 (by decide) ?_
      refine j_goto 14 d_M_below_10 (by decide) ?_
      refine j_ireturn d_M_below_14 rfl rfl ?_ (by decide) (by decide)
      exact ⟨rfl, by rw [hb]⟩
theorem k_below_t (M : aM) {n N : Nat} (h : n < N) (hN : N < 2 ^ 31) : aK m_M_below 0 0 0 M [.int (nI n), .int (nI N)] (fun M1 r => M1 = M ∧ r = some (.int 1)) := by
  have := k_below M (nI n) (nI N)
  rw [bP_t ⟨nI_pos' (by omega), nI_lt h hN⟩] at this
  exact this
theorem k_below_f (M : aM) {x : Int32} {N : Nat} (h : x < 0 ∨ nI N ≤ x) : aK m_M_below 0 0 0 M [.int x, .int (nI N)] (fun M1 r => M1 = M ∧ r = some (.int 0)) := by
  have := k_below M x (nI N)
  rw [bP_f (fun q => h.elim (fun h => Int32.not_lt.mpr q.1 h) (fun h => Int32.not_lt.mpr h q.2))] at this
  exact this
set_option maxRecDepth 20000 in
set_option maxHeartbeats 1000000 in
theorem q_crash_n (M : aM) (x : Int32) (hm : mSh M) (hx : x < 0 ∨ nI 12 ≤ x) : aK m_M_crash 1 0 0 M [.ref 332, .int x] (fun M1 r => M1 = M ∧ r = some (.int 0)) := by
  refine aK.of (by decide) (Nat.le_of_ble_eq_true rfl) ?_
  obtain ⟨h0, q_off, t_off, q_leads, t_leads, q_term, t_term, q_length, t_length, q_known, t_known, q_logs, t_logs, q_entry, t_entry, q_members, t_members, q_owners, t_owners, q_owner, t_owner, q_condition, t_condition, q_held, t_held⟩ := hm
  refine j_iload_n d_M_crash_0 rfl ?_
  refine j_bipush (v := 12) d_M_crash_1 (by decide) ?_
  refine j_callS (vs := [_, _]) d_M_crash_3 w680 w681 w7 w682 y_M_below (by decide) (by decide) (k_below_f M (N := 12) hx) rfl (Nat.le_of_ble_eq_true rfl) (by decide) (by decide) (fun M1 r1 hq1 => ?_)
  obtain ⟨rfl, rfl⟩ := hq1
  refine j_if_eq (tgt := 18) d_M_crash_6 (by decide) (fun h6 => ?_) (fun h6 => False.elim (h6 rfl))
  refine j_iconst (v := 0) d_M_crash_18 (by decide) ?_
  refine j_ireturn d_M_crash_19 rfl rfl ?_ (by decide) (by decide)
  exact ⟨rfl, rfl⟩
set_option maxRecDepth 20000 in
set_option maxHeartbeats 1000000 in
theorem q_recover_n (M : aM) (x : Int32) (hm : mSh M) (hx : x < 0 ∨ nI 12 ≤ x) : aK m_M_recover 1 0 0 M [.ref 332, .int x] (fun M1 r => M1 = M ∧ r = some (.int 0)) := by
  refine aK.of (by decide) (Nat.le_of_ble_eq_true rfl) ?_
  obtain ⟨h0, q_off, t_off, q_leads, t_leads, q_term, t_term, q_length, t_length, q_known, t_known, q_logs, t_logs, q_entry, t_entry, q_members, t_members, q_owners, t_owners, q_owner, t_owner, q_condition, t_condition, q_held, t_held⟩ := hm
  refine j_iload_n d_M_recover_0 rfl ?_
  refine j_bipush (v := 12) d_M_recover_1 (by decide) ?_
  refine j_callS (vs := [_, _]) d_M_recover_3 w680 w681 w7 w682 y_M_below (by decide) (by decide) (k_below_f M (N := 12) hx) rfl (Nat.le_of_ble_eq_true rfl) (by decide) (by decide) (fun M1 r1 hq1 => ?_)
  obtain ⟨rfl, rfl⟩ := hq1
  refine j_if_eq (tgt := 18) d_M_recover_6 (by decide) (fun h6 => ?_) (fun h6 => False.elim (h6 rfl))
  refine j_iconst (v := 0) d_M_recover_18 (by decide) ?_
  refine j_ireturn d_M_recover_19 rfl rfl ?_ (by decide) (by decide)
  exact ⟨rfl, rfl⟩
set_option maxRecDepth 20000 in
set_option maxHeartbeats 1000000 in
theorem q_length_n (M : aM) (x : Int32) (hm : mSh M) (hx : x < 0 ∨ nI 12 ≤ x) : aK m_M_length 1 0 0 M [.ref 332, .int x] (fun M1 r => M1 = M ∧ r = some (.int (-1))) := by
  refine aK.of (by decide) (Nat.le_of_ble_eq_true rfl) ?_
  obtain ⟨h0, q_off, t_off, q_leads, t_leads, q_term, t_term, q_length, t_length, q_known, t_known, q_logs, t_logs, q_entry, t_entry, q_members, t_members, q_owners, t_owners, q_owner, t_owner, q_condition, t_condition, q_held, t_held⟩ := hm
  refine j_iload_n d_M_length_0 rfl ?_
  refine j_bipush (v := 12) d_M_length_1 (by decide) ?_
  refine j_callS (vs := [_, _]) d_M_length_3 w680 w681 w7 w682 y_M_below (by decide) (by decide) (k_below_f M (N := 12) hx) rfl (Nat.le_of_ble_eq_true rfl) (by decide) (by decide) (fun M1 r1 hq1 => ?_)
  obtain ⟨rfl, rfl⟩ := hq1
  refine j_if_eq (tgt := 18) d_M_length_6 (by decide) (fun h6 => ?_) (fun h6 => False.elim (h6 rfl))
  refine j_iconst (v := -1) d_M_length_18 (by decide) ?_
  refine j_ireturn d_M_length_19 rfl rfl ?_ (by decide) (by decide)
  exact ⟨rfl, rfl⟩
set_option maxRecDepth 20000 in
set_option maxHeartbeats 1000000 in
theorem q_known_n (M : aM) (x : Int32) (hm : mSh M) (hx : x < 0 ∨ nI 12 ≤ x) : aK m_M_known 1 0 0 M [.ref 332, .int x] (fun M1 r => M1 = M ∧ r = some (.int (-1))) := by
  refine aK.of (by decide) (Nat.le_of_ble_eq_true rfl) ?_
  obtain ⟨h0, q_off, t_off, q_leads, t_leads, q_term, t_term, q_length, t_length, q_known, t_known, q_logs, t_logs, q_entry, t_entry, q_members, t_members, q_owners, t_owners, q_owner, t_owner, q_condition, t_condition, q_held, t_held⟩ := hm
  refine j_iload_n d_M_known_0 rfl ?_
  refine j_bipush (v := 12) d_M_known_1 (by decide) ?_
  refine j_callS (vs := [_, _]) d_M_known_3 w680 w681 w7 w682 y_M_below (by decide) (by decide) (k_below_f M (N := 12) hx) rfl (Nat.le_of_ble_eq_true rfl) (by decide) (by decide) (fun M1 r1 hq1 => ?_)
  obtain ⟨rfl, rfl⟩ := hq1
  refine j_if_eq (tgt := 18) d_M_known_6 (by decide) (fun h6 => ?_) (fun h6 => False.elim (h6 rfl))
  refine j_iconst (v := -1) d_M_known_18 (by decide) ?_
  refine j_ireturn d_M_known_19 rfl rfl ?_ (by decide) (by decide)
  exact ⟨rfl, rfl⟩
set_option maxRecDepth 20000 in
set_option maxHeartbeats 1000000 in
theorem q_term_n (M : aM) (x : Int32) (hm : mSh M) (hx : x < 0 ∨ nI 12 ≤ x) : aK m_M_term 1 0 0 M [.ref 332, .int x] (fun M1 r => M1 = M ∧ r = some (.int (-1))) := by
  refine aK.of (by decide) (Nat.le_of_ble_eq_true rfl) ?_
  obtain ⟨h0, q_off, t_off, q_leads, t_leads, q_term, t_term, q_length, t_length, q_known, t_known, q_logs, t_logs, q_entry, t_entry, q_members, t_members, q_owners, t_owners, q_owner, t_owner, q_condition, t_condition, q_held, t_held⟩ := hm
  refine j_iload_n d_M_term_0 rfl ?_
  refine j_bipush (v := 12) d_M_term_1 (by decide) ?_
  refine j_callS (vs := [_, _]) d_M_term_3 w680 w681 w7 w682 y_M_below (by decide) (by decide) (k_below_f M (N := 12) hx) rfl (Nat.le_of_ble_eq_true rfl) (by decide) (by decide) (fun M1 r1 hq1 => ?_)
  obtain ⟨rfl, rfl⟩ := hq1
  refine j_if_eq (tgt := 35) d_M_term_6 (by decide) (fun h6 => ?_) (fun h6 => False.elim (h6 rfl))
  refine j_iconst (v := -1) d_M_term_35 (by decide) ?_
  refine j_ireturn d_M_term_36 rfl rfl ?_ (by decide) (by decide)
  exact ⟨rfl, rfl⟩
set_option maxRecDepth 20000 in
set_option maxHeartbeats 1000000 in
theorem q_crash_0 (M : aM) (n : Nat) (hm : mSh M) (hn : n < 12) (hu : mI M 333 n ≠ 0) : aK m_M_crash 1 0 0 M [.ref 332, .int (nI n)] (fun M1 r => M1 = M ∧ r = some (.int 0)) := by
  refine aK.of (by decide) (Nat.le_of_ble_eq_true rfl) ?_
  obtain ⟨h0, q_off, t_off, q_leads, t_leads, q_term, t_term, q_length, t_length, q_known, t_known, q_logs, t_logs, q_entry, t_entry, q_members, t_members, q_owners, t_owners, q_owner, t_owner, q_condition, t_condition, q_held, t_held⟩ := hm
  refine j_iload_n d_M_crash_0 rfl ?_
  refine j_bipush (v := 12) d_M_crash_1 (by decide) ?_
  refine j_callS (vs := [_, _]) d_M_crash_3 w680 w681 w7 w682 y_M_below (by decide) (by decide) (k_below_t M (N := 12) hn (by decide)) rfl (Nat.le_of_ble_eq_true rfl) (by decide) (by decide) (fun M1 r1 hq1 => ?_)
  obtain ⟨rfl, rfl⟩ := hq1
  refine j_if_eq (tgt := 18) d_M_crash_6 (by decide) (fun h6 => False.elim (absurd h6 (by decide))) (fun h6 => ?_)
  refine j_aload_n d_M_crash_9 rfl ?_
  refine j_getR d_M_crash_10 h0 f_M_7_M rfl (by decide) q_off ?_
  refine j_iload_n d_M_crash_13 rfl ?_
  refine j_zald d_M_crash_14 t_off (aIx.n hn (by decide)) ?_
  refine j_if_eq (tgt := 20) d_M_crash_15 (by decide) (fun h15 => False.elim (hu h15)) (fun h15 => ?_)
  refine j_iconst (v := 0) d_M_crash_18 (by decide) ?_
  refine j_ireturn d_M_crash_19 rfl rfl ?_ (by decide) (by decide)
  exact ⟨rfl, rfl⟩
set_option maxRecDepth 20000 in
set_option maxHeartbeats 1000000 in
theorem q_crash_1 (M : aM) (n : Nat) (hm : mSh M) (hn : n < 12) (hu : mI M 333 n = 0) : aK m_M_crash 1 0 0 M [.ref 332, .int (nI n)] (fun M1 r => M1 = sI (sI M 333 n 1) 334 n 0 ∧ r = some (.int 1)) := by
  refine aK.of (by decide) (Nat.le_of_ble_eq_true rfl) ?_
  obtain ⟨h0, q_off, t_off, q_leads, t_leads, q_term, t_term, q_length, t_length, q_known, t_known, q_logs, t_logs, q_entry, t_entry, q_members, t_members, q_owners, t_owners, q_owner, t_owner, q_condition, t_condition, q_held, t_held⟩ := hm
  refine j_iload_n d_M_crash_0 rfl ?_
  refine j_bipush (v := 12) d_M_crash_1 (by decide) ?_
  refine j_callS (vs := [_, _]) d_M_crash_3 w680 w681 w7 w682 y_M_below (by decide) (by decide) (k_below_t M (N := 12) hn (by decide)) rfl (Nat.le_of_ble_eq_true rfl) (by decide) (by decide) (fun M1 r1 hq1 => ?_)
  obtain ⟨rfl, rfl⟩ := hq1
  refine j_if_eq (tgt := 18) d_M_crash_6 (by decide) (fun h6 => False.elim (absurd h6 (by decide))) (fun h6 => ?_)
  refine j_aload_n d_M_crash_9 rfl ?_
  refine j_getR d_M_crash_10 h0 f_M_7_M rfl (by decide) q_off ?_
  refine j_iload_n d_M_crash_13 rfl ?_
  refine j_zald d_M_crash_14 t_off (aIx.n hn (by decide)) ?_
  refine j_if_eq (tgt := 20) d_M_crash_15 (by decide) (fun h15 => ?_) (fun h15 => False.elim (h15 hu))
  refine j_aload_n d_M_crash_20 rfl ?_
  refine j_getR d_M_crash_21 h0 f_M_7_M rfl (by decide) q_off ?_
  refine j_iload_n d_M_crash_24 rfl ?_
  refine j_iconst (v := 1) d_M_crash_25 (by decide) ?_
  refine j_zast d_M_crash_26 t_off (aIx.n hn (by decide)) rfl ?_
  refine j_aload_n d_M_crash_27 rfl ?_
  refine j_getR d_M_crash_28 h0 f_M_13_M rfl (by decide) q_leads ?_
  refine j_iload_n d_M_crash_31 rfl ?_
  refine j_iconst (v := 0) d_M_crash_32 (by decide) ?_
  refine j_zast d_M_crash_33 t_leads (aIx.n hn (by decide)) rfl ?_
  refine j_iconst (v := 1) d_M_crash_34 (by decide) ?_
  refine j_ireturn d_M_crash_35 rfl rfl ?_ (by decide) (by decide)
  exact ⟨rfl, rfl⟩
set_option maxRecDepth 20000 in
set_option maxHeartbeats 1000000 in
theorem q_recover_0 (M : aM) (n : Nat) (hm : mSh M) (hn : n < 12) (hu : mI M 333 n = 0) : aK m_M_recover 1 0 0 M [.ref 332, .int (nI n)] (fun M1 r => M1 = M ∧ r = some (.int 0)) := by
  refine aK.of (by decide) (Nat.le_of_ble_eq_true rfl) ?_
  obtain ⟨h0, q_off, t_off, q_leads, t_leads, q_term, t_term, q_length, t_length, q_known, t_known, q_logs, t_logs, q_entry, t_entry, q_members, t_members, q_owners, t_owners, q_owner, t_owner, q_condition, t_condition, q_held, t_held⟩ := hm
  refine j_iload_n d_M_recover_0 rfl ?_
  refine j_bipush (v := 12) d_M_recover_1 (by decide) ?_
  refine j_callS (vs := [_, _]) d_M_recover_3 w680 w681 w7 w682 y_M_below (by decide) (by decide) (k_below_t M (N := 12) hn (by decide)) rfl (Nat.le_of_ble_eq_true rfl) (by decide) (by decide) (fun M1 r1 hq1 => ?_)
  obtain ⟨rfl, rfl⟩ := hq1
  refine j_if_eq (tgt := 18) d_M_recover_6 (by decide) (fun h6 => False.elim (absurd h6 (by decide))) (fun h6 => ?_)
  refine j_aload_n d_M_recover_9 rfl ?_
  refine j_getR d_M_recover_10 h0 f_M_7_M rfl (by decide) q_off ?_
  refine j_iload_n d_M_recover_13 rfl ?_
  refine j_zald d_M_recover_14 t_off (aIx.n hn (by decide)) ?_
  refine j_if_ne (tgt := 20) d_M_recover_15 (by decide) (fun h15 => False.elim (h15 hu)) (fun h15 => ?_)
  refine j_iconst (v := 0) d_M_recover_18 (by decide) ?_
  refine j_ireturn d_M_recover_19 rfl rfl ?_ (by decide) (by decide)
  exact ⟨rfl, rfl⟩
set_option maxRecDepth 20000 in
set_option maxHeartbeats 1000000 in
theorem q_recover_1 (M : aM) (n : Nat) (hm : mSh M) (hn : n < 12) (hu : mI M 333 n ≠ 0) : aK m_M_recover 1 0 0 M [.ref 332, .int (nI n)] (fun M1 r => M1 = sI M 333 n 0 ∧ r = some (.int 1)) := by
  refine aK.of (by decide) (Nat.le_of_ble_eq_true rfl) ?_
  obtain ⟨h0, q_off, t_off, q_leads, t_leads, q_term, t_term, q_length, t_length, q_known, t_known, q_logs, t_logs, q_entry, t_entry, q_members, t_members, q_owners, t_owners, q_owner, t_owner, q_condition, t_condition, q_held, t_held⟩ := hm
  refine j_iload_n d_M_recover_0 rfl ?_
  refine j_bipush (v := 12) d_M_recover_1 (by decide) ?_
  refine j_callS (vs := [_, _]) d_M_recover_3 w680 w681 w7 w682 y_M_below (by decide) (by decide) (k_below_t M (N := 12) hn (by decide)) rfl (Nat.le_of_ble_eq_true rfl) (by decide) (by decide) (fun M1 r1 hq1 => ?_)
  obtain ⟨rfl, rfl⟩ := hq1
  refine j_if_eq (tgt := 18) d_M_recover_6 (by decide) (fun h6 => False.elim (absurd h6 (by decide))) (fun h6 => ?_)
  refine j_aload_n d_M_recover_9 rfl ?_
  refine j_getR d_M_recover_10 h0 f_M_7_M rfl (by decide) q_off ?_
  refine j_iload_n d_M_recover_13 rfl ?_
  refine j_zald d_M_recover_14 t_off (aIx.n hn (by decide)) ?_
  refine j_if_ne (tgt := 20) d_M_recover_15 (by decide) (fun h15 => ?_) (fun h15 => False.elim (hu h15))
  refine j_aload_n d_M_recover_20 rfl ?_
  refine j_getR d_M_recover_21 h0 f_M_7_M rfl (by decide) q_off ?_
  refine j_iload_n d_M_recover_24 rfl ?_
  refine j_iconst (v := 0) d_M_recover_25 (by decide) ?_
  refine j_zast d_M_recover_26 t_off (aIx.n hn (by decide)) rfl ?_
  refine j_iconst (v := 1) d_M_recover_27 (by decide) ?_
  refine j_ireturn d_M_recover_28 rfl rfl ?_ (by decide) (by decide)
  exact ⟨rfl, rfl⟩
set_option maxRecDepth 20000 in
set_option maxHeartbeats 1000000 in
theorem q_length_1 (M : aM) (n : Nat) (hm : mSh M) (hn : n < 12) : aK m_M_length 1 0 0 M [.ref 332, .int (nI n)] (fun M1 r => M1 = M ∧ r = some (.int (mI M 336 n))) := by
  refine aK.of (by decide) (Nat.le_of_ble_eq_true rfl) ?_
  obtain ⟨h0, q_off, t_off, q_leads, t_leads, q_term, t_term, q_length, t_length, q_known, t_known, q_logs, t_logs, q_entry, t_entry, q_members, t_members, q_owners, t_owners, q_owner, t_owner, q_condition, t_condition, q_held, t_held⟩ := hm
  refine j_iload_n d_M_length_0 rfl ?_
  refine j_bipush (v := 12) d_M_length_1 (by decide) ?_
  refine j_callS (vs := [_, _]) d_M_length_3 w680 w681 w7 w682 y_M_below (by decide) (by decide) (k_below_t M (N := 12) hn (by decide)) rfl (Nat.le_of_ble_eq_true rfl) (by decide) (by decide) (fun M1 r1 hq1 => ?_)
  obtain ⟨rfl, rfl⟩ := hq1
  refine j_if_eq (tgt := 18) d_M_length_6 (by decide) (fun h6 => False.elim (absurd h6 (by decide))) (fun h6 => ?_)
  refine j_aload_n d_M_length_9 rfl ?_
  refine j_getR d_M_length_10 h0 f_M_20_M rfl (by decide) q_length ?_
  refine j_iload_n d_M_length_13 rfl ?_
  refine j_iald d_M_length_14 t_length (aIx.n hn (by decide)) ?_
  refine j_goto 19 d_M_length_15 (by decide) ?_
  refine j_ireturn d_M_length_19 rfl rfl ?_ (by decide) (by decide)
  exact ⟨rfl, rfl⟩
set_option maxRecDepth 20000 in
set_option maxHeartbeats 1000000 in
theorem q_known_1 (M : aM) (n : Nat) (hm : mSh M) (hn : n < 12) : aK m_M_known 1 0 0 M [.ref 332, .int (nI n)] (fun M1 r => M1 = M ∧ r = some (.int (mI M 337 n))) := by
  refine aK.of (by decide) (Nat.le_of_ble_eq_true rfl) ?_
  obtain ⟨h0, q_off, t_off, q_leads, t_leads, q_term, t_term, q_length, t_length, q_known, t_known, q_logs, t_logs, q_entry, t_entry, q_members, t_members, q_owners, t_owners, q_owner, t_owner, q_condition, t_condition, q_held, t_held⟩ := hm
  refine j_iload_n d_M_known_0 rfl ?_
  refine j_bipush (v := 12) d_M_known_1 (by decide) ?_
  refine j_callS (vs := [_, _]) d_M_known_3 w680 w681 w7 w682 y_M_below (by decide) (by decide) (k_below_t M (N := 12) hn (by decide)) rfl (Nat.le_of_ble_eq_true rfl) (by decide) (by decide) (fun M1 r1 hq1 => ?_)
  obtain ⟨rfl, rfl⟩ := hq1
  refine j_if_eq (tgt := 18) d_M_known_6 (by decide) (fun h6 => False.elim (absurd h6 (by decide))) (fun h6 => ?_)
  refine j_aload_n d_M_known_9 rfl ?_
  refine j_getR d_M_known_10 h0 f_M_23_M rfl (by decide) q_known ?_
  refine j_iload_n d_M_known_13 rfl ?_
  refine j_iald d_M_known_14 t_known (aIx.n hn (by decide)) ?_
  refine j_goto 19 d_M_known_15 (by decide) ?_
  refine j_ireturn d_M_known_19 rfl rfl ?_ (by decide) (by decide)
  exact ⟨rfl, rfl⟩
set_option maxRecDepth 20000 in
set_option maxHeartbeats 1000000 in
theorem q_term_1 (M : aM) (n : Nat) (hm : mSh M) (hn : n < 12) : aK m_M_term 1 0 0 M [.ref 332, .int (nI n)] (fun M1 r => M1 = M ∧ r = some (.int (mI M 335 n + if mI M 334 n = 0 then 0 else 1000))) := by
  refine aK.of (by decide) (Nat.le_of_ble_eq_true rfl) ?_
  obtain ⟨h0, q_off, t_off, q_leads, t_leads, q_term, t_term, q_length, t_length, q_known, t_known, q_logs, t_logs, q_entry, t_entry, q_members, t_members, q_owners, t_owners, q_owner, t_owner, q_condition, t_condition, q_held, t_held⟩ := hm
  refine j_iload_n d_M_term_0 rfl ?_
  refine j_bipush (v := 12) d_M_term_1 (by decide) ?_
  refine j_callS (vs := [_, _]) d_M_term_3 w680 w681 w7 w682 y_M_below (by decide) (by decide) (k_below_t M (N := 12) hn (by decide)) rfl (Nat.le_of_ble_eq_true rfl) (by decide) (by decide) (fun M1 r1 hq1 => ?_)
  obtain ⟨rfl, rfl⟩ := hq1
  refine j_if_eq (tgt := 35) d_M_term_6 (by decide) (fun h6 => False.elim (absurd h6 (by decide))) (fun h6 => ?_)
  refine j_aload_n d_M_term_9 rfl ?_
  refine j_getR d_M_term_10 h0 f_M_16_M rfl (by decide) q_term ?_
  refine j_iload_n d_M_term_13 rfl ?_
  refine j_iald d_M_term_14 t_term (aIx.n hn (by decide)) ?_
  refine j_aload_n d_M_term_15 rfl ?_
  refine j_getR d_M_term_16 h0 f_M_13_M rfl (by decide) q_leads ?_
  refine j_iload_n d_M_term_19 rfl ?_
  refine j_zald d_M_term_20 t_leads (aIx.n hn (by decide)) ?_
  refine j_if_eq (tgt := 30) d_M_term_21 (by decide) (fun h21 => ?_) (fun h21 => ?_)
  · have hb : (if mI M1 334 n = 0 then (0 : Int32) else 1000) = 0 := if_pos h21
    refine j_iconst (v := 0) d_M_term_30 (by decide) ?_
    refine j_iadd d_M_term_31 ?_
    refine j_goto 36 d_M_term_32 (by decide) ?_
    refine j_ireturn d_M_term_36 rfl rfl ?_ (by decide) (by decide)
    exact ⟨rfl, by rw [hb]⟩
  · have hb : (if mI M1 334 n = 0 then (0 : Int32) else 1000) = 1000 := if_neg h21
    refine j_sipush (v := 1000) d_M_term_24 (by decide) ?_
    refine j_goto 31 d_M_term_27 (by decide) ?_
    refine j_iadd d_M_term_31 ?_
    refine j_goto 36 d_M_term_32 (by decide) ?_
    refine j_ireturn d_M_term_36 rfl rfl ?_ (by decide) (by decide)
    exact ⟨rfl, by rw [hb]⟩
