/-- the model's own notes, from which nothing is kept -/
def scr (a : Nat) : Prop := a = 332 ∨ (339 ≤ a ∧ a < 345)
def mdl (a : Nat) : Prop := 332 ≤ a ∧ a < 345
theorem scr_m (a : Nat) (h : scr a) : mdl a := by unfold scr at h; unfold mdl; omega
theorem oI.mSh {M M1 : aM} {P : Nat → Prop} (o : oI M M1 P) (h : mSh M) : mSh M1 := by
  obtain ⟨h0, a0, b0, a1, b1, a2, b2, a3, b3, a4, b4, a5, b5, a6, b6, a7, b7, a8, b8, a9, b9, a10, b10, a11, b11⟩ := h
  exact ⟨o.tO h0, o.R a0, o.tA b0, o.R a1, o.tA b1, o.R a2, o.tA b2, o.R a3, o.tA b3, o.R a4, o.tA b4, o.R a5, o.tA b5, o.R a6, o.tA b6, o.R a7, o.tA b7, o.R a8, o.tA b8, o.R a9, o.tA b9, o.R a10, o.tA b10, o.R a11, o.tA b11⟩
theorem oI.fY {M M1 : aM} {P : Nat → Prop} (o : oI M M1 P) (hP : ∀ a, P a → mdl a) : fY M M1 := ⟨o.1, fun a ha => o.sm (fun q => ha (hP a q))⟩
theorem mRep_o {M M1 : aM} {S : aS} {P : Nat → Prop} (h : mRep M S) (o : oI M M1 P) (hp : ∀ a, 333 ≤ a → a < 339 → ¬ P a) : mRep M1 S := by
  refine ⟨o.mSh h.1, fun n hn => ?_⟩
  obtain ⟨a1, a2, a3, a4, a5, a6⟩ := h.2 n hn
  have e : ∀ a, 333 ≤ a → a < 339 → ∀ k, mI M1 a k = mI M a k := fun a h1 h2 k => o.2.2 a (hp a h1 h2) k
  refine ⟨(e 333 (by omega) (by omega) n).trans a1, (e 334 (by omega) (by omega) n).trans a2, (e 335 (by omega) (by omega) n).trans a3, (e 336 (by omega) (by omega) n).trans a4, (e 337 (by omega) (by omega) n).trans a5, fun k hk c hc => (e 338 (by omega) (by omega) _).trans (a6 k hk c hc)⟩
theorem mRep_scr {M M1 : aM} {S : aS} (h : mRep M S) (o : oI M M1 scr) : mRep M1 S := mRep_o h o (fun a h1 h2 q => by unfold scr at q; omega)
theorem mRep_kn {M : aM} {S : aS} {n K : Nat} (h : mRep M S) : mRep (sI M 337 n (nI K)) (sUp S, sLd S, sT S, sLn S, fu (sKn S) n K, sLg S) := by
  refine ⟨h.1, fun m hm => ?_⟩
  obtain ⟨a1, a2, a3, a4, a5, a6⟩ := h.2 m hm
  refine ⟨?_, ?_, ?_, ?_, ?_, fun k hk c hc => ?_⟩
  · rw [mm_I_sI, if_neg (by omega)]; exact a1
  · rw [mm_I_sI, if_neg (by omega)]; exact a2
  · rw [mm_I_sI, if_neg (by omega)]; exact a3
  · rw [mm_I_sI, if_neg (by omega)]; exact a4
  · rw [mm_I_sI]
    show _ = nI (fu (sKn S) n K m)
    by_cases e : m = n
    · subst e; rw [if_pos ⟨rfl, rfl⟩, fu_s]
    · rw [if_neg (fun z => e z.2), fu_n _ _ e]; exact a5
  · rw [mm_I_sI, if_neg (by omega)]; exact a6 k hk c hc
theorem mRep_ln {M : aM} {S : aS} {n K : Nat} (h : mRep M S) (hK : K ≤ sLn S n) : mRep (sI M 336 n (nI K)) (cuS S n K) := by
  refine ⟨h.1, fun m hm => ?_⟩
  obtain ⟨a1, a2, a3, a4, a5, a6⟩ := h.2 m hm
  refine ⟨?_, ?_, ?_, ?_, ?_, fun k hk c hc => ?_⟩
  · rw [mm_I_sI, if_neg (by omega)]; exact a1
  · rw [mm_I_sI, if_neg (by omega)]; exact a2
  · rw [mm_I_sI, if_neg (by omega)]; exact a3
  · rw [mm_I_sI]
    show _ = nI (fu (sLn S) n K m)
    by_cases e : m = n
    · subst e; rw [if_pos ⟨rfl, rfl⟩, fu_s]
    · rw [if_neg (fun z => e z.2), fu_n _ _ e]; exact a4
  · rw [mm_I_sI, if_neg (by omega)]; exact a5
  · rw [mm_I_sI, if_neg (by omega)]
    refine a6 k ?_ c hc
    have hk' : k < fu (sLn S) n K m := hk
    by_cases e : m = n
    · subst e; rw [fu_s] at hk'; omega
    · rw [fu_n _ _ e] at hk'; exact hk'
theorem mRep_ld {M : aM} {S : aS} {n : Nat} {b : Bool} (h : mRep M S) : mRep (sI M 334 n (bI b)) (sUp S, fu (sLd S) n b, sT S, sLn S, sKn S, sLg S) := by
  refine ⟨h.1, fun m hm => ?_⟩
  obtain ⟨a1, a2, a3, a4, a5, a6⟩ := h.2 m hm
  refine ⟨?_, ?_, ?_, ?_, ?_, fun k hk c hc => ?_⟩
  · rw [mm_I_sI, if_neg (by omega)]; exact a1
  · rw [mm_I_sI]
    show _ = bI (fu (sLd S) n b m)
    by_cases e : m = n
    · subst e; rw [if_pos ⟨rfl, rfl⟩, fu_s]
    · rw [if_neg (fun z => e z.2), fu_n _ _ e]; exact a2
  · rw [mm_I_sI, if_neg (by omega)]; exact a3
  · rw [mm_I_sI, if_neg (by omega)]; exact a4
  · rw [mm_I_sI, if_neg (by omega)]; exact a5
  · rw [mm_I_sI, if_neg (by omega)]; exact a6 k hk c hc
theorem mRep_T {M : aM} {S : aS} {n e : Nat} (h : mRep M S) : mRep (sI M 335 n (nI e)) (sUp S, sLd S, fu (sT S) n e, sLn S, sKn S, sLg S) := by
  refine ⟨h.1, fun m hm => ?_⟩
  obtain ⟨a1, a2, a3, a4, a5, a6⟩ := h.2 m hm
  refine ⟨?_, ?_, ?_, ?_, ?_, fun k hk c hc => ?_⟩
  · rw [mm_I_sI, if_neg (by omega)]; exact a1
  · rw [mm_I_sI, if_neg (by omega)]; exact a2
  · rw [mm_I_sI]
    show _ = nI (fu (sT S) n e m)
    by_cases z : m = n
    · subst z; rw [if_pos ⟨rfl, rfl⟩, fu_s]
    · rw [if_neg (fun y => z y.2), fu_n _ _ z]; exact a3
  · rw [mm_I_sI, if_neg (by omega)]; exact a4
  · rw [mm_I_sI, if_neg (by omega)]; exact a5
  · rw [mm_I_sI, if_neg (by omega)]; exact a6 k hk c hc
/-- an entry comes to place k of node n's log, which ends there -/
theorem mRep_app {M M' : aM} {S : aS} {n k : Nat} {E : Nat → Nat} (h : mRep M S) (hn : n < 12) (hk : k ≤ sLn S n) (h80 : ∀ m, m < 12 → sLn S m ≤ 80) (hk8 : k < 80) (o : oI M M' (fun a => a = 336 ∨ a = 338 ∨ a = 339))
    (hout : ∀ j, ¬ (15 * (80 * n + k) ≤ j ∧ j < 15 * (80 * n + k) + 15) → mI M' 338 j = mI M 338 j) (hin : ∀ c, c < 15 → mI M' 338 (15 * (80 * n + k) + c) = nI (E c)) (hl : ∀ m, m < 12 → mI M' 336 m = if m = n then nI (k + 1) else mI M 336 m) :
    mRep M' (sUp S, sLd S, sT S, fu (sLn S) n (k + 1), sKn S, fu (sLg S) n (fu (sLg S n) k E)) := by
  refine ⟨o.mSh h.1, fun m hm => ?_⟩
  obtain ⟨a1, a2, a3, a4, a5, a6⟩ := h.2 m hm
  have l8 := h80 m hm
  have e : ∀ a, a = 333 ∨ a = 334 ∨ a = 335 ∨ a = 337 → ∀ j, mI M' a j = mI M a j := fun a h1 j => o.2.2 a (by omega) j
  refine ⟨(e 333 (by omega) m).trans a1, (e 334 (by omega) m).trans a2, (e 335 (by omega) m).trans a3, ?_, (e 337 (by omega) m).trans a5, fun j hj c hc => ?_⟩
  · rw [hl m hm]
    show _ = nI (fu (sLn S) n (k + 1) m)
    by_cases z : m = n
    · rw [if_pos z, z, fu_s]
    · rw [if_neg z, fu_n _ _ z]; exact a4
  · have hj' : j < fu (sLn S) n (k + 1) m := hj
    show _ = nI (fu (sLg S) n (fu (sLg S n) k E) m j c)
    by_cases z : m = n
    · subst z
      rw [fu_s] at hj' ⊢
      by_cases y : j = k
      · subst y; rw [fu_s]; exact hin c hc
      · rw [fu_n _ _ y, hout _ (by omega)]; exact a6 j (by omega) c hc
    · rw [fu_n _ _ z] at hj' ⊢
      rw [hout _ (by omega)]; exact a6 j hj' c hc
theorem pl_eq (n k : Nat) : (15 : Int32) * (80 * nI n + nI k) = nI (15 * (80 * n + k)) := by
  rw [show (80 : Int32) * nI n = nI (80 * n) from pk_mul 80 n, nI_add]
  exact pk_mul 15 _

set_option maxRecDepth 20000 in
set_option maxHeartbeats 1000000 in
theorem k_place (M : aM) (n k : Nat) : aK m_M_place 0 0 0 M [.int (nI n), .int (nI k)] (fun M1 r => M1 = M ∧ r = some (.int (nI (15 * (80 * n + k))))) := by
  refine aK.of (by decide) (Nat.le_of_ble_eq_true rfl) ?_
  refine j_bipush (v := 15) d_M_place_0 (by decide) ?_
  refine j_bipush (v := 80) d_M_place_2 (by decide) ?_
  refine j_iload_n d_M_place_4 rfl ?_
  refine j_imul d_M_place_5 ?_
  refine j_iload_n d_M_place_6 rfl ?_
  refine j_iadd d_M_place_7 ?_
  refine j_imul d_M_place_8 ?_
  refine j_eqi (pl_eq n k) ?_
  refine j_ireturn d_M_place_9 rfl rfl ?_ (by decide) (by decide)
  exact ⟨rfl, rfl⟩
set_option maxRecDepth 20000 in
set_option maxHeartbeats 1000000 in
theorem k_termAt (M : aM) (n k : Nat) (hm : mSh M) (hn : n < 12) (hk : k < 80) : aK m_M_termAt 1 0 0 M [.ref 332, .int (nI n), .int (nI k)] (fun M1 r => M1 = M ∧ r = some (.int (mI M 338 (15 * (80 * n + k))))) := by
  refine aK.of (by decide) (Nat.le_of_ble_eq_true rfl) ?_
  obtain ⟨h0, q_off, t_off, q_leads, t_leads, q_term, t_term, q_length, t_length, q_known, t_known, q_logs, t_logs, q_entry, t_entry, q_members, t_members, q_owners, t_owners, q_owner, t_owner, q_condition, t_condition, q_held, t_held⟩ := hm
  refine j_aload_n d_M_termAt_0 rfl ?_
  refine j_getR d_M_termAt_1 h0 f_M_26_M rfl (by decide) q_logs ?_
  refine j_iload_n d_M_termAt_4 rfl ?_
  refine j_iload_n d_M_termAt_5 rfl ?_
  refine j_callS (vs := [_, _]) d_M_termAt_6 w699 w700 w7 w701 y_M_place (by decide) (by decide) (k_place M n k) rfl (Nat.le_of_ble_eq_true rfl) (by decide) (by decide) (fun M1 r1 hq1 => ?_)
  obtain ⟨rfl, rfl⟩ := hq1
  refine j_iald d_M_termAt_9 t_logs (aIx.n (by omega) (by decide)) ?_
  refine j_ireturn d_M_termAt_10 rfl rfl ?_ (by decide) (by decide)
  exact ⟨rfl, rfl⟩
theorem q_termAt (M : aM) (S : aS) (n k : Nat) (h : mRep M S) (hn : n < 12) (h8 : k < 80) (hk : k < sLn S n) : aK m_M_termAt 1 0 0 M [.ref 332, .int (nI n), .int (nI k)] (fun M1 r => M1 = M ∧ r = some (.int (nI (sTm S n k)))) := by
  refine (k_termAt M n k h.1 hn h8).weaken ?_
  rintro M1 r ⟨rfl, rfl⟩
  exact ⟨rfl, by rw [show mI M1 338 (15 * (80 * n + k)) = nI (sTm S n k) from (h.2 n hn).2.2.2.2.2 k hk 0 (by decide)]⟩
set_option maxRecDepth 20000 in
set_option maxHeartbeats 1000000 in
theorem q_lastTerm (M : aM) (S : aS) (n : Nat) (h : mRep M S) (hn : n < 12) (h80 : sLn S n ≤ 80) : aK m_M_lastTerm 2 0 0 M [.ref 332, .int (nI n)] (fun M1 r => M1 = M ∧ r = some (.int (nI (lT (sLn S n) (sTm S n))))) := by
  refine aK.of (by decide) (Nat.le_of_ble_eq_true rfl) ?_
  have ln := (h.2 n hn).2.2.2.1
  have hm := h.1
  obtain ⟨h0, q_off, t_off, q_leads, t_leads, q_term, t_term, q_length, t_length, q_known, t_known, q_logs, t_logs, q_entry, t_entry, q_members, t_members, q_owners, t_owners, q_owner, t_owner, q_condition, t_condition, q_held, t_held⟩ := hm
  refine j_aload_n d_M_lastTerm_0 rfl ?_
  refine j_getR d_M_lastTerm_1 h0 f_M_20_M rfl (by decide) q_length ?_
  refine j_iload_n d_M_lastTerm_4 rfl ?_
  refine j_iald d_M_lastTerm_5 t_length (aIx.n hn (by decide)) ?_
  refine j_eqi ln ?_
  refine j_if_ne (tgt := 13) d_M_lastTerm_6 (by decide) (fun h6 => ?_) (fun h6 => ?_)
  · have hp := i_ne (b := 0) (by omega) (by decide) h6
    refine j_aload_n d_M_lastTerm_13 rfl ?_
    refine j_iload_n d_M_lastTerm_14 rfl ?_
    refine j_aload_n d_M_lastTerm_15 rfl ?_
    refine j_getR d_M_lastTerm_16 h0 f_M_20_M rfl (by decide) q_length ?_
    refine j_iload_n d_M_lastTerm_19 rfl ?_
    refine j_iald d_M_lastTerm_20 t_length (aIx.n hn (by decide)) ?_
    refine j_eqi ln ?_
    refine j_iconst (v := 1) d_M_lastTerm_21 (by decide) ?_
    refine j_isub d_M_lastTerm_22 ?_
    refine j_eqi (pk_sub (b := 1) (by omega)) ?_
    refine j_callV (vs := [_, _]) d_M_lastTerm_23 h0 (by decide) rfl w695 w697 w7 w698 ws_M_termAt y_M_termAt (by decide) (by decide) (q_termAt M S n (sLn S n - 1) h hn (by omega) (by omega)) rfl (Nat.le_of_ble_eq_true rfl) (by decide) (by decide) (fun M1 r1 hq1 => ?_)
    obtain ⟨rfl, rfl⟩ := hq1
    have hb : nI (lT (sLn S n) (sTm S n)) = nI (sTm S n (sLn S n - 1)) := by rw [show lT (sLn S n) (sTm S n) = sTm S n (sLn S n - 1) from if_neg hp]
    refine j_ireturn d_M_lastTerm_26 rfl rfl ?_ (by decide) (by decide)
    exact ⟨rfl, by rw [hb]⟩
  · have hp := i_eq (b := 0) (by omega) (by decide) h6
    have hb : nI (lT (sLn S n) (sTm S n)) = 0 := by rw [show lT (sLn S n) (sTm S n) = 0 from if_pos hp]; rfl
    refine j_iconst (v := 0) d_M_lastTerm_9 (by decide) ?_
    refine j_goto 26 d_M_lastTerm_10 (by decide) ?_
    refine j_ireturn d_M_lastTerm_26 rfl rfl ?_ (by decide) (by decide)
    exact ⟨rfl, by rw [hb]⟩
set_option maxRecDepth 20000 in
set_option maxHeartbeats 1000000 in
theorem k_raise (M : aM) (n : Nat) (t : Int32) (hm : mSh M) (hn : n < 12) : aK m_M_raise 0 0 0 M [.ref 332, .int (nI n), .int t] (fun M1 r => r = none ∧ M1 = sI (sI M 334 n (bP (mI M 334 n ≠ 0 ∧ mI M 335 n = t))) 335 n t) := by
  refine aK.of (by decide) (Nat.le_of_ble_eq_true rfl) ?_
  obtain ⟨h0, q_off, t_off, q_leads, t_leads, q_term, t_term, q_length, t_length, q_known, t_known, q_logs, t_logs, q_entry, t_entry, q_members, t_members, q_owners, t_owners, q_owner, t_owner, q_condition, t_condition, q_held, t_held⟩ := hm
  refine j_aload_n d_M_raise_0 rfl ?_
  refine j_getR d_M_raise_1 h0 f_M_13_M rfl (by decide) q_leads ?_
  refine j_iload_n d_M_raise_4 rfl ?_
  refine j_aload_n d_M_raise_5 rfl ?_
  refine j_getR d_M_raise_6 h0 f_M_13_M rfl (by decide) q_leads ?_
  refine j_iload_n d_M_raise_9 rfl ?_
  refine j_zald d_M_raise_10 t_leads (aIx.n hn (by decide)) ?_
  refine j_if_eq (tgt := 28) d_M_raise_11 (by decide) (fun h11 => ?_) (fun h11 => ?_)
  · have hb : bP (mI M 334 n ≠ 0 ∧ mI M 335 n = t) = 0 := bP_f (fun q => q.1 h11)
    refine j_iconst (v := 0) d_M_raise_28 (by decide) ?_
    refine j_zast d_M_raise_29 t_leads (aIx.n hn (by decide)) rfl ?_
    refine j_aload_n d_M_raise_30 rfl ?_
    refine j_getR d_M_raise_31 h0 f_M_16_M rfl (by decide) q_term ?_
    refine j_iload_n d_M_raise_34 rfl ?_
    refine j_iload_n d_M_raise_35 rfl ?_
    refine j_iast d_M_raise_36 t_term (aIx.n hn (by decide)) ?_
    refine j_return d_M_raise_37 rfl ?_ (by decide) (by decide)
    exact ⟨rfl, by rw [hb]⟩
  · refine j_aload_n d_M_raise_14 rfl ?_
    refine j_getR d_M_raise_15 h0 f_M_16_M rfl (by decide) q_term ?_
    refine j_iload_n d_M_raise_18 rfl ?_
    refine j_iald d_M_raise_19 t_term (aIx.n hn (by decide)) ?_
    refine j_iload_n d_M_raise_20 rfl ?_
    refine j_icmp_ne (tgt := 28) d_M_raise_21 (by decide) (fun h21 => ?_) (fun h21 => ?_)
    · have hb : bP (mI M 334 n ≠ 0 ∧ mI M 335 n = t) = 0 := bP_f (fun q => h21 q.2)
      refine j_iconst (v := 0) d_M_raise_28 (by decide) ?_
      refine j_zast d_M_raise_29 t_leads (aIx.n hn (by decide)) rfl ?_
      refine j_aload_n d_M_raise_30 rfl ?_
      refine j_getR d_M_raise_31 h0 f_M_16_M rfl (by decide) q_term ?_
      refine j_iload_n d_M_raise_34 rfl ?_
      refine j_iload_n d_M_raise_35 rfl ?_
      refine j_iast d_M_raise_36 t_term (aIx.n hn (by decide)) ?_
      refine j_return d_M_raise_37 rfl ?_ (by decide) (by decide)
      exact ⟨rfl, by rw [hb]⟩
    · have hb : bP (mI M 334 n ≠ 0 ∧ mI M 335 n = t) = 1 := bP_t ⟨h11, h21⟩
      refine j_iconst (v := 1) d_M_raise_24 (by decide) ?_
      refine j_goto 29 d_M_raise_25 (by decide) ?_
      refine j_zast d_M_raise_29 t_leads (aIx.n hn (by decide)) rfl ?_
      refine j_aload_n d_M_raise_30 rfl ?_
      refine j_getR d_M_raise_31 h0 f_M_16_M rfl (by decide) q_term ?_
      refine j_iload_n d_M_raise_34 rfl ?_
      refine j_iload_n d_M_raise_35 rfl ?_
      refine j_iast d_M_raise_36 t_term (aIx.n hn (by decide)) ?_
      refine j_return d_M_raise_37 rfl ?_ (by decide) (by decide)
      exact ⟨rfl, by rw [hb]⟩
theorem q_raise (M : aM) (S : aS) (n t : Nat) (h : mRep M S) (hn : n < 12) (h1 : sT S n < 1000000) (h2 : t < 1000000) : aK m_M_raise 0 0 0 M [.ref 332, .int (nI n), .int (nI t)] (fun M1 r => r = none ∧ mRep M1 (sUp S, fu (sLd S) n (sLd S n && decide (sT S n = t)), fu (sT S) n t, sLn S, sKn S, sLg S) ∧ fY M M1) := by
  refine (k_raise M n (nI t) h.1 hn).weaken ?_
  rintro M1 r ⟨rfl, rfl⟩
  have e : bP (mI M 334 n ≠ 0 ∧ mI M 335 n = nI t) = bI (sLd S n && decide (sT S n = t)) := by
    rw [(h.2 n hn).2.1, (h.2 n hn).2.2.1]
    by_cases q : sT S n = t
    · cases z : sLd S n
      · rw [bP_f (fun y => y.1 rfl)]; rfl
      · rw [bP_t ⟨by decide, by rw [q]⟩, decide_eq_true q]; rfl
    · rw [bP_f (fun y => q (i_eq (by omega) (by omega) y.2)), decide_eq_false q]
      cases sLd S n <;> rfl
  rw [e]
  exact ⟨rfl, mRep_T (mRep_ld h), ((fY.rf M).sI (by omega)).sI (by omega)⟩
def sayF (x1 x2 x3 x4 x5 x6 : Int32) (i : Nat) : Int32 := if i = 6 then x6 else if i = 5 then x5 else if i = 4 then x4 else if i = 3 then x3 else if i = 2 then x2 else if i = 1 then x1 else 0

set_option maxRecDepth 20000 in
set_option maxHeartbeats 1000000 in
theorem k_say (M : aM) (x1 x2 x3 x4 x5 x6 : Int32) (hm : mSh M) : aK m_M_say 0 0 0 M [.ref 332, .int x1, .int x2, .int x3, .int x4, .int x5, .int x6] (fun M1 r => r = none ∧ oI M M1 (fun a => a = 339) ∧ ∀ i, i < 15 → mI M1 339 i = sayF x1 x2 x3 x4 x5 x6 i) := by
  refine aK.of (by decide) (Nat.le_of_ble_eq_true rfl) ?_
  have loop : ∀ (k i : Nat) (M1 : aM), i + k = 15 → oI M M1 (fun a => a = 339) → (∀ j, j < i → mI M1 339 j = 0) → aJ aX0 m_M_say 0 0 0 (fun M1 r => r = none ∧ oI M M1 (fun a => a = 339) ∧ ∀ i, i < 15 → mI M1 339 i = sayF x1 x2 x3 x4 x5 x6 i) 0 0 3 [some (.ref 332), some (.int x1), some (.int x2), some (.int x3), some (.int x4), some (.int x5), some (.int x6), some (.int (nI i))] [] M1 := by
    intro k
    induction k with
    | zero =>
      intro i M1 hi o hz
      have e8 : i = 15 := by omega
      subst e8
      obtain ⟨h0, q_off, t_off, q_leads, t_leads, q_term, t_term, q_length, t_length, q_known, t_known, q_logs, t_logs, q_entry, t_entry, q_members, t_members, q_owners, t_owners, q_owner, t_owner, q_condition, t_condition, q_held, t_held⟩ := o.mSh hm
      refine j_iload d_M_say_3 rfl ?_
      refine j_bipush (v := 15) d_M_say_5 (by decide) ?_
      refine j_icmp_ge (tgt := 24) d_M_say_7 (by decide) (fun h7 => ?_) (fun h7 => False.elim (h7 (nI_le (by decide) (by decide))))
      refine j_aload_n d_M_say_24 rfl ?_
      refine j_getR d_M_say_25 h0 f_M_29_M rfl (by decide) q_entry ?_
      refine j_iconst (v := 1) d_M_say_28 (by decide) ?_
      refine j_iload_n d_M_say_29 rfl ?_
      refine j_iast d_M_say_30 t_entry (aIx.of (j := 1) rfl (by decide) (by decide)) ?_
      refine j_aload_n d_M_say_31 rfl ?_
      refine j_getR d_M_say_32 h0 f_M_29_M rfl (by decide) q_entry ?_
      refine j_iconst (v := 2) d_M_say_35 (by decide) ?_
      refine j_iload_n d_M_say_36 rfl ?_
      refine j_iast d_M_say_37 t_entry (aIx.of (j := 2) rfl (by decide) (by decide)) ?_
      refine j_aload_n d_M_say_38 rfl ?_
      refine j_getR d_M_say_39 h0 f_M_29_M rfl (by decide) q_entry ?_
      refine j_iconst (v := 3) d_M_say_42 (by decide) ?_
      refine j_iload_n d_M_say_43 rfl ?_
      refine j_iast d_M_say_44 t_entry (aIx.of (j := 3) rfl (by decide) (by decide)) ?_
      refine j_aload_n d_M_say_45 rfl ?_
      refine j_getR d_M_say_46 h0 f_M_29_M rfl (by decide) q_entry ?_
      refine j_iconst (v := 4) d_M_say_49 (by decide) ?_
      refine j_iload d_M_say_50 rfl ?_
      refine j_iast d_M_say_52 t_entry (aIx.of (j := 4) rfl (by decide) (by decide)) ?_
      refine j_aload_n d_M_say_53 rfl ?_
      refine j_getR d_M_say_54 h0 f_M_29_M rfl (by decide) q_entry ?_
      refine j_iconst (v := 5) d_M_say_57 (by decide) ?_
      refine j_iload d_M_say_58 rfl ?_
      refine j_iast d_M_say_60 t_entry (aIx.of (j := 5) rfl (by decide) (by decide)) ?_
      refine j_aload_n d_M_say_61 rfl ?_
      refine j_getR d_M_say_62 h0 f_M_29_M rfl (by decide) q_entry ?_
      refine j_bipush (v := 6) d_M_say_65 (by decide) ?_
      refine j_iload d_M_say_67 rfl ?_
      refine j_iast d_M_say_69 t_entry (aIx.of (j := 6) rfl (by decide) (by decide)) ?_
      refine j_return d_M_say_70 rfl ?_ (by decide) (by decide)
      refine ⟨rfl, (((((o.sI rfl).sI rfl).sI rfl).sI rfl).sI rfl).sI rfl, fun i hi9 => ?_⟩
      unfold sayF
      simp only [mm_I_sI, true_and]
      rw [hz i hi9]
    | succ k ih =>
      intro i M1 hi o hz
      obtain ⟨h0, q_off, t_off, q_leads, t_leads, q_term, t_term, q_length, t_length, q_known, t_known, q_logs, t_logs, q_entry, t_entry, q_members, t_members, q_owners, t_owners, q_owner, t_owner, q_condition, t_condition, q_held, t_held⟩ := o.mSh hm
      refine j_iload d_M_say_3 rfl ?_
      refine j_bipush (v := 15) d_M_say_5 (by decide) ?_
      refine j_icmp_ge (tgt := 24) d_M_say_7 (by decide) (fun h7 => False.elim (nI_ge (b := 15) (by omega) (by decide) h7)) (fun h7 => ?_)
      refine j_aload_n d_M_say_10 rfl ?_
      refine j_getR d_M_say_11 h0 f_M_29_M rfl (by decide) q_entry ?_
      refine j_iload d_M_say_14 rfl ?_
      refine j_iconst (v := 0) d_M_say_16 (by decide) ?_
      refine j_iast d_M_say_17 t_entry (aIx.n (by omega) (by decide)) ?_
      refine j_iinc (nI (i + 1)) d_M_say_18 rfl (nI_inc i) (by decide) ?_
      refine j_goto 3 d_M_say_21 (by decide) ?_
      -- at 3
      refine ih (i + 1) _ (by omega) (o.sI rfl) (fun j hj => ?_)
      rw [mm_I_sI]
      by_cases e : j = i
      · rw [if_pos ⟨rfl, e⟩]
      · rw [if_neg (fun z => e z.2)]; exact hz j (by omega)
  refine j_iconst (v := 0) d_M_say_0 (by decide) ?_
  refine j_istore d_M_say_1 (by decide) ?_
  -- at 3
  exact loop 15 0 M (by decide) (oI.rf M _) (fun j h => absurd h (Nat.not_lt_zero j))
set_option maxRecDepth 20000 in
set_option maxHeartbeats 1000000 in
theorem q_write (M : aM) (S : aS) (n : Nat) (E : Nat → Nat) (h : mRep M S) (hn : n < 12) (h80 : ∀ m, m < 12 → sLn S m ≤ 80) (e0 : E 0 = sT S n) (he : ∀ i, 1 ≤ i → i < 15 → mI M 339 i = nI (E i)) : aK m_M_write 1 0 0 M [.ref 332, .int (nI n)] (mQ M (oWr S n E)) := by
  refine aK.of (by decide) (Nat.le_of_ble_eq_true rfl) ?_
  have hm := h.1
  have l80 := h80 n hn
  obtain ⟨r1, r2, r3, r4, r5, r6⟩ := h.2 n hn
  have loop : sLn S n < 80 → ∀ (k i : Nat) (M1 : aM), i + k = 15 → oI M M1 (fun a => a = 336 ∨ a = 338 ∨ a = 339) → (∀ j, j < 15 → mI M1 339 j = nI (E j)) → (∀ m, m < 12 → mI M1 336 m = mI M 336 m) → (∀ j, ¬ (15 * (80 * n + sLn S n) ≤ j ∧ j < 15 * (80 * n + sLn S n) + i) → mI M1 338 j = mI M 338 j) → (∀ c, c < i → mI M1 338 (15 * (80 * n + sLn S n) + c) = nI (E c)) → aJ aX0 m_M_write 1 0 0 (mQ M (oWr S n E)) 0 0 28 [some (.ref 332), some (.int (nI n)), some (.int (nI i))] [] M1 := by
    intro hlt k
    induction k with
    | zero =>
      intro i M1 hi o he1 hl1 ho1 hc1
      have e8 : i = 15 := by omega
      subst e8
      obtain ⟨h0, q_off, t_off, q_leads, t_leads, q_term, t_term, q_length, t_length, q_known, t_known, q_logs, t_logs, q_entry, t_entry, q_members, t_members, q_owners, t_owners, q_owner, t_owner, q_condition, t_condition, q_held, t_held⟩ := o.mSh hm
      refine j_iload_n d_M_write_28 rfl ?_
      refine j_bipush (v := 15) d_M_write_29 (by decide) ?_
      refine j_icmp_ge (tgt := 63) d_M_write_31 (by decide) (fun h31 => ?_) (fun h31 => False.elim (h31 (nI_le (by decide) (by decide))))
      refine j_aload_n d_M_write_63 rfl ?_
      refine j_getR d_M_write_64 h0 f_M_20_M rfl (by decide) q_length ?_
      refine j_iload_n d_M_write_67 rfl ?_
      refine j_dup2 d_M_write_68 ?_
      refine j_iald d_M_write_69 t_length (aIx.n hn (by decide)) ?_
      refine j_eqi ((hl1 n hn).trans r4) ?_
      refine j_iconst (v := 1) d_M_write_70 (by decide) ?_
      refine j_iadd d_M_write_71 ?_
      refine j_eqi (nI_succ (sLn S n)).symm ?_
      refine j_iast d_M_write_72 t_length (aIx.n hn (by decide)) ?_
      refine j_aload_n d_M_write_73 rfl ?_
      refine j_getR d_M_write_74 h0 f_M_20_M rfl (by decide) q_length ?_
      refine j_iload_n d_M_write_77 rfl ?_
      refine j_iald d_M_write_78 t_length (aIx.n hn (by decide)) ?_
      refine j_eqi (show _ = nI (sLn S n + 1) by rw [mm_I_sI, if_pos ⟨rfl, rfl⟩]) ?_
      refine j_ireturn d_M_write_79 rfl rfl ?_ (by decide) (by decide)
      have ow : oWr S n E = ((sUp S, sLd S, sT S, fu (sLn S) n (sLn S n + 1), sKn S, fu (sLg S) n (fu (sLg S n) (sLn S n) E)), nI (sLn S n + 1)) := if_neg (by omega)
      rw [ow]
      have o2 : oI M (sI M1 336 n (nI (sLn S n + 1))) (fun a => a = 336 ∨ a = 338 ∨ a = 339) := o.sI (Or.inl rfl)
      refine ⟨rfl, mRep_app h hn (Nat.le_refl _) h80 hlt o2 (fun j hj => ?_) (fun c hc => ?_) (fun m hm9 => ?_), o2.fY (fun a ha => by unfold mdl; omega)⟩
      · rw [mm_I_sI, if_neg (by omega)]; exact ho1 j hj
      · rw [mm_I_sI, if_neg (by omega)]; exact hc1 c hc
      · rw [mm_I_sI]
        by_cases z : m = n
        · rw [if_pos ⟨rfl, z⟩, if_pos z]
        · rw [if_neg (fun y => z y.2), if_neg z]; exact hl1 m hm9
    | succ k ih =>
      intro i M1 hi o he1 hl1 ho1 hc1
      obtain ⟨h0, q_off, t_off, q_leads, t_leads, q_term, t_term, q_length, t_length, q_known, t_known, q_logs, t_logs, q_entry, t_entry, q_members, t_members, q_owners, t_owners, q_owner, t_owner, q_condition, t_condition, q_held, t_held⟩ := o.mSh hm
      refine j_iload_n d_M_write_28 rfl ?_
      refine j_bipush (v := 15) d_M_write_29 (by decide) ?_
      refine j_icmp_ge (tgt := 63) d_M_write_31 (by decide) (fun h31 => False.elim (nI_ge (b := 15) (by omega) (by decide) h31)) (fun h31 => ?_)
      refine j_aload_n d_M_write_34 rfl ?_
      refine j_getR d_M_write_35 h0 f_M_26_M rfl (by decide) q_logs ?_
      refine j_iload_n d_M_write_38 rfl ?_
      refine j_aload_n d_M_write_39 rfl ?_
      refine j_getR d_M_write_40 h0 f_M_20_M rfl (by decide) q_length ?_
      refine j_iload_n d_M_write_43 rfl ?_
      refine j_iald d_M_write_44 t_length (aIx.n hn (by decide)) ?_
      refine j_eqi ((hl1 n hn).trans r4) ?_
      refine j_callS (vs := [_, _]) d_M_write_45 w699 w700 w7 w701 y_M_place (by decide) (by decide) (k_place M1 n (sLn S n)) rfl (Nat.le_of_ble_eq_true rfl) (by decide) (by decide) (fun M2 r2_ hq2 => ?_)
      obtain ⟨rfl, rfl⟩ := hq2
      refine j_iload_n d_M_write_48 rfl ?_
      refine j_iadd d_M_write_49 ?_
      refine j_eqi (nI_add _ _) ?_
      refine j_aload_n d_M_write_50 rfl ?_
      refine j_getR d_M_write_51 h0 f_M_29_M rfl (by decide) q_entry ?_
      refine j_iload_n d_M_write_54 rfl ?_
      refine j_iald d_M_write_55 t_entry (aIx.n (by omega) (by decide)) ?_
      refine j_eqi (he1 i (by omega)) ?_
      refine j_iast d_M_write_56 t_logs (aIx.n (by omega) (by decide)) ?_
      refine j_iinc (nI (i + 1)) d_M_write_57 rfl (nI_inc i) (by decide) ?_
      refine j_goto 28 d_M_write_60 (by decide) ?_
      -- at 28
      refine ih (i + 1) _ (by omega) (o.sI (Or.inr (Or.inl rfl))) (fun j hj => ?_) (fun m hm9 => ?_) (fun j hj => ?_) (fun c hc => ?_)
      · rw [mm_I_sI, if_neg (by omega)]; exact he1 j hj
      · rw [mm_I_sI, if_neg (by omega)]; exact hl1 m hm9
      · rw [mm_I_sI, if_neg (by omega)]; exact ho1 j (by omega)
      · rw [mm_I_sI]
        by_cases z : c = i
        · rw [if_pos ⟨rfl, by rw [z]⟩, z]
        · rw [if_neg (by omega)]; exact hc1 c (by omega)
  obtain ⟨h0, q_off, t_off, q_leads, t_leads, q_term, t_term, q_length, t_length, q_known, t_known, q_logs, t_logs, q_entry, t_entry, q_members, t_members, q_owners, t_owners, q_owner, t_owner, q_condition, t_condition, q_held, t_held⟩ := hm
  refine j_aload_n d_M_write_0 rfl ?_
  refine j_getR d_M_write_1 h0 f_M_20_M rfl (by decide) q_length ?_
  refine j_iload_n d_M_write_4 rfl ?_
  refine j_iald d_M_write_5 t_length (aIx.n hn (by decide)) ?_
  refine j_eqi r4 ?_
  refine j_bipush (v := 80) d_M_write_6 (by decide) ?_
  refine j_icmp_ne (tgt := 14) d_M_write_8 (by decide) (fun h8 => ?_) (fun h8 => ?_)
  · have hne := i_ne (b := 80) (by omega) (by decide) h8
    refine j_aload_n d_M_write_14 rfl ?_
    refine j_getR d_M_write_15 h0 f_M_29_M rfl (by decide) q_entry ?_
    refine j_iconst (v := 0) d_M_write_18 (by decide) ?_
    refine j_aload_n d_M_write_19 rfl ?_
    refine j_getR d_M_write_20 h0 f_M_16_M rfl (by decide) q_term ?_
    refine j_iload_n d_M_write_23 rfl ?_
    refine j_iald d_M_write_24 t_term (aIx.n hn (by decide)) ?_
    refine j_eqi r3 ?_
    refine j_iast d_M_write_25 t_entry (aIx.of (j := 0) rfl (by decide) (by decide)) ?_
    refine j_iconst (v := 0) d_M_write_26 (by decide) ?_
    refine j_istore_n d_M_write_27 (by decide) ?_
    -- at 28
    refine loop (by omega) 15 0 _ (by decide) ((oI.rf M _).sI (Or.inr (Or.inr rfl))) (fun j hj => ?_) (fun m hm9 => ?_) (fun j hj => ?_) (fun c hc => absurd hc (Nat.not_lt_zero c))
    · rw [mm_I_sI]
      by_cases z : j = 0
      · rw [if_pos ⟨rfl, z⟩, z, e0]
      · rw [if_neg (fun y => z y.2)]; exact he j (by omega) hj
    · rw [mm_I_sI, if_neg (by omega)]
    · rw [mm_I_sI, if_neg (by omega)]
  · have hne := i_eq (b := 80) (by omega) (by decide) h8
    refine j_bipush (v := -3) d_M_write_11 (by decide) ?_
    refine j_ireturn d_M_write_13 rfl rfl ?_ (by decide) (by decide)
    have ow : oWr S n E = (S, -3) := if_pos hne
    rw [ow]
    exact ⟨rfl, h, fY.rf M⟩
