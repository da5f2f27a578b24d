theorem mGp_v {M M1 : aM} {G : aGp} (h : mGp M G) (o : oI M M1 vcl) (e : mI M1 332 10 = mI M 332 10) : mGp M1 G := by
  refine ⟨e.trans h.1, fun s hs => ?_⟩
  obtain ⟨a, b, c⟩ := h.2 s hs
  exact ⟨(o.2.2 342 (by unfold vcl; omega) s).trans a, (o.2.2 343 (by unfold vcl; omega) s).trans b, fun q i hi => (o.2.2 344 (by unfold vcl; omega) _).trans (c q i hi)⟩
theorem oPo_no {S : aS} {x y : Int32} (h : ngn S x ∨ nsv S y) : oPoll S x y = (S, -1) := by
  unfold oPoll
  cases e : dG x with
  | none => rfl
  | some n =>
    cases e2 : dN y 3 with
    | none => rfl
    | some m =>
      simp only []
      rw [if_neg]
      rintro ⟨q1, q2⟩
      rcases h with h | h
      · rw [h n e] at q1; exact absurd q1 (by decide)
      · rw [h m e2] at q2; exact absurd q2 (by decide)
theorem oPu_no {S : aS} {x z y : Int32} (h : ngn S x ∨ ngn S y ∨ dN z 8 = none) : oPull S x z y = (S, -1) := by
  unfold oPull
  cases e : dG x with
  | none => rfl
  | some n =>
    cases e2 : dG y with
    | none => rfl
    | some m =>
      cases e3 : dN z 8 with
      | none => rfl
      | some s =>
        simp only []
        rw [if_neg]
        rintro ⟨q1, q2⟩
        rcases h with h | h | h
        · rw [h n e] at q1; exact absurd q1 (by decide)
        · rw [h m e2] at q2; exact absurd q2 (by decide)
        · rw [e3] at h; cases h
theorem oCo_no {S : aS} {x z y : Int32} (h : ngn S x ∨ ngn S y ∨ dN z 8 = none) : oConfirm S x z y = (S, -1) := by
  unfold oConfirm
  cases e : dG x with
  | none => rfl
  | some n =>
    cases e2 : dG y with
    | none => rfl
    | some m =>
      cases e3 : dN z 8 with
      | none => rfl
      | some s =>
        simp only []
        rw [if_neg]
        rintro ⟨q1, q2⟩
        rcases h with h | h | h
        · rw [h n e] at q1; exact absurd q1 (by decide)
        · rw [h m e2] at q2; exact absurd q2 (by decide)
        · rw [e3] at h; cases h
theorem dN_no {z : Int32} {N : Nat} (hN : N < 2 ^ 31) (h : bP (0 ≤ z ∧ z < nI N) = 0) : dN z N = none := by
  rcases dN_cases z hN with ⟨e, _⟩ | ⟨n, hn, rfl, e⟩
  · exact e
  · rw [bP_t ⟨nI_pos' (by omega), nI_lt hn hN⟩] at h; exact absurd h (by decide)
theorem dN_yes {z : Int32} {N : Nat} (hN : N < 2 ^ 31) (h : ¬ bP (0 ≤ z ∧ z < nI N) = 0) : ∃ n, n < N ∧ z = nI n ∧ dN z N = some n := by
  rcases dN_cases z hN with ⟨e, hz⟩ | q
  · exact absurd (bP_f (fun q => hz.elim (fun y => Int32.not_lt.mpr q.1 y) (fun y => Int32.not_le.mpr q.2 y))) h
  · exact q

set_option maxRecDepth 20000 in
set_option maxHeartbeats 1000000 in
theorem j_poll (M : aM) (S : aS) (t : Nat) (n m : Nat) (h : mRep M S) (hi : sInv S t) (h3 : 3 ≤ n) (hn : n < 12) (hm3 : m < 3) (oo : aS × Int32) (oy : (gSet (sGp S n) ∧ (sGp S n).1 + 1 < (sSv S m).1) → oo = oWr S n (eCf (sT S n) ((sGp S n).1 + 1) ((sSv S m).2 ((sGp S n).1 + 1)).2)) (on : ¬ (gSet (sGp S n) ∧ (sGp S n).1 + 1 < (sSv S m).1) → oo = (S, -4)) : aJ aX0 m_M_poll 5 0 0 (mQ M oo) 0 0 30 [some (.ref 332), some (.int (nI n)), some (.int (nI m)), none, none] [] M := by
  have hm := h.1
  have hmm := h.1
  have vV := hi.sv (n := m) (by omega)
  have gV := hi.gp h3 hn
  obtain ⟨v1, v16, -⟩ := vV
  have g16 := gV.1
  have lp : gSet (sGp S n) ∧ (sGp S n).1 + 1 < (sSv S m).1 → ∀ (j i : Nat) (M2 M3 : aM), i + j = 8 → mRep M2 S → fY M M2 → mSv M2 (sSv S m) → oI M2 M3 (fun a => a = 339) → (∀ k, k < 7 → mI M3 339 k = sayF 4 (nI ((sGp S n).1 + 1)) 0 0 0 0 k) → (∀ s, s < i → mI M3 339 (7 + s) = nI (((sSv S m).2 ((sGp S n).1 + 1)).2 s)) → aJ aX0 m_M_poll 5 0 0 (mQ M oo) 0 0 78 [some (.ref 332), some (.int (nI n)), some (.int (nI m)), some (.int (nI ((sGp S n).1 + 1))), some (.int (nI i))] [] M3 := by
    intro hy j
    rw [oy hy]
    induction j with
    | zero =>
      intro i M2 M3 hij hR fy hV o hs hc
      have e8 : i = 8 := by omega
      subst e8
      have hR3 := mRep_say hR o
      obtain ⟨h0, q_off, t_off, q_leads, t_leads, q_term, t_term, q_length, t_length, q_known, t_known, q_logs, t_logs, q_entry, t_entry, q_members, t_members, q_owners, t_owners, q_owner, t_owner, q_condition, t_condition, q_held, t_held⟩ := hR3.1
      refine j_iload d_M_poll_78 rfl ?_
      refine j_bipush (v := 8) d_M_poll_80 (by decide) ?_
      refine j_icmp_ge (tgt := 113) d_M_poll_82 (by decide) (fun h82 => ?_) (fun h82 => False.elim (h82 (nI_le (by decide) (by decide))))
      refine j_aload_n d_M_poll_113 rfl ?_
      refine j_iload_n d_M_poll_114 rfl ?_
      refine j_callV (vs := [_]) d_M_poll_115 h0 (by decide) rfl w710 w712 w7 w713 ws_M_write y_M_write (by decide) (by decide) (q_write M3 S n (eCf (sT S n) ((sGp S n).1 + 1) ((sSv S m).2 ((sGp S n).1 + 1)).2) hR3 hn (fun m hm => (hi.1 m hm).1) rfl (fun i h1 h2 => by
        by_cases h7 : i < 7
        · rw [hs i h7]; exact say_E (E := (eCf (sT S n) ((sGp S n).1 + 1) ((sSv S m).2 ((sGp S n).1 + 1)).2)) rfl rfl rfl rfl rfl rfl h1 h7
        · obtain ⟨s, rfl⟩ : ∃ s, i = 7 + s := ⟨i - 7, by omega⟩
          rw [hc s (by omega), eCf_o _ _ _ (by omega)])) rfl (Nat.le_of_ble_eq_true rfl) (by decide) (by decide) (fun M4 r4 hq4 => ?_)
      obtain ⟨z, hz⟩ : ∃ z : Int32, r4 = some (.int z) := ⟨_, hq4.1⟩
      subst hz
      refine j_ireturn d_M_poll_118 rfl rfl ?_ (by decide) (by decide)
      exact mQ_fY (fy.tr (fY_say o)) hq4
    | succ j ih =>
      intro i M2 M3 hij hR fy hV o hs hc
      have src : mI M3 341 (8 * ((sGp S n).1 + 1) + i) = nI (((sSv S m).2 ((sGp S n).1 + 1)).2 i) := (o.2.2 341 (by decide) _).trans ((hV.2 _ hy.2).2 i (by omega))
      obtain ⟨h0, q_off, t_off, q_leads, t_leads, q_term, t_term, q_length, t_length, q_known, t_known, q_logs, t_logs, q_entry, t_entry, q_members, t_members, q_owners, t_owners, q_owner, t_owner, q_condition, t_condition, q_held, t_held⟩ := o.mSh hR.1
      refine j_iload d_M_poll_78 rfl ?_
      refine j_bipush (v := 8) d_M_poll_80 (by decide) ?_
      refine j_icmp_ge (tgt := 113) d_M_poll_82 (by decide) (fun h82 => False.elim (nI_ge (b := 8) (by omega) (by decide) h82)) (fun h82 => ?_)
      refine j_aload_n d_M_poll_85 rfl ?_
      refine j_getR d_M_poll_86 h0 f_M_29_M rfl (by decide) q_entry ?_
      refine j_bipush (v := 7) d_M_poll_89 (by decide) ?_
      refine j_iload d_M_poll_91 rfl ?_
      refine j_iadd d_M_poll_93 ?_
      refine j_eqi (nI_add 7 i) ?_
      refine j_aload_n d_M_poll_94 rfl ?_
      refine j_getR d_M_poll_95 h0 f_M_35_M rfl (by decide) q_owners ?_
      refine j_bipush (v := 8) d_M_poll_98 (by decide) ?_
      refine j_iload_n d_M_poll_100 rfl ?_
      refine j_imul d_M_poll_101 ?_
      refine j_iload d_M_poll_102 rfl ?_
      refine j_iadd d_M_poll_104 ?_
      refine j_eqi (i8 ((sGp S n).1 + 1) i) ?_
      refine j_iald d_M_poll_105 t_owners (aIx.n (by omega) (by decide)) ?_
      refine j_eqi src ?_
      refine j_iast d_M_poll_106 t_entry (aIx.n (by omega) (by decide)) ?_
      refine j_iinc (nI (i + 1)) d_M_poll_107 rfl (nI_inc i) (by decide) ?_
      refine j_goto 78 d_M_poll_110 (by decide) ?_
      -- at 78
      refine ih (i + 1) M2 _ (by omega) hR fy hV (o.sI rfl) (fun k hk => ?_) (fun s hs9 => ?_)
      · rw [mm_I_sI, if_neg (by omega)]; exact hs k hk
      · rw [mm_I_sI]
        by_cases z : s = i
        · rw [if_pos ⟨rfl, by rw [z]⟩, z]
        · rw [if_neg (by omega)]; exact hc s (by omega)
  obtain ⟨h0, q_off, t_off, q_leads, t_leads, q_term, t_term, q_length, t_length, q_known, t_known, q_logs, t_logs, q_entry, t_entry, q_members, t_members, q_owners, t_owners, q_owner, t_owner, q_condition, t_condition, q_held, t_held⟩ := hm
  refine j_aload_n d_M_poll_30 rfl ?_
  refine j_iload_n d_M_poll_31 rfl ?_
  refine j_callV (vs := [_]) d_M_poll_32 h0 (by decide) rfl w742 w744 w7 w745 ws_M_group y_M_group (by decide) (by decide) (q_group M S t n h hi h3 hn) rfl (Nat.le_of_ble_eq_true rfl) (by decide) (by decide) (fun M1 r1 hq1 => ?_)
  obtain ⟨rfl, hG, o1⟩ := hq1
  have hR1 := mRep_g h o1
  obtain ⟨h0, q_off, t_off, q_leads, t_leads, q_term, t_term, q_length, t_length, q_known, t_known, q_logs, t_logs, q_entry, t_entry, q_members, t_members, q_owners, t_owners, q_owner, t_owner, q_condition, t_condition, q_held, t_held⟩ := o1.mSh hmm
  refine j_aload_n d_M_poll_35 rfl ?_
  refine j_iload_n d_M_poll_36 rfl ?_
  refine j_callV (vs := [_]) d_M_poll_37 h0 (by decide) rfl w758 w760 w7 w761 ws_M_service y_M_service (by decide) (by decide) (q_service M1 S t m hR1 hi (by omega)) rfl (Nat.le_of_ble_eq_true rfl) (by decide) (by decide) (fun M2 r2 hq2 => ?_)
  obtain ⟨rfl, hV, o2, h10⟩ := hq2
  have hG2 := mGp_v hG o2 h10
  have hR2 := mRep_v hR1 o2
  have fy2 := (fY_g o1).tr (fY_v o2)
  have hm2 := hR2.1
  obtain ⟨h0, q_off, t_off, q_leads, t_leads, q_term, t_term, q_length, t_length, q_known, t_known, q_logs, t_logs, q_entry, t_entry, q_members, t_members, q_owners, t_owners, q_owner, t_owner, q_condition, t_condition, q_held, t_held⟩ := hR2.1
  refine j_aload_n d_M_poll_40 rfl ?_
  refine j_geti d_M_poll_41 h0 f_M_99_M rfl (by decide) ?_
  refine j_eqi hG2.1 ?_
  refine j_iconst (v := 1) d_M_poll_44 (by decide) ?_
  refine j_iadd d_M_poll_45 ?_
  refine j_eqi (nI_succ _).symm ?_
  refine j_istore_n d_M_poll_46 (by decide) ?_
  refine j_aload_n d_M_poll_47 rfl ?_
  refine j_callV (vs := []) d_M_poll_48 h0 (by decide) rfl w750 w752 w7 w753 ws_M_settled y_M_settled (by decide) (by decide) (q_settled M2 (n / 3) (sGp S n) hm2 hG2 gV) rfl (Nat.le_of_ble_eq_true rfl) (by decide) (by decide) (fun M3 r3 hq3 => ?_)
  obtain ⟨rfl, v, rfl, hv⟩ := hq3
  refine j_if_eq (tgt := 62) d_M_poll_51 (by decide) (fun h51 => ?_) (fun h51 => ?_)
  · have hno : ¬ (gSet (sGp S n) ∧ (sGp S n).1 + 1 < (sSv S m).1) := fun q => hv.mpr q.1 h51
    refine j_bipush (v := -4) d_M_poll_62 (by decide) ?_
    refine j_ireturn d_M_poll_64 rfl rfl ?_ (by decide) (by decide)
    rw [on hno]
    exact ⟨rfl, hR2, fy2⟩
  · have k51 := hv.mp h51
    refine j_iload_n d_M_poll_54 rfl ?_
    refine j_aload_n d_M_poll_55 rfl ?_
    refine j_geti d_M_poll_56 h0 f_M_83_M rfl (by decide) ?_
    refine j_eqi hV.1 ?_
    refine j_icmp_lt (tgt := 65) d_M_poll_59 (by decide) (fun h59 => ?_) (fun h59 => ?_)
    · have k59 := i_lt (by omega) (by omega) h59
      refine j_aload_n d_M_poll_65 rfl ?_
      refine j_iconst (v := 4) d_M_poll_66 (by decide) ?_
      refine j_iload_n d_M_poll_67 rfl ?_
      refine j_iconst (v := 0) d_M_poll_68 (by decide) ?_
      refine j_iconst (v := 0) d_M_poll_69 (by decide) ?_
      refine j_iconst (v := 0) d_M_poll_70 (by decide) ?_
      refine j_iconst (v := 0) d_M_poll_71 (by decide) ?_
      refine j_callV (vs := [_, _, _, _, _, _]) d_M_poll_72 h0 (by decide) rfl w706 w708 w7 w709 ws_M_say y_M_say (by decide) (by decide) (k_say M3 _ _ _ _ _ _ hm2) rfl (Nat.le_of_ble_eq_true rfl) (by decide) (by decide) (fun M4 r4 hq4 => ?_)
      obtain ⟨rfl, o4, s4⟩ := hq4
      refine j_iconst (v := 0) d_M_poll_75 (by decide) ?_
      refine j_istore d_M_poll_76 (by decide) ?_
      -- at 78
      exact lp ⟨k51, k59⟩ 8 0 M3 M4 (by decide) hR2 fy2 hV o4 (fun k hk => s4 k (by omega)) (fun s hs => absurd hs (Nat.not_lt_zero s))
    · have hno : ¬ (gSet (sGp S n) ∧ (sGp S n).1 + 1 < (sSv S m).1) := fun q => absurd q.2 (by have := i_nlt (by omega) (by omega) h59; omega)
      refine j_bipush (v := -4) d_M_poll_62 (by decide) ?_
      refine j_ireturn d_M_poll_64 rfl rfl ?_ (by decide) (by decide)
      rw [on hno]
      exact ⟨rfl, hR2, fy2⟩
set_option maxRecDepth 20000 in
set_option maxHeartbeats 1000000 in
theorem m_poll (M : aM) (S : aS) (t : Nat) (x y : Int32) (h : mRep M S) (hi : sInv S t) : aK m_M_poll 5 0 0 M [.ref 332, .int x, .int y] (mQ M (oPoll S x y)) := by
  refine aK.of (by decide) (Nat.le_of_ble_eq_true rfl) ?_
  have hm := h.1
  obtain ⟨h0, q_off, t_off, q_leads, t_leads, q_term, t_term, q_length, t_length, q_known, t_known, q_logs, t_logs, q_entry, t_entry, q_members, t_members, q_owners, t_owners, q_owner, t_owner, q_condition, t_condition, q_held, t_held⟩ := hm
  refine j_aload_n d_M_poll_0 rfl ?_
  refine j_iload_n d_M_poll_1 rfl ?_
  refine j_callV (vs := [_]) d_M_poll_2 h0 (by decide) rfl w734 w736 w7 w737 ws_M_noGroupNode y_M_noGroupNode (by decide) (by decide) (q_noGroup M S x h) rfl (Nat.le_of_ble_eq_true rfl) (by decide) (by decide) (fun M1 r1 hq1 => ?_)
  obtain ⟨rfl, w, rfl, hw⟩ := hq1
  refine j_if_ne (tgt := 16) d_M_poll_5 (by decide) (fun h5 => ?_) (fun h5 => ?_)
  · have eo := oPo_no (y := y) (Or.inl (hw.mp h5))
    refine j_iconst (v := -1) d_M_poll_16 (by decide) ?_
    refine j_ireturn d_M_poll_17 rfl rfl ?_ (by decide) (by decide)
    rw [eo]
    exact ⟨rfl, h, fY.rf _⟩
  · obtain ⟨n, n3, hn, rfl, en, un⟩ := ngn_no (fun q => hw.mpr q h5)
    have hl0 := (h.2 n hn).2.1
    refine j_aload_n d_M_poll_8 rfl ?_
    refine j_iload_n d_M_poll_9 rfl ?_
    refine j_callV (vs := [_]) d_M_poll_10 h0 (by decide) rfl w726 w728 w7 w729 ws_M_noServer y_M_noServer (by decide) (by decide) (q_noServer M1 S y h) rfl (Nat.le_of_ble_eq_true rfl) (by decide) (by decide) (fun M2 r2 hq2 => ?_)
    obtain ⟨rfl, w2, rfl, hw2⟩ := hq2
    refine j_if_eq (tgt := 18) d_M_poll_13 (by decide) (fun h13 => ?_) (fun h13 => ?_)
    · obtain ⟨m, hm3, rfl, em, um⟩ := nsv_no (fun q => hw2.mpr q h13)
      refine j_aload_n d_M_poll_18 rfl ?_
      refine j_getR d_M_poll_19 h0 f_M_13_M rfl (by decide) q_leads ?_
      refine j_iload_n d_M_poll_22 rfl ?_
      refine j_zald d_M_poll_23 t_leads (aIx.n hn (by decide)) ?_
      refine j_eqi hl0 ?_
      refine j_if_ne (tgt := 30) d_M_poll_24 (by decide) (fun h24 => ?_) (fun h24 => ?_)
      · have hl := bI_1 h24
        refine j_poll M2 S t n m h hi n3 hn hm3 _ (fun q => ?_) (fun q => ?_)
        · unfold oPoll; rw [en, em]; simp only []; rw [if_pos ⟨un, um⟩, if_pos hl]; exact if_pos q
        · unfold oPoll; rw [en, em]; simp only []; rw [if_pos ⟨un, um⟩, if_pos hl]; exact if_neg q
      · have hl := bI_z h24
        refine j_bipush (v := -2) d_M_poll_27 (by decide) ?_
        refine j_ireturn d_M_poll_29 rfl rfl ?_ (by decide) (by decide)
        have eo : oPoll S (nI n) (nI m) = (S, -2) := by
          unfold oPoll; rw [en, em]; simp only []; rw [if_pos ⟨un, um⟩, hl]; rfl
        rw [eo]
        exact ⟨rfl, h, fY.rf _⟩
    · have eo := oPo_no (x := nI n) (Or.inr (hw2.mp h13))
      refine j_iconst (v := -1) d_M_poll_16 (by decide) ?_
      refine j_ireturn d_M_poll_17 rfl rfl ?_ (by decide) (by decide)
      rw [eo]
      exact ⟨rfl, h, fY.rf _⟩
set_option maxRecDepth 20000 in
set_option maxHeartbeats 1000000 in
theorem j_pull (M : aM) (S : aS) (t : Nat) (n s m : Nat) (h : mRep M S) (hi : sInv S t) (h3 : 3 ≤ n) (hn : n < 12) (hs : s < 8) (m3 : 3 ≤ m) (hm9 : m < 12) : aJ aX0 m_M_pull 3 0 0 (mQ M (if plOk S n s m then oWr S n (eIn (sT S n) s (sGp S n).1 ((sGp S m).2.2.2 s)) else (S, -4))) 0 0 39 [some (.ref 332), some (.int (nI n)), some (.int (nI s)), some (.int (nI m)), none, none, none] [] M := by
  have hm := h.1
  have hmm := h.1
  have gV := hi.gp h3 hn
  have gW := hi.gp m3 hm9
  have c1 := gV.c hs
  have c2 := gW.c hs
  have g16 := gV.1
  have h16 := gW.1
  have lp : plOk S n s m → ∀ (v : Int32) (j i : Nat) (M2 M3 : aM), i + j = 8 → mRep M2 S → fY M M2 → mGp M2 (sGp S m) → oI M2 M3 (fun a => a = 339) → (∀ k, k < 7 → mI M3 339 k = sayF 6 (nI s) (nI (sGp S n).1) 0 0 0 k) → (∀ k, k < i → mI M3 339 (7 + k) = nI ((sGp S m).2.2.2 s k)) → aJ aX0 m_M_pull 3 0 0 (mQ M (if plOk S n s m then oWr S n (eIn (sT S n) s (sGp S n).1 ((sGp S m).2.2.2 s)) else (S, -4))) 0 0 114 [some (.ref 332), some (.int (nI n)), some (.int (nI s)), some (.int (nI m)), some (.int v), some (.int (nI (sGp S n).1)), some (.int (nI i))] [] M3 := by
    intro hy v j
    rw [if_pos hy]
    induction j with
    | zero =>
      intro i M2 M3 hij hR fy hG o hs1 hc
      have e8 : i = 8 := by omega
      subst e8
      have hR3 := mRep_say hR o
      obtain ⟨h0, q_off, t_off, q_leads, t_leads, q_term, t_term, q_length, t_length, q_known, t_known, q_logs, t_logs, q_entry, t_entry, q_members, t_members, q_owners, t_owners, q_owner, t_owner, q_condition, t_condition, q_held, t_held⟩ := hR3.1
      refine j_iload d_M_pull_114 rfl ?_
      refine j_bipush (v := 8) d_M_pull_116 (by decide) ?_
      refine j_icmp_ge (tgt := 149) d_M_pull_118 (by decide) (fun h118 => ?_) (fun h118 => False.elim (h118 (nI_le (by decide) (by decide))))
      refine j_aload_n d_M_pull_149 rfl ?_
      refine j_iload_n d_M_pull_150 rfl ?_
      refine j_callV (vs := [_]) d_M_pull_151 h0 (by decide) rfl w710 w712 w7 w713 ws_M_write y_M_write (by decide) (by decide) (q_write M3 S n (eIn (sT S n) s (sGp S n).1 ((sGp S m).2.2.2 s)) hR3 hn (fun m hm => (hi.1 m hm).1) rfl (fun i h1 h2 => by
        by_cases h7 : i < 7
        · rw [hs1 i h7]; exact say_E (E := (eIn (sT S n) s (sGp S n).1 ((sGp S m).2.2.2 s))) rfl rfl rfl rfl rfl rfl h1 h7
        · obtain ⟨s, rfl⟩ : ∃ s, i = 7 + s := ⟨i - 7, by omega⟩
          rw [hc s (by omega), eIn_o _ _ _ _ (by omega)])) rfl (Nat.le_of_ble_eq_true rfl) (by decide) (by decide) (fun M4 r4 hq4 => ?_)
      obtain ⟨z, hz⟩ : ∃ z : Int32, r4 = some (.int z) := ⟨_, hq4.1⟩
      subst hz
      refine j_ireturn d_M_pull_154 rfl rfl ?_ (by decide) (by decide)
      exact mQ_fY (fy.tr (fY_say o)) hq4
    | succ j ih =>
      intro i M2 M3 hij hR fy hG o hs1 hc
      have src : mI M3 344 (8 * s + i) = nI ((sGp S m).2.2.2 s i) := (o.2.2 344 (by decide) _).trans ((hG.2 s hs).2.2 (by rw [hy.2.1]; decide) i (by omega))
      obtain ⟨h0, q_off, t_off, q_leads, t_leads, q_term, t_term, q_length, t_length, q_known, t_known, q_logs, t_logs, q_entry, t_entry, q_members, t_members, q_owners, t_owners, q_owner, t_owner, q_condition, t_condition, q_held, t_held⟩ := o.mSh hR.1
      refine j_iload d_M_pull_114 rfl ?_
      refine j_bipush (v := 8) d_M_pull_116 (by decide) ?_
      refine j_icmp_ge (tgt := 149) d_M_pull_118 (by decide) (fun h118 => False.elim (nI_ge (b := 8) (by omega) (by decide) h118)) (fun h118 => ?_)
      refine j_aload_n d_M_pull_121 rfl ?_
      refine j_getR d_M_pull_122 h0 f_M_29_M rfl (by decide) q_entry ?_
      refine j_bipush (v := 7) d_M_pull_125 (by decide) ?_
      refine j_iload d_M_pull_127 rfl ?_
      refine j_iadd d_M_pull_129 ?_
      refine j_eqi (nI_add 7 i) ?_
      refine j_aload_n d_M_pull_130 rfl ?_
      refine j_getR d_M_pull_131 h0 f_M_44_M rfl (by decide) q_held ?_
      refine j_bipush (v := 8) d_M_pull_134 (by decide) ?_
      refine j_iload_n d_M_pull_136 rfl ?_
      refine j_imul d_M_pull_137 ?_
      refine j_iload d_M_pull_138 rfl ?_
      refine j_iadd d_M_pull_140 ?_
      refine j_eqi (i8 s i) ?_
      refine j_iald d_M_pull_141 t_held (aIx.n (by omega) (by decide)) ?_
      refine j_eqi src ?_
      refine j_iast d_M_pull_142 t_entry (aIx.n (by omega) (by decide)) ?_
      refine j_iinc (nI (i + 1)) d_M_pull_143 rfl (nI_inc i) (by decide) ?_
      refine j_goto 114 d_M_pull_146 (by decide) ?_
      -- at 114
      refine ih (i + 1) M2 _ (by omega) hR fy hG (o.sI rfl) (fun k hk => ?_) (fun s hs9 => ?_)
      · rw [mm_I_sI, if_neg (by omega)]; exact hs1 k hk
      · rw [mm_I_sI]
        by_cases z : s = i
        · rw [if_pos ⟨rfl, by rw [z]⟩, z]
        · rw [if_neg (by omega)]; exact hc s (by omega)
  have at59 : ∀ (M1 : aM) (v : Int32), oI M M1 gcl → mGp M1 (sGp S n) → (v ≠ 0 ↔ (sGp S n).2.2.1 s = 2) → aJ aX0 m_M_pull 3 0 0 (mQ M (if plOk S n s m then oWr S n (eIn (sT S n) s (sGp S n).1 ((sGp S m).2.2.2 s)) else (S, -4))) 0 0 59 [some (.ref 332), some (.int (nI n)), some (.int (nI s)), some (.int (nI m)), none, none, none] [.int v] M1 := by
    intro M1 v o1 hG hv
    have hR1 := mRep_g h o1
    obtain ⟨h0, q_off, t_off, q_leads, t_leads, q_term, t_term, q_length, t_length, q_known, t_known, q_logs, t_logs, q_entry, t_entry, q_members, t_members, q_owners, t_owners, q_owner, t_owner, q_condition, t_condition, q_held, t_held⟩ := o1.mSh hmm
    refine j_istore d_M_pull_59 (by decide) ?_
    refine j_aload_n d_M_pull_61 rfl ?_
    refine j_geti d_M_pull_62 h0 f_M_99_M rfl (by decide) ?_
    refine j_eqi hG.1 ?_
    refine j_istore d_M_pull_65 (by decide) ?_
    refine j_aload_n d_M_pull_67 rfl ?_
    refine j_iload_n d_M_pull_68 rfl ?_
    refine j_callV (vs := [_]) d_M_pull_69 h0 (by decide) rfl w742 w744 w7 w745 ws_M_group y_M_group (by decide) (by decide) (q_group M1 S t m hR1 hi m3 hm9) rfl (Nat.le_of_ble_eq_true rfl) (by decide) (by decide) (fun M2 r2 hq2 => ?_)
    obtain ⟨rfl, hG2, o2⟩ := hq2
    have hR2 := mRep_g hR1 o2
    have fy2 := (fY_g o1).tr (fY_g o2)
    have hm2 := hR2.1
    obtain ⟨h0, q_off, t_off, q_leads, t_leads, q_term, t_term, q_length, t_length, q_known, t_known, q_logs, t_logs, q_entry, t_entry, q_members, t_members, q_owners, t_owners, q_owner, t_owner, q_condition, t_condition, q_held, t_held⟩ := hR2.1
    refine j_iload d_M_pull_72 rfl ?_
    refine j_if_eq (tgt := 96) d_M_pull_74 (by decide) (fun h74 => ?_) (fun h74 => ?_)
    · have hno : ¬ plOk S n s m := fun q => hv.mpr q.1 h74
      refine j_bipush (v := -4) d_M_pull_96 (by decide) ?_
      refine j_ireturn d_M_pull_98 rfl rfl ?_ (by decide) (by decide)
      rw [if_neg hno]
      exact ⟨rfl, hR2, fy2⟩
    · have k74 := hv.mp h74
      refine j_aload_n d_M_pull_77 rfl ?_
      refine j_getR d_M_pull_78 h0 f_M_41_M rfl (by decide) q_condition ?_
      refine j_iload_n d_M_pull_81 rfl ?_
      refine j_iald d_M_pull_82 t_condition (aIx.n hs (by decide)) ?_
      refine j_eqi (hG2.2 s hs).2.1 ?_
      refine j_iconst (v := 3) d_M_pull_83 (by decide) ?_
      refine j_icmp_ne (tgt := 96) d_M_pull_84 (by decide) (fun h84 => ?_) (fun h84 => ?_)
      · have hno : ¬ plOk S n s m := fun q => i_ne (b := 3) (by omega) (by decide) h84 q.2.1
        refine j_bipush (v := -4) d_M_pull_96 (by decide) ?_
        refine j_ireturn d_M_pull_98 rfl rfl ?_ (by decide) (by decide)
        rw [if_neg hno]
        exact ⟨rfl, hR2, fy2⟩
      · have k84 := i_eq (b := 3) (by omega) (by decide) h84
        refine j_aload_n d_M_pull_87 rfl ?_
        refine j_geti d_M_pull_88 h0 f_M_99_M rfl (by decide) ?_
        refine j_eqi hG2.1 ?_
        refine j_iload d_M_pull_91 rfl ?_
        refine j_icmp_eq (tgt := 99) d_M_pull_93 (by decide) (fun h93 => ?_) (fun h93 => ?_)
        · have k93 := i_eq (by omega) (by omega) h93
          refine j_aload_n d_M_pull_99 rfl ?_
          refine j_bipush (v := 6) d_M_pull_100 (by decide) ?_
          refine j_iload_n d_M_pull_102 rfl ?_
          refine j_iload d_M_pull_103 rfl ?_
          refine j_iconst (v := 0) d_M_pull_105 (by decide) ?_
          refine j_iconst (v := 0) d_M_pull_106 (by decide) ?_
          refine j_iconst (v := 0) d_M_pull_107 (by decide) ?_
          refine j_callV (vs := [_, _, _, _, _, _]) d_M_pull_108 h0 (by decide) rfl w706 w708 w7 w709 ws_M_say y_M_say (by decide) (by decide) (k_say M2 _ _ _ _ _ _ hm2) rfl (Nat.le_of_ble_eq_true rfl) (by decide) (by decide) (fun M4 r4 hq4 => ?_)
          obtain ⟨rfl, o4, s4⟩ := hq4
          refine j_iconst (v := 0) d_M_pull_111 (by decide) ?_
          refine j_istore d_M_pull_112 (by decide) ?_
          -- at 114
          exact lp ⟨k74, k84, k93.symm⟩ _ 8 0 M2 M4 (by decide) hR2 fy2 hG2 o4 (fun k hk => s4 k (by omega)) (fun s hs => absurd hs (Nat.not_lt_zero s))
        · have hno : ¬ plOk S n s m := fun q => i_ne (by omega) (by omega) h93 q.2.2.symm
          refine j_bipush (v := -4) d_M_pull_96 (by decide) ?_
          refine j_ireturn d_M_pull_98 rfl rfl ?_ (by decide) (by decide)
          rw [if_neg hno]
          exact ⟨rfl, hR2, fy2⟩
  obtain ⟨h0, q_off, t_off, q_leads, t_leads, q_term, t_term, q_length, t_length, q_known, t_known, q_logs, t_logs, q_entry, t_entry, q_members, t_members, q_owners, t_owners, q_owner, t_owner, q_condition, t_condition, q_held, t_held⟩ := hm
  refine j_aload_n d_M_pull_39 rfl ?_
  refine j_iload_n d_M_pull_40 rfl ?_
  refine j_callV (vs := [_]) d_M_pull_41 h0 (by decide) rfl w742 w744 w7 w745 ws_M_group y_M_group (by decide) (by decide) (q_group M S t n h hi h3 hn) rfl (Nat.le_of_ble_eq_true rfl) (by decide) (by decide) (fun M1 r1 hq1 => ?_)
  obtain ⟨rfl, hG, o1⟩ := hq1
  obtain ⟨h0, q_off, t_off, q_leads, t_leads, q_term, t_term, q_length, t_length, q_known, t_known, q_logs, t_logs, q_entry, t_entry, q_members, t_members, q_owners, t_owners, q_owner, t_owner, q_condition, t_condition, q_held, t_held⟩ := o1.mSh hmm
  refine j_aload_n d_M_pull_44 rfl ?_
  refine j_getR d_M_pull_45 h0 f_M_41_M rfl (by decide) q_condition ?_
  refine j_iload_n d_M_pull_48 rfl ?_
  refine j_iald d_M_pull_49 t_condition (aIx.n hs (by decide)) ?_
  refine j_eqi (hG.2 s hs).2.1 ?_
  refine j_iconst (v := 2) d_M_pull_50 (by decide) ?_
  refine j_icmp_ne (tgt := 58) d_M_pull_51 (by decide) (fun h51 => ?_) (fun h51 => ?_)
  · have hv : ((0 : Int32) ≠ 0 ↔ (sGp S n).2.2.1 s = 2) := ⟨fun q => absurd rfl q, fun q => absurd q (i_ne (b := 2) (by omega) (by decide) h51)⟩
    refine j_iconst (v := 0) d_M_pull_58 (by decide) ?_
    -- at 59
    exact at59 M1 _ o1 hG hv
  · have hv : ((1 : Int32) ≠ 0 ↔ (sGp S n).2.2.1 s = 2) := ⟨fun _ => i_eq (b := 2) (by omega) (by decide) h51, fun _ => by decide⟩
    refine j_iconst (v := 1) d_M_pull_54 (by decide) ?_
    refine j_goto 59 d_M_pull_55 (by decide) ?_
    -- at 59
    exact at59 M1 _ o1 hG hv
set_option maxRecDepth 20000 in
set_option maxHeartbeats 1000000 in
theorem m_pull (M : aM) (S : aS) (t : Nat) (x z y : Int32) (h : mRep M S) (hi : sInv S t) : aK m_M_pull 3 0 0 M [.ref 332, .int x, .int z, .int y] (mQ M (oPull S x z y)) := by
  refine aK.of (by decide) (Nat.le_of_ble_eq_true rfl) ?_
  have hm := h.1
  obtain ⟨h0, q_off, t_off, q_leads, t_leads, q_term, t_term, q_length, t_length, q_known, t_known, q_logs, t_logs, q_entry, t_entry, q_members, t_members, q_owners, t_owners, q_owner, t_owner, q_condition, t_condition, q_held, t_held⟩ := hm
  refine j_aload_n d_M_pull_0 rfl ?_
  refine j_iload_n d_M_pull_1 rfl ?_
  refine j_callV (vs := [_]) d_M_pull_2 h0 (by decide) rfl w734 w736 w7 w737 ws_M_noGroupNode y_M_noGroupNode (by decide) (by decide) (q_noGroup M S x h) rfl (Nat.le_of_ble_eq_true rfl) (by decide) (by decide) (fun M1 r1 hq1 => ?_)
  obtain ⟨rfl, w, rfl, hw⟩ := hq1
  refine j_if_ne (tgt := 25) d_M_pull_5 (by decide) (fun h5 => ?_) (fun h5 => ?_)
  · have eo := oPu_no (z := z) (y := y) (Or.inl (hw.mp h5))
    refine j_iconst (v := -1) d_M_pull_25 (by decide) ?_
    refine j_ireturn d_M_pull_26 rfl rfl ?_ (by decide) (by decide)
    rw [eo]
    exact ⟨rfl, h, fY.rf _⟩
  · obtain ⟨n, n3, hn, rfl, en, un⟩ := ngn_no (fun q => hw.mpr q h5)
    have hl0 := (h.2 n hn).2.1
    refine j_aload_n d_M_pull_8 rfl ?_
    refine j_iload_n d_M_pull_9 rfl ?_
    refine j_callV (vs := [_]) d_M_pull_10 h0 (by decide) rfl w734 w736 w7 w737 ws_M_noGroupNode y_M_noGroupNode (by decide) (by decide) (q_noGroup M1 S y h) rfl (Nat.le_of_ble_eq_true rfl) (by decide) (by decide) (fun M2 r2 hq2 => ?_)
    obtain ⟨rfl, w2, rfl, hw2⟩ := hq2
    refine j_if_ne (tgt := 25) d_M_pull_13 (by decide) (fun h13 => ?_) (fun h13 => ?_)
    · have eo := oPu_no (x := nI n) (z := z) (Or.inr (Or.inl (hw2.mp h13)))
      refine j_iconst (v := -1) d_M_pull_25 (by decide) ?_
      refine j_ireturn d_M_pull_26 rfl rfl ?_ (by decide) (by decide)
      rw [eo]
      exact ⟨rfl, h, fY.rf _⟩
    · obtain ⟨m, m3, hm9, rfl, em, um⟩ := ngn_no (fun q => hw2.mpr q h13)
      refine j_iload_n d_M_pull_16 rfl ?_
      refine j_bipush (v := 8) d_M_pull_17 (by decide) ?_
      refine j_callS (vs := [_, _]) d_M_pull_19 w680 w681 w7 w682 y_M_below (by decide) (by decide) (k_below M2 z (nI 8)) rfl (Nat.le_of_ble_eq_true rfl) (by decide) (by decide) (fun M3 r3 hq3 => ?_)
      obtain ⟨rfl, rfl⟩ := hq3
      refine j_if_ne (tgt := 27) d_M_pull_22 (by decide) (fun h22 => ?_) (fun h22 => ?_)
      · obtain ⟨s, hs, rfl, es⟩ := dN_yes (by decide) h22
        refine j_aload_n d_M_pull_27 rfl ?_
        refine j_getR d_M_pull_28 h0 f_M_13_M rfl (by decide) q_leads ?_
        refine j_iload_n d_M_pull_31 rfl ?_
        refine j_zald d_M_pull_32 t_leads (aIx.n hn (by decide)) ?_
        refine j_eqi hl0 ?_
        refine j_if_ne (tgt := 39) d_M_pull_33 (by decide) (fun h33 => ?_) (fun h33 => ?_)
        · have hl := bI_1 h33
          have j := j_pull M3 S t n s m h hi n3 hn hs m3 hm9
          unfold oPull
          rw [en, em, es]
          simp only []
          rw [if_pos ⟨un, um⟩, if_pos hl]
          exact j
        · have hl := bI_z h33
          refine j_bipush (v := -2) d_M_pull_36 (by decide) ?_
          refine j_ireturn d_M_pull_38 rfl rfl ?_ (by decide) (by decide)
          have eo : oPull S (nI n) (nI s) (nI m) = (S, -2) := by
            unfold oPull; rw [en, em, es]; simp only []; rw [if_pos ⟨un, um⟩, hl]; rfl
          rw [eo]
          exact ⟨rfl, h, fY.rf _⟩
      · have eo := oPu_no (S := S) (x := nI n) (y := nI m) (Or.inr (Or.inr (dN_no (by decide) h22)))
        refine j_iconst (v := -1) d_M_pull_25 (by decide) ?_
        refine j_ireturn d_M_pull_26 rfl rfl ?_ (by decide) (by decide)
        rw [eo]
        exact ⟨rfl, h, fY.rf _⟩
set_option maxRecDepth 20000 in
set_option maxHeartbeats 1000000 in
theorem j_confirm (M : aM) (S : aS) (t : Nat) (n s m : Nat) (h : mRep M S) (hi : sInv S t) (h3 : 3 ≤ n) (hn : n < 12) (hs : s < 8) (m3 : 3 ≤ m) (hm9 : m < 12) : aJ aX0 m_M_confirm 3 0 0 (mQ M (if cnOk S n s m then oWr S n (eDl (sT S n) s (sGp S n).1) else (S, -4))) 0 0 39 [some (.ref 332), some (.int (nI n)), some (.int (nI s)), some (.int (nI m)), none, none] [] M := by
  have hm := h.1
  have hmm := h.1
  have gV := hi.gp h3 hn
  have gW := hi.gp m3 hm9
  have c1 := gV.c hs
  have c2 := gW.c hs
  have g16 := gV.1
  have h16 := gW.1
  have o1 := (gV.2 s hs).1
  have at71 : ∀ (M1 : aM) (v : Int32), oI M M1 gcl → mGp M1 (sGp S n) → (v ≠ 0 ↔ ((sGp S n).2.2.1 s = 3 ∧ (sGp S n).2.1 s = m / 3)) → aJ aX0 m_M_confirm 3 0 0 (mQ M (if cnOk S n s m then oWr S n (eDl (sT S n) s (sGp S n).1) else (S, -4))) 0 0 71 [some (.ref 332), some (.int (nI n)), some (.int (nI s)), some (.int (nI m)), none, none] [.int v] M1 := by
    intro M1 v o1 hG hv
    have hR1 := mRep_g h o1
    obtain ⟨h0, q_off, t_off, q_leads, t_leads, q_term, t_term, q_length, t_length, q_known, t_known, q_logs, t_logs, q_entry, t_entry, q_members, t_members, q_owners, t_owners, q_owner, t_owner, q_condition, t_condition, q_held, t_held⟩ := o1.mSh hmm
    refine j_istore d_M_confirm_71 (by decide) ?_
    refine j_aload_n d_M_confirm_73 rfl ?_
    refine j_geti d_M_confirm_74 h0 f_M_99_M rfl (by decide) ?_
    refine j_eqi hG.1 ?_
    refine j_istore d_M_confirm_77 (by decide) ?_
    refine j_aload_n d_M_confirm_79 rfl ?_
    refine j_iload_n d_M_confirm_80 rfl ?_
    refine j_callV (vs := [_]) d_M_confirm_81 h0 (by decide) rfl w742 w744 w7 w745 ws_M_group y_M_group (by decide) (by decide) (q_group M1 S t m hR1 hi m3 hm9) rfl (Nat.le_of_ble_eq_true rfl) (by decide) (by decide) (fun M2 r2 hq2 => ?_)
    obtain ⟨rfl, hG2, o2⟩ := hq2
    have hR2 := mRep_g hR1 o2
    have fy2 := (fY_g o1).tr (fY_g o2)
    have hm2 := hR2.1
    obtain ⟨h0, q_off, t_off, q_leads, t_leads, q_term, t_term, q_length, t_length, q_known, t_known, q_logs, t_logs, q_entry, t_entry, q_members, t_members, q_owners, t_owners, q_owner, t_owner, q_condition, t_condition, q_held, t_held⟩ := hR2.1
    refine j_iload d_M_confirm_84 rfl ?_
    refine j_if_eq (tgt := 117) d_M_confirm_86 (by decide) (fun h86 => ?_) (fun h86 => ?_)
    · have hno : ¬ cnOk S n s m := fun q => hv.mpr ⟨q.1, q.2.1⟩ h86
      refine j_bipush (v := -4) d_M_confirm_117 (by decide) ?_
      refine j_ireturn d_M_confirm_119 rfl rfl ?_ (by decide) (by decide)
      rw [if_neg hno]
      exact ⟨rfl, hR2, fy2⟩
    · have k86 := hv.mp h86
      refine j_aload_n d_M_confirm_89 rfl ?_
      refine j_geti d_M_confirm_90 h0 f_M_99_M rfl (by decide) ?_
      refine j_eqi hG2.1 ?_
      refine j_iload d_M_confirm_93 rfl ?_
      refine j_icmp_lt (tgt := 117) d_M_confirm_95 (by decide) (fun h95 => ?_) (fun h95 => ?_)
      · have k95 := i_lt (by omega) (by omega) h95
        have hno : ¬ cnOk S n s m := fun q => by have := q.2.2; omega
        refine j_bipush (v := -4) d_M_confirm_117 (by decide) ?_
        refine j_ireturn d_M_confirm_119 rfl rfl ?_ (by decide) (by decide)
        rw [if_neg hno]
        exact ⟨rfl, hR2, fy2⟩
      · have k95 := i_nlt (by omega) (by omega) h95
        refine j_aload_n d_M_confirm_98 rfl ?_
        refine j_geti d_M_confirm_99 h0 f_M_99_M rfl (by decide) ?_
        refine j_eqi hG2.1 ?_
        refine j_iload d_M_confirm_102 rfl ?_
        refine j_icmp_ne (tgt := 120) d_M_confirm_104 (by decide) (fun h104 => ?_) (fun h104 => ?_)
        · have k104 := i_ne (by omega) (by omega) h104
          have hy : cnOk S n s m := ⟨k86.1, k86.2, Or.inl (by omega)⟩
          refine j_aload_n d_M_confirm_120 rfl ?_
          refine j_bipush (v := 7) d_M_confirm_121 (by decide) ?_
          refine j_iload_n d_M_confirm_123 rfl ?_
          refine j_iload d_M_confirm_124 rfl ?_
          refine j_iconst (v := 0) d_M_confirm_126 (by decide) ?_
          refine j_iconst (v := 0) d_M_confirm_127 (by decide) ?_
          refine j_iconst (v := 0) d_M_confirm_128 (by decide) ?_
          refine j_callV (vs := [_, _, _, _, _, _]) d_M_confirm_129 h0 (by decide) rfl w706 w708 w7 w709 ws_M_say y_M_say (by decide) (by decide) (k_say M2 _ _ _ _ _ _ hm2) rfl (Nat.le_of_ble_eq_true rfl) (by decide) (by decide) (fun M4 r4 hq4 => ?_)
          obtain ⟨rfl, o4, s4⟩ := hq4
          have hR4 := mRep_say hR2 o4
          have h04 := hR4.1.1
          refine j_aload_n d_M_confirm_132 rfl ?_
          refine j_iload_n d_M_confirm_133 rfl ?_
          refine j_callV (vs := [_]) d_M_confirm_134 h04 (by decide) rfl w710 w712 w7 w713 ws_M_write y_M_write (by decide) (by decide) (q_write M4 S n (eDl (sT S n) s (sGp S n).1) hR4 hn (fun m hm => (hi.1 m hm).1) rfl (fun i h1 h2 => by
        rw [s4 i h2]
        by_cases h7 : i < 7
        · exact say_E (E := (eDl (sT S n) s (sGp S n).1)) rfl rfl rfl rfl rfl rfl h1 h7
        · rw [say_0 (by omega)]; unfold eDl; rw [eM_0 (by simp only [List.length_cons, List.length_nil]; omega)]; rfl)) rfl (Nat.le_of_ble_eq_true rfl) (by decide) (by decide) (fun M5 r5 hq5 => ?_)
          obtain ⟨z, hz⟩ : ∃ z : Int32, r5 = some (.int z) := ⟨_, hq5.1⟩
          subst hz
          refine j_ireturn d_M_confirm_137 rfl rfl ?_ (by decide) (by decide)
          rw [if_pos hy]
          exact mQ_fY (fy2.tr (fY_say o4)) hq5
        · have k104 := i_eq (by omega) (by omega) h104
          refine j_aload_n d_M_confirm_107 rfl ?_
          refine j_getR d_M_confirm_108 h0 f_M_41_M rfl (by decide) q_condition ?_
          refine j_iload_n d_M_confirm_111 rfl ?_
          refine j_iald d_M_confirm_112 t_condition (aIx.n hs (by decide)) ?_
          refine j_eqi (hG2.2 s hs).2.1 ?_
          refine j_iconst (v := 1) d_M_confirm_113 (by decide) ?_
          refine j_icmp_eq (tgt := 120) d_M_confirm_114 (by decide) (fun h114 => ?_) (fun h114 => ?_)
          · have hy : cnOk S n s m := ⟨k86.1, k86.2, Or.inr ⟨k104, i_eq (b := 1) (by omega) (by decide) h114⟩⟩
            refine j_aload_n d_M_confirm_120 rfl ?_
            refine j_bipush (v := 7) d_M_confirm_121 (by decide) ?_
            refine j_iload_n d_M_confirm_123 rfl ?_
            refine j_iload d_M_confirm_124 rfl ?_
            refine j_iconst (v := 0) d_M_confirm_126 (by decide) ?_
            refine j_iconst (v := 0) d_M_confirm_127 (by decide) ?_
            refine j_iconst (v := 0) d_M_confirm_128 (by decide) ?_
            refine j_callV (vs := [_, _, _, _, _, _]) d_M_confirm_129 h0 (by decide) rfl w706 w708 w7 w709 ws_M_say y_M_say (by decide) (by decide) (k_say M2 _ _ _ _ _ _ hm2) rfl (Nat.le_of_ble_eq_true rfl) (by decide) (by decide) (fun M4 r4 hq4 => ?_)
            obtain ⟨rfl, o4, s4⟩ := hq4
            have hR4 := mRep_say hR2 o4
            have h04 := hR4.1.1
            refine j_aload_n d_M_confirm_132 rfl ?_
            refine j_iload_n d_M_confirm_133 rfl ?_
            refine j_callV (vs := [_]) d_M_confirm_134 h04 (by decide) rfl w710 w712 w7 w713 ws_M_write y_M_write (by decide) (by decide) (q_write M4 S n (eDl (sT S n) s (sGp S n).1) hR4 hn (fun m hm => (hi.1 m hm).1) rfl (fun i h1 h2 => by
        rw [s4 i h2]
        by_cases h7 : i < 7
        · exact say_E (E := (eDl (sT S n) s (sGp S n).1)) rfl rfl rfl rfl rfl rfl h1 h7
        · rw [say_0 (by omega)]; unfold eDl; rw [eM_0 (by simp only [List.length_cons, List.length_nil]; omega)]; rfl)) rfl (Nat.le_of_ble_eq_true rfl) (by decide) (by decide) (fun M5 r5 hq5 => ?_)
            obtain ⟨z, hz⟩ : ∃ z : Int32, r5 = some (.int z) := ⟨_, hq5.1⟩
            subst hz
            refine j_ireturn d_M_confirm_137 rfl rfl ?_ (by decide) (by decide)
            rw [if_pos hy]
            exact mQ_fY (fy2.tr (fY_say o4)) hq5
          · have k114 := i_ne (b := 1) (by omega) (by decide) h114
            have hno : ¬ cnOk S n s m := fun q => by have := q.2.2; omega
            refine j_bipush (v := -4) d_M_confirm_117 (by decide) ?_
            refine j_ireturn d_M_confirm_119 rfl rfl ?_ (by decide) (by decide)
            rw [if_neg hno]
            exact ⟨rfl, hR2, fy2⟩
  obtain ⟨h0, q_off, t_off, q_leads, t_leads, q_term, t_term, q_length, t_length, q_known, t_known, q_logs, t_logs, q_entry, t_entry, q_members, t_members, q_owners, t_owners, q_owner, t_owner, q_condition, t_condition, q_held, t_held⟩ := hm
  refine j_aload_n d_M_confirm_39 rfl ?_
  refine j_iload_n d_M_confirm_40 rfl ?_
  refine j_callV (vs := [_]) d_M_confirm_41 h0 (by decide) rfl w742 w744 w7 w745 ws_M_group y_M_group (by decide) (by decide) (q_group M S t n h hi h3 hn) rfl (Nat.le_of_ble_eq_true rfl) (by decide) (by decide) (fun M1 r1 hq1 => ?_)
  obtain ⟨rfl, hG, o1⟩ := hq1
  obtain ⟨h0, q_off, t_off, q_leads, t_leads, q_term, t_term, q_length, t_length, q_known, t_known, q_logs, t_logs, q_entry, t_entry, q_members, t_members, q_owners, t_owners, q_owner, t_owner, q_condition, t_condition, q_held, t_held⟩ := o1.mSh hmm
  refine j_aload_n d_M_confirm_44 rfl ?_
  refine j_getR d_M_confirm_45 h0 f_M_41_M rfl (by decide) q_condition ?_
  refine j_iload_n d_M_confirm_48 rfl ?_
  refine j_iald d_M_confirm_49 t_condition (aIx.n hs (by decide)) ?_
  refine j_eqi (hG.2 s hs).2.1 ?_
  refine j_iconst (v := 3) d_M_confirm_50 (by decide) ?_
  refine j_icmp_ne (tgt := 70) d_M_confirm_51 (by decide) (fun h51 => ?_) (fun h51 => ?_)
  · have hv : ((0 : Int32) ≠ 0 ↔ ((sGp S n).2.2.1 s = 3 ∧ (sGp S n).2.1 s = m / 3)) := ⟨fun q => absurd rfl q, fun q => absurd q.1 (i_ne (b := 3) (by omega) (by decide) h51)⟩
    refine j_iconst (v := 0) d_M_confirm_70 (by decide) ?_
    -- at 71
    exact at71 M1 _ o1 hG hv
  · have k51 := i_eq (b := 3) (by omega) (by decide) h51
    refine j_aload_n d_M_confirm_54 rfl ?_
    refine j_getR d_M_confirm_55 h0 f_M_38_M rfl (by decide) q_owner ?_
    refine j_iload_n d_M_confirm_58 rfl ?_
    refine j_iald d_M_confirm_59 t_owner (aIx.n hs (by decide)) ?_
    refine j_eqi (hG.2 s hs).1 ?_
    refine j_iload_n d_M_confirm_60 rfl ?_
    refine j_iconst (v := 3) d_M_confirm_61 (by decide) ?_
    refine j_idiv d_M_confirm_62 (by decide) ?_
    refine j_eqi (pk_div (d := 3) (by omega) (by decide) (by decide)) ?_
    refine j_icmp_ne (tgt := 70) d_M_confirm_63 (by decide) (fun h63 => ?_) (fun h63 => ?_)
    · have hv : ((0 : Int32) ≠ 0 ↔ ((sGp S n).2.2.1 s = 3 ∧ (sGp S n).2.1 s = m / 3)) := ⟨fun q => absurd rfl q, fun q => absurd q.2 (i_ne (by omega) (by omega) h63)⟩
      refine j_iconst (v := 0) d_M_confirm_70 (by decide) ?_
      -- at 71
      exact at71 M1 _ o1 hG hv
    · have hv : ((1 : Int32) ≠ 0 ↔ ((sGp S n).2.2.1 s = 3 ∧ (sGp S n).2.1 s = m / 3)) := ⟨fun _ => ⟨k51, i_eq (by omega) (by omega) h63⟩, fun _ => by decide⟩
      refine j_iconst (v := 1) d_M_confirm_66 (by decide) ?_
      refine j_goto 71 d_M_confirm_67 (by decide) ?_
      -- at 71
      exact at71 M1 _ o1 hG hv
set_option maxRecDepth 20000 in
set_option maxHeartbeats 1000000 in
theorem m_confirm (M : aM) (S : aS) (t : Nat) (x z y : Int32) (h : mRep M S) (hi : sInv S t) : aK m_M_confirm 3 0 0 M [.ref 332, .int x, .int z, .int y] (mQ M (oConfirm S x z y)) := by
  refine aK.of (by decide) (Nat.le_of_ble_eq_true rfl) ?_
  have hm := h.1
  obtain ⟨h0, q_off, t_off, q_leads, t_leads, q_term, t_term, q_length, t_length, q_known, t_known, q_logs, t_logs, q_entry, t_entry, q_members, t_members, q_owners, t_owners, q_owner, t_owner, q_condition, t_condition, q_held, t_held⟩ := hm
  refine j_aload_n d_M_confirm_0 rfl ?_
  refine j_iload_n d_M_confirm_1 rfl ?_
  refine j_callV (vs := [_]) d_M_confirm_2 h0 (by decide) rfl w734 w736 w7 w737 ws_M_noGroupNode y_M_noGroupNode (by decide) (by decide) (q_noGroup M S x h) rfl (Nat.le_of_ble_eq_true rfl) (by decide) (by decide) (fun M1 r1 hq1 => ?_)
  obtain ⟨rfl, w, rfl, hw⟩ := hq1
  refine j_if_ne (tgt := 25) d_M_confirm_5 (by decide) (fun h5 => ?_) (fun h5 => ?_)
  · have eo := oCo_no (z := z) (y := y) (Or.inl (hw.mp h5))
    refine j_iconst (v := -1) d_M_confirm_25 (by decide) ?_
    refine j_ireturn d_M_confirm_26 rfl rfl ?_ (by decide) (by decide)
    rw [eo]
    exact ⟨rfl, h, fY.rf _⟩
  · obtain ⟨n, n3, hn, rfl, en, un⟩ := ngn_no (fun q => hw.mpr q h5)
    have hl0 := (h.2 n hn).2.1
    refine j_aload_n d_M_confirm_8 rfl ?_
    refine j_iload_n d_M_confirm_9 rfl ?_
    refine j_callV (vs := [_]) d_M_confirm_10 h0 (by decide) rfl w734 w736 w7 w737 ws_M_noGroupNode y_M_noGroupNode (by decide) (by decide) (q_noGroup M1 S y h) rfl (Nat.le_of_ble_eq_true rfl) (by decide) (by decide) (fun M2 r2 hq2 => ?_)
    obtain ⟨rfl, w2, rfl, hw2⟩ := hq2
    refine j_if_ne (tgt := 25) d_M_confirm_13 (by decide) (fun h13 => ?_) (fun h13 => ?_)
    · have eo := oCo_no (x := nI n) (z := z) (Or.inr (Or.inl (hw2.mp h13)))
      refine j_iconst (v := -1) d_M_confirm_25 (by decide) ?_
      refine j_ireturn d_M_confirm_26 rfl rfl ?_ (by decide) (by decide)
      rw [eo]
      exact ⟨rfl, h, fY.rf _⟩
    · obtain ⟨m, m3, hm9, rfl, em, um⟩ := ngn_no (fun q => hw2.mpr q h13)
      refine j_iload_n d_M_confirm_16 rfl ?_
      refine j_bipush (v := 8) d_M_confirm_17 (by decide) ?_
      refine j_callS (vs := [_, _]) d_M_confirm_19 w680 w681 w7 w682 y_M_below (by decide) (by decide) (k_below M2 z (nI 8)) rfl (Nat.le_of_ble_eq_true rfl) (by decide) (by decide) (fun M3 r3 hq3 => ?_)
      obtain ⟨rfl, rfl⟩ := hq3
      refine j_if_ne (tgt := 27) d_M_confirm_22 (by decide) (fun h22 => ?_) (fun h22 => ?_)
      · obtain ⟨s, hs, rfl, es⟩ := dN_yes (by decide) h22
        refine j_aload_n d_M_confirm_27 rfl ?_
        refine j_getR d_M_confirm_28 h0 f_M_13_M rfl (by decide) q_leads ?_
        refine j_iload_n d_M_confirm_31 rfl ?_
        refine j_zald d_M_confirm_32 t_leads (aIx.n hn (by decide)) ?_
        refine j_eqi hl0 ?_
        refine j_if_ne (tgt := 39) d_M_confirm_33 (by decide) (fun h33 => ?_) (fun h33 => ?_)
        · have hl := bI_1 h33
          have j := j_confirm M3 S t n s m h hi n3 hn hs m3 hm9
          unfold oConfirm
          rw [en, em, es]
          simp only []
          rw [if_pos ⟨un, um⟩, if_pos hl]
          exact j
        · have hl := bI_z h33
          refine j_bipush (v := -2) d_M_confirm_36 (by decide) ?_
          refine j_ireturn d_M_confirm_38 rfl rfl ?_ (by decide) (by decide)
          have eo : oConfirm S (nI n) (nI s) (nI m) = (S, -2) := by
            unfold oConfirm; rw [en, em, es]; simp only []; rw [if_pos ⟨un, um⟩, hl]; rfl
          rw [eo]
          exact ⟨rfl, h, fY.rf _⟩
      · have eo := oCo_no (S := S) (x := nI n) (y := nI m) (Or.inr (Or.inr (dN_no (by decide) h22)))
        refine j_iconst (v := -1) d_M_confirm_25 (by decide) ?_
        refine j_ireturn d_M_confirm_26 rfl rfl ?_ (by decide) (by decide)
        rw [eo]
        exact ⟨rfl, h, fY.rf _⟩
