/-- the cells of a group's state in the model -/
def gcl (a : Nat) : Prop := a = 332 ∨ (342 ≤ a ∧ a < 345)
theorem gcl_s (a : Nat) (h : gcl a) : scr a := by unfold gcl at h; unfold scr; omega
def mGp (M : aM) (G : aGp) : Prop := mI M 332 10 = nI G.1 ∧ ∀ s, s < 8 → mI M 342 s = nI (G.2.1 s) ∧ mI M 343 s = nI (G.2.2.1 s) ∧ (G.2.2.1 s ≠ 0 → ∀ i, i < 8 → mI M 344 (8 * s + i) = nI (G.2.2.2 s i))
/-- the entry that begins at cell p of the logs -/
def lgE (M : aM) (p : Nat) (E : Nat → Nat) : Prop := p + 15 ≤ 14400 ∧ ∀ c, c < 15 → mI M 338 (p + c) = nI (E c)
theorem lgE.o {M M1 : aM} {p : Nat} {E : Nat → Nat} {P : Nat → Prop} (h : lgE M p E) (o : oI M M1 P) (hp : ¬ P 338) : lgE M1 p E := ⟨h.1, fun c hc => (o.2.2 338 hp _).trans (h.2 c hc)⟩
theorem lgE_of {M : aM} {S : aS} {n k : Nat} (h : mRep M S) (hn : n < 12) (h80 : sLn S n ≤ 80) (hk : k < sLn S n) : lgE M (15 * (80 * n + k)) (sLg S n k) := ⟨by omega, fun c hc => (h.2 n hn).2.2.2.2.2 k hk c hc⟩
theorem nar01 {v : Int32} (h : v = 0 ∨ v = 1) : narrow .boolean (.int v) = .int v := by rcases h with rfl | rfl <;> rfl
theorem i8 (s i : Nat) : (8 : Int32) * nI s + nI i = nI (8 * s + i) := by
  rw [show (8 : Int32) * nI s = nI (8 * s) from pk_mul 8 s, nI_add]

set_option maxRecDepth 20000 in
set_option maxHeartbeats 1000000 in
theorem q_settled (M : aM) (g : Nat) (G : aGp) (hm : mSh M) (hg : mGp M G) (hV : gpV g G) : aK m_M_settled 0 0 0 M [.ref 332] (fun M1 r => M1 = M ∧ ∃ v : Int32, r = some (.int v) ∧ (v ≠ 0 ↔ gSet G)) := by
  refine aK.of (by decide) (Nat.le_of_ble_eq_true rfl) ?_
  obtain ⟨h0, q_off, t_off, q_leads, t_leads, q_term, t_term, q_length, t_length, q_known, t_known, q_logs, t_logs, q_entry, t_entry, q_members, t_members, q_owners, t_owners, q_owner, t_owner, q_condition, t_condition, q_held, t_held⟩ := hm
  have loop : ∀ (k i : Nat) (v : Int32), i + k = 8 → (v = 0 ∨ v = 1) → (v ≠ 0 ↔ ∀ s, s < i → G.2.2.1 s < 2) → aJ aX0 m_M_settled 0 0 0 (fun M1 r => M1 = M ∧ ∃ v : Int32, r = some (.int v) ∧ (v ≠ 0 ↔ gSet G)) 0 0 4 [some (.ref 332), some (.int v), some (.int (nI i))] [] M := by
    intro k
    induction k with
    | zero =>
      intro i v hi h01 hv
      have e8 : i = 8 := by omega
      subst e8
      refine j_iload_n d_M_settled_4 rfl ?_
      refine j_bipush (v := 8) d_M_settled_5 (by decide) ?_
      refine j_icmp_ge (tgt := 36) d_M_settled_7 (by decide) (fun h7 => ?_) (fun h7 => False.elim (h7 (nI_le (by decide) (by decide))))
      refine j_iload_n d_M_settled_36 rfl ?_
      refine j_ireturn d_M_settled_37 rfl (nar01 h01) ⟨rfl, v, rfl, hv⟩ (by decide) (by decide)
    | succ k ih =>
      intro i v hi h01 hv
      have c3 := hV.c (s := i) (by omega)
      have cm := (hg.2 i (by omega)).2.1
      refine j_iload_n d_M_settled_4 rfl ?_
      refine j_bipush (v := 8) d_M_settled_5 (by decide) ?_
      refine j_icmp_ge (tgt := 36) d_M_settled_7 (by decide) (fun h7 => False.elim (nI_ge (b := 8) (by omega) (by decide) h7)) (fun h7 => ?_)
      refine j_iload_n d_M_settled_10 rfl ?_
      refine j_if_eq (tgt := 28) d_M_settled_11 (by decide) (fun h11 => ?_) (fun h11 => ?_)
      · have hb : (0 : Int32) ≠ 0 ↔ ∀ s, s < i + 1 → G.2.2.1 s < 2 := ⟨fun q => absurd rfl q, fun q => absurd h11 (hv.mpr (fun s hs => q s (by omega)))⟩
        refine j_iconst (v := 0) d_M_settled_28 (by decide) ?_
        refine j_istore_n d_M_settled_29 (by decide) ?_
        refine j_iinc (nI (i + 1)) d_M_settled_30 rfl (nI_inc i) (by decide) ?_
        refine j_goto 4 d_M_settled_33 (by decide) ?_
        -- at 4
        exact ih (i + 1) _ (by omega) (by first | exact Or.inl rfl | exact Or.inr rfl) hb
      · have k11 := hv.mp h11
        refine j_aload_n d_M_settled_14 rfl ?_
        refine j_getR d_M_settled_15 h0 f_M_41_M rfl (by decide) q_condition ?_
        refine j_iload_n d_M_settled_18 rfl ?_
        refine j_iald d_M_settled_19 t_condition (aIx.n (by omega) (by decide)) ?_
        refine j_eqi cm ?_
        refine j_iconst (v := 2) d_M_settled_20 (by decide) ?_
        refine j_icmp_ge (tgt := 28) d_M_settled_21 (by decide) (fun h21 => ?_) (fun h21 => ?_)
        · have k21 := i_le (a := 2) (by decide) (by omega) h21
          have hb : (0 : Int32) ≠ 0 ↔ ∀ s, s < i + 1 → G.2.2.1 s < 2 := ⟨fun q => absurd rfl q, fun q => absurd (q i (by omega)) (by omega)⟩
          refine j_iconst (v := 0) d_M_settled_28 (by decide) ?_
          refine j_istore_n d_M_settled_29 (by decide) ?_
          refine j_iinc (nI (i + 1)) d_M_settled_30 rfl (nI_inc i) (by decide) ?_
          refine j_goto 4 d_M_settled_33 (by decide) ?_
          -- at 4
          exact ih (i + 1) _ (by omega) (by first | exact Or.inl rfl | exact Or.inr rfl) hb
        · have k21 := i_nle (a := 2) (by decide) (by omega) h21
          have hb : (1 : Int32) ≠ 0 ↔ ∀ s, s < i + 1 → G.2.2.1 s < 2 := ⟨fun _ s hs => by
            by_cases e : s = i
            · rw [e]; omega
            · exact k11 s (by omega), fun _ => by decide⟩
          refine j_iconst (v := 1) d_M_settled_24 (by decide) ?_
          refine j_goto 29 d_M_settled_25 (by decide) ?_
          refine j_istore_n d_M_settled_29 (by decide) ?_
          refine j_iinc (nI (i + 1)) d_M_settled_30 rfl (nI_inc i) (by decide) ?_
          refine j_goto 4 d_M_settled_33 (by decide) ?_
          -- at 4
          exact ih (i + 1) _ (by omega) (by first | exact Or.inl rfl | exact Or.inr rfl) hb
  refine j_iconst (v := 1) d_M_settled_0 (by decide) ?_
  refine j_istore_n d_M_settled_1 (by decide) ?_
  refine j_iconst (v := 0) d_M_settled_2 (by decide) ?_
  refine j_istore_n d_M_settled_3 (by decide) ?_
  -- at 4
  exact loop 8 0 1 (by decide) (Or.inr rfl) ⟨fun _ s h => absurd h (Nat.not_lt_zero s), fun _ => by decide⟩
set_option maxRecDepth 20000 in
set_option maxHeartbeats 1000000 in
theorem q_configure_0 (M : aM) (g p : Nat) (G : aGp) (E : Nat → Nat) (hm : mSh M) (hG : mGp M G) (hV : gpV g G) (hE : lgE M p E) (hg : 1 ≤ g) (hg3 : g ≤ 3) (he2 : E 2 < 16) (hno : ¬ (gSet G ∧ E 2 = G.1 + 1)) : aK m_M_configure 1 0 0 M [.ref 332, .int (nI g), .int (nI p)] (fun M1 r => r = none ∧ M1 = M) := by
  refine aK.of (by decide) (Nat.le_of_ble_eq_true rfl) ?_
  have hmm := hm
  obtain ⟨h0, q_off, t_off, q_leads, t_leads, q_term, t_term, q_length, t_length, q_known, t_known, q_logs, t_logs, q_entry, t_entry, q_members, t_members, q_owners, t_owners, q_owner, t_owner, q_condition, t_condition, q_held, t_held⟩ := hm
  refine j_aload_n d_M_configure_0 rfl ?_
  refine j_callV (vs := []) d_M_configure_1 h0 (by decide) rfl w750 w752 w7 w753 ws_M_settled y_M_settled (by decide) (by decide) (q_settled M g G hmm hG hV) rfl (Nat.le_of_ble_eq_true rfl) (by decide) (by decide) (fun M1 r1 hq1 => ?_)
  obtain ⟨rfl, v, rfl, hv⟩ := hq1
  refine j_if_eq (tgt := 24) d_M_configure_4 (by decide) (fun h4 => ?_) (fun h4 => ?_)
  · refine j_return d_M_configure_24 rfl ⟨rfl, rfl⟩ (by decide) (by decide)
  · refine j_aload_n d_M_configure_7 rfl ?_
    refine j_getR d_M_configure_8 h0 f_M_26_M rfl (by decide) q_logs ?_
    refine j_iload_n d_M_configure_11 rfl ?_
    refine j_iconst (v := 2) d_M_configure_12 (by decide) ?_
    refine j_iadd d_M_configure_13 ?_
    refine j_eqi (nI_add p 2) ?_
    refine j_iald d_M_configure_14 t_logs (aIx.n (by have := hE.1; omega) (by decide)) ?_
    refine j_eqi (hE.2 2 (by decide)) ?_
    refine j_aload_n d_M_configure_15 rfl ?_
    refine j_geti d_M_configure_16 h0 f_M_99_M rfl (by decide) ?_
    refine j_iconst (v := 1) d_M_configure_19 (by decide) ?_
    refine j_iadd d_M_configure_20 ?_
    refine j_eqi (show mI M1 332 10 + 1 = nI (G.1 + 1) by rw [hG.1]; exact (nI_succ _).symm) ?_
    refine j_icmp_eq (tgt := 25) d_M_configure_21 (by decide) (fun h21 => False.elim (hno ⟨hv.mp h4, i_eq (by omega) (by have := hV.1; omega) h21⟩)) (fun h21 => ?_)
    refine j_return d_M_configure_24 rfl ⟨rfl, rfl⟩ (by decide) (by decide)
set_option maxRecDepth 20000 in
set_option maxHeartbeats 1000000 in
theorem q_configure (M : aM) (g p : Nat) (G : aGp) (E : Nat → Nat) (hm : mSh M) (hG : mGp M G) (hV : gpV g G) (hE : lgE M p E) (hg : 1 ≤ g) (hg3 : g ≤ 3) (he2 : E 2 < 16) (ho : ∀ s, s < 8 → E (7 + s) ≤ 3) (hyes : gSet G ∧ E 2 = G.1 + 1) : aK m_M_configure 1 0 0 M [.ref 332, .int (nI g), .int (nI p)] (fun M1 r => r = none ∧ mGp M1 (gpCf g G E) ∧ oI M M1 gcl) := by
  refine aK.of (by decide) (Nat.le_of_ble_eq_true rfl) ?_
  have g16 := hV.1
  have loop : ∀ (k s : Nat) (M1 : aM) (z4 z5 z6 : Option Value), s + k = 8 → oI M M1 gcl → mI M1 332 10 = nI (G.1 + 1) → (∀ j, j < s → mI M1 342 j = nI (E (7 + j)) ∧ mI M1 343 j = nI (hC g (G.2.1 j) (E (7 + j)) (G.2.2.1 j)) ∧ ((hC g (G.2.1 j) (E (7 + j)) (G.2.2.1 j)) ≠ 0 → ∀ i, i < 8 → mI M1 344 (8 * j + i) = nI ((if E (7 + j) = g ∧ G.2.1 j ≠ g then (fun _ => 0) else G.2.2.2 j : Nat → Nat) i))) → (∀ j, s ≤ j → j < 8 → mI M1 342 j = nI (G.2.1 j) ∧ mI M1 343 j = nI (G.2.2.1 j) ∧ ∀ i, i < 8 → mI M1 344 (8 * j + i) = mI M 344 (8 * j + i)) → aJ aX0 m_M_configure 1 0 0 (fun M1 r => r = none ∧ mGp M1 (gpCf g G E) ∧ oI M M1 gcl) 0 0 37 [some (.ref 332), some (.int (nI g)), some (.int (nI p)), some (.int (nI s)), z4, z5, z6] [] M1 := by
    intro k
    induction k with
    | zero =>
      intro s M1 z4 z5 z6 hs o h10 hlo hhi
      have e8 : s = 8 := by omega
      subst e8
      obtain ⟨h0, q_off, t_off, q_leads, t_leads, q_term, t_term, q_length, t_length, q_known, t_known, q_logs, t_logs, q_entry, t_entry, q_members, t_members, q_owners, t_owners, q_owner, t_owner, q_condition, t_condition, q_held, t_held⟩ := o.mSh hm
      refine j_iload_n d_M_configure_37 rfl ?_
      refine j_bipush (v := 8) d_M_configure_38 (by decide) ?_
      refine j_icmp_ge (tgt := 154) d_M_configure_40 (by decide) (fun h40 => ?_) (fun h40 => False.elim (h40 (nI_le (by decide) (by decide))))
      refine j_return d_M_configure_154 rfl ?_ (by decide) (by decide)
      refine ⟨rfl, ⟨h10, fun j hj => ?_⟩, o⟩
      obtain ⟨x1, x2, x3⟩ := hlo j hj
      refine ⟨x1.trans (congrArg nI (if_pos hj).symm), x2.trans (congrArg nI (if_pos hj).symm), fun q i hi => ?_⟩
      have q1 : (hC g (G.2.1 j) (E (7 + j)) (G.2.2.1 j)) ≠ 0 := fun z => q ((if_pos hj).trans z)
      rw [x3 q1 i hi]
      show _ = nI ((if j < 8 ∧ E (7 + j) = g ∧ G.2.1 j ≠ g then fun _ => 0 else G.2.2.2 j) i)
      by_cases z : E (7 + j) = g ∧ G.2.1 j ≠ g
      · rw [if_pos z, if_pos ⟨hj, z⟩]
      · rw [if_neg z, if_neg (fun y => z y.2)]
    | succ k ih =>
      intro s M1 z4 z5 z6 hs o h10 hlo hhi
      have s8 : s < 8 := by omega
      obtain ⟨w1, w2, w3⟩ := hhi s (Nat.le_refl _) s8
      obtain ⟨v1, v2, v3, v4⟩ := hV.2 s s8
      have hEs := ho s s8
      have hcs := hyes.1 s s8
      have hp := hE.1
      have hw0 := (hG.2 s s8)
      have lE : mI M1 338 (p + 7 + s) = nI (E (7 + s)) := by rw [Nat.add_assoc, o.2.2 338 (by unfold gcl; omega)]; exact hE.2 (7 + s) (by omega)
      have at148 : ∀ (M2 : aM) (z4 z5 z6 : Option Value), oI M1 M2 gcl → mI M2 332 10 = mI M1 332 10 → (∀ j, mI M2 342 j = if j = s then nI (E (7 + s)) else mI M1 342 j) → (∀ j, mI M2 343 j = if j = s then nI (hC g (G.2.1 s) (E (7 + s)) (G.2.2.1 s)) else mI M1 343 j) → (∀ x, ¬ (8 * s ≤ x ∧ x < 8 * s + 8) → mI M2 344 x = mI M1 344 x) → ((hC g (G.2.1 s) (E (7 + s)) (G.2.2.1 s)) ≠ 0 → ∀ i, i < 8 → mI M2 344 (8 * s + i) = nI ((if E (7 + s) = g ∧ G.2.1 s ≠ g then (fun _ => 0) else G.2.2.2 s : Nat → Nat) i)) → aJ aX0 m_M_configure 1 0 0 (fun M1 r => r = none ∧ mGp M1 (gpCf g G E) ∧ oI M M1 gcl) 0 0 148 [some (.ref 332), some (.int (nI g)), some (.int (nI p)), some (.int (nI s)), z4, z5, z6] [] M2 := by
        intro M2 z4 z5 z6 o2 e10 e342 e343 e344 eh
        refine j_iinc (nI (s + 1)) d_M_configure_148 rfl (nI_inc s) (by decide) ?_
        refine j_goto 37 d_M_configure_151 (by decide) ?_
        -- at 37
        refine ih (s + 1) M2 z4 z5 z6 (by omega) (o.tr o2) (e10.trans h10) (fun j hj => ?_) (fun j hj hj8 => ?_)
        · rw [e342, e343]
          by_cases e : j = s
          · subst e; rw [if_pos rfl, if_pos rfl]; exact ⟨rfl, rfl, eh⟩
          · rw [if_neg e, if_neg e]
            obtain ⟨x1, x2, x3⟩ := hlo j (by omega)
            exact ⟨x1, x2, fun q i hi => by rw [e344 _ (by omega)]; exact x3 q i hi⟩
        · rw [e342, e343, if_neg (by omega), if_neg (by omega)]
          obtain ⟨x1, x2, x3⟩ := hhi j (by omega) hj8
          exact ⟨x1, x2, fun i hi => by rw [e344 _ (by omega)]; exact x3 i hi⟩
      have inner : E (7 + s) = g → G.2.1 s ≠ g → ∀ (j i : Nat) (M2 : aM), i + j = 8 → oI M1 M2 gcl → mI M2 332 10 = mI M1 332 10 → (∀ j, mI M2 342 j = if j = s then nI (E (7 + s)) else mI M1 342 j) → (∀ j, mI M2 343 j = if j = s then nI (hC g (G.2.1 s) (E (7 + s)) (G.2.2.1 s)) else mI M1 343 j) → (∀ x, ¬ (8 * s ≤ x ∧ x < 8 * s + i) → mI M2 344 x = mI M1 344 x) → (∀ c, c < i → mI M2 344 (8 * s + c) = 0) → aJ aX0 m_M_configure 1 0 0 (fun M1 r => r = none ∧ mGp M1 (gpCf g G E) ∧ oI M M1 gcl) 0 0 103 [some (.ref 332), some (.int (nI g)), some (.int (nI p)), some (.int (nI s)), some (.int (nI (G.2.1 s))), some (.int (nI (E (7 + s)))), some (.int (nI i))] [] M2 := by
        intro eg wg j
        induction j with
        | zero =>
          intro i M2 hij o2 e10 e342 e343 e344 e0
          have e8 : i = 8 := by omega
          subst e8
          obtain ⟨h0, q_off, t_off, q_leads, t_leads, q_term, t_term, q_length, t_length, q_known, t_known, q_logs, t_logs, q_entry, t_entry, q_members, t_members, q_owners, t_owners, q_owner, t_owner, q_condition, t_condition, q_held, t_held⟩ := (o.tr o2).mSh hm
          refine j_iload d_M_configure_103 rfl ?_
          refine j_bipush (v := 8) d_M_configure_105 (by decide) ?_
          refine j_icmp_ge (tgt := 129) d_M_configure_107 (by decide) (fun h107 => ?_) (fun h107 => False.elim (h107 (nI_le (by decide) (by decide))))
          refine j_iload d_M_configure_129 rfl ?_
          refine j_iload_n d_M_configure_131 rfl ?_
          refine j_icmp_eq (tgt := 148) d_M_configure_132 (by decide) (fun h132 => ?_) (fun h132 => False.elim (h132 (by rw [eg])))
          -- at 148
          exact at148 M2 _ _ _ o2 e10 e342 e343 e344 (fun _ i hi => by rw [if_pos ⟨eg, wg⟩]; exact e0 i hi)
        | succ j ih9 =>
          intro i M2 hij o2 e10 e342 e343 e344 e0
          obtain ⟨h0, q_off, t_off, q_leads, t_leads, q_term, t_term, q_length, t_length, q_known, t_known, q_logs, t_logs, q_entry, t_entry, q_members, t_members, q_owners, t_owners, q_owner, t_owner, q_condition, t_condition, q_held, t_held⟩ := (o.tr o2).mSh hm
          refine j_iload d_M_configure_103 rfl ?_
          refine j_bipush (v := 8) d_M_configure_105 (by decide) ?_
          refine j_icmp_ge (tgt := 129) d_M_configure_107 (by decide) (fun h107 => False.elim (nI_ge (b := 8) (by omega) (by decide) h107)) (fun h107 => ?_)
          refine j_aload_n d_M_configure_110 rfl ?_
          refine j_getR d_M_configure_111 h0 f_M_44_M rfl (by decide) q_held ?_
          refine j_bipush (v := 8) d_M_configure_114 (by decide) ?_
          refine j_iload_n d_M_configure_116 rfl ?_
          refine j_imul d_M_configure_117 ?_
          refine j_iload d_M_configure_118 rfl ?_
          refine j_iadd d_M_configure_120 ?_
          refine j_eqi (i8 s i) ?_
          refine j_iconst (v := 0) d_M_configure_121 (by decide) ?_
          refine j_iast d_M_configure_122 t_held (aIx.n (by omega) (by decide)) ?_
          refine j_iinc (nI (i + 1)) d_M_configure_123 rfl (nI_inc i) (by decide) ?_
          refine j_goto 103 d_M_configure_126 (by decide) ?_
          -- at 103
          refine ih9 (i + 1) _ (by omega) (o2.sI (Or.inr (by omega))) ?_ (fun j => ?_) (fun j => ?_) (fun x hx => ?_) (fun c hc => ?_)
          · rw [mm_I_sI, if_neg (by omega)]; exact e10
          · rw [mm_I_sI, if_neg (by omega)]; exact e342 j
          · rw [mm_I_sI, if_neg (by omega)]; exact e343 j
          · rw [mm_I_sI, if_neg (by omega)]; exact e344 x (by omega)
          · rw [mm_I_sI]
            by_cases z : c = i
            · rw [if_pos ⟨rfl, by rw [z]⟩]
            · rw [if_neg (by omega)]; exact e0 c (by omega)
      obtain ⟨h0, q_off, t_off, q_leads, t_leads, q_term, t_term, q_length, t_length, q_known, t_known, q_logs, t_logs, q_entry, t_entry, q_members, t_members, q_owners, t_owners, q_owner, t_owner, q_condition, t_condition, q_held, t_held⟩ := o.mSh hm
      refine j_iload_n d_M_configure_37 rfl ?_
      refine j_bipush (v := 8) d_M_configure_38 (by decide) ?_
      refine j_icmp_ge (tgt := 154) d_M_configure_40 (by decide) (fun h40 => False.elim (nI_ge (b := 8) (by omega) (by decide) h40)) (fun h40 => ?_)
      refine j_aload_n d_M_configure_43 rfl ?_
      refine j_getR d_M_configure_44 h0 f_M_38_M rfl (by decide) q_owner ?_
      refine j_iload_n d_M_configure_47 rfl ?_
      refine j_iald d_M_configure_48 t_owner (aIx.n (by omega) (by decide)) ?_
      refine j_eqi w1 ?_
      refine j_istore d_M_configure_49 (by decide) ?_
      refine j_aload_n d_M_configure_51 rfl ?_
      refine j_getR d_M_configure_52 h0 f_M_26_M rfl (by decide) q_logs ?_
      refine j_iload_n d_M_configure_55 rfl ?_
      refine j_bipush (v := 7) d_M_configure_56 (by decide) ?_
      refine j_iadd d_M_configure_58 ?_
      refine j_eqi (nI_add p 7) ?_
      refine j_iload_n d_M_configure_59 rfl ?_
      refine j_iadd d_M_configure_60 ?_
      refine j_eqi (nI_add (p + 7) s) ?_
      refine j_iald d_M_configure_61 t_logs (aIx.n (by omega) (by decide)) ?_
      refine j_eqi lE ?_
      refine j_istore d_M_configure_62 (by decide) ?_
      refine j_aload_n d_M_configure_64 rfl ?_
      refine j_getR d_M_configure_65 h0 f_M_38_M rfl (by decide) q_owner ?_
      refine j_iload_n d_M_configure_68 rfl ?_
      refine j_iload d_M_configure_69 rfl ?_
      refine j_iast d_M_configure_71 t_owner (aIx.n (by omega) (by decide)) ?_
      refine j_iload d_M_configure_72 rfl ?_
      refine j_iload_n d_M_configure_74 rfl ?_
      refine j_icmp_ne (tgt := 129) d_M_configure_75 (by decide) (fun h75 => ?_) (fun h75 => ?_)
      · have k75 := i_ne (by omega) (by omega) h75
        have hnz : ¬ (E (7 + s) = g ∧ G.2.1 s ≠ g) := fun q => k75 q.1
        refine j_iload d_M_configure_129 rfl ?_
        refine j_iload_n d_M_configure_131 rfl ?_
        refine j_icmp_eq (tgt := 148) d_M_configure_132 (by decide) (fun h132 => ?_) (fun h132 => ?_)
        · have k132 := i_eq (by omega) (by omega) h132
          first
            | exact absurd k132 k75
            | exact absurd k75 k132
            | (refine at148 _ _ _ _ ((oI.rf M1 gcl).sI (Or.inr (by omega))) ?_ (fun j => ?_) (fun j => ?_) (fun x hx => ?_) (fun q i hi => ?_)
               · rw [mm_I_sI, if_neg (by omega)]
               · rw [mm_I_sI]
                 by_cases z : j = s
                 · rw [if_pos ⟨rfl, z⟩, if_pos z]
                 · rw [if_neg (fun y => z y.2), if_neg z]
               · rw [mm_I_sI, if_neg (by omega), hcv]
                 by_cases z : j = s
                 · rw [if_pos z, z]; exact w2
                 · rw [if_neg z]
               · rw [mm_I_sI, if_neg (by omega)]
               · rw [mm_I_sI, if_neg (by omega), w3 i hi, if_neg hnz]
                 exact hw0.2.2 (by rw [hcv] at q; exact q) i hi)
            | (refine at148 _ _ _ _ (((oI.rf M1 gcl).sI (Or.inr (by omega))).sI (Or.inr (by omega))) ?_ (fun j => ?_) (fun j => ?_) (fun x hx => ?_) (fun q i hi => ?_)
               · rw [mm_I_sI, if_neg (by omega), mm_I_sI, if_neg (by omega)]
               · rw [mm_I_sI, if_neg (by omega), mm_I_sI]
                 by_cases z : j = s
                 · rw [if_pos ⟨rfl, z⟩, if_pos z]
                 · rw [if_neg (fun y => z y.2), if_neg z]
               · rw [mm_I_sI, hcv]
                 by_cases z : j = s
                 · rw [if_pos ⟨rfl, z⟩, if_pos z]; rfl
                 · rw [if_neg (fun y => z y.2), if_neg z, mm_I_sI, if_neg (by omega)]
               · rw [mm_I_sI, if_neg (by omega), mm_I_sI, if_neg (by omega)]
               · rw [mm_I_sI, if_neg (by omega), mm_I_sI, if_neg (by omega), w3 i hi, if_neg hnz]
                 exact hw0.2.2 (by have := v2 k138; omega) i hi)
        · have k132 := i_ne (by omega) (by omega) h132
          refine j_iload d_M_configure_135 rfl ?_
          refine j_iload_n d_M_configure_137 rfl ?_
          refine j_icmp_ne (tgt := 148) d_M_configure_138 (by decide) (fun h138 => ?_) (fun h138 => ?_)
          · have k138 := i_ne (by omega) (by omega) h138
            have hcv : (hC g (G.2.1 s) (E (7 + s)) (G.2.2.1 s)) = G.2.2.1 s := by unfold hC; rw [if_neg hnz, if_neg (fun q => k138 q.2)]
            first
              | exact absurd k132 k75
              | exact absurd k75 k132
              | (refine at148 _ _ _ _ ((oI.rf M1 gcl).sI (Or.inr (by omega))) ?_ (fun j => ?_) (fun j => ?_) (fun x hx => ?_) (fun q i hi => ?_)
                 · rw [mm_I_sI, if_neg (by omega)]
                 · rw [mm_I_sI]
                   by_cases z : j = s
                   · rw [if_pos ⟨rfl, z⟩, if_pos z]
                   · rw [if_neg (fun y => z y.2), if_neg z]
                 · rw [mm_I_sI, if_neg (by omega), hcv]
                   by_cases z : j = s
                   · rw [if_pos z, z]; exact w2
                   · rw [if_neg z]
                 · rw [mm_I_sI, if_neg (by omega)]
                 · rw [mm_I_sI, if_neg (by omega), w3 i hi, if_neg hnz]
                   exact hw0.2.2 (by rw [hcv] at q; exact q) i hi)
              | (refine at148 _ _ _ _ (((oI.rf M1 gcl).sI (Or.inr (by omega))).sI (Or.inr (by omega))) ?_ (fun j => ?_) (fun j => ?_) (fun x hx => ?_) (fun q i hi => ?_)
                 · rw [mm_I_sI, if_neg (by omega), mm_I_sI, if_neg (by omega)]
                 · rw [mm_I_sI, if_neg (by omega), mm_I_sI]
                   by_cases z : j = s
                   · rw [if_pos ⟨rfl, z⟩, if_pos z]
                   · rw [if_neg (fun y => z y.2), if_neg z]
                 · rw [mm_I_sI, hcv]
                   by_cases z : j = s
                   · rw [if_pos ⟨rfl, z⟩, if_pos z]; rfl
                   · rw [if_neg (fun y => z y.2), if_neg z, mm_I_sI, if_neg (by omega)]
                 · rw [mm_I_sI, if_neg (by omega), mm_I_sI, if_neg (by omega)]
                 · rw [mm_I_sI, if_neg (by omega), mm_I_sI, if_neg (by omega), w3 i hi, if_neg hnz]
                   exact hw0.2.2 (by have := v2 k138; omega) i hi)
          · have k138 := i_eq (by omega) (by omega) h138
            have hcv : (hC g (G.2.1 s) (E (7 + s)) (G.2.2.1 s)) = 3 := by unfold hC; rw [if_neg hnz, if_pos ⟨k132, k138⟩]
            refine j_aload_n d_M_configure_141 rfl ?_
            refine j_getR d_M_configure_142 h0 f_M_41_M rfl (by decide) q_condition ?_
            refine j_iload_n d_M_configure_145 rfl ?_
            refine j_iconst (v := 3) d_M_configure_146 (by decide) ?_
            refine j_iast d_M_configure_147 t_condition (aIx.n (by omega) (by decide)) ?_
            -- at 148
            first
              | exact absurd k132 k75
              | exact absurd k75 k132
              | (refine at148 _ _ _ _ ((oI.rf M1 gcl).sI (Or.inr (by omega))) ?_ (fun j => ?_) (fun j => ?_) (fun x hx => ?_) (fun q i hi => ?_)
                 · rw [mm_I_sI, if_neg (by omega)]
                 · rw [mm_I_sI]
                   by_cases z : j = s
                   · rw [if_pos ⟨rfl, z⟩, if_pos z]
                   · rw [if_neg (fun y => z y.2), if_neg z]
                 · rw [mm_I_sI, if_neg (by omega), hcv]
                   by_cases z : j = s
                   · rw [if_pos z, z]; exact w2
                   · rw [if_neg z]
                 · rw [mm_I_sI, if_neg (by omega)]
                 · rw [mm_I_sI, if_neg (by omega), w3 i hi, if_neg hnz]
                   exact hw0.2.2 (by rw [hcv] at q; exact q) i hi)
              | (refine at148 _ _ _ _ (((oI.rf M1 gcl).sI (Or.inr (by omega))).sI (Or.inr (by omega))) ?_ (fun j => ?_) (fun j => ?_) (fun x hx => ?_) (fun q i hi => ?_)
                 · rw [mm_I_sI, if_neg (by omega), mm_I_sI, if_neg (by omega)]
                 · rw [mm_I_sI, if_neg (by omega), mm_I_sI]
                   by_cases z : j = s
                   · rw [if_pos ⟨rfl, z⟩, if_pos z]
                   · rw [if_neg (fun y => z y.2), if_neg z]
                 · rw [mm_I_sI, hcv]
                   by_cases z : j = s
                   · rw [if_pos ⟨rfl, z⟩, if_pos z]; rfl
                   · rw [if_neg (fun y => z y.2), if_neg z, mm_I_sI, if_neg (by omega)]
                 · rw [mm_I_sI, if_neg (by omega), mm_I_sI, if_neg (by omega)]
                 · rw [mm_I_sI, if_neg (by omega), mm_I_sI, if_neg (by omega), w3 i hi, if_neg hnz]
                   exact hw0.2.2 (by have := v2 k138; omega) i hi)
      · have k75 := i_eq (by omega) (by omega) h75
        refine j_iload d_M_configure_78 rfl ?_
        refine j_iload_n d_M_configure_80 rfl ?_
        refine j_icmp_eq (tgt := 129) d_M_configure_81 (by decide) (fun h81 => ?_) (fun h81 => ?_)
        · have k81 := i_eq (by omega) (by omega) h81
          have hnz : ¬ (E (7 + s) = g ∧ G.2.1 s ≠ g) := fun q => q.2 k81
          have hc0 : G.2.2.1 s ≠ 0 := by have := v2 k81; omega
          have hcv : (hC g (G.2.1 s) (E (7 + s)) (G.2.2.1 s)) = G.2.2.1 s := by unfold hC; rw [if_neg hnz, if_neg (fun q => q.1 k75)]
          refine j_iload d_M_configure_129 rfl ?_
          refine j_iload_n d_M_configure_131 rfl ?_
          refine j_icmp_eq (tgt := 148) d_M_configure_132 (by decide) (fun h132 => ?_) (fun h132 => ?_)
          · have k132 := i_eq (by omega) (by omega) h132
            first
              | exact absurd k132 k75
              | exact absurd k75 k132
              | (refine at148 _ _ _ _ ((oI.rf M1 gcl).sI (Or.inr (by omega))) ?_ (fun j => ?_) (fun j => ?_) (fun x hx => ?_) (fun q i hi => ?_)
                 · rw [mm_I_sI, if_neg (by omega)]
                 · rw [mm_I_sI]
                   by_cases z : j = s
                   · rw [if_pos ⟨rfl, z⟩, if_pos z]
                   · rw [if_neg (fun y => z y.2), if_neg z]
                 · rw [mm_I_sI, if_neg (by omega), hcv]
                   by_cases z : j = s
                   · rw [if_pos z, z]; exact w2
                   · rw [if_neg z]
                 · rw [mm_I_sI, if_neg (by omega)]
                 · rw [mm_I_sI, if_neg (by omega), w3 i hi, if_neg hnz]
                   exact hw0.2.2 (by rw [hcv] at q; exact q) i hi)
              | (refine at148 _ _ _ _ (((oI.rf M1 gcl).sI (Or.inr (by omega))).sI (Or.inr (by omega))) ?_ (fun j => ?_) (fun j => ?_) (fun x hx => ?_) (fun q i hi => ?_)
                 · rw [mm_I_sI, if_neg (by omega), mm_I_sI, if_neg (by omega)]
                 · rw [mm_I_sI, if_neg (by omega), mm_I_sI]
                   by_cases z : j = s
                   · rw [if_pos ⟨rfl, z⟩, if_pos z]
                   · rw [if_neg (fun y => z y.2), if_neg z]
                 · rw [mm_I_sI, hcv]
                   by_cases z : j = s
                   · rw [if_pos ⟨rfl, z⟩, if_pos z]; rfl
                   · rw [if_neg (fun y => z y.2), if_neg z, mm_I_sI, if_neg (by omega)]
                 · rw [mm_I_sI, if_neg (by omega), mm_I_sI, if_neg (by omega)]
                 · rw [mm_I_sI, if_neg (by omega), mm_I_sI, if_neg (by omega), w3 i hi, if_neg hnz]
                   exact hw0.2.2 (by have := v2 k138; omega) i hi)
          · have k132 := i_ne (by omega) (by omega) h132
            refine j_iload d_M_configure_135 rfl ?_
            refine j_iload_n d_M_configure_137 rfl ?_
            refine j_icmp_ne (tgt := 148) d_M_configure_138 (by decide) (fun h138 => ?_) (fun h138 => ?_)
            · have k138 := i_ne (by omega) (by omega) h138
              have hcv : (hC g (G.2.1 s) (E (7 + s)) (G.2.2.1 s)) = G.2.2.1 s := by unfold hC; rw [if_neg hnz, if_neg (fun q => k138 q.2)]
              first
                | exact absurd k132 k75
                | exact absurd k75 k132
                | (refine at148 _ _ _ _ ((oI.rf M1 gcl).sI (Or.inr (by omega))) ?_ (fun j => ?_) (fun j => ?_) (fun x hx => ?_) (fun q i hi => ?_)
                   · rw [mm_I_sI, if_neg (by omega)]
                   · rw [mm_I_sI]
                     by_cases z : j = s
                     · rw [if_pos ⟨rfl, z⟩, if_pos z]
                     · rw [if_neg (fun y => z y.2), if_neg z]
                   · rw [mm_I_sI, if_neg (by omega), hcv]
                     by_cases z : j = s
                     · rw [if_pos z, z]; exact w2
                     · rw [if_neg z]
                   · rw [mm_I_sI, if_neg (by omega)]
                   · rw [mm_I_sI, if_neg (by omega), w3 i hi, if_neg hnz]
                     exact hw0.2.2 (by rw [hcv] at q; exact q) i hi)
                | (refine at148 _ _ _ _ (((oI.rf M1 gcl).sI (Or.inr (by omega))).sI (Or.inr (by omega))) ?_ (fun j => ?_) (fun j => ?_) (fun x hx => ?_) (fun q i hi => ?_)
                   · rw [mm_I_sI, if_neg (by omega), mm_I_sI, if_neg (by omega)]
                   · rw [mm_I_sI, if_neg (by omega), mm_I_sI]
                     by_cases z : j = s
                     · rw [if_pos ⟨rfl, z⟩, if_pos z]
                     · rw [if_neg (fun y => z y.2), if_neg z]
                   · rw [mm_I_sI, hcv]
                     by_cases z : j = s
                     · rw [if_pos ⟨rfl, z⟩, if_pos z]; rfl
                     · rw [if_neg (fun y => z y.2), if_neg z, mm_I_sI, if_neg (by omega)]
                   · rw [mm_I_sI, if_neg (by omega), mm_I_sI, if_neg (by omega)]
                   · rw [mm_I_sI, if_neg (by omega), mm_I_sI, if_neg (by omega), w3 i hi, if_neg hnz]
                     exact hw0.2.2 (by have := v2 k138; omega) i hi)
            · have k138 := i_eq (by omega) (by omega) h138
              have hcv : (hC g (G.2.1 s) (E (7 + s)) (G.2.2.1 s)) = 3 := by unfold hC; rw [if_neg hnz, if_pos ⟨k132, k138⟩]
              refine j_aload_n d_M_configure_141 rfl ?_
              refine j_getR d_M_configure_142 h0 f_M_41_M rfl (by decide) q_condition ?_
              refine j_iload_n d_M_configure_145 rfl ?_
              refine j_iconst (v := 3) d_M_configure_146 (by decide) ?_
              refine j_iast d_M_configure_147 t_condition (aIx.n (by omega) (by decide)) ?_
              -- at 148
              first
                | exact absurd k132 k75
                | exact absurd k75 k132
                | (refine at148 _ _ _ _ ((oI.rf M1 gcl).sI (Or.inr (by omega))) ?_ (fun j => ?_) (fun j => ?_) (fun x hx => ?_) (fun q i hi => ?_)
                   · rw [mm_I_sI, if_neg (by omega)]
                   · rw [mm_I_sI]
                     by_cases z : j = s
                     · rw [if_pos ⟨rfl, z⟩, if_pos z]
                     · rw [if_neg (fun y => z y.2), if_neg z]
                   · rw [mm_I_sI, if_neg (by omega), hcv]
                     by_cases z : j = s
                     · rw [if_pos z, z]; exact w2
                     · rw [if_neg z]
                   · rw [mm_I_sI, if_neg (by omega)]
                   · rw [mm_I_sI, if_neg (by omega), w3 i hi, if_neg hnz]
                     exact hw0.2.2 (by rw [hcv] at q; exact q) i hi)
                | (refine at148 _ _ _ _ (((oI.rf M1 gcl).sI (Or.inr (by omega))).sI (Or.inr (by omega))) ?_ (fun j => ?_) (fun j => ?_) (fun x hx => ?_) (fun q i hi => ?_)
                   · rw [mm_I_sI, if_neg (by omega), mm_I_sI, if_neg (by omega)]
                   · rw [mm_I_sI, if_neg (by omega), mm_I_sI]
                     by_cases z : j = s
                     · rw [if_pos ⟨rfl, z⟩, if_pos z]
                     · rw [if_neg (fun y => z y.2), if_neg z]
                   · rw [mm_I_sI, hcv]
                     by_cases z : j = s
                     · rw [if_pos ⟨rfl, z⟩, if_pos z]; rfl
                     · rw [if_neg (fun y => z y.2), if_neg z, mm_I_sI, if_neg (by omega)]
                   · rw [mm_I_sI, if_neg (by omega), mm_I_sI, if_neg (by omega)]
                   · rw [mm_I_sI, if_neg (by omega), mm_I_sI, if_neg (by omega), w3 i hi, if_neg hnz]
                     exact hw0.2.2 (by have := v2 k138; omega) i hi)
        · have k81 := i_ne (by omega) (by omega) h81
          refine j_aload_n d_M_configure_84 rfl ?_
          refine j_getR d_M_configure_85 h0 f_M_41_M rfl (by decide) q_condition ?_
          refine j_iload_n d_M_configure_88 rfl ?_
          refine j_iload d_M_configure_89 rfl ?_
          refine j_if_ne (tgt := 98) d_M_configure_91 (by decide) (fun h91 => ?_) (fun h91 => ?_)
          · have k91 := i_ne (b := 0) (by omega) (by decide) h91
            refine j_iconst (v := 2) d_M_configure_98 (by decide) ?_
            refine j_iast d_M_configure_99 t_condition (aIx.n (by omega) (by decide)) ?_
            refine j_iconst (v := 0) d_M_configure_100 (by decide) ?_
            refine j_istore d_M_configure_101 (by decide) ?_
            -- at 103
            first
              | (have hcv : (hC g (G.2.1 s) (E (7 + s)) (G.2.2.1 s)) = 1 := by unfold hC; rw [if_pos ⟨k75, k81⟩, if_pos k91]
                 refine inner k75 k81 8 0 _ (by decide) (((oI.rf M1 gcl).sI (Or.inr (by omega))).sI (Or.inr (by omega))) ?_ (fun j => ?_) (fun j => ?_) (fun x hx => ?_) (fun c hc => absurd hc (Nat.not_lt_zero c))
                 · rw [mm_I_sI, if_neg (by omega), mm_I_sI, if_neg (by omega)]
                 · rw [mm_I_sI, if_neg (by omega), mm_I_sI]
                   by_cases z : j = s
                   · rw [if_pos ⟨rfl, z⟩, if_pos z]
                   · rw [if_neg (fun y => z y.2), if_neg z]
                 · rw [mm_I_sI, hcv]
                   by_cases z : j = s
                   · rw [if_pos ⟨rfl, z⟩, if_pos z]; rfl
                   · rw [if_neg (fun y => z y.2), if_neg z, mm_I_sI, if_neg (by omega)]
                 · rw [mm_I_sI, if_neg (by omega), mm_I_sI, if_neg (by omega)])
              | (have hcv : (hC g (G.2.1 s) (E (7 + s)) (G.2.2.1 s)) = 2 := by unfold hC; rw [if_pos ⟨k75, k81⟩, if_neg k91]
                 refine inner k75 k81 8 0 _ (by decide) (((oI.rf M1 gcl).sI (Or.inr (by omega))).sI (Or.inr (by omega))) ?_ (fun j => ?_) (fun j => ?_) (fun x hx => ?_) (fun c hc => absurd hc (Nat.not_lt_zero c))
                 · rw [mm_I_sI, if_neg (by omega), mm_I_sI, if_neg (by omega)]
                 · rw [mm_I_sI, if_neg (by omega), mm_I_sI]
                   by_cases z : j = s
                   · rw [if_pos ⟨rfl, z⟩, if_pos z]
                   · rw [if_neg (fun y => z y.2), if_neg z]
                 · rw [mm_I_sI, hcv]
                   by_cases z : j = s
                   · rw [if_pos ⟨rfl, z⟩, if_pos z]; rfl
                   · rw [if_neg (fun y => z y.2), if_neg z, mm_I_sI, if_neg (by omega)]
                 · rw [mm_I_sI, if_neg (by omega), mm_I_sI, if_neg (by omega)])
          · have k91 := i_eq (b := 0) (by omega) (by decide) h91
            refine j_iconst (v := 1) d_M_configure_94 (by decide) ?_
            refine j_goto 99 d_M_configure_95 (by decide) ?_
            refine j_iast d_M_configure_99 t_condition (aIx.n (by omega) (by decide)) ?_
            refine j_iconst (v := 0) d_M_configure_100 (by decide) ?_
            refine j_istore d_M_configure_101 (by decide) ?_
            -- at 103
            first
              | (have hcv : (hC g (G.2.1 s) (E (7 + s)) (G.2.2.1 s)) = 1 := by unfold hC; rw [if_pos ⟨k75, k81⟩, if_pos k91]
                 refine inner k75 k81 8 0 _ (by decide) (((oI.rf M1 gcl).sI (Or.inr (by omega))).sI (Or.inr (by omega))) ?_ (fun j => ?_) (fun j => ?_) (fun x hx => ?_) (fun c hc => absurd hc (Nat.not_lt_zero c))
                 · rw [mm_I_sI, if_neg (by omega), mm_I_sI, if_neg (by omega)]
                 · rw [mm_I_sI, if_neg (by omega), mm_I_sI]
                   by_cases z : j = s
                   · rw [if_pos ⟨rfl, z⟩, if_pos z]
                   · rw [if_neg (fun y => z y.2), if_neg z]
                 · rw [mm_I_sI, hcv]
                   by_cases z : j = s
                   · rw [if_pos ⟨rfl, z⟩, if_pos z]; rfl
                   · rw [if_neg (fun y => z y.2), if_neg z, mm_I_sI, if_neg (by omega)]
                 · rw [mm_I_sI, if_neg (by omega), mm_I_sI, if_neg (by omega)])
              | (have hcv : (hC g (G.2.1 s) (E (7 + s)) (G.2.2.1 s)) = 2 := by unfold hC; rw [if_pos ⟨k75, k81⟩, if_neg k91]
                 refine inner k75 k81 8 0 _ (by decide) (((oI.rf M1 gcl).sI (Or.inr (by omega))).sI (Or.inr (by omega))) ?_ (fun j => ?_) (fun j => ?_) (fun x hx => ?_) (fun c hc => absurd hc (Nat.not_lt_zero c))
                 · rw [mm_I_sI, if_neg (by omega), mm_I_sI, if_neg (by omega)]
                 · rw [mm_I_sI, if_neg (by omega), mm_I_sI]
                   by_cases z : j = s
                   · rw [if_pos ⟨rfl, z⟩, if_pos z]
                   · rw [if_neg (fun y => z y.2), if_neg z]
                 · rw [mm_I_sI, hcv]
                   by_cases z : j = s
                   · rw [if_pos ⟨rfl, z⟩, if_pos z]; rfl
                   · rw [if_neg (fun y => z y.2), if_neg z, mm_I_sI, if_neg (by omega)]
                 · rw [mm_I_sI, if_neg (by omega), mm_I_sI, if_neg (by omega)])
  have hmm := hm
  obtain ⟨h0, q_off, t_off, q_leads, t_leads, q_term, t_term, q_length, t_length, q_known, t_known, q_logs, t_logs, q_entry, t_entry, q_members, t_members, q_owners, t_owners, q_owner, t_owner, q_condition, t_condition, q_held, t_held⟩ := hm
  refine j_aload_n d_M_configure_0 rfl ?_
  refine j_callV (vs := []) d_M_configure_1 h0 (by decide) rfl w750 w752 w7 w753 ws_M_settled y_M_settled (by decide) (by decide) (q_settled M g G hmm hG hV) rfl (Nat.le_of_ble_eq_true rfl) (by decide) (by decide) (fun M1 r1 hq1 => ?_)
  obtain ⟨rfl, v, rfl, hv⟩ := hq1
  refine j_if_eq (tgt := 24) d_M_configure_4 (by decide) (fun h4 => False.elim (hv.mpr hyes.1 h4)) (fun h4 => ?_)
  refine j_aload_n d_M_configure_7 rfl ?_
  refine j_getR d_M_configure_8 h0 f_M_26_M rfl (by decide) q_logs ?_
  refine j_iload_n d_M_configure_11 rfl ?_
  refine j_iconst (v := 2) d_M_configure_12 (by decide) ?_
  refine j_iadd d_M_configure_13 ?_
  refine j_eqi (nI_add p 2) ?_
  refine j_iald d_M_configure_14 t_logs (aIx.n (by have := hE.1; omega) (by decide)) ?_
  refine j_eqi (hE.2 2 (by decide)) ?_
  refine j_aload_n d_M_configure_15 rfl ?_
  refine j_geti d_M_configure_16 h0 f_M_99_M rfl (by decide) ?_
  refine j_iconst (v := 1) d_M_configure_19 (by decide) ?_
  refine j_iadd d_M_configure_20 ?_
  refine j_eqi (show mI M1 332 10 + 1 = nI (G.1 + 1) by rw [hG.1]; exact (nI_succ _).symm) ?_
  refine j_icmp_eq (tgt := 25) d_M_configure_21 (by decide) (fun h21 => ?_) (fun h21 => False.elim (h21 (by rw [hyes.2])))
  refine j_aload_n d_M_configure_25 rfl ?_
  refine j_dup d_M_configure_26 ?_
  refine j_geti d_M_configure_27 h0 f_M_99_M rfl (by decide) ?_
  refine j_eqi hG.1 ?_
  refine j_iconst (v := 1) d_M_configure_30 (by decide) ?_
  refine j_iadd d_M_configure_31 ?_
  refine j_eqi (nI_succ _).symm ?_
  refine j_puti d_M_configure_32 h0 p_M_99_M rfl (by decide) rfl rfl ?_
  refine j_iconst (v := 0) d_M_configure_35 (by decide) ?_
  refine j_istore_n d_M_configure_36 (by decide) ?_
  -- at 37
  refine loop 8 0 _ _ _ _ (by decide) ((oI.rf M1 gcl).sI (Or.inl rfl)) ?_ (fun j hj => absurd hj (Nat.not_lt_zero j)) (fun j _ hj => ?_)
  · rw [mm_I_sI, if_pos ⟨rfl, rfl⟩]
  · rw [mm_I_sI, if_neg (by omega), mm_I_sI, if_neg (by omega)]
    exact ⟨(hG.2 j hj).1, (hG.2 j hj).2.1, fun i hi => by rw [mm_I_sI, if_neg (by omega)]⟩
