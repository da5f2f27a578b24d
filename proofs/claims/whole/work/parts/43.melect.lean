theorem g3 {n : Nat} (hn : n < 12) : nI n / 3 * 3 = nI (3 * (n / 3)) := by
  rw [show nI n / 3 = nI (n / 3) from pk_div (d := 3) (by omega) (by decide) (by decide), show nI (n / 3) * 3 = nI (n / 3 * 3) from pk_mul _ _]
  congr 1
  omega
theorem g3a {n : Nat} (hn : n < 12) : nI n / 3 * 3 + 3 = nI (3 * (n / 3) + 3) := by
  rw [g3 hn]
  exact nI_add _ 3
theorem g3d {n : Nat} (hn : n < 12) : nI n / 3 = nI (n / 3) := pk_div (d := 3) (by omega) (by decide) (by decide)
theorem bI_z {b : Bool} (h : bI b = 0) : b = false := by cases b; rfl; exact absurd h (by decide)
theorem bI_n0 {b : Bool} (h : ¬ bI b = 0) : b = true := by cases b; exact absurd rfl h; rfl

set_option maxRecDepth 20000 in
set_option maxHeartbeats 1000000 in
theorem q_copies (M : aM) (S : aS) (n k : Nat) (h : mRep M S) (hb : lgB S) (hn : n < 12) (hk : k < sLn S n) : aK m_M_copies 2 0 0 M [.ref 332, .int (nI n), .int (nI k)] (fun M1 r => M1 = M ∧ r = some (.int (nI (cpC S n k (sTm S n k) 3)))) := by
  refine aK.of (by decide) (Nat.le_of_ble_eq_true rfl) ?_
  have hm := h.1
  have l80 := (hb n hn).1
  have tn := (hb n hn).2 k hk
  obtain ⟨h0, q_off, t_off, q_leads, t_leads, q_term, t_term, q_length, t_length, q_known, t_known, q_logs, t_logs, q_entry, t_entry, q_members, t_members, q_owners, t_owners, q_owner, t_owner, q_condition, t_condition, q_held, t_held⟩ := hm
  have loop : ∀ (j i : Nat), i + j = 3 → aJ aX0 m_M_copies 2 0 0 (fun M1 r => M1 = M ∧ r = some (.int (nI (cpC S n k (sTm S n k) 3)))) 0 0 9 [some (.ref 332), some (.int (nI n)), some (.int (nI k)), some (.int (nI (cpC S n k (sTm S n k) i))), some (.int (nI (3 * (n / 3) + i)))] [] M := by
    intro j
    induction j with
    | zero =>
      intro i hi
      have e3 : i = 3 := by omega
      subst e3
      refine j_iload d_M_copies_9 rfl ?_
      refine j_iload_n d_M_copies_11 rfl ?_
      refine j_iconst (v := 3) d_M_copies_12 (by decide) ?_
      refine j_idiv d_M_copies_13 (by decide) ?_
      refine j_iconst (v := 3) d_M_copies_14 (by decide) ?_
      refine j_imul d_M_copies_15 ?_
      refine j_iconst (v := 3) d_M_copies_16 (by decide) ?_
      refine j_iadd d_M_copies_17 ?_
      refine j_eqi (g3a hn) ?_
      refine j_icmp_ge (tgt := 62) d_M_copies_18 (by decide) (fun h18 => ?_) (fun h18 => False.elim (h18 (nI_le (by omega) (by omega))))
      refine j_iload_n d_M_copies_62 rfl ?_
      refine j_ireturn d_M_copies_63 rfl rfl ⟨rfl, rfl⟩ (by decide) (by decide)
    | succ j ih =>
      intro i hi
      have hm9 : 3 * (n / 3) + i < 12 := by omega
      have lm := (hb _ hm9).1
      obtain ⟨r1, r2, r3, r4, r5, r6⟩ := h.2 _ hm9
      refine j_iload d_M_copies_9 rfl ?_
      refine j_iload_n d_M_copies_11 rfl ?_
      refine j_iconst (v := 3) d_M_copies_12 (by decide) ?_
      refine j_idiv d_M_copies_13 (by decide) ?_
      refine j_iconst (v := 3) d_M_copies_14 (by decide) ?_
      refine j_imul d_M_copies_15 ?_
      refine j_iconst (v := 3) d_M_copies_16 (by decide) ?_
      refine j_iadd d_M_copies_17 ?_
      refine j_eqi (g3a hn) ?_
      refine j_icmp_ge (tgt := 62) d_M_copies_18 (by decide) (fun h18 => False.elim (nI_ge (a := 3 * (n / 3) + i) (b := 3 * (n / 3) + 3) (by omega) (by omega) h18)) (fun h18 => ?_)
      refine j_iload_n d_M_copies_21 rfl ?_
      refine j_iload_n d_M_copies_22 rfl ?_
      refine j_aload_n d_M_copies_23 rfl ?_
      refine j_getR d_M_copies_24 h0 f_M_20_M rfl (by decide) q_length ?_
      refine j_iload d_M_copies_27 rfl ?_
      refine j_iald d_M_copies_29 t_length (aIx.n hm9 (by decide)) ?_
      refine j_eqi r4 ?_
      refine j_icmp_ge (tgt := 53) d_M_copies_30 (by decide) (fun h30 => ?_) (fun h30 => ?_)
      · have k30 := i_le (by omega) (by omega) h30
        have hC : nI (cpC S n k (sTm S n k) i) + 0 = nI (cpC S n k (sTm S n k) (i + 1)) := by rw [show cpC S n k (sTm S n k) (i + 1) = cpC S n k (sTm S n k) i from (congrArg (fun z => cpC S n k (sTm S n k) i + z) (if_neg (fun q => by omega))).trans (Nat.add_zero _), Int32.add_zero]
        refine j_iconst (v := 0) d_M_copies_53 (by decide) ?_
        refine j_iadd d_M_copies_54 ?_
        refine j_eqi hC ?_
        refine j_istore_n d_M_copies_55 (by decide) ?_
        refine j_iinc (nI (3 * (n / 3) + (i + 1))) d_M_copies_56 rfl (nI_inc _) (by decide) ?_
        refine j_goto 9 d_M_copies_59 (by decide) ?_
        -- at 9
        exact ih (i + 1) (by omega)
      · have k30 := i_nle (by omega) (by omega) h30
        have tm := (hb _ hm9).2 k k30
        refine j_aload_n d_M_copies_33 rfl ?_
        refine j_iload d_M_copies_34 rfl ?_
        refine j_iload_n d_M_copies_36 rfl ?_
        refine j_callV (vs := [_, _]) d_M_copies_37 h0 (by decide) rfl w695 w697 w7 w698 ws_M_termAt y_M_termAt (by decide) (by decide) (q_termAt M S (3 * (n / 3) + i) k h hm9 (by omega) k30) rfl (Nat.le_of_ble_eq_true rfl) (by decide) (by decide) (fun M1 r1 hq1 => ?_)
        obtain ⟨rfl, rfl⟩ := hq1
        refine j_aload_n d_M_copies_40 rfl ?_
        refine j_iload_n d_M_copies_41 rfl ?_
        refine j_iload_n d_M_copies_42 rfl ?_
        refine j_callV (vs := [_, _]) d_M_copies_43 h0 (by decide) rfl w695 w697 w7 w698 ws_M_termAt y_M_termAt (by decide) (by decide) (q_termAt M1 S n k h hn (by omega) hk) rfl (Nat.le_of_ble_eq_true rfl) (by decide) (by decide) (fun M2 r2_ hq2 => ?_)
        obtain ⟨rfl, rfl⟩ := hq2
        refine j_icmp_ne (tgt := 53) d_M_copies_46 (by decide) (fun h46 => ?_) (fun h46 => ?_)
        · have hC : nI (cpC S n k (sTm S n k) i) + 0 = nI (cpC S n k (sTm S n k) (i + 1)) := by rw [show cpC S n k (sTm S n k) (i + 1) = cpC S n k (sTm S n k) i from (congrArg (fun z => cpC S n k (sTm S n k) i + z) (if_neg (fun q => h46 (by rw [q.2])))).trans (Nat.add_zero _), Int32.add_zero]
          refine j_iconst (v := 0) d_M_copies_53 (by decide) ?_
          refine j_iadd d_M_copies_54 ?_
          refine j_eqi hC ?_
          refine j_istore_n d_M_copies_55 (by decide) ?_
          refine j_iinc (nI (3 * (n / 3) + (i + 1))) d_M_copies_56 rfl (nI_inc _) (by decide) ?_
          refine j_goto 9 d_M_copies_59 (by decide) ?_
          -- at 9
          exact ih (i + 1) (by omega)
        · have hC : nI (cpC S n k (sTm S n k) i) + 1 = nI (cpC S n k (sTm S n k) (i + 1)) := by rw [show cpC S n k (sTm S n k) (i + 1) = cpC S n k (sTm S n k) i + 1 from congrArg (fun z => cpC S n k (sTm S n k) i + z) (if_pos ⟨k30, i_eq (show sLg S (3 * (n / 3) + i) k 0 < 2 ^ 31 by omega) (show sLg S n k 0 < 2 ^ 31 by omega) h46⟩), nI_succ]
          refine j_iconst (v := 1) d_M_copies_49 (by decide) ?_
          refine j_goto 54 d_M_copies_50 (by decide) ?_
          refine j_iadd d_M_copies_54 ?_
          refine j_eqi hC ?_
          refine j_istore_n d_M_copies_55 (by decide) ?_
          refine j_iinc (nI (3 * (n / 3) + (i + 1))) d_M_copies_56 rfl (nI_inc _) (by decide) ?_
          refine j_goto 9 d_M_copies_59 (by decide) ?_
          -- at 9
          exact ih (i + 1) (by omega)
  refine j_iconst (v := 0) d_M_copies_0 (by decide) ?_
  refine j_istore_n d_M_copies_1 (by decide) ?_
  refine j_iload_n d_M_copies_2 rfl ?_
  refine j_iconst (v := 3) d_M_copies_3 (by decide) ?_
  refine j_idiv d_M_copies_4 (by decide) ?_
  refine j_iconst (v := 3) d_M_copies_5 (by decide) ?_
  refine j_imul d_M_copies_6 ?_
  refine j_eqi (g3 hn) ?_
  refine j_istore d_M_copies_7 (by decide) ?_
  -- at 9
  exact loop 3 0 (by decide)
set_option maxRecDepth 20000 in
set_option maxHeartbeats 1000000 in
theorem q_elect (M : aM) (S : aS) (t n : Nat) (h : mRep M S) (hi : sInv S t) (ht : t < 300000) (hn : n < 12) (hu : sUp S n = true) : aK m_M_elect 3 0 0 M [.ref 332, .int (nI n)] (mQ M (oElect S (nI n))) := by
  refine aK.of (by decide) (Nat.le_of_ble_eq_true rfl) ?_
  have hm := h.1
  have hb := hi.lgB
  have hT : ∀ m, m < 12 → sT S m < 999990 := fun m hm => by have := (hi.1 m hm).2.2.1; omega
  have hTn := hT n hn
  obtain ⟨r1, r2, r3, r4, r5, r6⟩ := h.2 n hn
  have el := elT_lt (n := n) hTn
  have eg : sT S n < (elT n (sT S n)) := by unfold elT; omega
  have gl : ∀ (k i : Nat) (M1 : aM) (z : Option Value), i + k = 3 → mRep M1 (gS S n (elT n (sT S n)) i) → fY M M1 → aJ aX0 m_M_elect 3 0 0 (mQ M (oElect S (nI n))) 0 0 53 [some (.ref 332), some (.int (nI n)), some (.int (nI (elT n (sT S n)))), some (.int (nI (gC S n (elT n (sT S n)) i))), some (.int (nI (3 * (n / 3) + i))), z] [] M1 := by
    intro k
    induction k with
    | zero =>
      intro i M1 z hi9 h1 f1
      have e3 : i = 3 := by omega
      subst e3
      have gle := gC_le S n (elT n (sT S n)) 3
      obtain ⟨h0, q_off, t_off, q_leads, t_leads, q_term, t_term, q_length, t_length, q_known, t_known, q_logs, t_logs, q_entry, t_entry, q_members, t_members, q_owners, t_owners, q_owner, t_owner, q_condition, t_condition, q_held, t_held⟩ := h1.1
      refine j_iload d_M_elect_53 rfl ?_
      refine j_iload_n d_M_elect_55 rfl ?_
      refine j_iconst (v := 3) d_M_elect_56 (by decide) ?_
      refine j_idiv d_M_elect_57 (by decide) ?_
      refine j_iconst (v := 3) d_M_elect_58 (by decide) ?_
      refine j_imul d_M_elect_59 ?_
      refine j_iconst (v := 3) d_M_elect_60 (by decide) ?_
      refine j_iadd d_M_elect_61 ?_
      refine j_eqi (g3a hn) ?_
      refine j_icmp_ge (tgt := 158) d_M_elect_62 (by decide) (fun h62 => ?_) (fun h62 => False.elim (h62 (nI_le (by omega) (by omega))))
      refine j_iload_n d_M_elect_158 rfl ?_
      refine j_iconst (v := 2) d_M_elect_159 (by decide) ?_
      refine j_icmp_ge (tgt := 165) d_M_elect_160 (by decide) (fun h160 => ?_) (fun h160 => ?_)
      · have hc : ¬ gC S n (elT n (sT S n)) 3 < 2 := by have := i_le (a := 2) (by decide) (by omega) h160; omega
        refine j_aload_n d_M_elect_165 rfl ?_
        refine j_getR d_M_elect_166 h0 f_M_13_M rfl (by decide) q_leads ?_
        refine j_iload_n d_M_elect_169 rfl ?_
        refine j_iconst (v := 1) d_M_elect_170 (by decide) ?_
        refine j_zast d_M_elect_171 t_leads (aIx.n hn (by decide)) rfl ?_
        have h2 : mRep (sI M1 334 n 1) (eS S n (elT n (sT S n))) := mRep_ld (b := true) h1
        refine j_aload_n d_M_elect_172 rfl ?_
        refine j_iconst (v := 0) d_M_elect_173 (by decide) ?_
        refine j_iconst (v := 0) d_M_elect_174 (by decide) ?_
        refine j_iconst (v := 0) d_M_elect_175 (by decide) ?_
        refine j_iconst (v := 0) d_M_elect_176 (by decide) ?_
        refine j_iconst (v := 0) d_M_elect_177 (by decide) ?_
        refine j_iconst (v := 0) d_M_elect_178 (by decide) ?_
        refine j_callV (vs := [_, _, _, _, _, _]) d_M_elect_179 h0 (by decide) rfl w706 w708 w7 w709 ws_M_say y_M_say (by decide) (by decide) (k_say (sI M1 334 n 1) 0 0 0 0 0 0 h2.1) rfl (Nat.le_of_ble_eq_true rfl) (by decide) (by decide) (fun M3 r3_ hq3 => ?_)
        obtain ⟨rfl, o3, s3⟩ := hq3
        have h3 : mRep M3 (eS S n (elT n (sT S n))) := mRep_o h2 o3 (fun a h1 h2 q => by omega)
        have h03 := h3.1.1
        refine j_aload_n d_M_elect_182 rfl ?_
        refine j_iload_n d_M_elect_183 rfl ?_
        refine j_callV (vs := [_]) d_M_elect_184 h03 (by decide) rfl w710 w712 w7 w713 ws_M_write y_M_write (by decide) (by decide) (q_write M3 (eS S n (elT n (sT S n))) n (eM [(elT n (sT S n)), 0]) h3 hn (fun m hm => (hb m hm).1) (show (elT n (sT S n)) = sT (gS S n (elT n (sT S n)) 3) n from (if_pos ⟨rfl, Nat.mod_lt _ (by decide), hu, eg, fun q => by omega⟩).symm) (fun i h1 h2 => by rw [s3 i h2]; rcases (by omega : i = 1 ∨ i = 2 ∨ i = 3 ∨ i = 4 ∨ i = 5 ∨ i = 6 ∨ i = 7 ∨ i = 8 ∨ i = 9 ∨ i = 10 ∨ i = 11 ∨ i = 12 ∨ i = 13 ∨ i = 14) with rfl | rfl | rfl | rfl | rfl | rfl | rfl | rfl | rfl | rfl | rfl | rfl | rfl | rfl <;> rfl)) rfl (Nat.le_of_ble_eq_true rfl) (by decide) (by decide) (fun M4 r4_ hq4 => ?_)
        obtain ⟨rfl, h4, f4⟩ := hq4
        refine j_pop d_M_elect_187 ?_
        refine j_iload_n d_M_elect_188 rfl ?_
        refine j_ireturn d_M_elect_189 rfl rfl ?_ (by decide) (by decide)
        have eo : oElect S (nI n) = ((oWr (eS S n (elT n (sT S n))) n (eM [(elT n (sT S n)), 0])).1, nI (elT n (sT S n))) := by
          unfold oElect; rw [dN_in hn (by decide)]; simp only []; rw [if_pos hu, if_neg hc]; rfl
        rw [eo]
        exact ⟨rfl, h4, (f1.tr ((fY.rf M1).sI (by omega))).tr ((o3.fY (fun a ha => by unfold mdl; omega)).tr f4)⟩
      · have hc : gC S n (elT n (sT S n)) 3 < 2 := i_nle (a := 2) (by decide) (by omega) h160
        refine j_iconst (v := 0) d_M_elect_163 (by decide) ?_
        refine j_ireturn d_M_elect_164 rfl rfl ?_ (by decide) (by decide)
        have eo : oElect S (nI n) = (gS S n (elT n (sT S n)) 3, 0) := by
          unfold oElect; rw [dN_in hn (by decide)]; simp only []; rw [if_pos hu, if_pos hc]
        rw [eo]
        exact ⟨rfl, h1, f1⟩
    | succ k ih =>
      intro i M1 z hi9 h1 f1
      have hm9 : 3 * (n / 3) + i < 12 := by omega
      obtain ⟨m1, m2, m3, m4, m5, m6⟩ := h1.2 _ hm9
      have m1 : mI M1 333 (3 * (n / 3) + i) = bI (!sUp S (3 * (n / 3) + i)) := m1
      have m3 : mI M1 335 (3 * (n / 3) + i) = nI (sT S (3 * (n / 3) + i)) := by rw [m3]; show nI (if _ then _ else _) = _; rw [if_neg (by omega)]
      have m4 : mI M1 336 (3 * (n / 3) + i) = nI (sLn S (3 * (n / 3) + i)) := m4
      have n4 : mI M1 336 n = nI (sLn S n) := (h1.2 n hn).2.2.2.1
      have lm := (hb _ hm9).1
      have ln9 := (hb n hn).1
      have hTm := hT _ hm9
      have ll : ∀ m, m < 12 → lT (sLn S m) (sTm S m) < 1000000 := by
        intro m hm9
        unfold lT
        split
        · omega
        · exact (hb m hm9).2 _ (by omega)
      have l1 := ll n hn
      have l2 := ll _ hm9
      have kn1 : aK m_M_lastTerm 2 0 0 M1 [.ref 332, .int (nI n)] (fun M2 r => M2 = M1 ∧ r = some (.int (nI (lT (sLn S n) (sTm S n))))) := q_lastTerm M1 (gS S n (elT n (sT S n)) i) n h1 hn (hb n hn).1
      have km1 : aK m_M_lastTerm 2 0 0 M1 [.ref 332, .int (nI (3 * (n / 3) + i))] (fun M2 r => M2 = M1 ∧ r = some (.int (nI (lT (sLn S (3 * (n / 3) + i)) (sTm S (3 * (n / 3) + i)))))) := q_lastTerm M1 (gS S n (elT n (sT S n)) i) _ h1 hm9 (hb _ hm9).1
      have hC : gC S n (elT n (sT S n)) (i + 1) = gC S n (elT n (sT S n)) i + if gr S n (elT n (sT S n)) (3 * (n / 3) + i) then 1 else 0 := rfl
      obtain ⟨h0, q_off, t_off, q_leads, t_leads, q_term, t_term, q_length, t_length, q_known, t_known, q_logs, t_logs, q_entry, t_entry, q_members, t_members, q_owners, t_owners, q_owner, t_owner, q_condition, t_condition, q_held, t_held⟩ := h1.1
      have skip : ¬ gr S n (elT n (sT S n)) (3 * (n / 3) + i) → ∀ z, aJ aX0 m_M_elect 3 0 0 (mQ M (oElect S (nI n))) 0 0 152 [some (.ref 332), some (.int (nI n)), some (.int (nI (elT n (sT S n)))), some (.int (nI (gC S n (elT n (sT S n)) i))), some (.int (nI (3 * (n / 3) + i))), z] [] M1 := by
        intro hg1 z
        refine j_iinc (nI (3 * (n / 3) + (i + 1))) d_M_elect_152 rfl (nI_inc _) (by decide) ?_
        refine j_goto 53 d_M_elect_155 (by decide) ?_
        -- at 53
        have e9 := ih (i + 1) M1 z (by omega) (by rw [gS_n (by omega) hg1]; exact h1) f1
        rw [hC, if_neg hg1] at e9
        exact e9
      have at114 : ∀ b : Int32, (b ≠ 0 ↔ (lT (sLn S n) (sTm S n) < lT (sLn S (3 * (n / 3) + i)) (sTm S (3 * (n / 3) + i)) ∨ lT (sLn S n) (sTm S n) = lT (sLn S (3 * (n / 3) + i)) (sTm S (3 * (n / 3) + i)) ∧ sLn S n < sLn S (3 * (n / 3) + i))) → aJ aX0 m_M_elect 3 0 0 (mQ M (oElect S (nI n))) 0 0 114 [some (.ref 332), some (.int (nI n)), some (.int (nI (elT n (sT S n)))), some (.int (nI (gC S n (elT n (sT S n)) i))), some (.int (nI (3 * (n / 3) + i))), z] [.int b] M1 := by
        intro b hb9
        refine j_istore d_M_elect_114 (by decide) ?_
        refine j_aload_n d_M_elect_116 rfl ?_
        refine j_getR d_M_elect_117 h0 f_M_7_M rfl (by decide) q_off ?_
        refine j_iload d_M_elect_120 rfl ?_
        refine j_zald d_M_elect_122 t_off (aIx.n hm9 (by decide)) ?_
        refine j_eqi m1 ?_
        refine j_if_ne (tgt := 152) d_M_elect_123 (by decide) (fun h123 => ?_) (fun h123 => ?_)
        · exact skip (fun q => by rw [q.1] at h123; exact h123 rfl) _
        · have hup : sUp S (3 * (n / 3) + i) = true := by have := bI_z h123; cases q : sUp S (3 * (n / 3) + i); rw [q] at this; exact absurd this (by decide); rfl
          refine j_aload_n d_M_elect_126 rfl ?_
          refine j_getR d_M_elect_127 h0 f_M_16_M rfl (by decide) q_term ?_
          refine j_iload d_M_elect_130 rfl ?_
          refine j_iald d_M_elect_132 t_term (aIx.n hm9 (by decide)) ?_
          refine j_eqi m3 ?_
          refine j_iload_n d_M_elect_133 rfl ?_
          refine j_icmp_ge (tgt := 152) d_M_elect_134 (by decide) (fun h134 => ?_) (fun h134 => ?_)
          · exact skip (fun q => by have := i_le (by omega) (by omega) h134; have := q.2.1; omega) _
          · have hlt := i_nle (by omega) (by omega) h134
            refine j_iload d_M_elect_137 rfl ?_
            refine j_if_ne (tgt := 152) d_M_elect_139 (by decide) (fun h139 => ?_) (fun h139 => ?_)
            · exact skip (fun q => q.2.2 (hb9.mp h139)) _
            · have hg1 : gr S n (elT n (sT S n)) (3 * (n / 3) + i) := ⟨hup, hlt, fun q => hb9.mpr q h139⟩
              refine j_aload_n d_M_elect_142 rfl ?_
              refine j_iload d_M_elect_143 rfl ?_
              refine j_iload_n d_M_elect_145 rfl ?_
              refine j_callV (vs := [_, _]) d_M_elect_146 h0 (by decide) rfl w702 w704 w7 w705 ws_M_raise y_M_raise (by decide) (by decide) (q_raise M1 (gS S n (elT n (sT S n)) i) (3 * (n / 3) + i) (elT n (sT S n)) h1 hm9 (by show (if _ then _ else _) < _; rw [if_neg (by omega)]; omega) el) rfl (Nat.le_of_ble_eq_true rfl) (by decide) (by decide) (fun M2 r2_ hq2 => ?_)
              obtain ⟨rfl, h2, f2⟩ := hq2
              have h2a : mRep M2 (gS S n (elT n (sT S n)) (i + 1)) := by
                rw [gS_y (by omega) hg1]
                have z9 : (sLd (gS S n (elT n (sT S n)) i) (3 * (n / 3) + i) && decide (sT (gS S n (elT n (sT S n)) i) (3 * (n / 3) + i) = (elT n (sT S n)))) = false := by
                  have : sT (gS S n (elT n (sT S n)) i) (3 * (n / 3) + i) = sT S (3 * (n / 3) + i) := if_neg (by omega)
                  rw [this, decide_eq_false (by omega)]
                  cases sLd (gS S n (elT n (sT S n)) i) (3 * (n / 3) + i) <;> rfl
                rw [z9] at h2
                exact h2
              refine j_iinc (nI (gC S n (elT n (sT S n)) i + 1)) d_M_elect_149 rfl (nI_inc _) (by decide) ?_
              refine j_iinc (nI (3 * (n / 3) + (i + 1))) d_M_elect_152 rfl (nI_inc _) (by decide) ?_
              refine j_goto 53 d_M_elect_155 (by decide) ?_
              -- at 53
              have e9 := fun z => ih (i + 1) M2 z (by omega) h2a (f1.tr f2)
              rw [hC, if_pos hg1] at e9
              exact e9 _
      refine j_iload d_M_elect_53 rfl ?_
      refine j_iload_n d_M_elect_55 rfl ?_
      refine j_iconst (v := 3) d_M_elect_56 (by decide) ?_
      refine j_idiv d_M_elect_57 (by decide) ?_
      refine j_iconst (v := 3) d_M_elect_58 (by decide) ?_
      refine j_imul d_M_elect_59 ?_
      refine j_iconst (v := 3) d_M_elect_60 (by decide) ?_
      refine j_iadd d_M_elect_61 ?_
      refine j_eqi (g3a hn) ?_
      refine j_icmp_ge (tgt := 158) d_M_elect_62 (by decide) (fun h62 => False.elim (nI_ge (a := 3 * (n / 3) + i) (b := 3 * (n / 3) + 3) (by omega) (by omega) h62)) (fun h62 => ?_)
      refine j_aload_n d_M_elect_65 rfl ?_
      refine j_iload_n d_M_elect_66 rfl ?_
      refine j_callV (vs := [_]) d_M_elect_67 h0 (by decide) rfl w691 w693 w7 w694 ws_M_lastTerm y_M_lastTerm (by decide) (by decide) (kn1) rfl (Nat.le_of_ble_eq_true rfl) (by decide) (by decide) (fun Ma ra qa => ?_)
      obtain ⟨rfl, rfl⟩ := qa
      refine j_aload_n d_M_elect_70 rfl ?_
      refine j_iload d_M_elect_71 rfl ?_
      refine j_callV (vs := [_]) d_M_elect_73 h0 (by decide) rfl w691 w693 w7 w694 ws_M_lastTerm y_M_lastTerm (by decide) (by decide) (km1) rfl (Nat.le_of_ble_eq_true rfl) (by decide) (by decide) (fun Mb rb qb => ?_)
      obtain ⟨rfl, rfl⟩ := qb
      refine j_icmp_lt (tgt := 109) d_M_elect_76 (by decide) (fun h76 => ?_) (fun h76 => ?_)
      · have hbq : (1 : Int32) ≠ 0 ↔ (lT (sLn S n) (sTm S n) < lT (sLn S (3 * (n / 3) + i)) (sTm S (3 * (n / 3) + i)) ∨ lT (sLn S n) (sTm S n) = lT (sLn S (3 * (n / 3) + i)) (sTm S (3 * (n / 3) + i)) ∧ sLn S n < sLn S (3 * (n / 3) + i)) := ⟨fun _ => Or.inl (i_lt (by omega) (by omega) h76), fun _ => by decide⟩
        refine j_iconst (v := 1) d_M_elect_109 (by decide) ?_
        refine j_goto 114 d_M_elect_110 (by decide) ?_
        -- at 114
        exact at114 _ hbq
      · have k76 := i_nlt (by omega) (by omega) h76
        refine j_aload_n d_M_elect_79 rfl ?_
        refine j_iload_n d_M_elect_80 rfl ?_
        refine j_callV (vs := [_]) d_M_elect_81 h0 (by decide) rfl w691 w693 w7 w694 ws_M_lastTerm y_M_lastTerm (by decide) (by decide) (kn1) rfl (Nat.le_of_ble_eq_true rfl) (by decide) (by decide) (fun Mc rc qc => ?_)
        obtain ⟨rfl, rfl⟩ := qc
        refine j_aload_n d_M_elect_84 rfl ?_
        refine j_iload d_M_elect_85 rfl ?_
        refine j_callV (vs := [_]) d_M_elect_87 h0 (by decide) rfl w691 w693 w7 w694 ws_M_lastTerm y_M_lastTerm (by decide) (by decide) (km1) rfl (Nat.le_of_ble_eq_true rfl) (by decide) (by decide) (fun Md rd qd => ?_)
        obtain ⟨rfl, rfl⟩ := qd
        refine j_icmp_ne (tgt := 113) d_M_elect_90 (by decide) (fun h90 => ?_) (fun h90 => ?_)
        · have k90 := i_ne (by omega) (by omega) h90
          have hbq : (0 : Int32) ≠ 0 ↔ (lT (sLn S n) (sTm S n) < lT (sLn S (3 * (n / 3) + i)) (sTm S (3 * (n / 3) + i)) ∨ lT (sLn S n) (sTm S n) = lT (sLn S (3 * (n / 3) + i)) (sTm S (3 * (n / 3) + i)) ∧ sLn S n < sLn S (3 * (n / 3) + i)) := ⟨fun z => absurd rfl z, fun z => absurd z (by omega)⟩
          refine j_iconst (v := 0) d_M_elect_113 (by decide) ?_
          -- at 114
          exact at114 _ hbq
        · have k90 := i_eq (by omega) (by omega) h90
          refine j_aload_n d_M_elect_93 rfl ?_
          refine j_getR d_M_elect_94 h0 f_M_20_M rfl (by decide) q_length ?_
          refine j_iload_n d_M_elect_97 rfl ?_
          refine j_iald d_M_elect_98 t_length (aIx.n hn (by decide)) ?_
          refine j_eqi n4 ?_
          refine j_aload_n d_M_elect_99 rfl ?_
          refine j_getR d_M_elect_100 h0 f_M_20_M rfl (by decide) q_length ?_
          refine j_iload d_M_elect_103 rfl ?_
          refine j_iald d_M_elect_105 t_length (aIx.n hm9 (by decide)) ?_
          refine j_eqi m4 ?_
          refine j_icmp_ge (tgt := 113) d_M_elect_106 (by decide) (fun h106 => ?_) (fun h106 => ?_)
          · have k106 := i_le (by omega) (by omega) h106
            have hbq : (0 : Int32) ≠ 0 ↔ (lT (sLn S n) (sTm S n) < lT (sLn S (3 * (n / 3) + i)) (sTm S (3 * (n / 3) + i)) ∨ lT (sLn S n) (sTm S n) = lT (sLn S (3 * (n / 3) + i)) (sTm S (3 * (n / 3) + i)) ∧ sLn S n < sLn S (3 * (n / 3) + i)) := ⟨fun z => absurd rfl z, fun z => absurd z (by omega)⟩
            refine j_iconst (v := 0) d_M_elect_113 (by decide) ?_
            -- at 114
            exact at114 _ hbq
          · have k106 := i_nle (by omega) (by omega) h106
            have hbq : (1 : Int32) ≠ 0 ↔ (lT (sLn S n) (sTm S n) < lT (sLn S (3 * (n / 3) + i)) (sTm S (3 * (n / 3) + i)) ∨ lT (sLn S n) (sTm S n) = lT (sLn S (3 * (n / 3) + i)) (sTm S (3 * (n / 3) + i)) ∧ sLn S n < sLn S (3 * (n / 3) + i)) := ⟨fun _ => Or.inr ⟨k90, k106⟩, fun _ => by decide⟩
            refine j_iconst (v := 1) d_M_elect_109 (by decide) ?_
            refine j_goto 114 d_M_elect_110 (by decide) ?_
            -- at 114
            exact at114 _ hbq
  obtain ⟨h0, q_off, t_off, q_leads, t_leads, q_term, t_term, q_length, t_length, q_known, t_known, q_logs, t_logs, q_entry, t_entry, q_members, t_members, q_owners, t_owners, q_owner, t_owner, q_condition, t_condition, q_held, t_held⟩ := hm
  have el1 : ∀ (k i : Nat), i + k = (n + 2 * (sT S n + 1)) % 3 → aJ aX0 m_M_elect 3 0 0 (mQ M (oElect S (nI n))) 0 0 29 [some (.ref 332), some (.int (nI n)), some (.int (nI (sT S n + 1 + i))), none, none, none] [] M := by
    intro k
    induction k with
    | zero =>
      intro i hi9
      have ee : sT S n + 1 + i = (elT n (sT S n)) := by unfold elT; omega
      rw [ee]
      have e3 : (elT n (sT S n)) % 3 = n % 3 := by unfold elT; omega
      refine j_iload_n d_M_elect_29 rfl ?_
      refine j_iconst (v := 3) d_M_elect_30 (by decide) ?_
      refine j_irem d_M_elect_31 (by decide) ?_
      refine j_eqi (show _ = nI ((elT n (sT S n)) % 3) from pk_rem (d := 3) (by omega) (by decide) (by decide)) ?_
      refine j_iload_n d_M_elect_32 rfl ?_
      refine j_iconst (v := 3) d_M_elect_33 (by decide) ?_
      refine j_irem d_M_elect_34 (by decide) ?_
      refine j_eqi (show _ = nI (n % 3) from pk_rem (d := 3) (by omega) (by decide) (by decide)) ?_
      refine j_icmp_eq (tgt := 44) d_M_elect_35 (by decide) (fun h35 => ?_) (fun h35 => False.elim (h35 (by rw [e3])))
      refine j_iconst (v := 0) d_M_elect_44 (by decide) ?_
      refine j_istore_n d_M_elect_45 (by decide) ?_
      refine j_iload_n d_M_elect_46 rfl ?_
      refine j_iconst (v := 3) d_M_elect_47 (by decide) ?_
      refine j_idiv d_M_elect_48 (by decide) ?_
      refine j_iconst (v := 3) d_M_elect_49 (by decide) ?_
      refine j_imul d_M_elect_50 ?_
      refine j_eqi (g3 hn) ?_
      refine j_istore d_M_elect_51 (by decide) ?_
      -- at 53
      exact gl 3 0 M _ (by decide) (by rw [gS_0]; exact h) (fY.rf M)
    | succ k ih =>
      intro i hi9
      refine j_iload_n d_M_elect_29 rfl ?_
      refine j_iconst (v := 3) d_M_elect_30 (by decide) ?_
      refine j_irem d_M_elect_31 (by decide) ?_
      refine j_eqi (show _ = nI ((sT S n + 1 + i) % 3) from pk_rem (d := 3) (by omega) (by decide) (by decide)) ?_
      refine j_iload_n d_M_elect_32 rfl ?_
      refine j_iconst (v := 3) d_M_elect_33 (by decide) ?_
      refine j_irem d_M_elect_34 (by decide) ?_
      refine j_eqi (show _ = nI (n % 3) from pk_rem (d := 3) (by omega) (by decide) (by decide)) ?_
      refine j_icmp_eq (tgt := 44) d_M_elect_35 (by decide) (fun h35 => False.elim (absurd (i_eq (by omega) (by omega) h35) (by omega))) (fun h35 => ?_)
      refine j_iinc (nI (sT S n + 1 + (i + 1))) d_M_elect_38 rfl (nI_inc _) (by decide) ?_
      refine j_goto 29 d_M_elect_41 (by decide) ?_
      -- at 29
      exact ih (i + 1) (by omega)
  refine j_iload_n d_M_elect_0 rfl ?_
  refine j_bipush (v := 12) d_M_elect_1 (by decide) ?_
  refine j_callS (vs := [_, _]) d_M_elect_3 w680 w681 w7 w682 y_M_below (by decide) (by decide) (k_below_t M (N := 12) hn (by decide)) rfl (Nat.le_of_ble_eq_true rfl) (by decide) (by decide) (fun M1 r1 hq1 => ?_)
  obtain ⟨rfl, rfl⟩ := hq1
  refine j_if_eq (tgt := 18) d_M_elect_6 (by decide) (fun h6 => False.elim (absurd h6 (by decide))) (fun h6 => ?_)
  refine j_aload_n d_M_elect_9 rfl ?_
  refine j_getR d_M_elect_10 h0 f_M_7_M rfl (by decide) q_off ?_
  refine j_iload_n d_M_elect_13 rfl ?_
  refine j_zald d_M_elect_14 t_off (aIx.n hn (by decide)) ?_
  refine j_eqi r1 ?_
  refine j_if_eq (tgt := 20) d_M_elect_15 (by decide) (fun h15 => ?_) (fun h15 => False.elim (h15 (by rw [hu]; rfl)))
  refine j_aload_n d_M_elect_20 rfl ?_
  refine j_getR d_M_elect_21 h0 f_M_16_M rfl (by decide) q_term ?_
  refine j_iload_n d_M_elect_24 rfl ?_
  refine j_iald d_M_elect_25 t_term (aIx.n hn (by decide)) ?_
  refine j_eqi r3 ?_
  refine j_iconst (v := 1) d_M_elect_26 (by decide) ?_
  refine j_iadd d_M_elect_27 ?_
  refine j_eqi (nI_succ (sT S n)).symm ?_
  refine j_istore_n d_M_elect_28 (by decide) ?_
  -- at 29
  exact el1 _ 0 (Nat.zero_add _)
set_option maxRecDepth 20000 in
set_option maxHeartbeats 1000000 in
theorem q_elect_n (M : aM) (x : Int32) (hm : mSh M) (hx : x < 0 ∨ nI 12 ≤ x) : aK m_M_elect 3 0 0 M [.ref 332, .int x] (fun M1 r => M1 = M ∧ r = some (.int (-1))) := by
  refine aK.of (by decide) (Nat.le_of_ble_eq_true rfl) ?_
  obtain ⟨h0, q_off, t_off, q_leads, t_leads, q_term, t_term, q_length, t_length, q_known, t_known, q_logs, t_logs, q_entry, t_entry, q_members, t_members, q_owners, t_owners, q_owner, t_owner, q_condition, t_condition, q_held, t_held⟩ := hm
  refine j_iload_n d_M_elect_0 rfl ?_
  refine j_bipush (v := 12) d_M_elect_1 (by decide) ?_
  refine j_callS (vs := [_, _]) d_M_elect_3 w680 w681 w7 w682 y_M_below (by decide) (by decide) (k_below_f M (N := 12) hx) rfl (Nat.le_of_ble_eq_true rfl) (by decide) (by decide) (fun M1 r1 hq1 => ?_)
  obtain ⟨rfl, rfl⟩ := hq1
  refine j_if_eq (tgt := 18) d_M_elect_6 (by decide) (fun h6 => ?_) (fun h6 => False.elim (h6 rfl))
  refine j_iconst (v := -1) d_M_elect_18 (by decide) ?_
  refine j_ireturn d_M_elect_19 rfl rfl ?_ (by decide) (by decide)
  exact ⟨rfl, rfl⟩
set_option maxRecDepth 20000 in
set_option maxHeartbeats 1000000 in
theorem q_elect_0 (M : aM) (n : Nat) (hm : mSh M) (hn : n < 12) (hu : mI M 333 n ≠ 0) : aK m_M_elect 3 0 0 M [.ref 332, .int (nI n)] (fun M1 r => M1 = M ∧ r = some (.int (-1))) := by
  refine aK.of (by decide) (Nat.le_of_ble_eq_true rfl) ?_
  obtain ⟨h0, q_off, t_off, q_leads, t_leads, q_term, t_term, q_length, t_length, q_known, t_known, q_logs, t_logs, q_entry, t_entry, q_members, t_members, q_owners, t_owners, q_owner, t_owner, q_condition, t_condition, q_held, t_held⟩ := hm
  refine j_iload_n d_M_elect_0 rfl ?_
  refine j_bipush (v := 12) d_M_elect_1 (by decide) ?_
  refine j_callS (vs := [_, _]) d_M_elect_3 w680 w681 w7 w682 y_M_below (by decide) (by decide) (k_below_t M (N := 12) hn (by decide)) rfl (Nat.le_of_ble_eq_true rfl) (by decide) (by decide) (fun M1 r1 hq1 => ?_)
  obtain ⟨rfl, rfl⟩ := hq1
  refine j_if_eq (tgt := 18) d_M_elect_6 (by decide) (fun h6 => False.elim (absurd h6 (by decide))) (fun h6 => ?_)
  refine j_aload_n d_M_elect_9 rfl ?_
  refine j_getR d_M_elect_10 h0 f_M_7_M rfl (by decide) q_off ?_
  refine j_iload_n d_M_elect_13 rfl ?_
  refine j_zald d_M_elect_14 t_off (aIx.n hn (by decide)) ?_
  refine j_if_eq (tgt := 20) d_M_elect_15 (by decide) (fun h15 => False.elim (hu h15)) (fun h15 => ?_)
  refine j_iconst (v := -1) d_M_elect_18 (by decide) ?_
  refine j_ireturn d_M_elect_19 rfl rfl ?_ (by decide) (by decide)
  exact ⟨rfl, rfl⟩
theorem m_elect (M : aM) (S : aS) (t : Nat) (x : Int32) (h : mRep M S) (hi : sInv S t) (ht : t < 300000) : aK m_M_elect 3 0 0 M [.ref 332, .int x] (mQ M (oElect S x)) := by
  rcases dN_cases x (N := 12) (by decide) with ⟨e, hx⟩ | ⟨n, hn, rfl, e⟩
  · refine (q_elect_n M x h.1 hx).weaken ?_
    rintro M1 r ⟨rfl, rfl⟩
    unfold oElect; rw [e]
    exact ⟨rfl, h, fY.rf _⟩
  · cases hu : sUp S n
    · refine (q_elect_0 M n h.1 hn (by rw [(h.2 n hn).1, hu]; decide)).weaken ?_
      rintro M1 r ⟨rfl, rfl⟩
      unfold oElect; rw [e]; simp only [hu]
      exact ⟨rfl, h, fY.rf _⟩
    · exact q_elect M S t n h hi ht hn hu
