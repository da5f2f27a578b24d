theorem nI_up {b : Bool} (h : bI (!b) = 0) : b = true := by cases b; exact absurd h (by decide); rfl
def knS (S : aS) (n K : Nat) : aS := (sUp S, sLd S, sT S, sLn S, fu (sKn S) n K, sLg S)
theorem knS_ln (S : aS) (n c : Nat) : lnS S n c = knS S n (max (sKn S n) (min c (sLn S n))) := rfl
set_option maxRecDepth 20000 in
set_option maxHeartbeats 1000000 in
theorem q_ship_1 (M : aM) (x y : Int32) (hm : mSh M) (hx : x < 0 ∨ nI 12 ≤ x) : aK m_M_ship 3 0 0 M [.ref 332, .int x, .int y] (fun M1 r => M1 = M ∧ r = some (.int (-1))) := by
  refine aK.of (by decide) (Nat.le_of_ble_eq_true rfl) ?_
  obtain ⟨h0, q_off, t_off, q_leads, t_leads, q_term, t_term, q_length, t_length, q_known, t_known, q_logs, t_logs, q_entry, t_entry, q_members, t_members, q_owners, t_owners, q_owner, t_owner, q_condition, t_condition, q_held, t_held⟩ := hm
  refine j_iload_n d_M_ship_0 rfl ?_
  refine j_bipush (v := 12) d_M_ship_1 (by decide) ?_
  refine j_callS (vs := [_, _]) d_M_ship_3 w680 w681 w7 w682 y_M_below (by decide) (by decide) (k_below_f M (N := 12) hx) rfl (Nat.le_of_ble_eq_true rfl) (by decide) (by decide) (fun M1 r1 hq1 => ?_)
  obtain ⟨rfl, rfl⟩ := hq1
  refine j_if_eq (tgt := 50) d_M_ship_6 (by decide) (fun h6 => ?_) (fun h6 => False.elim (h6 rfl))
  refine j_iconst (v := -1) d_M_ship_50 (by decide) ?_
  refine j_ireturn d_M_ship_51 rfl rfl ?_ (by decide) (by decide)
  exact ⟨rfl, rfl⟩
set_option maxRecDepth 20000 in
set_option maxHeartbeats 1000000 in
theorem q_ship_2 (M : aM) (a : Nat) (y : Int32) (hm : mSh M) (ha : a < 12) (hy : y < 0 ∨ nI 12 ≤ y) : aK m_M_ship 3 0 0 M [.ref 332, .int (nI a), .int y] (fun M1 r => M1 = M ∧ r = some (.int (-1))) := by
  refine aK.of (by decide) (Nat.le_of_ble_eq_true rfl) ?_
  obtain ⟨h0, q_off, t_off, q_leads, t_leads, q_term, t_term, q_length, t_length, q_known, t_known, q_logs, t_logs, q_entry, t_entry, q_members, t_members, q_owners, t_owners, q_owner, t_owner, q_condition, t_condition, q_held, t_held⟩ := hm
  refine j_iload_n d_M_ship_0 rfl ?_
  refine j_bipush (v := 12) d_M_ship_1 (by decide) ?_
  refine j_callS (vs := [_, _]) d_M_ship_3 w680 w681 w7 w682 y_M_below (by decide) (by decide) (k_below_t M (N := 12) ha (by decide)) rfl (Nat.le_of_ble_eq_true rfl) (by decide) (by decide) (fun M1 r1 hq1 => ?_)
  obtain ⟨rfl, rfl⟩ := hq1
  refine j_if_eq (tgt := 50) d_M_ship_6 (by decide) (fun h6 => False.elim (absurd h6 (by decide))) (fun h6 => ?_)
  refine j_iload_n d_M_ship_9 rfl ?_
  refine j_bipush (v := 12) d_M_ship_10 (by decide) ?_
  refine j_callS (vs := [_, _]) d_M_ship_12 w680 w681 w7 w682 y_M_below (by decide) (by decide) (k_below_f M1 (N := 12) hy) rfl (Nat.le_of_ble_eq_true rfl) (by decide) (by decide) (fun M2 r2 hq2 => ?_)
  obtain ⟨rfl, rfl⟩ := hq2
  refine j_if_eq (tgt := 50) d_M_ship_15 (by decide) (fun h15 => ?_) (fun h15 => False.elim (h15 rfl))
  refine j_iconst (v := -1) d_M_ship_50 (by decide) ?_
  refine j_ireturn d_M_ship_51 rfl rfl ?_ (by decide) (by decide)
  exact ⟨rfl, rfl⟩
set_option maxRecDepth 20000 in
set_option maxHeartbeats 1000000 in
theorem q_ship_3 (M : aM) (S : aS) (a b : Nat) (h : mRep M S) (ha : a < 12) (hb : b < 12) (hno : ¬ ((a ≠ b ∧ a / 3 = b / 3) ∧ sUp S a = true ∧ sUp S b = true)) : aK m_M_ship 3 0 0 M [.ref 332, .int (nI a), .int (nI b)] (fun M1 r => M1 = M ∧ r = some (.int (-1))) := by
  refine aK.of (by decide) (Nat.le_of_ble_eq_true rfl) ?_
  have hm := h.1
  obtain ⟨h0, q_off, t_off, q_leads, t_leads, q_term, t_term, q_length, t_length, q_known, t_known, q_logs, t_logs, q_entry, t_entry, q_members, t_members, q_owners, t_owners, q_owner, t_owner, q_condition, t_condition, q_held, t_held⟩ := hm
  refine j_iload_n d_M_ship_0 rfl ?_
  refine j_bipush (v := 12) d_M_ship_1 (by decide) ?_
  refine j_callS (vs := [_, _]) d_M_ship_3 w680 w681 w7 w682 y_M_below (by decide) (by decide) (k_below_t M (N := 12) ha (by decide)) rfl (Nat.le_of_ble_eq_true rfl) (by decide) (by decide) (fun M1 r1 hq1 => ?_)
  obtain ⟨rfl, rfl⟩ := hq1
  refine j_if_eq (tgt := 50) d_M_ship_6 (by decide) (fun h6 => False.elim (absurd h6 (by decide))) (fun h6 => ?_)
  refine j_iload_n d_M_ship_9 rfl ?_
  refine j_bipush (v := 12) d_M_ship_10 (by decide) ?_
  refine j_callS (vs := [_, _]) d_M_ship_12 w680 w681 w7 w682 y_M_below (by decide) (by decide) (k_below_t M1 (N := 12) hb (by decide)) rfl (Nat.le_of_ble_eq_true rfl) (by decide) (by decide) (fun M2 r2 hq2 => ?_)
  obtain ⟨rfl, rfl⟩ := hq2
  refine j_if_eq (tgt := 50) d_M_ship_15 (by decide) (fun h15 => False.elim (absurd h15 (by decide))) (fun h15 => ?_)
  refine j_iload_n d_M_ship_18 rfl ?_
  refine j_iload_n d_M_ship_19 rfl ?_
  refine j_icmp_eq (tgt := 50) d_M_ship_20 (by decide) (fun h20 => ?_) (fun h20 => ?_)
  · refine j_iconst (v := -1) d_M_ship_50 (by decide) ?_
    refine j_ireturn d_M_ship_51 rfl rfl ?_ (by decide) (by decide)
    exact ⟨rfl, rfl⟩
  · refine j_iload_n d_M_ship_23 rfl ?_
    refine j_iconst (v := 3) d_M_ship_24 (by decide) ?_
    refine j_idiv d_M_ship_25 (by decide) ?_
    refine j_eqi (g3d ha) ?_
    refine j_iload_n d_M_ship_26 rfl ?_
    refine j_iconst (v := 3) d_M_ship_27 (by decide) ?_
    refine j_idiv d_M_ship_28 (by decide) ?_
    refine j_eqi (g3d hb) ?_
    refine j_icmp_ne (tgt := 50) d_M_ship_29 (by decide) (fun h29 => ?_) (fun h29 => ?_)
    · refine j_iconst (v := -1) d_M_ship_50 (by decide) ?_
      refine j_ireturn d_M_ship_51 rfl rfl ?_ (by decide) (by decide)
      exact ⟨rfl, rfl⟩
    · refine j_aload_n d_M_ship_32 rfl ?_
      refine j_getR d_M_ship_33 h0 f_M_7_M rfl (by decide) q_off ?_
      refine j_iload_n d_M_ship_36 rfl ?_
      refine j_zald d_M_ship_37 t_off (aIx.n ha (by decide)) ?_
      refine j_eqi (h.2 a ha).1 ?_
      refine j_if_ne (tgt := 50) d_M_ship_38 (by decide) (fun h38 => ?_) (fun h38 => ?_)
      · refine j_iconst (v := -1) d_M_ship_50 (by decide) ?_
        refine j_ireturn d_M_ship_51 rfl rfl ?_ (by decide) (by decide)
        exact ⟨rfl, rfl⟩
      · refine j_aload_n d_M_ship_41 rfl ?_
        refine j_getR d_M_ship_42 h0 f_M_7_M rfl (by decide) q_off ?_
        refine j_iload_n d_M_ship_45 rfl ?_
        refine j_zald d_M_ship_46 t_off (aIx.n hb (by decide)) ?_
        refine j_eqi (h.2 b hb).1 ?_
        refine j_if_eq (tgt := 52) d_M_ship_47 (by decide) (fun h47 => False.elim (hno ⟨⟨fun q => h20 (by rw [q]), i_eq (by omega) (by omega) h29⟩, nI_up h38, nI_up h47⟩)) (fun h47 => ?_)
        refine j_iconst (v := -1) d_M_ship_50 (by decide) ?_
        refine j_ireturn d_M_ship_51 rfl rfl ?_ (by decide) (by decide)
        exact ⟨rfl, rfl⟩
set_option maxRecDepth 20000 in
set_option maxHeartbeats 1000000 in
theorem q_ship_f (M : aM) (S : aS) (a b : Nat) (h : mRep M S) (ha : a < 12) (hb : b < 12) (hab : a ≠ b) (hg : a / 3 = b / 3) (ua : sUp S a = true) (ub : sUp S b = true) (hl : sLd S a = false) : aK m_M_ship 3 0 0 M [.ref 332, .int (nI a), .int (nI b)] (fun M1 r => M1 = M ∧ r = some (.int (-2))) := by
  refine aK.of (by decide) (Nat.le_of_ble_eq_true rfl) ?_
  have hm := h.1
  obtain ⟨h0, q_off, t_off, q_leads, t_leads, q_term, t_term, q_length, t_length, q_known, t_known, q_logs, t_logs, q_entry, t_entry, q_members, t_members, q_owners, t_owners, q_owner, t_owner, q_condition, t_condition, q_held, t_held⟩ := hm
  refine j_iload_n d_M_ship_0 rfl ?_
  refine j_bipush (v := 12) d_M_ship_1 (by decide) ?_
  refine j_callS (vs := [_, _]) d_M_ship_3 w680 w681 w7 w682 y_M_below (by decide) (by decide) (k_below_t M (N := 12) ha (by decide)) rfl (Nat.le_of_ble_eq_true rfl) (by decide) (by decide) (fun M1 r1 hq1 => ?_)
  obtain ⟨rfl, rfl⟩ := hq1
  refine j_if_eq (tgt := 50) d_M_ship_6 (by decide) (fun h6 => False.elim (absurd h6 (by decide))) (fun h6 => ?_)
  refine j_iload_n d_M_ship_9 rfl ?_
  refine j_bipush (v := 12) d_M_ship_10 (by decide) ?_
  refine j_callS (vs := [_, _]) d_M_ship_12 w680 w681 w7 w682 y_M_below (by decide) (by decide) (k_below_t M1 (N := 12) hb (by decide)) rfl (Nat.le_of_ble_eq_true rfl) (by decide) (by decide) (fun M2 r2 hq2 => ?_)
  obtain ⟨rfl, rfl⟩ := hq2
  refine j_if_eq (tgt := 50) d_M_ship_15 (by decide) (fun h15 => False.elim (absurd h15 (by decide))) (fun h15 => ?_)
  refine j_iload_n d_M_ship_18 rfl ?_
  refine j_iload_n d_M_ship_19 rfl ?_
  refine j_icmp_eq (tgt := 50) d_M_ship_20 (by decide) (fun h20 => False.elim (hab (i_eq (by omega) (by omega) h20))) (fun h20 => ?_)
  refine j_iload_n d_M_ship_23 rfl ?_
  refine j_iconst (v := 3) d_M_ship_24 (by decide) ?_
  refine j_idiv d_M_ship_25 (by decide) ?_
  refine j_eqi (g3d ha) ?_
  refine j_iload_n d_M_ship_26 rfl ?_
  refine j_iconst (v := 3) d_M_ship_27 (by decide) ?_
  refine j_idiv d_M_ship_28 (by decide) ?_
  refine j_eqi (g3d hb) ?_
  refine j_icmp_ne (tgt := 50) d_M_ship_29 (by decide) (fun h29 => False.elim (h29 (by rw [hg]))) (fun h29 => ?_)
  refine j_aload_n d_M_ship_32 rfl ?_
  refine j_getR d_M_ship_33 h0 f_M_7_M rfl (by decide) q_off ?_
  refine j_iload_n d_M_ship_36 rfl ?_
  refine j_zald d_M_ship_37 t_off (aIx.n ha (by decide)) ?_
  refine j_eqi (h.2 a ha).1 ?_
  refine j_if_ne (tgt := 50) d_M_ship_38 (by decide) (fun h38 => False.elim (h38 (by rw [ua]; rfl))) (fun h38 => ?_)
  refine j_aload_n d_M_ship_41 rfl ?_
  refine j_getR d_M_ship_42 h0 f_M_7_M rfl (by decide) q_off ?_
  refine j_iload_n d_M_ship_45 rfl ?_
  refine j_zald d_M_ship_46 t_off (aIx.n hb (by decide)) ?_
  refine j_eqi (h.2 b hb).1 ?_
  refine j_if_eq (tgt := 52) d_M_ship_47 (by decide) (fun h47 => ?_) (fun h47 => False.elim (h47 (by rw [ub]; rfl)))
  refine j_aload_n d_M_ship_52 rfl ?_
  refine j_getR d_M_ship_53 h0 f_M_13_M rfl (by decide) q_leads ?_
  refine j_iload_n d_M_ship_56 rfl ?_
  refine j_zald d_M_ship_57 t_leads (aIx.n ha (by decide)) ?_
  refine j_eqi (h.2 a ha).2.1 ?_
  refine j_if_ne (tgt := 64) d_M_ship_58 (by decide) (fun h58 => False.elim (h58 (by rw [hl]; rfl))) (fun h58 => ?_)
  refine j_bipush (v := -2) d_M_ship_61 (by decide) ?_
  refine j_ireturn d_M_ship_63 rfl rfl ?_ (by decide) (by decide)
  exact ⟨rfl, rfl⟩
set_option maxRecDepth 20000 in
set_option maxHeartbeats 1000000 in
theorem q_ship_s (M : aM) (S : aS) (a b : Nat) (h : mRep M S) (ha : a < 12) (hb : b < 12) (hab : a ≠ b) (hg : a / 3 = b / 3) (ua : sUp S a = true) (ub : sUp S b = true) (hl : sLd S a = true) (hT : sT S a < sT S b) (hT1 : sT S b < 1000000) : aK m_M_ship 3 0 0 M [.ref 332, .int (nI a), .int (nI b)] (fun M1 r => M1 = sI M 334 a 0 ∧ r = some (.int (-5))) := by
  refine aK.of (by decide) (Nat.le_of_ble_eq_true rfl) ?_
  have hm := h.1
  obtain ⟨h0, q_off, t_off, q_leads, t_leads, q_term, t_term, q_length, t_length, q_known, t_known, q_logs, t_logs, q_entry, t_entry, q_members, t_members, q_owners, t_owners, q_owner, t_owner, q_condition, t_condition, q_held, t_held⟩ := hm
  refine j_iload_n d_M_ship_0 rfl ?_
  refine j_bipush (v := 12) d_M_ship_1 (by decide) ?_
  refine j_callS (vs := [_, _]) d_M_ship_3 w680 w681 w7 w682 y_M_below (by decide) (by decide) (k_below_t M (N := 12) ha (by decide)) rfl (Nat.le_of_ble_eq_true rfl) (by decide) (by decide) (fun M1 r1 hq1 => ?_)
  obtain ⟨rfl, rfl⟩ := hq1
  refine j_if_eq (tgt := 50) d_M_ship_6 (by decide) (fun h6 => False.elim (absurd h6 (by decide))) (fun h6 => ?_)
  refine j_iload_n d_M_ship_9 rfl ?_
  refine j_bipush (v := 12) d_M_ship_10 (by decide) ?_
  refine j_callS (vs := [_, _]) d_M_ship_12 w680 w681 w7 w682 y_M_below (by decide) (by decide) (k_below_t M1 (N := 12) hb (by decide)) rfl (Nat.le_of_ble_eq_true rfl) (by decide) (by decide) (fun M2 r2 hq2 => ?_)
  obtain ⟨rfl, rfl⟩ := hq2
  refine j_if_eq (tgt := 50) d_M_ship_15 (by decide) (fun h15 => False.elim (absurd h15 (by decide))) (fun h15 => ?_)
  refine j_iload_n d_M_ship_18 rfl ?_
  refine j_iload_n d_M_ship_19 rfl ?_
  refine j_icmp_eq (tgt := 50) d_M_ship_20 (by decide) (fun h20 => False.elim (hab (i_eq (by omega) (by omega) h20))) (fun h20 => ?_)
  refine j_iload_n d_M_ship_23 rfl ?_
  refine j_iconst (v := 3) d_M_ship_24 (by decide) ?_
  refine j_idiv d_M_ship_25 (by decide) ?_
  refine j_eqi (g3d ha) ?_
  refine j_iload_n d_M_ship_26 rfl ?_
  refine j_iconst (v := 3) d_M_ship_27 (by decide) ?_
  refine j_idiv d_M_ship_28 (by decide) ?_
  refine j_eqi (g3d hb) ?_
  refine j_icmp_ne (tgt := 50) d_M_ship_29 (by decide) (fun h29 => False.elim (h29 (by rw [hg]))) (fun h29 => ?_)
  refine j_aload_n d_M_ship_32 rfl ?_
  refine j_getR d_M_ship_33 h0 f_M_7_M rfl (by decide) q_off ?_
  refine j_iload_n d_M_ship_36 rfl ?_
  refine j_zald d_M_ship_37 t_off (aIx.n ha (by decide)) ?_
  refine j_eqi (h.2 a ha).1 ?_
  refine j_if_ne (tgt := 50) d_M_ship_38 (by decide) (fun h38 => False.elim (h38 (by rw [ua]; rfl))) (fun h38 => ?_)
  refine j_aload_n d_M_ship_41 rfl ?_
  refine j_getR d_M_ship_42 h0 f_M_7_M rfl (by decide) q_off ?_
  refine j_iload_n d_M_ship_45 rfl ?_
  refine j_zald d_M_ship_46 t_off (aIx.n hb (by decide)) ?_
  refine j_eqi (h.2 b hb).1 ?_
  refine j_if_eq (tgt := 52) d_M_ship_47 (by decide) (fun h47 => ?_) (fun h47 => False.elim (h47 (by rw [ub]; rfl)))
  refine j_aload_n d_M_ship_52 rfl ?_
  refine j_getR d_M_ship_53 h0 f_M_13_M rfl (by decide) q_leads ?_
  refine j_iload_n d_M_ship_56 rfl ?_
  refine j_zald d_M_ship_57 t_leads (aIx.n ha (by decide)) ?_
  refine j_eqi (h.2 a ha).2.1 ?_
  refine j_if_ne (tgt := 64) d_M_ship_58 (by decide) (fun h58 => ?_) (fun h58 => False.elim (absurd h58 (by rw [hl]; decide)))
  refine j_aload_n d_M_ship_64 rfl ?_
  refine j_getR d_M_ship_65 h0 f_M_16_M rfl (by decide) q_term ?_
  refine j_iload_n d_M_ship_68 rfl ?_
  refine j_iald d_M_ship_69 t_term (aIx.n hb (by decide)) ?_
  refine j_eqi (h.2 b hb).2.2.1 ?_
  refine j_aload_n d_M_ship_70 rfl ?_
  refine j_getR d_M_ship_71 h0 f_M_16_M rfl (by decide) q_term ?_
  refine j_iload_n d_M_ship_74 rfl ?_
  refine j_iald d_M_ship_75 t_term (aIx.n ha (by decide)) ?_
  refine j_eqi (h.2 a ha).2.2.1 ?_
  refine j_icmp_le (tgt := 89) d_M_ship_76 (by decide) (fun h76 => False.elim (absurd (i_le (by omega) (by omega) h76) (by omega))) (fun h76 => ?_)
  refine j_aload_n d_M_ship_79 rfl ?_
  refine j_getR d_M_ship_80 h0 f_M_13_M rfl (by decide) q_leads ?_
  refine j_iload_n d_M_ship_83 rfl ?_
  refine j_iconst (v := 0) d_M_ship_84 (by decide) ?_
  refine j_zast d_M_ship_85 t_leads (aIx.n ha (by decide)) rfl ?_
  refine j_bipush (v := -5) d_M_ship_86 (by decide) ?_
  refine j_ireturn d_M_ship_88 rfl rfl ?_ (by decide) (by decide)
  exact ⟨rfl, rfl⟩
set_option maxRecDepth 20000 in
set_option maxHeartbeats 1000000 in
theorem q_ship (M : aM) (S : aS) (a b : Nat) (h : mRep M S) (ha : a < 12) (hb : b < 12) (hab : a ≠ b) (hg : a / 3 = b / 3) (ua : sUp S a = true) (ub : sUp S b = true) (t : Nat) (hi : sInv S t) (ht : t < 300000) (hl : sLd S a = true) (hT : sT S b ≤ sT S a) : aK m_M_ship 3 0 0 M [.ref 332, .int (nI a), .int (nI b)] (mQ M (shS S a b, nI (sLn (shS S a b) b))) := by
  refine aK.of (by decide) (Nat.le_of_ble_eq_true rfl) ?_
  have hTa := (hi.1 a ha).2.2.1
  have i1 := sInv_shR hi ha hb hT
  have hl1 : sLd (shR S a b) a = true := (fu_n (sLd S) _ hab).trans hl
  have tAe : sT (shR S a b) a = sT S a := fu_n (sT S) _ hab
  have hT1 : sT (shR S a b) b = sT (shR S a b) a := (fu_s (sT S) b (sT S a)).trans tAe.symm
  have hk : rCS (sLn (shR S a b) a) (sLn (shR S a b) b) (sTm (shR S a b) a) (sTm (shR S a b) b) (csF (sLn S a) (sLn S b) (sTm S a) (sTm S b) 80) := csF_rCS (hi.1 a ha).1
  have i2 := sInv_shC i1 ha hb hab hg hl1 hT1 hk
  obtain ⟨o1, o2, o3, o4⟩ := shC_o (shR S a b) a b (csF (sLn S a) (sLn S b) (sTm S a) (sTm S b) 80)
  have i3 := sInv_shK i2 ha hb hab hg (by rw [o2]; exact hl1) (by rw [o3]; exact hT1)
  generalize eS2 : (shC (shR S a b) a b (csF (sLn S a) (sLn S b) (sTm S a) (sTm S b) 80)) = S2 at *
  have eSS : shS S a b = lnS (shK S2 a) b (sKn (shK S2 a) a) := by rw [← eS2]; rfl
  rw [eSS]
  have i2a := i2.1 a ha
  have i2b := i2.1 b hb
  have lgb2 := i2.lgB
  have i3a := i3.1 a ha
  have i3b := i3.1 b hb
  have fin : ∀ (M1 : aM) (k : Int32) (z : Option Value), mRep M1 (shK S2 a) → fY M M1 → aJ aX0 m_M_ship 3 0 0 (mQ M (lnS (shK S2 a) b (sKn (shK S2 a) a), nI (sLn (lnS (shK S2 a) b (sKn (shK S2 a) a)) b))) 0 0 274 [some (.ref 332), some (.int (nI a)), some (.int (nI b)), some (.int k), z] [] M1 := by
    intro M1 k z h1 f1
    obtain ⟨x1, x2, x3, x4, x5, x6⟩ := h1.2 a ha
    obtain ⟨y1, y2, y3, y4, y5, y6⟩ := h1.2 b hb
    obtain ⟨h0, q_off, t_off, q_leads, t_leads, q_term, t_term, q_length, t_length, q_known, t_known, q_logs, t_logs, q_entry, t_entry, q_members, t_members, q_owners, t_owners, q_owner, t_owner, q_condition, t_condition, q_held, t_held⟩ := h1.1
    refine j_aload_n d_M_ship_274 rfl ?_
    refine j_getR d_M_ship_275 h0 f_M_23_M rfl (by decide) q_known ?_
    refine j_iload_n d_M_ship_278 rfl ?_
    refine j_iald d_M_ship_279 t_known (aIx.n ha (by decide)) ?_
    refine j_eqi x5 ?_
    refine j_aload_n d_M_ship_280 rfl ?_
    refine j_getR d_M_ship_281 h0 f_M_20_M rfl (by decide) q_length ?_
    refine j_iload_n d_M_ship_284 rfl ?_
    refine j_iald d_M_ship_285 t_length (aIx.n hb (by decide)) ?_
    refine j_eqi y4 ?_
    refine j_icmp_ge (tgt := 298) d_M_ship_286 (by decide) (fun h286 => ?_) (fun h286 => ?_)
    · have hmin : nI (sLn (shK S2 a) b) = nI (min (sKn (shK S2 a) a) (sLn (shK S2 a) b)) := by rw [Nat.min_eq_right (i_le (by omega) (by omega) h286)]
      refine j_aload_n d_M_ship_298 rfl ?_
      refine j_getR d_M_ship_299 h0 f_M_20_M rfl (by decide) q_length ?_
      refine j_iload_n d_M_ship_302 rfl ?_
      refine j_iald d_M_ship_303 t_length (aIx.n hb (by decide)) ?_
      refine j_eqi y4 ?_
      refine j_eqi hmin ?_
      refine j_istore d_M_ship_304 (by decide) ?_
      refine j_aload_n d_M_ship_306 rfl ?_
      refine j_getR d_M_ship_307 h0 f_M_23_M rfl (by decide) q_known ?_
      refine j_iload_n d_M_ship_310 rfl ?_
      refine j_iload d_M_ship_311 rfl ?_
      refine j_aload_n d_M_ship_313 rfl ?_
      refine j_getR d_M_ship_314 h0 f_M_23_M rfl (by decide) q_known ?_
      refine j_iload_n d_M_ship_317 rfl ?_
      refine j_iald d_M_ship_318 t_known (aIx.n hb (by decide)) ?_
      refine j_eqi y5 ?_
      refine j_icmp_le (tgt := 327) d_M_ship_319 (by decide) (fun h319 => ?_) (fun h319 => ?_)
      · have hmax : nI (sKn (shK S2 a) b) = nI (max (sKn (shK S2 a) b) (min (sKn (shK S2 a) a) (sLn (shK S2 a) b))) := by rw [Nat.max_eq_left (i_le (by omega) (by omega) h319)]
        refine j_aload_n d_M_ship_327 rfl ?_
        refine j_getR d_M_ship_328 h0 f_M_23_M rfl (by decide) q_known ?_
        refine j_iload_n d_M_ship_331 rfl ?_
        refine j_iald d_M_ship_332 t_known (aIx.n hb (by decide)) ?_
        refine j_eqi y5 ?_
        refine j_eqi hmax ?_
        refine j_iast d_M_ship_333 t_known (aIx.n hb (by decide)) ?_
        refine j_aload_n d_M_ship_334 rfl ?_
        refine j_getR d_M_ship_335 h0 f_M_20_M rfl (by decide) q_length ?_
        refine j_iload_n d_M_ship_338 rfl ?_
        refine j_iald d_M_ship_339 t_length (aIx.n hb (by decide)) ?_
        refine j_eqi (show _ = nI (sLn (shK S2 a) b) by rw [mm_I_sI, if_neg (by omega)]; exact y4) ?_
        refine j_ireturn d_M_ship_340 rfl rfl ?_ (by decide) (by decide)
        exact ⟨rfl, mRep_kn h1, f1.sI (by omega)⟩
      · have hmax : nI (min (sKn (shK S2 a) a) (sLn (shK S2 a) b)) = nI (max (sKn (shK S2 a) b) (min (sKn (shK S2 a) a) (sLn (shK S2 a) b))) := by rw [Nat.max_eq_right (Nat.le_of_lt (i_nle (by omega) (by omega) h319))]
        refine j_iload d_M_ship_322 rfl ?_
        refine j_goto 333 d_M_ship_324 (by decide) ?_
        refine j_eqi hmax ?_
        refine j_iast d_M_ship_333 t_known (aIx.n hb (by decide)) ?_
        refine j_aload_n d_M_ship_334 rfl ?_
        refine j_getR d_M_ship_335 h0 f_M_20_M rfl (by decide) q_length ?_
        refine j_iload_n d_M_ship_338 rfl ?_
        refine j_iald d_M_ship_339 t_length (aIx.n hb (by decide)) ?_
        refine j_eqi (show _ = nI (sLn (shK S2 a) b) by rw [mm_I_sI, if_neg (by omega)]; exact y4) ?_
        refine j_ireturn d_M_ship_340 rfl rfl ?_ (by decide) (by decide)
        exact ⟨rfl, mRep_kn h1, f1.sI (by omega)⟩
    · have hmin : nI (sKn (shK S2 a) a) = nI (min (sKn (shK S2 a) a) (sLn (shK S2 a) b)) := by rw [Nat.min_eq_left (Nat.le_of_lt (i_nle (by omega) (by omega) h286))]
      refine j_aload_n d_M_ship_289 rfl ?_
      refine j_getR d_M_ship_290 h0 f_M_23_M rfl (by decide) q_known ?_
      refine j_iload_n d_M_ship_293 rfl ?_
      refine j_iald d_M_ship_294 t_known (aIx.n ha (by decide)) ?_
      refine j_eqi x5 ?_
      refine j_goto 304 d_M_ship_295 (by decide) ?_
      refine j_eqi hmin ?_
      refine j_istore d_M_ship_304 (by decide) ?_
      refine j_aload_n d_M_ship_306 rfl ?_
      refine j_getR d_M_ship_307 h0 f_M_23_M rfl (by decide) q_known ?_
      refine j_iload_n d_M_ship_310 rfl ?_
      refine j_iload d_M_ship_311 rfl ?_
      refine j_aload_n d_M_ship_313 rfl ?_
      refine j_getR d_M_ship_314 h0 f_M_23_M rfl (by decide) q_known ?_
      refine j_iload_n d_M_ship_317 rfl ?_
      refine j_iald d_M_ship_318 t_known (aIx.n hb (by decide)) ?_
      refine j_eqi y5 ?_
      refine j_icmp_le (tgt := 327) d_M_ship_319 (by decide) (fun h319 => ?_) (fun h319 => ?_)
      · have hmax : nI (sKn (shK S2 a) b) = nI (max (sKn (shK S2 a) b) (min (sKn (shK S2 a) a) (sLn (shK S2 a) b))) := by rw [Nat.max_eq_left (i_le (by omega) (by omega) h319)]
        refine j_aload_n d_M_ship_327 rfl ?_
        refine j_getR d_M_ship_328 h0 f_M_23_M rfl (by decide) q_known ?_
        refine j_iload_n d_M_ship_331 rfl ?_
        refine j_iald d_M_ship_332 t_known (aIx.n hb (by decide)) ?_
        refine j_eqi y5 ?_
        refine j_eqi hmax ?_
        refine j_iast d_M_ship_333 t_known (aIx.n hb (by decide)) ?_
        refine j_aload_n d_M_ship_334 rfl ?_
        refine j_getR d_M_ship_335 h0 f_M_20_M rfl (by decide) q_length ?_
        refine j_iload_n d_M_ship_338 rfl ?_
        refine j_iald d_M_ship_339 t_length (aIx.n hb (by decide)) ?_
        refine j_eqi (show _ = nI (sLn (shK S2 a) b) by rw [mm_I_sI, if_neg (by omega)]; exact y4) ?_
        refine j_ireturn d_M_ship_340 rfl rfl ?_ (by decide) (by decide)
        exact ⟨rfl, mRep_kn h1, f1.sI (by omega)⟩
      · have hmax : nI (min (sKn (shK S2 a) a) (sLn (shK S2 a) b)) = nI (max (sKn (shK S2 a) b) (min (sKn (shK S2 a) a) (sLn (shK S2 a) b))) := by rw [Nat.max_eq_right (Nat.le_of_lt (i_nle (by omega) (by omega) h319))]
        refine j_iload d_M_ship_322 rfl ?_
        refine j_goto 333 d_M_ship_324 (by decide) ?_
        refine j_eqi hmax ?_
        refine j_iast d_M_ship_333 t_known (aIx.n hb (by decide)) ?_
        refine j_aload_n d_M_ship_334 rfl ?_
        refine j_getR d_M_ship_335 h0 f_M_20_M rfl (by decide) q_length ?_
        refine j_iload_n d_M_ship_338 rfl ?_
        refine j_iald d_M_ship_339 t_length (aIx.n hb (by decide)) ?_
        refine j_eqi (show _ = nI (sLn (shK S2 a) b) by rw [mm_I_sI, if_neg (by omega)]; exact y4) ?_
        refine j_ireturn d_M_ship_340 rfl rfl ?_ (by decide) (by decide)
        exact ⟨rfl, mRep_kn h1, f1.sI (by omega)⟩
  have kl : ∀ (j i : Nat) (M1 : aM) (k : Int32), i + j = sLn S2 a → sKn S2 a ≤ i → mRep M1 (knS S2 a (max (sKn S2 a) (ag0 S2 a i))) → fY M M1 → aJ aX0 m_M_ship 3 0 0 (mQ M (lnS (shK S2 a) b (sKn (shK S2 a) a), nI (sLn (lnS (shK S2 a) b (sKn (shK S2 a) a)) b))) 0 0 220 [some (.ref 332), some (.int (nI a)), some (.int (nI b)), some (.int k), some (.int (nI i))] [] M1 := by
    intro j
    induction j with
    | zero =>
      intro i M1 k hij hki h1 f1
      obtain ⟨x1, x2, x3, x4, x5, x6⟩ := h1.2 a ha
      have x4 : mI M1 336 a = nI (sLn S2 a) := x4
      have e9 : i = sLn S2 a := by omega
      have al := ag0_le S2 a (sLn S2 a)
      obtain ⟨h0, q_off, t_off, q_leads, t_leads, q_term, t_term, q_length, t_length, q_known, t_known, q_logs, t_logs, q_entry, t_entry, q_members, t_members, q_owners, t_owners, q_owner, t_owner, q_condition, t_condition, q_held, t_held⟩ := h1.1
      refine j_iload d_M_ship_220 rfl ?_
      refine j_aload_n d_M_ship_222 rfl ?_
      refine j_getR d_M_ship_223 h0 f_M_20_M rfl (by decide) q_length ?_
      refine j_iload_n d_M_ship_226 rfl ?_
      refine j_iald d_M_ship_227 t_length (aIx.n ha (by decide)) ?_
      refine j_eqi x4 ?_
      refine j_icmp_ge (tgt := 274) d_M_ship_228 (by decide) (fun h228 => ?_) (fun h228 => False.elim (h228 (nI_le (by omega) (by omega))))
      -- at 274
      refine fin M1 k _ ?_ f1
      unfold shK
      rw [knS_ln, Nat.min_eq_left al, ← e9]
      exact h1
    | succ j ih =>
      intro i M1 k hij hki h1 f1
      obtain ⟨x1, x2, x3, x4, x5, x6⟩ := h1.2 a ha
      have x4 : mI M1 336 a = nI (sLn S2 a) := x4
      have x3 : mI M1 335 a = nI (sT S2 a) := x3
      have hA : ag0 S2 a (i + 1) = if (sTm S2 a i = sT S2 a ∧ 2 ≤ cpC S2 a i (sT S2 a) 3) then i + 1 else ag0 S2 a i := rfl
      have al := ag0_le S2 a i
      have cl := cpC_le S2 a i (sTm S2 a i) 3
      have tl : sTm S2 a i < 1000000 := (lgb2 a ha).2 i (by omega)
      have qt : aK m_M_termAt 1 0 0 M1 [.ref 332, .int (nI a), .int (nI i)] (fun M2 r => M2 = M1 ∧ r = some (.int (nI (sTm S2 a i)))) := q_termAt M1 (knS S2 a (max (sKn S2 a) (ag0 S2 a i))) a i h1 ha (by omega) (show i < sLn S2 a by omega)
      have qc : aK m_M_copies 2 0 0 M1 [.ref 332, .int (nI a), .int (nI i)] (fun M2 r => M2 = M1 ∧ r = some (.int (nI (cpC S2 a i (sTm S2 a i) 3)))) := q_copies M1 (knS S2 a (max (sKn S2 a) (ag0 S2 a i))) a i h1 lgb2 ha (show i < sLn S2 a by omega)
      have skip : ¬ (sTm S2 a i = sT S2 a ∧ 2 ≤ cpC S2 a i (sT S2 a) 3) → aJ aX0 m_M_ship 3 0 0 (mQ M (lnS (shK S2 a) b (sKn (shK S2 a) a), nI (sLn (lnS (shK S2 a) b (sKn (shK S2 a) a)) b))) 0 0 268 [some (.ref 332), some (.int (nI a)), some (.int (nI b)), some (.int k), some (.int (nI i))] [] M1 := by
        intro hno
        refine j_iinc (nI (i + 1)) d_M_ship_268 rfl (nI_inc i) (by decide) ?_
        refine j_goto 220 d_M_ship_271 (by decide) ?_
        -- at 220
        refine ih (i + 1) M1 k (by omega) (by omega) ?_ f1
        rw [hA, if_neg hno]
        exact h1
      obtain ⟨h0, q_off, t_off, q_leads, t_leads, q_term, t_term, q_length, t_length, q_known, t_known, q_logs, t_logs, q_entry, t_entry, q_members, t_members, q_owners, t_owners, q_owner, t_owner, q_condition, t_condition, q_held, t_held⟩ := h1.1
      refine j_iload d_M_ship_220 rfl ?_
      refine j_aload_n d_M_ship_222 rfl ?_
      refine j_getR d_M_ship_223 h0 f_M_20_M rfl (by decide) q_length ?_
      refine j_iload_n d_M_ship_226 rfl ?_
      refine j_iald d_M_ship_227 t_length (aIx.n ha (by decide)) ?_
      refine j_eqi x4 ?_
      refine j_icmp_ge (tgt := 274) d_M_ship_228 (by decide) (fun h228 => False.elim (nI_ge (a := i) (b := sLn S2 a) (by omega) (by omega) h228)) (fun h228 => ?_)
      refine j_aload_n d_M_ship_231 rfl ?_
      refine j_iload_n d_M_ship_232 rfl ?_
      refine j_iload d_M_ship_233 rfl ?_
      refine j_callV (vs := [_, _]) d_M_ship_235 h0 (by decide) rfl w695 w697 w7 w698 ws_M_termAt y_M_termAt (by decide) (by decide) (qt) rfl (Nat.le_of_ble_eq_true rfl) (by decide) (by decide) (fun M2 r2 hq2 => ?_)
      obtain ⟨rfl, rfl⟩ := hq2
      refine j_aload_n d_M_ship_238 rfl ?_
      refine j_getR d_M_ship_239 h0 f_M_16_M rfl (by decide) q_term ?_
      refine j_iload_n d_M_ship_242 rfl ?_
      refine j_iald d_M_ship_243 t_term (aIx.n ha (by decide)) ?_
      refine j_eqi x3 ?_
      refine j_icmp_ne (tgt := 268) d_M_ship_244 (by decide) (fun h244 => ?_) (fun h244 => ?_)
      · exact skip (fun q => h244 (by rw [q.1]))
      · have k244 := i_eq (by omega) (by have := i2a.2.2.1; omega) h244
        refine j_aload_n d_M_ship_247 rfl ?_
        refine j_iload_n d_M_ship_248 rfl ?_
        refine j_iload d_M_ship_249 rfl ?_
        refine j_callV (vs := [_, _]) d_M_ship_251 h0 (by decide) rfl w718 w720 w7 w721 ws_M_copies y_M_copies (by decide) (by decide) (qc) rfl (Nat.le_of_ble_eq_true rfl) (by decide) (by decide) (fun M3 r3 hq3 => ?_)
        obtain ⟨rfl, rfl⟩ := hq3
        refine j_iconst (v := 2) d_M_ship_254 (by decide) ?_
        refine j_icmp_lt (tgt := 268) d_M_ship_255 (by decide) (fun h255 => ?_) (fun h255 => ?_)
        · exact skip (fun q => by have := i_lt (b := 2) (by omega) (by decide) h255; rw [k244] at this; omega)
        · have k255 := i_nlt (b := 2) (by omega) (by decide) h255
          rw [k244] at k255
          refine j_aload_n d_M_ship_258 rfl ?_
          refine j_getR d_M_ship_259 h0 f_M_23_M rfl (by decide) q_known ?_
          refine j_iload_n d_M_ship_262 rfl ?_
          refine j_iload d_M_ship_263 rfl ?_
          refine j_iconst (v := 1) d_M_ship_265 (by decide) ?_
          refine j_iadd d_M_ship_266 ?_
          refine j_eqi (nI_succ i).symm ?_
          refine j_iast d_M_ship_267 t_known (aIx.n ha (by decide)) ?_
          refine j_iinc (nI (i + 1)) d_M_ship_268 rfl (nI_inc i) (by decide) ?_
          refine j_goto 220 d_M_ship_271 (by decide) ?_
          -- at 220
          refine ih (i + 1) _ k (by omega) (by omega) ?_ (f1.sI (by omega))
          rw [hA, if_pos ⟨k244, k255⟩, Nat.max_eq_right (by omega)]
          have y := mRep_kn (n := a) (K := i + 1) h1
          have ey : knS S2 a (i + 1) = (sUp S2, sLd S2, sT S2, sLn S2, fu (fu (sKn S2) a (max (sKn S2 a) (ag0 S2 a i))) a (i + 1), sLg S2) := by unfold knS; rw [fu_fu]
          rw [ey]
          exact y
  have at212 : ∀ (M1 : aM) (k : Int32) (z : Option Value), mRep M1 S2 → fY M M1 → aJ aX0 m_M_ship 3 0 0 (mQ M (lnS (shK S2 a) b (sKn (shK S2 a) a), nI (sLn (lnS (shK S2 a) b (sKn (shK S2 a) a)) b))) 0 0 212 [some (.ref 332), some (.int (nI a)), some (.int (nI b)), some (.int k), z] [] M1 := by
    intro M1 k z h1 f1
    obtain ⟨x1, x2, x3, x4, x5, x6⟩ := h1.2 a ha
    obtain ⟨h0, q_off, t_off, q_leads, t_leads, q_term, t_term, q_length, t_length, q_known, t_known, q_logs, t_logs, q_entry, t_entry, q_members, t_members, q_owners, t_owners, q_owner, t_owner, q_condition, t_condition, q_held, t_held⟩ := h1.1
    refine j_aload_n d_M_ship_212 rfl ?_
    refine j_getR d_M_ship_213 h0 f_M_23_M rfl (by decide) q_known ?_
    refine j_iload_n d_M_ship_216 rfl ?_
    refine j_iald d_M_ship_217 t_known (aIx.n ha (by decide)) ?_
    refine j_eqi x5 ?_
    refine j_istore d_M_ship_218 (by decide) ?_
    -- at 220
    refine kl (sLn S2 a - sKn S2 a) (sKn S2 a) M1 k (by have := i2a.2.1; omega) (Nat.le_refl _) ?_ f1
    rw [Nat.max_eq_left (ag0_le _ _ _)]
    unfold knS
    rw [fu_id]
    exact h1
  have at143 : ∀ (M1 : aM) (k : Nat), k = (csF (sLn S a) (sLn S b) (sTm S a) (sTm S b) 80) → mRep M1 (shR S a b) → fY M M1 → aJ aX0 m_M_ship 3 0 0 (mQ M (lnS (shK S2 a) b (sKn (shK S2 a) a), nI (sLn (lnS (shK S2 a) b (sKn (shK S2 a) a)) b))) 0 0 143 [some (.ref 332), some (.int (nI a)), some (.int (nI b)), some (.int (nI k)), none] [] M1 := by
    intro M1 k hkk h1 f1
    have hk1 : k ≤ sLn S a := by rw [hkk]; exact hk.1
    have hk2 : k ≤ sLn S b := by rw [hkk]; exact hk.2.1
    have l80 : ∀ m, m < 12 → sLn S m ≤ 80 := fun m hm => (hi.1 m hm).1
    have l80a := l80 a ha
    have l80b := l80 b hb
    have eS3 : S2 = shC (shR S a b) a b k := by rw [← eS2, hkk]
    have x4 : mI M1 336 a = nI (sLn S a) := (h1.2 a ha).2.2.2.1
    have x6 : ∀ c, c < 15 → k < sLn S a → mI M1 338 (15 * (80 * a + k) + c) = nI (sLg S a k c) := fun c hc hk9 => (h1.2 a ha).2.2.2.2.2 k hk9 c hc
    have ab : ¬ b = a := fun q => hab q.symm
    obtain ⟨h0, q_off, t_off, q_leads, t_leads, q_term, t_term, q_length, t_length, q_known, t_known, q_logs, t_logs, q_entry, t_entry, q_members, t_members, q_owners, t_owners, q_owner, t_owner, q_condition, t_condition, q_held, t_held⟩ := h1.1
    have cl : k < sLn S a → ∀ (j i : Nat) (M2 : aM), i + j = 15 → oI M1 M2 (fun x => x = 336 ∨ x = 338 ∨ x = 339) → (∀ m, m < 12 → mI M2 336 m = if m = b then nI k else mI M1 336 m) → (∀ x, ¬ (15 * (80 * b + k) ≤ x ∧ x < 15 * (80 * b + k) + i) → mI M2 338 x = mI M1 338 x) → (∀ c, c < i → mI M2 338 (15 * (80 * b + k) + c) = nI (sLg S a k c)) → aJ aX0 m_M_ship 3 0 0 (mQ M (lnS (shK S2 a) b (sKn (shK S2 a) a), nI (sLn (lnS (shK S2 a) b (sKn (shK S2 a) a)) b))) 0 0 163 [some (.ref 332), some (.int (nI a)), some (.int (nI b)), some (.int (nI k)), some (.int (nI i))] [] M2 := by
      intro hlt j
      induction j with
      | zero =>
        intro i M2 hij o hl9 ho hc9
        have e9 : i = 15 := by omega
        subst e9
        obtain ⟨h0, q_off, t_off, q_leads, t_leads, q_term, t_term, q_length, t_length, q_known, t_known, q_logs, t_logs, q_entry, t_entry, q_members, t_members, q_owners, t_owners, q_owner, t_owner, q_condition, t_condition, q_held, t_held⟩ := o.mSh h1.1
        refine j_iload d_M_ship_163 rfl ?_
        refine j_bipush (v := 15) d_M_ship_165 (by decide) ?_
        refine j_icmp_ge (tgt := 202) d_M_ship_167 (by decide) (fun h167 => ?_) (fun h167 => False.elim (h167 (nI_le (by decide) (by decide))))
        refine j_aload_n d_M_ship_202 rfl ?_
        refine j_getR d_M_ship_203 h0 f_M_20_M rfl (by decide) q_length ?_
        refine j_iload_n d_M_ship_206 rfl ?_
        refine j_dup2 d_M_ship_207 ?_
        refine j_iald d_M_ship_208 t_length (aIx.n hb (by decide)) ?_
        refine j_eqi (show _ = nI k by rw [hl9 b hb, if_pos rfl]) ?_
        refine j_iconst (v := 1) d_M_ship_209 (by decide) ?_
        refine j_iadd d_M_ship_210 ?_
        refine j_eqi (nI_succ k).symm ?_
        refine j_iast d_M_ship_211 t_length (aIx.n hb (by decide)) ?_
        -- at 212
        have o2 : oI M1 (sI M2 336 b (nI (k + 1))) (fun x => x = 336 ∨ x = 338 ∨ x = 339) := o.sI (Or.inl rfl)
        refine at212 _ _ _ ?_ (f1.tr (o2.fY (fun x hx => by unfold mdl; omega)))
        have e8 : S2 = shW (shR S a b) a b k := eS3.trans (if_pos hlt)
        rw [e8]
        refine mRep_app h1 hb hk2 l80 (by omega) o2 (fun x hx => ?_) (fun c hc => ?_) (fun m hm9 => ?_)
        · rw [mm_I_sI, if_neg (by omega)]; exact ho x hx
        · rw [mm_I_sI, if_neg (by omega)]; exact hc9 c hc
        · rw [mm_I_sI]
          by_cases z : m = b
          · rw [if_pos ⟨rfl, z⟩, if_pos z]
          · rw [if_neg (fun y => z y.2), if_neg z, hl9 m hm9, if_neg z]
      | succ j ih =>
        intro i M2 hij o hl9 ho hc9
        obtain ⟨h0, q_off, t_off, q_leads, t_leads, q_term, t_term, q_length, t_length, q_known, t_known, q_logs, t_logs, q_entry, t_entry, q_members, t_members, q_owners, t_owners, q_owner, t_owner, q_condition, t_condition, q_held, t_held⟩ := o.mSh h1.1
        refine j_iload d_M_ship_163 rfl ?_
        refine j_bipush (v := 15) d_M_ship_165 (by decide) ?_
        refine j_icmp_ge (tgt := 202) d_M_ship_167 (by decide) (fun h167 => False.elim (nI_ge (b := 15) (by omega) (by decide) h167)) (fun h167 => ?_)
        refine j_aload_n d_M_ship_170 rfl ?_
        refine j_getR d_M_ship_171 h0 f_M_26_M rfl (by decide) q_logs ?_
        refine j_iload_n d_M_ship_174 rfl ?_
        refine j_iload_n d_M_ship_175 rfl ?_
        refine j_callS (vs := [_, _]) d_M_ship_176 w699 w700 w7 w701 y_M_place (by decide) (by decide) (k_place M2 b k) rfl (Nat.le_of_ble_eq_true rfl) (by decide) (by decide) (fun M3 r3 hq3 => ?_)
        obtain ⟨rfl, rfl⟩ := hq3
        refine j_iload d_M_ship_179 rfl ?_
        refine j_iadd d_M_ship_181 ?_
        refine j_eqi (nI_add _ _) ?_
        refine j_aload_n d_M_ship_182 rfl ?_
        refine j_getR d_M_ship_183 h0 f_M_26_M rfl (by decide) q_logs ?_
        refine j_iload_n d_M_ship_186 rfl ?_
        refine j_iload_n d_M_ship_187 rfl ?_
        refine j_callS (vs := [_, _]) d_M_ship_188 w699 w700 w7 w701 y_M_place (by decide) (by decide) (k_place M3 a k) rfl (Nat.le_of_ble_eq_true rfl) (by decide) (by decide) (fun M4 r4 hq4 => ?_)
        obtain ⟨rfl, rfl⟩ := hq4
        refine j_iload d_M_ship_191 rfl ?_
        refine j_iadd d_M_ship_193 ?_
        refine j_eqi (nI_add _ _) ?_
        refine j_iald d_M_ship_194 t_logs (aIx.n (by omega) (by decide)) ?_
        refine j_eqi (show _ = nI (sLg S a k i) by rw [ho _ (by omega)]; exact x6 i (by omega) hlt) ?_
        refine j_iast d_M_ship_195 t_logs (aIx.n (by omega) (by decide)) ?_
        refine j_iinc (nI (i + 1)) d_M_ship_196 rfl (nI_inc i) (by decide) ?_
        refine j_goto 163 d_M_ship_199 (by decide) ?_
        -- at 163
        refine ih (i + 1) _ (by omega) (o.sI (Or.inr (Or.inl rfl))) (fun m hm9 => ?_) (fun x hx => ?_) (fun c hc => ?_)
        · rw [mm_I_sI, if_neg (by omega)]; exact hl9 m hm9
        · rw [mm_I_sI, if_neg (by omega)]; exact ho x (by omega)
        · rw [mm_I_sI]
          by_cases z : c = i
          · rw [if_pos ⟨rfl, by rw [z]⟩, z]
          · rw [if_neg (by omega)]; exact hc9 c (by omega)
    refine j_aload_n d_M_ship_143 rfl ?_
    refine j_getR d_M_ship_144 h0 f_M_20_M rfl (by decide) q_length ?_
    refine j_iload_n d_M_ship_147 rfl ?_
    refine j_iload_n d_M_ship_148 rfl ?_
    refine j_iast d_M_ship_149 t_length (aIx.n hb (by decide)) ?_
    refine j_iload_n d_M_ship_150 rfl ?_
    refine j_aload_n d_M_ship_151 rfl ?_
    refine j_getR d_M_ship_152 h0 f_M_20_M rfl (by decide) q_length ?_
    refine j_iload_n d_M_ship_155 rfl ?_
    refine j_iald d_M_ship_156 t_length (aIx.n ha (by decide)) ?_
    refine j_eqi (show _ = nI (sLn S a) by rw [mm_I_sI, if_neg (by omega)]; exact x4) ?_
    refine j_icmp_ge (tgt := 212) d_M_ship_157 (by decide) (fun h157 => ?_) (fun h157 => ?_)
    · have k157 := i_le (by omega) (by omega) h157
      refine at212 _ _ _ ?_ (f1.sI (by omega))
      rw [eS3, show shC (shR S a b) a b k = cuS (shR S a b) b k from if_neg (show ¬ k < sLn S a by omega)]
      exact mRep_ln h1 hk2
    · have k157 := i_nle (by omega) (by omega) h157
      refine j_iconst (v := 0) d_M_ship_160 (by decide) ?_
      refine j_istore d_M_ship_161 (by decide) ?_
      -- at 163
      refine cl k157 15 0 _ (by decide) ((oI.rf M1 _).sI (Or.inl rfl)) (fun m hm9 => ?_) (fun x hx => ?_) (fun c hc => absurd hc (Nat.not_lt_zero c))
      · rw [mm_I_sI]
        by_cases z : m = b
        · rw [if_pos ⟨rfl, z⟩, if_pos z]
        · rw [if_neg (fun y => z y.2), if_neg z]
      · rw [mm_I_sI, if_neg (by omega)]
  have csl : ∀ (M1 : aM), mRep M1 (shR S a b) → fY M M1 → ∀ (j i : Nat), i + j = 81 → i ≤ sLn S a → i ≤ sLn S b → (∀ x, x < i → sTm S a x = sTm S b x) → aJ aX0 m_M_ship 3 0 0 (mQ M (lnS (shK S2 a) b (sKn (shK S2 a) a), nI (sLn (lnS (shK S2 a) b (sKn (shK S2 a) a)) b))) 0 0 102 [some (.ref 332), some (.int (nI a)), some (.int (nI b)), some (.int (nI i)), none] [] M1 := by
    intro M1 h1 f1 j
    have x4 : mI M1 336 a = nI (sLn S a) := (h1.2 a ha).2.2.2.1
    have y4 : mI M1 336 b = nI (sLn S b) := (h1.2 b hb).2.2.2.1
    have l80a := (hi.1 a ha).1
    have l80b := (hi.1 b hb).1
    obtain ⟨h0, q_off, t_off, q_leads, t_leads, q_term, t_term, q_length, t_length, q_known, t_known, q_logs, t_logs, q_entry, t_entry, q_members, t_members, q_owners, t_owners, q_owner, t_owner, q_condition, t_condition, q_held, t_held⟩ := h1.1
    induction j with
    | zero =>
      intro i hij la lb hx
      exact absurd hij (by omega)
    | succ j ih =>
      intro i hij la lb hx
      have stop : ¬ (i < sLn S a ∧ i < sLn S b ∧ sTm S a i = sTm S b i) → i = (csF (sLn S a) (sLn S b) (sTm S a) (sTm S b) 80) := fun q => rCS.uq (la := sLn S a) (lb := sLn S b) ⟨la, lb, hx, q⟩ hk
      refine j_iload_n d_M_ship_102 rfl ?_
      refine j_aload_n d_M_ship_103 rfl ?_
      refine j_getR d_M_ship_104 h0 f_M_20_M rfl (by decide) q_length ?_
      refine j_iload_n d_M_ship_107 rfl ?_
      refine j_iald d_M_ship_108 t_length (aIx.n ha (by decide)) ?_
      refine j_eqi x4 ?_
      refine j_icmp_ge (tgt := 143) d_M_ship_109 (by decide) (fun h109 => ?_) (fun h109 => ?_)
      · have k109 := i_le (by omega) (by omega) h109
        exact at143 M1 i (stop (by omega)) h1 f1
      · have k109 := i_nle (by omega) (by omega) h109
        refine j_iload_n d_M_ship_112 rfl ?_
        refine j_aload_n d_M_ship_113 rfl ?_
        refine j_getR d_M_ship_114 h0 f_M_20_M rfl (by decide) q_length ?_
        refine j_iload_n d_M_ship_117 rfl ?_
        refine j_iald d_M_ship_118 t_length (aIx.n hb (by decide)) ?_
        refine j_eqi y4 ?_
        refine j_icmp_ge (tgt := 143) d_M_ship_119 (by decide) (fun h119 => ?_) (fun h119 => ?_)
        · have k119 := i_le (by omega) (by omega) h119
          exact at143 M1 i (stop (by omega)) h1 f1
        · have k119 := i_nle (by omega) (by omega) h119
          have ta := (hi.lgB a ha).2 i k109
          have tb := (hi.lgB b hb).2 i k119
          have qa : aK m_M_termAt 1 0 0 M1 [.ref 332, .int (nI a), .int (nI i)] (fun M2 r => M2 = M1 ∧ r = some (.int (nI (sTm S a i)))) := q_termAt M1 (shR S a b) a i h1 ha (by omega) k109
          have qb : aK m_M_termAt 1 0 0 M1 [.ref 332, .int (nI b), .int (nI i)] (fun M2 r => M2 = M1 ∧ r = some (.int (nI (sTm S b i)))) := q_termAt M1 (shR S a b) b i h1 hb (by omega) k119
          refine j_aload_n d_M_ship_122 rfl ?_
          refine j_iload_n d_M_ship_123 rfl ?_
          refine j_iload_n d_M_ship_124 rfl ?_
          refine j_callV (vs := [_, _]) d_M_ship_125 h0 (by decide) rfl w695 w697 w7 w698 ws_M_termAt y_M_termAt (by decide) (by decide) (qa) rfl (Nat.le_of_ble_eq_true rfl) (by decide) (by decide) (fun M2 r2 hq2 => ?_)
          obtain ⟨rfl, rfl⟩ := hq2
          refine j_aload_n d_M_ship_128 rfl ?_
          refine j_iload_n d_M_ship_129 rfl ?_
          refine j_iload_n d_M_ship_130 rfl ?_
          refine j_callV (vs := [_, _]) d_M_ship_131 h0 (by decide) rfl w695 w697 w7 w698 ws_M_termAt y_M_termAt (by decide) (by decide) (qb) rfl (Nat.le_of_ble_eq_true rfl) (by decide) (by decide) (fun M3 r3 hq3 => ?_)
          obtain ⟨rfl, rfl⟩ := hq3
          refine j_icmp_ne (tgt := 143) d_M_ship_134 (by decide) (fun h134 => ?_) (fun h134 => ?_)
          · exact at143 M3 i (stop (fun q => h134 (by rw [q.2.2]))) h1 f1
          · have k134 : sTm S a i = sTm S b i := i_eq (show sLg S a i 0 < 2 ^ 31 by omega) (show sLg S b i 0 < 2 ^ 31 by omega) h134
            refine j_iinc (nI (i + 1)) d_M_ship_137 rfl (nI_inc i) (by decide) ?_
            refine j_goto 102 d_M_ship_140 (by decide) ?_
            -- at 102
            refine ih (i + 1) (by omega) (by omega) (by omega) (fun x hx9 => ?_)
            by_cases z : x = i
            · rw [z]; exact k134
            · exact hx x (by omega)
  have hm := h.1
  obtain ⟨h0, q_off, t_off, q_leads, t_leads, q_term, t_term, q_length, t_length, q_known, t_known, q_logs, t_logs, q_entry, t_entry, q_members, t_members, q_owners, t_owners, q_owner, t_owner, q_condition, t_condition, q_held, t_held⟩ := hm
  refine j_iload_n d_M_ship_0 rfl ?_
  refine j_bipush (v := 12) d_M_ship_1 (by decide) ?_
  refine j_callS (vs := [_, _]) d_M_ship_3 w680 w681 w7 w682 y_M_below (by decide) (by decide) (k_below_t M (N := 12) ha (by decide)) rfl (Nat.le_of_ble_eq_true rfl) (by decide) (by decide) (fun M1 r1 hq1 => ?_)
  obtain ⟨rfl, rfl⟩ := hq1
  refine j_if_eq (tgt := 50) d_M_ship_6 (by decide) (fun h6 => False.elim (absurd h6 (by decide))) (fun h6 => ?_)
  refine j_iload_n d_M_ship_9 rfl ?_
  refine j_bipush (v := 12) d_M_ship_10 (by decide) ?_
  refine j_callS (vs := [_, _]) d_M_ship_12 w680 w681 w7 w682 y_M_below (by decide) (by decide) (k_below_t M1 (N := 12) hb (by decide)) rfl (Nat.le_of_ble_eq_true rfl) (by decide) (by decide) (fun M2 r2 hq2 => ?_)
  obtain ⟨rfl, rfl⟩ := hq2
  refine j_if_eq (tgt := 50) d_M_ship_15 (by decide) (fun h15 => False.elim (absurd h15 (by decide))) (fun h15 => ?_)
  refine j_iload_n d_M_ship_18 rfl ?_
  refine j_iload_n d_M_ship_19 rfl ?_
  refine j_icmp_eq (tgt := 50) d_M_ship_20 (by decide) (fun h20 => False.elim (hab (i_eq (by omega) (by omega) h20))) (fun h20 => ?_)
  refine j_iload_n d_M_ship_23 rfl ?_
  refine j_iconst (v := 3) d_M_ship_24 (by decide) ?_
  refine j_idiv d_M_ship_25 (by decide) ?_
  refine j_eqi (g3d ha) ?_
  refine j_iload_n d_M_ship_26 rfl ?_
  refine j_iconst (v := 3) d_M_ship_27 (by decide) ?_
  refine j_idiv d_M_ship_28 (by decide) ?_
  refine j_eqi (g3d hb) ?_
  refine j_icmp_ne (tgt := 50) d_M_ship_29 (by decide) (fun h29 => False.elim (h29 (by rw [hg]))) (fun h29 => ?_)
  refine j_aload_n d_M_ship_32 rfl ?_
  refine j_getR d_M_ship_33 h0 f_M_7_M rfl (by decide) q_off ?_
  refine j_iload_n d_M_ship_36 rfl ?_
  refine j_zald d_M_ship_37 t_off (aIx.n ha (by decide)) ?_
  refine j_eqi (h.2 a ha).1 ?_
  refine j_if_ne (tgt := 50) d_M_ship_38 (by decide) (fun h38 => False.elim (h38 (by rw [ua]; rfl))) (fun h38 => ?_)
  refine j_aload_n d_M_ship_41 rfl ?_
  refine j_getR d_M_ship_42 h0 f_M_7_M rfl (by decide) q_off ?_
  refine j_iload_n d_M_ship_45 rfl ?_
  refine j_zald d_M_ship_46 t_off (aIx.n hb (by decide)) ?_
  refine j_eqi (h.2 b hb).1 ?_
  refine j_if_eq (tgt := 52) d_M_ship_47 (by decide) (fun h47 => ?_) (fun h47 => False.elim (h47 (by rw [ub]; rfl)))
  refine j_aload_n d_M_ship_52 rfl ?_
  refine j_getR d_M_ship_53 h0 f_M_13_M rfl (by decide) q_leads ?_
  refine j_iload_n d_M_ship_56 rfl ?_
  refine j_zald d_M_ship_57 t_leads (aIx.n ha (by decide)) ?_
  refine j_eqi (h.2 a ha).2.1 ?_
  refine j_if_ne (tgt := 64) d_M_ship_58 (by decide) (fun h58 => ?_) (fun h58 => False.elim (absurd h58 (by rw [hl]; decide)))
  refine j_aload_n d_M_ship_64 rfl ?_
  refine j_getR d_M_ship_65 h0 f_M_16_M rfl (by decide) q_term ?_
  refine j_iload_n d_M_ship_68 rfl ?_
  refine j_iald d_M_ship_69 t_term (aIx.n hb (by decide)) ?_
  refine j_eqi (h.2 b hb).2.2.1 ?_
  refine j_aload_n d_M_ship_70 rfl ?_
  refine j_getR d_M_ship_71 h0 f_M_16_M rfl (by decide) q_term ?_
  refine j_iload_n d_M_ship_74 rfl ?_
  refine j_iald d_M_ship_75 t_term (aIx.n ha (by decide)) ?_
  refine j_eqi (h.2 a ha).2.2.1 ?_
  refine j_icmp_le (tgt := 89) d_M_ship_76 (by decide) (fun h76 => ?_) (fun h76 => False.elim (h76 (nI_le (by omega) (by omega))))
  refine j_aload_n d_M_ship_89 rfl ?_
  refine j_iload_n d_M_ship_90 rfl ?_
  refine j_aload_n d_M_ship_91 rfl ?_
  refine j_getR d_M_ship_92 h0 f_M_16_M rfl (by decide) q_term ?_
  refine j_iload_n d_M_ship_95 rfl ?_
  refine j_iald d_M_ship_96 t_term (aIx.n ha (by decide)) ?_
  refine j_eqi (h.2 a ha).2.2.1 ?_
  refine j_callV (vs := [_, _]) d_M_ship_97 h0 (by decide) rfl w702 w704 w7 w705 ws_M_raise y_M_raise (by decide) (by decide) (q_raise M2 S b (sT S a) h hb (by omega) (by omega)) rfl (Nat.le_of_ble_eq_true rfl) (by decide) (by decide) (fun M3 r3 hq3 => ?_)
  obtain ⟨rfl, h3, f3⟩ := hq3
  refine j_iconst (v := 0) d_M_ship_100 (by decide) ?_
  refine j_istore_n d_M_ship_101 (by decide) ?_
  -- at 102
  exact csl M3 h3 f3 81 0 (by decide) (Nat.zero_le _) (Nat.zero_le _) (fun x hx => absurd hx (Nat.not_lt_zero x))
theorem m_ship (M : aM) (S : aS) (t : Nat) (x y : Int32) (h : mRep M S) (hi : sInv S t) (ht : t < 300000) : aK m_M_ship 3 0 0 M [.ref 332, .int x, .int y] (mQ M (oShip S x y)) := by
  have no : ∀ v : Int32, oShip S x y = (S, v) → ∀ M1 r, (M1 = M ∧ r = some (.int v)) → mQ M (oShip S x y) M1 r := by
    rintro v e M1 r ⟨rfl, rfl⟩
    rw [e]
    exact ⟨rfl, h, fY.rf _⟩
  rcases dN_cases x (N := 12) (by decide) with ⟨ea, hx⟩ | ⟨a, ha, rfl, ea⟩
  · exact (q_ship_1 M x y h.1 hx).weaken (no _ (by unfold oShip; rw [ea]))
  · rcases dN_cases y (N := 12) (by decide) with ⟨eb, hy⟩ | ⟨b, hb, rfl, eb⟩
    · exact (q_ship_2 M a y h.1 ha hy).weaken (no _ (by unfold oShip; rw [ea, eb]))
    · have hTb := (hi.1 b hb).2.2.1
      by_cases q : (a ≠ b ∧ a / 3 = b / 3) ∧ sUp S a = true ∧ sUp S b = true
      · have e0 : oShip S (nI a) (nI b) = if sLd S a = true then (if sT S a < sT S b then (shX S a, -5) else (shS S a b, nI (sLn (shS S a b) b))) else (S, -2) := by
          unfold oShip
          rw [ea, eb]
          simp only []
          rw [if_pos q]
        obtain ⟨⟨hab, hg⟩, ua, ub⟩ := q
        cases hl : sLd S a
        · exact (q_ship_f M S a b h ha hb hab hg ua ub hl).weaken (no _ (by rw [e0, hl]; rfl))
        · by_cases hT : sT S a < sT S b
          · have e1 : oShip S (nI a) (nI b) = (shX S a, -5) := by rw [e0, if_pos hl, if_pos hT]
            rw [e1]
            refine (q_ship_s M S a b h ha hb hab hg ua ub hl hT (by omega)).weaken ?_
            rintro M1 r ⟨rfl, rfl⟩
            exact ⟨rfl, mRep_ld (b := false) h, (fY.rf M).sI (by omega)⟩
          · have e1 : oShip S (nI a) (nI b) = (shS S a b, nI (sLn (shS S a b) b)) := by rw [e0, if_pos hl, if_neg hT]
            rw [e1]
            exact q_ship M S a b h ha hb hab hg ua ub t hi ht hl (by omega)
      · refine (q_ship_3 M S a b h ha hb q).weaken (no _ ?_)
        unfold oShip
        rw [ea, eb]
        simp only []
        rw [if_neg q]
