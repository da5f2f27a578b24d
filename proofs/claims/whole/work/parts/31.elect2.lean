set_option maxRecDepth 20000 in
set_option maxHeartbeats 1000000 in
theorem k_elect_n (M : aM) (x : Int32) (h : cSh M) (hx : nUp M x) : aK m_S_elect 4 1 1 M [.ref 0, .int x] (fun M1 r => M1 = M ∧ r = some (.int (-1))) := by
  refine aK.of (by decide) (Nat.le_of_ble_eq_true rfl) ?_
  have h0 := h.2.1
  have hr0 := h.2.2.1
  have hr1 := h.2.2.2.1
  have hr2 := h.2.2.2.2.1
  have hA1 := h.2.2.2.2.2.1
  have hA2 := h.2.2.2.2.2.2.1
  have hA3 := h.2.2.2.2.2.2.2.1
  refine j_aload_n d_S_elect_0 rfl ?_
  refine j_iload_n d_S_elect_1 rfl ?_
  refine j_callV (vs := [_]) d_S_elect_2 (by assumption) (by decide) rfl w186 w188 w1 w189 ws_S_upNode y_S_upNode (by decide) (by decide) (k_upNode_n M x h hx) rfl (Nat.le_of_ble_eq_true rfl) (by decide) (by decide) (fun M1 r1 hq1 => ?_)
  obtain ⟨rfl, rfl⟩ := hq1
  refine j_astore_nN d_S_elect_5 (by decide) ?_
  refine j_aload_nN d_S_elect_6 rfl ?_
  refine j_ifnonnullN d_S_elect_7 ?_
  refine j_iconst (v := -1) d_S_elect_10 (by decide) ?_
  refine j_ireturn d_S_elect_11 rfl rfl ?_ (by decide) (by decide)
  exact ⟨rfl, rfl⟩
theorem elT_lt {n t : Nat} (ht : t < 999990) : elT n t < 1000000 := by unfold elT; omega
/-- the state of a leader just elected, before it writes -/
def eS (S : aS) (n e : Nat) : aS := (sUp S, fu (sLd (gS S n e 3)) n true, sT (gS S n e 3), sLn S, sKn S, sLg S)
theorem gC_le (S : aS) (n e : Nat) : ∀ i, gC S n e i ≤ i
  | 0 => Nat.le_refl _
  | i + 1 => by
    have := gC_le S n e i
    show gC S n e i + (if _ then 1 else 0) ≤ i + 1
    split <;> omega
set_option maxRecDepth 20000 in
set_option maxHeartbeats 1000000 in
theorem k_elect_V (M : aM) (S : aS) (n : Nat) (h : cR M S) (hb : lgB S) (hg : n < 3) (hT : ∀ m, m < 12 → sT S m < 999990) (hk : sKn S n ≤ sLn S n) (hu2 : sUp S n = true) : aK m_S_elect 4 1 1 M [.ref 0, .int (nI n)] (cQ M (oElect S (nI n))) := by
  refine aK.of (by decide) (Nat.le_of_ble_eq_true rfl) ?_
  have hn12 : n < 12 := by omega
  have hu : mI M (nd n) 0 ≠ 0 := by rw [(h.2 n hn12).1]; exact bI_t hu2
  have ht : mI M (nd n) 2 = nI (sT S n) := (h.2 n hn12).2.2.1
  have hN := (cSh_V h.1 hg).1
  have hTn := hT n hn12
  have h0 := h.1.2.1
  have hr0 := h.1.2.2.1
  have hr1 := h.1.2.2.2.1
  have hr2 := h.1.2.2.2.2.1
  have hA1 := h.1.2.2.2.2.2.1
  have hA2 := h.1.2.2.2.2.2.2.1
  have hA3 := h.1.2.2.2.2.2.2.2.1
  refine j_aload_n d_S_elect_0 rfl ?_
  refine j_iload_n d_S_elect_1 rfl ?_
  refine j_callV (vs := [_]) d_S_elect_2 (by assumption) (by decide) rfl w186 w188 w1 w189 ws_S_upNode y_S_upNode (by decide) (by decide) (k_upNode_V M n h.1 hg hu) rfl (Nat.le_of_ble_eq_true rfl) (by decide) (by decide) (fun M1 r1 hq1 => ?_)
  obtain ⟨rfl, rfl⟩ := hq1
  refine j_astore_n d_S_elect_5 (by decide) ?_
  refine j_aload_n d_S_elect_6 rfl ?_
  refine j_ifnonnull 12 d_S_elect_7 (by decide) ?_
  refine j_aload_n d_S_elect_12 rfl ?_
  refine j_geti d_S_elect_13 (by assumption) f_S_54_V rfl (by decide) ?_
  refine j_eqi ht ?_
  refine j_iconst (v := 1) d_S_elect_16 (by decide) ?_
  refine j_iadd d_S_elect_17 ?_
  refine j_iload_n d_S_elect_18 rfl ?_
  refine j_aload_n d_S_elect_19 rfl ?_
  refine j_geti d_S_elect_20 (by assumption) f_S_54_V rfl (by decide) ?_
  refine j_eqi ht ?_
  refine j_isub d_S_elect_23 ?_
  refine j_iconst (v := 1) d_S_elect_24 (by decide) ?_
  refine j_isub d_S_elect_25 ?_
  refine j_iconst (v := 3) d_S_elect_26 (by decide) ?_
  refine j_callS (vs := [_, _]) d_S_elect_27 w202 w203 w8 w204 y_J_floorMod (by decide) (by decide) (k_floorMod M1 (nI n - nI (sT S n) - 1) 3 (by decide)) rfl (Nat.le_of_ble_eq_true rfl) (by decide) (by decide) (fun M2 r2 hq2 => ?_)
  obtain ⟨rfl, rfl⟩ := hq2
  rw [fmod3 hn12 (by omega)]
  refine j_iadd d_S_elect_30 ?_
  refine j_eqi (show nI (sT S n) + 1 + nI ((n + 2 * (sT S n + 1)) % 3) = nI (elT n (sT S n)) by rw [nI_1, nI_add]; rfl) ?_
  refine j_istore_n d_S_elect_31 (by decide) ?_
  refine j_aload_n d_S_elect_32 rfl ?_
  refine j_aload_n d_S_elect_33 rfl ?_
  refine j_iload_n d_S_elect_34 rfl ?_
  refine j_callS (vs := [_]) d_S_elect_35 w110 w111 w1 w112 y_S_groupOf (by decide) (by decide) (k_groupOf M2 (nI n)) rfl (Nat.le_of_ble_eq_true rfl) (by decide) (by decide) (fun M3 r3 hq3 => ?_)
  obtain ⟨rfl, rfl⟩ := hq3
  rw [show nI n / 3 = nI (n / 3) from pk_div (d := 3) (by omega) (by decide) (by decide)]
  refine j_iload_n d_S_elect_38 rfl ?_
  refine j_callV (vs := [_, _, _]) d_S_elect_39 (by assumption) (by decide) rfl w205 w207 w1 w208 ws_S_countGrants y_S_countGrants (by decide) (by decide) (k_countGrants_V M3 S n (elT n (sT S n)) h hb hg (fun m hm => by have := hT m hm; omega) (elT_lt (by omega))) rfl (Nat.le_of_ble_eq_true rfl) (by decide) (by decide) (fun M4 r4 hq4 => ?_)
  obtain ⟨rfl, h4, f4⟩ := hq4
  have hN4 := (cSh_V h4.1 hg).1
  refine j_iconst (v := 2) d_S_elect_42 (by decide) ?_
  refine j_icmp_ge (tgt := 48) d_S_elect_43 (by decide) (fun h43 => ?_) (fun h43 => ?_)
  · have hc : ¬ gC S n (elT n (sT S n)) 3 < 2 := by have := i_le (a := 2) (by decide) (by have := gC_le S n (elT n (sT S n)) 3; omega) h43; omega
    refine j_aload_n d_S_elect_48 rfl ?_
    refine j_iconst (v := 1) d_S_elect_49 (by decide) ?_
    refine j_puti d_S_elect_50 (by assumption) p_S_48_V rfl (by decide) rfl rfl ?_
    have h5 : cR (sI M4 (nd n) 1 1) (eS S n (elT n (sT S n))) := cR_ld h4 hn12
    have hN5 := hN4
    have hnd := cSh_V h5.1 hg
    have hne := Nat.ne_of_lt hN4.1
    refine j_aload_n d_S_elect_53 rfl ?_
    refine j_new d_S_elect_54 n_S_68 (by decide) (by decide) (by decide) ?_
    have hN6 := tO.up (M := sI M4 (nd n) 1 1) hN4 5 0
    refine j_dup d_S_elect_57 ?_
    refine j_iload_n d_S_elect_58 rfl ?_
    refine j_callI (vs := [_]) d_S_elect_59 w235 w236 w9 w237 rfl rfl y_E_init (by decide) (by decide) (k_E_init_E (mN (sI M4 (nd n) 1 1) 5 0) (mSz M4) (nI (elT n (sT S n))) (tO.new (sI M4 (nd n) 1 1) 5 0)) rfl (Nat.le_of_ble_eq_true rfl) (by decide) (by decide) (fun M6 r6 hq6 => ?_)
    obtain ⟨rfl, rfl⟩ := hq6
    have hlen6 : mI (sI (mN (sI M4 (nd n) 1 1) 5 0) (mSz M4) 0 (nI (elT n (sT S n)))) (nd n) 3 = nI (sLn S n) := by rw [mm_I_sI, if_neg (fun q => hne q.1), mm_I_mN]; exact (if_neg hne).trans (h5.2 n hn12).2.2.2.2.1.1
    have hr6 : mR (sI (mN (sI M4 (nd n) 1 1) 5 0) (mSz M4) 0 (nI (elT n (sT S n)))) (nd n) 5 = some (nd n + 1) := by rw [mm_R_sI, mm_R_mN]; exact (if_neg hne).trans hnd.2.1
    refine j_callU (owner := "ShardGroups$Node") (vs := [_]) d_S_elect_62 hN6 (by decide) rfl w244 w245 w3 w249 w247 w246 (Or.inl rfl) y_N_write (by decide) (by decide) (k_write_V (sI (mN (sI M4 (nd n) 1 1) 5 0) (mSz M4) 0 (nI (elT n (sT S n)))) (nd n) (sLn S n) (mSz M4) 5 ⟨hN6, hr6, hnd.2.2.up 5 0⟩ hlen6 (hb n hn12).1 (tO.new (sI M4 (nd n) 1 1) 5 0) (by decide) (by decide)) rfl (Nat.le_of_ble_eq_true rfl) (by decide) (by decide) (fun M7 r7 hq7 => ?_)
    have hr7 : ∃ z : Int32, r7 = some (.int z) := by
      split at hq7
      · exact ⟨_, hq7.2⟩
      · exact ⟨_, hq7.2⟩
    have hw := cQ_write h5 hn12 (hb n hn12).1 hk ((onew.rf (sI M4 (nd n) 1 1)).mN.sI (Nat.le_refl _)) (E := eM [(elT n (sT S n)), 0]) (e := mSz M4) (M' := sI (mN (sI M4 (nd n) 1 1) 5 0) (mSz M4) 0 (nI (elT n (sT S n)))) ⟨h4.1.1, by rw [mm_I_sI, if_pos ⟨rfl, rfl⟩]; rfl, Or.inl ⟨rfl, tO.new (sI M4 (nd n) 1 1) 5 0⟩⟩ M7 r7 hq7
    obtain ⟨z, rfl⟩ := hr7
    refine j_pop d_S_elect_65 ?_
    refine j_iload_n d_S_elect_66 rfl ?_
    refine j_ireturn d_S_elect_67 rfl rfl ?_ (by decide) (by decide)
    have eo : oElect S (nI n) = ((oWr (eS S n (elT n (sT S n))) n (eM [(elT n (sT S n)), 0])).1, nI (elT n (sT S n))) := by
      unfold oElect; rw [dN_in hn12 (by decide)]; simp only []; rw [if_pos hu2, if_neg hc]; rfl
    rw [eo]
    exact ⟨rfl, hw.2.1, f4.tr ((fM_nd (i := 0) hn12 (wd0 n) (fM.rf M4)).tr hw.2.2)⟩
  · have hc : gC S n (elT n (sT S n)) 3 < 2 := i_nle (a := 2) (by decide) (by have := gC_le S n (elT n (sT S n)) 3; omega) h43
    refine j_iconst (v := 0) d_S_elect_46 (by decide) ?_
    refine j_ireturn d_S_elect_47 rfl rfl ?_ (by decide) (by decide)
    unfold cQ
    have eo : oElect S (nI n) = (gS S n (elT n (sT S n)) 3, 0) := by
      unfold oElect; rw [dN_in hn12 (by decide)]; simp only []; rw [if_pos hu2, if_pos hc]
    rw [eo]
    exact ⟨rfl, h4, f4⟩
set_option maxRecDepth 20000 in
set_option maxHeartbeats 1000000 in
theorem k_elect_T (M : aM) (S : aS) (n : Nat) (h : cR M S) (hb : lgB S) (hg : 3 ≤ n) (hn : n < 12) (hT : ∀ m, m < 12 → sT S m < 999990) (hk : sKn S n ≤ sLn S n) (hu2 : sUp S n = true) : aK m_S_elect 4 1 1 M [.ref 0, .int (nI n)] (cQ M (oElect S (nI n))) := by
  refine aK.of (by decide) (Nat.le_of_ble_eq_true rfl) ?_
  have hn12 : n < 12 := by omega
  have hu : mI M (nd n) 0 ≠ 0 := by rw [(h.2 n hn12).1]; exact bI_t hu2
  have ht : mI M (nd n) 2 = nI (sT S n) := (h.2 n hn12).2.2.1
  have hN := (cSh_T h.1 hg hn).1
  have hTn := hT n hn12
  have h0 := h.1.2.1
  have hr0 := h.1.2.2.1
  have hr1 := h.1.2.2.2.1
  have hr2 := h.1.2.2.2.2.1
  have hA1 := h.1.2.2.2.2.2.1
  have hA2 := h.1.2.2.2.2.2.2.1
  have hA3 := h.1.2.2.2.2.2.2.2.1
  refine j_aload_n d_S_elect_0 rfl ?_
  refine j_iload_n d_S_elect_1 rfl ?_
  refine j_callV (vs := [_]) d_S_elect_2 (by assumption) (by decide) rfl w186 w188 w1 w189 ws_S_upNode y_S_upNode (by decide) (by decide) (k_upNode_T M n h.1 hg hn hu) rfl (Nat.le_of_ble_eq_true rfl) (by decide) (by decide) (fun M1 r1 hq1 => ?_)
  obtain ⟨rfl, rfl⟩ := hq1
  refine j_astore_n d_S_elect_5 (by decide) ?_
  refine j_aload_n d_S_elect_6 rfl ?_
  refine j_ifnonnull 12 d_S_elect_7 (by decide) ?_
  refine j_aload_n d_S_elect_12 rfl ?_
  refine j_geti d_S_elect_13 (by assumption) f_S_54_T rfl (by decide) ?_
  refine j_eqi ht ?_
  refine j_iconst (v := 1) d_S_elect_16 (by decide) ?_
  refine j_iadd d_S_elect_17 ?_
  refine j_iload_n d_S_elect_18 rfl ?_
  refine j_aload_n d_S_elect_19 rfl ?_
  refine j_geti d_S_elect_20 (by assumption) f_S_54_T rfl (by decide) ?_
  refine j_eqi ht ?_
  refine j_isub d_S_elect_23 ?_
  refine j_iconst (v := 1) d_S_elect_24 (by decide) ?_
  refine j_isub d_S_elect_25 ?_
  refine j_iconst (v := 3) d_S_elect_26 (by decide) ?_
  refine j_callS (vs := [_, _]) d_S_elect_27 w202 w203 w8 w204 y_J_floorMod (by decide) (by decide) (k_floorMod M1 (nI n - nI (sT S n) - 1) 3 (by decide)) rfl (Nat.le_of_ble_eq_true rfl) (by decide) (by decide) (fun M2 r2 hq2 => ?_)
  obtain ⟨rfl, rfl⟩ := hq2
  rw [fmod3 hn12 (by omega)]
  refine j_iadd d_S_elect_30 ?_
  refine j_eqi (show nI (sT S n) + 1 + nI ((n + 2 * (sT S n + 1)) % 3) = nI (elT n (sT S n)) by rw [nI_1, nI_add]; rfl) ?_
  refine j_istore_n d_S_elect_31 (by decide) ?_
  refine j_aload_n d_S_elect_32 rfl ?_
  refine j_aload_n d_S_elect_33 rfl ?_
  refine j_iload_n d_S_elect_34 rfl ?_
  refine j_callS (vs := [_]) d_S_elect_35 w110 w111 w1 w112 y_S_groupOf (by decide) (by decide) (k_groupOf M2 (nI n)) rfl (Nat.le_of_ble_eq_true rfl) (by decide) (by decide) (fun M3 r3 hq3 => ?_)
  obtain ⟨rfl, rfl⟩ := hq3
  rw [show nI n / 3 = nI (n / 3) from pk_div (d := 3) (by omega) (by decide) (by decide)]
  refine j_iload_n d_S_elect_38 rfl ?_
  refine j_callV (vs := [_, _, _]) d_S_elect_39 (by assumption) (by decide) rfl w205 w207 w1 w208 ws_S_countGrants y_S_countGrants (by decide) (by decide) (k_countGrants_T M3 S n (elT n (sT S n)) h hb hg hn (fun m hm => by have := hT m hm; omega) (elT_lt (by omega))) rfl (Nat.le_of_ble_eq_true rfl) (by decide) (by decide) (fun M4 r4 hq4 => ?_)
  obtain ⟨rfl, h4, f4⟩ := hq4
  have hN4 := (cSh_T h4.1 hg hn).1
  refine j_iconst (v := 2) d_S_elect_42 (by decide) ?_
  refine j_icmp_ge (tgt := 48) d_S_elect_43 (by decide) (fun h43 => ?_) (fun h43 => ?_)
  · have hc : ¬ gC S n (elT n (sT S n)) 3 < 2 := by have := i_le (a := 2) (by decide) (by have := gC_le S n (elT n (sT S n)) 3; omega) h43; omega
    refine j_aload_n d_S_elect_48 rfl ?_
    refine j_iconst (v := 1) d_S_elect_49 (by decide) ?_
    refine j_puti d_S_elect_50 (by assumption) p_S_48_T rfl (by decide) rfl rfl ?_
    have h5 : cR (sI M4 (nd n) 1 1) (eS S n (elT n (sT S n))) := cR_ld h4 hn12
    have hN5 := hN4
    have hnd := cSh_T h5.1 hg hn
    have hne := Nat.ne_of_lt hN4.1
    refine j_aload_n d_S_elect_53 rfl ?_
    refine j_new d_S_elect_54 n_S_68 (by decide) (by decide) (by decide) ?_
    have hN6 := tO.up (M := sI M4 (nd n) 1 1) hN4 5 0
    refine j_dup d_S_elect_57 ?_
    refine j_iload_n d_S_elect_58 rfl ?_
    refine j_callI (vs := [_]) d_S_elect_59 w235 w236 w9 w237 rfl rfl y_E_init (by decide) (by decide) (k_E_init_E (mN (sI M4 (nd n) 1 1) 5 0) (mSz M4) (nI (elT n (sT S n))) (tO.new (sI M4 (nd n) 1 1) 5 0)) rfl (Nat.le_of_ble_eq_true rfl) (by decide) (by decide) (fun M6 r6 hq6 => ?_)
    obtain ⟨rfl, rfl⟩ := hq6
    have hlen6 : mI (sI (mN (sI M4 (nd n) 1 1) 5 0) (mSz M4) 0 (nI (elT n (sT S n)))) (nd n) 3 = nI (sLn S n) := by rw [mm_I_sI, if_neg (fun q => hne q.1), mm_I_mN]; exact (if_neg hne).trans (h5.2 n hn12).2.2.2.2.1.1
    have hr6 : mR (sI (mN (sI M4 (nd n) 1 1) 5 0) (mSz M4) 0 (nI (elT n (sT S n)))) (nd n) 5 = some (nd n + 1) := by rw [mm_R_sI, mm_R_mN]; exact (if_neg hne).trans hnd.2.1
    refine j_callU (owner := "ShardGroups$Node") (vs := [_]) d_S_elect_62 hN6 (by decide) rfl w244 w245 w3 w249 w248 w246 (Or.inl rfl) y_N_write (by decide) (by decide) (k_write_T (sI (mN (sI M4 (nd n) 1 1) 5 0) (mSz M4) 0 (nI (elT n (sT S n)))) (nd n) (sLn S n) (mSz M4) 5 ⟨hN6, hr6, hnd.2.2.up 5 0⟩ hlen6 (hb n hn12).1 (tO.new (sI M4 (nd n) 1 1) 5 0) (by decide) (by decide)) rfl (Nat.le_of_ble_eq_true rfl) (by decide) (by decide) (fun M7 r7 hq7 => ?_)
    have hr7 : ∃ z : Int32, r7 = some (.int z) := by
      split at hq7
      · exact ⟨_, hq7.2⟩
      · exact ⟨_, hq7.2⟩
    have hw := cQ_write h5 hn12 (hb n hn12).1 hk ((onew.rf (sI M4 (nd n) 1 1)).mN.sI (Nat.le_refl _)) (E := eM [(elT n (sT S n)), 0]) (e := mSz M4) (M' := sI (mN (sI M4 (nd n) 1 1) 5 0) (mSz M4) 0 (nI (elT n (sT S n)))) ⟨h4.1.1, by rw [mm_I_sI, if_pos ⟨rfl, rfl⟩]; rfl, Or.inl ⟨rfl, tO.new (sI M4 (nd n) 1 1) 5 0⟩⟩ M7 r7 hq7
    obtain ⟨z, rfl⟩ := hr7
    refine j_pop d_S_elect_65 ?_
    refine j_iload_n d_S_elect_66 rfl ?_
    refine j_ireturn d_S_elect_67 rfl rfl ?_ (by decide) (by decide)
    have eo : oElect S (nI n) = ((oWr (eS S n (elT n (sT S n))) n (eM [(elT n (sT S n)), 0])).1, nI (elT n (sT S n))) := by
      unfold oElect; rw [dN_in hn12 (by decide)]; simp only []; rw [if_pos hu2, if_neg hc]; rfl
    rw [eo]
    exact ⟨rfl, hw.2.1, f4.tr ((fM_nd (i := 0) hn12 (wd0 n) (fM.rf M4)).tr hw.2.2)⟩
  · have hc : gC S n (elT n (sT S n)) 3 < 2 := i_nle (a := 2) (by decide) (by have := gC_le S n (elT n (sT S n)) 3; omega) h43
    refine j_iconst (v := 0) d_S_elect_46 (by decide) ?_
    refine j_ireturn d_S_elect_47 rfl rfl ?_ (by decide) (by decide)
    unfold cQ
    have eo : oElect S (nI n) = (gS S n (elT n (sT S n)) 3, 0) := by
      unfold oElect; rw [dN_in hn12 (by decide)]; simp only []; rw [if_pos hu2, if_pos hc]
    rw [eo]
    exact ⟨rfl, h4, f4⟩
theorem c_elect (M : aM) (S : aS) (t : Nat) (x : Int32) (h : cR M S) (hi : sInv S t) (ht : t < 300000) : aK m_S_elect 4 1 1 M [.ref 0, .int x] (cQ M (oElect S x)) := by
  have hT : ∀ m, m < 12 → sT S m < 999990 := fun m hm => by have := (hi.1 m hm).2.2.1; omega
  rcases dN_cases x (N := 12) (by decide) with ⟨e, hx⟩ | ⟨n, hn, rfl, e⟩
  · refine (k_elect_n M x h.1 (Or.inl hx)).weaken ?_
    rintro M1 r ⟨rfl, rfl⟩
    unfold oElect; rw [e]
    exact ⟨rfl, h, fM.rf _⟩
  · cases hu : sUp S n
    · refine (k_elect_n M (nI n) h.1 (h.n (Or.inr ⟨n, hn, rfl, hu⟩))).weaken ?_
      rintro M1 r ⟨rfl, rfl⟩
      unfold oElect; rw [e]; simp only [hu]
      exact ⟨rfl, h, fM.rf _⟩
    · by_cases h3 : n < 3
      · exact k_elect_V M S n h hi.lgB h3 hT (hi.1 n hn).2.1 hu
      · exact k_elect_T M S n h hi.lgB (by omega) hn hT (hi.1 n hn).2.1 hu
