theorem cR_learn {M M1 : aM} {S : aS} {n K : Nat} (h : cR M S) (hn : n < 12) (c : chg M M1 n) (hv : n < 3 → svR M1 n (svc (sLg S n) K)) (hg : 3 ≤ n → gpR M1 n (grp (n / 3) (sLg S n) K)) :
    cR (sI M1 (nd n) 4 (nI K)) (sUp S, sLd S, sT S, sLn S, fu (sKn S) n K, sLg S) ∧ fM M (sI M1 (nd n) 4 (nI K)) := by
  obtain ⟨c1, c2, c3, c4, c5, c6, c7⟩ := c
  have st1 : stb M1 (sI M1 (nd n) 4 (nI K)) := stb_nd hn (stb.rf M1)
  have st : stb M (sI M1 (nd n) 4 (nI K)) := c1.tr st1
  refine ⟨⟨cSh_sI c3 (Or.inl (by decide)), fun m hm => ?_⟩, c2.tr (fM_nd (i := 0) hn (wd0 n) (fM.rf M1))⟩
  by_cases e : m = n
  · subst e
    obtain ⟨a0, a1, a2, a4, a5, a6, a7⟩ := h.2 m hm
    have I : ∀ k, k ≠ 4 → k ≠ 7 → mI (sI M1 (nd m) 4 (nI K)) (nd m) k = mI M (nd m) k := fun k h4 h7 => by
      rw [mm_I_sI, if_neg (fun z => h4 z.2)]; exact c5 k h7
    refine ⟨(I 0 (by decide) (by decide)).trans a0, (I 1 (by decide) (by decide)).trans a1, (I 2 (by decide) (by decide)).trans a2, ?_, a5.keep st (I 3 (by decide) (by decide)) (fun k => by rw [mm_R_sI]; exact c7.2.2.2 k) rfl rfl, fun h3 => ?_, fun h3 => ?_⟩
    · rw [mm_I_sI, if_pos ⟨rfl, rfl⟩]; show nI K = nI (fu (sKn S) m K m); rw [fu_s]
    · have e9 : sSv (sUp S, sLd S, sT S, sLn S, fu (sKn S) m K, sLg S) m = svc (sLg S m) K := by
        show svc (sLg S m) (fu (sKn S) m K m) = _
        rw [fu_s]
      rw [e9]
      exact (hv h3).keep st1 (by rw [mm_I_sI, if_neg (by omega)]) (fun k => by rw [mm_R_sI])
    · have e9 : sGp (sUp S, sLd S, sT S, sLn S, fu (sKn S) m K, sLg S) m = grp (m / 3) (sLg S m) K := by
        show grp (m / 3) (sLg S m) (fu (sKn S) m K m) = _
        rw [fu_s]
      rw [e9]
      exact (hg h3).keep st1 (by rw [mm_I_sI, if_neg (by omega)]) (by rw [mm_R_sI]) (fun i h1 h2 k => by rw [mm_I_sI, if_neg (by omega)])
  · exact (h.2 m hm).keep st (fun i hi => (c4 _ (nd_in hm hi).2 (fun j hj => nd_apart hm hn e hi hj)).sI (by have := nd_apart (j := 0) hm hn e hi (wd0 n); omega)) rfl rfl rfl rfl (fu_n _ _ e) rfl
def lnS (S : aS) (n cnt : Nat) : aS := (sUp S, sLd S, sT S, sLn S, fu (sKn S) n (max (sKn S n) (min cnt (sLn S n))), sLg S)

set_option maxRecDepth 20000 in
set_option maxHeartbeats 1000000 in
theorem k_learn_V (M : aM) (S : aS) (n cnt : Nat) (h : cR M S) (hg : n < 3) (h80 : sLn S n ≤ 80) (hk : sKn S n ≤ sLn S n) (hE : ∀ k, k < sLn S n → eV (sLg S n k)) (hcnt : cnt < 1000000) : aK m_N_learn 5 320 1520 M [.ref (nd n), .int (nI cnt)] (fun M1 r => r = none ∧ cR M1 (lnS S n cnt) ∧ fM M M1) := by
  refine aK.of (by decide) (Nat.le_of_ble_eq_true rfl) ?_
  have hn12 : n < 12 := by omega
  obtain ⟨hN, hN5, hNA⟩ := cSh_V h.1 hg
  obtain ⟨a0, a1, a2, a4, ⟨a5, a6⟩, a7, a8⟩ := h.2 n hn12
  have loop : ∀ (k i : Nat) (M1 : aM), i + k = max (sKn S n) (min cnt (sLn S n)) → sKn S n ≤ i → chg M M1 n → svR M1 n (svc (sLg S n) i) → aJ aX0 m_N_learn 5 320 1520 (fun M1 r => r = none ∧ cR M1 (lnS S n cnt) ∧ fM M M1) (4 * (i - sKn S n)) (19 * (i - sKn S n)) 14 [some (.ref (nd n)), some (.int (nI cnt)), some (.int (nI (min cnt (sLn S n)))), some (.int (nI i))] [] M1 := by
    intro k
    induction k with
    | zero =>
      intro i M1 hi hki hc hv
      have hN1 := hc.1
      have hNn := (cSh_V hc.2.2.1 hg).1
      have e4 : mI M1 (nd n) 4 = nI (sKn S n) := (hc.2.2.2.2.1 4 (by decide)).trans a4
      refine j_iload_n d_N_learn_14 rfl ?_
      refine j_iload_n d_N_learn_15 rfl ?_
      refine j_icmp_ge (tgt := 35) d_N_learn_16 (by decide) (fun h16 => ?_) (fun h16 => False.elim (h16 (nI_le (by omega) (by omega))))
      refine j_aload_n d_N_learn_35 rfl ?_
      refine j_aload_n d_N_learn_36 rfl ?_
      refine j_geti d_N_learn_37 hNn f_N_58_V rfl (by decide) ?_
      refine j_eqi e4 ?_
      refine j_iload_n d_N_learn_40 rfl ?_
      refine j_max d_N_learn_41 w415 w416 w8 w417 (by decide) (Nat.le_of_ble_eq_true rfl) (by omega) (by omega) ?_
      refine j_eqi (i_max (by omega) (by omega)) ?_
      refine j_puti d_N_learn_44 hNn p_N_58_V rfl (by decide) rfl rfl ?_
      refine j_return d_N_learn_47 rfl ?_ (by omega) (by omega)
      have hz := cR_learn h hn12 hc (fun _ => hv) (fun z => absurd z (by omega))
      rw [show i = max (sKn S n) (min cnt (sLn S n)) by omega] at hz
      exact ⟨rfl, hz⟩
    | succ k ih =>
      intro i M1 hi hki hc hv
      have hil : i < min cnt (sLn S n) := by omega
      obtain ⟨hNn, hNn5, hNnA⟩ := cSh_V hc.2.2.1 hg
      have hc1 := hc.2.2.1
      obtain ⟨e, b1, b2⟩ := a6 i (by omega)
      have he := b2.st hc.1
      have b3 : mR M1 (nd n + 1) i = some e := (hc.2.2.2.2.2.2.2.2.2 i).trans b1
      refine j_iload_n d_N_learn_14 rfl ?_
      refine j_iload_n d_N_learn_15 rfl ?_
      refine j_icmp_ge (tgt := 35) d_N_learn_16 (by decide) (fun h16 => False.elim (nI_ge (a := i) (b := min cnt (sLn S n)) (by omega) (by omega) h16)) (fun h16 => ?_)
      refine j_aload_n d_N_learn_19 rfl ?_
      refine j_aload_n d_N_learn_20 rfl ?_
      refine j_getR d_N_learn_21 hNn f_N_17_V rfl (by decide) hNn5 ?_
      refine j_iload_n d_N_learn_24 rfl ?_
      refine j_aaldR d_N_learn_25 hNnA (by decide) ts_106 (aIx.n (by omega) (by decide)) b3 ?_
      refine j_callU (owner := "ShardGroups$Node") (vs := [_]) d_N_learn_26 hNn (by decide) rfl w291 w295 w4 w296 w294 w293 (Or.inr (Or.inr nw9)) y_N_carryOut (by decide) (by decide) (k_carryOut_V M1 n e (svc (sLg S n) i) (sLg S n i) hc1 hg hv (svV_svc i (fun k hk => hE k (by omega))) he (hE i (by omega))) rfl (Nat.le_of_ble_eq_true rfl) (by omega) (by omega) (fun M2 r2 hq2 => ?_)
      obtain ⟨rfl, hv2, hc2⟩ := hq2
      refine j_iinc (nI (i + 1)) d_N_learn_29 rfl (nI_inc i) (by decide) ?_
      refine j_goto 14 d_N_learn_32 (by decide) ?_
      -- at 14
      refine j_widen (uc1 := 4 * (i + 1 - sKn S n)) (us1 := 19 * (i + 1 - sKn S n)) (by omega) (by omega) ?_
      exact ih (i + 1) M2 (by omega) (by omega) (hc.tr hc2) hv2
  refine j_iload_n d_N_learn_0 rfl ?_
  refine j_aload_n d_N_learn_1 rfl ?_
  refine j_geti d_N_learn_2 hN f_N_40_V rfl (by decide) ?_
  refine j_eqi a5 ?_
  refine j_min d_N_learn_5 w267 w268 w8 w269 (by decide) (Nat.le_of_ble_eq_true rfl) (by decide) (by decide) ?_
  refine j_eqi (i_min (by omega) (by omega)) ?_
  refine j_istore_n d_N_learn_8 (by decide) ?_
  refine j_aload_n d_N_learn_9 rfl ?_
  refine j_geti d_N_learn_10 hN f_N_58_V rfl (by decide) ?_
  refine j_eqi a4 ?_
  refine j_istore_n d_N_learn_13 (by decide) ?_
  -- at 14
  refine j_widen (uc1 := 4 * (sKn S n - sKn S n)) (us1 := 19 * (sKn S n - sKn S n)) (by omega) (by omega) ?_
  exact loop (max (sKn S n) (min cnt (sLn S n)) - sKn S n) (sKn S n) M (by omega) (Nat.le_refl _) (chg.rf h.1) (a7 hg)
set_option maxRecDepth 20000 in
set_option maxHeartbeats 1000000 in
theorem k_learn_T (M : aM) (S : aS) (n cnt : Nat) (h : cR M S) (hg : 3 ≤ n) (hn : n < 12) (h80 : sLn S n ≤ 80) (hk : sKn S n ≤ sLn S n) (hE : ∀ k, k < sLn S n → eV (sLg S n k)) (hcnt : cnt < 1000000) : aK m_N_learn 5 320 1520 M [.ref (nd n), .int (nI cnt)] (fun M1 r => r = none ∧ cR M1 (lnS S n cnt) ∧ fM M M1) := by
  refine aK.of (by decide) (Nat.le_of_ble_eq_true rfl) ?_
  have hn12 : n < 12 := by omega
  obtain ⟨hN, hN5, hNA⟩ := cSh_T h.1 hg hn
  obtain ⟨a0, a1, a2, a4, ⟨a5, a6⟩, a7, a8⟩ := h.2 n hn12
  have loop : ∀ (k i : Nat) (M1 : aM), i + k = max (sKn S n) (min cnt (sLn S n)) → sKn S n ≤ i → chg M M1 n → gpR M1 n (grp (n / 3) (sLg S n) i) → aJ aX0 m_N_learn 5 320 1520 (fun M1 r => r = none ∧ cR M1 (lnS S n cnt) ∧ fM M M1) (4 * (i - sKn S n)) (19 * (i - sKn S n)) 14 [some (.ref (nd n)), some (.int (nI cnt)), some (.int (nI (min cnt (sLn S n)))), some (.int (nI i))] [] M1 := by
    intro k
    induction k with
    | zero =>
      intro i M1 hi hki hc hv
      have hN1 := hc.1
      have hNn := (cSh_T hc.2.2.1 hg hn).1
      have e4 : mI M1 (nd n) 4 = nI (sKn S n) := (hc.2.2.2.2.1 4 (by decide)).trans a4
      refine j_iload_n d_N_learn_14 rfl ?_
      refine j_iload_n d_N_learn_15 rfl ?_
      refine j_icmp_ge (tgt := 35) d_N_learn_16 (by decide) (fun h16 => ?_) (fun h16 => False.elim (h16 (nI_le (by omega) (by omega))))
      refine j_aload_n d_N_learn_35 rfl ?_
      refine j_aload_n d_N_learn_36 rfl ?_
      refine j_geti d_N_learn_37 hNn f_N_58_T rfl (by decide) ?_
      refine j_eqi e4 ?_
      refine j_iload_n d_N_learn_40 rfl ?_
      refine j_max d_N_learn_41 w415 w416 w8 w417 (by decide) (Nat.le_of_ble_eq_true rfl) (by omega) (by omega) ?_
      refine j_eqi (i_max (by omega) (by omega)) ?_
      refine j_puti d_N_learn_44 hNn p_N_58_T rfl (by decide) rfl rfl ?_
      refine j_return d_N_learn_47 rfl ?_ (by omega) (by omega)
      have hz := cR_learn h hn12 hc (fun z => absurd z (by omega)) (fun _ => hv)
      rw [show i = max (sKn S n) (min cnt (sLn S n)) by omega] at hz
      exact ⟨rfl, hz⟩
    | succ k ih =>
      intro i M1 hi hki hc hv
      have hil : i < min cnt (sLn S n) := by omega
      obtain ⟨hNn, hNn5, hNnA⟩ := cSh_T hc.2.2.1 hg hn
      have hc1 := hc.2.2.1
      obtain ⟨e, b1, b2⟩ := a6 i (by omega)
      have he := b2.st hc.1
      have b3 : mR M1 (nd n + 1) i = some e := (hc.2.2.2.2.2.2.2.2.2 i).trans b1
      refine j_iload_n d_N_learn_14 rfl ?_
      refine j_iload_n d_N_learn_15 rfl ?_
      refine j_icmp_ge (tgt := 35) d_N_learn_16 (by decide) (fun h16 => False.elim (nI_ge (a := i) (b := min cnt (sLn S n)) (by omega) (by omega) h16)) (fun h16 => ?_)
      refine j_aload_n d_N_learn_19 rfl ?_
      refine j_aload_n d_N_learn_20 rfl ?_
      refine j_getR d_N_learn_21 hNn f_N_17_T rfl (by decide) hNn5 ?_
      refine j_iload_n d_N_learn_24 rfl ?_
      refine j_aaldR d_N_learn_25 hNnA (by decide) ts_106 (aIx.n (by omega) (by decide)) b3 ?_
      refine j_callU (owner := "ShardGroups$Node") (vs := [_]) d_N_learn_26 hNn (by decide) rfl w291 w364 w5 w365 w363 w293 (Or.inr (Or.inr nw9)) y_N_carryOut (by decide) (by decide) (k_carryOut_T M1 n (grp (n / 3) (sLg S n) i) hc1 hg hn hv (gpV_grp (by omega) i (fun k hk => hE k (by omega))) e (sLg S n i) (hE i (by omega)) he) rfl (Nat.le_of_ble_eq_true rfl) (by omega) (by omega) (fun M2 r2 hq2 => ?_)
      obtain ⟨rfl, hv2, hc2⟩ := hq2
      refine j_iinc (nI (i + 1)) d_N_learn_29 rfl (nI_inc i) (by decide) ?_
      refine j_goto 14 d_N_learn_32 (by decide) ?_
      -- at 14
      refine j_widen (uc1 := 4 * (i + 1 - sKn S n)) (us1 := 19 * (i + 1 - sKn S n)) (by omega) (by omega) ?_
      exact ih (i + 1) M2 (by omega) (by omega) (hc.tr hc2) hv2
  refine j_iload_n d_N_learn_0 rfl ?_
  refine j_aload_n d_N_learn_1 rfl ?_
  refine j_geti d_N_learn_2 hN f_N_40_T rfl (by decide) ?_
  refine j_eqi a5 ?_
  refine j_min d_N_learn_5 w267 w268 w8 w269 (by decide) (Nat.le_of_ble_eq_true rfl) (by decide) (by decide) ?_
  refine j_eqi (i_min (by omega) (by omega)) ?_
  refine j_istore_n d_N_learn_8 (by decide) ?_
  refine j_aload_n d_N_learn_9 rfl ?_
  refine j_geti d_N_learn_10 hN f_N_58_T rfl (by decide) ?_
  refine j_eqi a4 ?_
  refine j_istore_n d_N_learn_13 (by decide) ?_
  -- at 14
  refine j_widen (uc1 := 4 * (sKn S n - sKn S n)) (us1 := 19 * (sKn S n - sKn S n)) (by omega) (by omega) ?_
  exact loop (max (sKn S n) (min cnt (sLn S n)) - sKn S n) (sKn S n) M (by omega) (Nat.le_refl _) (chg.rf h.1) (a8 hg)
