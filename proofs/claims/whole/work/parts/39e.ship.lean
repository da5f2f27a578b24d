theorem i_dec (i : Nat) : nI i + Int32.ofInt (-1) = nI i - 1 := by rw [Int32.sub_eq_add_neg, show Int32.ofInt (-1) = -1 by decide]
theorem i_pred (i : Nat) : nI (i + 1) - 1 = nI i := pk_sub (b := 1) (by omega)
theorem cR_cut {M : aM} {S : aS} {b k : Nat} (h : cR M S) (hb : b < 12) (hk : k ≤ sLn S b) : cR (sI M (nd b) 3 (nI k)) (cuS S b k) ∧ fM M (sI M (nd b) 3 (nI k)) := by
  have st : stb M (sI M (nd b) 3 (nI k)) := stb_nd hb (stb.rf M)
  refine ⟨⟨cSh_sI h.1 (Or.inl (by decide)), fun m hm => ?_⟩, fM_nd (i := 0) hb (wd0 b) (fM.rf M)⟩
  by_cases e : m = b
  · subst e
    obtain ⟨a0, a1, a2, a4, ⟨a5, a6⟩, a7, a8⟩ := h.2 m hm
    have I : ∀ j, j ≠ 3 → mI (sI M (nd m) 3 (nI k)) (nd m) j = mI M (nd m) j := fun j h4 => by
      rw [mm_I_sI, if_neg (fun z => h4 z.2)]
    refine ⟨(I 0 (by decide)).trans a0, (I 1 (by decide)).trans a1, (I 2 (by decide)).trans a2, (I 4 (by decide)).trans a4, ⟨?_, fun j hj => ?_⟩, fun h3 => (a7 h3).keep st (I 7 (by decide)) (fun k => by rw [mm_R_sI]), fun h3 => (a8 h3).keep st (I 7 (by decide)) (by rw [mm_R_sI]) (fun i h1 h2 k => by rw [mm_I_sI, if_neg (by omega)])⟩
    · rw [mm_I_sI, if_pos ⟨rfl, rfl⟩]; show nI k = nI (fu (sLn S) m k m); rw [fu_s]
    · have hj' : j < fu (sLn S) m k m := hj
      rw [fu_s] at hj'
      obtain ⟨e, b1, b2⟩ := a6 j (by omega)
      exact ⟨e, by rw [mm_R_sI]; exact b1, b2.st st⟩
  · exact (h.2 m hm).keep st (sm_other (i := 0) hm hb e (wd0 b) (fun j _ => sm.rf M _)) rfl rfl rfl (fu_n _ _ e) rfl rfl
theorem cR_lost {M : aM} {S : aS} {m : Nat} (h : cR M S) (hm : m < 12) : cR (sI M (nd m) 1 0) (sUp S, fu (sLd S) m false, sT S, sLn S, sKn S, sLg S) := by
  have st : stb M (sI M (nd m) 1 0) := stb_nd hm (stb.rf M)
  refine ⟨cSh_sI h.1 (Or.inl (by decide)), fun j hj => ?_⟩
  by_cases hmn : j = m
  · subst hmn
    refine (h.2 j hj).flags st (fun i h1 h2 => (sm.rf M _).sI (by omega)) (fun k => rfl) (fun k hk => by simp only [mm_I_sI]; rw [if_neg (by omega)]) rfl rfl rfl ?_ ?_ ?_
    · simp only [mm_I_sI]; exact (h.2 j hj).1
    · simp only [mm_I_sI]; show _ = bI (fu (sLd S) j false j); rw [fu_s]; rfl
    · simp only [mm_I_sI]; exact (h.2 j hj).2.2.1
  · exact (h.2 j hj).keep st (sm_other (i := 0) hj hm hmn (wd0 m) (fun j _ => sm.rf M _)) rfl (fu_n _ _ hmn) rfl rfl rfl rfl
theorem fu_fu {α : Type} (f : Nat → α) (n : Nat) (u v : α) : fu (fu f n u) n v = fu f n v := by
  funext i
  by_cases e : i = n
  · rw [e, fu_s, fu_s]
  · rw [fu_n _ _ e, fu_n _ _ e, fu_n _ _ e]
theorem shR_raise {S : aS} {a b : Nat} (h : sT S b < sT S a) : shR S a b = (sUp S, fu (sLd S) b false, fu (sT S) b (sT S a), sLn S, sKn S, sLg S) := by
  unfold shR
  rw [show (sLd S b && decide (sT S b = sT S a)) = false by rw [decide_eq_false (by omega)]; cases sLd S b <;> rfl]
theorem shR_same {S : aS} {a b : Nat} (h : sT S b = sT S a) : shR S a b = S := by
  unfold shR
  rw [show (sLd S b && decide (sT S b = sT S a)) = sLd S b by rw [decide_eq_true h]; cases sLd S b <;> rfl, ← h, fu_id, fu_id]
  rfl
theorem shW_eq {S : aS} {a b k : Nat} (hk : k < 80) : shW S a b k = (oWr (cuS S b k) b (sLg S a k)).1 := by
  unfold oWr
  have e : sLn (cuS S b k) b = k := fu_s _ _ _
  rw [if_neg (by omega), e]
  show _ = (sUp S, sLd S, sT S, fu (fu (sLn S) b k) b (k + 1), sKn S, fu (sLg S) b (fu (sLg S b) k (sLg S a k)))
  rw [fu_fu]
  rfl

set_option maxRecDepth 20000 in
set_option maxHeartbeats 1000000 in
theorem k_countCopies_V (M : aM) (S : aS) (n p t : Nat) (h : cR M S) (hb : lgB S) (hg : n < 3) (hp : p < 1000000) (ht : t < 1000000) : aK m_S_countCopies 1 0 0 M [.ref 0, .int (nI (n / 3)), .int (nI p), .int (nI t)] (fun M1 r => M1 = M ∧ r = some (.int (nI (cpC S n p t 3)))) := by
  refine aK.of (by decide) (Nat.le_of_ble_eq_true rfl) ?_
  have h0 := h.1.2.1
  have hr0 := h.1.2.2.1
  have hr1 := h.1.2.2.2.1
  have hr2 := h.1.2.2.2.2.1
  have hA1 := h.1.2.2.2.2.2.1
  have hA2 := h.1.2.2.2.2.2.2.1
  have hA3 := h.1.2.2.2.2.2.2.2.1
  have loop : ∀ (k i : Nat), i + k = 3 → aJ aX0 m_S_countCopies 1 0 0 (fun M1 r => M1 = M ∧ r = some (.int (nI (cpC S n p t 3)))) 0 0 6 [some (.ref 0), some (.int (nI (n / 3))), some (.int (nI p)), some (.int (nI t)), some (.int (nI (cpC S n p t i))), some (.int (nI i))] [] M := by
    intro k
    induction k with
    | zero =>
      intro i hi
      have e3 : i = 3 := by omega
      subst e3
      refine j_iload d_S_countCopies_6 rfl ?_
      refine j_iconst (v := 3) d_S_countCopies_8 (by decide) ?_
      refine j_icmp_ge (tgt := 40) d_S_countCopies_9 (by decide) (fun h9 => ?_) (fun h9 => False.elim (h9 (nI_le (by decide) (by decide))))
      refine j_iload d_S_countCopies_40 rfl ?_
      refine j_ireturn d_S_countCopies_42 rfl rfl ⟨rfl, rfl⟩ (by decide) (by decide)
    | succ k ih =>
      intro i hi
      have hm : 3 * (n / 3) + i < 12 := by omega
      have hB := cSh_V h.1 (show (3 * (n / 3) + i) < 3 by omega)
      have hNB := hB.1
      refine j_iload d_S_countCopies_6 rfl ?_
      refine j_iconst (v := 3) d_S_countCopies_8 (by decide) ?_
      refine j_icmp_ge (tgt := 40) d_S_countCopies_9 (by decide) (fun h9 => False.elim (nI_ge (b := 3) (by omega) (by decide) h9)) (fun h9 => ?_)
      refine j_aload_n d_S_countCopies_12 rfl ?_
      refine j_getR d_S_countCopies_13 (by assumption) f_S_11_S rfl (by decide) (by assumption) ?_
      refine j_iload_n d_S_countCopies_16 rfl ?_
      refine j_iconst (v := 3) d_S_countCopies_17 (by decide) ?_
      refine j_imul d_S_countCopies_18 ?_
      refine j_iload d_S_countCopies_19 rfl ?_
      refine j_iadd d_S_countCopies_21 ?_
      refine j_eqi (show nI (n / 3) * 3 + nI i = nI (3 * (n / 3) + i) by rw [show nI (n / 3) * 3 = nI (n / 3 * 3) from pk_mul _ _, nI_add]; congr 1; omega) ?_
      refine j_aaldR d_S_countCopies_22 (by assumption) (by decide) ts_102 (aIx.n hm (by decide)) (h.1.2.2.2.2.2.2.2.2.1 _ hm).1 ?_
      refine j_iload_n d_S_countCopies_23 rfl ?_
      refine j_iload_n d_S_countCopies_24 rfl ?_
      refine j_callU (owner := "ShardGroups$Node") (vs := [_, _]) d_S_countCopies_25 hNB (by decide) rfl w275 w276 w3 w280 w278 w277 (Or.inl rfl) y_N_hasEntry (by decide) (by decide) (k_hasEntry_V M (nd (3 * (n / 3) + i)) (sLn S (3 * (n / 3) + i)) p t (sTm S (3 * (n / 3) + i)) hB (h.lgT hb hm) hp ht) rfl (Nat.le_of_ble_eq_true rfl) (by decide) (by decide) (fun M2 r2 hq2 => ?_)
      obtain ⟨rfl, rfl⟩ := hq2
      refine j_if_eq (tgt := 34) d_S_countCopies_28 (by decide) (fun h28 => ?_) (fun h28 => ?_)
      · have hC : cpC S n p t (i + 1) = cpC S n p t i := by show cpC S n p t i + (if (p < sLn S (3 * (n / 3) + i) ∧ sTm S (3 * (n / 3) + i) p = t) then 1 else 0) = _; rw [if_neg (fun q => by rw [bP_t q] at h28; exact absurd h28 (by decide))]; rfl
        refine j_iinc (nI (i + 1)) d_S_countCopies_34 rfl (nI_inc i) (by decide) ?_
        refine j_goto 6 d_S_countCopies_37 (by decide) ?_
        -- at 6
        have e9 := ih (i + 1) (by omega)
        rw [hC] at e9
        exact e9
      · have hC : cpC S n p t (i + 1) = cpC S n p t i + 1 := by show cpC S n p t i + (if (p < sLn S (3 * (n / 3) + i) ∧ sTm S (3 * (n / 3) + i) p = t) then 1 else 0) = _; rw [if_pos (Decidable.byContradiction (fun q => h28 (bP_f q)))]
        refine j_iinc (nI (cpC S n p t i + 1)) d_S_countCopies_31 rfl (nI_inc _) (by decide) ?_
        refine j_iinc (nI (i + 1)) d_S_countCopies_34 rfl (nI_inc i) (by decide) ?_
        refine j_goto 6 d_S_countCopies_37 (by decide) ?_
        -- at 6
        have e9 := ih (i + 1) (by omega)
        rw [hC] at e9
        exact e9
  refine j_iconst (v := 0) d_S_countCopies_0 (by decide) ?_
  refine j_istore d_S_countCopies_1 (by decide) ?_
  refine j_iconst (v := 0) d_S_countCopies_3 (by decide) ?_
  refine j_istore d_S_countCopies_4 (by decide) ?_
  -- at 6
  exact loop 3 0 (by decide)
set_option maxRecDepth 20000 in
set_option maxHeartbeats 1000000 in
theorem k_countAgreed_V (M : aM) (S : aS) (n : Nat) (h : cR M S) (hb : lgB S) (hg : n < 3) (hT : sT S n < 1000000) : aK m_S_countAgreed 2 0 0 M [.ref 0, .ref (nd n), .int (nI (n / 3))] (fun M1 r => M1 = M ∧ r = some (.int (nI (ag0 S n (sLn S n))))) := by
  refine aK.of (by decide) (Nat.le_of_ble_eq_true rfl) ?_
  have h0 := h.1.2.1
  have hr0 := h.1.2.2.1
  have hr1 := h.1.2.2.2.1
  have hr2 := h.1.2.2.2.2.1
  have hA1 := h.1.2.2.2.2.2.1
  have hA2 := h.1.2.2.2.2.2.2.1
  have hA3 := h.1.2.2.2.2.2.2.2.1
  have hB := cSh_V h.1 (show n < 3 by omega)
  have hNB := hB.1
  have hn12 : n < 12 := by omega
  have t2 : mI M (nd n) 2 = nI (sT S n) := (h.2 n hn12).2.2.1
  have t3 : mI M (nd n) 3 = nI (sLn S n) := (h.2 n hn12).2.2.2.2.1.1
  have l80 := (hb n hn12).1
  have loop : ∀ (i : Nat), i ≤ sLn S n → ag0 S n (sLn S n) = ag0 S n i → aJ aX0 m_S_countAgreed 2 0 0 (fun M1 r => M1 = M ∧ r = some (.int (nI (ag0 S n (sLn S n))))) 0 0 7 [some (.ref 0), some (.ref (nd n)), some (.int (nI (n / 3))), some (.int (nI i - 1))] [] M := by
    intro i
    induction i with
    | zero =>
      intro hi he
      refine j_iload_n d_S_countAgreed_7 rfl ?_
      refine j_if_lt (tgt := 47) d_S_countAgreed_8 (by decide) (fun h8 => ?_) (fun h8 => False.elim (h8 (by decide)))
      refine j_iconst (v := 0) d_S_countAgreed_47 (by decide) ?_
      refine j_ireturn d_S_countAgreed_48 rfl rfl ⟨rfl, by rw [he]; rfl⟩ (by decide) (by decide)
    | succ i ih =>
      intro hi he
      rw [i_pred]
      have hA : ag0 S n (i + 1) = if (sTm S n i = sT S n ∧ 2 ≤ cpC S n i (sT S n) 3) then i + 1 else ag0 S n i := rfl
      have cl := cpC_le S n i (sT S n) 3
      refine j_iload_n d_S_countAgreed_7 rfl ?_
      refine j_if_lt (tgt := 47) d_S_countAgreed_8 (by decide) (fun h8 => False.elim (nI_pos (by omega) h8)) (fun h8 => ?_)
      refine j_aload_n d_S_countAgreed_11 rfl ?_
      refine j_iload_n d_S_countAgreed_12 rfl ?_
      refine j_aload_n d_S_countAgreed_13 rfl ?_
      refine j_geti d_S_countAgreed_14 hNB f_S_54_V rfl (by decide) ?_
      refine j_eqi t2 ?_
      refine j_callU (owner := "ShardGroups$Node") (vs := [_, _]) d_S_countAgreed_17 hNB (by decide) rfl w275 w276 w3 w280 w278 w277 (Or.inl rfl) y_N_hasEntry (by decide) (by decide) (k_hasEntry_V M (nd n) (sLn S n) i (sT S n) (sTm S n) hB (h.lgT hb hn12) (by omega) hT) rfl (Nat.le_of_ble_eq_true rfl) (by decide) (by decide) (fun M2 r2 hq2 => ?_)
      obtain ⟨rfl, rfl⟩ := hq2
      refine j_if_eq (tgt := 41) d_S_countAgreed_20 (by decide) (fun h20 => ?_) (fun h20 => ?_)
      · have hno : ag0 S n (i + 1) = ag0 S n i := by rw [hA, if_neg (fun q => by rw [bP_t ⟨by omega, q.1⟩] at h20; exact absurd h20 (by decide))]
        refine j_iinc (nI i - 1) d_S_countAgreed_41 rfl (i_dec i) (by decide) ?_
        refine j_goto 7 d_S_countAgreed_44 (by decide) ?_
        -- at 7
        exact ih (by omega) (he.trans hno)
      · have hq : i < sLn S n ∧ sTm S n i = sT S n := Decidable.byContradiction (fun q => h20 (bP_f q))
        refine j_aload_n d_S_countAgreed_23 rfl ?_
        refine j_iload_n d_S_countAgreed_24 rfl ?_
        refine j_iload_n d_S_countAgreed_25 rfl ?_
        refine j_aload_n d_S_countAgreed_26 rfl ?_
        refine j_geti d_S_countAgreed_27 hNB f_S_54_V rfl (by decide) ?_
        refine j_eqi t2 ?_
        refine j_callV (vs := [_, _, _]) d_S_countAgreed_30 (by assumption) (by decide) rfl w281 w283 w1 w284 ws_S_countCopies y_S_countCopies (by decide) (by decide) (k_countCopies_V M2 S n i (sT S n) h hb hg (by omega) hT) rfl (Nat.le_of_ble_eq_true rfl) (by decide) (by decide) (fun M3 r3 hq3 => ?_)
        obtain ⟨rfl, rfl⟩ := hq3
        refine j_iconst (v := 2) d_S_countAgreed_33 (by decide) ?_
        refine j_icmp_lt (tgt := 41) d_S_countAgreed_34 (by decide) (fun h34 => ?_) (fun h34 => ?_)
        · have hno : ag0 S n (i + 1) = ag0 S n i := by rw [hA, if_neg (fun q => by have := i_lt (b := 2) (by omega) (by decide) h34; omega)]
          refine j_iinc (nI i - 1) d_S_countAgreed_41 rfl (i_dec i) (by decide) ?_
          refine j_goto 7 d_S_countAgreed_44 (by decide) ?_
          -- at 7
          exact ih (by omega) (he.trans hno)
        · have hyes : ag0 S n (i + 1) = i + 1 := by rw [hA, if_pos ⟨hq.2, i_nlt (b := 2) (by omega) (by decide) h34⟩]
          refine j_iload_n d_S_countAgreed_37 rfl ?_
          refine j_iconst (v := 1) d_S_countAgreed_38 (by decide) ?_
          refine j_iadd d_S_countAgreed_39 ?_
          refine j_ireturn d_S_countAgreed_40 rfl rfl ⟨rfl, by rw [he, hyes, nI_succ]⟩ (by decide) (by decide)
  refine j_aload_n d_S_countAgreed_0 rfl ?_
  refine j_geti d_S_countAgreed_1 hNB f_S_94_V rfl (by decide) ?_
  refine j_eqi t3 ?_
  refine j_iconst (v := 1) d_S_countAgreed_4 (by decide) ?_
  refine j_isub d_S_countAgreed_5 ?_
  refine j_istore_n d_S_countAgreed_6 (by decide) ?_
  -- at 7
  exact loop (sLn S n) (Nat.le_refl _) rfl
set_option maxRecDepth 20000 in
set_option maxHeartbeats 1000000 in
theorem k_copyNextFrom_V (M : aM) (S : aS) (a b : Nat) (h : cR M S) (hl : lgB S) (ga : a < 3) (gb : b < 3) (hab : a ≠ b) (hkn : ∀ k, rCS (sLn S b) (sLn S a) (sTm S b) (sTm S a) k → sKn S b ≤ k) : aK m_N_copyNextFrom 2 0 0 M [.ref (nd b), .ref (nd a)] (fun M1 r => r = none ∧ ∃ k, rCS (sLn S b) (sLn S a) (sTm S b) (sTm S a) k ∧ cR M1 (shC S a b k) ∧ fM M M1) := by
  refine aK.of (by decide) (Nat.le_of_ble_eq_true rfl) ?_
  have a12 : a < 12 := by omega
  have b12 : b < 12 := by omega
  have hA := cSh_V h.1 (show a < 3 by omega)
  have hB := cSh_V h.1 (show b < 3 by omega)
  have hNA := hA.1
  have hNB := hB.1
  have la80 := (hl a a12).1
  have lb80 := (hl b b12).1
  have nab : nd a ≠ nd b := nd_apart (i := 0) (j := 0) a12 b12 hab (wd0 a) (wd0 b)
  refine j_aload_n d_N_copyNextFrom_0 rfl ?_
  refine j_aload_n d_N_copyNextFrom_1 rfl ?_
  refine j_aload_n d_N_copyNextFrom_2 rfl ?_
  refine j_callU (owner := "ShardGroups$Node") (vs := [_]) d_N_copyNextFrom_3 hNB (by decide) rfl w261 w262 w3 w266 w264 w263 (Or.inl rfl) y_N_countSame (by decide) (by decide) (k_countSame_V M (nd b) (nd a) (sLn S b) (sLn S a) (sTm S b) (sTm S a) hB hA (h.lgT hl b12) (h.lgT hl a12)) rfl (Nat.le_of_ble_eq_true rfl) (by decide) (by decide) (fun M1 r1 hq1 => ?_)
  obtain ⟨rfl, k, hk, rfl⟩ := hq1
  have hk1 := hk.1
  have hk2 := hk.2.1
  have hks := hkn k hk
  refine j_puti d_N_copyNextFrom_6 hNB p_N_40_V rfl (by decide) rfl rfl ?_
  obtain ⟨z1, z2⟩ := cR_cut h b12 hk1
  have l3 : mI (sI M1 (nd b) 3 (nI k)) (nd b) 3 = nI k := by rw [mm_I_sI, if_pos ⟨rfl, rfl⟩]
  have l4 : mI (sI M1 (nd b) 3 (nI k)) (nd a) 3 = nI (sLn S a) := by rw [mm_I_sI, if_neg (fun z => nab z.1)]; exact (h.2 a a12).2.2.2.2.1.1
  refine j_aload_n d_N_copyNextFrom_9 rfl ?_
  refine j_geti d_N_copyNextFrom_10 hNB f_N_40_V rfl (by decide) ?_
  refine j_eqi l3 ?_
  refine j_aload_n d_N_copyNextFrom_13 rfl ?_
  refine j_geti d_N_copyNextFrom_14 hNA f_N_40_V rfl (by decide) ?_
  refine j_eqi l4 ?_
  refine j_icmp_ge (tgt := 34) d_N_copyNextFrom_17 (by decide) (fun h17 => ?_) (fun h17 => ?_)
  · have hle := i_le (by omega) (by omega) h17
    refine j_return d_N_copyNextFrom_34 rfl ?_ (by decide) (by decide)
    first
      | (have e9 : shC S a b k = cuS S b k := if_neg (by omega)
         exact ⟨rfl, k, hk, by rw [e9]; exact z1, z2⟩)
      | (have e9 : shC S a b k = (oWr (cuS S b k) b (sLg S a k)).1 := (if_pos hlt).trans (shW_eq (by omega))
         have e8 : sLn (cuS S b k) b = k := fu_s _ _ _
         have y := cR_write z1 b12 e3 (by omega) (by rw [e8]; exact hks)
         rw [e8] at y
         exact ⟨rfl, k, hk, by rw [e9]; exact y, z2.tr (fM_write b12)⟩)
  · have hlt := i_nle (by omega) (by omega) h17
    obtain ⟨e, e1, e2⟩ := (h.2 a a12).2.2.2.2.1.2 k hlt
    have e3 := e2.st (M1 := sI M1 (nd b) 3 (nI k)) (stb_nd b12 (stb.rf M1))
    obtain ⟨ei, f1, f2, f3⟩ := e3.cls
    have hB2 : ndS (sI M1 (nd b) 3 (nI k)) (nd b) 2 := hB
    refine j_aload_n d_N_copyNextFrom_20 rfl ?_
    refine j_aload_n d_N_copyNextFrom_21 rfl ?_
    refine j_getR d_N_copyNextFrom_22 hNA f_N_17_V rfl (by decide) hA.2.1 ?_
    refine j_aload_n d_N_copyNextFrom_25 rfl ?_
    refine j_geti d_N_copyNextFrom_26 hNB f_N_40_V rfl (by decide) ?_
    refine j_eqi l3 ?_
    refine j_aaldR d_N_copyNextFrom_29 hA.2.2 (by decide) ts_106 (aIx.n (by omega) (by decide)) e1 ?_
    refine j_callU (owner := "ShardGroups$Node") (vs := [_]) d_N_copyNextFrom_30 hNB (by decide) rfl w270 w245 w3 w249 w247 w246 (Or.inl rfl) y_N_write (by decide) (by decide) (k_write_V (sI M1 (nd b) 3 (nI k)) (nd b) k e ei hB2 l3 (by omega) f1 f2 f3) rfl (Nat.le_of_ble_eq_true rfl) (by decide) (by decide) (fun M3 r3 hq3 => ?_)
    rw [if_neg (by omega)] at hq3
    obtain ⟨rfl, rfl⟩ := hq3
    refine j_pop d_N_copyNextFrom_33 ?_
    refine j_return d_N_copyNextFrom_34 rfl ?_ (by decide) (by decide)
    first
      | (have e9 : shC S a b k = cuS S b k := if_neg (by omega)
         exact ⟨rfl, k, hk, by rw [e9]; exact z1, z2⟩)
      | (have e9 : shC S a b k = (oWr (cuS S b k) b (sLg S a k)).1 := (if_pos hlt).trans (shW_eq (by omega))
         have e8 : sLn (cuS S b k) b = k := fu_s _ _ _
         have y := cR_write z1 b12 e3 (by omega) (by rw [e8]; exact hks)
         rw [e8] at y
         exact ⟨rfl, k, hk, by rw [e9]; exact y, z2.tr (fM_write b12)⟩)
set_option maxRecDepth 20000 in
set_option maxHeartbeats 1000000 in
theorem k_countCopies_T (M : aM) (S : aS) (n p t : Nat) (h : cR M S) (hb : lgB S) (hg : 3 ≤ n) (hn : n < 12) (hp : p < 1000000) (ht : t < 1000000) : aK m_S_countCopies 1 0 0 M [.ref 0, .int (nI (n / 3)), .int (nI p), .int (nI t)] (fun M1 r => M1 = M ∧ r = some (.int (nI (cpC S n p t 3)))) := by
  refine aK.of (by decide) (Nat.le_of_ble_eq_true rfl) ?_
  have h0 := h.1.2.1
  have hr0 := h.1.2.2.1
  have hr1 := h.1.2.2.2.1
  have hr2 := h.1.2.2.2.2.1
  have hA1 := h.1.2.2.2.2.2.1
  have hA2 := h.1.2.2.2.2.2.2.1
  have hA3 := h.1.2.2.2.2.2.2.2.1
  have loop : ∀ (k i : Nat), i + k = 3 → aJ aX0 m_S_countCopies 1 0 0 (fun M1 r => M1 = M ∧ r = some (.int (nI (cpC S n p t 3)))) 0 0 6 [some (.ref 0), some (.int (nI (n / 3))), some (.int (nI p)), some (.int (nI t)), some (.int (nI (cpC S n p t i))), some (.int (nI i))] [] M := by
    intro k
    induction k with
    | zero =>
      intro i hi
      have e3 : i = 3 := by omega
      subst e3
      refine j_iload d_S_countCopies_6 rfl ?_
      refine j_iconst (v := 3) d_S_countCopies_8 (by decide) ?_
      refine j_icmp_ge (tgt := 40) d_S_countCopies_9 (by decide) (fun h9 => ?_) (fun h9 => False.elim (h9 (nI_le (by decide) (by decide))))
      refine j_iload d_S_countCopies_40 rfl ?_
      refine j_ireturn d_S_countCopies_42 rfl rfl ⟨rfl, rfl⟩ (by decide) (by decide)
    | succ k ih =>
      intro i hi
      have hm : 3 * (n / 3) + i < 12 := by omega
      have hB := cSh_T h.1 (show 3 ≤ (3 * (n / 3) + i) by omega) (show (3 * (n / 3) + i) < 12 by omega)
      have hNB := hB.1
      refine j_iload d_S_countCopies_6 rfl ?_
      refine j_iconst (v := 3) d_S_countCopies_8 (by decide) ?_
      refine j_icmp_ge (tgt := 40) d_S_countCopies_9 (by decide) (fun h9 => False.elim (nI_ge (b := 3) (by omega) (by decide) h9)) (fun h9 => ?_)
      refine j_aload_n d_S_countCopies_12 rfl ?_
      refine j_getR d_S_countCopies_13 (by assumption) f_S_11_S rfl (by decide) (by assumption) ?_
      refine j_iload_n d_S_countCopies_16 rfl ?_
      refine j_iconst (v := 3) d_S_countCopies_17 (by decide) ?_
      refine j_imul d_S_countCopies_18 ?_
      refine j_iload d_S_countCopies_19 rfl ?_
      refine j_iadd d_S_countCopies_21 ?_
      refine j_eqi (show nI (n / 3) * 3 + nI i = nI (3 * (n / 3) + i) by rw [show nI (n / 3) * 3 = nI (n / 3 * 3) from pk_mul _ _, nI_add]; congr 1; omega) ?_
      refine j_aaldR d_S_countCopies_22 (by assumption) (by decide) ts_102 (aIx.n hm (by decide)) (h.1.2.2.2.2.2.2.2.2.1 _ hm).1 ?_
      refine j_iload_n d_S_countCopies_23 rfl ?_
      refine j_iload_n d_S_countCopies_24 rfl ?_
      refine j_callU (owner := "ShardGroups$Node") (vs := [_, _]) d_S_countCopies_25 hNB (by decide) rfl w275 w276 w3 w280 w279 w277 (Or.inl rfl) y_N_hasEntry (by decide) (by decide) (k_hasEntry_T M (nd (3 * (n / 3) + i)) (sLn S (3 * (n / 3) + i)) p t (sTm S (3 * (n / 3) + i)) hB (h.lgT hb hm) hp ht) rfl (Nat.le_of_ble_eq_true rfl) (by decide) (by decide) (fun M2 r2 hq2 => ?_)
      obtain ⟨rfl, rfl⟩ := hq2
      refine j_if_eq (tgt := 34) d_S_countCopies_28 (by decide) (fun h28 => ?_) (fun h28 => ?_)
      · have hC : cpC S n p t (i + 1) = cpC S n p t i := by show cpC S n p t i + (if (p < sLn S (3 * (n / 3) + i) ∧ sTm S (3 * (n / 3) + i) p = t) then 1 else 0) = _; rw [if_neg (fun q => by rw [bP_t q] at h28; exact absurd h28 (by decide))]; rfl
        refine j_iinc (nI (i + 1)) d_S_countCopies_34 rfl (nI_inc i) (by decide) ?_
        refine j_goto 6 d_S_countCopies_37 (by decide) ?_
        -- at 6
        have e9 := ih (i + 1) (by omega)
        rw [hC] at e9
        exact e9
      · have hC : cpC S n p t (i + 1) = cpC S n p t i + 1 := by show cpC S n p t i + (if (p < sLn S (3 * (n / 3) + i) ∧ sTm S (3 * (n / 3) + i) p = t) then 1 else 0) = _; rw [if_pos (Decidable.byContradiction (fun q => h28 (bP_f q)))]
        refine j_iinc (nI (cpC S n p t i + 1)) d_S_countCopies_31 rfl (nI_inc _) (by decide) ?_
        refine j_iinc (nI (i + 1)) d_S_countCopies_34 rfl (nI_inc i) (by decide) ?_
        refine j_goto 6 d_S_countCopies_37 (by decide) ?_
        -- at 6
        have e9 := ih (i + 1) (by omega)
        rw [hC] at e9
        exact e9
  refine j_iconst (v := 0) d_S_countCopies_0 (by decide) ?_
  refine j_istore d_S_countCopies_1 (by decide) ?_
  refine j_iconst (v := 0) d_S_countCopies_3 (by decide) ?_
  refine j_istore d_S_countCopies_4 (by decide) ?_
  -- at 6
  exact loop 3 0 (by decide)
set_option maxRecDepth 20000 in
set_option maxHeartbeats 1000000 in
theorem k_countAgreed_T (M : aM) (S : aS) (n : Nat) (h : cR M S) (hb : lgB S) (hg : 3 ≤ n) (hn : n < 12) (hT : sT S n < 1000000) : aK m_S_countAgreed 2 0 0 M [.ref 0, .ref (nd n), .int (nI (n / 3))] (fun M1 r => M1 = M ∧ r = some (.int (nI (ag0 S n (sLn S n))))) := by
  refine aK.of (by decide) (Nat.le_of_ble_eq_true rfl) ?_
  have h0 := h.1.2.1
  have hr0 := h.1.2.2.1
  have hr1 := h.1.2.2.2.1
  have hr2 := h.1.2.2.2.2.1
  have hA1 := h.1.2.2.2.2.2.1
  have hA2 := h.1.2.2.2.2.2.2.1
  have hA3 := h.1.2.2.2.2.2.2.2.1
  have hB := cSh_T h.1 (show 3 ≤ n by omega) (show n < 12 by omega)
  have hNB := hB.1
  have hn12 : n < 12 := by omega
  have t2 : mI M (nd n) 2 = nI (sT S n) := (h.2 n hn12).2.2.1
  have t3 : mI M (nd n) 3 = nI (sLn S n) := (h.2 n hn12).2.2.2.2.1.1
  have l80 := (hb n hn12).1
  have loop : ∀ (i : Nat), i ≤ sLn S n → ag0 S n (sLn S n) = ag0 S n i → aJ aX0 m_S_countAgreed 2 0 0 (fun M1 r => M1 = M ∧ r = some (.int (nI (ag0 S n (sLn S n))))) 0 0 7 [some (.ref 0), some (.ref (nd n)), some (.int (nI (n / 3))), some (.int (nI i - 1))] [] M := by
    intro i
    induction i with
    | zero =>
      intro hi he
      refine j_iload_n d_S_countAgreed_7 rfl ?_
      refine j_if_lt (tgt := 47) d_S_countAgreed_8 (by decide) (fun h8 => ?_) (fun h8 => False.elim (h8 (by decide)))
      refine j_iconst (v := 0) d_S_countAgreed_47 (by decide) ?_
      refine j_ireturn d_S_countAgreed_48 rfl rfl ⟨rfl, by rw [he]; rfl⟩ (by decide) (by decide)
    | succ i ih =>
      intro hi he
      rw [i_pred]
      have hA : ag0 S n (i + 1) = if (sTm S n i = sT S n ∧ 2 ≤ cpC S n i (sT S n) 3) then i + 1 else ag0 S n i := rfl
      have cl := cpC_le S n i (sT S n) 3
      refine j_iload_n d_S_countAgreed_7 rfl ?_
      refine j_if_lt (tgt := 47) d_S_countAgreed_8 (by decide) (fun h8 => False.elim (nI_pos (by omega) h8)) (fun h8 => ?_)
      refine j_aload_n d_S_countAgreed_11 rfl ?_
      refine j_iload_n d_S_countAgreed_12 rfl ?_
      refine j_aload_n d_S_countAgreed_13 rfl ?_
      refine j_geti d_S_countAgreed_14 hNB f_S_54_T rfl (by decide) ?_
      refine j_eqi t2 ?_
      refine j_callU (owner := "ShardGroups$Node") (vs := [_, _]) d_S_countAgreed_17 hNB (by decide) rfl w275 w276 w3 w280 w279 w277 (Or.inl rfl) y_N_hasEntry (by decide) (by decide) (k_hasEntry_T M (nd n) (sLn S n) i (sT S n) (sTm S n) hB (h.lgT hb hn12) (by omega) hT) rfl (Nat.le_of_ble_eq_true rfl) (by decide) (by decide) (fun M2 r2 hq2 => ?_)
      obtain ⟨rfl, rfl⟩ := hq2
      refine j_if_eq (tgt := 41) d_S_countAgreed_20 (by decide) (fun h20 => ?_) (fun h20 => ?_)
      · have hno : ag0 S n (i + 1) = ag0 S n i := by rw [hA, if_neg (fun q => by rw [bP_t ⟨by omega, q.1⟩] at h20; exact absurd h20 (by decide))]
        refine j_iinc (nI i - 1) d_S_countAgreed_41 rfl (i_dec i) (by decide) ?_
        refine j_goto 7 d_S_countAgreed_44 (by decide) ?_
        -- at 7
        exact ih (by omega) (he.trans hno)
      · have hq : i < sLn S n ∧ sTm S n i = sT S n := Decidable.byContradiction (fun q => h20 (bP_f q))
        refine j_aload_n d_S_countAgreed_23 rfl ?_
        refine j_iload_n d_S_countAgreed_24 rfl ?_
        refine j_iload_n d_S_countAgreed_25 rfl ?_
        refine j_aload_n d_S_countAgreed_26 rfl ?_
        refine j_geti d_S_countAgreed_27 hNB f_S_54_T rfl (by decide) ?_
        refine j_eqi t2 ?_
        refine j_callV (vs := [_, _, _]) d_S_countAgreed_30 (by assumption) (by decide) rfl w281 w283 w1 w284 ws_S_countCopies y_S_countCopies (by decide) (by decide) (k_countCopies_T M2 S n i (sT S n) h hb hg hn (by omega) hT) rfl (Nat.le_of_ble_eq_true rfl) (by decide) (by decide) (fun M3 r3 hq3 => ?_)
        obtain ⟨rfl, rfl⟩ := hq3
        refine j_iconst (v := 2) d_S_countAgreed_33 (by decide) ?_
        refine j_icmp_lt (tgt := 41) d_S_countAgreed_34 (by decide) (fun h34 => ?_) (fun h34 => ?_)
        · have hno : ag0 S n (i + 1) = ag0 S n i := by rw [hA, if_neg (fun q => by have := i_lt (b := 2) (by omega) (by decide) h34; omega)]
          refine j_iinc (nI i - 1) d_S_countAgreed_41 rfl (i_dec i) (by decide) ?_
          refine j_goto 7 d_S_countAgreed_44 (by decide) ?_
          -- at 7
          exact ih (by omega) (he.trans hno)
        · have hyes : ag0 S n (i + 1) = i + 1 := by rw [hA, if_pos ⟨hq.2, i_nlt (b := 2) (by omega) (by decide) h34⟩]
          refine j_iload_n d_S_countAgreed_37 rfl ?_
          refine j_iconst (v := 1) d_S_countAgreed_38 (by decide) ?_
          refine j_iadd d_S_countAgreed_39 ?_
          refine j_ireturn d_S_countAgreed_40 rfl rfl ⟨rfl, by rw [he, hyes, nI_succ]⟩ (by decide) (by decide)
  refine j_aload_n d_S_countAgreed_0 rfl ?_
  refine j_geti d_S_countAgreed_1 hNB f_S_94_T rfl (by decide) ?_
  refine j_eqi t3 ?_
  refine j_iconst (v := 1) d_S_countAgreed_4 (by decide) ?_
  refine j_isub d_S_countAgreed_5 ?_
  refine j_istore_n d_S_countAgreed_6 (by decide) ?_
  -- at 7
  exact loop (sLn S n) (Nat.le_refl _) rfl
set_option maxRecDepth 20000 in
set_option maxHeartbeats 1000000 in
theorem k_copyNextFrom_T (M : aM) (S : aS) (a b : Nat) (h : cR M S) (hl : lgB S) (ga : 3 ≤ a) (ha : a < 12) (gb : 3 ≤ b) (hb12 : b < 12) (hab : a ≠ b) (hkn : ∀ k, rCS (sLn S b) (sLn S a) (sTm S b) (sTm S a) k → sKn S b ≤ k) : aK m_N_copyNextFrom 2 0 0 M [.ref (nd b), .ref (nd a)] (fun M1 r => r = none ∧ ∃ k, rCS (sLn S b) (sLn S a) (sTm S b) (sTm S a) k ∧ cR M1 (shC S a b k) ∧ fM M M1) := by
  refine aK.of (by decide) (Nat.le_of_ble_eq_true rfl) ?_
  have a12 : a < 12 := by omega
  have b12 : b < 12 := by omega
  have hA := cSh_T h.1 (show 3 ≤ a by omega) (show a < 12 by omega)
  have hB := cSh_T h.1 (show 3 ≤ b by omega) (show b < 12 by omega)
  have hNA := hA.1
  have hNB := hB.1
  have la80 := (hl a a12).1
  have lb80 := (hl b b12).1
  have nab : nd a ≠ nd b := nd_apart (i := 0) (j := 0) a12 b12 hab (wd0 a) (wd0 b)
  refine j_aload_n d_N_copyNextFrom_0 rfl ?_
  refine j_aload_n d_N_copyNextFrom_1 rfl ?_
  refine j_aload_n d_N_copyNextFrom_2 rfl ?_
  refine j_callU (owner := "ShardGroups$Node") (vs := [_]) d_N_copyNextFrom_3 hNB (by decide) rfl w261 w262 w3 w266 w265 w263 (Or.inl rfl) y_N_countSame (by decide) (by decide) (k_countSame_T M (nd b) (nd a) (sLn S b) (sLn S a) (sTm S b) (sTm S a) hB hA (h.lgT hl b12) (h.lgT hl a12)) rfl (Nat.le_of_ble_eq_true rfl) (by decide) (by decide) (fun M1 r1 hq1 => ?_)
  obtain ⟨rfl, k, hk, rfl⟩ := hq1
  have hk1 := hk.1
  have hk2 := hk.2.1
  have hks := hkn k hk
  refine j_puti d_N_copyNextFrom_6 hNB p_N_40_T rfl (by decide) rfl rfl ?_
  obtain ⟨z1, z2⟩ := cR_cut h b12 hk1
  have l3 : mI (sI M1 (nd b) 3 (nI k)) (nd b) 3 = nI k := by rw [mm_I_sI, if_pos ⟨rfl, rfl⟩]
  have l4 : mI (sI M1 (nd b) 3 (nI k)) (nd a) 3 = nI (sLn S a) := by rw [mm_I_sI, if_neg (fun z => nab z.1)]; exact (h.2 a a12).2.2.2.2.1.1
  refine j_aload_n d_N_copyNextFrom_9 rfl ?_
  refine j_geti d_N_copyNextFrom_10 hNB f_N_40_T rfl (by decide) ?_
  refine j_eqi l3 ?_
  refine j_aload_n d_N_copyNextFrom_13 rfl ?_
  refine j_geti d_N_copyNextFrom_14 hNA f_N_40_T rfl (by decide) ?_
  refine j_eqi l4 ?_
  refine j_icmp_ge (tgt := 34) d_N_copyNextFrom_17 (by decide) (fun h17 => ?_) (fun h17 => ?_)
  · have hle := i_le (by omega) (by omega) h17
    refine j_return d_N_copyNextFrom_34 rfl ?_ (by decide) (by decide)
    first
      | (have e9 : shC S a b k = cuS S b k := if_neg (by omega)
         exact ⟨rfl, k, hk, by rw [e9]; exact z1, z2⟩)
      | (have e9 : shC S a b k = (oWr (cuS S b k) b (sLg S a k)).1 := (if_pos hlt).trans (shW_eq (by omega))
         have e8 : sLn (cuS S b k) b = k := fu_s _ _ _
         have y := cR_write z1 b12 e3 (by omega) (by rw [e8]; exact hks)
         rw [e8] at y
         exact ⟨rfl, k, hk, by rw [e9]; exact y, z2.tr (fM_write b12)⟩)
  · have hlt := i_nle (by omega) (by omega) h17
    obtain ⟨e, e1, e2⟩ := (h.2 a a12).2.2.2.2.1.2 k hlt
    have e3 := e2.st (M1 := sI M1 (nd b) 3 (nI k)) (stb_nd b12 (stb.rf M1))
    obtain ⟨ei, f1, f2, f3⟩ := e3.cls
    have hB2 : ndS (sI M1 (nd b) 3 (nI k)) (nd b) 3 := hB
    refine j_aload_n d_N_copyNextFrom_20 rfl ?_
    refine j_aload_n d_N_copyNextFrom_21 rfl ?_
    refine j_getR d_N_copyNextFrom_22 hNA f_N_17_T rfl (by decide) hA.2.1 ?_
    refine j_aload_n d_N_copyNextFrom_25 rfl ?_
    refine j_geti d_N_copyNextFrom_26 hNB f_N_40_T rfl (by decide) ?_
    refine j_eqi l3 ?_
    refine j_aaldR d_N_copyNextFrom_29 hA.2.2 (by decide) ts_106 (aIx.n (by omega) (by decide)) e1 ?_
    refine j_callU (owner := "ShardGroups$Node") (vs := [_]) d_N_copyNextFrom_30 hNB (by decide) rfl w270 w245 w3 w249 w248 w246 (Or.inl rfl) y_N_write (by decide) (by decide) (k_write_T (sI M1 (nd b) 3 (nI k)) (nd b) k e ei hB2 l3 (by omega) f1 f2 f3) rfl (Nat.le_of_ble_eq_true rfl) (by decide) (by decide) (fun M3 r3 hq3 => ?_)
    rw [if_neg (by omega)] at hq3
    obtain ⟨rfl, rfl⟩ := hq3
    refine j_pop d_N_copyNextFrom_33 ?_
    refine j_return d_N_copyNextFrom_34 rfl ?_ (by decide) (by decide)
    first
      | (have e9 : shC S a b k = cuS S b k := if_neg (by omega)
         exact ⟨rfl, k, hk, by rw [e9]; exact z1, z2⟩)
      | (have e9 : shC S a b k = (oWr (cuS S b k) b (sLg S a k)).1 := (if_pos hlt).trans (shW_eq (by omega))
         have e8 : sLn (cuS S b k) b = k := fu_s _ _ _
         have y := cR_write z1 b12 e3 (by omega) (by rw [e8]; exact hks)
         rw [e8] at y
         exact ⟨rfl, k, hk, by rw [e9]; exact y, z2.tr (fM_write b12)⟩)
