def inN (n : Nat) (a : Nat) : Prop := nd n + 3 ≤ a ∧ a < nd n + 35
theorem cSh_st {M : aM} (h : cSh M) {n : Nat} (h3 : 3 ≤ n) (hn : n < 12) : mI M (nd n) 6 = nI (n / 3) ∧ mR M (nd n) 9 = some (nd n + 2) ∧ tA M (nd n + 2) 107 8 ∧ ∀ s, s < 8 → mR M (nd n + 2) s = some (nd n + 3 + 4 * s) ∧ shT M (nd n + 3 + 4 * s) := h.2.2.2.2.2.2.2.2.2.2.2 n h3 hn
theorem oI_cSh {M M1 : aM} {P : Nat → Prop} (h : cSh M) (ho : oI M M1 P) (hp : ∀ n, n < 12 → ¬ P (nd n)) : cSh M1 := by
  obtain ⟨h0, h1, h2, h3, h4, h5, h6, h7, h8, h9, ha, hb⟩ := h
  refine ⟨by rw [ho.1]; exact h0, ho.tO h1, ho.R h2, ho.R h3, ho.R h4, ho.tA h5, ho.tA h6, ho.tA h7, fun n hn => ?_, fun n hn => ?_, fun n hn => ?_, fun n g1 g2 => ?_⟩
  · obtain ⟨b1, b2, b3, b4⟩ := h8 n hn
    exact ⟨ho.R b1, ho.tO b2, ho.R b3, ho.tA b4⟩
  · obtain ⟨b1, b2, b3⟩ := h9 n hn
    exact ⟨ho.R b1, ho.R b2, ho.tA b3⟩
  · exact ho.R (ha n hn)
  · obtain ⟨b1, b2, b3, b4⟩ := hb n g1 g2
    exact ⟨by rw [ho.2.2 (nd n) (hp n g2)]; exact b1, ho.R b2, ho.tA b3, fun s hs => ⟨ho.R (b4 s hs).1, ho.shT (b4 s hs).2⟩⟩
theorem inN_nd {n m : Nat} (h3 : 3 ≤ n) (hn : n < 12) (hm : m < 12) : ¬ inN n (nd m) := by
  rintro ⟨q1, q2⟩
  by_cases e : m = n
  · subst e; omega
  · exact nd_apart (m := m) (n := n) (i := 0) (j := nd m - nd n) hm hn e (wd0 m) (by rw [wd_35 h3]; omega) (by omega)
theorem oI_chg {M M1 : aM} {n : Nat} (h : cSh M) (h3 : 3 ≤ n) (hn : n < 12) (ho : oI M M1 (inN n)) : chg M M1 n := by
  have hi := nd_hi3 hn h3
  have lo := nd_lo n
  have w := wd_35 h3
  have hz : mSz M ≤ mSz M1 := Nat.le_of_eq ho.1.symm
  refine ⟨⟨hz, fun a ha _ => ho.sm (fun q => ?_)⟩, ⟨hz, fun a h1 _ => ho.sm (fun q => ?_)⟩, oI_cSh h ho (fun m hm => inN_nd h3 hn hm), fun a _ hi2 => ho.sm (fun q => ?_), fun k _ => ho.2.2 (nd n) (inN_nd h3 hn hn) k, fun k _ => (ho.2.1 (nd n)).2.2 k, ho.sm (fun q => ?_)⟩
  · unfold inN at q; unfold im at ha; omega
  · unfold inN at q; omega
  · unfold inN at q
    exact hi2 (a - nd n) (by rw [w]; omega) (by omega)
  · unfold inN at q; omega
/-- a group's state is as it must be -/
def gpV (g : Nat) (G : aGp) : Prop := G.1 < 16 ∧ ∀ s, s < 8 → G.2.1 s ≤ 3 ∧ (G.2.1 s = g → G.2.2.1 s = 1 ∨ G.2.2.1 s = 2) ∧ (G.2.1 s ≠ g → G.2.2.1 s = 0 ∨ G.2.2.1 s = 3) ∧ ∀ i, i < 8 → G.2.2.2 s i < 1000
theorem gpV.c {g : Nat} {G : aGp} (h : gpV g G) {s : Nat} (hs : s < 8) : G.2.2.1 s ≤ 3 := by
  obtain ⟨a, b, c, d⟩ := h.2 s hs
  by_cases e : G.2.1 s = g
  · have := b e; omega
  · have := c e; omega

set_option maxRecDepth 20000 in
set_option maxHeartbeats 1000000 in
theorem k_isSettled (M : aM) (n : Nat) (G : aGp) (h : cSh M) (h3 : 3 ≤ n) (hn : n < 12) (hg : gpR M n G) (hV : gpV (n / 3) G) : aK m_T_isSettled 0 0 0 M [.ref (nd n)] (fun M1 r => M1 = M ∧ ((gSet G ∧ r = some (.int 1)) ∨ (¬ gSet G ∧ r = some (.int 0)))) := by
  refine aK.of (by decide) (Nat.le_of_ble_eq_true rfl) ?_
  have hN := (cSh_T h h3 hn).1
  obtain ⟨st0, st1, st2, st3⟩ := cSh_st h h3 hn
  have loop : ∀ (k i : Nat) (z : Option Value), i + k = 8 → (∀ s, s < i → G.2.2.1 s < 2) → aJ aX0 m_T_isSettled 0 0 0 (fun M1 r => M1 = M ∧ ((gSet G ∧ r = some (.int 1)) ∨ (¬ gSet G ∧ r = some (.int 0)))) 0 0 10 [some (.ref (nd n)), some (.ref (nd n + 2)), some (.int 8), some (.int (nI i)), z] [] M := by
    intro k
    induction k with
    | zero =>
      intro i z hi hs
      have e8 : i = 8 := by omega
      subst e8
      refine j_iload_n d_T_isSettled_10 rfl ?_
      refine j_iload_n d_T_isSettled_11 rfl ?_
      refine j_icmp_ge (tgt := 46) d_T_isSettled_12 (by decide) (fun h12 => ?_) (fun h12 => False.elim (h12 (nI_le (by decide) (by decide))))
      refine j_iconst (v := 1) d_T_isSettled_46 (by decide) ?_
      refine j_ireturn d_T_isSettled_47 rfl rfl ⟨rfl, Or.inl ⟨hs, rfl⟩⟩ (by decide) (by decide)
    | succ k ih =>
      intro i z hi hs
      obtain ⟨c1, c2⟩ := st3 i (by omega)
      have hH := c2.1
      have hc := (hg.2.2 i (by omega)).1
      have hc3 := hV.c (s := i) (by omega)
      refine j_iload_n d_T_isSettled_10 rfl ?_
      refine j_iload_n d_T_isSettled_11 rfl ?_
      refine j_icmp_ge (tgt := 46) d_T_isSettled_12 (by decide) (fun h12 => False.elim (nI_ge (b := 8) (by omega) (by decide) h12)) (fun h12 => ?_)
      refine j_aload_n d_T_isSettled_15 rfl ?_
      refine j_iload_n d_T_isSettled_16 rfl ?_
      refine j_aaldR d_T_isSettled_17 st2 (by decide) ts_107 (aIx.n (by omega) (by decide)) c1 ?_
      refine j_astore d_T_isSettled_18 (by decide) ?_
      refine j_aload d_T_isSettled_20 rfl ?_
      refine j_geti d_T_isSettled_22 hH f_T_35_H rfl (by decide) ?_
      refine j_eqi hc ?_
      refine j_iconst (v := 2) d_T_isSettled_25 (by decide) ?_
      refine j_icmp_eq (tgt := 38) d_T_isSettled_26 (by decide) (fun h26 => ?_) (fun h26 => ?_)
      · have k2 := i_eq (b := 2) (by omega) (by decide) h26
        refine j_iconst (v := 0) d_T_isSettled_38 (by decide) ?_
        refine j_ireturn d_T_isSettled_39 rfl rfl ⟨rfl, Or.inr ⟨fun q => by have := q i (by omega); omega, rfl⟩⟩ (by decide) (by decide)
      · have k2 := i_ne (b := 2) (by omega) (by decide) h26
        refine j_aload d_T_isSettled_29 rfl ?_
        refine j_geti d_T_isSettled_31 hH f_T_35_H rfl (by decide) ?_
        refine j_eqi hc ?_
        refine j_iconst (v := 3) d_T_isSettled_34 (by decide) ?_
        refine j_icmp_ne (tgt := 40) d_T_isSettled_35 (by decide) (fun h35 => ?_) (fun h35 => ?_)
        · have k3 := i_ne (b := 3) (by omega) (by decide) h35
          refine j_iinc (nI (i + 1)) d_T_isSettled_40 rfl (nI_inc i) (by decide) ?_
          refine j_goto 10 d_T_isSettled_43 (by decide) ?_
          -- at 10
          refine ih (i + 1) _ (by omega) (fun s hs1 => ?_)
          by_cases e : s = i
          · rw [e]; omega
          · exact hs s (by omega)
        · have k2 := i_eq (b := 3) (by omega) (by decide) h35
          refine j_iconst (v := 0) d_T_isSettled_38 (by decide) ?_
          refine j_ireturn d_T_isSettled_39 rfl rfl ⟨rfl, Or.inr ⟨fun q => by have := q i (by omega); omega, rfl⟩⟩ (by decide) (by decide)
  refine j_aload_n d_T_isSettled_0 rfl ?_
  refine j_getR d_T_isSettled_1 hN f_T_11_T rfl (by decide) st1 ?_
  refine j_astore_n d_T_isSettled_4 (by decide) ?_
  refine j_aload_n d_T_isSettled_5 rfl ?_
  refine j_alen d_T_isSettled_6 st2 (by decide) ty_107 rfl ?_
  refine j_istore_n d_T_isSettled_7 (by decide) ?_
  refine j_iconst (v := 0) d_T_isSettled_8 (by decide) ?_
  refine j_istore_n d_T_isSettled_9 (by decide) ?_
  -- at 10
  exact loop 8 0 none (by decide) (fun s h => absurd h (Nat.not_lt_zero s))
set_option maxRecDepth 20000 in
set_option maxHeartbeats 1000000 in
theorem k_handOver (M : aM) (n h9 b w : Nat) (h : cSh M) (h3 : 3 ≤ n) (hn : n < 12) (hh : shT M h9) (hb : b ≤ 3) (hw : w ≤ 3) : aK m_T_handOver 1 0 0 M [.ref (nd n), .ref h9, .int (nI b), .int (nI w)] (fun M1 r => r = none ∧ M1 = (if w = n / 3 then (if b = 0 then sI (clr M h9) h9 0 1 else if b = n / 3 then M else sI M h9 0 2) else if b = n / 3 then sI M h9 0 3 else M)) := by
  refine aK.of (by decide) (Nat.le_of_ble_eq_true rfl) ?_
  have hN := (cSh_T h h3 hn).1
  obtain ⟨st0, st1, st2, st3⟩ := cSh_st h h3 hn
  have tH := hh.1
  refine j_iload_n d_T_handOver_0 rfl ?_
  refine j_aload_n d_T_handOver_1 rfl ?_
  refine j_geti d_T_handOver_2 hN f_T_17_T rfl (by decide) ?_
  refine j_eqi st0 ?_
  refine j_icmp_ne (tgt := 24) d_T_handOver_5 (by decide) (fun h5 => ?_) (fun h5 => ?_)
  · have k5 := i_ne (by omega) (by omega) h5
    refine j_iload_n d_T_handOver_24 rfl ?_
    refine j_aload_n d_T_handOver_25 rfl ?_
    refine j_geti d_T_handOver_26 hN f_T_17_T rfl (by decide) ?_
    refine j_eqi st0 ?_
    refine j_icmp_ne (tgt := 48) d_T_handOver_29 (by decide) (fun h29 => ?_) (fun h29 => ?_)
    · have k29 := i_ne (by omega) (by omega) h29
      refine j_iload_n d_T_handOver_48 rfl ?_
      refine j_aload_n d_T_handOver_49 rfl ?_
      refine j_geti d_T_handOver_50 hN f_T_17_T rfl (by decide) ?_
      refine j_eqi st0 ?_
      refine j_icmp_eq (tgt := 69) d_T_handOver_53 (by decide) (fun h53 => ?_) (fun h53 => ?_)
      · have k53 := i_eq (by omega) (by omega) h53
        refine j_return d_T_handOver_69 rfl ?_ (by decide) (by decide)
        refine ⟨rfl, ?_⟩
        first
          | exact absurd k5 k29
          | exact absurd k29 k5
          | exact absurd k53 k5
          | exact absurd k5 k53
          | (rw [if_pos k5, if_pos k9])
          | (rw [if_pos k5, if_neg k9, if_neg k37])
          | (rw [if_pos k5, if_neg k9, if_pos k37])
          | (rw [if_neg k5, if_pos k61])
          | (rw [if_neg k5, if_neg k61])
      · have k53 := i_ne (by omega) (by omega) h53
        refine j_iload_n d_T_handOver_56 rfl ?_
        refine j_aload_n d_T_handOver_57 rfl ?_
        refine j_geti d_T_handOver_58 hN f_T_17_T rfl (by decide) ?_
        refine j_eqi st0 ?_
        refine j_icmp_ne (tgt := 69) d_T_handOver_61 (by decide) (fun h61 => ?_) (fun h61 => ?_)
        · have k61 := i_ne (by omega) (by omega) h61
          refine j_return d_T_handOver_69 rfl ?_ (by decide) (by decide)
          refine ⟨rfl, ?_⟩
          first
            | exact absurd k5 k29
            | exact absurd k29 k5
            | exact absurd k53 k5
            | exact absurd k5 k53
            | (rw [if_pos k5, if_pos k9])
            | (rw [if_pos k5, if_neg k9, if_neg k37])
            | (rw [if_pos k5, if_neg k9, if_pos k37])
            | (rw [if_neg k5, if_pos k61])
            | (rw [if_neg k5, if_neg k61])
        · have k61 := i_eq (by omega) (by omega) h61
          refine j_aload_n d_T_handOver_64 rfl ?_
          refine j_iconst (v := 3) d_T_handOver_65 (by decide) ?_
          refine j_puti d_T_handOver_66 tH p_T_35_H rfl (by decide) rfl rfl ?_
          refine j_return d_T_handOver_69 rfl ?_ (by decide) (by decide)
          refine ⟨rfl, ?_⟩
          first
            | exact absurd k5 k29
            | exact absurd k29 k5
            | exact absurd k53 k5
            | exact absurd k5 k53
            | (rw [if_pos k5, if_pos k9])
            | (rw [if_pos k5, if_neg k9, if_neg k37])
            | (rw [if_pos k5, if_neg k9, if_pos k37])
            | (rw [if_neg k5, if_pos k61])
            | (rw [if_neg k5, if_neg k61])
    · have k29 := i_eq (by omega) (by omega) h29
      refine j_iload_n d_T_handOver_32 rfl ?_
      refine j_aload_n d_T_handOver_33 rfl ?_
      refine j_geti d_T_handOver_34 hN f_T_17_T rfl (by decide) ?_
      refine j_eqi st0 ?_
      refine j_icmp_eq (tgt := 48) d_T_handOver_37 (by decide) (fun h37 => ?_) (fun h37 => ?_)
      · have k37 := i_eq (by omega) (by omega) h37
        refine j_iload_n d_T_handOver_48 rfl ?_
        refine j_aload_n d_T_handOver_49 rfl ?_
        refine j_geti d_T_handOver_50 hN f_T_17_T rfl (by decide) ?_
        refine j_eqi st0 ?_
        refine j_icmp_eq (tgt := 69) d_T_handOver_53 (by decide) (fun h53 => ?_) (fun h53 => ?_)
        · have k53 := i_eq (by omega) (by omega) h53
          refine j_return d_T_handOver_69 rfl ?_ (by decide) (by decide)
          refine ⟨rfl, ?_⟩
          first
            | exact absurd k5 k29
            | exact absurd k29 k5
            | exact absurd k53 k5
            | exact absurd k5 k53
            | (rw [if_pos k5, if_pos k9])
            | (rw [if_pos k5, if_neg k9, if_neg k37])
            | (rw [if_pos k5, if_neg k9, if_pos k37])
            | (rw [if_neg k5, if_pos k61])
            | (rw [if_neg k5, if_neg k61])
        · have k53 := i_ne (by omega) (by omega) h53
          refine j_iload_n d_T_handOver_56 rfl ?_
          refine j_aload_n d_T_handOver_57 rfl ?_
          refine j_geti d_T_handOver_58 hN f_T_17_T rfl (by decide) ?_
          refine j_eqi st0 ?_
          refine j_icmp_ne (tgt := 69) d_T_handOver_61 (by decide) (fun h61 => ?_) (fun h61 => ?_)
          · have k61 := i_ne (by omega) (by omega) h61
            refine j_return d_T_handOver_69 rfl ?_ (by decide) (by decide)
            refine ⟨rfl, ?_⟩
            first
              | exact absurd k5 k29
              | exact absurd k29 k5
              | exact absurd k53 k5
              | exact absurd k5 k53
              | (rw [if_pos k5, if_pos k9])
              | (rw [if_pos k5, if_neg k9, if_neg k37])
              | (rw [if_pos k5, if_neg k9, if_pos k37])
              | (rw [if_neg k5, if_pos k61])
              | (rw [if_neg k5, if_neg k61])
          · have k61 := i_eq (by omega) (by omega) h61
            refine j_aload_n d_T_handOver_64 rfl ?_
            refine j_iconst (v := 3) d_T_handOver_65 (by decide) ?_
            refine j_puti d_T_handOver_66 tH p_T_35_H rfl (by decide) rfl rfl ?_
            refine j_return d_T_handOver_69 rfl ?_ (by decide) (by decide)
            refine ⟨rfl, ?_⟩
            first
              | exact absurd k5 k29
              | exact absurd k29 k5
              | exact absurd k53 k5
              | exact absurd k5 k53
              | (rw [if_pos k5, if_pos k9])
              | (rw [if_pos k5, if_neg k9, if_neg k37])
              | (rw [if_pos k5, if_neg k9, if_pos k37])
              | (rw [if_neg k5, if_pos k61])
              | (rw [if_neg k5, if_neg k61])
      · have k37 := i_ne (by omega) (by omega) h37
        refine j_aload_n d_T_handOver_40 rfl ?_
        refine j_iconst (v := 2) d_T_handOver_41 (by decide) ?_
        refine j_puti d_T_handOver_42 tH p_T_35_H rfl (by decide) rfl rfl ?_
        refine j_goto 69 d_T_handOver_45 (by decide) ?_
        refine j_return d_T_handOver_69 rfl ?_ (by decide) (by decide)
        refine ⟨rfl, ?_⟩
        first
          | exact absurd k5 k29
          | exact absurd k29 k5
          | exact absurd k53 k5
          | exact absurd k5 k53
          | (rw [if_pos k5, if_pos k9])
          | (rw [if_pos k5, if_neg k9, if_neg k37])
          | (rw [if_pos k5, if_neg k9, if_pos k37])
          | (rw [if_neg k5, if_pos k61])
          | (rw [if_neg k5, if_neg k61])
  · have k5 := i_eq (by omega) (by omega) h5
    refine j_iload_n d_T_handOver_8 rfl ?_
    refine j_if_ne (tgt := 24) d_T_handOver_9 (by decide) (fun h9a => ?_) (fun h9a => ?_)
    · have k9 := i_ne (b := 0) (by omega) (by decide) h9a
      refine j_iload_n d_T_handOver_24 rfl ?_
      refine j_aload_n d_T_handOver_25 rfl ?_
      refine j_geti d_T_handOver_26 hN f_T_17_T rfl (by decide) ?_
      refine j_eqi st0 ?_
      refine j_icmp_ne (tgt := 48) d_T_handOver_29 (by decide) (fun h29 => ?_) (fun h29 => ?_)
      · have k29 := i_ne (by omega) (by omega) h29
        refine j_iload_n d_T_handOver_48 rfl ?_
        refine j_aload_n d_T_handOver_49 rfl ?_
        refine j_geti d_T_handOver_50 hN f_T_17_T rfl (by decide) ?_
        refine j_eqi st0 ?_
        refine j_icmp_eq (tgt := 69) d_T_handOver_53 (by decide) (fun h53 => ?_) (fun h53 => ?_)
        · have k53 := i_eq (by omega) (by omega) h53
          refine j_return d_T_handOver_69 rfl ?_ (by decide) (by decide)
          refine ⟨rfl, ?_⟩
          first
            | exact absurd k5 k29
            | exact absurd k29 k5
            | exact absurd k53 k5
            | exact absurd k5 k53
            | (rw [if_pos k5, if_pos k9])
            | (rw [if_pos k5, if_neg k9, if_neg k37])
            | (rw [if_pos k5, if_neg k9, if_pos k37])
            | (rw [if_neg k5, if_pos k61])
            | (rw [if_neg k5, if_neg k61])
        · have k53 := i_ne (by omega) (by omega) h53
          refine j_iload_n d_T_handOver_56 rfl ?_
          refine j_aload_n d_T_handOver_57 rfl ?_
          refine j_geti d_T_handOver_58 hN f_T_17_T rfl (by decide) ?_
          refine j_eqi st0 ?_
          refine j_icmp_ne (tgt := 69) d_T_handOver_61 (by decide) (fun h61 => ?_) (fun h61 => ?_)
          · have k61 := i_ne (by omega) (by omega) h61
            refine j_return d_T_handOver_69 rfl ?_ (by decide) (by decide)
            refine ⟨rfl, ?_⟩
            first
              | exact absurd k5 k29
              | exact absurd k29 k5
              | exact absurd k53 k5
              | exact absurd k5 k53
              | (rw [if_pos k5, if_pos k9])
              | (rw [if_pos k5, if_neg k9, if_neg k37])
              | (rw [if_pos k5, if_neg k9, if_pos k37])
              | (rw [if_neg k5, if_pos k61])
              | (rw [if_neg k5, if_neg k61])
          · have k61 := i_eq (by omega) (by omega) h61
            refine j_aload_n d_T_handOver_64 rfl ?_
            refine j_iconst (v := 3) d_T_handOver_65 (by decide) ?_
            refine j_puti d_T_handOver_66 tH p_T_35_H rfl (by decide) rfl rfl ?_
            refine j_return d_T_handOver_69 rfl ?_ (by decide) (by decide)
            refine ⟨rfl, ?_⟩
            first
              | exact absurd k5 k29
              | exact absurd k29 k5
              | exact absurd k53 k5
              | exact absurd k5 k53
              | (rw [if_pos k5, if_pos k9])
              | (rw [if_pos k5, if_neg k9, if_neg k37])
              | (rw [if_pos k5, if_neg k9, if_pos k37])
              | (rw [if_neg k5, if_pos k61])
              | (rw [if_neg k5, if_neg k61])
      · have k29 := i_eq (by omega) (by omega) h29
        refine j_iload_n d_T_handOver_32 rfl ?_
        refine j_aload_n d_T_handOver_33 rfl ?_
        refine j_geti d_T_handOver_34 hN f_T_17_T rfl (by decide) ?_
        refine j_eqi st0 ?_
        refine j_icmp_eq (tgt := 48) d_T_handOver_37 (by decide) (fun h37 => ?_) (fun h37 => ?_)
        · have k37 := i_eq (by omega) (by omega) h37
          refine j_iload_n d_T_handOver_48 rfl ?_
          refine j_aload_n d_T_handOver_49 rfl ?_
          refine j_geti d_T_handOver_50 hN f_T_17_T rfl (by decide) ?_
          refine j_eqi st0 ?_
          refine j_icmp_eq (tgt := 69) d_T_handOver_53 (by decide) (fun h53 => ?_) (fun h53 => ?_)
          · have k53 := i_eq (by omega) (by omega) h53
            refine j_return d_T_handOver_69 rfl ?_ (by decide) (by decide)
            refine ⟨rfl, ?_⟩
            first
              | exact absurd k5 k29
              | exact absurd k29 k5
              | exact absurd k53 k5
              | exact absurd k5 k53
              | (rw [if_pos k5, if_pos k9])
              | (rw [if_pos k5, if_neg k9, if_neg k37])
              | (rw [if_pos k5, if_neg k9, if_pos k37])
              | (rw [if_neg k5, if_pos k61])
              | (rw [if_neg k5, if_neg k61])
          · have k53 := i_ne (by omega) (by omega) h53
            refine j_iload_n d_T_handOver_56 rfl ?_
            refine j_aload_n d_T_handOver_57 rfl ?_
            refine j_geti d_T_handOver_58 hN f_T_17_T rfl (by decide) ?_
            refine j_eqi st0 ?_
            refine j_icmp_ne (tgt := 69) d_T_handOver_61 (by decide) (fun h61 => ?_) (fun h61 => ?_)
            · have k61 := i_ne (by omega) (by omega) h61
              refine j_return d_T_handOver_69 rfl ?_ (by decide) (by decide)
              refine ⟨rfl, ?_⟩
              first
                | exact absurd k5 k29
                | exact absurd k29 k5
                | exact absurd k53 k5
                | exact absurd k5 k53
                | (rw [if_pos k5, if_pos k9])
                | (rw [if_pos k5, if_neg k9, if_neg k37])
                | (rw [if_pos k5, if_neg k9, if_pos k37])
                | (rw [if_neg k5, if_pos k61])
                | (rw [if_neg k5, if_neg k61])
            · have k61 := i_eq (by omega) (by omega) h61
              refine j_aload_n d_T_handOver_64 rfl ?_
              refine j_iconst (v := 3) d_T_handOver_65 (by decide) ?_
              refine j_puti d_T_handOver_66 tH p_T_35_H rfl (by decide) rfl rfl ?_
              refine j_return d_T_handOver_69 rfl ?_ (by decide) (by decide)
              refine ⟨rfl, ?_⟩
              first
                | exact absurd k5 k29
                | exact absurd k29 k5
                | exact absurd k53 k5
                | exact absurd k5 k53
                | (rw [if_pos k5, if_pos k9])
                | (rw [if_pos k5, if_neg k9, if_neg k37])
                | (rw [if_pos k5, if_neg k9, if_pos k37])
                | (rw [if_neg k5, if_pos k61])
                | (rw [if_neg k5, if_neg k61])
        · have k37 := i_ne (by omega) (by omega) h37
          refine j_aload_n d_T_handOver_40 rfl ?_
          refine j_iconst (v := 2) d_T_handOver_41 (by decide) ?_
          refine j_puti d_T_handOver_42 tH p_T_35_H rfl (by decide) rfl rfl ?_
          refine j_goto 69 d_T_handOver_45 (by decide) ?_
          refine j_return d_T_handOver_69 rfl ?_ (by decide) (by decide)
          refine ⟨rfl, ?_⟩
          first
            | exact absurd k5 k29
            | exact absurd k29 k5
            | exact absurd k53 k5
            | exact absurd k5 k53
            | (rw [if_pos k5, if_pos k9])
            | (rw [if_pos k5, if_neg k9, if_neg k37])
            | (rw [if_pos k5, if_neg k9, if_pos k37])
            | (rw [if_neg k5, if_pos k61])
            | (rw [if_neg k5, if_neg k61])
    · have k9 := i_eq (b := 0) (by omega) (by decide) h9a
      refine j_aload_n d_T_handOver_12 rfl ?_
      refine j_callV (vs := []) d_T_handOver_13 tH (by decide) rfl w386 w387 w6 w389 w388 y_H_clear (by decide) (by decide) (k_clear M h9 hh) rfl (Nat.le_of_ble_eq_true rfl) (by decide) (by decide) (fun M1 r1 hq1 => ?_)
      obtain ⟨rfl, rfl⟩ := hq1
      refine j_aload_n d_T_handOver_16 rfl ?_
      refine j_iconst (v := 1) d_T_handOver_17 (by decide) ?_
      refine j_puti d_T_handOver_18 ((clr_o M h9).tO tH) p_T_35_H rfl (by decide) rfl rfl ?_
      refine j_goto 69 d_T_handOver_21 (by decide) ?_
      refine j_return d_T_handOver_69 rfl ?_ (by decide) (by decide)
      refine ⟨rfl, ?_⟩
      first
        | exact absurd k5 k29
        | exact absurd k29 k5
        | exact absurd k53 k5
        | exact absurd k5 k53
        | (rw [if_pos k5, if_pos k9])
        | (rw [if_pos k5, if_neg k9, if_neg k37])
        | (rw [if_pos k5, if_neg k9, if_pos k37])
        | (rw [if_neg k5, if_pos k61])
        | (rw [if_neg k5, if_neg k61])
