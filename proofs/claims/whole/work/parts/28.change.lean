abbrev chOk (k a b : Int32) : Prop := (k = 2 ∧ (0 ≤ a ∧ a < 8) ∧ (1 ≤ b ∧ b < 4)) ∨ ((k = 0 ∨ k = 1) ∧ (1 ≤ a ∧ a < 4))
abbrev rqOk (c n k y v : Int32) : Prop := (0 ≤ c ∧ c < 3) ∧ (0 ≤ y ∧ y < 16) ∧ 1 ≤ n ∧ n ≤ 999 ∧ 0 ≤ k ∧ k ≤ 2 ∧ 0 ≤ v ∧ v < 1000
def iN (x : Int32) : Nat := x.toNatClampNeg
def eCh (t k a b : Nat) : Nat → Nat := eM [t, 1 + k, a, if k = 2 then b else 0]
def eRq (t c n k y v : Nat) : Nat → Nat := eM [t, 5, c, n, k, y, v]
def oChange (S : aS) (x k a b : Int32) : aS × Int32 := match dN x 3 with
  | none => (S, -1)
  | some n => if sUp S n = true ∧ chOk k a b then (if sLd S n = true then oWr S n (eCh (sT S n) (iN k) (iN a) (iN b)) else (S, -2)) else (S, -1)
def dG (x : Int32) : Option Nat := if 3 ≤ x ∧ x < 12 then some (iN x) else none
def oRequest (S : aS) (x c n k y v : Int32) : aS × Int32 := match dG x with
  | none => (S, -1)
  | some m => if sUp S m = true ∧ rqOk c n k y v then (if sLd S m = true then oWr S m (eRq (sT S m) (iN c) (iN n) (iN k) (iN y) (iN v)) else (S, -2)) else (S, -1)
theorem dG_cases (x : Int32) : (dG x = none ∧ (x < 3 ∨ nI 12 ≤ x)) ∨ ∃ n, 3 ≤ n ∧ n < 12 ∧ x = nI n ∧ dG x = some n := by
  by_cases h1 : x < 3
  · exact Or.inl ⟨if_neg (fun q => Int32.not_lt.mpr q.1 h1), Or.inl h1⟩
  · by_cases h2 : nI 12 ≤ x
    · exact Or.inl ⟨if_neg (fun q => Int32.not_lt.mpr h2 q.2), Or.inr h2⟩
    · have h0 : ¬ x < 0 := fun q => h1 (Int32.lt_trans q (by decide))
      rcases pk_ix x (n := 12) (by decide) with h | h | ⟨j, g1, g2⟩
      · exact absurd h h0
      · exact absurd h h2
      · subst g2
        have g3 : 3 ≤ j := i_nlt (b := 3) (by omega) (by decide) h1
        refine Or.inr ⟨j, g3, g1, rfl, ?_⟩
        unfold dG
        rw [if_pos ⟨Int32.not_lt.mp h1, Int32.not_le.mp h2⟩]
        unfold iN
        rw [nI_clamp (by omega)]
theorem iN_nI {x : Int32} (h : 0 ≤ x) : nI (iN x) = x := by
  rcases nI_of (x := x) (Int32.not_lt.mpr h) with ⟨j, h1, rfl⟩
  unfold iN
  rw [nI_clamp h1]
theorem iN_lt {x : Int32} {n : Nat} (hn : n < 2 ^ 31) (h0 : 0 ≤ x) (h : x < nI n) : iN x < n := by
  rcases nI_of (x := x) (Int32.not_lt.mpr h0) with ⟨j, h1, rfl⟩
  unfold iN
  rw [nI_clamp h1]
  exact i_lt h1 hn h
theorem iN_ge {x : Int32} {n : Nat} (hn : n < 2 ^ 31) (h0 : 0 ≤ x) (h : nI n ≤ x) : n ≤ iN x := by
  rcases nI_of (x := x) (Int32.not_lt.mpr h0) with ⟨j, h1, rfl⟩
  unfold iN
  rw [nI_clamp h1]
  exact i_le hn h1 h

set_option maxRecDepth 20000 in
set_option maxHeartbeats 1000000 in
theorem k_isChange (M : aM) (k a b : Int32) : aK m_S_isChange 1 0 0 M [.int k, .int a, .int b] (fun M1 r => M1 = M ∧ r = some (.int (bP (chOk k a b)))) := by
  refine aK.of (by decide) (Nat.le_of_ble_eq_true rfl) ?_
  refine j_iload_n d_S_isChange_0 rfl ?_
  refine j_iconst (v := 2) d_S_isChange_1 (by decide) ?_
  refine j_icmp_ne (tgt := 25) d_S_isChange_2 (by decide) (fun h2 => ?_) (fun h2 => ?_)
  · refine j_iload_n d_S_isChange_25 rfl ?_
    refine j_if_eq (tgt := 34) d_S_isChange_26 (by decide) (fun h26 => ?_) (fun h26 => ?_)
    · have hk : k = 0 ∨ k = 1 := Or.inl h26
      refine j_iload_n d_S_isChange_34 rfl ?_
      refine j_callS (vs := [_]) d_S_isChange_35 w436 w437 w1 w438 y_S_isOwningGroup (by decide) (by decide) (k_isOwningGroup M a) rfl (Nat.le_of_ble_eq_true rfl) (by decide) (by decide) (fun M1 r1 hq1 => ?_)
      obtain ⟨rfl, rfl⟩ := hq1
      refine j_if_eq (tgt := 45) d_S_isChange_38 (by decide) (fun h38 => ?_) (fun h38 => ?_)
      · have hb : bP (chOk k a b) = 0 := bP_f (fun q => q.elim (fun q => h2 q.1) (fun q => absurd (bP_t q.2) (by rw [h38]; decide)))
        refine j_iconst (v := 0) d_S_isChange_45 (by decide) ?_
        refine j_ireturn d_S_isChange_46 rfl rfl ?_ (by decide) (by decide)
        exact ⟨rfl, by rw [hb]⟩
      · have hb : bP (chOk k a b) = 1 := bP_t (Or.inr ⟨hk, Decidable.byContradiction (fun q => h38 (bP_f q))⟩)
        refine j_iconst (v := 1) d_S_isChange_41 (by decide) ?_
        refine j_goto 46 d_S_isChange_42 (by decide) ?_
        refine j_ireturn d_S_isChange_46 rfl rfl ?_ (by decide) (by decide)
        exact ⟨rfl, by rw [hb]⟩
    · refine j_iload_n d_S_isChange_29 rfl ?_
      refine j_iconst (v := 1) d_S_isChange_30 (by decide) ?_
      refine j_icmp_ne (tgt := 45) d_S_isChange_31 (by decide) (fun h31 => ?_) (fun h31 => ?_)
      · have hb : bP (chOk k a b) = 0 := bP_f (fun q => q.elim (fun q => h2 q.1) (fun q => q.1.elim h26 h31))
        refine j_iconst (v := 0) d_S_isChange_45 (by decide) ?_
        refine j_ireturn d_S_isChange_46 rfl rfl ?_ (by decide) (by decide)
        exact ⟨rfl, by rw [hb]⟩
      · have hk : k = 0 ∨ k = 1 := Or.inr h31
        refine j_iload_n d_S_isChange_34 rfl ?_
        refine j_callS (vs := [_]) d_S_isChange_35 w436 w437 w1 w438 y_S_isOwningGroup (by decide) (by decide) (k_isOwningGroup M a) rfl (Nat.le_of_ble_eq_true rfl) (by decide) (by decide) (fun M1 r1 hq1 => ?_)
        obtain ⟨rfl, rfl⟩ := hq1
        refine j_if_eq (tgt := 45) d_S_isChange_38 (by decide) (fun h38 => ?_) (fun h38 => ?_)
        · have hb : bP (chOk k a b) = 0 := bP_f (fun q => q.elim (fun q => h2 q.1) (fun q => absurd (bP_t q.2) (by rw [h38]; decide)))
          refine j_iconst (v := 0) d_S_isChange_45 (by decide) ?_
          refine j_ireturn d_S_isChange_46 rfl rfl ?_ (by decide) (by decide)
          exact ⟨rfl, by rw [hb]⟩
        · have hb : bP (chOk k a b) = 1 := bP_t (Or.inr ⟨hk, Decidable.byContradiction (fun q => h38 (bP_f q))⟩)
          refine j_iconst (v := 1) d_S_isChange_41 (by decide) ?_
          refine j_goto 46 d_S_isChange_42 (by decide) ?_
          refine j_ireturn d_S_isChange_46 rfl rfl ?_ (by decide) (by decide)
          exact ⟨rfl, by rw [hb]⟩
  · refine j_iload_n d_S_isChange_5 rfl ?_
    refine j_callS (vs := [_]) d_S_isChange_6 w433 w434 w1 w435 y_S_isShard (by decide) (by decide) (k_isShard M a) rfl (Nat.le_of_ble_eq_true rfl) (by decide) (by decide) (fun M1 r1 hq1 => ?_)
    obtain ⟨rfl, rfl⟩ := hq1
    refine j_if_eq (tgt := 23) d_S_isChange_9 (by decide) (fun h9 => ?_) (fun h9 => ?_)
    · have hb : bP (chOk k a b) = 0 := bP_f (fun q => q.elim (fun q => absurd (bP_t q.2.1) (by rw [h9]; decide)) (fun q => q.1.elim (fun q => absurd (h2.symm.trans q) (by decide)) (fun q => absurd (h2.symm.trans q) (by decide))))
      refine j_iconst (v := 0) d_S_isChange_23 (by decide) ?_
      refine j_ireturn d_S_isChange_24 rfl rfl ?_ (by decide) (by decide)
      exact ⟨rfl, by rw [hb]⟩
    · refine j_iload_n d_S_isChange_12 rfl ?_
      refine j_callS (vs := [_]) d_S_isChange_13 w436 w437 w1 w438 y_S_isOwningGroup (by decide) (by decide) (k_isOwningGroup M1 b) rfl (Nat.le_of_ble_eq_true rfl) (by decide) (by decide) (fun M2 r2 hq2 => ?_)
      obtain ⟨rfl, rfl⟩ := hq2
      refine j_if_eq (tgt := 23) d_S_isChange_16 (by decide) (fun h16 => ?_) (fun h16 => ?_)
      · have hb : bP (chOk k a b) = 0 := bP_f (fun q => q.elim (fun q => absurd (bP_t q.2.2) (by rw [h16]; decide)) (fun q => q.1.elim (fun q => absurd (h2.symm.trans q) (by decide)) (fun q => absurd (h2.symm.trans q) (by decide))))
        refine j_iconst (v := 0) d_S_isChange_23 (by decide) ?_
        refine j_ireturn d_S_isChange_24 rfl rfl ?_ (by decide) (by decide)
        exact ⟨rfl, by rw [hb]⟩
      · have hb : bP (chOk k a b) = 1 := bP_t (Or.inl ⟨h2, Decidable.byContradiction (fun q => h9 (bP_f q)), Decidable.byContradiction (fun q => h16 (bP_f q))⟩)
        refine j_iconst (v := 1) d_S_isChange_19 (by decide) ?_
        refine j_goto 24 d_S_isChange_20 (by decide) ?_
        refine j_ireturn d_S_isChange_24 rfl rfl ?_ (by decide) (by decide)
        exact ⟨rfl, by rw [hb]⟩
set_option maxRecDepth 20000 in
set_option maxHeartbeats 1000000 in
theorem k_change_n (M : aM) (x k a b : Int32) (h : cSh M) (hx : aK m_S_upService 1 0 0 M [.ref 0, .int x] (fun M1 r => M1 = M ∧ r = some .null)) : aK m_S_change 3 1 4 M [.ref 0, .int x, .int k, .int a, .int b] (fun M1 r => M1 = M ∧ r = some (.int (-1))) := by
  refine aK.of (by decide) (Nat.le_of_ble_eq_true rfl) ?_
  have h0 := h.2.1
  have hr0 := h.2.2.1
  have hr1 := h.2.2.2.1
  have hr2 := h.2.2.2.2.1
  have hA1 := h.2.2.2.2.2.1
  have hA2 := h.2.2.2.2.2.2.1
  have hA3 := h.2.2.2.2.2.2.2.1
  refine j_aload_n d_S_change_0 rfl ?_
  refine j_iload_n d_S_change_1 rfl ?_
  refine j_callV (vs := [_]) d_S_change_2 (by assumption) (by decide) rfl w422 w424 w1 w425 ws_S_upService y_S_upService (by decide) (by decide) (hx) rfl (Nat.le_of_ble_eq_true rfl) (by decide) (by decide) (fun M1 r1 hq1 => ?_)
  obtain ⟨rfl, rfl⟩ := hq1
  refine j_astoreN d_S_change_5 (by decide) ?_
  refine j_aloadN d_S_change_7 rfl ?_
  refine j_ifnullN 22 d_S_change_9 (by decide) ?_
  refine j_iconst (v := -1) d_S_change_22 (by decide) ?_
  refine j_ireturn d_S_change_23 rfl rfl ?_ (by decide) (by decide)
  exact ⟨rfl, rfl⟩
set_option maxRecDepth 20000 in
set_option maxHeartbeats 1000000 in
theorem k_change_b (M : aM) (n : Nat) (k a b : Int32) (h : cSh M) (hn : n < 3) (hu : mI M (nd n) 0 ≠ 0) (hc : ¬ chOk k a b) : aK m_S_change 3 1 4 M [.ref 0, .int (nI n), .int k, .int a, .int b] (fun M1 r => M1 = M ∧ r = some (.int (-1))) := by
  refine aK.of (by decide) (Nat.le_of_ble_eq_true rfl) ?_
  have h0 := h.2.1
  have hr0 := h.2.2.1
  have hr1 := h.2.2.2.1
  have hr2 := h.2.2.2.2.1
  have hA1 := h.2.2.2.2.2.1
  have hA2 := h.2.2.2.2.2.2.1
  have hA3 := h.2.2.2.2.2.2.2.1
  have hN := (cSh_V h hn).1
  refine j_aload_n d_S_change_0 rfl ?_
  refine j_iload_n d_S_change_1 rfl ?_
  refine j_callV (vs := [_]) d_S_change_2 (by assumption) (by decide) rfl w422 w424 w1 w425 ws_S_upService y_S_upService (by decide) (by decide) (k_upV M n h hn hu) rfl (Nat.le_of_ble_eq_true rfl) (by decide) (by decide) (fun M1 r1 hq1 => ?_)
  obtain ⟨rfl, rfl⟩ := hq1
  refine j_astore d_S_change_5 (by decide) ?_
  refine j_aload d_S_change_7 rfl ?_
  refine j_ifnull d_S_change_9 ?_
  refine j_iload_n d_S_change_12 rfl ?_
  refine j_iload_n d_S_change_13 rfl ?_
  refine j_iload d_S_change_14 rfl ?_
  refine j_callS (vs := [_, _, _]) d_S_change_16 w430 w431 w1 w432 y_S_isChange (by decide) (by decide) (k_isChange M1 k a b) rfl (Nat.le_of_ble_eq_true rfl) (by decide) (by decide) (fun M2 r2 hq2 => ?_)
  obtain ⟨rfl, rfl⟩ := hq2
  refine j_if_ne (tgt := 24) d_S_change_19 (by decide) (fun h19 => False.elim (h19 (bP_f hc))) (fun h19 => ?_)
  refine j_iconst (v := -1) d_S_change_22 (by decide) ?_
  refine j_ireturn d_S_change_23 rfl rfl ?_ (by decide) (by decide)
  exact ⟨rfl, rfl⟩
set_option maxRecDepth 20000 in
set_option maxHeartbeats 1000000 in
theorem k_change_f (M : aM) (n : Nat) (k a b : Int32) (h : cSh M) (hn : n < 3) (hu : mI M (nd n) 0 ≠ 0) (hc : chOk k a b) (hl : mI M (nd n) 1 = 0) : aK m_S_change 3 1 4 M [.ref 0, .int (nI n), .int k, .int a, .int b] (fun M1 r => M1 = M ∧ r = some (.int (-2))) := by
  refine aK.of (by decide) (Nat.le_of_ble_eq_true rfl) ?_
  have h0 := h.2.1
  have hr0 := h.2.2.1
  have hr1 := h.2.2.2.1
  have hr2 := h.2.2.2.2.1
  have hA1 := h.2.2.2.2.2.1
  have hA2 := h.2.2.2.2.2.2.1
  have hA3 := h.2.2.2.2.2.2.2.1
  have hN := (cSh_V h hn).1
  refine j_aload_n d_S_change_0 rfl ?_
  refine j_iload_n d_S_change_1 rfl ?_
  refine j_callV (vs := [_]) d_S_change_2 (by assumption) (by decide) rfl w422 w424 w1 w425 ws_S_upService y_S_upService (by decide) (by decide) (k_upV M n h hn hu) rfl (Nat.le_of_ble_eq_true rfl) (by decide) (by decide) (fun M1 r1 hq1 => ?_)
  obtain ⟨rfl, rfl⟩ := hq1
  refine j_astore d_S_change_5 (by decide) ?_
  refine j_aload d_S_change_7 rfl ?_
  refine j_ifnull d_S_change_9 ?_
  refine j_iload_n d_S_change_12 rfl ?_
  refine j_iload_n d_S_change_13 rfl ?_
  refine j_iload d_S_change_14 rfl ?_
  refine j_callS (vs := [_, _, _]) d_S_change_16 w430 w431 w1 w432 y_S_isChange (by decide) (by decide) (k_isChange M1 k a b) rfl (Nat.le_of_ble_eq_true rfl) (by decide) (by decide) (fun M2 r2 hq2 => ?_)
  obtain ⟨rfl, rfl⟩ := hq2
  refine j_if_ne (tgt := 24) d_S_change_19 (by decide) (fun h19 => ?_) (fun h19 => False.elim (absurd (bP_t hc) (by rw [h19]; decide)))
  refine j_aload d_S_change_24 rfl ?_
  refine j_geti d_S_change_26 (by assumption) f_S_105_V rfl (by decide) ?_
  refine j_if_ne (tgt := 35) d_S_change_29 (by decide) (fun h29 => False.elim (h29 hl)) (fun h29 => ?_)
  refine j_bipush (v := -2) d_S_change_32 (by decide) ?_
  refine j_ireturn d_S_change_34 rfl rfl ?_ (by decide) (by decide)
  exact ⟨rfl, rfl⟩
def fG (M : aM) (o : Nat) (t k a b : Int32) : aM := sI (sI (sI (sI M o 0 t) o 1 k) o 2 a) o 3 b
def fR (M : aM) (o : Nat) (t x1 x2 x3 x4 x5 : Int32) : aM := sI (sI (sI (sI (sI (sI M o 0 t) o 1 x1) o 2 x2) o 3 x3) o 4 x4) o 5 x5
set_option maxRecDepth 20000 in
set_option maxHeartbeats 1000000 in
theorem k_change_w (M : aM) (n : Nat) (k a b : Int32) (h : cSh M) (hn : n < 3) (hu : mI M (nd n) 0 ≠ 0) (hc : chOk k a b) (hl : mI M (nd n) 1 ≠ 0) (len : Nat) (hlen : mI M (nd n) 3 = nI len) (h80 : len ≤ 80) : aK m_S_change 3 1 4 M [.ref 0, .int (nI n), .int k, .int a, .int b] (fun M1 r => if len = 80 then M1 = fG (mN M 6 0) (mSz M) (mI M (nd n) 2) k a b ∧ r = some (.int (-3)) else M1 = sI (sR (fG (mN M 6 0) (mSz M) (mI M (nd n) 2) k a b) (nd n + 1) len (some (mSz M))) (nd n) 3 (nI (len + 1)) ∧ r = some (.int (nI (len + 1)))) := by
  refine aK.of (by decide) (Nat.le_of_ble_eq_true rfl) ?_
  have h0 := h.2.1
  have hr0 := h.2.2.1
  have hr1 := h.2.2.2.1
  have hr2 := h.2.2.2.2.1
  have hA1 := h.2.2.2.2.2.1
  have hA2 := h.2.2.2.2.2.2.1
  have hA3 := h.2.2.2.2.2.2.2.1
  have hN := (cSh_V h hn).1
  refine j_aload_n d_S_change_0 rfl ?_
  refine j_iload_n d_S_change_1 rfl ?_
  refine j_callV (vs := [_]) d_S_change_2 (by assumption) (by decide) rfl w422 w424 w1 w425 ws_S_upService y_S_upService (by decide) (by decide) (k_upV M n h hn hu) rfl (Nat.le_of_ble_eq_true rfl) (by decide) (by decide) (fun M1 r1 hq1 => ?_)
  obtain ⟨rfl, rfl⟩ := hq1
  refine j_astore d_S_change_5 (by decide) ?_
  refine j_aload d_S_change_7 rfl ?_
  refine j_ifnull d_S_change_9 ?_
  refine j_iload_n d_S_change_12 rfl ?_
  refine j_iload_n d_S_change_13 rfl ?_
  refine j_iload d_S_change_14 rfl ?_
  refine j_callS (vs := [_, _, _]) d_S_change_16 w430 w431 w1 w432 y_S_isChange (by decide) (by decide) (k_isChange M1 k a b) rfl (Nat.le_of_ble_eq_true rfl) (by decide) (by decide) (fun M2 r2 hq2 => ?_)
  obtain ⟨rfl, rfl⟩ := hq2
  refine j_if_ne (tgt := 24) d_S_change_19 (by decide) (fun h19 => ?_) (fun h19 => False.elim (absurd (bP_t hc) (by rw [h19]; decide)))
  refine j_aload d_S_change_24 rfl ?_
  refine j_geti d_S_change_26 (by assumption) f_S_105_V rfl (by decide) ?_
  refine j_if_ne (tgt := 35) d_S_change_29 (by decide) (fun h29 => ?_) (fun h29 => False.elim (hl h29))
  refine j_aload d_S_change_35 rfl ?_
  refine j_new d_S_change_37 n_S_106 (by decide) (by decide) (by decide) ?_
  have hN1 := hN.up 6 0
  refine j_dup d_S_change_40 ?_
  refine j_aload d_S_change_41 rfl ?_
  refine j_geti d_S_change_43 (by assumption) f_S_108_V rfl (by decide) ?_
  refine j_eqi (show _ = mI M2 (nd n) 2 by rw [mm_I_mN, if_neg (Nat.ne_of_lt hN.1)]) ?_
  refine j_iload_n d_S_change_46 rfl ?_
  refine j_iload_n d_S_change_47 rfl ?_
  refine j_iload d_S_change_48 rfl ?_
  refine j_callI (vs := [_, _, _, _]) d_S_change_50 w440 w441 w11 w442 rfl rfl y_G_init (by decide) (by decide) (k_G_init _ (mSz M2) (mI M2 (nd n) 2) k a b (tO.new M2 6 0)) rfl (Nat.le_of_ble_eq_true rfl) (by decide) (by decide) (fun M3 r3 hq3 => ?_)
  obtain ⟨rfl, rfl⟩ := hq3
  have hnd := (cSh_V h hn).2
  have hnd : mR (fG (mN M2 6 0) (mSz M2) (mI M2 (nd n) 2) k a b) (nd n) 5 = some (nd n + 1) ∧ tA M2 (nd n + 1) 106 80 := ⟨by show mR (mN M2 6 0) (nd n) 5 = _; rw [mm_R_mN, if_neg (Nat.ne_of_lt hN.1)]; exact hnd.1, hnd.2⟩
  have hne := Nat.ne_of_lt hN.1
  have hlen4 : mI (fG (mN M2 6 0) (mSz M2) (mI M2 (nd n) 2) k a b) (nd n) 3 = nI len := by unfold fG; rw [mm_I_sI, if_neg (fun q => hne q.1), mm_I_sI, if_neg (fun q => hne q.1), mm_I_sI, if_neg (fun q => hne q.1), mm_I_sI, if_neg (fun q => hne q.1), mm_I_mN, if_neg hne]; exact hlen
  refine j_callU (owner := "ShardGroups$Node") (vs := [_]) d_S_change_53 hN1 (by decide) rfl w455 w245 w3 w249 w458 w456 (Or.inl rfl) y_N_write (by decide) (by decide) (k_write_V (fG (mN M2 6 0) (mSz M2) (mI M2 (nd n) 2) k a b) (nd n) len (mSz M2) 6 ⟨hN1, hnd.1, hnd.2.up 6 0⟩ hlen4 h80 (tO.new M2 6 0) (by decide) (by decide)) rfl (Nat.le_of_ble_eq_true rfl) (by decide) (by decide) (fun M4 r4 hq4 => ?_)
  have hr4 : ∃ z : Int32, r4 = some (.int z) := by
    split at hq4
    · exact ⟨_, hq4.2⟩
    · exact ⟨_, hq4.2⟩
  obtain ⟨z, rfl⟩ := hr4
  refine j_ireturn d_S_change_56 rfl rfl ?_ (by decide) (by decide)
  exact hq4
set_option maxRecDepth 20000 in
set_option maxHeartbeats 1000000 in
theorem k_request_n (M : aM) (x c n k y v : Int32) (h : cSh M) (hx : aK m_S_upStore 1 0 0 M [.ref 0, .int x] (fun M1 r => M1 = M ∧ r = some .null)) : aK m_S_request 3 1 6 M [.ref 0, .int x, .int c, .int n, .int k, .int y, .int v] (fun M1 r => M1 = M ∧ r = some (.int (-1))) := by
  refine aK.of (by decide) (Nat.le_of_ble_eq_true rfl) ?_
  have h0 := h.2.1
  have hr0 := h.2.2.1
  have hr1 := h.2.2.2.1
  have hr2 := h.2.2.2.2.1
  have hA1 := h.2.2.2.2.2.1
  have hA2 := h.2.2.2.2.2.2.1
  have hA3 := h.2.2.2.2.2.2.2.1
  refine j_aload_n d_S_request_0 rfl ?_
  refine j_iload_n d_S_request_1 rfl ?_
  refine j_callV (vs := [_]) d_S_request_2 (by assumption) (by decide) rfl w463 w465 w1 w466 ws_S_upStore y_S_upStore (by decide) (by decide) (hx) rfl (Nat.le_of_ble_eq_true rfl) (by decide) (by decide) (fun M1 r1 hq1 => ?_)
  obtain ⟨rfl, rfl⟩ := hq1
  refine j_astoreN d_S_request_5 (by decide) ?_
  refine j_aloadN d_S_request_7 rfl ?_
  refine j_ifnullN 63 d_S_request_9 (by decide) ?_
  refine j_iconst (v := -1) d_S_request_63 (by decide) ?_
  refine j_ireturn d_S_request_64 rfl rfl ?_ (by decide) (by decide)
  exact ⟨rfl, rfl⟩
set_option maxRecDepth 20000 in
set_option maxHeartbeats 1000000 in
theorem k_request_b (M : aM) (m : Nat) (c n k y v : Int32) (h : cSh M) (h3 : 3 ≤ m) (hm : m < 12) (hu : mI M (nd m) 0 ≠ 0) (hc : ¬ rqOk c n k y v) : aK m_S_request 3 1 6 M [.ref 0, .int (nI m), .int c, .int n, .int k, .int y, .int v] (fun M1 r => M1 = M ∧ r = some (.int (-1))) := by
  refine aK.of (by decide) (Nat.le_of_ble_eq_true rfl) ?_
  have h0 := h.2.1
  have hr0 := h.2.2.1
  have hr1 := h.2.2.2.1
  have hr2 := h.2.2.2.2.1
  have hA1 := h.2.2.2.2.2.1
  have hA2 := h.2.2.2.2.2.2.1
  have hA3 := h.2.2.2.2.2.2.2.1
  have hN := (cSh_T h h3 hm).1
  refine j_aload_n d_S_request_0 rfl ?_
  refine j_iload_n d_S_request_1 rfl ?_
  refine j_callV (vs := [_]) d_S_request_2 (by assumption) (by decide) rfl w463 w465 w1 w466 ws_S_upStore y_S_upStore (by decide) (by decide) (k_upT M m h h3 hm hu) rfl (Nat.le_of_ble_eq_true rfl) (by decide) (by decide) (fun M1 r1 hq1 => ?_)
  obtain ⟨rfl, rfl⟩ := hq1
  refine j_astore d_S_request_5 (by decide) ?_
  refine j_aload d_S_request_7 rfl ?_
  refine j_ifnull d_S_request_9 ?_
  refine j_iload_n d_S_request_12 rfl ?_
  refine j_callS (vs := [_]) d_S_request_13 w471 w472 w1 w473 y_S_isClient (by decide) (by decide) (k_isClient M1 c) rfl (Nat.le_of_ble_eq_true rfl) (by decide) (by decide) (fun M2 r2 hq2 => ?_)
  obtain ⟨rfl, rfl⟩ := hq2
  refine j_if_eq (tgt := 63) d_S_request_16 (by decide) (fun h16 => ?_) (fun h16 => ?_)
  · refine j_iconst (v := -1) d_S_request_63 (by decide) ?_
    refine j_ireturn d_S_request_64 rfl rfl ?_ (by decide) (by decide)
    exact ⟨rfl, rfl⟩
  · refine j_iload d_S_request_19 rfl ?_
    refine j_callS (vs := [_]) d_S_request_21 w474 w475 w1 w476 y_S_isKey (by decide) (by decide) (k_isKey M2 y) rfl (Nat.le_of_ble_eq_true rfl) (by decide) (by decide) (fun M3 r3 hq3 => ?_)
    obtain ⟨rfl, rfl⟩ := hq3
    refine j_if_eq (tgt := 63) d_S_request_24 (by decide) (fun h24 => ?_) (fun h24 => ?_)
    · refine j_iconst (v := -1) d_S_request_63 (by decide) ?_
      refine j_ireturn d_S_request_64 rfl rfl ?_ (by decide) (by decide)
      exact ⟨rfl, rfl⟩
    · refine j_iload_n d_S_request_27 rfl ?_
      refine j_iconst (v := 1) d_S_request_28 (by decide) ?_
      refine j_icmp_lt (tgt := 63) d_S_request_29 (by decide) (fun h29 => ?_) (fun h29 => ?_)
      · refine j_iconst (v := -1) d_S_request_63 (by decide) ?_
        refine j_ireturn d_S_request_64 rfl rfl ?_ (by decide) (by decide)
        exact ⟨rfl, rfl⟩
      · refine j_iload_n d_S_request_32 rfl ?_
        refine j_sipush (v := 999) d_S_request_33 (by decide) ?_
        refine j_icmp_gt (tgt := 63) d_S_request_36 (by decide) (fun h36 => ?_) (fun h36 => ?_)
        · refine j_iconst (v := -1) d_S_request_63 (by decide) ?_
          refine j_ireturn d_S_request_64 rfl rfl ?_ (by decide) (by decide)
          exact ⟨rfl, rfl⟩
        · refine j_iload d_S_request_39 rfl ?_
          refine j_if_lt (tgt := 63) d_S_request_41 (by decide) (fun h41 => ?_) (fun h41 => ?_)
          · refine j_iconst (v := -1) d_S_request_63 (by decide) ?_
            refine j_ireturn d_S_request_64 rfl rfl ?_ (by decide) (by decide)
            exact ⟨rfl, rfl⟩
          · refine j_iload d_S_request_44 rfl ?_
            refine j_iconst (v := 2) d_S_request_46 (by decide) ?_
            refine j_icmp_gt (tgt := 63) d_S_request_47 (by decide) (fun h47 => ?_) (fun h47 => ?_)
            · refine j_iconst (v := -1) d_S_request_63 (by decide) ?_
              refine j_ireturn d_S_request_64 rfl rfl ?_ (by decide) (by decide)
              exact ⟨rfl, rfl⟩
            · refine j_iload d_S_request_50 rfl ?_
              refine j_if_lt (tgt := 63) d_S_request_52 (by decide) (fun h52 => ?_) (fun h52 => ?_)
              · refine j_iconst (v := -1) d_S_request_63 (by decide) ?_
                refine j_ireturn d_S_request_64 rfl rfl ?_ (by decide) (by decide)
                exact ⟨rfl, rfl⟩
              · refine j_iload d_S_request_55 rfl ?_
                refine j_sipush (v := 1000) d_S_request_57 (by decide) ?_
                refine j_icmp_lt (tgt := 65) d_S_request_60 (by decide) (fun h60 => False.elim (hc ⟨(Decidable.byContradiction (fun q => h16 (bP_f q))), (Decidable.byContradiction (fun q => h24 (bP_f q))), Int32.not_lt.mp h29, Int32.not_lt.mp h36, Int32.not_lt.mp h41, Int32.not_lt.mp h47, Int32.not_lt.mp h52, h60⟩)) (fun h60 => ?_)
                refine j_iconst (v := -1) d_S_request_63 (by decide) ?_
                refine j_ireturn d_S_request_64 rfl rfl ?_ (by decide) (by decide)
                exact ⟨rfl, rfl⟩
set_option maxRecDepth 20000 in
set_option maxHeartbeats 1000000 in
theorem k_request_f (M : aM) (m : Nat) (c n k y v : Int32) (h : cSh M) (h3 : 3 ≤ m) (hm : m < 12) (hu : mI M (nd m) 0 ≠ 0) (hc : rqOk c n k y v) (hl : mI M (nd m) 1 = 0) : aK m_S_request 3 1 6 M [.ref 0, .int (nI m), .int c, .int n, .int k, .int y, .int v] (fun M1 r => M1 = M ∧ r = some (.int (-2))) := by
  refine aK.of (by decide) (Nat.le_of_ble_eq_true rfl) ?_
  have h0 := h.2.1
  have hr0 := h.2.2.1
  have hr1 := h.2.2.2.1
  have hr2 := h.2.2.2.2.1
  have hA1 := h.2.2.2.2.2.1
  have hA2 := h.2.2.2.2.2.2.1
  have hA3 := h.2.2.2.2.2.2.2.1
  have hN := (cSh_T h h3 hm).1
  refine j_aload_n d_S_request_0 rfl ?_
  refine j_iload_n d_S_request_1 rfl ?_
  refine j_callV (vs := [_]) d_S_request_2 (by assumption) (by decide) rfl w463 w465 w1 w466 ws_S_upStore y_S_upStore (by decide) (by decide) (k_upT M m h h3 hm hu) rfl (Nat.le_of_ble_eq_true rfl) (by decide) (by decide) (fun M1 r1 hq1 => ?_)
  obtain ⟨rfl, rfl⟩ := hq1
  refine j_astore d_S_request_5 (by decide) ?_
  refine j_aload d_S_request_7 rfl ?_
  refine j_ifnull d_S_request_9 ?_
  refine j_iload_n d_S_request_12 rfl ?_
  refine j_callS (vs := [_]) d_S_request_13 w471 w472 w1 w473 y_S_isClient (by decide) (by decide) (k_isClient M1 c) rfl (Nat.le_of_ble_eq_true rfl) (by decide) (by decide) (fun M2 r2 hq2 => ?_)
  obtain ⟨rfl, rfl⟩ := hq2
  refine j_if_eq (tgt := 63) d_S_request_16 (by decide) (fun h16 => False.elim (absurd (bP_t hc.1) (by rw [h16]; decide))) (fun h16 => ?_)
  refine j_iload d_S_request_19 rfl ?_
  refine j_callS (vs := [_]) d_S_request_21 w474 w475 w1 w476 y_S_isKey (by decide) (by decide) (k_isKey M2 y) rfl (Nat.le_of_ble_eq_true rfl) (by decide) (by decide) (fun M3 r3 hq3 => ?_)
  obtain ⟨rfl, rfl⟩ := hq3
  refine j_if_eq (tgt := 63) d_S_request_24 (by decide) (fun h24 => False.elim (absurd (bP_t hc.2.1) (by rw [h24]; decide))) (fun h24 => ?_)
  refine j_iload_n d_S_request_27 rfl ?_
  refine j_iconst (v := 1) d_S_request_28 (by decide) ?_
  refine j_icmp_lt (tgt := 63) d_S_request_29 (by decide) (fun h29 => False.elim (Int32.not_lt.mpr hc.2.2.1 h29)) (fun h29 => ?_)
  refine j_iload_n d_S_request_32 rfl ?_
  refine j_sipush (v := 999) d_S_request_33 (by decide) ?_
  refine j_icmp_gt (tgt := 63) d_S_request_36 (by decide) (fun h36 => False.elim (Int32.not_lt.mpr hc.2.2.2.1 h36)) (fun h36 => ?_)
  refine j_iload d_S_request_39 rfl ?_
  refine j_if_lt (tgt := 63) d_S_request_41 (by decide) (fun h41 => False.elim (Int32.not_lt.mpr hc.2.2.2.2.1 h41)) (fun h41 => ?_)
  refine j_iload d_S_request_44 rfl ?_
  refine j_iconst (v := 2) d_S_request_46 (by decide) ?_
  refine j_icmp_gt (tgt := 63) d_S_request_47 (by decide) (fun h47 => False.elim (Int32.not_lt.mpr hc.2.2.2.2.2.1 h47)) (fun h47 => ?_)
  refine j_iload d_S_request_50 rfl ?_
  refine j_if_lt (tgt := 63) d_S_request_52 (by decide) (fun h52 => False.elim (Int32.not_lt.mpr hc.2.2.2.2.2.2.1 h52)) (fun h52 => ?_)
  refine j_iload d_S_request_55 rfl ?_
  refine j_sipush (v := 1000) d_S_request_57 (by decide) ?_
  refine j_icmp_lt (tgt := 65) d_S_request_60 (by decide) (fun h60 => ?_) (fun h60 => False.elim (h60 hc.2.2.2.2.2.2.2))
  refine j_aload d_S_request_65 rfl ?_
  refine j_geti d_S_request_67 (by assumption) f_S_124_T rfl (by decide) ?_
  refine j_if_ne (tgt := 76) d_S_request_70 (by decide) (fun h70 => False.elim (h70 hl)) (fun h70 => ?_)
  refine j_bipush (v := -2) d_S_request_73 (by decide) ?_
  refine j_ireturn d_S_request_75 rfl rfl ?_ (by decide) (by decide)
  exact ⟨rfl, rfl⟩
set_option maxRecDepth 20000 in
set_option maxHeartbeats 1000000 in
theorem k_request_w (M : aM) (m : Nat) (c n k y v : Int32) (h : cSh M) (h3 : 3 ≤ m) (hm : m < 12) (hu : mI M (nd m) 0 ≠ 0) (hc : rqOk c n k y v) (hl : mI M (nd m) 1 ≠ 0) (len : Nat) (hlen : mI M (nd m) 3 = nI len) (h80 : len ≤ 80) : aK m_S_request 3 1 6 M [.ref 0, .int (nI m), .int c, .int n, .int k, .int y, .int v] (fun M1 r => if len = 80 then M1 = fR (mN M 8 0) (mSz M) (mI M (nd m) 2) c n k y v ∧ r = some (.int (-3)) else M1 = sI (sR (fR (mN M 8 0) (mSz M) (mI M (nd m) 2) c n k y v) (nd m + 1) len (some (mSz M))) (nd m) 3 (nI (len + 1)) ∧ r = some (.int (nI (len + 1)))) := by
  refine aK.of (by decide) (Nat.le_of_ble_eq_true rfl) ?_
  have h0 := h.2.1
  have hr0 := h.2.2.1
  have hr1 := h.2.2.2.1
  have hr2 := h.2.2.2.2.1
  have hA1 := h.2.2.2.2.2.1
  have hA2 := h.2.2.2.2.2.2.1
  have hA3 := h.2.2.2.2.2.2.2.1
  have hN := (cSh_T h h3 hm).1
  refine j_aload_n d_S_request_0 rfl ?_
  refine j_iload_n d_S_request_1 rfl ?_
  refine j_callV (vs := [_]) d_S_request_2 (by assumption) (by decide) rfl w463 w465 w1 w466 ws_S_upStore y_S_upStore (by decide) (by decide) (k_upT M m h h3 hm hu) rfl (Nat.le_of_ble_eq_true rfl) (by decide) (by decide) (fun M1 r1 hq1 => ?_)
  obtain ⟨rfl, rfl⟩ := hq1
  refine j_astore d_S_request_5 (by decide) ?_
  refine j_aload d_S_request_7 rfl ?_
  refine j_ifnull d_S_request_9 ?_
  refine j_iload_n d_S_request_12 rfl ?_
  refine j_callS (vs := [_]) d_S_request_13 w471 w472 w1 w473 y_S_isClient (by decide) (by decide) (k_isClient M1 c) rfl (Nat.le_of_ble_eq_true rfl) (by decide) (by decide) (fun M2 r2 hq2 => ?_)
  obtain ⟨rfl, rfl⟩ := hq2
  refine j_if_eq (tgt := 63) d_S_request_16 (by decide) (fun h16 => False.elim (absurd (bP_t hc.1) (by rw [h16]; decide))) (fun h16 => ?_)
  refine j_iload d_S_request_19 rfl ?_
  refine j_callS (vs := [_]) d_S_request_21 w474 w475 w1 w476 y_S_isKey (by decide) (by decide) (k_isKey M2 y) rfl (Nat.le_of_ble_eq_true rfl) (by decide) (by decide) (fun M3 r3 hq3 => ?_)
  obtain ⟨rfl, rfl⟩ := hq3
  refine j_if_eq (tgt := 63) d_S_request_24 (by decide) (fun h24 => False.elim (absurd (bP_t hc.2.1) (by rw [h24]; decide))) (fun h24 => ?_)
  refine j_iload_n d_S_request_27 rfl ?_
  refine j_iconst (v := 1) d_S_request_28 (by decide) ?_
  refine j_icmp_lt (tgt := 63) d_S_request_29 (by decide) (fun h29 => False.elim (Int32.not_lt.mpr hc.2.2.1 h29)) (fun h29 => ?_)
  refine j_iload_n d_S_request_32 rfl ?_
  refine j_sipush (v := 999) d_S_request_33 (by decide) ?_
  refine j_icmp_gt (tgt := 63) d_S_request_36 (by decide) (fun h36 => False.elim (Int32.not_lt.mpr hc.2.2.2.1 h36)) (fun h36 => ?_)
  refine j_iload d_S_request_39 rfl ?_
  refine j_if_lt (tgt := 63) d_S_request_41 (by decide) (fun h41 => False.elim (Int32.not_lt.mpr hc.2.2.2.2.1 h41)) (fun h41 => ?_)
  refine j_iload d_S_request_44 rfl ?_
  refine j_iconst (v := 2) d_S_request_46 (by decide) ?_
  refine j_icmp_gt (tgt := 63) d_S_request_47 (by decide) (fun h47 => False.elim (Int32.not_lt.mpr hc.2.2.2.2.2.1 h47)) (fun h47 => ?_)
  refine j_iload d_S_request_50 rfl ?_
  refine j_if_lt (tgt := 63) d_S_request_52 (by decide) (fun h52 => False.elim (Int32.not_lt.mpr hc.2.2.2.2.2.2.1 h52)) (fun h52 => ?_)
  refine j_iload d_S_request_55 rfl ?_
  refine j_sipush (v := 1000) d_S_request_57 (by decide) ?_
  refine j_icmp_lt (tgt := 65) d_S_request_60 (by decide) (fun h60 => ?_) (fun h60 => False.elim (h60 hc.2.2.2.2.2.2.2))
  refine j_aload d_S_request_65 rfl ?_
  refine j_geti d_S_request_67 (by assumption) f_S_124_T rfl (by decide) ?_
  refine j_if_ne (tgt := 76) d_S_request_70 (by decide) (fun h70 => ?_) (fun h70 => False.elim (hl h70))
  refine j_aload d_S_request_76 rfl ?_
  refine j_new d_S_request_78 n_S_125 (by decide) (by decide) (by decide) ?_
  have hN1 := hN.up 8 0
  refine j_dup d_S_request_81 ?_
  refine j_aload d_S_request_82 rfl ?_
  refine j_geti d_S_request_84 (by assumption) f_S_127_T rfl (by decide) ?_
  refine j_eqi (show _ = mI M3 (nd m) 2 by rw [mm_I_mN, if_neg (Nat.ne_of_lt hN.1)]) ?_
  refine j_iload_n d_S_request_87 rfl ?_
  refine j_iload_n d_S_request_88 rfl ?_
  refine j_iload d_S_request_89 rfl ?_
  refine j_iload d_S_request_91 rfl ?_
  refine j_iload d_S_request_93 rfl ?_
  refine j_callI (vs := [_, _, _, _, _, _]) d_S_request_95 w479 w480 w12 w481 rfl rfl y_R_init (by decide) (by decide) (k_R_init _ (mSz M3) (mI M3 (nd m) 2) c n k y v (tO.new M3 8 0)) rfl (Nat.le_of_ble_eq_true rfl) (by decide) (by decide) (fun M4 r4 hq4 => ?_)
  obtain ⟨rfl, rfl⟩ := hq4
  have hnd := (cSh_T h h3 hm).2
  have hnd : mR (fR (mN M3 8 0) (mSz M3) (mI M3 (nd m) 2) c n k y v) (nd m) 5 = some (nd m + 1) ∧ tA M3 (nd m + 1) 106 80 := ⟨by show mR (mN M3 8 0) (nd m) 5 = _; rw [mm_R_mN, if_neg (Nat.ne_of_lt hN.1)]; exact hnd.1, hnd.2⟩
  have hne := Nat.ne_of_lt hN.1
  have hlen4 : mI (fR (mN M3 8 0) (mSz M3) (mI M3 (nd m) 2) c n k y v) (nd m) 3 = nI len := by unfold fR; rw [mm_I_sI, if_neg (fun q => hne q.1), mm_I_sI, if_neg (fun q => hne q.1), mm_I_sI, if_neg (fun q => hne q.1), mm_I_sI, if_neg (fun q => hne q.1), mm_I_sI, if_neg (fun q => hne q.1), mm_I_sI, if_neg (fun q => hne q.1), mm_I_mN, if_neg hne]; exact hlen
  refine j_callU (owner := "ShardGroups$Node") (vs := [_]) d_S_request_98 hN1 (by decide) rfl w505 w245 w3 w249 w507 w506 (Or.inl rfl) y_N_write (by decide) (by decide) (k_write_T (fR (mN M3 8 0) (mSz M3) (mI M3 (nd m) 2) c n k y v) (nd m) len (mSz M3) 8 ⟨hN1, hnd.1, hnd.2.up 8 0⟩ hlen4 h80 (tO.new M3 8 0) (by decide) (by decide)) rfl (Nat.le_of_ble_eq_true rfl) (by decide) (by decide) (fun M5 r5 hq5 => ?_)
  have hr5 : ∃ z : Int32, r5 = some (.int z) := by
    split at hq5
    · exact ⟨_, hq5.2⟩
    · exact ⟨_, hq5.2⟩
  obtain ⟨z, rfl⟩ := hr5
  refine j_ireturn d_S_request_101 rfl rfl ?_ (by decide) (by decide)
  exact hq5
