/-- a cell is as it was -/
def sm (M M1 : aM) (a : Nat) : Prop := mKd M1 a = mKd M a ∧ mLn M1 a = mLn M a ∧ (∀ k, mI M1 a k = mI M a k) ∧ ∀ k, mR M1 a k = mR M a k
theorem sm.rf (M : aM) (a : Nat) : sm M M a := ⟨rfl, rfl, fun _ => rfl, fun _ => rfl⟩
theorem sm.tr {M M1 M2 : aM} {a : Nat} (h : sm M M1 a) (g : sm M1 M2 a) : sm M M2 a := ⟨g.1.trans h.1, g.2.1.trans h.2.1, fun k => (g.2.2.1 k).trans (h.2.2.1 k), fun k => (g.2.2.2 k).trans (h.2.2.2 k)⟩
theorem sm.sI {M M1 : aM} {a o k : Nat} {x : Int32} (h : sm M M1 a) (hn : a ≠ o) : sm M (sI M1 o k x) a := h.tr ⟨rfl, rfl, fun j => by rw [mm_I_sI, if_neg (fun q => hn q.1)], fun _ => rfl⟩
theorem sm.sR {M M1 : aM} {a o k : Nat} {x : Option Nat} (h : sm M M1 a) (hn : a ≠ o) : sm M (sR M1 o k x) a := h.tr ⟨rfl, rfl, fun _ => rfl, fun j => by rw [mm_R_sR, if_neg (fun q => hn q.1)]⟩
theorem sm.sC {M M1 : aM} {a o sp q dp n : Nat} (h : sm M M1 a) (hn : a ≠ q) : sm M (sC M1 o sp q dp n) a := h.tr ⟨rfl, rfl, fun j => by rw [mm_I_sC, if_neg (fun z => hn z.1)], fun _ => rfl⟩
theorem sm.mN {M M1 : aM} {a kd ln : Nat} (h : sm M M1 a) (hn : a ≠ mSz M1) : sm M (mN M1 kd ln) a := h.tr ⟨by rw [mm_kd_mN, if_neg hn], by rw [mm_ln_mN, if_neg hn], fun j => by rw [mm_I_mN, if_neg hn], fun j => by rw [mm_R_mN, if_neg hn]⟩
theorem sm.tO {M M1 : aM} {a ci : Nat} (h : sm M M1 a) (hz : mSz M ≤ mSz M1) (t : tO M a ci) : tO M1 a ci := ⟨Nat.lt_of_lt_of_le t.1 hz, h.1.trans t.2⟩
theorem sm.tA {M M1 : aM} {a kd n : Nat} (h : sm M M1 a) (hz : mSz M ≤ mSz M1) (t : tA M a kd n) : tA M1 a kd n := ⟨Nat.lt_of_lt_of_le t.1 hz, h.1.trans t.2.1, h.2.1.trans t.2.2⟩
theorem sm.R {M M1 : aM} {a k : Nat} {r : Option Nat} (h : sm M M1 a) (t : mR M a k = r) : mR M1 a k = r := (h.2.2.2 k).trans t
theorem sm.I {M M1 : aM} {a k : Nat} {r : Int32} (h : sm M M1 a) (t : mI M a k = r) : mI M1 a k = r := (h.2.2.1 k).trans t
theorem sz_fH (M : aM) (a : Nat) : mSz (fH M a) = mSz M + 3 := rfl
theorem sm_fH {M M1 : aM} {o a : Nat} (h : sm M M1 o) (h1 : o ≠ a) (h2 : o < mSz M1) : sm M (fH M1 a) o := by
  unfold fH
  refine sm.sR (sm.mN (sm.sR (sm.mN (sm.sR (sm.mN (sm.sI h h1) ?_) h1) ?_) h1) ?_) h1
  · exact Nat.ne_of_lt h2
  · show o ≠ mSz M1 + 1
    omega
  · show o ≠ mSz M1 + 1 + 1
    omega
theorem tO_fHa {M : aM} {a ci : Nat} (h : tO M a ci) : tO (fH M a) a ci := tO_fH h a
theorem nI_inc (i : Nat) : nI i + Int32.ofInt 1 = nI (i + 1) := (nI_succ i).symm

set_option maxRecDepth 20000 in
set_option maxHeartbeats 2000000 in
theorem k_T_init (M : aM) (a f : Nat) (g : Int32) (ha : tO M a 3) (hf : tO M f 1) : aK m_T_init 2 34 184 M [.ref a, .int g, .ref f] (fun M1 r => r = none ∧ M1 = fT M a g f) := by
  refine aK.of (by decide) (Nat.le_of_ble_eq_true rfl) ?_
  have loop : ∀ (n i : Nat) (M1 : aM), i + n = 8 → tO M1 a 3 → mR M1 a 9 = some (mSz M + 1) → tA M1 (mSz M + 1) 107 8 → M1 = iH (mSz M + 1) i (fT0 M a g f) → aJ aX0 m_T_init 2 34 184 (fun M1 r => r = none ∧ M1 = fT M a g f) (2 + 4 * i) (88 + 12 * i) 25 [some (.ref a), some (.int g), some (.ref f), some (.int (nI i))] [] M1 := by
    intro n
    induction n with
    | zero =>
      intro i M1 hi h1 h2 h3 h4
      have e8 : i = 8 := by omega
      subst e8
      refine j_iload_n d_T_init_25 rfl ?_
      refine j_bipush (v := 8) d_T_init_26 (by decide) ?_
      refine j_icmp_ge (tgt := 50) d_T_init_28 (by decide) (fun h28 => ?_) (fun h28 => False.elim (h28 (nI_le (by decide) (by decide))))
      refine j_return d_T_init_50 rfl ⟨rfl, h4⟩ (by decide) (by decide)
    | succ n ih =>
      intro i M1 hi h1 h2 h3 h4
      refine j_iload_n d_T_init_25 rfl ?_
      refine j_bipush (v := 8) d_T_init_26 (by decide) ?_
      refine j_icmp_ge (tgt := 50) d_T_init_28 (by decide) (fun h28 => False.elim (nI_ge (b := 8) (by omega) (by decide) h28)) (fun h28 => ?_)
      refine j_aload_n d_T_init_31 rfl ?_
      refine j_getR d_T_init_32 (by repeat (first | assumption | simp only [mm_tO_sI, mm_tO_sR, mm_tO_sC, mm_tA_sI, mm_tA_sR, mm_tA_sC] | exact tO.new _ _ _ | exact tA.new _ _ _ | apply tO.up | apply tA.up)) f_T_11_T rfl (by decide) (by repeat (first | assumption | simp only [mm_tO_sI, mm_tO_sR, mm_tO_sC, mm_tA_sI, mm_tA_sR, mm_tA_sC] | exact tO.new _ _ _ | exact tA.new _ _ _ | apply tO.up | apply tA.up)) ?_
      refine j_iload_n d_T_init_35 rfl ?_
      refine j_new d_T_init_36 n_T_9 (by decide) (by omega) (by omega) ?_
      have hz := h1.1
      refine j_dup d_T_init_39 ?_
      refine j_callIN d_T_init_40 nw8 w121 w6 w122 rfl rfl y_H_init (by decide) (by decide) (k_H_init _ (mSz M1) (tO.new M1 4 0)) rfl (Nat.le_of_ble_eq_true rfl) (by omega) (by omega) (fun M1 r1 hq1 => ?_)
      obtain ⟨rfl, rfl⟩ := hq1
      have s0 : ∀ o, o < mSz M1 → sm M1 (fH (mN M1 4 0) (mSz M1)) o := fun o ho => sm_fH (sm.mN (sm.rf _ _) (Nat.ne_of_lt ho)) (Nat.ne_of_lt ho) (Nat.lt_succ_of_lt ho)
      have hz1 : mSz M1 ≤ mSz (fH (mN M1 4 0) (mSz M1)) := by show mSz M1 ≤ mSz M1 + 1 + 3; omega
      refine j_aast d_T_init_43 ((s0 _ h3.1).tA hz1 h3) (by decide) (aIx.n (by first | decide | omega) (by first | decide | omega)) (tO_fHa (tO.new M1 4 0)) (by decide) ca_H_107 ?_
      refine j_iinc (nI (i + 1)) d_T_init_44 rfl (nI_inc i) (by decide) ?_
      refine j_goto 25 d_T_init_47 (by decide) ?_
      -- at 25
      refine j_widen (uc1 := 2 + 4 * (i + 1)) (us1 := 88 + 12 * (i + 1)) (by omega) (by omega) ?_
      refine ih (i + 1) _ (by omega) ?_ ?_ ?_ ?_
      · exact (s0 a h1.1).tO hz1 h1
      · rw [mm_R_sR, if_neg]
        · exact (s0 a h1.1).R h2
        · rintro ⟨e, -⟩; rw [e] at h1; exact absurd (h1.2.symm.trans h3.2.1) (by decide)
      · exact (s0 _ h3.1).tA hz1 h3
      · subst h4; rfl
  refine j_aload_n d_T_init_0 rfl ?_
  refine j_callIN d_T_init_1 nw6 w56 w3 w57 rfl rfl y_N_init (by decide) (by decide) (k_N_init_T _ a (by repeat (first | assumption | simp only [mm_tO_sI, mm_tO_sR, mm_tO_sC, mm_tA_sI, mm_tA_sR, mm_tA_sC] | exact tO.new _ _ _ | exact tA.new _ _ _ | apply tO.up | apply tA.up))) rfl (Nat.le_of_ble_eq_true rfl) (by decide) (by decide) (fun M1 r1 hq1 => ?_)
  obtain ⟨rfl, rfl⟩ := hq1
  have h1 : tO (fN M a) a 3 := by unfold fN; repeat (first | assumption | simp only [mm_tO_sI, mm_tO_sR, mm_tO_sC, mm_tA_sI, mm_tA_sR, mm_tA_sC] | exact tO.new _ _ _ | exact tA.new _ _ _ | apply tO.up | apply tA.up)
  refine j_aload_n d_T_init_4 rfl ?_
  refine j_bipush (v := 8) d_T_init_5 (by decide) ?_
  refine j_anew (kd := 107) d_T_init_7 (by decide) tx_107 w117 nw7 rfl (by decide) (by decide) (by decide) ?_
  refine j_putRF d_T_init_10 (by repeat (first | assumption | simp only [mm_tO_sI, mm_tO_sR, mm_tO_sC, mm_tA_sI, mm_tA_sR, mm_tA_sC] | exact tO.new _ _ _ | exact tA.new _ _ _ | apply tO.up | apply tA.up)) p_T_11_T rfl (by decide) (fun z => by cases z <;> rfl) (fun z => by cases z <;> rfl) rfl ?_
  refine j_aload_n d_T_init_13 rfl ?_
  refine j_iload_n d_T_init_14 rfl ?_
  refine j_putiF d_T_init_15 (by repeat (first | assumption | simp only [mm_tO_sI, mm_tO_sR, mm_tO_sC, mm_tA_sI, mm_tA_sR, mm_tA_sC] | exact tO.new _ _ _ | exact tA.new _ _ _ | apply tO.up | apply tA.up)) p_T_17_T rfl (by decide) rfl rfl rfl ?_
  refine j_aload_n d_T_init_18 rfl ?_
  refine j_aload_n d_T_init_19 rfl ?_
  refine j_putR d_T_init_20 (by repeat (first | assumption | simp only [mm_tO_sI, mm_tO_sR, mm_tO_sC, mm_tA_sI, mm_tA_sR, mm_tA_sC] | exact tO.new _ _ _ | exact tA.new _ _ _ | apply tO.up | apply tA.up)) p_T_21_T rfl (by decide) (fun z => by cases z <;> rfl) (fun z => by cases z <;> rfl) ?_
  refine j_iconst (v := 0) d_T_init_23 (by decide) ?_
  refine j_istore_n d_T_init_24 (by decide) ?_
  -- at 25
  refine loop 8 0 _ (by decide) ?_ ?_ ?_ rfl
  · show tO (fT0 M a g f) a 3
    unfold fT0
    simp only [mm_tO_sI, mm_tO_sR]
    exact tO.up h1 _ _
  · show mR (sR (sI (sR (mN (fN M a) 107 8) a 9 (some (mSz M + 1))) a 6 g) a 8 (some f)) a 9 = _
    rw [mm_R_sR, if_neg (fun q => absurd q.2 (by decide)), mm_R_sI, mm_R_sR, if_pos ⟨rfl, rfl⟩]
  · show tA (fT0 M a g f) (mSz M + 1) 107 8
    unfold fT0
    simp only [mm_tA_sI, mm_tA_sR]
    exact tA.new (fN M a) 107 8
