/-! the memory that the constructors leave -/
def Me : aM := (0, fun _ => (0, 0), fun _ _ => 0, fun _ _ => none)
def A0 : aM := mN Me 0 0
def fS0 (M : aM) : aM := fC (mN (sR (mN (sR (mN (sR (mN M 102 12) 0 0 (some 1)) 103 3) 0 1 (some 2)) 104 9) 0 2 (some 3)) 1 0) 4
def iV : Nat → aM → aM
  | 0, M => M
  | i + 1, M => sR (sR (fV (mN (iV i M) 2 0) (mSz (iV i M)) 4) 2 i (some (mSz (iV i M)))) 1 i (some (mSz (iV i M)))
def iT : Nat → aM → aM
  | 0, M => M
  | i + 1, M => sR (sR (fT (mN (iT i M) 3 0) (mSz (iT i M)) (nI ((3 + i) / 3)) 4) 3 i (some (mSz (iT i M)))) 1 (3 + i) (some (mSz (iT i M)))
def A1 : aM := fS0 A0
def A2 : aM := iV 3 A1
def A3 : aM := iT 9 A2
abbrev okk (M : aM) : Prop := (0 < mSz M ∧ mKd M 0 = 0) ∧ mR M 0 0 = some 1 ∧ mR M 0 1 = some 2 ∧ mR M 0 2 = some 3 ∧ (1 < mSz M ∧ mKd M 1 = 102 ∧ mLn M 1 = 12) ∧ (2 < mSz M ∧ mKd M 2 = 103 ∧ mLn M 2 = 3) ∧ (3 < mSz M ∧ mKd M 3 = 104 ∧ mLn M 3 = 9) ∧ (4 < mSz M ∧ mKd M 4 = 1)
theorem okV : ∀ i, i < 4 → okk (iV i A1) := by decide +kernel
theorem okVm : ∀ i, i < 3 → okk (fV (mN (iV i A1) 2 0) (mSz (iV i A1)) 4) ∧ (mSz (iV i A1) < mSz (fV (mN (iV i A1) 2 0) (mSz (iV i A1)) 4) ∧ mKd (fV (mN (iV i A1) 2 0) (mSz (iV i A1)) 4) (mSz (iV i A1)) = 2) := by decide +kernel
theorem okT : ∀ i, i < 10 → okk (iT i A2) := by decide +kernel
theorem okTm : ∀ i, i < 9 → okk (fT (mN (iT i A2) 3 0) (mSz (iT i A2)) (nI ((3 + i) / 3)) 4) ∧ (mSz (iT i A2) < mSz (fT (mN (iT i A2) 3 0) (mSz (iT i A2)) (nI ((3 + i) / 3)) 4) ∧ mKd (fT (mN (iT i A2) 3 0) (mSz (iT i A2)) (nI ((3 + i) / 3)) 4) (mSz (iT i A2)) = 3) := by decide +kernel

set_option maxRecDepth 20000 in
set_option maxHeartbeats 2000000 in
theorem k_S_init : aK m_S_init 3 331 2101 A0 [.ref 0] (fun M1 r => r = none ∧ M1 = A3) := by
  refine aK.of (by decide) (Nat.le_of_ble_eq_true rfl) ?_
  have lt : ∀ (n i : Nat), i + n = 9 → aJ aX0 m_S_init 3 331 2101 (fun M1 r => r = none ∧ M1 = A3) (16 + 35 * i) (355 + 194 * i) 83 [some (.ref 0), some (.ref 4), some (.int (nI i))] [] (iT i A2) := by
    intro n
    induction n with
    | zero =>
      intro i hi
      have e8 : i = 9 := by omega
      subst e8
      obtain ⟨h0, q0, q1, q2, t1, t2, t3, h4⟩ := okT 9 (by decide)
      refine j_iload_n d_S_init_83 rfl ?_
      refine j_aload_n d_S_init_84 rfl ?_
      refine j_getR d_S_init_85 (by assumption) f_S_23_S rfl (by decide) q2 ?_
      refine j_alen d_S_init_88 (by assumption) (by decide) ty_104 rfl ?_
      refine j_icmp_ge (tgt := 132) d_S_init_89 (by decide) (fun h89 => ?_) (fun h89 => False.elim (h89 (nI_le (by decide) (by decide))))
      refine j_return d_S_init_132 rfl ⟨rfl, rfl⟩ (by decide) (by decide)
    | succ n ih =>
      intro i hi
      obtain ⟨h0, q0, q1, q2, t1, t2, t3, h4⟩ := okT i (by omega)
      obtain ⟨okm, hz9⟩ := okTm i (by omega)
      have ihq := ih (i + 1) (by omega)
      have eT : iT (i + 1) A2 = sR (sR (fT (mN (iT i A2) 3 0) (mSz (iT i A2)) (nI ((3 + i) / 3)) 4) 3 i (some (mSz (iT i A2)))) 1 (3 + i) (some (mSz (iT i A2))) := rfl
      rw [eT] at ihq
      generalize iT i A2 = X at *
      refine j_iload_n d_S_init_83 rfl ?_
      refine j_aload_n d_S_init_84 rfl ?_
      refine j_getR d_S_init_85 (by assumption) f_S_23_S rfl (by decide) q2 ?_
      refine j_alen d_S_init_88 (by assumption) (by decide) ty_104 rfl ?_
      refine j_icmp_ge (tgt := 132) d_S_init_89 (by decide) (fun h89 => False.elim (nI_ge (b := 9) (by omega) (by decide) h89)) (fun h89 => ?_)
      refine j_aload_n d_S_init_92 rfl ?_
      refine j_getR d_S_init_93 (by assumption) f_S_23_S rfl (by decide) q2 ?_
      refine j_iload_n d_S_init_96 rfl ?_
      refine j_new d_S_init_97 n_S_21 (by decide) (by omega) (by omega) ?_
      refine j_dup d_S_init_100 ?_
      refine j_iconst (v := 3) d_S_init_101 (by decide) ?_
      refine j_iload_n d_S_init_102 rfl ?_
      refine j_iadd d_S_init_103 ?_
      refine j_eqi (nI_add 3 i) ?_
      refine j_callS (vs := [_]) d_S_init_104 w110 w111 w1 w112 y_S_groupOf (by decide) (by decide) (k_groupOf _ (nI (3 + i))) rfl (Nat.le_of_ble_eq_true rfl) (by omega) (by omega) (fun M1 r1 hq1 => ?_)
      obtain ⟨rfl, rfl⟩ := hq1
      refine j_eqi (pk_div (d := 3) (by omega) (by decide) (by decide)) ?_
      refine j_aload_n d_S_init_107 rfl ?_
      refine j_callI (vs := [_, _]) d_S_init_108 w113 w114 w5 w115 rfl rfl y_T_init (by decide) (by decide) (k_T_init _ (mSz X) 4 (nI ((3 + i) / 3)) (tO.new X 3 0) (tO.up h4 3 0)) rfl (Nat.le_of_ble_eq_true rfl) (by omega) (by omega) (fun M2 r2 hq2 => ?_)
      obtain ⟨rfl, rfl⟩ := hq2
      obtain ⟨h0, q0, q1, q2, t1, t2, t3, h4⟩ := okm
      refine j_aast d_S_init_111 t3 (by decide) (aIx.n (by omega) (by decide)) hz9 (by decide) ca_T_104 ?_
      refine j_aload_n d_S_init_112 rfl ?_
      refine j_getR d_S_init_113 (by assumption) f_S_11_S rfl (by decide) (by rw [mm_R_sR, if_neg (by omega)]; exact q0) ?_
      refine j_iconst (v := 3) d_S_init_116 (by decide) ?_
      refine j_iload_n d_S_init_117 rfl ?_
      refine j_iadd d_S_init_118 ?_
      refine j_eqi (nI_add 3 i) ?_
      refine j_aload_n d_S_init_119 rfl ?_
      refine j_getR d_S_init_120 (by assumption) f_S_23_S rfl (by decide) (by rw [mm_R_sR, if_neg (by omega)]; exact q2) ?_
      refine j_iload_n d_S_init_123 rfl ?_
      refine j_aaldR d_S_init_124 t3 (by decide) ts_104 (aIx.n (by omega) (by decide)) (by rw [mm_R_sR, if_pos ⟨rfl, rfl⟩]) ?_
      refine j_aast d_S_init_125 t1 (by decide) (aIx.n (by omega) (by decide)) hz9 (by decide) ca_T_102 ?_
      refine j_iinc (nI (i + 1)) d_S_init_126 rfl (nI_inc i) (by decide) ?_
      refine j_goto 83 d_S_init_129 (by decide) ?_
      -- at 83
      refine j_widen (uc1 := 16 + 35 * (i + 1)) (us1 := 355 + 194 * (i + 1)) (by omega) (by omega) ?_
      exact ihq
  have lv : ∀ (n i : Nat), i + n = 3 → aJ aX0 m_S_init 3 331 2101 (fun M1 r => r = none ∧ M1 = A3) (7 + 3 * i) (43 + 104 * i) 40 [some (.ref 0), some (.ref 4), some (.int (nI i))] [] (iV i A1) := by
    intro n
    induction n with
    | zero =>
      intro i hi
      have e8 : i = 3 := by omega
      subst e8
      obtain ⟨h0, q0, q1, q2, t1, t2, t3, h4⟩ := okV 3 (by decide)
      refine j_iload_n d_S_init_40 rfl ?_
      refine j_aload_n d_S_init_41 rfl ?_
      refine j_getR d_S_init_42 (by assumption) f_S_17_S rfl (by decide) q1 ?_
      refine j_alen d_S_init_45 (by assumption) (by decide) ty_103 rfl ?_
      refine j_icmp_ge (tgt := 81) d_S_init_46 (by decide) (fun h46 => ?_) (fun h46 => False.elim (h46 (nI_le (by decide) (by decide))))
      refine j_iconst (v := 0) d_S_init_81 (by decide) ?_
      refine j_istore_n d_S_init_82 (by decide) ?_
      -- at 83
      exact lt 9 0 (by decide)
    | succ n ih =>
      intro i hi
      obtain ⟨h0, q0, q1, q2, t1, t2, t3, h4⟩ := okV i (by omega)
      obtain ⟨okm, hz9⟩ := okVm i (by omega)
      have ihq := ih (i + 1) (by omega)
      have eT : iV (i + 1) A1 = sR (sR (fV (mN (iV i A1) 2 0) (mSz (iV i A1)) 4) 2 i (some (mSz (iV i A1)))) 1 i (some (mSz (iV i A1))) := rfl
      rw [eT] at ihq
      generalize iV i A1 = X at *
      refine j_iload_n d_S_init_40 rfl ?_
      refine j_aload_n d_S_init_41 rfl ?_
      refine j_getR d_S_init_42 (by assumption) f_S_17_S rfl (by decide) q1 ?_
      refine j_alen d_S_init_45 (by assumption) (by decide) ty_103 rfl ?_
      refine j_icmp_ge (tgt := 81) d_S_init_46 (by decide) (fun h46 => False.elim (nI_ge (b := 3) (by omega) (by decide) h46)) (fun h46 => ?_)
      refine j_aload_n d_S_init_49 rfl ?_
      refine j_getR d_S_init_50 (by assumption) f_S_17_S rfl (by decide) q1 ?_
      refine j_iload_n d_S_init_53 rfl ?_
      refine j_new d_S_init_54 n_S_15 (by decide) (by omega) (by omega) ?_
      refine j_dup d_S_init_57 ?_
      refine j_aload_n d_S_init_58 rfl ?_
      refine j_callI (vs := [_]) d_S_init_59 w52 w53 w4 w54 rfl rfl y_V_init (by decide) (by decide) (k_V_init _ (mSz X) 4 (tO.new X 2 0) (tO.up h4 2 0)) rfl (Nat.le_of_ble_eq_true rfl) (by omega) (by omega) (fun M2 r2 hq2 => ?_)
      obtain ⟨rfl, rfl⟩ := hq2
      obtain ⟨h0, q0, q1, q2, t1, t2, t3, h4⟩ := okm
      refine j_aast d_S_init_62 t2 (by decide) (aIx.n (by omega) (by decide)) hz9 (by decide) ca_V_103 ?_
      refine j_aload_n d_S_init_63 rfl ?_
      refine j_getR d_S_init_64 (by assumption) f_S_11_S rfl (by decide) (by rw [mm_R_sR, if_neg (by omega)]; exact q0) ?_
      refine j_iload_n d_S_init_67 rfl ?_
      refine j_aload_n d_S_init_68 rfl ?_
      refine j_getR d_S_init_69 (by assumption) f_S_17_S rfl (by decide) (by rw [mm_R_sR, if_neg (by omega)]; exact q1) ?_
      refine j_iload_n d_S_init_72 rfl ?_
      refine j_aaldR d_S_init_73 t2 (by decide) ts_103 (aIx.n (by omega) (by decide)) (by rw [mm_R_sR, if_pos ⟨rfl, rfl⟩]) ?_
      refine j_aast d_S_init_74 t1 (by decide) (aIx.n (by omega) (by decide)) hz9 (by decide) ca_V_102 ?_
      refine j_iinc (nI (i + 1)) d_S_init_75 rfl (nI_inc i) (by decide) ?_
      refine j_goto 40 d_S_init_78 (by decide) ?_
      -- at 40
      refine j_widen (uc1 := 7 + 3 * (i + 1)) (us1 := 43 + 104 * (i + 1)) (by omega) (by omega) ?_
      exact ihq
  have ha : tO A0 0 0 := ⟨by decide, by decide⟩
  refine j_aload_n d_S_init_0 rfl ?_
  refine j_objInit d_S_init_1 w21 w22 w23 (by decide) (Nat.le_of_ble_eq_true rfl) ?_
  refine j_aload_n d_S_init_4 rfl ?_
  refine j_bipush (v := 12) d_S_init_5 (by decide) ?_
  refine j_anew (kd := 102) d_S_init_7 (by decide) tx_102 w24 nw0 rfl (by decide) (by decide) (by decide) ?_
  refine j_putRF d_S_init_10 (by repeat (first | assumption | simp only [mm_tO_sI, mm_tO_sR, mm_tO_sC, mm_tA_sI, mm_tA_sR, mm_tA_sC] | exact tO.new _ _ _ | exact tA.new _ _ _ | apply tO.up | apply tA.up)) p_S_11_S rfl (by decide) (fun z => by cases z <;> rfl) (fun z => by cases z <;> rfl) rfl ?_
  refine j_aload_n d_S_init_13 rfl ?_
  refine j_iconst (v := 3) d_S_init_14 (by decide) ?_
  refine j_anew (kd := 103) d_S_init_15 (by decide) tx_103 w26 nw1 rfl (by decide) (by decide) (by decide) ?_
  refine j_putRF d_S_init_18 (by repeat (first | assumption | simp only [mm_tO_sI, mm_tO_sR, mm_tO_sC, mm_tA_sI, mm_tA_sR, mm_tA_sC] | exact tO.new _ _ _ | exact tA.new _ _ _ | apply tO.up | apply tA.up)) p_S_17_S rfl (by decide) (fun z => by cases z <;> rfl) (fun z => by cases z <;> rfl) rfl ?_
  refine j_aload_n d_S_init_21 rfl ?_
  refine j_bipush (v := 9) d_S_init_22 (by decide) ?_
  refine j_anew (kd := 104) d_S_init_24 (by decide) tx_104 w28 nw2 rfl (by decide) (by decide) (by decide) ?_
  refine j_putRF d_S_init_27 (by repeat (first | assumption | simp only [mm_tO_sI, mm_tO_sR, mm_tO_sC, mm_tA_sI, mm_tA_sR, mm_tA_sC] | exact tO.new _ _ _ | exact tA.new _ _ _ | apply tO.up | apply tA.up)) p_S_23_S rfl (by decide) (fun z => by cases z <;> rfl) (fun z => by cases z <;> rfl) rfl ?_
  refine j_new d_S_init_30 n_S_27 (by decide) (by decide) (by decide) ?_
  refine j_dup d_S_init_33 ?_
  refine j_callI (vs := []) d_S_init_34 w32 w33 w2 w34 rfl rfl y_C_init (by decide) (by decide) (k_C_init _ 4 (tO.new _ 1 0)) rfl (Nat.le_of_ble_eq_true rfl) (by decide) (by decide) (fun M1 r1 hq1 => ?_)
  obtain ⟨rfl, rfl⟩ := hq1
  refine j_astore_n d_S_init_37 (by decide) ?_
  refine j_iconst (v := 0) d_S_init_38 (by decide) ?_
  refine j_istore_n d_S_init_39 (by decide) ?_
  -- at 40
  exact lv 3 0 (by decide)
def fMm (M : aM) (a : Nat) : aM := sR (mN (sR (mN (sR (mN (sR (mN (sR (mN (sR (mN (sR (mN (sR (mN (sR (mN (sR (mN (sR (mN (sR (mN (M) 101 12) a 0 (some (mSz M))) 101 12) a 1 (some (mSz M + 1))) 100 12) a 2 (some (mSz M + 2))) 100 12) a 3 (some (mSz M + 3))) 100 12) a 4 (some (mSz M + 4))) 100 14400) a 5 (some (mSz M + 5))) 100 15) a 6 (some (mSz M + 6))) 100 16) a 8 (some (mSz M + 7))) 100 128) a 9 (some (mSz M + 8))) 100 8) a 11 (some (mSz M + 9))) 100 8) a 12 (some (mSz M + 10))) 100 64) a 13 (some (mSz M + 11))
set_option maxRecDepth 20000 in
set_option maxHeartbeats 1000000 in
theorem k_M_init (M : aM) (a : Nat) (ha : tO M a 11) : aK m_M_init 1 12 14699 M [.ref a] (fun M1 r => r = none ∧ M1 = fMm M a) := by
  refine aK.of (by decide) (Nat.le_of_ble_eq_true rfl) ?_
  refine j_aload_n d_M_init_0 rfl ?_
  refine j_objInit d_M_init_1 w632 w22 w23 (by decide) (Nat.le_of_ble_eq_true rfl) ?_
  refine j_aload_n d_M_init_4 rfl ?_
  refine j_bipush (v := 12) d_M_init_5 (by decide) ?_
  refine j_newz d_M_init_7 rfl (by decide) (by decide) (by decide) ?_
  refine j_putRF d_M_init_9 (by repeat (first | assumption | simp only [mm_tO_sI, mm_tO_sR, mm_tO_sC, mm_tA_sI, mm_tA_sR, mm_tA_sC] | exact tO.new _ _ _ | exact tA.new _ _ _ | apply tO.up | apply tA.up)) p_M_7_M rfl (by decide) (fun z => by cases z <;> rfl) (fun z => by cases z <;> rfl) rfl ?_
  refine j_aload_n d_M_init_12 rfl ?_
  refine j_bipush (v := 12) d_M_init_13 (by decide) ?_
  refine j_newz d_M_init_15 rfl (by decide) (by decide) (by decide) ?_
  refine j_putRF d_M_init_17 (by repeat (first | assumption | simp only [mm_tO_sI, mm_tO_sR, mm_tO_sC, mm_tA_sI, mm_tA_sR, mm_tA_sC] | exact tO.new _ _ _ | exact tA.new _ _ _ | apply tO.up | apply tA.up)) p_M_13_M rfl (by decide) (fun z => by cases z <;> rfl) (fun z => by cases z <;> rfl) rfl ?_
  refine j_aload_n d_M_init_20 rfl ?_
  refine j_bipush (v := 12) d_M_init_21 (by decide) ?_
  refine j_newi d_M_init_23 rfl (by decide) (by decide) (by decide) ?_
  refine j_putRF d_M_init_25 (by repeat (first | assumption | simp only [mm_tO_sI, mm_tO_sR, mm_tO_sC, mm_tA_sI, mm_tA_sR, mm_tA_sC] | exact tO.new _ _ _ | exact tA.new _ _ _ | apply tO.up | apply tA.up)) p_M_16_M rfl (by decide) (fun z => by cases z <;> rfl) (fun z => by cases z <;> rfl) rfl ?_
  refine j_aload_n d_M_init_28 rfl ?_
  refine j_bipush (v := 12) d_M_init_29 (by decide) ?_
  refine j_newi d_M_init_31 rfl (by decide) (by decide) (by decide) ?_
  refine j_putRF d_M_init_33 (by repeat (first | assumption | simp only [mm_tO_sI, mm_tO_sR, mm_tO_sC, mm_tA_sI, mm_tA_sR, mm_tA_sC] | exact tO.new _ _ _ | exact tA.new _ _ _ | apply tO.up | apply tA.up)) p_M_20_M rfl (by decide) (fun z => by cases z <;> rfl) (fun z => by cases z <;> rfl) rfl ?_
  refine j_aload_n d_M_init_36 rfl ?_
  refine j_bipush (v := 12) d_M_init_37 (by decide) ?_
  refine j_newi d_M_init_39 rfl (by decide) (by decide) (by decide) ?_
  refine j_putRF d_M_init_41 (by repeat (first | assumption | simp only [mm_tO_sI, mm_tO_sR, mm_tO_sC, mm_tA_sI, mm_tA_sR, mm_tA_sC] | exact tO.new _ _ _ | exact tA.new _ _ _ | apply tO.up | apply tA.up)) p_M_23_M rfl (by decide) (fun z => by cases z <;> rfl) (fun z => by cases z <;> rfl) rfl ?_
  refine j_aload_n d_M_init_44 rfl ?_
  refine j_sipush (v := 14400) d_M_init_45 (by decide) ?_
  refine j_newi d_M_init_48 rfl (by decide) (by decide) (by decide) ?_
  refine j_putRF d_M_init_50 (by repeat (first | assumption | simp only [mm_tO_sI, mm_tO_sR, mm_tO_sC, mm_tA_sI, mm_tA_sR, mm_tA_sC] | exact tO.new _ _ _ | exact tA.new _ _ _ | apply tO.up | apply tA.up)) p_M_26_M rfl (by decide) (fun z => by cases z <;> rfl) (fun z => by cases z <;> rfl) rfl ?_
  refine j_aload_n d_M_init_53 rfl ?_
  refine j_bipush (v := 15) d_M_init_54 (by decide) ?_
  refine j_newi d_M_init_56 rfl (by decide) (by decide) (by decide) ?_
  refine j_putRF d_M_init_58 (by repeat (first | assumption | simp only [mm_tO_sI, mm_tO_sR, mm_tO_sC, mm_tA_sI, mm_tA_sR, mm_tA_sC] | exact tO.new _ _ _ | exact tA.new _ _ _ | apply tO.up | apply tA.up)) p_M_29_M rfl (by decide) (fun z => by cases z <;> rfl) (fun z => by cases z <;> rfl) rfl ?_
  refine j_aload_n d_M_init_61 rfl ?_
  refine j_bipush (v := 16) d_M_init_62 (by decide) ?_
  refine j_newi d_M_init_64 rfl (by decide) (by decide) (by decide) ?_
  refine j_putRF d_M_init_66 (by repeat (first | assumption | simp only [mm_tO_sI, mm_tO_sR, mm_tO_sC, mm_tA_sI, mm_tA_sR, mm_tA_sC] | exact tO.new _ _ _ | exact tA.new _ _ _ | apply tO.up | apply tA.up)) p_M_32_M rfl (by decide) (fun z => by cases z <;> rfl) (fun z => by cases z <;> rfl) rfl ?_
  refine j_aload_n d_M_init_69 rfl ?_
  refine j_sipush (v := 128) d_M_init_70 (by decide) ?_
  refine j_newi d_M_init_73 rfl (by decide) (by decide) (by decide) ?_
  refine j_putRF d_M_init_75 (by repeat (first | assumption | simp only [mm_tO_sI, mm_tO_sR, mm_tO_sC, mm_tA_sI, mm_tA_sR, mm_tA_sC] | exact tO.new _ _ _ | exact tA.new _ _ _ | apply tO.up | apply tA.up)) p_M_35_M rfl (by decide) (fun z => by cases z <;> rfl) (fun z => by cases z <;> rfl) rfl ?_
  refine j_aload_n d_M_init_78 rfl ?_
  refine j_bipush (v := 8) d_M_init_79 (by decide) ?_
  refine j_newi d_M_init_81 rfl (by decide) (by decide) (by decide) ?_
  refine j_putRF d_M_init_83 (by repeat (first | assumption | simp only [mm_tO_sI, mm_tO_sR, mm_tO_sC, mm_tA_sI, mm_tA_sR, mm_tA_sC] | exact tO.new _ _ _ | exact tA.new _ _ _ | apply tO.up | apply tA.up)) p_M_38_M rfl (by decide) (fun z => by cases z <;> rfl) (fun z => by cases z <;> rfl) rfl ?_
  refine j_aload_n d_M_init_86 rfl ?_
  refine j_bipush (v := 8) d_M_init_87 (by decide) ?_
  refine j_newi d_M_init_89 rfl (by decide) (by decide) (by decide) ?_
  refine j_putRF d_M_init_91 (by repeat (first | assumption | simp only [mm_tO_sI, mm_tO_sR, mm_tO_sC, mm_tA_sI, mm_tA_sR, mm_tA_sC] | exact tO.new _ _ _ | exact tA.new _ _ _ | apply tO.up | apply tA.up)) p_M_41_M rfl (by decide) (fun z => by cases z <;> rfl) (fun z => by cases z <;> rfl) rfl ?_
  refine j_aload_n d_M_init_94 rfl ?_
  refine j_bipush (v := 64) d_M_init_95 (by decide) ?_
  refine j_newi d_M_init_97 rfl (by decide) (by decide) (by decide) ?_
  refine j_putRF d_M_init_99 (by repeat (first | assumption | simp only [mm_tO_sI, mm_tO_sR, mm_tO_sC, mm_tA_sI, mm_tA_sR, mm_tA_sC] | exact tO.new _ _ _ | exact tA.new _ _ _ | apply tO.up | apply tA.up)) p_M_44_M rfl (by decide) (fun z => by cases z <;> rfl) (fun z => by cases z <;> rfl) rfl ?_
  refine j_return d_M_init_102 rfl ?_ (by decide) (by decide)
  exact ⟨rfl, rfl⟩
