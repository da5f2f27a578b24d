def fN (M : aM) (a : Nat) : aM := sR (mN (sI M a 0 1) 106 80) a 5 (some (mSz M))
def fH (M : aM) (a : Nat) : aM := sR (mN (sR (mN (sR (mN (sI M a 0 0) 100 2) a 1 (some (mSz M))) 100 3) a 2 (some (mSz M + 1))) 100 3) a 3 (some (mSz M + 2))
def fC (M : aM) (a : Nat) : aM := sI (sR (mN (sR (mN (sR (mN M 101 4) a 0 (some (mSz M))) 100 8) a 1 (some (mSz M + 1))) 100 4) a 2 (some (mSz M + 2))) (mSz M + 2) 0 8
def fV (M : aM) (a f : Nat) : aM := sR (sR (mN (fN M a) 105 16) a 6 (some (mSz M + 1))) (mSz M + 1) 0 (some f)
def iH (sh : Nat) : Nat → aM → aM
  | 0, M => M
  | i + 1, M => sR (fH (mN (iH sh i M) 4 0) (mSz (iH sh i M))) sh i (some (mSz (iH sh i M)))
def fT0 (M : aM) (a : Nat) (g : Int32) (f : Nat) : aM := sR (sI (sR (mN (fN M a) 107 8) a 9 (some (mSz M + 1))) a 6 g) a 8 (some f)
def fT (M : aM) (a : Nat) (g : Int32) (f : Nat) : aM := iH (mSz M + 1) 8 (fT0 M a g f)
theorem tO_fH {M : aM} {o ci : Nat} (h : tO M o ci) (a : Nat) : tO (fH M a) o ci := by
  show tO (sR (mN (sR (mN (sR (mN (sI M a 0 0) 100 2) a 1 (some (mSz M))) 100 3) a 2 (some (mSz M + 1))) 100 3) a 3 (some (mSz M + 2))) o ci
  simp only [mm_tO_sR]
  apply tO.up
  simp only [mm_tO_sR]
  apply tO.up
  simp only [mm_tO_sR]
  apply tO.up
  exact h

set_option maxRecDepth 20000 in
set_option maxHeartbeats 1000000 in
theorem k_N_init_V (M : aM) (a : Nat) (ha : tO M a 2) : aK m_N_init 1 1 80 M [.ref a] (fun M1 r => r = none ∧ M1 = fN M a) := by
  refine aK.of (by decide) (Nat.le_of_ble_eq_true rfl) ?_
  refine j_aload_n d_N_init_0 rfl ?_
  refine j_objInit d_N_init_1 w58 w22 w23 (by decide) (Nat.le_of_ble_eq_true rfl) ?_
  refine j_aload_n d_N_init_4 rfl ?_
  refine j_iconst (v := 1) d_N_init_5 (by decide) ?_
  refine j_puti d_N_init_6 (by repeat (first | assumption | simp only [mm_tO_sI, mm_tO_sR, mm_tO_sC, mm_tA_sI, mm_tA_sR, mm_tA_sC] | exact tO.new _ _ _ | exact tA.new _ _ _ | apply tO.up | apply tA.up)) p_N_9_V rfl (by decide) rfl rfl ?_
  refine j_aload_n d_N_init_9 rfl ?_
  refine j_bipush (v := 80) d_N_init_10 (by decide) ?_
  refine j_anew (kd := 106) d_N_init_12 (by decide) tx_106 w59 nw4 rfl (by decide) (by decide) (by decide) ?_
  refine j_putRF d_N_init_15 (by repeat (first | assumption | simp only [mm_tO_sI, mm_tO_sR, mm_tO_sC, mm_tA_sI, mm_tA_sR, mm_tA_sC] | exact tO.new _ _ _ | exact tA.new _ _ _ | apply tO.up | apply tA.up)) p_N_17_V rfl (by decide) (fun z => by cases z <;> rfl) (fun z => by cases z <;> rfl) rfl ?_
  refine j_return d_N_init_18 rfl ?_ (by decide) (by decide)
  exact ⟨rfl, rfl⟩
set_option maxRecDepth 20000 in
set_option maxHeartbeats 1000000 in
theorem k_N_init_T (M : aM) (a : Nat) (ha : tO M a 3) : aK m_N_init 1 1 80 M [.ref a] (fun M1 r => r = none ∧ M1 = fN M a) := by
  refine aK.of (by decide) (Nat.le_of_ble_eq_true rfl) ?_
  refine j_aload_n d_N_init_0 rfl ?_
  refine j_objInit d_N_init_1 w58 w22 w23 (by decide) (Nat.le_of_ble_eq_true rfl) ?_
  refine j_aload_n d_N_init_4 rfl ?_
  refine j_iconst (v := 1) d_N_init_5 (by decide) ?_
  refine j_puti d_N_init_6 (by repeat (first | assumption | simp only [mm_tO_sI, mm_tO_sR, mm_tO_sC, mm_tA_sI, mm_tA_sR, mm_tA_sC] | exact tO.new _ _ _ | exact tA.new _ _ _ | apply tO.up | apply tA.up)) p_N_9_T rfl (by decide) rfl rfl ?_
  refine j_aload_n d_N_init_9 rfl ?_
  refine j_bipush (v := 80) d_N_init_10 (by decide) ?_
  refine j_anew (kd := 106) d_N_init_12 (by decide) tx_106 w59 nw4 rfl (by decide) (by decide) (by decide) ?_
  refine j_putRF d_N_init_15 (by repeat (first | assumption | simp only [mm_tO_sI, mm_tO_sR, mm_tO_sC, mm_tA_sI, mm_tA_sR, mm_tA_sC] | exact tO.new _ _ _ | exact tA.new _ _ _ | apply tO.up | apply tA.up)) p_N_17_T rfl (by decide) (fun z => by cases z <;> rfl) (fun z => by cases z <;> rfl) rfl ?_
  refine j_return d_N_init_18 rfl ?_ (by decide) (by decide)
  exact ⟨rfl, rfl⟩
set_option maxRecDepth 20000 in
set_option maxHeartbeats 1000000 in
theorem k_H_init (M : aM) (a : Nat) (ha : tO M a 4) : aK m_H_init 1 3 8 M [.ref a] (fun M1 r => r = none ∧ M1 = fH M a) := by
  refine aK.of (by decide) (Nat.le_of_ble_eq_true rfl) ?_
  refine j_aload_n d_H_init_0 rfl ?_
  refine j_objInit d_H_init_1 w123 w22 w23 (by decide) (Nat.le_of_ble_eq_true rfl) ?_
  refine j_aload_n d_H_init_4 rfl ?_
  refine j_iconst (v := 0) d_H_init_5 (by decide) ?_
  refine j_puti d_H_init_6 (by repeat (first | assumption | simp only [mm_tO_sI, mm_tO_sR, mm_tO_sC, mm_tA_sI, mm_tA_sR, mm_tA_sC] | exact tO.new _ _ _ | exact tA.new _ _ _ | apply tO.up | apply tA.up)) p_H_9_H rfl (by decide) rfl rfl ?_
  refine j_aload_n d_H_init_9 rfl ?_
  refine j_iconst (v := 2) d_H_init_10 (by decide) ?_
  refine j_newi d_H_init_11 rfl (by decide) (by decide) (by decide) ?_
  refine j_putRF d_H_init_13 (by repeat (first | assumption | simp only [mm_tO_sI, mm_tO_sR, mm_tO_sC, mm_tA_sI, mm_tA_sR, mm_tA_sC] | exact tO.new _ _ _ | exact tA.new _ _ _ | apply tO.up | apply tA.up)) p_H_15_H rfl (by decide) (fun z => by cases z <;> rfl) (fun z => by cases z <;> rfl) rfl ?_
  refine j_aload_n d_H_init_16 rfl ?_
  refine j_iconst (v := 3) d_H_init_17 (by decide) ?_
  refine j_newi d_H_init_18 rfl (by decide) (by decide) (by decide) ?_
  refine j_putRF d_H_init_20 (by repeat (first | assumption | simp only [mm_tO_sI, mm_tO_sR, mm_tO_sC, mm_tA_sI, mm_tA_sR, mm_tA_sC] | exact tO.new _ _ _ | exact tA.new _ _ _ | apply tO.up | apply tA.up)) p_H_19_H rfl (by decide) (fun z => by cases z <;> rfl) (fun z => by cases z <;> rfl) rfl ?_
  refine j_aload_n d_H_init_23 rfl ?_
  refine j_iconst (v := 3) d_H_init_24 (by decide) ?_
  refine j_newi d_H_init_25 rfl (by decide) (by decide) (by decide) ?_
  refine j_putRF d_H_init_27 (by repeat (first | assumption | simp only [mm_tO_sI, mm_tO_sR, mm_tO_sC, mm_tA_sI, mm_tA_sR, mm_tA_sC] | exact tO.new _ _ _ | exact tA.new _ _ _ | apply tO.up | apply tA.up)) p_H_22_H rfl (by decide) (fun z => by cases z <;> rfl) (fun z => by cases z <;> rfl) rfl ?_
  refine j_return d_H_init_30 rfl ?_ (by decide) (by decide)
  exact ⟨rfl, rfl⟩
set_option maxRecDepth 20000 in
set_option maxHeartbeats 1000000 in
theorem k_C_init (M : aM) (a : Nat) (ha : tO M a 1) : aK m_C_init 1 3 16 M [.ref a] (fun M1 r => r = none ∧ M1 = fC M a) := by
  refine aK.of (by decide) (Nat.le_of_ble_eq_true rfl) ?_
  refine j_aload_n d_C_init_0 rfl ?_
  refine j_objInit d_C_init_1 w35 w22 w23 (by decide) (Nat.le_of_ble_eq_true rfl) ?_
  refine j_aload_n d_C_init_4 rfl ?_
  refine j_iconst (v := 4) d_C_init_5 (by decide) ?_
  refine j_newz d_C_init_6 rfl (by decide) (by decide) (by decide) ?_
  refine j_putRF d_C_init_8 (by repeat (first | assumption | simp only [mm_tO_sI, mm_tO_sR, mm_tO_sC, mm_tA_sI, mm_tA_sR, mm_tA_sC] | exact tO.new _ _ _ | exact tA.new _ _ _ | apply tO.up | apply tA.up)) p_C_9_C rfl (by decide) (fun z => by cases z <;> rfl) (fun z => by cases z <;> rfl) rfl ?_
  refine j_aload_n d_C_init_11 rfl ?_
  refine j_bipush (v := 8) d_C_init_12 (by decide) ?_
  refine j_newi d_C_init_14 rfl (by decide) (by decide) (by decide) ?_
  refine j_putRF d_C_init_16 (by repeat (first | assumption | simp only [mm_tO_sI, mm_tO_sR, mm_tO_sC, mm_tA_sI, mm_tA_sR, mm_tA_sC] | exact tO.new _ _ _ | exact tA.new _ _ _ | apply tO.up | apply tA.up)) p_C_15_C rfl (by decide) (fun z => by cases z <;> rfl) (fun z => by cases z <;> rfl) rfl ?_
  refine j_aload_n d_C_init_19 rfl ?_
  refine j_iconst (v := 4) d_C_init_20 (by decide) ?_
  refine j_newi d_C_init_21 rfl (by decide) (by decide) (by decide) ?_
  refine j_putRF d_C_init_23 (by repeat (first | assumption | simp only [mm_tO_sI, mm_tO_sR, mm_tO_sC, mm_tA_sI, mm_tA_sR, mm_tA_sC] | exact tO.new _ _ _ | exact tA.new _ _ _ | apply tO.up | apply tA.up)) p_C_19_C rfl (by decide) (fun z => by cases z <;> rfl) (fun z => by cases z <;> rfl) rfl ?_
  refine j_aload_n d_C_init_26 rfl ?_
  refine j_getR d_C_init_27 (by repeat (first | assumption | simp only [mm_tO_sI, mm_tO_sR, mm_tO_sC, mm_tA_sI, mm_tA_sR, mm_tA_sC] | exact tO.new _ _ _ | exact tA.new _ _ _ | apply tO.up | apply tA.up)) f_C_19_C rfl (by decide) (by rw [mm_R_sR, if_pos ⟨rfl, rfl⟩]) ?_
  refine j_iconst (v := 0) d_C_init_30 (by decide) ?_
  refine j_bipush (v := 8) d_C_init_31 (by decide) ?_
  refine j_iast d_C_init_33 (by repeat (first | assumption | simp only [mm_tO_sI, mm_tO_sR, mm_tO_sC, mm_tA_sI, mm_tA_sR, mm_tA_sC] | exact tO.new _ _ _ | exact tA.new _ _ _ | apply tO.up | apply tA.up)) (aIx.n (by first | decide | omega) (by first | decide | omega)) ?_
  refine j_return d_C_init_34 rfl ?_ (by decide) (by decide)
  exact ⟨rfl, rfl⟩
set_option maxRecDepth 20000 in
set_option maxHeartbeats 1000000 in
theorem k_V_init (M : aM) (a f : Nat) (ha : tO M a 2) (hf : tO M f 1) : aK m_V_init 2 2 96 M [.ref a, .ref f] (fun M1 r => r = none ∧ M1 = fV M a f) := by
  refine aK.of (by decide) (Nat.le_of_ble_eq_true rfl) ?_
  refine j_aload_n d_V_init_0 rfl ?_
  refine j_callIN (vs := []) d_V_init_1 nw3 w56 w3 w57 rfl rfl y_N_init (by decide) (by decide) (k_N_init_V _ a (by repeat (first | assumption | simp only [mm_tO_sI, mm_tO_sR, mm_tO_sC, mm_tA_sI, mm_tA_sR, mm_tA_sC] | exact tO.new _ _ _ | exact tA.new _ _ _ | apply tO.up | apply tA.up))) rfl (Nat.le_of_ble_eq_true rfl) (by decide) (by decide) (fun M1 r1 hq1 => ?_)
  obtain ⟨rfl, rfl⟩ := hq1
  refine j_aload_n d_V_init_4 rfl ?_
  refine j_bipush (v := 16) d_V_init_5 (by decide) ?_
  refine j_anew (kd := 105) d_V_init_7 (by decide) tx_105 w61 nw5 rfl (by decide) (by decide) (by decide) ?_
  refine j_putRF d_V_init_10 (by repeat (first | assumption | simp only [mm_tO_sI, mm_tO_sR, mm_tO_sC, mm_tA_sI, mm_tA_sR, mm_tA_sC] | exact tO.new _ _ _ | exact tA.new _ _ _ | apply tO.up | apply tA.up)) p_V_11_V rfl (by decide) (fun z => by cases z <;> rfl) (fun z => by cases z <;> rfl) rfl ?_
  refine j_aload_n d_V_init_13 rfl ?_
  refine j_getR d_V_init_14 (by repeat (first | assumption | simp only [mm_tO_sI, mm_tO_sR, mm_tO_sC, mm_tA_sI, mm_tA_sR, mm_tA_sC] | exact tO.new _ _ _ | exact tA.new _ _ _ | apply tO.up | apply tA.up)) f_V_11_V rfl (by decide) (by rw [mm_R_sR, if_pos ⟨rfl, rfl⟩]) ?_
  refine j_iconst (v := 0) d_V_init_17 (by decide) ?_
  refine j_aload_n d_V_init_18 rfl ?_
  refine j_aast d_V_init_19 (by repeat (first | assumption | simp only [mm_tO_sI, mm_tO_sR, mm_tO_sC, mm_tA_sI, mm_tA_sR, mm_tA_sC] | exact tO.new _ _ _ | exact tA.new _ _ _ | apply tO.up | apply tA.up)) (by decide) (aIx.n (by first | decide | omega) (by first | decide | omega)) (by repeat (first | assumption | simp only [mm_tO_sI, mm_tO_sR, mm_tO_sC, mm_tA_sI, mm_tA_sR, mm_tA_sC] | exact tO.new _ _ _ | exact tA.new _ _ _ | apply tO.up | apply tA.up)) (by decide) ca_C_105 ?_
  refine j_return d_V_init_20 rfl ?_ (by decide) (by decide)
  exact ⟨rfl, rfl⟩
