def fC1 (M : aM) (a : Nat) : aM := sR (mN (sR (mN (sR (mN M 101 4) a 0 (some (mSz M))) 100 8) a 1 (some (mSz M + 1))) 100 4) a 2 (some (mSz M + 2))
def fC2 (M : aM) (a m o w : Nat) : aM := sC (sC (sC (fC1 M a) m 0 (mSz M) 0 4) o 0 (mSz M + 1) 0 8) w 0 (mSz M + 2) 0 4
theorem sm_fC1 {M : aM} {a y : Nat} (hy : y < mSz M) (hya : y ≠ a) : sm M (fC1 M a) y := by
  unfold fC1
  refine sm.sR (sm.mN (sm.sR (sm.mN (sm.sR (sm.mN (sm.rf M y) ?_) hya) ?_) hya) ?_) hya
  · omega
  · show y ≠ mSz M + 1; omega
  · show y ≠ mSz M + 1 + 1; omega
theorem fits_bI (b : Bool) : fits .boolean (.int (bI b)) = true := by cases b <;> rfl

theorem fC1_a {M : aM} {a : Nat} (ha : tO M a 1) : tO (fC1 M a) a 1 ∧ mR (fC1 M a) a 0 = some (mSz M) ∧ mR (fC1 M a) a 1 = some (mSz M + 1) ∧ mR (fC1 M a) a 2 = some (mSz M + 2) ∧ tA (fC1 M a) (mSz M) 101 4 ∧ tA (fC1 M a) (mSz M + 1) 100 8 ∧ tA (fC1 M a) (mSz M + 2) 100 4 := by
  have h := ha.1
  unfold fC1
  refine ⟨((ha.up _ _).up _ _).up _ _, ?_, ?_, ?_, ((tA.new M 101 4).up _ _).up _ _, (tA.new (mN M 101 4) 100 8).up _ _, tA.new (mN (mN M 101 4) 100 8) 100 4⟩
  · rw [mm_R_sR, if_neg (by omega), mm_R_mN, mm_sz_sR, mm_sz_mN, mm_sz_sR, mm_sz_mN, if_neg (by omega), mm_R_sR, if_neg (by omega), mm_R_mN, mm_sz_sR, mm_sz_mN, if_neg (by omega), mm_R_sR, if_pos ⟨rfl, rfl⟩]
  · rw [mm_R_sR, if_neg (by omega), mm_R_mN, mm_sz_sR, mm_sz_mN, mm_sz_sR, mm_sz_mN, if_neg (by omega), mm_R_sR, if_pos ⟨rfl, rfl⟩]
  · rw [mm_R_sR, if_pos ⟨rfl, rfl⟩]

set_option maxRecDepth 20000 in
set_option maxHeartbeats 1000000 in
theorem k_C_init2 (M : aM) (a q m o w : Nat) (c : aCf) (ha : tO M a 1) (hc : cfS M q m o w c) (hqa : q ≠ a) : aK m_C_init2 1 3 16 M [.ref a, .ref q] (fun M1 r => r = none ∧ M1 = fC2 M a m o w) := by
  refine aK.of (by decide) (Nat.le_of_ble_eq_true rfl) ?_
  have hc0 := hc
  obtain ⟨hq, hm, ho, hw, tm, to, tw, vm, vo, vw⟩ := hc
  obtain ⟨g0, g1, g2, g3, g4, g5, g6⟩ := fC1_a ha
  have hma : m ≠ a := fun e => absurd (ha.2.symm.trans (e ▸ tm.2.1)) (by decide)
  have hoa : o ≠ a := fun e => absurd (ha.2.symm.trans (e ▸ to.2.1)) (by decide)
  have hwa : w ≠ a := fun e => absurd (ha.2.symm.trans (e ▸ tw.2.1)) (by decide)
  have hzz : mSz M ≤ mSz (fC1 M a) := by show mSz M ≤ mSz M + 1 + 1 + 1; omega
  have sq := sm_fC1 (a := a) hq.1 hqa
  have s_m := sm_fC1 (a := a) tm.1 hma
  have s_o := sm_fC1 (a := a) to.1 hoa
  have s_w := sm_fC1 (a := a) tw.1 hwa
  have hom : o ≠ m := fun e => hc0.mo.1 e.symm
  refine j_aload_n d_C_init2_0 rfl ?_
  refine j_objInit d_C_init2_1 w35 w22 w23 (by decide) (Nat.le_of_ble_eq_true rfl) ?_
  refine j_aload_n d_C_init2_4 rfl ?_
  refine j_iconst (v := 4) d_C_init2_5 (by decide) ?_
  refine j_newz d_C_init2_6 rfl (by decide) (by decide) (by decide) ?_
  refine j_putRF d_C_init2_8 (ha.up _ _) p_C_9_C rfl (by decide) (fun z => by cases z <;> rfl) (fun z => by cases z <;> rfl) rfl ?_
  refine j_aload_n d_C_init2_11 rfl ?_
  refine j_bipush (v := 8) d_C_init2_12 (by decide) ?_
  refine j_newi d_C_init2_14 rfl (by decide) (by decide) (by decide) ?_
  refine j_putRF d_C_init2_16 ((ha.up _ _).up _ _) p_C_15_C rfl (by decide) (fun z => by cases z <;> rfl) (fun z => by cases z <;> rfl) rfl ?_
  refine j_aload_n d_C_init2_19 rfl ?_
  refine j_iconst (v := 4) d_C_init2_20 (by decide) ?_
  refine j_newi d_C_init2_21 rfl (by decide) (by decide) (by decide) ?_
  refine j_putRF d_C_init2_23 (((ha.up _ _).up _ _).up _ _) p_C_19_C rfl (by decide) (fun z => by cases z <;> rfl) (fun z => by cases z <;> rfl) rfl ?_
  show aJ aX0 m_C_init2 1 3 16 _ _ _ _ _ _ (fC1 M a)
  refine j_aload_n d_C_init2_26 rfl ?_
  refine j_getR d_C_init2_27 (sq.tO hzz hq) f_C_9_C rfl (by decide) (sq.R hm) ?_
  refine j_iconst (v := 0) d_C_init2_30 (by decide) ?_
  refine j_aload_n d_C_init2_31 rfl ?_
  refine j_getR d_C_init2_32 g0 f_C_9_C rfl (by decide) g1 ?_
  refine j_iconst (v := 0) d_C_init2_35 (by decide) ?_
  refine j_iconst (v := 4) d_C_init2_36 (by decide) ?_
  refine j_copy (kd := 101) d_C_init2_37 w321 w323 w322 w10 (s_m.tA hzz tm) g4 (by decide) (by decide) tx_101 rfl rfl rfl rfl (by decide) (by decide) (by decide) (by decide) (fun i hi => by rw [show 0 + i = i by omega, s_m.2.2.1 i, vm i hi]; exact fits_bI _) (by decide) (Nat.le_of_ble_eq_true rfl) ?_
  refine j_aload_n d_C_init2_40 rfl ?_
  refine j_getR d_C_init2_41 (sq.tO hzz hq) f_C_15_C rfl (by decide) (sq.R ho) ?_
  refine j_iconst (v := 0) d_C_init2_44 (by decide) ?_
  refine j_aload_n d_C_init2_45 rfl ?_
  refine j_getR d_C_init2_46 g0 f_C_15_C rfl (by decide) g2 ?_
  refine j_iconst (v := 0) d_C_init2_49 (by decide) ?_
  refine j_bipush (v := 8) d_C_init2_50 (by decide) ?_
  refine j_copy (kd := 100) d_C_init2_52 w321 w323 w322 w10 (s_o.tA hzz to) g5 (by decide) (by decide) tx_100 rfl rfl rfl rfl (by decide) (by decide) (by decide) (by decide) (fun q _ => rfl) (by decide) (Nat.le_of_ble_eq_true rfl) ?_
  refine j_aload_n d_C_init2_55 rfl ?_
  refine j_getR d_C_init2_56 (sq.tO hzz hq) f_C_19_C rfl (by decide) (sq.R hw) ?_
  refine j_iconst (v := 0) d_C_init2_59 (by decide) ?_
  refine j_aload_n d_C_init2_60 rfl ?_
  refine j_getR d_C_init2_61 g0 f_C_19_C rfl (by decide) g3 ?_
  refine j_iconst (v := 0) d_C_init2_64 (by decide) ?_
  refine j_iconst (v := 4) d_C_init2_65 (by decide) ?_
  refine j_copy (kd := 100) d_C_init2_66 w321 w323 w322 w10 (s_w.tA hzz tw) g6 (by decide) (by decide) tx_100 rfl rfl rfl rfl (by decide) (by decide) (by decide) (by decide) (fun q _ => rfl) (by decide) (Nat.le_of_ble_eq_true rfl) ?_
  refine j_return d_C_init2_69 rfl ?_ (by decide) (by decide)
  exact ⟨rfl, rfl⟩
theorem fC2_S {M : aM} {a q m o w : Nat} {c : aCf} (ha : tO M a 1) (hc : cfS M q m o w c) (hqa : q ≠ a) : cfS (fC2 M a m o w) a (mSz M) (mSz M + 1) (mSz M + 2) c := by
  have hc0 := hc
  obtain ⟨hq, hm, ho, hw, tm, to, tw, vm, vo, vw⟩ := hc
  obtain ⟨g0, g1, g2, g3, g4, g5, g6⟩ := fC1_a ha
  have hma : m ≠ a := fun e => absurd (ha.2.symm.trans (e ▸ tm.2.1)) (by decide)
  have hoa : o ≠ a := fun e => absurd (ha.2.symm.trans (e ▸ to.2.1)) (by decide)
  have hwa : w ≠ a := fun e => absurd (ha.2.symm.trans (e ▸ tw.2.1)) (by decide)
  have hzz : mSz M ≤ mSz (fC1 M a) := by show mSz M ≤ mSz M + 1 + 1 + 1; omega
  have sq := sm_fC1 (a := a) hq.1 hqa
  have s_m := sm_fC1 (a := a) tm.1 hma
  have s_o := sm_fC1 (a := a) to.1 hoa
  have s_w := sm_fC1 (a := a) tw.1 hwa
  have hom : o ≠ m := fun e => hc0.mo.1 e.symm
  have lm := tm.1
  have lo := to.1
  have lw := tw.1
  unfold fC2
  refine ⟨g0, g1, g2, g3, g4, g5, g6, fun x hx => ?_, fun x hx => ?_, fun x hx => ?_⟩
  · rw [mm_I_sC, if_neg (by omega), mm_I_sC, if_neg (by omega), mm_I_sC, if_pos ⟨rfl, by omega, by omega⟩, show 0 + (x - 0) = x by omega, s_m.2.2.1]
    exact vm x hx
  · rw [mm_I_sC, if_neg (by omega), mm_I_sC, if_pos ⟨rfl, by omega, by omega⟩, show 0 + (x - 0) = x by omega, mm_I_sC, if_neg (by omega), s_o.2.2.1]
    exact vo x hx
  · rw [mm_I_sC, if_pos ⟨rfl, by omega, by omega⟩, show 0 + (x - 0) = x by omega, mm_I_sC, if_neg (by omega), mm_I_sC, if_neg (by omega), s_w.2.2.1]
    exact vw x hx
theorem fC2_new {M : aM} {m o w : Nat} : onew M (fC2 (mN M 1 0) (mSz M) m o w) := by
  unfold fC2 fC1
  have z : mSz (mN M 1 0) = mSz M + 1 := rfl
  refine onew.sC (onew.sC (onew.sC (onew.sR (onew.mN (onew.sR (onew.mN (onew.sR (onew.mN (onew.mN (onew.rf M))) ?_)) ?_)) ?_) ?_) ?_) ?_ <;> omega
theorem onew.fr3 {M A B : aM} {m o w : Nat} (h : onew M A) (g : fr3 A B m o w) (h1 : mSz M ≤ m) (h2 : mSz M ≤ o) (h3 : mSz M ≤ w) : onew M B := ⟨by rw [g.1]; exact h.1, fun a ha => (h.2 a ha).tr (g.2 a (by omega) (by omega) (by omega))⟩
/-- only the state of node n has changed, of all that was there -/
def chg (M M1 : aM) (n : Nat) : Prop := stb M M1 ∧ fM M M1 ∧ cSh M1 ∧ (∀ a, a < 332 → (∀ i, i < wd n → a ≠ nd n + i) → sm M M1 a) ∧ (∀ k, k ≠ 7 → mI M1 (nd n) k = mI M (nd n) k) ∧ (∀ k, k ≠ 8 → mR M1 (nd n) k = mR M (nd n) k) ∧ sm M M1 (nd n + 1)
theorem chg.rf {M : aM} {n : Nat} (h : cSh M) : chg M M n := ⟨stb.rf M, fM.rf M, h, fun a _ _ => sm.rf M a, fun _ _ => rfl, fun _ _ => rfl, sm.rf M _⟩
theorem chg.tr {M M1 M2 : aM} {n : Nat} (h : chg M M1 n) (g : chg M1 M2 n) : chg M M2 n := by
  obtain ⟨a1, a2, a3, a4, a5, a6, a7⟩ := h
  obtain ⟨b1, b2, b3, b4, b5, b6, b7⟩ := g
  exact ⟨a1.tr b1, a2.tr b2, b3, fun a h1 h2 => (a4 a h1 h2).tr (b4 a h1 h2), fun k hk => (b5 k hk).trans (a5 k hk), fun k hk => (b6 k hk).trans (a6 k hk), a7.tr b7⟩
theorem onew.chg {M M1 : aM} {n : Nat} (h : onew M M1) (hs : cSh M) (hn : n < 12) : chg M M1 n := by
  have h2 := nd_hi hn
  have h0 := hs.1
  refine ⟨h.stb, h.fM hs.1, cSh_sm h.1 (fun a ha => h.2 a (by omega)) hs, fun a ha _ => h.2 a (by omega), fun k _ => (h.2 (nd n) (by omega)).2.2.1 k, fun k _ => (h.2 (nd n) (by omega)).2.2.2 k, h.2 (nd n + 1) (by omega)⟩

theorem cSh_cf {M : aM} (h : cSh M) {n : Nat} (hn : n < 3) : mR M (nd n) 6 = some (nd n + 2) ∧ tA M (nd n + 2) 105 16 := (h.2.2.2.2.2.2.2.2.2.1 n hn).2
set_option maxRecDepth 20000 in
set_option maxHeartbeats 1000000 in
theorem k_add (M : aM) (n k z : Nat) (h : cSh M) (hn : n < 3) (hk : mI M (nd n) 7 = nI k) (hk2 : k < 15) (hz : tO M z 1) : aK m_V_add 0 0 0 M [.ref (nd n), .ref z] (fun M1 r => r = none ∧ M1 = sR (sI M (nd n) 7 (nI (k + 1))) (nd n + 2) (k + 1) (some z)) := by
  refine aK.of (by decide) (Nat.le_of_ble_eq_true rfl) ?_
  have hN := (cSh_V h hn).1
  have hc := cSh_cf h hn
  refine j_aload_n d_V_add_0 rfl ?_
  refine j_dup d_V_add_1 ?_
  refine j_geti d_V_add_2 (by assumption) f_V_23_V rfl (by decide) ?_
  refine j_iconst (v := 1) d_V_add_5 (by decide) ?_
  refine j_iadd d_V_add_6 ?_
  refine j_eqi (show mI M (nd n) 7 + 1 = nI (k + 1) by rw [hk]; exact (nI_succ k).symm) ?_
  refine j_puti d_V_add_7 (by assumption) p_V_23_V rfl (by decide) rfl rfl ?_
  refine j_aload_n d_V_add_10 rfl ?_
  refine j_getR d_V_add_11 (by assumption) f_V_11_V rfl (by decide) hc.1 ?_
  refine j_aload_n d_V_add_14 rfl ?_
  refine j_geti d_V_add_15 (by assumption) f_V_23_V rfl (by decide) ?_
  refine j_eqi (show _ = nI (k + 1) by rw [mm_I_sI, if_pos ⟨rfl, rfl⟩]) ?_
  refine j_aload_n d_V_add_18 rfl ?_
  refine j_aast d_V_add_19 hc.2 (by decide) (aIx.n (by omega) (by decide)) (by assumption) (by decide) ca_C_105 ?_
  refine j_return d_V_add_20 rfl ?_ (by decide) (by decide)
  exact ⟨rfl, rfl⟩
set_option maxRecDepth 20000 in
set_option maxHeartbeats 1000000 in
theorem k_isComplete (M : aM) (n k : Nat) (h : cSh M) (hn : n < 3) (hk : mI M (nd n) 7 = nI k) (hk2 : k < 16) : aK m_V_isComplete 0 0 0 M [.ref (nd n)] (fun M1 r => M1 = M ∧ r = some (.int (bP (k = 15)))) := by
  refine aK.of (by decide) (Nat.le_of_ble_eq_true rfl) ?_
  have hN := (cSh_V h hn).1
  refine j_aload_n d_V_isComplete_0 rfl ?_
  refine j_geti d_V_isComplete_1 (by assumption) f_V_23_V rfl (by decide) ?_
  refine j_iconst (v := 1) d_V_isComplete_4 (by decide) ?_
  refine j_iadd d_V_isComplete_5 ?_
  refine j_eqi (show mI M (nd n) 7 + 1 = nI (k + 1) by rw [hk]; exact (nI_succ k).symm) ?_
  refine j_bipush (v := 16) d_V_isComplete_6 (by decide) ?_
  refine j_icmp_ne (tgt := 15) d_V_isComplete_8 (by decide) (fun h8 => ?_) (fun h8 => ?_)
  · have hb : bP (k = 15) = 0 := bP_f (fun e => h8 (by rw [e]; rfl))
    refine j_iconst (v := 0) d_V_isComplete_15 (by decide) ?_
    refine j_ireturn d_V_isComplete_16 rfl rfl ?_ (by decide) (by decide)
    exact ⟨rfl, by rw [hb]⟩
  · have hb : bP (k = 15) = 1 := bP_t (by have := i_eq (b := 16) (by omega) (by decide) h8; omega)
    refine j_iconst (v := 1) d_V_isComplete_11 (by decide) ?_
    refine j_goto 16 d_V_isComplete_12 (by decide) ?_
    refine j_ireturn d_V_isComplete_16 rfl rfl ?_ (by decide) (by decide)
    exact ⟨rfl, by rw [hb]⟩
set_option maxRecDepth 20000 in
set_option maxHeartbeats 1000000 in
theorem k_isAllowed_1 (M : aM) (e q m o w : Nat) (c : aCf) (E : Nat → Nat) (he : tO M e 6) (hk : mI M e 1 = nI (E 1 - 1)) (h2 : mI M e 2 = nI (E 2)) (hc : cfS M q m o w c) (e1 : E 1 = 1) (ha : E 2 < 4) : aK m_G_isAllowed 1 0 0 M [.ref e, .ref q] (fun M1 r => M1 = M ∧ r = some (.int (bI (!c.1 (E 2))))) := by
  refine aK.of (by decide) (Nat.le_of_ble_eq_true rfl) ?_
  have hc0 := hc
  obtain ⟨hq, hm, ho, hw, tm, to, tw, vm, vo, vw⟩ := hc
  refine j_aload_n d_G_isAllowed_0 rfl ?_
  refine j_geti d_G_isAllowed_1 he f_G_9_G rfl (by decide) ?_
  refine j_eqi hk ?_
  refine j_if_ne (tgt := 25) d_G_isAllowed_4 (by decide) (fun h4 => False.elim (h4 (by rw [e1]; rfl))) (fun h4 => ?_)
  refine j_aload_n d_G_isAllowed_7 rfl ?_
  refine j_getR d_G_isAllowed_8 hq f_G_56_C rfl (by decide) hm ?_
  refine j_aload_n d_G_isAllowed_11 rfl ?_
  refine j_geti d_G_isAllowed_12 he f_G_15_G rfl (by decide) ?_
  refine j_eqi h2 ?_
  refine j_zald d_G_isAllowed_15 tm (aIx.n ha (by decide)) ?_
  refine j_eqi (vm _ ha) ?_
  refine j_if_ne (tgt := 23) d_G_isAllowed_16 (by decide) (fun h16 => ?_) (fun h16 => ?_)
  · have hb : bI (!c.1 (E 2)) = 0 := by cases z : c.1 (E 2); rw [z] at h16; exact absurd rfl h16; rfl
    refine j_iconst (v := 0) d_G_isAllowed_23 (by decide) ?_
    refine j_ireturn d_G_isAllowed_24 rfl rfl ?_ (by decide) (by decide)
    exact ⟨rfl, by rw [hb]⟩
  · have hb : bI (!c.1 (E 2)) = 1 := by cases z : c.1 (E 2); rfl; rw [z] at h16; exact absurd h16 (by decide)
    refine j_iconst (v := 1) d_G_isAllowed_19 (by decide) ?_
    refine j_goto 24 d_G_isAllowed_20 (by decide) ?_
    refine j_ireturn d_G_isAllowed_24 rfl rfl ?_ (by decide) (by decide)
    exact ⟨rfl, by rw [hb]⟩
set_option maxRecDepth 20000 in
set_option maxHeartbeats 1000000 in
theorem k_isAllowed_2 (M : aM) (e q m o w : Nat) (c : aCf) (E : Nat → Nat) (he : tO M e 6) (hk : mI M e 1 = nI (E 1 - 1)) (h2 : mI M e 2 = nI (E 2)) (hc : cfS M q m o w c) (e1 : E 1 = 2) (ha : E 2 < 4) (h0 : c.1 0 = false) : aK m_G_isAllowed 1 0 0 M [.ref e, .ref q] (fun M1 r => M1 = M ∧ r = some (.int (bI (c.1 (E 2) && decide (1 < nM c.1))))) := by
  refine aK.of (by decide) (Nat.le_of_ble_eq_true rfl) ?_
  have hc0 := hc
  obtain ⟨hq, hm, ho, hw, tm, to, tw, vm, vo, vw⟩ := hc
  refine j_aload_n d_G_isAllowed_0 rfl ?_
  refine j_geti d_G_isAllowed_1 he f_G_9_G rfl (by decide) ?_
  refine j_eqi hk ?_
  refine j_if_ne (tgt := 25) d_G_isAllowed_4 (by decide) (fun h4 => ?_) (fun h4 => False.elim (absurd h4 (by rw [e1]; decide)))
  refine j_aload_n d_G_isAllowed_25 rfl ?_
  refine j_geti d_G_isAllowed_26 he f_G_9_G rfl (by decide) ?_
  refine j_eqi hk ?_
  refine j_iconst (v := 1) d_G_isAllowed_29 (by decide) ?_
  refine j_icmp_ne (tgt := 59) d_G_isAllowed_30 (by decide) (fun h30 => False.elim (h30 (by rw [e1]; rfl))) (fun h30 => ?_)
  refine j_aload_n d_G_isAllowed_33 rfl ?_
  refine j_getR d_G_isAllowed_34 hq f_G_56_C rfl (by decide) hm ?_
  refine j_aload_n d_G_isAllowed_37 rfl ?_
  refine j_geti d_G_isAllowed_38 he f_G_15_G rfl (by decide) ?_
  refine j_eqi h2 ?_
  refine j_zald d_G_isAllowed_41 tm (aIx.n ha (by decide)) ?_
  refine j_eqi (vm _ ha) ?_
  refine j_if_eq (tgt := 57) d_G_isAllowed_42 (by decide) (fun h42 => ?_) (fun h42 => ?_)
  · have hb : bI (c.1 (E 2) && decide (1 < nM c.1)) = 0 := by rw [bI_0 h42]; rfl
    refine j_iconst (v := 0) d_G_isAllowed_57 (by decide) ?_
    refine j_ireturn d_G_isAllowed_58 rfl rfl ?_ (by decide) (by decide)
    exact ⟨rfl, by rw [hb]⟩
  · have hz := bI_1 h42
    refine j_aload_n d_G_isAllowed_45 rfl ?_
    refine j_callV (vs := []) d_G_isAllowed_46 hq (by decide) rfl w313 w314 w2 w316 w315 y_C_countMembers (by decide) (by decide) (k_countMembers M q m o w c hc0 h0) rfl (Nat.le_of_ble_eq_true rfl) (by decide) (by decide) (fun M1 r1 hq1 => ?_)
    obtain ⟨rfl, rfl⟩ := hq1
    have hn3 := nM_le c.1
    refine j_iconst (v := 1) d_G_isAllowed_49 (by decide) ?_
    refine j_icmp_le (tgt := 57) d_G_isAllowed_50 (by decide) (fun h50 => ?_) (fun h50 => ?_)
    · have hb : bI (c.1 (E 2) && decide (1 < nM c.1)) = 0 := by rw [hz, decide_eq_false (by have := i_le (b := 1) (by omega) (by decide) h50; omega)]; rfl
      refine j_iconst (v := 0) d_G_isAllowed_57 (by decide) ?_
      refine j_ireturn d_G_isAllowed_58 rfl rfl ?_ (by decide) (by decide)
      exact ⟨rfl, by rw [hb]⟩
    · have hb : bI (c.1 (E 2) && decide (1 < nM c.1)) = 1 := by rw [hz, decide_eq_true (i_nle (b := 1) (by omega) (by decide) h50)]; rfl
      refine j_iconst (v := 1) d_G_isAllowed_53 (by decide) ?_
      refine j_goto 58 d_G_isAllowed_54 (by decide) ?_
      refine j_ireturn d_G_isAllowed_58 rfl rfl ?_ (by decide) (by decide)
      exact ⟨rfl, by rw [hb]⟩
set_option maxRecDepth 20000 in
set_option maxHeartbeats 1000000 in
theorem k_isAllowed_3 (M : aM) (e q m o w : Nat) (c : aCf) (E : Nat → Nat) (he : tO M e 6) (hk : mI M e 1 = nI (E 1 - 1)) (h2 : mI M e 2 = nI (E 2)) (hc : cfS M q m o w c) (h3 : mI M e 3 = nI (E 3)) (e1 : E 1 = 3) (ha : E 3 < 4) : aK m_G_isAllowed 1 0 0 M [.ref e, .ref q] (fun M1 r => M1 = M ∧ r = some (.int (bI (c.1 (E 3))))) := by
  refine aK.of (by decide) (Nat.le_of_ble_eq_true rfl) ?_
  have hc0 := hc
  obtain ⟨hq, hm, ho, hw, tm, to, tw, vm, vo, vw⟩ := hc
  refine j_aload_n d_G_isAllowed_0 rfl ?_
  refine j_geti d_G_isAllowed_1 he f_G_9_G rfl (by decide) ?_
  refine j_eqi hk ?_
  refine j_if_ne (tgt := 25) d_G_isAllowed_4 (by decide) (fun h4 => ?_) (fun h4 => False.elim (absurd h4 (by rw [e1]; decide)))
  refine j_aload_n d_G_isAllowed_25 rfl ?_
  refine j_geti d_G_isAllowed_26 he f_G_9_G rfl (by decide) ?_
  refine j_eqi hk ?_
  refine j_iconst (v := 1) d_G_isAllowed_29 (by decide) ?_
  refine j_icmp_ne (tgt := 59) d_G_isAllowed_30 (by decide) (fun h30 => ?_) (fun h30 => False.elim (absurd h30 (by rw [e1]; decide)))
  refine j_aload_n d_G_isAllowed_59 rfl ?_
  refine j_getR d_G_isAllowed_60 hq f_G_56_C rfl (by decide) hm ?_
  refine j_aload_n d_G_isAllowed_63 rfl ?_
  refine j_geti d_G_isAllowed_64 he f_G_18_G rfl (by decide) ?_
  refine j_eqi h3 ?_
  refine j_zald d_G_isAllowed_67 tm (aIx.n ha (by decide)) ?_
  refine j_eqi (vm _ ha) ?_
  refine j_ireturn d_G_isAllowed_68 rfl (by cases c.1 (E 3) <;> rfl) ?_ (by decide) (by decide)
  exact ⟨rfl, rfl⟩
