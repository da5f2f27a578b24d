theorem cSh_nd2 {M : aM} (h : cSh M) {n : Nat} (hn : n < 3) (k : Nat) (x : Option Nat) : cSh (sR M (nd n + 2) k x) := by
  refine cSh_sR h ?_
  have := nd_lo n
  have w := wd_3 n
  rintro (q | ⟨m, q1, q2, -⟩ | ⟨m, q1, q2, q3⟩ | ⟨m, s, q1, q2, q3, q4⟩)
  · omega
  · by_cases e9 : n = m
    · subst e9; omega
    · exact nd_apart (i := 2) (j := 0) (by omega) q1 e9 (by omega) (by have := wd_3 m; omega) q2
  · exact nd_apart (i := 2) (j := 2) (by omega) q2 (show n ≠ m by omega) (by omega) (by have := wd_3 m; omega) q3
  · exact nd_apart (i := 2) (j := 3 + 4 * s) (by omega) q2 (show n ≠ m by omega) (by omega) (by rw [wd_35 q1]; omega) (by omega)
/-- the service's states are as they must be -/
def svV (V : aSv) : Prop := 1 ≤ V.1 ∧ V.1 ≤ 16 ∧ ∀ c, c < V.1 → cfV (V.2 c)
theorem svR_add {M M2 : aM} {n z : Nat} {V : aSv} {c : aCf} (h : cSh M) (hn : n < 3) (hv : svR M n V) (h1 : 1 ≤ V.1) (h16 : V.1 < 16) (ho : onew M M2) (hz : cfR M2 z c) :
    svR (sR (sI M2 (nd n) 7 (nI (V.1 - 1 + 1))) (nd n + 2) (V.1 - 1 + 1) (some z)) n (V.1 + 1, fu V.2 V.1 c) ∧ chg M (sR (sI M2 (nd n) 7 (nI (V.1 - 1 + 1))) (nd n + 2) (V.1 - 1 + 1) (some z)) n := by
  rw [show V.1 - 1 + 1 = V.1 by omega]
  have w := wd_3 n
  have hn12 : n < 12 := by omega
  have st : stb M2 (sR (sI M2 (nd n) 7 (nI V.1)) (nd n + 2) V.1 (some z)) := (stb_nd hn12 (stb.rf M2)).sR (Or.inl (nd_im hn12 (by omega)))
  have g0 := ho.chg (n := n) h hn12
  have hhi := nd_hi hn12
  have h0 := h.1
  have s2 := ho.2 (nd n + 2) (by omega)
  refine ⟨⟨?_, fun c1 hc1 => ?_⟩, g0.tr ⟨st, ?_, ?_, ?_, ?_, ?_, ?_⟩⟩
  · rw [mm_I_sR, mm_I_sI, if_pos ⟨rfl, rfl⟩]
    show nI V.1 = nI (V.1 + 1 - 1)
    rw [show V.1 + 1 - 1 = V.1 by omega]
  · show ∃ q, _ ∧ cfR _ q (fu V.2 V.1 c c1)
    rw [mm_R_sR]
    by_cases e : c1 = V.1
    · rw [if_pos ⟨rfl, e⟩, e, fu_s]
      exact ⟨z, rfl, hz.st st⟩
    · rw [if_neg (fun y => e y.2), fu_n _ _ e, mm_R_sI]
      obtain ⟨q, b1, b2⟩ := hv.2 c1 (by have : c1 < V.1 + 1 := hc1; omega)
      exact ⟨q, s2.R b1, (b2.st ho.stb).st st⟩
  · exact fM_ndR (i := 2) hn12 (by omega) (fM_nd (i := 0) hn12 (wd0 n) (fM.rf M2))
  · exact cSh_nd2 (cSh_sI g0.2.2.1 (Or.inl (by decide))) hn _ _
  · intro a ha hi
    exact ((sm.rf M2 a).sI (hi 0 (by omega))).sR (hi 2 (by omega))
  · intro k hk
    rw [mm_I_sR, mm_I_sI, if_neg (fun y => hk y.2)]
  · intro k _
    rw [mm_R_sR, if_neg (by omega), mm_R_sI]
  · exact ((sm.rf M2 _).sI (by omega)).sR (by omega)

theorem cfS_new {M M1 : aM} {q m o w : Nat} {c : aCf} (h : onew M M1) (hc : cfS M q m o w c) : cfS M1 q m o w c := by
  obtain ⟨hq, hm, ho, hw, tm, to, tw, vm, vo, vw⟩ := hc
  have s1 := h.2 q hq.1
  have s2 := h.2 m tm.1
  have s3 := h.2 o to.1
  have s4 := h.2 w tw.1
  exact ⟨s1.tO h.1 hq, s1.R hm, s1.R ho, s1.R hw, s2.tA h.1 tm, s3.tA h.1 to, s4.tA h.1 tw, fun g hg => s2.I (vm g hg), fun g hg => s3.I (vo g hg), fun g hg => s4.I (vw g hg)⟩
set_option maxRecDepth 20000 in
set_option maxHeartbeats 1000000 in
theorem k_chS_no (M : aM) (n e q m o w : Nat) (V : aSv) (E : Nat → Nat) (al : Bool) (h : cSh M) (hn : n < 3) (hv : svR M n V) (hV : svV V) (he : tO M e 6) (hk : mI M e 1 = nI (E 1 - 1)) (h2 : mI M e 2 = nI (E 2)) (hq : mR M (nd n + 2) (V.1 - 1) = some q) (hc : cfS M q m o w (V.2 (V.1 - 1))) (hal : aK m_G_isAllowed 1 0 0 M [.ref e, .ref q] (fun M1 r => M1 = M ∧ r = some (.int (bI al)))) (hno : V.1 = 16 ∨ al = false) : aK m_G_changeService 3 4 19 M [.ref e, .ref (nd n)] (fun M1 r => r = none ∧ M1 = M) := by
  refine aK.of (by decide) (Nat.le_of_ble_eq_true rfl) ?_
  have hN := (cSh_V h hn).1
  have hcf := cSh_cf h hn
  have hz345 := h.1
  obtain ⟨v1, v2, v3⟩ := hV
  refine j_aload_n d_G_changeService_0 rfl ?_
  refine j_getR d_G_changeService_1 hN f_G_21_V rfl (by decide) hcf.1 ?_
  refine j_aload_n d_G_changeService_4 rfl ?_
  refine j_geti d_G_changeService_5 hN f_G_27_V rfl (by decide) ?_
  refine j_eqi hv.1 ?_
  refine j_aaldR d_G_changeService_8 hcf.2 (by decide) ts_105 (aIx.n (by omega) (by decide)) hq ?_
  refine j_astore_n d_G_changeService_9 (by decide) ?_
  refine j_aload_n d_G_changeService_10 rfl ?_
  refine j_callV (vs := []) d_G_changeService_11 hN (by decide) rfl w304 w305 w4 w307 w306 y_V_isComplete (by decide) (by decide) (k_isComplete M n (V.1 - 1) h hn hv.1 (by omega)) rfl (Nat.le_of_ble_eq_true rfl) (by decide) (by decide) (fun M1 r1 hq1 => ?_)
  obtain ⟨rfl, rfl⟩ := hq1
  refine j_if_ne (tgt := 25) d_G_changeService_14 (by decide) (fun h14 => ?_) (fun h14 => ?_)
  · refine j_return d_G_changeService_25 rfl ?_ (by decide) (by decide)
    exact ⟨rfl, rfl⟩
  · refine j_aload_n d_G_changeService_17 rfl ?_
    refine j_aload_n d_G_changeService_18 rfl ?_
    refine j_callV (vs := [_]) d_G_changeService_19 he (by decide) rfl w308 w310 w11 w312 ws_G_isAllowed y_G_isAllowed (by decide) (by decide) (hal) rfl (Nat.le_of_ble_eq_true rfl) (by decide) (by decide) (fun M2 r2 hq2 => ?_)
    obtain ⟨rfl, rfl⟩ := hq2
    refine j_if_ne (tgt := 26) d_G_changeService_22 (by decide) (fun h22 => False.elim (hno.elim (fun z => absurd (bP_t (show V.1 - 1 = 15 by omega)) (by rw [h14]; decide)) (fun z => h22 (by rw [z]; rfl)))) (fun h22 => ?_)
    refine j_return d_G_changeService_25 rfl ?_ (by decide) (by decide)
    exact ⟨rfl, rfl⟩
set_option maxRecDepth 20000 in
set_option maxHeartbeats 1000000 in
theorem k_chS_1 (M : aM) (n e q m o w : Nat) (V : aSv) (E : Nat → Nat) (al : Bool) (h : cSh M) (hn : n < 3) (hv : svR M n V) (hV : svV V) (he : tO M e 6) (hk : mI M e 1 = nI (E 1 - 1)) (h2 : mI M e 2 = nI (E 2)) (hq : mR M (nd n + 2) (V.1 - 1) = some q) (hc : cfS M q m o w (V.2 (V.1 - 1))) (hal : aK m_G_isAllowed 1 0 0 M [.ref e, .ref q] (fun M1 r => M1 = M ∧ r = some (.int (bI al)))) (hlt : V.1 < 16) (hyes : al = true) (e1 : E 1 = 1) (r1 : 1 ≤ E 2) (r3 : E 2 ≤ 3) (hna : (V.2 (V.1 - 1)).1 (E 2) = false) (hstep : svStep V E = (V.1 + 1, fu V.2 V.1 (cfJ (V.2 (V.1 - 1)) (E 2)))) : aK m_G_changeService 3 4 19 M [.ref e, .ref (nd n)] (fun M1 r => r = none ∧ svR M1 n (svStep V E) ∧ chg M M1 n) := by
  refine aK.of (by decide) (Nat.le_of_ble_eq_true rfl) ?_
  have hN := (cSh_V h hn).1
  have hcf := cSh_cf h hn
  have hz345 := h.1
  obtain ⟨v1, v2, v3⟩ := hV
  refine j_aload_n d_G_changeService_0 rfl ?_
  refine j_getR d_G_changeService_1 hN f_G_21_V rfl (by decide) hcf.1 ?_
  refine j_aload_n d_G_changeService_4 rfl ?_
  refine j_geti d_G_changeService_5 hN f_G_27_V rfl (by decide) ?_
  refine j_eqi hv.1 ?_
  refine j_aaldR d_G_changeService_8 hcf.2 (by decide) ts_105 (aIx.n (by omega) (by decide)) hq ?_
  refine j_astore_n d_G_changeService_9 (by decide) ?_
  refine j_aload_n d_G_changeService_10 rfl ?_
  refine j_callV (vs := []) d_G_changeService_11 hN (by decide) rfl w304 w305 w4 w307 w306 y_V_isComplete (by decide) (by decide) (k_isComplete M n (V.1 - 1) h hn hv.1 (by omega)) rfl (Nat.le_of_ble_eq_true rfl) (by decide) (by decide) (fun M1 r1 hq1 => ?_)
  obtain ⟨rfl, rfl⟩ := hq1
  refine j_if_ne (tgt := 25) d_G_changeService_14 (by decide) (fun h14 => False.elim (h14 (bP_f (by omega)))) (fun h14 => ?_)
  refine j_aload_n d_G_changeService_17 rfl ?_
  refine j_aload_n d_G_changeService_18 rfl ?_
  refine j_callV (vs := [_]) d_G_changeService_19 he (by decide) rfl w308 w310 w11 w312 ws_G_isAllowed y_G_isAllowed (by decide) (by decide) (hal) rfl (Nat.le_of_ble_eq_true rfl) (by decide) (by decide) (fun M2 r2 hq2 => ?_)
  obtain ⟨rfl, rfl⟩ := hq2
  refine j_if_ne (tgt := 26) d_G_changeService_22 (by decide) (fun h22 => ?_) (fun h22 => False.elim (absurd h22 (by rw [hyes]; decide)))
  refine j_new d_G_changeService_26 n_G_38 (by decide) (by decide) (by decide) ?_
  refine j_dup d_G_changeService_29 ?_
  refine j_aload_n d_G_changeService_30 rfl ?_
  have on1 : onew M2 (mN M2 1 0) := (onew.rf M2).mN
  have hqz : q ≠ mSz M2 := Nat.ne_of_lt hc.1.1
  have hcn : cfS (mN M2 1 0) q m o w (V.2 (V.1 - 1)) := cfS_new on1 hc
  refine j_callI (vs := [_]) d_G_changeService_31 w318 w319 w2 w320 rfl rfl y_C_init2 (by decide) (by decide) (k_C_init2 (mN M2 1 0) (mSz M2) q m o w _ (tO.new M2 1 0) hcn hqz) rfl (Nat.le_of_ble_eq_true rfl) (by decide) (by decide) (fun M3 r3 hq3 => ?_)
  obtain ⟨rfl, rfl⟩ := hq3
  have on3 : onew M2 (fC2 (mN M2 1 0) (mSz M2) m o w) := fC2_new
  have hs3 := fC2_S (tO.new M2 1 0) hcn hqz
  have se := on3.2 e he.1
  have he3 : tO (fC2 (mN M2 1 0) (mSz M2) m o w) e 6 := se.tO on3.1 he
  have hk3 : mI (fC2 (mN M2 1 0) (mSz M2) m o w) e 1 = nI (E 1 - 1) := se.I hk
  have h23 : mI (fC2 (mN M2 1 0) (mSz M2) m o w) e 2 = nI (E 2) := se.I h2
  have hcfV := v3 (V.1 - 1) (by omega)
  refine j_astore_n d_G_changeService_34 (by decide) ?_
  refine j_aload_n d_G_changeService_35 rfl ?_
  refine j_geti d_G_changeService_36 he3 f_G_9_G rfl (by decide) ?_
  refine j_eqi hk3 ?_
  refine j_if_ne (tgt := 53) d_G_changeService_39 (by decide) (fun h39 => False.elim (h39 (by rw [e1]; rfl))) (fun h39 => ?_)
  refine j_aload_n d_G_changeService_42 rfl ?_
  refine j_aload_n d_G_changeService_43 rfl ?_
  refine j_geti d_G_changeService_44 he3 f_G_15_G rfl (by decide) ?_
  refine j_eqi h23 ?_
  refine j_callV (vs := [_]) d_G_changeService_47 hs3.1 (by decide) rfl w324 w325 w2 w327 w326 y_C_join (by decide) (by decide) (k_join (fC2 (mN M2 1 0) (mSz M2) m o w) (mSz M2) _ _ _ (V.2 (V.1 - 1)) hs3 (E 2) r1 r3 hcfV hna) rfl (Nat.le_of_ble_eq_true rfl) (by decide) (by decide) (fun M4 r4 hq4 => ?_)
  obtain ⟨rfl, gs, gf⟩ := hq4
  have hz1 : mSz (mN M2 1 0) = mSz M2 + 1 := rfl
  have on4 : onew M2 M4 := on3.fr3 gf (by omega) (by omega) (by omega)
  have hR4 : cfR M4 (mSz M2) (cfJ (V.2 (V.1 - 1)) (E 2)) := gs.r (Or.inr hz345) (Or.inr (by omega)) (Or.inr (by omega)) (Or.inr (by omega))
  refine j_goto 84 d_G_changeService_50 (by decide) ?_
  refine j_aload_n d_G_changeService_84 rfl ?_
  refine j_aload_n d_G_changeService_85 rfl ?_
  refine j_callV (vs := [_]) d_G_changeService_86 ((on4.2 (nd n) hN.1).tO on4.1 hN) (by decide) rfl w354 w355 w4 w357 w356 y_V_add (by decide) (by decide) (k_add M4 n (V.1 - 1) (mSz M2) (on4.chg (n := n) h (by omega)).2.2.1 hn ((on4.2 (nd n) hN.1).I hv.1) (by omega) gs.1) rfl (Nat.le_of_ble_eq_true rfl) (by decide) (by decide) (fun M5 r5 hq5 => ?_)
  obtain ⟨rfl, rfl⟩ := hq5
  refine j_return d_G_changeService_89 rfl ?_ (by decide) (by decide)
  obtain ⟨u1, u2⟩ := svR_add h hn hv v1 hlt on4 hR4
  have es : svStep V E = (V.1 + 1, fu V.2 V.1 (cfJ (V.2 (V.1 - 1)) (E 2))) := hstep
  rw [es]
  exact ⟨rfl, u1, u2⟩
set_option maxRecDepth 20000 in
set_option maxHeartbeats 1000000 in
theorem k_chS_2 (M : aM) (n e q m o w : Nat) (V : aSv) (E : Nat → Nat) (al : Bool) (h : cSh M) (hn : n < 3) (hv : svR M n V) (hV : svV V) (he : tO M e 6) (hk : mI M e 1 = nI (E 1 - 1)) (h2 : mI M e 2 = nI (E 2)) (hq : mR M (nd n + 2) (V.1 - 1) = some q) (hc : cfS M q m o w (V.2 (V.1 - 1))) (hal : aK m_G_isAllowed 1 0 0 M [.ref e, .ref q] (fun M1 r => M1 = M ∧ r = some (.int (bI al)))) (hlt : V.1 < 16) (hyes : al = true) (e1 : E 1 = 2) (r1 : 1 ≤ E 2) (r3 : E 2 ≤ 3) (hna : (V.2 (V.1 - 1)).1 (E 2) = true) (hnm : 1 < nM (V.2 (V.1 - 1)).1) (hstep : svStep V E = (V.1 + 1, fu V.2 V.1 (cfL (V.2 (V.1 - 1)) (E 2)))) : aK m_G_changeService 3 4 19 M [.ref e, .ref (nd n)] (fun M1 r => r = none ∧ svR M1 n (svStep V E) ∧ chg M M1 n) := by
  refine aK.of (by decide) (Nat.le_of_ble_eq_true rfl) ?_
  have hN := (cSh_V h hn).1
  have hcf := cSh_cf h hn
  have hz345 := h.1
  obtain ⟨v1, v2, v3⟩ := hV
  refine j_aload_n d_G_changeService_0 rfl ?_
  refine j_getR d_G_changeService_1 hN f_G_21_V rfl (by decide) hcf.1 ?_
  refine j_aload_n d_G_changeService_4 rfl ?_
  refine j_geti d_G_changeService_5 hN f_G_27_V rfl (by decide) ?_
  refine j_eqi hv.1 ?_
  refine j_aaldR d_G_changeService_8 hcf.2 (by decide) ts_105 (aIx.n (by omega) (by decide)) hq ?_
  refine j_astore_n d_G_changeService_9 (by decide) ?_
  refine j_aload_n d_G_changeService_10 rfl ?_
  refine j_callV (vs := []) d_G_changeService_11 hN (by decide) rfl w304 w305 w4 w307 w306 y_V_isComplete (by decide) (by decide) (k_isComplete M n (V.1 - 1) h hn hv.1 (by omega)) rfl (Nat.le_of_ble_eq_true rfl) (by decide) (by decide) (fun M1 r1 hq1 => ?_)
  obtain ⟨rfl, rfl⟩ := hq1
  refine j_if_ne (tgt := 25) d_G_changeService_14 (by decide) (fun h14 => False.elim (h14 (bP_f (by omega)))) (fun h14 => ?_)
  refine j_aload_n d_G_changeService_17 rfl ?_
  refine j_aload_n d_G_changeService_18 rfl ?_
  refine j_callV (vs := [_]) d_G_changeService_19 he (by decide) rfl w308 w310 w11 w312 ws_G_isAllowed y_G_isAllowed (by decide) (by decide) (hal) rfl (Nat.le_of_ble_eq_true rfl) (by decide) (by decide) (fun M2 r2 hq2 => ?_)
  obtain ⟨rfl, rfl⟩ := hq2
  refine j_if_ne (tgt := 26) d_G_changeService_22 (by decide) (fun h22 => ?_) (fun h22 => False.elim (absurd h22 (by rw [hyes]; decide)))
  refine j_new d_G_changeService_26 n_G_38 (by decide) (by decide) (by decide) ?_
  refine j_dup d_G_changeService_29 ?_
  refine j_aload_n d_G_changeService_30 rfl ?_
  have on1 : onew M2 (mN M2 1 0) := (onew.rf M2).mN
  have hqz : q ≠ mSz M2 := Nat.ne_of_lt hc.1.1
  have hcn : cfS (mN M2 1 0) q m o w (V.2 (V.1 - 1)) := cfS_new on1 hc
  refine j_callI (vs := [_]) d_G_changeService_31 w318 w319 w2 w320 rfl rfl y_C_init2 (by decide) (by decide) (k_C_init2 (mN M2 1 0) (mSz M2) q m o w _ (tO.new M2 1 0) hcn hqz) rfl (Nat.le_of_ble_eq_true rfl) (by decide) (by decide) (fun M3 r3 hq3 => ?_)
  obtain ⟨rfl, rfl⟩ := hq3
  have on3 : onew M2 (fC2 (mN M2 1 0) (mSz M2) m o w) := fC2_new
  have hs3 := fC2_S (tO.new M2 1 0) hcn hqz
  have se := on3.2 e he.1
  have he3 : tO (fC2 (mN M2 1 0) (mSz M2) m o w) e 6 := se.tO on3.1 he
  have hk3 : mI (fC2 (mN M2 1 0) (mSz M2) m o w) e 1 = nI (E 1 - 1) := se.I hk
  have h23 : mI (fC2 (mN M2 1 0) (mSz M2) m o w) e 2 = nI (E 2) := se.I h2
  have hcfV := v3 (V.1 - 1) (by omega)
  refine j_astore_n d_G_changeService_34 (by decide) ?_
  refine j_aload_n d_G_changeService_35 rfl ?_
  refine j_geti d_G_changeService_36 he3 f_G_9_G rfl (by decide) ?_
  refine j_eqi hk3 ?_
  refine j_if_ne (tgt := 53) d_G_changeService_39 (by decide) (fun h39 => ?_) (fun h39 => False.elim (absurd h39 (by rw [e1]; decide)))
  refine j_aload_n d_G_changeService_53 rfl ?_
  refine j_geti d_G_changeService_54 he3 f_G_9_G rfl (by decide) ?_
  refine j_eqi hk3 ?_
  refine j_iconst (v := 1) d_G_changeService_57 (by decide) ?_
  refine j_icmp_ne (tgt := 72) d_G_changeService_58 (by decide) (fun h58 => False.elim (h58 (by rw [e1]; rfl))) (fun h58 => ?_)
  refine j_aload_n d_G_changeService_61 rfl ?_
  refine j_aload_n d_G_changeService_62 rfl ?_
  refine j_geti d_G_changeService_63 he3 f_G_15_G rfl (by decide) ?_
  refine j_eqi h23 ?_
  refine j_callV (vs := [_]) d_G_changeService_66 hs3.1 (by decide) rfl w349 w350 w2 w352 w351 y_C_leave (by decide) (by decide) (k_leave (fC2 (mN M2 1 0) (mSz M2) m o w) (mSz M2) _ _ _ (V.2 (V.1 - 1)) hs3 (E 2) r1 r3 hcfV hna hnm) rfl (Nat.le_of_ble_eq_true rfl) (by decide) (by decide) (fun M4 r4 hq4 => ?_)
  obtain ⟨rfl, gs, gf⟩ := hq4
  have hz1 : mSz (mN M2 1 0) = mSz M2 + 1 := rfl
  have on4 : onew M2 M4 := on3.fr3 gf (by omega) (by omega) (by omega)
  have hR4 : cfR M4 (mSz M2) (cfL (V.2 (V.1 - 1)) (E 2)) := gs.r (Or.inr hz345) (Or.inr (by omega)) (Or.inr (by omega)) (Or.inr (by omega))
  refine j_goto 84 d_G_changeService_69 (by decide) ?_
  refine j_aload_n d_G_changeService_84 rfl ?_
  refine j_aload_n d_G_changeService_85 rfl ?_
  refine j_callV (vs := [_]) d_G_changeService_86 ((on4.2 (nd n) hN.1).tO on4.1 hN) (by decide) rfl w354 w355 w4 w357 w356 y_V_add (by decide) (by decide) (k_add M4 n (V.1 - 1) (mSz M2) (on4.chg (n := n) h (by omega)).2.2.1 hn ((on4.2 (nd n) hN.1).I hv.1) (by omega) gs.1) rfl (Nat.le_of_ble_eq_true rfl) (by decide) (by decide) (fun M5 r5 hq5 => ?_)
  obtain ⟨rfl, rfl⟩ := hq5
  refine j_return d_G_changeService_89 rfl ?_ (by decide) (by decide)
  obtain ⟨u1, u2⟩ := svR_add h hn hv v1 hlt on4 hR4
  have es : svStep V E = (V.1 + 1, fu V.2 V.1 (cfL (V.2 (V.1 - 1)) (E 2))) := hstep
  rw [es]
  exact ⟨rfl, u1, u2⟩
set_option maxRecDepth 20000 in
set_option maxHeartbeats 1000000 in
theorem k_chS_3 (M : aM) (n e q m o w : Nat) (V : aSv) (E : Nat → Nat) (al : Bool) (h : cSh M) (hn : n < 3) (hv : svR M n V) (hV : svV V) (he : tO M e 6) (hk : mI M e 1 = nI (E 1 - 1)) (h2 : mI M e 2 = nI (E 2)) (hq : mR M (nd n + 2) (V.1 - 1) = some q) (hc : cfS M q m o w (V.2 (V.1 - 1))) (hal : aK m_G_isAllowed 1 0 0 M [.ref e, .ref q] (fun M1 r => M1 = M ∧ r = some (.int (bI al)))) (hlt : V.1 < 16) (hyes : al = true) (h3 : mI M e 3 = nI (E 3)) (e1 : E 1 = 3) (r1 : E 2 < 8) (r2 : 1 ≤ E 3) (r3 : E 3 ≤ 3) (hstep : svStep V E = (V.1 + 1, fu V.2 V.1 (cfM (V.2 (V.1 - 1)) (E 2) (E 3)))) : aK m_G_changeService 3 4 19 M [.ref e, .ref (nd n)] (fun M1 r => r = none ∧ svR M1 n (svStep V E) ∧ chg M M1 n) := by
  refine aK.of (by decide) (Nat.le_of_ble_eq_true rfl) ?_
  have hN := (cSh_V h hn).1
  have hcf := cSh_cf h hn
  have hz345 := h.1
  obtain ⟨v1, v2, v3⟩ := hV
  refine j_aload_n d_G_changeService_0 rfl ?_
  refine j_getR d_G_changeService_1 hN f_G_21_V rfl (by decide) hcf.1 ?_
  refine j_aload_n d_G_changeService_4 rfl ?_
  refine j_geti d_G_changeService_5 hN f_G_27_V rfl (by decide) ?_
  refine j_eqi hv.1 ?_
  refine j_aaldR d_G_changeService_8 hcf.2 (by decide) ts_105 (aIx.n (by omega) (by decide)) hq ?_
  refine j_astore_n d_G_changeService_9 (by decide) ?_
  refine j_aload_n d_G_changeService_10 rfl ?_
  refine j_callV (vs := []) d_G_changeService_11 hN (by decide) rfl w304 w305 w4 w307 w306 y_V_isComplete (by decide) (by decide) (k_isComplete M n (V.1 - 1) h hn hv.1 (by omega)) rfl (Nat.le_of_ble_eq_true rfl) (by decide) (by decide) (fun M1 r1 hq1 => ?_)
  obtain ⟨rfl, rfl⟩ := hq1
  refine j_if_ne (tgt := 25) d_G_changeService_14 (by decide) (fun h14 => False.elim (h14 (bP_f (by omega)))) (fun h14 => ?_)
  refine j_aload_n d_G_changeService_17 rfl ?_
  refine j_aload_n d_G_changeService_18 rfl ?_
  refine j_callV (vs := [_]) d_G_changeService_19 he (by decide) rfl w308 w310 w11 w312 ws_G_isAllowed y_G_isAllowed (by decide) (by decide) (hal) rfl (Nat.le_of_ble_eq_true rfl) (by decide) (by decide) (fun M2 r2 hq2 => ?_)
  obtain ⟨rfl, rfl⟩ := hq2
  refine j_if_ne (tgt := 26) d_G_changeService_22 (by decide) (fun h22 => ?_) (fun h22 => False.elim (absurd h22 (by rw [hyes]; decide)))
  refine j_new d_G_changeService_26 n_G_38 (by decide) (by decide) (by decide) ?_
  refine j_dup d_G_changeService_29 ?_
  refine j_aload_n d_G_changeService_30 rfl ?_
  have on1 : onew M2 (mN M2 1 0) := (onew.rf M2).mN
  have hqz : q ≠ mSz M2 := Nat.ne_of_lt hc.1.1
  have hcn : cfS (mN M2 1 0) q m o w (V.2 (V.1 - 1)) := cfS_new on1 hc
  refine j_callI (vs := [_]) d_G_changeService_31 w318 w319 w2 w320 rfl rfl y_C_init2 (by decide) (by decide) (k_C_init2 (mN M2 1 0) (mSz M2) q m o w _ (tO.new M2 1 0) hcn hqz) rfl (Nat.le_of_ble_eq_true rfl) (by decide) (by decide) (fun M3 r3 hq3 => ?_)
  obtain ⟨rfl, rfl⟩ := hq3
  have on3 : onew M2 (fC2 (mN M2 1 0) (mSz M2) m o w) := fC2_new
  have hs3 := fC2_S (tO.new M2 1 0) hcn hqz
  have se := on3.2 e he.1
  have he3 : tO (fC2 (mN M2 1 0) (mSz M2) m o w) e 6 := se.tO on3.1 he
  have hk3 : mI (fC2 (mN M2 1 0) (mSz M2) m o w) e 1 = nI (E 1 - 1) := se.I hk
  have h23 : mI (fC2 (mN M2 1 0) (mSz M2) m o w) e 2 = nI (E 2) := se.I h2
  have hcfV := v3 (V.1 - 1) (by omega)
  refine j_astore_n d_G_changeService_34 (by decide) ?_
  refine j_aload_n d_G_changeService_35 rfl ?_
  refine j_geti d_G_changeService_36 he3 f_G_9_G rfl (by decide) ?_
  refine j_eqi hk3 ?_
  refine j_if_ne (tgt := 53) d_G_changeService_39 (by decide) (fun h39 => ?_) (fun h39 => False.elim (absurd h39 (by rw [e1]; decide)))
  refine j_aload_n d_G_changeService_53 rfl ?_
  refine j_geti d_G_changeService_54 he3 f_G_9_G rfl (by decide) ?_
  refine j_eqi hk3 ?_
  refine j_iconst (v := 1) d_G_changeService_57 (by decide) ?_
  refine j_icmp_ne (tgt := 72) d_G_changeService_58 (by decide) (fun h58 => ?_) (fun h58 => False.elim (absurd h58 (by rw [e1]; decide)))
  refine j_aload_n d_G_changeService_72 rfl ?_
  refine j_aload_n d_G_changeService_73 rfl ?_
  refine j_geti d_G_changeService_74 he3 f_G_15_G rfl (by decide) ?_
  refine j_eqi h23 ?_
  refine j_aload_n d_G_changeService_77 rfl ?_
  refine j_geti d_G_changeService_78 he3 f_G_18_G rfl (by decide) ?_
  refine j_eqi (show mI (fC2 (mN M2 1 0) (mSz M2) m o w) e 3 = nI (E 3) from se.I h3) ?_
  refine j_callV (vs := [_, _]) d_G_changeService_81 hs3.1 (by decide) rfl w353 w330 w2 w332 w331 y_C_give (by decide) (by decide) (k_give (fC2 (mN M2 1 0) (mSz M2) m o w) (mSz M2) _ _ _ (V.2 (V.1 - 1)) hs3 (E 2) (E 3) r1 (by omega) (hcfV.lt r1)) rfl (Nat.le_of_ble_eq_true rfl) (by decide) (by decide) (fun M4 r4 hq4 => ?_)
  obtain ⟨rfl, gs, gf⟩ := hq4
  have hz1 : mSz (mN M2 1 0) = mSz M2 + 1 := rfl
  have on4 : onew M2 M4 := on3.fr3 gf (by omega) (by omega) (by omega)
  have hR4 : cfR M4 (mSz M2) (cfM (V.2 (V.1 - 1)) (E 2) (E 3)) := gs.r (Or.inr hz345) (Or.inr (by omega)) (Or.inr (by omega)) (Or.inr (by omega))
  refine j_aload_n d_G_changeService_84 rfl ?_
  refine j_aload_n d_G_changeService_85 rfl ?_
  refine j_callV (vs := [_]) d_G_changeService_86 ((on4.2 (nd n) hN.1).tO on4.1 hN) (by decide) rfl w354 w355 w4 w357 w356 y_V_add (by decide) (by decide) (k_add M4 n (V.1 - 1) (mSz M2) (on4.chg (n := n) h (by omega)).2.2.1 hn ((on4.2 (nd n) hN.1).I hv.1) (by omega) gs.1) rfl (Nat.le_of_ble_eq_true rfl) (by decide) (by decide) (fun M5 r5 hq5 => ?_)
  obtain ⟨rfl, rfl⟩ := hq5
  refine j_return d_G_changeService_89 rfl ?_ (by decide) (by decide)
  obtain ⟨u1, u2⟩ := svR_add h hn hv v1 hlt on4 hR4
  have es : svStep V E = (V.1 + 1, fu V.2 V.1 (cfM (V.2 (V.1 - 1)) (E 2) (E 3))) := hstep
  rw [es]
  exact ⟨rfl, u1, u2⟩
