theorem sInv.sv {S : aS} {t n : Nat} (h : sInv S t) (hn : n < 12) : svV (sSv S n) := svV_svc _ (fun k hk => (h.1 n hn).2.2.2 k (by have := (h.1 n hn).2.1; omega))
theorem sInv.gp {S : aS} {t n : Nat} (h : sInv S t) (h3 : 3 ≤ n) (hn : n < 12) : gpV (n / 3) (sGp S n) := gpV_grp (by omega) _ (fun k hk => (h.1 n hn).2.2.2 k (by have := (h.1 n hn).2.1; omega))
theorem uT_cases {M : aM} {S : aS} (h : cR M S) (x : Int32) : (aK m_S_upStore 1 0 0 M [.ref 0, .int x] (fun M1 r => M1 = M ∧ r = some .null) ∧ ∀ n, dG x = some n → sUp S n = false) ∨ ∃ n, 3 ≤ n ∧ n < 12 ∧ x = nI n ∧ dG x = some n ∧ sUp S n = true ∧ aK m_S_upStore 1 0 0 M [.ref 0, .int x] (fun M1 r => M1 = M ∧ r = some (.ref (nd n))) := by
  rcases dG_cases x with ⟨e, hx⟩ | ⟨n, h3, hn, rfl, e⟩
  · exact Or.inl ⟨k_upT_2 M x h.1 hx, fun n q => by rw [e] at q; cases q⟩
  · have hu0 := (h.2 n hn).1
    cases hu : sUp S n
    · rw [hu] at hu0
      exact Or.inl ⟨k_upT_1 M n h.1 h3 hn (by rw [hu0]; rfl), fun m q => by rw [e] at q; cases q; exact hu⟩
    · rw [hu] at hu0
      exact Or.inr ⟨n, h3, hn, rfl, e, hu, k_upT M n h.1 h3 hn (by rw [hu0]; decide)⟩
theorem uV_cases {M : aM} {S : aS} (h : cR M S) (x : Int32) : (aK m_S_upService 1 0 0 M [.ref 0, .int x] (fun M1 r => M1 = M ∧ r = some .null) ∧ ∀ n, dN x 3 = some n → sUp S n = false) ∨ ∃ n, n < 3 ∧ x = nI n ∧ dN x 3 = some n ∧ sUp S n = true ∧ aK m_S_upService 1 0 0 M [.ref 0, .int x] (fun M1 r => M1 = M ∧ r = some (.ref (nd n))) := by
  rcases dN_cases x (N := 3) (by decide) with ⟨e, hx⟩ | ⟨n, hn, rfl, e⟩
  · exact Or.inl ⟨k_upV_2 M x h.1 hx, fun n q => by rw [e] at q; cases q⟩
  · have hu0 := (h.2 n (by omega)).1
    cases hu : sUp S n
    · rw [hu] at hu0
      exact Or.inl ⟨k_upV_1 M n h.1 hn (by rw [hu0]; rfl), fun m q => by rw [e] at q; cases q; exact hu⟩
    · rw [hu] at hu0
      exact Or.inr ⟨n, hn, rfl, e, hu, k_upV M n h.1 hn (by rw [hu0]; decide)⟩
def eCf (t c : Nat) (own : Nat → Nat) : Nat → Nat := fun i => if i < 7 then eM [t, 4, c] i else if i < 15 then own (i - 7) else 0
def eIn (t s c : Nat) (v : Nat → Nat) : Nat → Nat := fun i => if i < 7 then eM [t, 6, s, c] i else if i < 15 then v (i - 7) else 0
def eDl (t s c : Nat) : Nat → Nat := eM [t, 7, s, c]
theorem eCf_o (t c : Nat) (own : Nat → Nat) {s : Nat} (hs : s < 8) : eCf t c own (7 + s) = own s := by
  unfold eCf
  rw [if_neg (by omega), if_pos (by omega), Nat.add_sub_cancel_left]
theorem eIn_o (t s c : Nat) (v : Nat → Nat) {i : Nat} (hi : i < 8) : eIn t s c v (7 + i) = v i := by
  unfold eIn
  rw [if_neg (by omega), if_pos (by omega), Nat.add_sub_cancel_left]
noncomputable def oPoll (S : aS) (x y : Int32) : aS × Int32 := by
  classical
  exact match dG x, dN y 3 with
  | some n, some m => if sUp S n = true ∧ sUp S m = true then (if sLd S n = true then (if gSet (sGp S n) ∧ (sGp S n).1 + 1 < (sSv S m).1 then oWr S n (eCf (sT S n) ((sGp S n).1 + 1) ((sSv S m).2 ((sGp S n).1 + 1)).2) else (S, -4)) else (S, -2)) else (S, -1)
  | _, _ => (S, -1)
abbrev plOk (S : aS) (n s m : Nat) : Prop := (sGp S n).2.2.1 s = 2 ∧ (sGp S m).2.2.1 s = 3 ∧ (sGp S n).1 = (sGp S m).1
noncomputable def oPull (S : aS) (x z y : Int32) : aS × Int32 := match dG x, dG y, dN z 8 with
  | some n, some m, some s => if sUp S n = true ∧ sUp S m = true then (if sLd S n = true then (if plOk S n s m then oWr S n (eIn (sT S n) s (sGp S n).1 ((sGp S m).2.2.2 s)) else (S, -4)) else (S, -2)) else (S, -1)
  | _, _, _ => (S, -1)
abbrev cnOk (S : aS) (n s m : Nat) : Prop := (sGp S n).2.2.1 s = 3 ∧ (sGp S n).2.1 s = m / 3 ∧ ((sGp S n).1 < (sGp S m).1 ∨ (sGp S m).1 = (sGp S n).1 ∧ (sGp S m).2.2.1 s = 1)
noncomputable def oConfirm (S : aS) (x z y : Int32) : aS × Int32 := match dG x, dG y, dN z 8 with
  | some n, some m, some s => if sUp S n = true ∧ sUp S m = true then (if sLd S n = true then (if cnOk S n s m then oWr S n (eDl (sT S n) s (sGp S n).1) else (S, -4)) else (S, -2)) else (S, -1)
  | _, _, _ => (S, -1)
theorem k_wr_T {M M' : aM} {S : aS} {t n e ei : Nat} {E : Nat → Nat} (h : cR M S) (hi : sInv S t) (h3 : 3 ≤ n) (hn : n < 12) (hnew : onew M M') (he : eR M' e E) (te : tO M' e ei) (h5 : 5 ≤ ei) (h6 : ei ≤ 10) : aK m_N_write 0 0 0 M' [.ref (nd n), .ref e] (cQ M (oWr S n E)) := by
  have h' := hnew.cR h
  have i1 := hi.1 n hn
  exact (k_write_T M' (nd n) (sLn S n) e ei (cSh_T h'.1 h3 hn) (h'.2 n hn).2.2.2.2.1.1 i1.1 te h5 h6).weaken (cQ_write h hn i1.1 i1.2.1 hnew he)
theorem cQ_int {M : aM} {o : aS × Int32} {M1 : aM} {r : Option Value} (h : cQ M o M1 r) : ∃ z : Int32, r = some (.int z) := ⟨o.2, h.1⟩
theorem bP1 {p : Prop} [Decidable p] (h : ¬ bP p = 0) : p := Decidable.byContradiction (fun q => h (bP_f q))

theorem onew.tr {M M1 M2 : aM} (h : onew M M1) (g : onew M1 M2) : onew M M2 := ⟨Nat.le_trans h.1 g.1, fun a ha => (h.2 a ha).tr (g.2 a (Nat.lt_of_lt_of_le ha h.1))⟩
theorem onew_fH (M : aM) (hz : 0 < mSz M) : onew M (fH (mN M 4 0) (mSz M)) := ⟨by show mSz M ≤ mSz M + 1 + 3; omega, fun a ha => sm_fH (sm.mN (sm.rf M a) (Nat.ne_of_lt ha)) (Nat.ne_of_lt ha) (Nat.lt_succ_of_lt ha)⟩
theorem shT_new (M : aM) : shT (fH (mN M 4 0) (mSz M)) (mSz M) := by
  refine ⟨tO_fHa (tO.new M 4 0), ?_, ?_, ?_, ?_, ?_, ?_⟩
  · unfold fH
    rw [mm_R_sR, if_neg (by omega), mm_R_mN, if_neg (by show mSz M ≠ mSz M + 1 + 1 + 1; omega), mm_R_sR, if_neg (by omega), mm_R_mN, if_neg (by show mSz M ≠ mSz M + 1 + 1; omega), mm_R_sR, if_pos ⟨rfl, rfl⟩]; rfl
  · unfold fH
    rw [mm_R_sR, if_neg (by omega), mm_R_mN, if_neg (by show mSz M ≠ mSz M + 1 + 1 + 1; omega), mm_R_sR, if_pos ⟨rfl, rfl⟩]; rfl
  · unfold fH
    rw [mm_R_sR, if_pos ⟨rfl, rfl⟩]; rfl
  · unfold fH
    simp only [mm_tA_sR]
    refine tA.up ?_ _ _
    simp only [mm_tA_sR]
    refine tA.up ?_ _ _
    simp only [mm_tA_sR]
    exact tA.new (sI (mN M 4 0) (mSz M) 0 0) 100 2
  · unfold fH
    simp only [mm_tA_sR]
    refine tA.up ?_ _ _
    simp only [mm_tA_sR]
    exact tA.new (sR (mN (sI (mN M 4 0) (mSz M) 0 0) 100 2) (mSz M) 1 (some (mSz (mN M 4 0)))) 100 3
  · unfold fH
    simp only [mm_tA_sR]
    exact tA.new (sR (mN (sR (mN (sI (mN M 4 0) (mSz M) 0 0) 100 2) (mSz M) 1 (some (mSz (mN M 4 0)))) 100 3) (mSz M) 2 (some (mSz (mN M 4 0) + 1))) 100 3
def fI0 (M : aM) (o : Nat) (t k c : Int32) : aM := sI (sI (sR (fH (mN (sI M o 0 t) 4 0) (mSz M)) o 3 (some (mSz M))) o 1 k) o 2 c
theorem fI0_tO {M : aM} {o b ci : Nat} {t k c : Int32} (h : tO M b ci) : tO (fI0 M o t k c) b ci := by
  unfold fI0
  simp only [mm_tO_sI, mm_tO_sR]
  exact tO_fH (tO.up (M := sI M o 0 t) h 4 0) _
theorem fI0_new {M M1 : aM} {o : Nat} {t k c : Int32} (h : onew M M1) (ho : mSz M ≤ o) (h1 : mSz M ≤ mSz M1) (hz : 0 < mSz M) : onew M (fI0 M1 o t k c) := by
  unfold fI0
  exact (((h.sI ho).tr (onew_fH (sI M1 o 0 t) (by show 0 < mSz M1; omega))).sR ho |>.sI ho).sI ho
theorem shT_sI {M : aM} {h o k : Nat} {x : Int32} (t : shT M h) : shT (sI M o k x) h := t
theorem shT_sR {M : aM} {h o k : Nat} {x : Option Nat} (t : shT M h) (hn : h ≠ o) : shT (sR M o k x) h :=
  ⟨t.1, by rw [mm_R_sR, if_neg (fun q => hn q.1)]; exact t.2.1, by rw [mm_R_sR, if_neg (fun q => hn q.1)]; exact t.2.2.1, by rw [mm_R_sR, if_neg (fun q => hn q.1)]; exact t.2.2.2.1, t.2.2.2.2⟩
theorem fI0_T {M : aM} {o : Nat} {t k c : Int32} (ho : o < mSz M) : shT (fI0 M o t k c) (mSz M) := by
  unfold fI0
  exact shT_sI (shT_sI (shT_sR (shT_new (sI M o 0 t)) (by omega)))
theorem onew_shT {M M1 : aM} {h : Nat} (n : onew M M1) (t : shT M h) : shT M1 h := by
  obtain ⟨t1, t2, t3, t4, t5, t6, t7⟩ := t
  have s0 := n.2 h t1.1
  have s1 := n.2 (h + 1) t5.1
  have s2 := n.2 (h + 2) t6.1
  have s3 := n.2 (h + 3) t7.1
  exact ⟨s0.tO n.1 t1, s0.R t2, s0.R t3, s0.R t4, s1.tA n.1 t5, s2.tA n.1 t6, s3.tA n.1 t7⟩
theorem onew_shV {M M1 : aM} {h : Nat} {v : Nat → Nat} (n : onew M M1) (t : shT M h) (g : shV M h v) : shV M1 h v := by
  obtain ⟨t1, t2, t3, t4, t5, t6, t7⟩ := t
  have s1 := n.2 (h + 1) t5.1
  have s2 := n.2 (h + 2) t6.1
  have s3 := n.2 (h + 3) t7.1
  exact ⟨fun i hi => s1.I (g.1 i hi), fun i hi => s2.I (g.2.1 i hi), fun i hi => s3.I (g.2.2 i hi)⟩

set_option maxRecDepth 20000 in
set_option maxHeartbeats 1000000 in
theorem k_I_init (M : aM) (o h9 : Nat) (t k c : Int32) (ho : tO M o 9) (h9t : shT (fI0 M o t k c) h9) : aK m_I_init 2 4 12 M [.ref o, .int t, .int k, .int c, .ref h9] (fun M1 r => r = none ∧ M1 = cpy (fI0 M o t k c) h9 (mSz M)) := by
  refine aK.of (by decide) (Nat.le_of_ble_eq_true rfl) ?_
  refine j_aload_n d_I_init_0 rfl ?_
  refine j_iload_n d_I_init_1 rfl ?_
  refine j_callI (vs := [_]) d_I_init_2 w536 w236 w9 w237 rfl rfl y_E_init (by decide) (by decide) (k_E_init_I M o t ho) rfl (Nat.le_of_ble_eq_true rfl) (by decide) (by decide) (fun M1 r1 hq1 => ?_)
  obtain ⟨rfl, rfl⟩ := hq1
  refine j_aload_n d_I_init_5 rfl ?_
  refine j_new d_I_init_6 n_I_9 (by decide) (by decide) (by decide) ?_
  refine j_dup d_I_init_9 ?_
  refine j_callIN (vs := []) d_I_init_10 nw13 w121 w6 w122 rfl rfl y_H_init (by decide) (by decide) (k_H_init _ (mSz M) (tO.new (sI M o 0 t) 4 0)) rfl (Nat.le_of_ble_eq_true rfl) (by decide) (by decide) (fun M2 r2 hq2 => ?_)
  obtain ⟨rfl, rfl⟩ := hq2
  have ho2 : tO (fH (mN (sI M o 0 t) 4 0) (mSz M)) o 9 := tO_fH (tO.up (M := sI M o 0 t) ho 4 0) _
  refine j_putRF d_I_init_13 ho2 p_I_14_I rfl (by decide) (fun z => by cases z <;> rfl) (fun z => by cases z <;> rfl) rfl ?_
  refine j_aload_n d_I_init_16 rfl ?_
  refine j_iload_n d_I_init_17 rfl ?_
  refine j_putiF d_I_init_18 ho2 p_I_20_I rfl (by decide) rfl rfl rfl ?_
  refine j_aload_n d_I_init_21 rfl ?_
  refine j_iload_n d_I_init_22 rfl ?_
  refine j_putiF d_I_init_23 ho2 p_I_24_I rfl (by decide) rfl rfl rfl ?_
  refine j_aload_n d_I_init_26 rfl ?_
  refine j_getR d_I_init_27 ho2 f_I_14_I rfl (by decide) (by rw [mm_R_sI, mm_R_sI, mm_R_sR, if_pos ⟨rfl, rfl⟩]) ?_
  refine j_aload d_I_init_30 rfl ?_
  refine j_callV (vs := [_]) d_I_init_32 (fI0_T (t := t) (k := k) (c := c) ho.1).1 (by decide) rfl w396 w397 w6 w399 w398 y_H_copyContents (by decide) (by decide) (k_copyContents (fI0 M o t k c) (mSz M) h9 (fI0_T ho.1) h9t) rfl (Nat.le_of_ble_eq_true rfl) (by decide) (by decide) (fun M3 r3 hq3 => ?_)
  obtain ⟨rfl, rfl⟩ := hq3
  refine j_return d_I_init_35 rfl ?_ (by decide) (by decide)
  exact ⟨rfl, rfl⟩
set_option maxRecDepth 20000 in
set_option maxHeartbeats 1000000 in
theorem k_hasReceived (M : aM) (m : Nat) (G : aGp) (h : cSh M) (h3 : 3 ≤ m) (hm : m < 12) (hg : gpR M m G) (hV : gpV (m / 3) G) (s c : Nat) (hs : s < 8) (hc : c < 16) : aK m_T_hasReceived 0 0 0 M [.ref (nd m), .int (nI s), .int (nI c)] (fun M1 r => M1 = M ∧ r = some (.int (bP (c < G.1 ∨ G.1 = c ∧ G.2.2.1 s = 1)))) := by
  refine aK.of (by decide) (Nat.le_of_ble_eq_true rfl) ?_
  have hN := (cSh_T h h3 hm).1
  obtain ⟨st0, st1, st2, st3⟩ := cSh_st h h3 hm
  obtain ⟨d1, d2⟩ := st3 s hs
  obtain ⟨b1, b2⟩ := hg.2.2 s hs
  have vc := hV.c hs
  have n7 := hg.1
  have v16 := hV.1
  refine j_aload_n d_T_hasReceived_0 rfl ?_
  refine j_geti d_T_hasReceived_1 hN f_T_32_T rfl (by decide) ?_
  refine j_eqi n7 ?_
  refine j_iload_n d_T_hasReceived_4 rfl ?_
  refine j_icmp_gt (tgt := 29) d_T_hasReceived_5 (by decide) (fun h5 => ?_) (fun h5 => ?_)
  · have hb : bP (c < G.1 ∨ G.1 = c ∧ G.2.2.1 s = 1) = 1 := bP_t (Or.inl (i_lt (by omega) (by omega) h5))
    refine j_iconst (v := 1) d_T_hasReceived_29 (by decide) ?_
    refine j_goto 34 d_T_hasReceived_30 (by decide) ?_
    refine j_ireturn d_T_hasReceived_34 rfl rfl ?_ (by decide) (by decide)
    exact ⟨rfl, by rw [hb]⟩
  · have k5 := i_nlt (by omega) (by omega) h5
    refine j_aload_n d_T_hasReceived_8 rfl ?_
    refine j_geti d_T_hasReceived_9 hN f_T_32_T rfl (by decide) ?_
    refine j_eqi n7 ?_
    refine j_iload_n d_T_hasReceived_12 rfl ?_
    refine j_icmp_ne (tgt := 33) d_T_hasReceived_13 (by decide) (fun h13 => ?_) (fun h13 => ?_)
    · have k13 := i_ne (by omega) (by omega) h13
      have hb : bP (c < G.1 ∨ G.1 = c ∧ G.2.2.1 s = 1) = 0 := bP_f (by omega)
      refine j_iconst (v := 0) d_T_hasReceived_33 (by decide) ?_
      refine j_ireturn d_T_hasReceived_34 rfl rfl ?_ (by decide) (by decide)
      exact ⟨rfl, by rw [hb]⟩
    · have k13 := i_eq (by omega) (by omega) h13
      refine j_aload_n d_T_hasReceived_16 rfl ?_
      refine j_getR d_T_hasReceived_17 hN f_T_11_T rfl (by decide) st1 ?_
      refine j_iload_n d_T_hasReceived_20 rfl ?_
      refine j_aaldR d_T_hasReceived_21 st2 (by decide) ts_107 (aIx.n hs (by decide)) d1 ?_
      refine j_geti d_T_hasReceived_22 d2.1 f_T_35_H rfl (by decide) ?_
      refine j_eqi b1 ?_
      refine j_iconst (v := 1) d_T_hasReceived_25 (by decide) ?_
      refine j_icmp_ne (tgt := 33) d_T_hasReceived_26 (by decide) (fun h26 => ?_) (fun h26 => ?_)
      · have k26 := i_ne (b := 1) (by omega) (by decide) h26
        have hb : bP (c < G.1 ∨ G.1 = c ∧ G.2.2.1 s = 1) = 0 := bP_f (by omega)
        refine j_iconst (v := 0) d_T_hasReceived_33 (by decide) ?_
        refine j_ireturn d_T_hasReceived_34 rfl rfl ?_ (by decide) (by decide)
        exact ⟨rfl, by rw [hb]⟩
      · have k26 := i_eq (b := 1) (by omega) (by decide) h26
        have hb : bP (c < G.1 ∨ G.1 = c ∧ G.2.2.1 s = 1) = 1 := bP_t (Or.inr ⟨k13, k26⟩)
        refine j_iconst (v := 1) d_T_hasReceived_29 (by decide) ?_
        refine j_goto 34 d_T_hasReceived_30 (by decide) ?_
        refine j_ireturn d_T_hasReceived_34 rfl rfl ?_ (by decide) (by decide)
        exact ⟨rfl, by rw [hb]⟩
set_option maxRecDepth 20000 in
set_option maxHeartbeats 1000000 in
theorem k_poll_1 (M : aM) (x y : Int32) (h : cSh M) (q : Nat) (hx : aK m_S_upStore 1 0 0 M [.ref 0, .int x] (fun M1 r => M1 = M ∧ r = some .null)) (hy : aK m_S_upService 1 0 0 M [.ref 0, .int y] (fun M1 r => M1 = M ∧ r = some (.ref q))) : aK m_S_poll 3 1 3 M [.ref 0, .int x, .int y] (fun M1 r => M1 = M ∧ r = some (.int (-1))) := by
  refine aK.of (by decide) (Nat.le_of_ble_eq_true rfl) ?_
  have h0 := h.2.1
  have hr0 := h.2.2.1
  have hr1 := h.2.2.2.1
  have hr2 := h.2.2.2.2.1
  have hA1 := h.2.2.2.2.2.1
  have hA2 := h.2.2.2.2.2.2.1
  have hA3 := h.2.2.2.2.2.2.2.1
  refine j_aload_n d_S_poll_0 rfl ?_
  refine j_iload_n d_S_poll_1 rfl ?_
  refine j_callV (vs := [_]) d_S_poll_2 (by assumption) (by decide) rfl w463 w465 w1 w466 ws_S_upStore y_S_upStore (by decide) (by decide) (hx) rfl (Nat.le_of_ble_eq_true rfl) (by decide) (by decide) (fun M1 r1 hq1 => ?_)
  obtain ⟨rfl, rfl⟩ := hq1
  refine j_astore_nN d_S_poll_5 (by decide) ?_
  refine j_aload_n d_S_poll_6 rfl ?_
  refine j_iload_n d_S_poll_7 rfl ?_
  refine j_callV (vs := [_]) d_S_poll_8 (by assumption) (by decide) rfl w422 w424 w1 w425 ws_S_upService y_S_upService (by decide) (by decide) (hy) rfl (Nat.le_of_ble_eq_true rfl) (by decide) (by decide) (fun M2 r2 hq2 => ?_)
  obtain ⟨rfl, rfl⟩ := hq2
  refine j_astore d_S_poll_11 (by decide) ?_
  refine j_aload_nN d_S_poll_13 rfl ?_
  refine j_ifnullN 22 d_S_poll_14 (by decide) ?_
  refine j_iconst (v := -1) d_S_poll_22 (by decide) ?_
  refine j_ireturn d_S_poll_23 rfl rfl ?_ (by decide) (by decide)
  exact ⟨rfl, rfl⟩
set_option maxRecDepth 20000 in
set_option maxHeartbeats 1000000 in
theorem k_poll_2 (M : aM) (x y : Int32) (h : cSh M) (hx : aK m_S_upStore 1 0 0 M [.ref 0, .int x] (fun M1 r => M1 = M ∧ r = some .null)) (hy : aK m_S_upService 1 0 0 M [.ref 0, .int y] (fun M1 r => M1 = M ∧ r = some .null)) : aK m_S_poll 3 1 3 M [.ref 0, .int x, .int y] (fun M1 r => M1 = M ∧ r = some (.int (-1))) := by
  refine aK.of (by decide) (Nat.le_of_ble_eq_true rfl) ?_
  have h0 := h.2.1
  have hr0 := h.2.2.1
  have hr1 := h.2.2.2.1
  have hr2 := h.2.2.2.2.1
  have hA1 := h.2.2.2.2.2.1
  have hA2 := h.2.2.2.2.2.2.1
  have hA3 := h.2.2.2.2.2.2.2.1
  refine j_aload_n d_S_poll_0 rfl ?_
  refine j_iload_n d_S_poll_1 rfl ?_
  refine j_callV (vs := [_]) d_S_poll_2 (by assumption) (by decide) rfl w463 w465 w1 w466 ws_S_upStore y_S_upStore (by decide) (by decide) (hx) rfl (Nat.le_of_ble_eq_true rfl) (by decide) (by decide) (fun M1 r1 hq1 => ?_)
  obtain ⟨rfl, rfl⟩ := hq1
  refine j_astore_nN d_S_poll_5 (by decide) ?_
  refine j_aload_n d_S_poll_6 rfl ?_
  refine j_iload_n d_S_poll_7 rfl ?_
  refine j_callV (vs := [_]) d_S_poll_8 (by assumption) (by decide) rfl w422 w424 w1 w425 ws_S_upService y_S_upService (by decide) (by decide) (hy) rfl (Nat.le_of_ble_eq_true rfl) (by decide) (by decide) (fun M2 r2 hq2 => ?_)
  obtain ⟨rfl, rfl⟩ := hq2
  refine j_astoreN d_S_poll_11 (by decide) ?_
  refine j_aload_nN d_S_poll_13 rfl ?_
  refine j_ifnullN 22 d_S_poll_14 (by decide) ?_
  refine j_iconst (v := -1) d_S_poll_22 (by decide) ?_
  refine j_ireturn d_S_poll_23 rfl rfl ?_ (by decide) (by decide)
  exact ⟨rfl, rfl⟩
set_option maxRecDepth 20000 in
set_option maxHeartbeats 1000000 in
theorem k_poll_3 (M : aM) (x y : Int32) (h : cSh M) (q : Nat) (hx : aK m_S_upStore 1 0 0 M [.ref 0, .int x] (fun M1 r => M1 = M ∧ r = some (.ref q))) (hy : aK m_S_upService 1 0 0 M [.ref 0, .int y] (fun M1 r => M1 = M ∧ r = some .null)) : aK m_S_poll 3 1 3 M [.ref 0, .int x, .int y] (fun M1 r => M1 = M ∧ r = some (.int (-1))) := by
  refine aK.of (by decide) (Nat.le_of_ble_eq_true rfl) ?_
  have h0 := h.2.1
  have hr0 := h.2.2.1
  have hr1 := h.2.2.2.1
  have hr2 := h.2.2.2.2.1
  have hA1 := h.2.2.2.2.2.1
  have hA2 := h.2.2.2.2.2.2.1
  have hA3 := h.2.2.2.2.2.2.2.1
  refine j_aload_n d_S_poll_0 rfl ?_
  refine j_iload_n d_S_poll_1 rfl ?_
  refine j_callV (vs := [_]) d_S_poll_2 (by assumption) (by decide) rfl w463 w465 w1 w466 ws_S_upStore y_S_upStore (by decide) (by decide) (hx) rfl (Nat.le_of_ble_eq_true rfl) (by decide) (by decide) (fun M1 r1 hq1 => ?_)
  obtain ⟨rfl, rfl⟩ := hq1
  refine j_astore_n d_S_poll_5 (by decide) ?_
  refine j_aload_n d_S_poll_6 rfl ?_
  refine j_iload_n d_S_poll_7 rfl ?_
  refine j_callV (vs := [_]) d_S_poll_8 (by assumption) (by decide) rfl w422 w424 w1 w425 ws_S_upService y_S_upService (by decide) (by decide) (hy) rfl (Nat.le_of_ble_eq_true rfl) (by decide) (by decide) (fun M2 r2 hq2 => ?_)
  obtain ⟨rfl, rfl⟩ := hq2
  refine j_astoreN d_S_poll_11 (by decide) ?_
  refine j_aload_n d_S_poll_13 rfl ?_
  refine j_ifnull d_S_poll_14 ?_
  refine j_aloadN d_S_poll_17 rfl ?_
  refine j_ifnonnullN d_S_poll_19 ?_
  refine j_iconst (v := -1) d_S_poll_22 (by decide) ?_
  refine j_ireturn d_S_poll_23 rfl rfl ?_ (by decide) (by decide)
  exact ⟨rfl, rfl⟩
set_option maxRecDepth 20000 in
set_option maxHeartbeats 1000000 in
theorem k_poll_f (M : aM) (S : aS) (t n m : Nat) (h : cR M S) (hi : sInv S t) (h3 : 3 ≤ n) (hn : n < 12) (hm : m < 3) (hx : aK m_S_upStore 1 0 0 M [.ref 0, .int (nI n)] (fun M1 r => M1 = M ∧ r = some (.ref (nd n)))) (hy : aK m_S_upService 1 0 0 M [.ref 0, .int (nI m)] (fun M1 r => M1 = M ∧ r = some (.ref (nd m)))) (hl : sLd S n = false) : aK m_S_poll 3 1 3 M [.ref 0, .int (nI n), .int (nI m)] (fun M1 r => M1 = M ∧ r = some (.int (-2))) := by
  refine aK.of (by decide) (Nat.le_of_ble_eq_true rfl) ?_
  have h0 := h.1.2.1
  have hr0 := h.1.2.2.1
  have hr1 := h.1.2.2.2.1
  have hr2 := h.1.2.2.2.2.1
  have hA1 := h.1.2.2.2.2.2.1
  have hA2 := h.1.2.2.2.2.2.2.1
  have hA3 := h.1.2.2.2.2.2.2.2.1
  have hNT := (cSh_T h.1 h3 hn).1
  have hNV := (cSh_V h.1 hm).1
  have gv := hi.gp h3 hn
  have gr := (h.2 n hn).2.2.2.2.2.2 h3
  have vv := hi.sv (show m < 12 by omega)
  have vr := (h.2 m (by omega)).2.2.2.2.2.1 hm
  have ld1 : mI M (nd n) 1 = bI (sLd S n) := (h.2 n hn).2.1
  have tm2 : mI M (nd n) 2 = nI (sT S n) := (h.2 n hn).2.2.1
  have g16 := gv.1
  have n7 := gr.1
  have l7 := vr.1
  obtain ⟨v1, v2, v3⟩ := vv
  obtain ⟨a1, a2, a3⟩ := h.1.2.2.2.2.2.2.2.2.2.1 m hm
  refine j_aload_n d_S_poll_0 rfl ?_
  refine j_iload_n d_S_poll_1 rfl ?_
  refine j_callV (vs := [_]) d_S_poll_2 (by assumption) (by decide) rfl w463 w465 w1 w466 ws_S_upStore y_S_upStore (by decide) (by decide) (hx) rfl (Nat.le_of_ble_eq_true rfl) (by decide) (by decide) (fun M1 r1 hq1 => ?_)
  obtain ⟨rfl, rfl⟩ := hq1
  refine j_astore_n d_S_poll_5 (by decide) ?_
  refine j_aload_n d_S_poll_6 rfl ?_
  refine j_iload_n d_S_poll_7 rfl ?_
  refine j_callV (vs := [_]) d_S_poll_8 (by assumption) (by decide) rfl w422 w424 w1 w425 ws_S_upService y_S_upService (by decide) (by decide) (hy) rfl (Nat.le_of_ble_eq_true rfl) (by decide) (by decide) (fun M2 r2 hq2 => ?_)
  obtain ⟨rfl, rfl⟩ := hq2
  refine j_astore d_S_poll_11 (by decide) ?_
  refine j_aload_n d_S_poll_13 rfl ?_
  refine j_ifnull d_S_poll_14 ?_
  refine j_aload d_S_poll_17 rfl ?_
  refine j_ifnonnull 24 d_S_poll_19 (by decide) ?_
  refine j_aload_n d_S_poll_24 rfl ?_
  refine j_geti d_S_poll_25 hNT f_S_124_T rfl (by decide) ?_
  refine j_eqi ld1 ?_
  refine j_if_ne (tgt := 34) d_S_poll_28 (by decide) (fun h28 => False.elim (h28 (by rw [hl]; rfl))) (fun h28 => ?_)
  refine j_bipush (v := -2) d_S_poll_31 (by decide) ?_
  refine j_ireturn d_S_poll_33 rfl rfl ?_ (by decide) (by decide)
  exact ⟨rfl, rfl⟩
set_option maxRecDepth 20000 in
set_option maxHeartbeats 1000000 in
theorem k_poll_e (M : aM) (S : aS) (t n m : Nat) (h : cR M S) (hi : sInv S t) (h3 : 3 ≤ n) (hn : n < 12) (hm : m < 3) (hx : aK m_S_upStore 1 0 0 M [.ref 0, .int (nI n)] (fun M1 r => M1 = M ∧ r = some (.ref (nd n)))) (hy : aK m_S_upService 1 0 0 M [.ref 0, .int (nI m)] (fun M1 r => M1 = M ∧ r = some (.ref (nd m)))) (hl : sLd S n = true) (hno : ¬ (gSet (sGp S n) ∧ (sGp S n).1 + 1 < (sSv S m).1)) : aK m_S_poll 3 1 3 M [.ref 0, .int (nI n), .int (nI m)] (fun M1 r => M1 = M ∧ r = some (.int (-4))) := by
  refine aK.of (by decide) (Nat.le_of_ble_eq_true rfl) ?_
  have h0 := h.1.2.1
  have hr0 := h.1.2.2.1
  have hr1 := h.1.2.2.2.1
  have hr2 := h.1.2.2.2.2.1
  have hA1 := h.1.2.2.2.2.2.1
  have hA2 := h.1.2.2.2.2.2.2.1
  have hA3 := h.1.2.2.2.2.2.2.2.1
  have hNT := (cSh_T h.1 h3 hn).1
  have hNV := (cSh_V h.1 hm).1
  have gv := hi.gp h3 hn
  have gr := (h.2 n hn).2.2.2.2.2.2 h3
  have vv := hi.sv (show m < 12 by omega)
  have vr := (h.2 m (by omega)).2.2.2.2.2.1 hm
  have ld1 : mI M (nd n) 1 = bI (sLd S n) := (h.2 n hn).2.1
  have tm2 : mI M (nd n) 2 = nI (sT S n) := (h.2 n hn).2.2.1
  have g16 := gv.1
  have n7 := gr.1
  have l7 := vr.1
  obtain ⟨v1, v2, v3⟩ := vv
  obtain ⟨a1, a2, a3⟩ := h.1.2.2.2.2.2.2.2.2.2.1 m hm
  refine j_aload_n d_S_poll_0 rfl ?_
  refine j_iload_n d_S_poll_1 rfl ?_
  refine j_callV (vs := [_]) d_S_poll_2 (by assumption) (by decide) rfl w463 w465 w1 w466 ws_S_upStore y_S_upStore (by decide) (by decide) (hx) rfl (Nat.le_of_ble_eq_true rfl) (by decide) (by decide) (fun M1 r1 hq1 => ?_)
  obtain ⟨rfl, rfl⟩ := hq1
  refine j_astore_n d_S_poll_5 (by decide) ?_
  refine j_aload_n d_S_poll_6 rfl ?_
  refine j_iload_n d_S_poll_7 rfl ?_
  refine j_callV (vs := [_]) d_S_poll_8 (by assumption) (by decide) rfl w422 w424 w1 w425 ws_S_upService y_S_upService (by decide) (by decide) (hy) rfl (Nat.le_of_ble_eq_true rfl) (by decide) (by decide) (fun M2 r2 hq2 => ?_)
  obtain ⟨rfl, rfl⟩ := hq2
  refine j_astore d_S_poll_11 (by decide) ?_
  refine j_aload_n d_S_poll_13 rfl ?_
  refine j_ifnull d_S_poll_14 ?_
  refine j_aload d_S_poll_17 rfl ?_
  refine j_ifnonnull 24 d_S_poll_19 (by decide) ?_
  refine j_aload_n d_S_poll_24 rfl ?_
  refine j_geti d_S_poll_25 hNT f_S_124_T rfl (by decide) ?_
  refine j_eqi ld1 ?_
  refine j_if_ne (tgt := 34) d_S_poll_28 (by decide) (fun h28 => ?_) (fun h28 => False.elim (absurd h28 (by rw [hl]; decide)))
  refine j_aload_n d_S_poll_34 rfl ?_
  refine j_geti d_S_poll_35 hNT f_S_132_T rfl (by decide) ?_
  refine j_eqi n7 ?_
  refine j_iconst (v := 1) d_S_poll_38 (by decide) ?_
  refine j_iadd d_S_poll_39 ?_
  refine j_eqi (nI_succ (sGp S n).1).symm ?_
  refine j_istore d_S_poll_40 (by decide) ?_
  refine j_aload_n d_S_poll_42 rfl ?_
  refine j_callV (vs := []) d_S_poll_43 hNT (by decide) rfl w512 w379 w5 w381 w380 y_T_isSettled (by decide) (by decide) (k_isSettled M2 n (sGp S n) h.1 h3 hn gr gv) rfl (Nat.le_of_ble_eq_true rfl) (by decide) (by decide) (fun M3 r3 hq3 => ?_)
  obtain ⟨rfl, hq3⟩ := hq3
  have hset : ∃ z : Int32, r3 = some (.int z) ∧ (z ≠ 0 → gSet (sGp S n)) := hq3.elim (fun q => ⟨1, q.2, fun _ => q.1⟩) (fun q => ⟨0, q.2, fun z => absurd rfl z⟩)
  obtain ⟨z, rfl, hz⟩ := hset
  refine j_if_eq (tgt := 59) d_S_poll_46 (by decide) (fun h46 => ?_) (fun h46 => ?_)
  · refine j_bipush (v := -4) d_S_poll_59 (by decide) ?_
    refine j_ireturn d_S_poll_61 rfl rfl ?_ (by decide) (by decide)
    exact ⟨rfl, rfl⟩
  · refine j_iload d_S_poll_49 rfl ?_
    refine j_aload d_S_poll_51 rfl ?_
    refine j_geti d_S_poll_53 hNV f_S_139_V rfl (by decide) ?_
    refine j_eqi l7 ?_
    refine j_icmp_le (tgt := 62) d_S_poll_56 (by decide) (fun h56 => False.elim (hno ⟨hz h46, by have := i_le (by omega) (by omega) h56; omega⟩)) (fun h56 => ?_)
    refine j_bipush (v := -4) d_S_poll_59 (by decide) ?_
    refine j_ireturn d_S_poll_61 rfl rfl ?_ (by decide) (by decide)
    exact ⟨rfl, rfl⟩
set_option maxRecDepth 20000 in
set_option maxHeartbeats 1000000 in
theorem k_poll_w (M : aM) (S : aS) (t n m : Nat) (h : cR M S) (hi : sInv S t) (h3 : 3 ≤ n) (hn : n < 12) (hm : m < 3) (hx : aK m_S_upStore 1 0 0 M [.ref 0, .int (nI n)] (fun M1 r => M1 = M ∧ r = some (.ref (nd n)))) (hy : aK m_S_upService 1 0 0 M [.ref 0, .int (nI m)] (fun M1 r => M1 = M ∧ r = some (.ref (nd m)))) (hl : sLd S n = true) (hs : gSet (sGp S n)) (hlt : (sGp S n).1 + 1 < (sSv S m).1) : aK m_S_poll 3 1 3 M [.ref 0, .int (nI n), .int (nI m)] (cQ M (oWr S n (eCf (sT S n) ((sGp S n).1 + 1) ((sSv S m).2 ((sGp S n).1 + 1)).2))) := by
  refine aK.of (by decide) (Nat.le_of_ble_eq_true rfl) ?_
  have h0 := h.1.2.1
  have hr0 := h.1.2.2.1
  have hr1 := h.1.2.2.2.1
  have hr2 := h.1.2.2.2.2.1
  have hA1 := h.1.2.2.2.2.2.1
  have hA2 := h.1.2.2.2.2.2.2.1
  have hA3 := h.1.2.2.2.2.2.2.2.1
  have hNT := (cSh_T h.1 h3 hn).1
  have hNV := (cSh_V h.1 hm).1
  have gv := hi.gp h3 hn
  have gr := (h.2 n hn).2.2.2.2.2.2 h3
  have vv := hi.sv (show m < 12 by omega)
  have vr := (h.2 m (by omega)).2.2.2.2.2.1 hm
  have ld1 : mI M (nd n) 1 = bI (sLd S n) := (h.2 n hn).2.1
  have tm2 : mI M (nd n) 2 = nI (sT S n) := (h.2 n hn).2.2.1
  have g16 := gv.1
  have n7 := gr.1
  have l7 := vr.1
  obtain ⟨v1, v2, v3⟩ := vv
  obtain ⟨a1, a2, a3⟩ := h.1.2.2.2.2.2.2.2.2.2.1 m hm
  refine j_aload_n d_S_poll_0 rfl ?_
  refine j_iload_n d_S_poll_1 rfl ?_
  refine j_callV (vs := [_]) d_S_poll_2 (by assumption) (by decide) rfl w463 w465 w1 w466 ws_S_upStore y_S_upStore (by decide) (by decide) (hx) rfl (Nat.le_of_ble_eq_true rfl) (by decide) (by decide) (fun M1 r1 hq1 => ?_)
  obtain ⟨rfl, rfl⟩ := hq1
  refine j_astore_n d_S_poll_5 (by decide) ?_
  refine j_aload_n d_S_poll_6 rfl ?_
  refine j_iload_n d_S_poll_7 rfl ?_
  refine j_callV (vs := [_]) d_S_poll_8 (by assumption) (by decide) rfl w422 w424 w1 w425 ws_S_upService y_S_upService (by decide) (by decide) (hy) rfl (Nat.le_of_ble_eq_true rfl) (by decide) (by decide) (fun M2 r2 hq2 => ?_)
  obtain ⟨rfl, rfl⟩ := hq2
  refine j_astore d_S_poll_11 (by decide) ?_
  refine j_aload_n d_S_poll_13 rfl ?_
  refine j_ifnull d_S_poll_14 ?_
  refine j_aload d_S_poll_17 rfl ?_
  refine j_ifnonnull 24 d_S_poll_19 (by decide) ?_
  refine j_aload_n d_S_poll_24 rfl ?_
  refine j_geti d_S_poll_25 hNT f_S_124_T rfl (by decide) ?_
  refine j_eqi ld1 ?_
  refine j_if_ne (tgt := 34) d_S_poll_28 (by decide) (fun h28 => ?_) (fun h28 => False.elim (absurd h28 (by rw [hl]; decide)))
  refine j_aload_n d_S_poll_34 rfl ?_
  refine j_geti d_S_poll_35 hNT f_S_132_T rfl (by decide) ?_
  refine j_eqi n7 ?_
  refine j_iconst (v := 1) d_S_poll_38 (by decide) ?_
  refine j_iadd d_S_poll_39 ?_
  refine j_eqi (nI_succ (sGp S n).1).symm ?_
  refine j_istore d_S_poll_40 (by decide) ?_
  refine j_aload_n d_S_poll_42 rfl ?_
  refine j_callV (vs := []) d_S_poll_43 hNT (by decide) rfl w512 w379 w5 w381 w380 y_T_isSettled (by decide) (by decide) (k_isSettled M2 n (sGp S n) h.1 h3 hn gr gv) rfl (Nat.le_of_ble_eq_true rfl) (by decide) (by decide) (fun M3 r3 hq3 => ?_)
  obtain ⟨rfl, ⟨-, rfl⟩ | ⟨hs0, rfl⟩⟩ := hq3
  rotate_left
  · exact absurd hs hs0
  refine j_if_eq (tgt := 59) d_S_poll_46 (by decide) (fun h46 => False.elim (absurd h46 (by decide))) (fun h46 => ?_)
  refine j_iload d_S_poll_49 rfl ?_
  refine j_aload d_S_poll_51 rfl ?_
  refine j_geti d_S_poll_53 hNV f_S_139_V rfl (by decide) ?_
  refine j_eqi l7 ?_
  refine j_icmp_le (tgt := 62) d_S_poll_56 (by decide) (fun h56 => ?_) (fun h56 => False.elim (h56 (nI_le (by omega) (by omega))))
  refine j_aload_n d_S_poll_62 rfl ?_
  refine j_new d_S_poll_63 n_S_142 (by decide) (by decide) (by decide) ?_
  have neT := Nat.ne_of_lt hNT.1
  have neV := Nat.ne_of_lt hNV.1
  obtain ⟨q, c1, c2⟩ := vr.2 ((sGp S n).1 + 1) hlt
  refine j_dup d_S_poll_66 ?_
  refine j_aload_n d_S_poll_67 rfl ?_
  refine j_geti d_S_poll_68 (hNT.up 7 0) f_S_127_T rfl (by decide) ?_
  refine j_eqi (show _ = nI (sT S n) by rw [mm_I_mN, if_neg neT]; exact tm2) ?_
  refine j_iload d_S_poll_71 rfl ?_
  refine j_aload d_S_poll_73 rfl ?_
  refine j_getR d_S_poll_75 (hNV.up 7 0) f_S_144_V rfl (by decide) (by rw [mm_R_mN, if_neg neV]; exact a2) ?_
  refine j_iload d_S_poll_78 rfl ?_
  refine j_aaldR d_S_poll_80 (a3.up 7 0) (by decide) ts_105 (aIx.n (by omega) (by decide)) (by rw [mm_R_mN, if_neg (Nat.ne_of_lt a3.1)]; exact c1) ?_
  refine j_callI (vs := [_, _, _]) d_S_poll_81 w515 w516 w13 w517 rfl rfl y_F_init (by decide) (by decide) (k_F_init (mN M3 7 0) (mSz M3) (nI (sT S n)) (nI ((sGp S n).1 + 1)) q (tO.new M3 7 0)) rfl (Nat.le_of_ble_eq_true rfl) (by decide) (by decide) (fun M4 r4 hq4 => ?_)
  obtain ⟨rfl, rfl⟩ := hq4
  have nw : onew M3 (sR (sI (sI (mN M3 7 0) (mSz M3) 0 (nI (sT S n))) (mSz M3) 1 (nI ((sGp S n).1 + 1))) (mSz M3) 2 (some q)) := (((onew.rf M3).mN.sI (Nat.le_refl _)).sI (Nat.le_refl _)).sR (Nat.le_refl _)
  have hE : eR (sR (sI (sI (mN M3 7 0) (mSz M3) 0 (nI (sT S n))) (mSz M3) 1 (nI ((sGp S n).1 + 1))) (mSz M3) 2 (some q)) (mSz M3) (eCf (sT S n) ((sGp S n).1 + 1) ((sSv S m).2 ((sGp S n).1 + 1)).2) := by
    obtain ⟨y1, y2, y3, y4, y5, y6, y7⟩ := c2.o.st nw.stb
    refine ⟨h.1.1, ?_, Or.inr (Or.inr (Or.inl ⟨rfl, tO.new M3 7 0, ?_, q, ?_, y1, y2, y3, y4, y5, y6, fun s hs9 => ?_⟩))⟩
    · rw [mm_I_sR, mm_I_sI, if_neg (by omega), mm_I_sI, if_pos ⟨rfl, rfl⟩]; rfl
    · rw [mm_I_sR, mm_I_sI, if_pos ⟨rfl, rfl⟩]; rfl
    · rw [mm_R_sR, if_pos ⟨rfl, rfl⟩]
    · rw [y7 s hs9]; exact congrArg nI (eCf_o _ _ _ hs9).symm
  refine j_callU (owner := "ShardGroups$Node") (vs := [_]) d_S_poll_84 (hNT.up 7 0) (by decide) rfl w505 w245 w3 w249 w507 w506 (Or.inl rfl) y_N_write (by decide) (by decide) (k_wr_T h hi h3 hn nw hE (tO.new M3 7 0) (by decide) (by decide)) rfl (Nat.le_of_ble_eq_true rfl) (by decide) (by decide) (fun M5 r5 hq5 => ?_)
  obtain ⟨z, rfl⟩ := cQ_int hq5
  refine j_ireturn d_S_poll_87 rfl rfl hq5 (by decide) (by decide)
theorem c_poll (M : aM) (S : aS) (t : Nat) (x y : Int32) (h : cR M S) (hi : sInv S t) : aK m_S_poll 3 1 3 M [.ref 0, .int x, .int y] (cQ M (oPoll S x y)) := by
  classical
  have no : ∀ v : Int32, oPoll S x y = (S, v) → ∀ M1 r, (M1 = M ∧ r = some (.int v)) → cQ M (oPoll S x y) M1 r := by
    rintro v e M1 r ⟨rfl, rfl⟩
    rw [e]
    exact ⟨rfl, h, fM.rf _⟩
  have n1 : (∀ n, dG x = some n → sUp S n = false) → oPoll S x y = (S, -1) := by
    intro q
    unfold oPoll
    cases ex : dG x with
    | none => rfl
    | some a =>
      cases ey : dN y 3 with
      | none => rfl
      | some b => simp only []; rw [if_neg (fun z => by rw [q a ex] at z; exact absurd z.1 (by decide))]
  have n2 : (∀ n, dN y 3 = some n → sUp S n = false) → oPoll S x y = (S, -1) := by
    intro q
    unfold oPoll
    cases ex : dG x with
    | none => rfl
    | some a =>
      cases ey : dN y 3 with
      | none => rfl
      | some b => simp only []; rw [if_neg (fun z => by rw [q b ey] at z; exact absurd z.2 (by decide))]
  rcases uT_cases h x with ⟨kx, qx⟩ | ⟨n, h3, hn, rfl, en, un, kx⟩
  · rcases uV_cases h y with ⟨ky, qy⟩ | ⟨m, hm, rfl, em, um, ky⟩
    · exact (k_poll_2 M x y h.1 kx ky).weaken (no _ (n1 qx))
    · exact (k_poll_1 M x (nI m) h.1 (nd m) kx ky).weaken (no _ (n1 qx))
  · rcases uV_cases h y with ⟨ky, qy⟩ | ⟨m, hm, rfl, em, um, ky⟩
    · exact (k_poll_3 M (nI n) y h.1 (nd n) kx ky).weaken (no _ (n2 qy))
    · have e0 : oPoll S (nI n) (nI m) = if sLd S n = true then (if gSet (sGp S n) ∧ (sGp S n).1 + 1 < (sSv S m).1 then oWr S n (eCf (sT S n) ((sGp S n).1 + 1) ((sSv S m).2 ((sGp S n).1 + 1)).2) else (S, -4)) else (S, -2) := by
        unfold oPoll
        rw [en, em]
        simp only []
        rw [if_pos ⟨un, um⟩]
      cases hl : sLd S n
      · exact (k_poll_f M S t n m h hi h3 hn hm kx ky hl).weaken (no _ (by rw [e0, if_neg (by rw [hl]; decide)]))
      · by_cases q : gSet (sGp S n) ∧ (sGp S n).1 + 1 < (sSv S m).1
        · have e1 : oPoll S (nI n) (nI m) = oWr S n (eCf (sT S n) ((sGp S n).1 + 1) ((sSv S m).2 ((sGp S n).1 + 1)).2) := by rw [e0, if_pos hl, if_pos q]
          rw [e1]
          exact k_poll_w M S t n m h hi h3 hn hm kx ky hl q.1 q.2
        · exact (k_poll_e M S t n m h hi h3 hn hm kx ky hl q).weaken (no _ (by rw [e0, if_pos hl, if_neg q]))
set_option maxRecDepth 20000 in
set_option maxHeartbeats 1000000 in
theorem k_pull_1 (M : aM) (x z y : Int32) (h : cSh M) (q : Nat) (hx : aK m_S_upStore 1 0 0 M [.ref 0, .int x] (fun M1 r => M1 = M ∧ r = some .null)) (hy : aK m_S_upStore 1 0 0 M [.ref 0, .int y] (fun M1 r => M1 = M ∧ r = some (.ref q))) : aK m_S_pull 3 5 16 M [.ref 0, .int x, .int z, .int y] (fun M1 r => M1 = M ∧ r = some (.int (-1))) := by
  refine aK.of (by decide) (Nat.le_of_ble_eq_true rfl) ?_
  have h0 := h.2.1
  have hr0 := h.2.2.1
  have hr1 := h.2.2.2.1
  have hr2 := h.2.2.2.2.1
  have hA1 := h.2.2.2.2.2.1
  have hA2 := h.2.2.2.2.2.2.1
  have hA3 := h.2.2.2.2.2.2.2.1
  refine j_aload_n d_S_pull_0 rfl ?_
  refine j_iload_n d_S_pull_1 rfl ?_
  refine j_callV (vs := [_]) d_S_pull_2 (by assumption) (by decide) rfl w463 w465 w1 w466 ws_S_upStore y_S_upStore (by decide) (by decide) (hx) rfl (Nat.le_of_ble_eq_true rfl) (by decide) (by decide) (fun M1 r1 hq1 => ?_)
  obtain ⟨rfl, rfl⟩ := hq1
  refine j_astoreN d_S_pull_5 (by decide) ?_
  refine j_aload_n d_S_pull_7 rfl ?_
  refine j_iload_n d_S_pull_8 rfl ?_
  refine j_callV (vs := [_]) d_S_pull_9 (by assumption) (by decide) rfl w463 w465 w1 w466 ws_S_upStore y_S_upStore (by decide) (by decide) (hy) rfl (Nat.le_of_ble_eq_true rfl) (by decide) (by decide) (fun M2 r2 hq2 => ?_)
  obtain ⟨rfl, rfl⟩ := hq2
  refine j_astore d_S_pull_12 (by decide) ?_
  refine j_aloadN d_S_pull_14 rfl ?_
  refine j_ifnullN 31 d_S_pull_16 (by decide) ?_
  refine j_iconst (v := -1) d_S_pull_31 (by decide) ?_
  refine j_ireturn d_S_pull_32 rfl rfl ?_ (by decide) (by decide)
  exact ⟨rfl, rfl⟩
set_option maxRecDepth 20000 in
set_option maxHeartbeats 1000000 in
theorem k_pull_2 (M : aM) (x z y : Int32) (h : cSh M) (hx : aK m_S_upStore 1 0 0 M [.ref 0, .int x] (fun M1 r => M1 = M ∧ r = some .null)) (hy : aK m_S_upStore 1 0 0 M [.ref 0, .int y] (fun M1 r => M1 = M ∧ r = some .null)) : aK m_S_pull 3 5 16 M [.ref 0, .int x, .int z, .int y] (fun M1 r => M1 = M ∧ r = some (.int (-1))) := by
  refine aK.of (by decide) (Nat.le_of_ble_eq_true rfl) ?_
  have h0 := h.2.1
  have hr0 := h.2.2.1
  have hr1 := h.2.2.2.1
  have hr2 := h.2.2.2.2.1
  have hA1 := h.2.2.2.2.2.1
  have hA2 := h.2.2.2.2.2.2.1
  have hA3 := h.2.2.2.2.2.2.2.1
  refine j_aload_n d_S_pull_0 rfl ?_
  refine j_iload_n d_S_pull_1 rfl ?_
  refine j_callV (vs := [_]) d_S_pull_2 (by assumption) (by decide) rfl w463 w465 w1 w466 ws_S_upStore y_S_upStore (by decide) (by decide) (hx) rfl (Nat.le_of_ble_eq_true rfl) (by decide) (by decide) (fun M1 r1 hq1 => ?_)
  obtain ⟨rfl, rfl⟩ := hq1
  refine j_astoreN d_S_pull_5 (by decide) ?_
  refine j_aload_n d_S_pull_7 rfl ?_
  refine j_iload_n d_S_pull_8 rfl ?_
  refine j_callV (vs := [_]) d_S_pull_9 (by assumption) (by decide) rfl w463 w465 w1 w466 ws_S_upStore y_S_upStore (by decide) (by decide) (hy) rfl (Nat.le_of_ble_eq_true rfl) (by decide) (by decide) (fun M2 r2 hq2 => ?_)
  obtain ⟨rfl, rfl⟩ := hq2
  refine j_astoreN d_S_pull_12 (by decide) ?_
  refine j_aloadN d_S_pull_14 rfl ?_
  refine j_ifnullN 31 d_S_pull_16 (by decide) ?_
  refine j_iconst (v := -1) d_S_pull_31 (by decide) ?_
  refine j_ireturn d_S_pull_32 rfl rfl ?_ (by decide) (by decide)
  exact ⟨rfl, rfl⟩
set_option maxRecDepth 20000 in
set_option maxHeartbeats 1000000 in
theorem k_pull_3 (M : aM) (x z y : Int32) (h : cSh M) (q : Nat) (hx : aK m_S_upStore 1 0 0 M [.ref 0, .int x] (fun M1 r => M1 = M ∧ r = some (.ref q))) (hy : aK m_S_upStore 1 0 0 M [.ref 0, .int y] (fun M1 r => M1 = M ∧ r = some .null)) : aK m_S_pull 3 5 16 M [.ref 0, .int x, .int z, .int y] (fun M1 r => M1 = M ∧ r = some (.int (-1))) := by
  refine aK.of (by decide) (Nat.le_of_ble_eq_true rfl) ?_
  have h0 := h.2.1
  have hr0 := h.2.2.1
  have hr1 := h.2.2.2.1
  have hr2 := h.2.2.2.2.1
  have hA1 := h.2.2.2.2.2.1
  have hA2 := h.2.2.2.2.2.2.1
  have hA3 := h.2.2.2.2.2.2.2.1
  refine j_aload_n d_S_pull_0 rfl ?_
  refine j_iload_n d_S_pull_1 rfl ?_
  refine j_callV (vs := [_]) d_S_pull_2 (by assumption) (by decide) rfl w463 w465 w1 w466 ws_S_upStore y_S_upStore (by decide) (by decide) (hx) rfl (Nat.le_of_ble_eq_true rfl) (by decide) (by decide) (fun M1 r1 hq1 => ?_)
  obtain ⟨rfl, rfl⟩ := hq1
  refine j_astore d_S_pull_5 (by decide) ?_
  refine j_aload_n d_S_pull_7 rfl ?_
  refine j_iload_n d_S_pull_8 rfl ?_
  refine j_callV (vs := [_]) d_S_pull_9 (by assumption) (by decide) rfl w463 w465 w1 w466 ws_S_upStore y_S_upStore (by decide) (by decide) (hy) rfl (Nat.le_of_ble_eq_true rfl) (by decide) (by decide) (fun M2 r2 hq2 => ?_)
  obtain ⟨rfl, rfl⟩ := hq2
  refine j_astoreN d_S_pull_12 (by decide) ?_
  refine j_aload d_S_pull_14 rfl ?_
  refine j_ifnull d_S_pull_16 ?_
  refine j_aloadN d_S_pull_19 rfl ?_
  refine j_ifnullN 31 d_S_pull_21 (by decide) ?_
  refine j_iconst (v := -1) d_S_pull_31 (by decide) ?_
  refine j_ireturn d_S_pull_32 rfl rfl ?_ (by decide) (by decide)
  exact ⟨rfl, rfl⟩
set_option maxRecDepth 20000 in
set_option maxHeartbeats 1000000 in
theorem k_pull_4 (M : aM) (x z y : Int32) (h : cSh M) (q q2 : Nat) (hx : aK m_S_upStore 1 0 0 M [.ref 0, .int x] (fun M1 r => M1 = M ∧ r = some (.ref q))) (hy : aK m_S_upStore 1 0 0 M [.ref 0, .int y] (fun M1 r => M1 = M ∧ r = some (.ref q2))) (hz : z < 0 ∨ nI 8 ≤ z) : aK m_S_pull 3 5 16 M [.ref 0, .int x, .int z, .int y] (fun M1 r => M1 = M ∧ r = some (.int (-1))) := by
  refine aK.of (by decide) (Nat.le_of_ble_eq_true rfl) ?_
  have h0 := h.2.1
  have hr0 := h.2.2.1
  have hr1 := h.2.2.2.1
  have hr2 := h.2.2.2.2.1
  have hA1 := h.2.2.2.2.2.1
  have hA2 := h.2.2.2.2.2.2.1
  have hA3 := h.2.2.2.2.2.2.2.1
  refine j_aload_n d_S_pull_0 rfl ?_
  refine j_iload_n d_S_pull_1 rfl ?_
  refine j_callV (vs := [_]) d_S_pull_2 (by assumption) (by decide) rfl w463 w465 w1 w466 ws_S_upStore y_S_upStore (by decide) (by decide) (hx) rfl (Nat.le_of_ble_eq_true rfl) (by decide) (by decide) (fun M1 r1 hq1 => ?_)
  obtain ⟨rfl, rfl⟩ := hq1
  refine j_astore d_S_pull_5 (by decide) ?_
  refine j_aload_n d_S_pull_7 rfl ?_
  refine j_iload_n d_S_pull_8 rfl ?_
  refine j_callV (vs := [_]) d_S_pull_9 (by assumption) (by decide) rfl w463 w465 w1 w466 ws_S_upStore y_S_upStore (by decide) (by decide) (hy) rfl (Nat.le_of_ble_eq_true rfl) (by decide) (by decide) (fun M2 r2 hq2 => ?_)
  obtain ⟨rfl, rfl⟩ := hq2
  refine j_astore d_S_pull_12 (by decide) ?_
  refine j_aload d_S_pull_14 rfl ?_
  refine j_ifnull d_S_pull_16 ?_
  refine j_aload d_S_pull_19 rfl ?_
  refine j_ifnull d_S_pull_21 ?_
  refine j_iload_n d_S_pull_24 rfl ?_
  refine j_callS (vs := [_]) d_S_pull_25 w433 w434 w1 w435 y_S_isShard (by decide) (by decide) (k_isShard M2 z) rfl (Nat.le_of_ble_eq_true rfl) (by decide) (by decide) (fun M3 r3 hq3 => ?_)
  obtain ⟨rfl, rfl⟩ := hq3
  refine j_if_ne (tgt := 33) d_S_pull_28 (by decide) (fun h28 => False.elim (h28 (bP_f (fun q => hz.elim (fun z => Int32.not_lt.mpr q.1 z) (fun z => Int32.not_lt.mpr z q.2))))) (fun h28 => ?_)
  refine j_iconst (v := -1) d_S_pull_31 (by decide) ?_
  refine j_ireturn d_S_pull_32 rfl rfl ?_ (by decide) (by decide)
  exact ⟨rfl, rfl⟩
set_option maxRecDepth 20000 in
set_option maxHeartbeats 1000000 in
theorem k_pull_f (M : aM) (S : aS) (t n s m : Nat) (h : cR M S) (hi : sInv S t) (h3 : 3 ≤ n) (hn : n < 12) (hs : s < 8) (h3m : 3 ≤ m) (hm : m < 12) (hx : aK m_S_upStore 1 0 0 M [.ref 0, .int (nI n)] (fun M1 r => M1 = M ∧ r = some (.ref (nd n)))) (hy : aK m_S_upStore 1 0 0 M [.ref 0, .int (nI m)] (fun M1 r => M1 = M ∧ r = some (.ref (nd m)))) (hl : sLd S n = false) : aK m_S_pull 3 5 16 M [.ref 0, .int (nI n), .int (nI s), .int (nI m)] (fun M1 r => M1 = M ∧ r = some (.int (-2))) := by
  refine aK.of (by decide) (Nat.le_of_ble_eq_true rfl) ?_
  have h0 := h.1.2.1
  have hr0 := h.1.2.2.1
  have hr1 := h.1.2.2.2.1
  have hr2 := h.1.2.2.2.2.1
  have hA1 := h.1.2.2.2.2.2.1
  have hA2 := h.1.2.2.2.2.2.2.1
  have hA3 := h.1.2.2.2.2.2.2.2.1
  have hNn := (cSh_T h.1 h3 hn).1
  have hNm := (cSh_T h.1 h3m hm).1
  have gv := hi.gp h3 hn
  have gr := (h.2 n hn).2.2.2.2.2.2 h3
  have gvm := hi.gp h3m hm
  have grm := (h.2 m hm).2.2.2.2.2.2 h3m
  have ld1 : mI M (nd n) 1 = bI (sLd S n) := (h.2 n hn).2.1
  have tm2 : mI M (nd n) 2 = nI (sT S n) := (h.2 n hn).2.2.1
  have g16 := gv.1
  have g16m := gvm.1
  have n7 := gr.1
  have n7m := grm.1
  obtain ⟨st0, st1, st2, st3⟩ := cSh_st h.1 h3 hn
  obtain ⟨sm0, sm1, sm2, sm3⟩ := cSh_st h.1 h3m hm
  obtain ⟨d1, d2⟩ := st3 s hs
  obtain ⟨dm1, dm2⟩ := sm3 s hs
  have b1 := (gr.2.2 s hs).1
  obtain ⟨bm1, bm2⟩ := grm.2.2 s hs
  have vc := gv.c hs
  have vcm := gvm.c hs
  have vo := (gv.2 s hs).1
  obtain ⟨cq, hcq, cI, cT, co, oI0, oR, oT, oV⟩ := gr.2.1
  refine j_aload_n d_S_pull_0 rfl ?_
  refine j_iload_n d_S_pull_1 rfl ?_
  refine j_callV (vs := [_]) d_S_pull_2 (by assumption) (by decide) rfl w463 w465 w1 w466 ws_S_upStore y_S_upStore (by decide) (by decide) (hx) rfl (Nat.le_of_ble_eq_true rfl) (by decide) (by decide) (fun M1 r1 hq1 => ?_)
  obtain ⟨rfl, rfl⟩ := hq1
  refine j_astore d_S_pull_5 (by decide) ?_
  refine j_aload_n d_S_pull_7 rfl ?_
  refine j_iload_n d_S_pull_8 rfl ?_
  refine j_callV (vs := [_]) d_S_pull_9 (by assumption) (by decide) rfl w463 w465 w1 w466 ws_S_upStore y_S_upStore (by decide) (by decide) (hy) rfl (Nat.le_of_ble_eq_true rfl) (by decide) (by decide) (fun M2 r2 hq2 => ?_)
  obtain ⟨rfl, rfl⟩ := hq2
  refine j_astore d_S_pull_12 (by decide) ?_
  refine j_aload d_S_pull_14 rfl ?_
  refine j_ifnull d_S_pull_16 ?_
  refine j_aload d_S_pull_19 rfl ?_
  refine j_ifnull d_S_pull_21 ?_
  refine j_iload_n d_S_pull_24 rfl ?_
  refine j_callS (vs := [_]) d_S_pull_25 w433 w434 w1 w435 y_S_isShard (by decide) (by decide) (k_isShard M2 (nI s)) rfl (Nat.le_of_ble_eq_true rfl) (by decide) (by decide) (fun M3 r3 hq3 => ?_)
  obtain ⟨rfl, rfl⟩ := hq3
  refine j_if_ne (tgt := 33) d_S_pull_28 (by decide) (fun h28 => ?_) (fun h28 => False.elim (absurd (bP_t (p := 0 ≤ nI s ∧ nI s < 8) ⟨nI_pos' (by omega), nI_lt hs (by decide)⟩) (by rw [h28]; decide)))
  refine j_aload d_S_pull_33 rfl ?_
  refine j_geti d_S_pull_35 hNn f_S_124_T rfl (by decide) ?_
  refine j_eqi ld1 ?_
  refine j_if_ne (tgt := 44) d_S_pull_38 (by decide) (fun h38 => False.elim (h38 (by rw [hl]; rfl))) (fun h38 => ?_)
  refine j_bipush (v := -2) d_S_pull_41 (by decide) ?_
  refine j_ireturn d_S_pull_43 rfl rfl ?_ (by decide) (by decide)
  exact ⟨rfl, rfl⟩
set_option maxRecDepth 20000 in
set_option maxHeartbeats 1000000 in
theorem k_pull_e (M : aM) (S : aS) (t n s m : Nat) (h : cR M S) (hi : sInv S t) (h3 : 3 ≤ n) (hn : n < 12) (hs : s < 8) (h3m : 3 ≤ m) (hm : m < 12) (hx : aK m_S_upStore 1 0 0 M [.ref 0, .int (nI n)] (fun M1 r => M1 = M ∧ r = some (.ref (nd n)))) (hy : aK m_S_upStore 1 0 0 M [.ref 0, .int (nI m)] (fun M1 r => M1 = M ∧ r = some (.ref (nd m)))) (hl : sLd S n = true) (hno : ¬ plOk S n s m) : aK m_S_pull 3 5 16 M [.ref 0, .int (nI n), .int (nI s), .int (nI m)] (fun M1 r => M1 = M ∧ r = some (.int (-4))) := by
  refine aK.of (by decide) (Nat.le_of_ble_eq_true rfl) ?_
  have h0 := h.1.2.1
  have hr0 := h.1.2.2.1
  have hr1 := h.1.2.2.2.1
  have hr2 := h.1.2.2.2.2.1
  have hA1 := h.1.2.2.2.2.2.1
  have hA2 := h.1.2.2.2.2.2.2.1
  have hA3 := h.1.2.2.2.2.2.2.2.1
  have hNn := (cSh_T h.1 h3 hn).1
  have hNm := (cSh_T h.1 h3m hm).1
  have gv := hi.gp h3 hn
  have gr := (h.2 n hn).2.2.2.2.2.2 h3
  have gvm := hi.gp h3m hm
  have grm := (h.2 m hm).2.2.2.2.2.2 h3m
  have ld1 : mI M (nd n) 1 = bI (sLd S n) := (h.2 n hn).2.1
  have tm2 : mI M (nd n) 2 = nI (sT S n) := (h.2 n hn).2.2.1
  have g16 := gv.1
  have g16m := gvm.1
  have n7 := gr.1
  have n7m := grm.1
  obtain ⟨st0, st1, st2, st3⟩ := cSh_st h.1 h3 hn
  obtain ⟨sm0, sm1, sm2, sm3⟩ := cSh_st h.1 h3m hm
  obtain ⟨d1, d2⟩ := st3 s hs
  obtain ⟨dm1, dm2⟩ := sm3 s hs
  have b1 := (gr.2.2 s hs).1
  obtain ⟨bm1, bm2⟩ := grm.2.2 s hs
  have vc := gv.c hs
  have vcm := gvm.c hs
  have vo := (gv.2 s hs).1
  obtain ⟨cq, hcq, cI, cT, co, oI0, oR, oT, oV⟩ := gr.2.1
  refine j_aload_n d_S_pull_0 rfl ?_
  refine j_iload_n d_S_pull_1 rfl ?_
  refine j_callV (vs := [_]) d_S_pull_2 (by assumption) (by decide) rfl w463 w465 w1 w466 ws_S_upStore y_S_upStore (by decide) (by decide) (hx) rfl (Nat.le_of_ble_eq_true rfl) (by decide) (by decide) (fun M1 r1 hq1 => ?_)
  obtain ⟨rfl, rfl⟩ := hq1
  refine j_astore d_S_pull_5 (by decide) ?_
  refine j_aload_n d_S_pull_7 rfl ?_
  refine j_iload_n d_S_pull_8 rfl ?_
  refine j_callV (vs := [_]) d_S_pull_9 (by assumption) (by decide) rfl w463 w465 w1 w466 ws_S_upStore y_S_upStore (by decide) (by decide) (hy) rfl (Nat.le_of_ble_eq_true rfl) (by decide) (by decide) (fun M2 r2 hq2 => ?_)
  obtain ⟨rfl, rfl⟩ := hq2
  refine j_astore d_S_pull_12 (by decide) ?_
  refine j_aload d_S_pull_14 rfl ?_
  refine j_ifnull d_S_pull_16 ?_
  refine j_aload d_S_pull_19 rfl ?_
  refine j_ifnull d_S_pull_21 ?_
  refine j_iload_n d_S_pull_24 rfl ?_
  refine j_callS (vs := [_]) d_S_pull_25 w433 w434 w1 w435 y_S_isShard (by decide) (by decide) (k_isShard M2 (nI s)) rfl (Nat.le_of_ble_eq_true rfl) (by decide) (by decide) (fun M3 r3 hq3 => ?_)
  obtain ⟨rfl, rfl⟩ := hq3
  refine j_if_ne (tgt := 33) d_S_pull_28 (by decide) (fun h28 => ?_) (fun h28 => False.elim (absurd (bP_t (p := 0 ≤ nI s ∧ nI s < 8) ⟨nI_pos' (by omega), nI_lt hs (by decide)⟩) (by rw [h28]; decide)))
  refine j_aload d_S_pull_33 rfl ?_
  refine j_geti d_S_pull_35 hNn f_S_124_T rfl (by decide) ?_
  refine j_eqi ld1 ?_
  refine j_if_ne (tgt := 44) d_S_pull_38 (by decide) (fun h38 => ?_) (fun h38 => False.elim (absurd h38 (by rw [hl]; decide)))
  refine j_aload d_S_pull_44 rfl ?_
  refine j_getR d_S_pull_46 hNn f_S_154_T rfl (by decide) st1 ?_
  refine j_iload_n d_S_pull_49 rfl ?_
  refine j_aaldR d_S_pull_50 st2 (by decide) ts_107 (aIx.n hs (by decide)) d1 ?_
  refine j_geti d_S_pull_51 d2.1 f_S_158_H rfl (by decide) ?_
  refine j_eqi b1 ?_
  refine j_iconst (v := 2) d_S_pull_54 (by decide) ?_
  refine j_icmp_ne (tgt := 85) d_S_pull_55 (by decide) (fun h55 => ?_) (fun h55 => ?_)
  · refine j_bipush (v := -4) d_S_pull_85 (by decide) ?_
    refine j_ireturn d_S_pull_87 rfl rfl ?_ (by decide) (by decide)
    exact ⟨rfl, rfl⟩
  · have k55 := i_eq (b := 2) (by omega) (by decide) h55
    refine j_aload d_S_pull_58 rfl ?_
    refine j_getR d_S_pull_60 hNm f_S_154_T rfl (by decide) sm1 ?_
    refine j_iload_n d_S_pull_63 rfl ?_
    refine j_aaldR d_S_pull_64 sm2 (by decide) ts_107 (aIx.n hs (by decide)) dm1 ?_
    refine j_geti d_S_pull_65 dm2.1 f_S_158_H rfl (by decide) ?_
    refine j_eqi bm1 ?_
    refine j_iconst (v := 3) d_S_pull_68 (by decide) ?_
    refine j_icmp_ne (tgt := 85) d_S_pull_69 (by decide) (fun h69 => ?_) (fun h69 => ?_)
    · refine j_bipush (v := -4) d_S_pull_85 (by decide) ?_
      refine j_ireturn d_S_pull_87 rfl rfl ?_ (by decide) (by decide)
      exact ⟨rfl, rfl⟩
    · have k69 := i_eq (b := 3) (by omega) (by decide) h69
      refine j_aload d_S_pull_72 rfl ?_
      refine j_geti d_S_pull_74 hNn f_S_132_T rfl (by decide) ?_
      refine j_eqi n7 ?_
      refine j_aload d_S_pull_77 rfl ?_
      refine j_geti d_S_pull_79 hNm f_S_132_T rfl (by decide) ?_
      refine j_eqi n7m ?_
      refine j_icmp_eq (tgt := 88) d_S_pull_82 (by decide) (fun h82 => False.elim (hno ⟨k55, k69, i_eq (by omega) (by omega) h82⟩)) (fun h82 => ?_)
      refine j_bipush (v := -4) d_S_pull_85 (by decide) ?_
      refine j_ireturn d_S_pull_87 rfl rfl ?_ (by decide) (by decide)
      exact ⟨rfl, rfl⟩
set_option maxRecDepth 20000 in
set_option maxHeartbeats 1000000 in
theorem k_pull_w (M : aM) (S : aS) (t n s m : Nat) (h : cR M S) (hi : sInv S t) (h3 : 3 ≤ n) (hn : n < 12) (hs : s < 8) (h3m : 3 ≤ m) (hm : m < 12) (hx : aK m_S_upStore 1 0 0 M [.ref 0, .int (nI n)] (fun M1 r => M1 = M ∧ r = some (.ref (nd n)))) (hy : aK m_S_upStore 1 0 0 M [.ref 0, .int (nI m)] (fun M1 r => M1 = M ∧ r = some (.ref (nd m)))) (hl : sLd S n = true) (hy2 : plOk S n s m) : aK m_S_pull 3 5 16 M [.ref 0, .int (nI n), .int (nI s), .int (nI m)] (cQ M (oWr S n (eIn (sT S n) s (sGp S n).1 ((sGp S m).2.2.2 s)))) := by
  refine aK.of (by decide) (Nat.le_of_ble_eq_true rfl) ?_
  have h0 := h.1.2.1
  have hr0 := h.1.2.2.1
  have hr1 := h.1.2.2.2.1
  have hr2 := h.1.2.2.2.2.1
  have hA1 := h.1.2.2.2.2.2.1
  have hA2 := h.1.2.2.2.2.2.2.1
  have hA3 := h.1.2.2.2.2.2.2.2.1
  have hNn := (cSh_T h.1 h3 hn).1
  have hNm := (cSh_T h.1 h3m hm).1
  have gv := hi.gp h3 hn
  have gr := (h.2 n hn).2.2.2.2.2.2 h3
  have gvm := hi.gp h3m hm
  have grm := (h.2 m hm).2.2.2.2.2.2 h3m
  have ld1 : mI M (nd n) 1 = bI (sLd S n) := (h.2 n hn).2.1
  have tm2 : mI M (nd n) 2 = nI (sT S n) := (h.2 n hn).2.2.1
  have g16 := gv.1
  have g16m := gvm.1
  have n7 := gr.1
  have n7m := grm.1
  obtain ⟨st0, st1, st2, st3⟩ := cSh_st h.1 h3 hn
  obtain ⟨sm0, sm1, sm2, sm3⟩ := cSh_st h.1 h3m hm
  obtain ⟨d1, d2⟩ := st3 s hs
  obtain ⟨dm1, dm2⟩ := sm3 s hs
  have b1 := (gr.2.2 s hs).1
  obtain ⟨bm1, bm2⟩ := grm.2.2 s hs
  have vc := gv.c hs
  have vcm := gvm.c hs
  have vo := (gv.2 s hs).1
  obtain ⟨cq, hcq, cI, cT, co, oI0, oR, oT, oV⟩ := gr.2.1
  refine j_aload_n d_S_pull_0 rfl ?_
  refine j_iload_n d_S_pull_1 rfl ?_
  refine j_callV (vs := [_]) d_S_pull_2 (by assumption) (by decide) rfl w463 w465 w1 w466 ws_S_upStore y_S_upStore (by decide) (by decide) (hx) rfl (Nat.le_of_ble_eq_true rfl) (by decide) (by decide) (fun M1 r1 hq1 => ?_)
  obtain ⟨rfl, rfl⟩ := hq1
  refine j_astore d_S_pull_5 (by decide) ?_
  refine j_aload_n d_S_pull_7 rfl ?_
  refine j_iload_n d_S_pull_8 rfl ?_
  refine j_callV (vs := [_]) d_S_pull_9 (by assumption) (by decide) rfl w463 w465 w1 w466 ws_S_upStore y_S_upStore (by decide) (by decide) (hy) rfl (Nat.le_of_ble_eq_true rfl) (by decide) (by decide) (fun M2 r2 hq2 => ?_)
  obtain ⟨rfl, rfl⟩ := hq2
  refine j_astore d_S_pull_12 (by decide) ?_
  refine j_aload d_S_pull_14 rfl ?_
  refine j_ifnull d_S_pull_16 ?_
  refine j_aload d_S_pull_19 rfl ?_
  refine j_ifnull d_S_pull_21 ?_
  refine j_iload_n d_S_pull_24 rfl ?_
  refine j_callS (vs := [_]) d_S_pull_25 w433 w434 w1 w435 y_S_isShard (by decide) (by decide) (k_isShard M2 (nI s)) rfl (Nat.le_of_ble_eq_true rfl) (by decide) (by decide) (fun M3 r3 hq3 => ?_)
  obtain ⟨rfl, rfl⟩ := hq3
  refine j_if_ne (tgt := 33) d_S_pull_28 (by decide) (fun h28 => ?_) (fun h28 => False.elim (absurd (bP_t (p := 0 ≤ nI s ∧ nI s < 8) ⟨nI_pos' (by omega), nI_lt hs (by decide)⟩) (by rw [h28]; decide)))
  refine j_aload d_S_pull_33 rfl ?_
  refine j_geti d_S_pull_35 hNn f_S_124_T rfl (by decide) ?_
  refine j_eqi ld1 ?_
  refine j_if_ne (tgt := 44) d_S_pull_38 (by decide) (fun h38 => ?_) (fun h38 => False.elim (absurd h38 (by rw [hl]; decide)))
  refine j_aload d_S_pull_44 rfl ?_
  refine j_getR d_S_pull_46 hNn f_S_154_T rfl (by decide) st1 ?_
  refine j_iload_n d_S_pull_49 rfl ?_
  refine j_aaldR d_S_pull_50 st2 (by decide) ts_107 (aIx.n hs (by decide)) d1 ?_
  refine j_geti d_S_pull_51 d2.1 f_S_158_H rfl (by decide) ?_
  refine j_eqi b1 ?_
  refine j_iconst (v := 2) d_S_pull_54 (by decide) ?_
  refine j_icmp_ne (tgt := 85) d_S_pull_55 (by decide) (fun h55 => False.elim (h55 (by rw [hy2.1]; rfl))) (fun h55 => ?_)
  refine j_aload d_S_pull_58 rfl ?_
  refine j_getR d_S_pull_60 hNm f_S_154_T rfl (by decide) sm1 ?_
  refine j_iload_n d_S_pull_63 rfl ?_
  refine j_aaldR d_S_pull_64 sm2 (by decide) ts_107 (aIx.n hs (by decide)) dm1 ?_
  refine j_geti d_S_pull_65 dm2.1 f_S_158_H rfl (by decide) ?_
  refine j_eqi bm1 ?_
  refine j_iconst (v := 3) d_S_pull_68 (by decide) ?_
  refine j_icmp_ne (tgt := 85) d_S_pull_69 (by decide) (fun h69 => False.elim (h69 (by rw [hy2.2.1]; rfl))) (fun h69 => ?_)
  refine j_aload d_S_pull_72 rfl ?_
  refine j_geti d_S_pull_74 hNn f_S_132_T rfl (by decide) ?_
  refine j_eqi n7 ?_
  refine j_aload d_S_pull_77 rfl ?_
  refine j_geti d_S_pull_79 hNm f_S_132_T rfl (by decide) ?_
  refine j_eqi n7m ?_
  refine j_icmp_eq (tgt := 88) d_S_pull_82 (by decide) (fun h82 => ?_) (fun h82 => False.elim (h82 (by rw [hy2.2.2])))
  refine j_aload d_S_pull_88 rfl ?_
  refine j_new d_S_pull_90 n_S_163 (by decide) (by decide) (by decide) ?_
  have ne := Nat.ne_of_lt hNn.1
  have nem := Nat.ne_of_lt hNm.1
  have z345 := h.1.1
  refine j_dup d_S_pull_93 ?_
  refine j_aload d_S_pull_94 rfl ?_
  refine j_geti d_S_pull_96 (hNn.up 9 0) f_S_127_T rfl (by decide) ?_
  refine j_eqi (show _ = nI (sT S n) by rw [mm_I_mN, if_neg ne]; exact tm2) ?_
  refine j_iload_n d_S_pull_99 rfl ?_
  refine j_aload d_S_pull_100 rfl ?_
  refine j_geti d_S_pull_102 (hNn.up 9 0) f_S_132_T rfl (by decide) ?_
  refine j_eqi (show _ = nI (sGp S n).1 by rw [mm_I_mN, if_neg ne]; exact n7) ?_
  refine j_aload d_S_pull_105 rfl ?_
  refine j_getR d_S_pull_107 (hNm.up 9 0) f_S_154_T rfl (by decide) (by rw [mm_R_mN, if_neg nem]; exact sm1) ?_
  refine j_iload_n d_S_pull_110 rfl ?_
  refine j_aaldR d_S_pull_111 (sm2.up 9 0) (by decide) ts_107 (aIx.n hs (by decide)) (by rw [mm_R_mN, if_neg (Nat.ne_of_lt sm2.1)]; exact dm1) ?_
  have nw0 : onew M3 (fI0 (mN M3 9 0) (mSz M3) (nI (sT S n)) (nI s) (nI (sGp S n).1)) := fI0_new (onew.rf M3).mN (Nat.le_refl _) (Nat.le_succ _) (by omega)
  have ho9 : tO (mN M3 9 0) (mSz M3) 9 := tO.new M3 9 0
  have hi35 := nd_hi3 hm h3m
  refine j_callI (vs := [_, _, _, _]) d_S_pull_112 w533 w534 w14 w535 rfl rfl y_I_init (by decide) (by decide) (k_I_init (mN M3 9 0) (mSz M3) (nd m + 3 + 4 * s) (nI (sT S n)) (nI s) (nI (sGp S n).1) ho9 (onew_shT nw0 dm2)) rfl (Nat.le_of_ble_eq_true rfl) (by decide) (by decide) (fun M4 r4 hq4 => ?_)
  obtain ⟨rfl, rfl⟩ := hq4
  have oc := cpy_o (fI0 (mN M3 9 0) (mSz M3) (nI (sT S n)) (nI s) (nI (sGp S n).1)) (nd m + 3 + 4 * s) (mSz (mN M3 9 0))
  have sz1 : mSz (mN M3 9 0) = mSz M3 + 1 := rfl
  have nw : onew M3 (cpy (fI0 (mN M3 9 0) (mSz M3) (nI (sT S n)) (nI s) (nI (sGp S n).1)) (nd m + 3 + 4 * s) (mSz (mN M3 9 0))) := ⟨by rw [oc.1]; exact nw0.1, fun a ha => (nw0.2 a ha).tr (oc.sm (fun q => by unfold inS at q; omega))⟩
  have tO9 : tO (cpy (fI0 (mN M3 9 0) (mSz M3) (nI (sT S n)) (nI s) (nI (sGp S n).1)) (nd m + 3 + 4 * s) (mSz (mN M3 9 0))) (mSz M3) 9 := oc.tO (fI0_tO ho9)
  have hE : eR (cpy (fI0 (mN M3 9 0) (mSz M3) (nI (sT S n)) (nI s) (nI (sGp S n).1)) (nd m + 3 + 4 * s) (mSz (mN M3 9 0))) (mSz M3) (eIn (sT S n) s (sGp S n).1 ((sGp S m).2.2.2 s)) := by
    have I : ∀ k, mI (cpy (fI0 (mN M3 9 0) (mSz M3) (nI (sT S n)) (nI s) (nI (sGp S n).1)) (nd m + 3 + 4 * s) (mSz (mN M3 9 0))) (mSz M3) k = mI (fI0 (mN M3 9 0) (mSz M3) (nI (sT S n)) (nI s) (nI (sGp S n).1)) (mSz M3) k := fun k => oc.2.2 (mSz M3) (fun q => by unfold inS at q; omega) k
    have v1 := cpy_v (h := mSz (mN M3 9 0)) (onew_shV nw0 dm2 (bm2 (Or.inr hy2.2.1))) (Or.inl (by omega))
    refine ⟨h.1.1, ?_, Or.inr (Or.inr (Or.inr (Or.inr (Or.inl ⟨rfl, tO9, ?_, ?_, mSz (mN M3 9 0), by omega, ?_, oc.shT (fI0_T ho9.1), v1.congr (fun i hi9 => (eIn_o _ _ _ _ hi9).symm)⟩))))⟩
    · rw [I]; unfold fI0; rw [mm_I_sI, if_neg (by omega), mm_I_sI, if_neg (by omega), mm_I_sR]
      have s0 := (onew_fH (sI (mN M3 9 0) (mSz M3) 0 (nI (sT S n))) (Nat.succ_pos _)).2 (mSz M3) (Nat.lt_succ_self _)
      refine (s0.2.2.1 0).trans ?_
      rw [mm_I_sI, if_pos ⟨rfl, rfl⟩]; rfl
    · rw [I]; unfold fI0; rw [mm_I_sI, if_neg (by omega), mm_I_sI, if_pos ⟨rfl, rfl⟩]; rfl
    · rw [I]; unfold fI0; rw [mm_I_sI, if_pos ⟨rfl, rfl⟩]; rfl
    · refine oc.R ?_
      unfold fI0; rw [mm_R_sI, mm_R_sI, mm_R_sR, if_pos ⟨rfl, rfl⟩]
  refine j_callU (owner := "ShardGroups$Node") (vs := [_]) d_S_pull_115 ((nw.2 _ hNn.1).tO nw.1 hNn) (by decide) rfl w505 w245 w3 w249 w507 w506 (Or.inl rfl) y_N_write (by decide) (by decide) (k_wr_T h hi h3 hn nw hE tO9 (by decide) (by decide)) rfl (Nat.le_of_ble_eq_true rfl) (by decide) (by decide) (fun M5 r5 hq5 => ?_)
  obtain ⟨z, rfl⟩ := cQ_int hq5
  refine j_ireturn d_S_pull_118 rfl rfl hq5 (by decide) (by decide)
theorem c_pull (M : aM) (S : aS) (t : Nat) (x z y : Int32) (h : cR M S) (hi : sInv S t) : aK m_S_pull 3 5 16 M [.ref 0, .int x, .int z, .int y] (cQ M (oPull S x z y)) := by
  have no : ∀ v : Int32, oPull S x z y = (S, v) → ∀ M1 r, (M1 = M ∧ r = some (.int v)) → cQ M (oPull S x z y) M1 r := by
    rintro v e M1 r ⟨rfl, rfl⟩
    rw [e]
    exact ⟨rfl, h, fM.rf _⟩
  have n1 : (∀ n, dG x = some n → sUp S n = false) → oPull S x z y = (S, -1) := by
    intro q
    unfold oPull
    cases ex : dG x with
    | none => rfl
    | some a =>
      cases ey : dG y with
      | none => rfl
      | some b =>
        cases ez : dN z 8 with
        | none => rfl
        | some s => simp only []; rw [if_neg (fun z => by rw [q a ex] at z; exact absurd z.1 (by decide))]
  have n2 : (∀ n, dG y = some n → sUp S n = false) → oPull S x z y = (S, -1) := by
    intro q
    unfold oPull
    cases ex : dG x with
    | none => rfl
    | some a =>
      cases ey : dG y with
      | none => rfl
      | some b =>
        cases ez : dN z 8 with
        | none => rfl
        | some s => simp only []; rw [if_neg (fun z => by rw [q b ey] at z; exact absurd z.2 (by decide))]
  rcases uT_cases h x with ⟨kx, qx⟩ | ⟨n, h3, hn, rfl, en, un, kx⟩
  · rcases uT_cases h y with ⟨ky, qy⟩ | ⟨m, h3m, hm, rfl, em, um, ky⟩
    · exact (k_pull_2 M x z y h.1 kx ky).weaken (no _ (n1 qx))
    · exact (k_pull_1 M x z (nI m) h.1 (nd m) kx ky).weaken (no _ (n1 qx))
  · rcases uT_cases h y with ⟨ky, qy⟩ | ⟨m, h3m, hm, rfl, em, um, ky⟩
    · exact (k_pull_3 M (nI n) z y h.1 (nd n) kx ky).weaken (no _ (n2 qy))
    · rcases dN_cases z (N := 8) (by decide) with ⟨es, hz⟩ | ⟨s, hs, rfl, es⟩
      · exact (k_pull_4 M (nI n) z (nI m) h.1 (nd n) (nd m) kx ky hz).weaken (no _ (by unfold oPull; rw [en, em, es]))
      · have e0 : oPull S (nI n) (nI s) (nI m) = if sLd S n = true then (if plOk S n s m then oWr S n (eIn (sT S n) s (sGp S n).1 ((sGp S m).2.2.2 s)) else (S, -4)) else (S, -2) := by
          unfold oPull
          rw [en, em, es]
          simp only []
          rw [if_pos ⟨un, um⟩]
        cases hl : sLd S n
        · exact (k_pull_f M S t n s m h hi h3 hn hs h3m hm kx ky hl).weaken (no _ (by rw [e0, if_neg (by rw [hl]; decide)]))
        · by_cases q : plOk S n s m
          · have e1 : oPull S (nI n) (nI s) (nI m) = oWr S n (eIn (sT S n) s (sGp S n).1 ((sGp S m).2.2.2 s)) := by rw [e0, if_pos hl, if_pos q]
            rw [e1]
            exact k_pull_w M S t n s m h hi h3 hn hs h3m hm kx ky hl q
          · exact (k_pull_e M S t n s m h hi h3 hn hs h3m hm kx ky hl q).weaken (no _ (by rw [e0, if_pos hl, if_neg q]))
set_option maxRecDepth 20000 in
set_option maxHeartbeats 1000000 in
theorem k_confirm_1 (M : aM) (x z y : Int32) (h : cSh M) (q : Nat) (hx : aK m_S_upStore 1 0 0 M [.ref 0, .int x] (fun M1 r => M1 = M ∧ r = some .null)) (hy : aK m_S_upStore 1 0 0 M [.ref 0, .int y] (fun M1 r => M1 = M ∧ r = some (.ref q))) : aK m_S_confirm 3 1 3 M [.ref 0, .int x, .int z, .int y] (fun M1 r => M1 = M ∧ r = some (.int (-1))) := by
  refine aK.of (by decide) (Nat.le_of_ble_eq_true rfl) ?_
  have h0 := h.2.1
  have hr0 := h.2.2.1
  have hr1 := h.2.2.2.1
  have hr2 := h.2.2.2.2.1
  have hA1 := h.2.2.2.2.2.1
  have hA2 := h.2.2.2.2.2.2.1
  have hA3 := h.2.2.2.2.2.2.2.1
  refine j_aload_n d_S_confirm_0 rfl ?_
  refine j_iload_n d_S_confirm_1 rfl ?_
  refine j_callV (vs := [_]) d_S_confirm_2 (by assumption) (by decide) rfl w463 w465 w1 w466 ws_S_upStore y_S_upStore (by decide) (by decide) (hx) rfl (Nat.le_of_ble_eq_true rfl) (by decide) (by decide) (fun M1 r1 hq1 => ?_)
  obtain ⟨rfl, rfl⟩ := hq1
  refine j_astoreN d_S_confirm_5 (by decide) ?_
  refine j_aload_n d_S_confirm_7 rfl ?_
  refine j_iload_n d_S_confirm_8 rfl ?_
  refine j_callV (vs := [_]) d_S_confirm_9 (by assumption) (by decide) rfl w463 w465 w1 w466 ws_S_upStore y_S_upStore (by decide) (by decide) (hy) rfl (Nat.le_of_ble_eq_true rfl) (by decide) (by decide) (fun M2 r2 hq2 => ?_)
  obtain ⟨rfl, rfl⟩ := hq2
  refine j_astore d_S_confirm_12 (by decide) ?_
  refine j_aloadN d_S_confirm_14 rfl ?_
  refine j_ifnullN 31 d_S_confirm_16 (by decide) ?_
  refine j_iconst (v := -1) d_S_confirm_31 (by decide) ?_
  refine j_ireturn d_S_confirm_32 rfl rfl ?_ (by decide) (by decide)
  exact ⟨rfl, rfl⟩
set_option maxRecDepth 20000 in
set_option maxHeartbeats 1000000 in
theorem k_confirm_2 (M : aM) (x z y : Int32) (h : cSh M) (hx : aK m_S_upStore 1 0 0 M [.ref 0, .int x] (fun M1 r => M1 = M ∧ r = some .null)) (hy : aK m_S_upStore 1 0 0 M [.ref 0, .int y] (fun M1 r => M1 = M ∧ r = some .null)) : aK m_S_confirm 3 1 3 M [.ref 0, .int x, .int z, .int y] (fun M1 r => M1 = M ∧ r = some (.int (-1))) := by
  refine aK.of (by decide) (Nat.le_of_ble_eq_true rfl) ?_
  have h0 := h.2.1
  have hr0 := h.2.2.1
  have hr1 := h.2.2.2.1
  have hr2 := h.2.2.2.2.1
  have hA1 := h.2.2.2.2.2.1
  have hA2 := h.2.2.2.2.2.2.1
  have hA3 := h.2.2.2.2.2.2.2.1
  refine j_aload_n d_S_confirm_0 rfl ?_
  refine j_iload_n d_S_confirm_1 rfl ?_
  refine j_callV (vs := [_]) d_S_confirm_2 (by assumption) (by decide) rfl w463 w465 w1 w466 ws_S_upStore y_S_upStore (by decide) (by decide) (hx) rfl (Nat.le_of_ble_eq_true rfl) (by decide) (by decide) (fun M1 r1 hq1 => ?_)
  obtain ⟨rfl, rfl⟩ := hq1
  refine j_astoreN d_S_confirm_5 (by decide) ?_
  refine j_aload_n d_S_confirm_7 rfl ?_
  refine j_iload_n d_S_confirm_8 rfl ?_
  refine j_callV (vs := [_]) d_S_confirm_9 (by assumption) (by decide) rfl w463 w465 w1 w466 ws_S_upStore y_S_upStore (by decide) (by decide) (hy) rfl (Nat.le_of_ble_eq_true rfl) (by decide) (by decide) (fun M2 r2 hq2 => ?_)
  obtain ⟨rfl, rfl⟩ := hq2
  refine j_astoreN d_S_confirm_12 (by decide) ?_
  refine j_aloadN d_S_confirm_14 rfl ?_
  refine j_ifnullN 31 d_S_confirm_16 (by decide) ?_
  refine j_iconst (v := -1) d_S_confirm_31 (by decide) ?_
  refine j_ireturn d_S_confirm_32 rfl rfl ?_ (by decide) (by decide)
  exact ⟨rfl, rfl⟩
set_option maxRecDepth 20000 in
set_option maxHeartbeats 1000000 in
theorem k_confirm_3 (M : aM) (x z y : Int32) (h : cSh M) (q : Nat) (hx : aK m_S_upStore 1 0 0 M [.ref 0, .int x] (fun M1 r => M1 = M ∧ r = some (.ref q))) (hy : aK m_S_upStore 1 0 0 M [.ref 0, .int y] (fun M1 r => M1 = M ∧ r = some .null)) : aK m_S_confirm 3 1 3 M [.ref 0, .int x, .int z, .int y] (fun M1 r => M1 = M ∧ r = some (.int (-1))) := by
  refine aK.of (by decide) (Nat.le_of_ble_eq_true rfl) ?_
  have h0 := h.2.1
  have hr0 := h.2.2.1
  have hr1 := h.2.2.2.1
  have hr2 := h.2.2.2.2.1
  have hA1 := h.2.2.2.2.2.1
  have hA2 := h.2.2.2.2.2.2.1
  have hA3 := h.2.2.2.2.2.2.2.1
  refine j_aload_n d_S_confirm_0 rfl ?_
  refine j_iload_n d_S_confirm_1 rfl ?_
  refine j_callV (vs := [_]) d_S_confirm_2 (by assumption) (by decide) rfl w463 w465 w1 w466 ws_S_upStore y_S_upStore (by decide) (by decide) (hx) rfl (Nat.le_of_ble_eq_true rfl) (by decide) (by decide) (fun M1 r1 hq1 => ?_)
  obtain ⟨rfl, rfl⟩ := hq1
  refine j_astore d_S_confirm_5 (by decide) ?_
  refine j_aload_n d_S_confirm_7 rfl ?_
  refine j_iload_n d_S_confirm_8 rfl ?_
  refine j_callV (vs := [_]) d_S_confirm_9 (by assumption) (by decide) rfl w463 w465 w1 w466 ws_S_upStore y_S_upStore (by decide) (by decide) (hy) rfl (Nat.le_of_ble_eq_true rfl) (by decide) (by decide) (fun M2 r2 hq2 => ?_)
  obtain ⟨rfl, rfl⟩ := hq2
  refine j_astoreN d_S_confirm_12 (by decide) ?_
  refine j_aload d_S_confirm_14 rfl ?_
  refine j_ifnull d_S_confirm_16 ?_
  refine j_aloadN d_S_confirm_19 rfl ?_
  refine j_ifnullN 31 d_S_confirm_21 (by decide) ?_
  refine j_iconst (v := -1) d_S_confirm_31 (by decide) ?_
  refine j_ireturn d_S_confirm_32 rfl rfl ?_ (by decide) (by decide)
  exact ⟨rfl, rfl⟩
set_option maxRecDepth 20000 in
set_option maxHeartbeats 1000000 in
theorem k_confirm_4 (M : aM) (x z y : Int32) (h : cSh M) (q q2 : Nat) (hx : aK m_S_upStore 1 0 0 M [.ref 0, .int x] (fun M1 r => M1 = M ∧ r = some (.ref q))) (hy : aK m_S_upStore 1 0 0 M [.ref 0, .int y] (fun M1 r => M1 = M ∧ r = some (.ref q2))) (hz : z < 0 ∨ nI 8 ≤ z) : aK m_S_confirm 3 1 3 M [.ref 0, .int x, .int z, .int y] (fun M1 r => M1 = M ∧ r = some (.int (-1))) := by
  refine aK.of (by decide) (Nat.le_of_ble_eq_true rfl) ?_
  have h0 := h.2.1
  have hr0 := h.2.2.1
  have hr1 := h.2.2.2.1
  have hr2 := h.2.2.2.2.1
  have hA1 := h.2.2.2.2.2.1
  have hA2 := h.2.2.2.2.2.2.1
  have hA3 := h.2.2.2.2.2.2.2.1
  refine j_aload_n d_S_confirm_0 rfl ?_
  refine j_iload_n d_S_confirm_1 rfl ?_
  refine j_callV (vs := [_]) d_S_confirm_2 (by assumption) (by decide) rfl w463 w465 w1 w466 ws_S_upStore y_S_upStore (by decide) (by decide) (hx) rfl (Nat.le_of_ble_eq_true rfl) (by decide) (by decide) (fun M1 r1 hq1 => ?_)
  obtain ⟨rfl, rfl⟩ := hq1
  refine j_astore d_S_confirm_5 (by decide) ?_
  refine j_aload_n d_S_confirm_7 rfl ?_
  refine j_iload_n d_S_confirm_8 rfl ?_
  refine j_callV (vs := [_]) d_S_confirm_9 (by assumption) (by decide) rfl w463 w465 w1 w466 ws_S_upStore y_S_upStore (by decide) (by decide) (hy) rfl (Nat.le_of_ble_eq_true rfl) (by decide) (by decide) (fun M2 r2 hq2 => ?_)
  obtain ⟨rfl, rfl⟩ := hq2
  refine j_astore d_S_confirm_12 (by decide) ?_
  refine j_aload d_S_confirm_14 rfl ?_
  refine j_ifnull d_S_confirm_16 ?_
  refine j_aload d_S_confirm_19 rfl ?_
  refine j_ifnull d_S_confirm_21 ?_
  refine j_iload_n d_S_confirm_24 rfl ?_
  refine j_callS (vs := [_]) d_S_confirm_25 w433 w434 w1 w435 y_S_isShard (by decide) (by decide) (k_isShard M2 z) rfl (Nat.le_of_ble_eq_true rfl) (by decide) (by decide) (fun M3 r3 hq3 => ?_)
  obtain ⟨rfl, rfl⟩ := hq3
  refine j_if_ne (tgt := 33) d_S_confirm_28 (by decide) (fun h28 => False.elim (h28 (bP_f (fun q => hz.elim (fun z => Int32.not_lt.mpr q.1 z) (fun z => Int32.not_lt.mpr z q.2))))) (fun h28 => ?_)
  refine j_iconst (v := -1) d_S_confirm_31 (by decide) ?_
  refine j_ireturn d_S_confirm_32 rfl rfl ?_ (by decide) (by decide)
  exact ⟨rfl, rfl⟩
set_option maxRecDepth 20000 in
set_option maxHeartbeats 1000000 in
theorem k_confirm_f (M : aM) (S : aS) (t n s m : Nat) (h : cR M S) (hi : sInv S t) (h3 : 3 ≤ n) (hn : n < 12) (hs : s < 8) (h3m : 3 ≤ m) (hm : m < 12) (hx : aK m_S_upStore 1 0 0 M [.ref 0, .int (nI n)] (fun M1 r => M1 = M ∧ r = some (.ref (nd n)))) (hy : aK m_S_upStore 1 0 0 M [.ref 0, .int (nI m)] (fun M1 r => M1 = M ∧ r = some (.ref (nd m)))) (hl : sLd S n = false) : aK m_S_confirm 3 1 3 M [.ref 0, .int (nI n), .int (nI s), .int (nI m)] (fun M1 r => M1 = M ∧ r = some (.int (-2))) := by
  refine aK.of (by decide) (Nat.le_of_ble_eq_true rfl) ?_
  have h0 := h.1.2.1
  have hr0 := h.1.2.2.1
  have hr1 := h.1.2.2.2.1
  have hr2 := h.1.2.2.2.2.1
  have hA1 := h.1.2.2.2.2.2.1
  have hA2 := h.1.2.2.2.2.2.2.1
  have hA3 := h.1.2.2.2.2.2.2.2.1
  have hNn := (cSh_T h.1 h3 hn).1
  have hNm := (cSh_T h.1 h3m hm).1
  have gv := hi.gp h3 hn
  have gr := (h.2 n hn).2.2.2.2.2.2 h3
  have gvm := hi.gp h3m hm
  have grm := (h.2 m hm).2.2.2.2.2.2 h3m
  have ld1 : mI M (nd n) 1 = bI (sLd S n) := (h.2 n hn).2.1
  have tm2 : mI M (nd n) 2 = nI (sT S n) := (h.2 n hn).2.2.1
  have g16 := gv.1
  have g16m := gvm.1
  have n7 := gr.1
  have n7m := grm.1
  obtain ⟨st0, st1, st2, st3⟩ := cSh_st h.1 h3 hn
  obtain ⟨sm0, sm1, sm2, sm3⟩ := cSh_st h.1 h3m hm
  obtain ⟨d1, d2⟩ := st3 s hs
  obtain ⟨dm1, dm2⟩ := sm3 s hs
  have b1 := (gr.2.2 s hs).1
  obtain ⟨bm1, bm2⟩ := grm.2.2 s hs
  have vc := gv.c hs
  have vcm := gvm.c hs
  have vo := (gv.2 s hs).1
  obtain ⟨cq, hcq, cI, cT, co, oI0, oR, oT, oV⟩ := gr.2.1
  refine j_aload_n d_S_confirm_0 rfl ?_
  refine j_iload_n d_S_confirm_1 rfl ?_
  refine j_callV (vs := [_]) d_S_confirm_2 (by assumption) (by decide) rfl w463 w465 w1 w466 ws_S_upStore y_S_upStore (by decide) (by decide) (hx) rfl (Nat.le_of_ble_eq_true rfl) (by decide) (by decide) (fun M1 r1 hq1 => ?_)
  obtain ⟨rfl, rfl⟩ := hq1
  refine j_astore d_S_confirm_5 (by decide) ?_
  refine j_aload_n d_S_confirm_7 rfl ?_
  refine j_iload_n d_S_confirm_8 rfl ?_
  refine j_callV (vs := [_]) d_S_confirm_9 (by assumption) (by decide) rfl w463 w465 w1 w466 ws_S_upStore y_S_upStore (by decide) (by decide) (hy) rfl (Nat.le_of_ble_eq_true rfl) (by decide) (by decide) (fun M2 r2 hq2 => ?_)
  obtain ⟨rfl, rfl⟩ := hq2
  refine j_astore d_S_confirm_12 (by decide) ?_
  refine j_aload d_S_confirm_14 rfl ?_
  refine j_ifnull d_S_confirm_16 ?_
  refine j_aload d_S_confirm_19 rfl ?_
  refine j_ifnull d_S_confirm_21 ?_
  refine j_iload_n d_S_confirm_24 rfl ?_
  refine j_callS (vs := [_]) d_S_confirm_25 w433 w434 w1 w435 y_S_isShard (by decide) (by decide) (k_isShard M2 (nI s)) rfl (Nat.le_of_ble_eq_true rfl) (by decide) (by decide) (fun M3 r3 hq3 => ?_)
  obtain ⟨rfl, rfl⟩ := hq3
  refine j_if_ne (tgt := 33) d_S_confirm_28 (by decide) (fun h28 => ?_) (fun h28 => False.elim (absurd (bP_t (p := 0 ≤ nI s ∧ nI s < 8) ⟨nI_pos' (by omega), nI_lt hs (by decide)⟩) (by rw [h28]; decide)))
  refine j_aload d_S_confirm_33 rfl ?_
  refine j_geti d_S_confirm_35 hNn f_S_124_T rfl (by decide) ?_
  refine j_eqi ld1 ?_
  refine j_if_ne (tgt := 44) d_S_confirm_38 (by decide) (fun h38 => False.elim (h38 (by rw [hl]; rfl))) (fun h38 => ?_)
  refine j_bipush (v := -2) d_S_confirm_41 (by decide) ?_
  refine j_ireturn d_S_confirm_43 rfl rfl ?_ (by decide) (by decide)
  exact ⟨rfl, rfl⟩
set_option maxRecDepth 20000 in
set_option maxHeartbeats 1000000 in
theorem k_confirm_e (M : aM) (S : aS) (t n s m : Nat) (h : cR M S) (hi : sInv S t) (h3 : 3 ≤ n) (hn : n < 12) (hs : s < 8) (h3m : 3 ≤ m) (hm : m < 12) (hx : aK m_S_upStore 1 0 0 M [.ref 0, .int (nI n)] (fun M1 r => M1 = M ∧ r = some (.ref (nd n)))) (hy : aK m_S_upStore 1 0 0 M [.ref 0, .int (nI m)] (fun M1 r => M1 = M ∧ r = some (.ref (nd m)))) (hl : sLd S n = true) (hno : ¬ cnOk S n s m) : aK m_S_confirm 3 1 3 M [.ref 0, .int (nI n), .int (nI s), .int (nI m)] (fun M1 r => M1 = M ∧ r = some (.int (-4))) := by
  refine aK.of (by decide) (Nat.le_of_ble_eq_true rfl) ?_
  have h0 := h.1.2.1
  have hr0 := h.1.2.2.1
  have hr1 := h.1.2.2.2.1
  have hr2 := h.1.2.2.2.2.1
  have hA1 := h.1.2.2.2.2.2.1
  have hA2 := h.1.2.2.2.2.2.2.1
  have hA3 := h.1.2.2.2.2.2.2.2.1
  have hNn := (cSh_T h.1 h3 hn).1
  have hNm := (cSh_T h.1 h3m hm).1
  have gv := hi.gp h3 hn
  have gr := (h.2 n hn).2.2.2.2.2.2 h3
  have gvm := hi.gp h3m hm
  have grm := (h.2 m hm).2.2.2.2.2.2 h3m
  have ld1 : mI M (nd n) 1 = bI (sLd S n) := (h.2 n hn).2.1
  have tm2 : mI M (nd n) 2 = nI (sT S n) := (h.2 n hn).2.2.1
  have g16 := gv.1
  have g16m := gvm.1
  have n7 := gr.1
  have n7m := grm.1
  obtain ⟨st0, st1, st2, st3⟩ := cSh_st h.1 h3 hn
  obtain ⟨sm0, sm1, sm2, sm3⟩ := cSh_st h.1 h3m hm
  obtain ⟨d1, d2⟩ := st3 s hs
  obtain ⟨dm1, dm2⟩ := sm3 s hs
  have b1 := (gr.2.2 s hs).1
  obtain ⟨bm1, bm2⟩ := grm.2.2 s hs
  have vc := gv.c hs
  have vcm := gvm.c hs
  have vo := (gv.2 s hs).1
  obtain ⟨cq, hcq, cI, cT, co, oI0, oR, oT, oV⟩ := gr.2.1
  refine j_aload_n d_S_confirm_0 rfl ?_
  refine j_iload_n d_S_confirm_1 rfl ?_
  refine j_callV (vs := [_]) d_S_confirm_2 (by assumption) (by decide) rfl w463 w465 w1 w466 ws_S_upStore y_S_upStore (by decide) (by decide) (hx) rfl (Nat.le_of_ble_eq_true rfl) (by decide) (by decide) (fun M1 r1 hq1 => ?_)
  obtain ⟨rfl, rfl⟩ := hq1
  refine j_astore d_S_confirm_5 (by decide) ?_
  refine j_aload_n d_S_confirm_7 rfl ?_
  refine j_iload_n d_S_confirm_8 rfl ?_
  refine j_callV (vs := [_]) d_S_confirm_9 (by assumption) (by decide) rfl w463 w465 w1 w466 ws_S_upStore y_S_upStore (by decide) (by decide) (hy) rfl (Nat.le_of_ble_eq_true rfl) (by decide) (by decide) (fun M2 r2 hq2 => ?_)
  obtain ⟨rfl, rfl⟩ := hq2
  refine j_astore d_S_confirm_12 (by decide) ?_
  refine j_aload d_S_confirm_14 rfl ?_
  refine j_ifnull d_S_confirm_16 ?_
  refine j_aload d_S_confirm_19 rfl ?_
  refine j_ifnull d_S_confirm_21 ?_
  refine j_iload_n d_S_confirm_24 rfl ?_
  refine j_callS (vs := [_]) d_S_confirm_25 w433 w434 w1 w435 y_S_isShard (by decide) (by decide) (k_isShard M2 (nI s)) rfl (Nat.le_of_ble_eq_true rfl) (by decide) (by decide) (fun M3 r3 hq3 => ?_)
  obtain ⟨rfl, rfl⟩ := hq3
  refine j_if_ne (tgt := 33) d_S_confirm_28 (by decide) (fun h28 => ?_) (fun h28 => False.elim (absurd (bP_t (p := 0 ≤ nI s ∧ nI s < 8) ⟨nI_pos' (by omega), nI_lt hs (by decide)⟩) (by rw [h28]; decide)))
  refine j_aload d_S_confirm_33 rfl ?_
  refine j_geti d_S_confirm_35 hNn f_S_124_T rfl (by decide) ?_
  refine j_eqi ld1 ?_
  refine j_if_ne (tgt := 44) d_S_confirm_38 (by decide) (fun h38 => ?_) (fun h38 => False.elim (absurd h38 (by rw [hl]; decide)))
  refine j_aload d_S_confirm_44 rfl ?_
  refine j_getR d_S_confirm_46 hNn f_S_154_T rfl (by decide) st1 ?_
  refine j_iload_n d_S_confirm_49 rfl ?_
  refine j_aaldR d_S_confirm_50 st2 (by decide) ts_107 (aIx.n hs (by decide)) d1 ?_
  refine j_geti d_S_confirm_51 d2.1 f_S_158_H rfl (by decide) ?_
  refine j_eqi b1 ?_
  refine j_iconst (v := 3) d_S_confirm_54 (by decide) ?_
  refine j_icmp_ne (tgt := 90) d_S_confirm_55 (by decide) (fun h55 => ?_) (fun h55 => ?_)
  · refine j_bipush (v := -4) d_S_confirm_90 (by decide) ?_
    refine j_ireturn d_S_confirm_92 rfl rfl ?_ (by decide) (by decide)
    exact ⟨rfl, rfl⟩
  · have k55 := i_eq (b := 3) (by omega) (by decide) h55
    refine j_aload d_S_confirm_58 rfl ?_
    refine j_getR d_S_confirm_60 hNn f_S_168_T rfl (by decide) hcq ?_
    refine j_getR d_S_confirm_63 cT f_S_172_C rfl (by decide) oR ?_
    refine j_iload_n d_S_confirm_66 rfl ?_
    refine j_iald d_S_confirm_67 oT (aIx.n hs (by decide)) ?_
    refine j_eqi (oV s hs) ?_
    refine j_aload d_S_confirm_68 rfl ?_
    refine j_geti d_S_confirm_70 hNm f_S_176_T rfl (by decide) ?_
    refine j_eqi sm0 ?_
    refine j_icmp_ne (tgt := 90) d_S_confirm_73 (by decide) (fun h73 => ?_) (fun h73 => ?_)
    · refine j_bipush (v := -4) d_S_confirm_90 (by decide) ?_
      refine j_ireturn d_S_confirm_92 rfl rfl ?_ (by decide) (by decide)
      exact ⟨rfl, rfl⟩
    · have k73 := i_eq (by omega) (by omega) h73
      refine j_aload d_S_confirm_76 rfl ?_
      refine j_iload_n d_S_confirm_78 rfl ?_
      refine j_aload d_S_confirm_79 rfl ?_
      refine j_geti d_S_confirm_81 hNn f_S_132_T rfl (by decide) ?_
      refine j_eqi n7 ?_
      refine j_callV (vs := [_, _]) d_S_confirm_84 hNm (by decide) rfl w554 w555 w5 w557 w556 y_T_hasReceived (by decide) (by decide) (k_hasReceived M3 m (sGp S m) h.1 h3m hm grm gvm s (sGp S n).1 hs g16) rfl (Nat.le_of_ble_eq_true rfl) (by decide) (by decide) (fun M4 r4 hq4 => ?_)
      obtain ⟨rfl, rfl⟩ := hq4
      refine j_if_ne (tgt := 93) d_S_confirm_87 (by decide) (fun h87 => False.elim (hno ⟨k55, k73, bP1 h87⟩)) (fun h87 => ?_)
      refine j_bipush (v := -4) d_S_confirm_90 (by decide) ?_
      refine j_ireturn d_S_confirm_92 rfl rfl ?_ (by decide) (by decide)
      exact ⟨rfl, rfl⟩
set_option maxRecDepth 20000 in
set_option maxHeartbeats 1000000 in
theorem k_confirm_w (M : aM) (S : aS) (t n s m : Nat) (h : cR M S) (hi : sInv S t) (h3 : 3 ≤ n) (hn : n < 12) (hs : s < 8) (h3m : 3 ≤ m) (hm : m < 12) (hx : aK m_S_upStore 1 0 0 M [.ref 0, .int (nI n)] (fun M1 r => M1 = M ∧ r = some (.ref (nd n)))) (hy : aK m_S_upStore 1 0 0 M [.ref 0, .int (nI m)] (fun M1 r => M1 = M ∧ r = some (.ref (nd m)))) (hl : sLd S n = true) (hy2 : cnOk S n s m) : aK m_S_confirm 3 1 3 M [.ref 0, .int (nI n), .int (nI s), .int (nI m)] (cQ M (oWr S n (eDl (sT S n) s (sGp S n).1))) := by
  refine aK.of (by decide) (Nat.le_of_ble_eq_true rfl) ?_
  have h0 := h.1.2.1
  have hr0 := h.1.2.2.1
  have hr1 := h.1.2.2.2.1
  have hr2 := h.1.2.2.2.2.1
  have hA1 := h.1.2.2.2.2.2.1
  have hA2 := h.1.2.2.2.2.2.2.1
  have hA3 := h.1.2.2.2.2.2.2.2.1
  have hNn := (cSh_T h.1 h3 hn).1
  have hNm := (cSh_T h.1 h3m hm).1
  have gv := hi.gp h3 hn
  have gr := (h.2 n hn).2.2.2.2.2.2 h3
  have gvm := hi.gp h3m hm
  have grm := (h.2 m hm).2.2.2.2.2.2 h3m
  have ld1 : mI M (nd n) 1 = bI (sLd S n) := (h.2 n hn).2.1
  have tm2 : mI M (nd n) 2 = nI (sT S n) := (h.2 n hn).2.2.1
  have g16 := gv.1
  have g16m := gvm.1
  have n7 := gr.1
  have n7m := grm.1
  obtain ⟨st0, st1, st2, st3⟩ := cSh_st h.1 h3 hn
  obtain ⟨sm0, sm1, sm2, sm3⟩ := cSh_st h.1 h3m hm
  obtain ⟨d1, d2⟩ := st3 s hs
  obtain ⟨dm1, dm2⟩ := sm3 s hs
  have b1 := (gr.2.2 s hs).1
  obtain ⟨bm1, bm2⟩ := grm.2.2 s hs
  have vc := gv.c hs
  have vcm := gvm.c hs
  have vo := (gv.2 s hs).1
  obtain ⟨cq, hcq, cI, cT, co, oI0, oR, oT, oV⟩ := gr.2.1
  refine j_aload_n d_S_confirm_0 rfl ?_
  refine j_iload_n d_S_confirm_1 rfl ?_
  refine j_callV (vs := [_]) d_S_confirm_2 (by assumption) (by decide) rfl w463 w465 w1 w466 ws_S_upStore y_S_upStore (by decide) (by decide) (hx) rfl (Nat.le_of_ble_eq_true rfl) (by decide) (by decide) (fun M1 r1 hq1 => ?_)
  obtain ⟨rfl, rfl⟩ := hq1
  refine j_astore d_S_confirm_5 (by decide) ?_
  refine j_aload_n d_S_confirm_7 rfl ?_
  refine j_iload_n d_S_confirm_8 rfl ?_
  refine j_callV (vs := [_]) d_S_confirm_9 (by assumption) (by decide) rfl w463 w465 w1 w466 ws_S_upStore y_S_upStore (by decide) (by decide) (hy) rfl (Nat.le_of_ble_eq_true rfl) (by decide) (by decide) (fun M2 r2 hq2 => ?_)
  obtain ⟨rfl, rfl⟩ := hq2
  refine j_astore d_S_confirm_12 (by decide) ?_
  refine j_aload d_S_confirm_14 rfl ?_
  refine j_ifnull d_S_confirm_16 ?_
  refine j_aload d_S_confirm_19 rfl ?_
  refine j_ifnull d_S_confirm_21 ?_
  refine j_iload_n d_S_confirm_24 rfl ?_
  refine j_callS (vs := [_]) d_S_confirm_25 w433 w434 w1 w435 y_S_isShard (by decide) (by decide) (k_isShard M2 (nI s)) rfl (Nat.le_of_ble_eq_true rfl) (by decide) (by decide) (fun M3 r3 hq3 => ?_)
  obtain ⟨rfl, rfl⟩ := hq3
  refine j_if_ne (tgt := 33) d_S_confirm_28 (by decide) (fun h28 => ?_) (fun h28 => False.elim (absurd (bP_t (p := 0 ≤ nI s ∧ nI s < 8) ⟨nI_pos' (by omega), nI_lt hs (by decide)⟩) (by rw [h28]; decide)))
  refine j_aload d_S_confirm_33 rfl ?_
  refine j_geti d_S_confirm_35 hNn f_S_124_T rfl (by decide) ?_
  refine j_eqi ld1 ?_
  refine j_if_ne (tgt := 44) d_S_confirm_38 (by decide) (fun h38 => ?_) (fun h38 => False.elim (absurd h38 (by rw [hl]; decide)))
  refine j_aload d_S_confirm_44 rfl ?_
  refine j_getR d_S_confirm_46 hNn f_S_154_T rfl (by decide) st1 ?_
  refine j_iload_n d_S_confirm_49 rfl ?_
  refine j_aaldR d_S_confirm_50 st2 (by decide) ts_107 (aIx.n hs (by decide)) d1 ?_
  refine j_geti d_S_confirm_51 d2.1 f_S_158_H rfl (by decide) ?_
  refine j_eqi b1 ?_
  refine j_iconst (v := 3) d_S_confirm_54 (by decide) ?_
  refine j_icmp_ne (tgt := 90) d_S_confirm_55 (by decide) (fun h55 => False.elim (h55 (by rw [hy2.1]; rfl))) (fun h55 => ?_)
  refine j_aload d_S_confirm_58 rfl ?_
  refine j_getR d_S_confirm_60 hNn f_S_168_T rfl (by decide) hcq ?_
  refine j_getR d_S_confirm_63 cT f_S_172_C rfl (by decide) oR ?_
  refine j_iload_n d_S_confirm_66 rfl ?_
  refine j_iald d_S_confirm_67 oT (aIx.n hs (by decide)) ?_
  refine j_eqi (oV s hs) ?_
  refine j_aload d_S_confirm_68 rfl ?_
  refine j_geti d_S_confirm_70 hNm f_S_176_T rfl (by decide) ?_
  refine j_eqi sm0 ?_
  refine j_icmp_ne (tgt := 90) d_S_confirm_73 (by decide) (fun h73 => False.elim (h73 (by rw [hy2.2.1]))) (fun h73 => ?_)
  refine j_aload d_S_confirm_76 rfl ?_
  refine j_iload_n d_S_confirm_78 rfl ?_
  refine j_aload d_S_confirm_79 rfl ?_
  refine j_geti d_S_confirm_81 hNn f_S_132_T rfl (by decide) ?_
  refine j_eqi n7 ?_
  refine j_callV (vs := [_, _]) d_S_confirm_84 hNm (by decide) rfl w554 w555 w5 w557 w556 y_T_hasReceived (by decide) (by decide) (k_hasReceived M3 m (sGp S m) h.1 h3m hm grm gvm s (sGp S n).1 hs g16) rfl (Nat.le_of_ble_eq_true rfl) (by decide) (by decide) (fun M4 r4 hq4 => ?_)
  obtain ⟨rfl, rfl⟩ := hq4
  refine j_if_ne (tgt := 93) d_S_confirm_87 (by decide) (fun h87 => ?_) (fun h87 => False.elim (absurd (bP_t hy2.2.2) (by rw [h87]; decide)))
  refine j_aload d_S_confirm_93 rfl ?_
  refine j_new d_S_confirm_95 n_S_183 (by decide) (by decide) (by decide) ?_
  have ne := Nat.ne_of_lt hNn.1
  refine j_dup d_S_confirm_98 ?_
  refine j_aload d_S_confirm_99 rfl ?_
  refine j_geti d_S_confirm_101 (hNn.up 10 0) f_S_127_T rfl (by decide) ?_
  refine j_eqi (show _ = nI (sT S n) by rw [mm_I_mN, if_neg ne]; exact tm2) ?_
  refine j_iload_n d_S_confirm_104 rfl ?_
  refine j_aload d_S_confirm_105 rfl ?_
  refine j_geti d_S_confirm_107 (hNn.up 10 0) f_S_132_T rfl (by decide) ?_
  refine j_eqi (show _ = nI (sGp S n).1 by rw [mm_I_mN, if_neg ne]; exact n7) ?_
  refine j_callI (vs := [_, _, _]) d_S_confirm_110 w560 w561 w15 w562 rfl rfl y_D_init (by decide) (by decide) (k_D_init (mN M4 10 0) (mSz M4) (nI (sT S n)) (nI s) (nI (sGp S n).1) (tO.new M4 10 0)) rfl (Nat.le_of_ble_eq_true rfl) (by decide) (by decide) (fun M5 r5 hq5 => ?_)
  obtain ⟨rfl, rfl⟩ := hq5
  have nw : onew M4 (sI (sI (sI (mN M4 10 0) (mSz M4) 0 (nI (sT S n))) (mSz M4) 1 (nI s)) (mSz M4) 2 (nI (sGp S n).1)) := (((onew.rf M4).mN.sI (Nat.le_refl _)).sI (Nat.le_refl _)).sI (Nat.le_refl _)
  have hE : eR (sI (sI (sI (mN M4 10 0) (mSz M4) 0 (nI (sT S n))) (mSz M4) 1 (nI s)) (mSz M4) 2 (nI (sGp S n).1)) (mSz M4) (eDl (sT S n) s (sGp S n).1) := by
    refine ⟨h.1.1, ?_, Or.inr (Or.inr (Or.inr (Or.inr (Or.inr ⟨rfl, tO.new M4 10 0, ?_, ?_⟩))))⟩
    · rw [mm_I_sI, if_neg (by omega), mm_I_sI, if_neg (by omega), mm_I_sI, if_pos ⟨rfl, rfl⟩]; rfl
    · rw [mm_I_sI, if_neg (by omega), mm_I_sI, if_pos ⟨rfl, rfl⟩]; rfl
    · rw [mm_I_sI, if_pos ⟨rfl, rfl⟩]; rfl
  refine j_callU (owner := "ShardGroups$Node") (vs := [_]) d_S_confirm_113 (hNn.up 10 0) (by decide) rfl w505 w245 w3 w249 w507 w506 (Or.inl rfl) y_N_write (by decide) (by decide) (k_wr_T h hi h3 hn nw hE (tO.new M4 10 0) (by decide) (by decide)) rfl (Nat.le_of_ble_eq_true rfl) (by decide) (by decide) (fun M6 r6 hq6 => ?_)
  obtain ⟨z, rfl⟩ := cQ_int hq6
  refine j_ireturn d_S_confirm_116 rfl rfl hq6 (by decide) (by decide)
theorem c_confirm (M : aM) (S : aS) (t : Nat) (x z y : Int32) (h : cR M S) (hi : sInv S t) : aK m_S_confirm 3 1 3 M [.ref 0, .int x, .int z, .int y] (cQ M (oConfirm S x z y)) := by
  have no : ∀ v : Int32, oConfirm S x z y = (S, v) → ∀ M1 r, (M1 = M ∧ r = some (.int v)) → cQ M (oConfirm S x z y) M1 r := by
    rintro v e M1 r ⟨rfl, rfl⟩
    rw [e]
    exact ⟨rfl, h, fM.rf _⟩
  have n1 : (∀ n, dG x = some n → sUp S n = false) → oConfirm S x z y = (S, -1) := by
    intro q
    unfold oConfirm
    cases ex : dG x with
    | none => rfl
    | some a =>
      cases ey : dG y with
      | none => rfl
      | some b =>
        cases ez : dN z 8 with
        | none => rfl
        | some s => simp only []; rw [if_neg (fun z => by rw [q a ex] at z; exact absurd z.1 (by decide))]
  have n2 : (∀ n, dG y = some n → sUp S n = false) → oConfirm S x z y = (S, -1) := by
    intro q
    unfold oConfirm
    cases ex : dG x with
    | none => rfl
    | some a =>
      cases ey : dG y with
      | none => rfl
      | some b =>
        cases ez : dN z 8 with
        | none => rfl
        | some s => simp only []; rw [if_neg (fun z => by rw [q b ey] at z; exact absurd z.2 (by decide))]
  rcases uT_cases h x with ⟨kx, qx⟩ | ⟨n, h3, hn, rfl, en, un, kx⟩
  · rcases uT_cases h y with ⟨ky, qy⟩ | ⟨m, h3m, hm, rfl, em, um, ky⟩
    · exact (k_confirm_2 M x z y h.1 kx ky).weaken (no _ (n1 qx))
    · exact (k_confirm_1 M x z (nI m) h.1 (nd m) kx ky).weaken (no _ (n1 qx))
  · rcases uT_cases h y with ⟨ky, qy⟩ | ⟨m, h3m, hm, rfl, em, um, ky⟩
    · exact (k_confirm_3 M (nI n) z y h.1 (nd n) kx ky).weaken (no _ (n2 qy))
    · rcases dN_cases z (N := 8) (by decide) with ⟨es, hz⟩ | ⟨s, hs, rfl, es⟩
      · exact (k_confirm_4 M (nI n) z (nI m) h.1 (nd n) (nd m) kx ky hz).weaken (no _ (by unfold oConfirm; rw [en, em, es]))
      · have e0 : oConfirm S (nI n) (nI s) (nI m) = if sLd S n = true then (if cnOk S n s m then oWr S n (eDl (sT S n) s (sGp S n).1) else (S, -4)) else (S, -2) := by
          unfold oConfirm
          rw [en, em, es]
          simp only []
          rw [if_pos ⟨un, um⟩]
        cases hl : sLd S n
        · exact (k_confirm_f M S t n s m h hi h3 hn hs h3m hm kx ky hl).weaken (no _ (by rw [e0, if_neg (by rw [hl]; decide)]))
        · by_cases q : cnOk S n s m
          · have e1 : oConfirm S (nI n) (nI s) (nI m) = oWr S n (eDl (sT S n) s (sGp S n).1) := by rw [e0, if_pos hl, if_pos q]
            rw [e1]
            exact k_confirm_w M S t n s m h hi h3 hn hs h3m hm kx ky hl q
          · exact (k_confirm_e M S t n s m h hi h3 hn hs h3m hm kx ky hl q).weaken (no _ (by rw [e0, if_pos hl, if_neg q]))
