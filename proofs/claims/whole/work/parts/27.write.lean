set_option maxRecDepth 20000 in
set_option maxHeartbeats 1000000 in
theorem k_E_init_E (M : aM) (o : Nat) (t : Int32) (ho : tO M o 5) : aK m_E_init 1 0 0 M [.ref o, .int t] (fun M1 r => r = none ∧ M1 = sI M o 0 t) := by
  refine aK.of (by decide) (Nat.le_of_ble_eq_true rfl) ?_
  refine j_aload_n d_E_init_0 rfl ?_
  refine j_objInit d_E_init_1 w238 w22 w23 (by decide) (Nat.le_of_ble_eq_true rfl) ?_
  refine j_aload_n d_E_init_4 rfl ?_
  refine j_iload_n d_E_init_5 rfl ?_
  refine j_putiF d_E_init_6 (by assumption) p_E_7_E rfl (by decide) rfl rfl rfl ?_
  refine j_return d_E_init_9 rfl ?_ (by decide) (by decide)
  exact ⟨rfl, rfl⟩
set_option maxRecDepth 20000 in
set_option maxHeartbeats 1000000 in
theorem k_E_init_G (M : aM) (o : Nat) (t : Int32) (ho : tO M o 6) : aK m_E_init 1 0 0 M [.ref o, .int t] (fun M1 r => r = none ∧ M1 = sI M o 0 t) := by
  refine aK.of (by decide) (Nat.le_of_ble_eq_true rfl) ?_
  refine j_aload_n d_E_init_0 rfl ?_
  refine j_objInit d_E_init_1 w238 w22 w23 (by decide) (Nat.le_of_ble_eq_true rfl) ?_
  refine j_aload_n d_E_init_4 rfl ?_
  refine j_iload_n d_E_init_5 rfl ?_
  refine j_putiF d_E_init_6 (by assumption) p_E_7_G rfl (by decide) rfl rfl rfl ?_
  refine j_return d_E_init_9 rfl ?_ (by decide) (by decide)
  exact ⟨rfl, rfl⟩
set_option maxRecDepth 20000 in
set_option maxHeartbeats 1000000 in
theorem k_E_init_F (M : aM) (o : Nat) (t : Int32) (ho : tO M o 7) : aK m_E_init 1 0 0 M [.ref o, .int t] (fun M1 r => r = none ∧ M1 = sI M o 0 t) := by
  refine aK.of (by decide) (Nat.le_of_ble_eq_true rfl) ?_
  refine j_aload_n d_E_init_0 rfl ?_
  refine j_objInit d_E_init_1 w238 w22 w23 (by decide) (Nat.le_of_ble_eq_true rfl) ?_
  refine j_aload_n d_E_init_4 rfl ?_
  refine j_iload_n d_E_init_5 rfl ?_
  refine j_putiF d_E_init_6 (by assumption) p_E_7_F rfl (by decide) rfl rfl rfl ?_
  refine j_return d_E_init_9 rfl ?_ (by decide) (by decide)
  exact ⟨rfl, rfl⟩
set_option maxRecDepth 20000 in
set_option maxHeartbeats 1000000 in
theorem k_E_init_R (M : aM) (o : Nat) (t : Int32) (ho : tO M o 8) : aK m_E_init 1 0 0 M [.ref o, .int t] (fun M1 r => r = none ∧ M1 = sI M o 0 t) := by
  refine aK.of (by decide) (Nat.le_of_ble_eq_true rfl) ?_
  refine j_aload_n d_E_init_0 rfl ?_
  refine j_objInit d_E_init_1 w238 w22 w23 (by decide) (Nat.le_of_ble_eq_true rfl) ?_
  refine j_aload_n d_E_init_4 rfl ?_
  refine j_iload_n d_E_init_5 rfl ?_
  refine j_putiF d_E_init_6 (by assumption) p_E_7_R rfl (by decide) rfl rfl rfl ?_
  refine j_return d_E_init_9 rfl ?_ (by decide) (by decide)
  exact ⟨rfl, rfl⟩
set_option maxRecDepth 20000 in
set_option maxHeartbeats 1000000 in
theorem k_E_init_I (M : aM) (o : Nat) (t : Int32) (ho : tO M o 9) : aK m_E_init 1 0 0 M [.ref o, .int t] (fun M1 r => r = none ∧ M1 = sI M o 0 t) := by
  refine aK.of (by decide) (Nat.le_of_ble_eq_true rfl) ?_
  refine j_aload_n d_E_init_0 rfl ?_
  refine j_objInit d_E_init_1 w238 w22 w23 (by decide) (Nat.le_of_ble_eq_true rfl) ?_
  refine j_aload_n d_E_init_4 rfl ?_
  refine j_iload_n d_E_init_5 rfl ?_
  refine j_putiF d_E_init_6 (by assumption) p_E_7_I rfl (by decide) rfl rfl rfl ?_
  refine j_return d_E_init_9 rfl ?_ (by decide) (by decide)
  exact ⟨rfl, rfl⟩
set_option maxRecDepth 20000 in
set_option maxHeartbeats 1000000 in
theorem k_E_init_D (M : aM) (o : Nat) (t : Int32) (ho : tO M o 10) : aK m_E_init 1 0 0 M [.ref o, .int t] (fun M1 r => r = none ∧ M1 = sI M o 0 t) := by
  refine aK.of (by decide) (Nat.le_of_ble_eq_true rfl) ?_
  refine j_aload_n d_E_init_0 rfl ?_
  refine j_objInit d_E_init_1 w238 w22 w23 (by decide) (Nat.le_of_ble_eq_true rfl) ?_
  refine j_aload_n d_E_init_4 rfl ?_
  refine j_iload_n d_E_init_5 rfl ?_
  refine j_putiF d_E_init_6 (by assumption) p_E_7_D rfl (by decide) rfl rfl rfl ?_
  refine j_return d_E_init_9 rfl ?_ (by decide) (by decide)
  exact ⟨rfl, rfl⟩
set_option maxRecDepth 20000 in
set_option maxHeartbeats 1000000 in
theorem k_G_init (M : aM) (o : Nat) (t k a b : Int32) (ho : tO M o 6) : aK m_G_init 2 0 0 M [.ref o, .int t, .int k, .int a, .int b] (fun M1 r => r = none ∧ M1 = sI (sI (sI (sI M o 0 t) o 1 k) o 2 a) o 3 b) := by
  refine aK.of (by decide) (Nat.le_of_ble_eq_true rfl) ?_
  refine j_aload_n d_G_init_0 rfl ?_
  refine j_iload_n d_G_init_1 rfl ?_
  refine j_callI (vs := [_]) d_G_init_2 w443 w236 w9 w237 rfl rfl y_E_init (by decide) (by decide) (k_E_init_G M o t ho) rfl (Nat.le_of_ble_eq_true rfl) (by decide) (by decide) (fun M1 r1 hq1 => ?_)
  obtain ⟨rfl, rfl⟩ := hq1
  refine j_aload_n d_G_init_5 rfl ?_
  refine j_iload_n d_G_init_6 rfl ?_
  refine j_putiF d_G_init_7 (by assumption) p_G_9_G rfl (by decide) rfl rfl rfl ?_
  refine j_aload_n d_G_init_10 rfl ?_
  refine j_iload_n d_G_init_11 rfl ?_
  refine j_putiF d_G_init_12 (by assumption) p_G_15_G rfl (by decide) rfl rfl rfl ?_
  refine j_aload_n d_G_init_15 rfl ?_
  refine j_iload d_G_init_16 rfl ?_
  refine j_putiF d_G_init_18 (by assumption) p_G_18_G rfl (by decide) rfl rfl rfl ?_
  refine j_return d_G_init_21 rfl ?_ (by decide) (by decide)
  exact ⟨rfl, rfl⟩
set_option maxRecDepth 20000 in
set_option maxHeartbeats 1000000 in
theorem k_R_init (M : aM) (o : Nat) (t x1 x2 x3 x4 x5 : Int32) (ho : tO M o 8) : aK m_R_init 2 0 0 M [.ref o, .int t, .int x1, .int x2, .int x3, .int x4, .int x5] (fun M1 r => r = none ∧ M1 = sI (sI (sI (sI (sI (sI M o 0 t) o 1 x1) o 2 x2) o 3 x3) o 4 x4) o 5 x5) := by
  refine aK.of (by decide) (Nat.le_of_ble_eq_true rfl) ?_
  refine j_aload_n d_R_init_0 rfl ?_
  refine j_iload_n d_R_init_1 rfl ?_
  refine j_callI (vs := [_]) d_R_init_2 w482 w236 w9 w237 rfl rfl y_E_init (by decide) (by decide) (k_E_init_R M o t ho) rfl (Nat.le_of_ble_eq_true rfl) (by decide) (by decide) (fun M1 r1 hq1 => ?_)
  obtain ⟨rfl, rfl⟩ := hq1
  refine j_aload_n d_R_init_5 rfl ?_
  refine j_iload_n d_R_init_6 rfl ?_
  refine j_putiF d_R_init_7 (by assumption) p_R_7_R rfl (by decide) rfl rfl rfl ?_
  refine j_aload_n d_R_init_10 rfl ?_
  refine j_iload_n d_R_init_11 rfl ?_
  refine j_putiF d_R_init_12 (by assumption) p_R_13_R rfl (by decide) rfl rfl rfl ?_
  refine j_aload_n d_R_init_15 rfl ?_
  refine j_iload d_R_init_16 rfl ?_
  refine j_putiF d_R_init_18 (by assumption) p_R_16_R rfl (by decide) rfl rfl rfl ?_
  refine j_aload_n d_R_init_21 rfl ?_
  refine j_iload d_R_init_22 rfl ?_
  refine j_putiF d_R_init_24 (by assumption) p_R_19_R rfl (by decide) rfl rfl rfl ?_
  refine j_aload_n d_R_init_27 rfl ?_
  refine j_iload d_R_init_28 rfl ?_
  refine j_putiF d_R_init_30 (by assumption) p_R_22_R rfl (by decide) rfl rfl rfl ?_
  refine j_return d_R_init_33 rfl ?_ (by decide) (by decide)
  exact ⟨rfl, rfl⟩
set_option maxRecDepth 20000 in
set_option maxHeartbeats 1000000 in
theorem k_F_init (M : aM) (o : Nat) (t k : Int32) (q : Nat) (ho : tO M o 7) : aK m_F_init 2 0 0 M [.ref o, .int t, .int k, .ref q] (fun M1 r => r = none ∧ M1 = sR (sI (sI M o 0 t) o 1 k) o 2 (some q)) := by
  refine aK.of (by decide) (Nat.le_of_ble_eq_true rfl) ?_
  refine j_aload_n d_F_init_0 rfl ?_
  refine j_iload_n d_F_init_1 rfl ?_
  refine j_callI (vs := [_]) d_F_init_2 w518 w236 w9 w237 rfl rfl y_E_init (by decide) (by decide) (k_E_init_F M o t ho) rfl (Nat.le_of_ble_eq_true rfl) (by decide) (by decide) (fun M1 r1 hq1 => ?_)
  obtain ⟨rfl, rfl⟩ := hq1
  refine j_aload_n d_F_init_5 rfl ?_
  refine j_iload_n d_F_init_6 rfl ?_
  refine j_putiF d_F_init_7 (by assumption) p_F_7_F rfl (by decide) rfl rfl rfl ?_
  refine j_aload_n d_F_init_10 rfl ?_
  refine j_aload_n d_F_init_11 rfl ?_
  refine j_putRF d_F_init_12 (by assumption) p_F_13_F rfl (by decide) (fun z => by cases z <;> rfl) (fun z => by cases z <;> rfl) rfl ?_
  refine j_return d_F_init_15 rfl ?_ (by decide) (by decide)
  exact ⟨rfl, rfl⟩
set_option maxRecDepth 20000 in
set_option maxHeartbeats 1000000 in
theorem k_D_init (M : aM) (o : Nat) (t x1 x2 : Int32) (ho : tO M o 10) : aK m_D_init 2 0 0 M [.ref o, .int t, .int x1, .int x2] (fun M1 r => r = none ∧ M1 = sI (sI (sI M o 0 t) o 1 x1) o 2 x2) := by
  refine aK.of (by decide) (Nat.le_of_ble_eq_true rfl) ?_
  refine j_aload_n d_D_init_0 rfl ?_
  refine j_iload_n d_D_init_1 rfl ?_
  refine j_callI (vs := [_]) d_D_init_2 w563 w236 w9 w237 rfl rfl y_E_init (by decide) (by decide) (k_E_init_D M o t ho) rfl (Nat.le_of_ble_eq_true rfl) (by decide) (by decide) (fun M1 r1 hq1 => ?_)
  obtain ⟨rfl, rfl⟩ := hq1
  refine j_aload_n d_D_init_5 rfl ?_
  refine j_iload_n d_D_init_6 rfl ?_
  refine j_putiF d_D_init_7 (by assumption) p_D_9_D rfl (by decide) rfl rfl rfl ?_
  refine j_aload_n d_D_init_10 rfl ?_
  refine j_iload_n d_D_init_11 rfl ?_
  refine j_putiF d_D_init_12 (by assumption) p_D_15_D rfl (by decide) rfl rfl rfl ?_
  refine j_return d_D_init_15 rfl ?_ (by decide) (by decide)
  exact ⟨rfl, rfl⟩
def oWr (S : aS) (n : Nat) (E : Nat → Nat) : aS × Int32 := if sLn S n = 80 then (S, -3) else ((sUp S, sLd S, sT S, fu (sLn S) n (sLn S n + 1), sKn S, fu (sLg S) n (fu (sLg S n) (sLn S n) E)), nI (sLn S n + 1))
def eM (l : List Nat) : Nat → Nat := fun i => l.getD i 0
theorem svc_congr {l1 l2 : aLg} : ∀ K, (∀ k, k < K → l1 k = l2 k) → svc l1 K = svc l2 K
  | 0, _ => rfl
  | K + 1, h => by
    show svStep (svc l1 K) (l1 K) = svStep (svc l2 K) (l2 K)
    rw [svc_congr K (fun k hk => h k (by omega)), h K (by omega)]
theorem grp_congr {g : Nat} {l1 l2 : aLg} : ∀ K, (∀ k, k < K → l1 k = l2 k) → grp g l1 K = grp g l2 K
  | 0, _ => rfl
  | K + 1, h => by
    show gpStep g (grp g l1 K) (l1 K) = gpStep g (grp g l2 K) (l2 K)
    rw [grp_congr K (fun k hk => h k (by omega)), h K (by omega)]
theorem cSh_sm {M M1 : aM} (hz : mSz M ≤ mSz M1) (hs : ∀ a, a < 332 → sm M M1 a) (h : cSh M) : cSh M1 := by
  obtain ⟨h0, h1, h2, h3, h4, h5, h6, h7, h8, h9, ha, hb⟩ := h
  refine ⟨by omega, (hs 0 (by omega)).tO hz h1, (hs 0 (by omega)).R h2, (hs 0 (by omega)).R h3, (hs 0 (by omega)).R h4, (hs 1 (by omega)).tA hz h5, (hs 2 (by omega)).tA hz h6, (hs 3 (by omega)).tA hz h7, fun n hn => ?_, fun n hn => ?_, fun n hn => ?_, fun n g1 g2 => ?_⟩
  · obtain ⟨b1, b2, b3, b4⟩ := h8 n hn
    have := nd_hi hn
    exact ⟨(hs 1 (by omega)).R b1, (hs (nd n) (by omega)).tO hz b2, (hs (nd n) (by omega)).R b3, (hs (nd n + 1) (by omega)).tA hz b4⟩
  · obtain ⟨b1, b2, b3⟩ := h9 n hn
    have := nd_hi (show n < 12 by omega)
    exact ⟨(hs 2 (by omega)).R b1, (hs (nd n) (by omega)).R b2, (hs (nd n + 2) (by omega)).tA hz b3⟩
  · exact (hs 3 (by omega)).R (ha n hn)
  · obtain ⟨b1, b2, b3, b4⟩ := hb n g1 g2
    have := nd_hi3 g2 g1
    refine ⟨(hs (nd n) (by omega)).I b1, (hs (nd n) (by omega)).R b2, (hs (nd n + 2) (by omega)).tA hz b3, fun s hs1 => ?_⟩
    obtain ⟨c1, c2, c3, c4, c5, c6, c7, c8⟩ := b4 s hs1
    have e0 := hs (nd n + 3 + 4 * s) (by omega)
    exact ⟨(hs (nd n + 2) (by omega)).R c1, e0.tO hz c2, e0.R c3, e0.R c4, e0.R c5, (hs (nd n + 3 + 4 * s + 1) (by omega)).tA hz c6, (hs (nd n + 3 + 4 * s + 2) (by omega)).tA hz c7, (hs (nd n + 3 + 4 * s + 3) (by omega)).tA hz c8⟩
theorem cR_sm {M M1 : aM} {S : aS} (st : stb M M1) (hs : ∀ a, a < 332 → sm M M1 a) (h : cR M S) : cR M1 S :=
  ⟨cSh_sm st.1 hs h.1, fun n hn => (h.2 n hn).keep st (fun i hi => hs _ (nd_in hn hi).2) rfl rfl rfl rfl rfl rfl⟩
/-- an entry comes to the end of a log -/
theorem cR_write {M : aM} {S : aS} {n e : Nat} {E : Nat → Nat} (h : cR M S) (hn : n < 12) (he : eR M e E) (hl : sLn S n < 80) (hk : sKn S n ≤ sLn S n) :
    cR (sI (sR M (nd n + 1) (sLn S n) (some e)) (nd n) 3 (nI (sLn S n + 1))) (oWr S n E).1 := by
  have w := wd_3 n
  unfold oWr
  rw [if_neg (by omega)]
  have hfx : ¬ fx (nd n + 1) (sLn S n) := by
    have := nd_lo n
    rintro (q | ⟨m, q1, q2, -⟩ | ⟨m, q1, q2, q3⟩ | ⟨m, s, q1, q2, q3, q4⟩)
    · omega
    · by_cases e9 : n = m
      · subst e9; omega
      · exact nd_apart (i := 1) (j := 0) hn q1 e9 (by omega) (by have := wd_3 m; omega) q2
    · by_cases e9 : n = m
      · subst e9; omega
      · exact nd_apart (i := 1) (j := 2) hn q2 e9 (by omega) (by have := wd_3 m; omega) q3
    · by_cases e9 : n = m
      · subst e9; omega
      · exact nd_apart (i := 1) (j := 3 + 4 * s) hn q2 e9 (by omega) (by rw [wd_35 q1]; omega) (by omega)
  have st : stb M (sI (sR M (nd n + 1) (sLn S n) (some e)) (nd n) 3 (nI (sLn S n + 1))) := stb_nd hn ((stb.rf M).sR (Or.inl (nd_im hn (by omega))))
  refine ⟨cSh_sI (cSh_sR h.1 hfx) (Or.inl (by decide)), fun m hm => ?_⟩
  by_cases hmn : m = n
  · subst hmn
    obtain ⟨a0, a1, a2, a4, ⟨a5, a6⟩, a7, a8⟩ := h.2 m hm
    refine ⟨?_, ?_, ?_, ?_, ⟨?_, fun k hk1 => ?_⟩, fun h3 => ?_, fun h3 => ?_⟩
    · rw [mm_I_sI, if_neg (by omega)]; exact a0
    · rw [mm_I_sI, if_neg (by omega)]; exact a1
    · rw [mm_I_sI, if_neg (by omega)]; exact a2
    · rw [mm_I_sI, if_neg (by omega)]; exact a4
    · rw [mm_I_sI, if_pos ⟨rfl, rfl⟩]; show _ = nI (fu (sLn S) m (sLn S m + 1) m); rw [fu_s]
    · have hk2 : k < sLn S m + 1 := by
        have : k < fu (sLn S) m (sLn S m + 1) m := hk1
        rw [fu_s] at this; exact this
      show ∃ e, _ ∧ eR _ e (fu (sLg S) m (fu (sLg S m) (sLn S m) E) m k)
      rw [fu_s, mm_R_sI, mm_R_sR]
      by_cases q : k = sLn S m
      · subst q
        rw [if_pos ⟨rfl, rfl⟩, fu_s]
        exact ⟨e, rfl, he.st st⟩
      · rw [if_neg (fun z => q z.2), fu_n _ _ q]
        obtain ⟨e1, b1, b2⟩ := a6 k (by omega)
        exact ⟨e1, b1, b2.st st⟩
    · have e9 : sSv (sUp S, sLd S, sT S, fu (sLn S) m (sLn S m + 1), sKn S, fu (sLg S) m (fu (sLg S m) (sLn S m) E)) m = sSv S m := by
        show svc (fu (sLg S) m (fu (sLg S m) (sLn S m) E) m) (sKn S m) = svc (sLg S m) (sKn S m)
        rw [fu_s]
        exact svc_congr _ (fun k hk1 => fu_n _ _ (by omega))
      rw [e9]
      refine (a7 h3).keep st ?_ (fun k => ?_)
      · rw [mm_I_sI, if_neg (by omega)]; rfl
      · rw [mm_R_sI, mm_R_sR, if_neg (by omega)]
    · have e9 : sGp (sUp S, sLd S, sT S, fu (sLn S) m (sLn S m + 1), sKn S, fu (sLg S) m (fu (sLg S m) (sLn S m) E)) m = sGp S m := by
        show grp (m / 3) (fu (sLg S) m (fu (sLg S m) (sLn S m) E) m) (sKn S m) = grp (m / 3) (sLg S m) (sKn S m)
        rw [fu_s]
        exact grp_congr _ (fun k hk1 => fu_n _ _ (by omega))
      rw [e9]
      refine (a8 h3).keep st ?_ ?_ (fun i h1 h2 k => ?_)
      · rw [mm_I_sI, if_neg (by omega)]; rfl
      · rw [mm_R_sI, mm_R_sR, if_neg (by omega)]
      · rw [mm_I_sI, if_neg (by omega)]; rfl
  · exact (h.2 m hm).keep st (sm_other (i := 0) hm hn hmn (wd0 n) (sm_otherR hm hn hmn (by omega) (fun j _ => sm.rf M _))) rfl rfl rfl (fu_n _ _ hmn) rfl (fu_n _ _ hmn)
theorem fM_write {M : aM} {n k e : Nat} {x : Int32} (hn : n < 12) : fM M (sI (sR M (nd n + 1) k (some e)) (nd n) 3 x) := fM_nd (i := 0) hn (wd0 n) (fM_ndR hn (by have := wd_3 n; omega) (fM.rf M))
/-- a new cell, and writes to it alone -/
def onew (M M1 : aM) : Prop := mSz M ≤ mSz M1 ∧ ∀ a, a < mSz M → sm M M1 a
theorem onew.rf (M : aM) : onew M M := ⟨Nat.le_refl _, fun a _ => sm.rf M a⟩
theorem onew.mN {M M1 : aM} {kd ln : Nat} (h : onew M M1) : onew M (mN M1 kd ln) := ⟨Nat.le_succ_of_le h.1, fun a ha => (h.2 a ha).mN (by have := h.1; omega)⟩
theorem onew.sI {M M1 : aM} {o k : Nat} {x : Int32} (h : onew M M1) (ho : mSz M ≤ o) : onew M (sI M1 o k x) := ⟨h.1, fun a ha => (h.2 a ha).sI (by omega)⟩
theorem onew.sR {M M1 : aM} {o k : Nat} {x : Option Nat} (h : onew M M1) (ho : mSz M ≤ o) : onew M (sR M1 o k x) := ⟨h.1, fun a ha => (h.2 a ha).sR (by omega)⟩
theorem onew.sC {M M1 : aM} {o sp q dp n : Nat} (h : onew M M1) (ho : mSz M ≤ q) : onew M (sC M1 o sp q dp n) := ⟨h.1, fun a ha => (h.2 a ha).sC (by omega)⟩
theorem onew.stb {M M1 : aM} (h : onew M M1) : stb M M1 := ⟨h.1, fun a _ ha => h.2 a ha⟩
theorem onew.cR {M M1 : aM} {S : aS} (h : onew M M1) (g : cR M S) : cR M1 S := cR_sm h.stb (fun a ha => h.2 a (by have := g.1.1; omega)) g
theorem onew.fM {M M1 : aM} (hz : 345 ≤ mSz M) (h : onew M M1) : fM M M1 := ⟨h.1, fun a _ h2 => h.2 a (by omega)⟩

