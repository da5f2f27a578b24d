theorem fG_new (M : aM) (t k a b : Int32) : onew M (fG (mN M 6 0) (mSz M) t k a b) := by
  unfold fG
  exact ((((onew.rf M).mN.sI (Nat.le_refl _)).sI (Nat.le_refl _)).sI (Nat.le_refl _)).sI (Nat.le_refl _)
theorem fR_new (M : aM) (t x1 x2 x3 x4 x5 : Int32) : onew M (fR (mN M 8 0) (mSz M) t x1 x2 x3 x4 x5) := by
  unfold fR
  exact ((((((onew.rf M).mN.sI (Nat.le_refl _)).sI (Nat.le_refl _)).sI (Nat.le_refl _)).sI (Nat.le_refl _)).sI (Nat.le_refl _)).sI (Nat.le_refl _)
theorem ex_of_chOk {k a b : Int32} (h : chOk k a b) : 0 ≤ k ∧ 0 ≤ a ∧ iN k ≤ 2 ∧ (k = 2 → 0 ≤ b) ∧ (iN k = 2 ↔ k = 2) := by
  have z1 : ∀ x : Int32, 1 ≤ x → 0 ≤ x := fun x hx => Int32.le_trans (by decide) hx
  rcases h with ⟨rfl, ha, hb⟩ | ⟨rfl | rfl, ha⟩
  · exact ⟨by decide, ha.1, by decide, fun _ => z1 _ hb.1, by decide⟩
  · exact ⟨by decide, z1 _ ha.1, by decide, fun q => absurd q (by decide), by decide⟩
  · exact ⟨by decide, z1 _ ha.1, by decide, fun q => absurd q (by decide), by decide⟩
theorem eCh_R {M : aM} {t : Nat} {k a b : Int32} (hz : 345 ≤ mSz M) (h : chOk k a b) : eR (fG (mN M 6 0) (mSz M) (nI t) k a b) (mSz M) (eCh t (iN k) (iN a) (iN b)) := by
  obtain ⟨h1, h2, h3, h4, h5⟩ := ex_of_chOk h
  refine ⟨hz, ?_, Or.inr (Or.inl ⟨⟨?_, ?_⟩, tO.new M 6 0, ?_, ?_, fun q => ?_⟩)⟩
  · unfold fG; simp only [mm_I_sI]; rfl
  · show 1 ≤ 1 + iN k; omega
  · show 1 + iN k ≤ 3; omega
  · show mI (fG _ _ _ _ _ _) _ 1 = nI (1 + iN k - 1)
    rw [show 1 + iN k - 1 = iN k by omega, iN_nI h1]
    unfold fG; simp only [mm_I_sI]; rfl
  · show _ = nI (iN a)
    rw [iN_nI h2]
    unfold fG; simp only [mm_I_sI]; rfl
  · have q' : 1 + iN k = 3 := q
    have hk : iN k = 2 := by omega
    show _ = nI (if iN k = 2 then iN b else 0)
    rw [if_pos hk, iN_nI (h4 (h5.mp hk))]
    unfold fG; simp only [mm_I_sI]; rfl
theorem eRq_R {M : aM} {t : Nat} {c n k y v : Int32} (hz : 345 ≤ mSz M) (h : rqOk c n k y v) : eR (fR (mN M 8 0) (mSz M) (nI t) c n k y v) (mSz M) (eRq t (iN c) (iN n) (iN k) (iN y) (iN v)) := by
  obtain ⟨h1, h2, h3, h4, h5, h6, h7, h8⟩ := h
  refine ⟨hz, ?_, Or.inr (Or.inr (Or.inr (Or.inl ⟨rfl, tO.new M 8 0, ?_, ?_, ?_, ?_, ?_⟩)))⟩
  · unfold fR; simp only [mm_I_sI]; rfl
  · show _ = nI (iN c); rw [iN_nI h1.1]; unfold fR; simp only [mm_I_sI]; rfl
  · show _ = nI (iN n); rw [iN_nI (Int32.le_trans (by decide) h3)]; unfold fR; simp only [mm_I_sI]; rfl
  · show _ = nI (iN k); rw [iN_nI h5]; unfold fR; simp only [mm_I_sI]; rfl
  · show _ = nI (iN y); rw [iN_nI h2.1]; unfold fR; simp only [mm_I_sI]; rfl
  · show _ = nI (iN v); rw [iN_nI h7]; unfold fR; simp only [mm_I_sI]; rfl
/-- a call that has made an entry and writes it -/
theorem cQ_write {M M' : aM} {S : aS} {n e : Nat} {E : Nat → Nat} (h : cR M S) (hn : n < 12) (hl : sLn S n ≤ 80) (hk : sKn S n ≤ sLn S n) (hnew : onew M M') (he : eR M' e E) :
    ∀ M1 r, (if sLn S n = 80 then M1 = M' ∧ r = some (.int (-3)) else M1 = sI (sR M' (nd n + 1) (sLn S n) (some e)) (nd n) 3 (nI (sLn S n + 1)) ∧ r = some (.int (nI (sLn S n + 1)))) → cQ M (oWr S n E) M1 r := by
  intro M1 r hq
  have h' := hnew.cR h
  have f' := hnew.fM h.1.1
  by_cases q : sLn S n = 80
  · rw [if_pos q] at hq
    obtain ⟨rfl, rfl⟩ := hq
    unfold oWr; rw [if_pos q]
    exact ⟨rfl, h', f'⟩
  · rw [if_neg q] at hq
    obtain ⟨rfl, rfl⟩ := hq
    refine ⟨by unfold oWr; rw [if_neg q], cR_write h' hn he (by omega) hk, f'.tr (fM_write hn)⟩
theorem c_change (M : aM) (S : aS) (t : Nat) (x k a b : Int32) (h : cR M S) (hi : sInv S t) : aK m_S_change 3 1 4 M [.ref 0, .int x, .int k, .int a, .int b] (cQ M (oChange S x k a b)) := by
  rcases dN_cases x (N := 3) (by decide) with ⟨e, hx⟩ | ⟨n, hn, rfl, e⟩
  · refine (k_change_n M x k a b h.1 (k_upV_2 M x h.1 hx)).weaken ?_
    rintro M1 r ⟨rfl, rfl⟩
    unfold oChange; rw [e]
    exact ⟨rfl, h, fM.rf _⟩
  · obtain ⟨i1, i2, i3, i4⟩ := hi.1 n (by omega)
    have hu0 := (h.2 n (by omega)).1
    cases hu : sUp S n
    · rw [hu] at hu0
      refine (k_change_n M (nI n) k a b h.1 (k_upV_1 M n h.1 hn (by rw [hu0]; rfl))).weaken ?_
      rintro M1 r ⟨rfl, rfl⟩
      unfold oChange; rw [e]; simp only [hu]
      exact ⟨rfl, h, fM.rf _⟩
    · rw [hu] at hu0
      have hu1 : mI M (nd n) 0 ≠ 0 := by rw [hu0]; decide
      by_cases hc : chOk k a b
      · have hl0 := (h.2 n (by omega)).2.1
        cases hl : sLd S n
        · rw [hl] at hl0
          refine (k_change_f M n k a b h.1 hn hu1 hc (by rw [hl0]; rfl)).weaken ?_
          rintro M1 r ⟨rfl, rfl⟩
          unfold oChange; rw [e]; simp only [hu, hl, hc, and_self, if_true]
          exact ⟨rfl, h, fM.rf _⟩
        · rw [hl] at hl0
          refine (k_change_w M n k a b h.1 hn hu1 hc (by rw [hl0]; decide) (sLn S n) (h.2 n (by omega)).2.2.2.2.1.1 i1).weaken ?_
          have eo : oChange S (nI n) k a b = oWr S n (eCh (sT S n) (iN k) (iN a) (iN b)) := by
            unfold oChange; rw [e]; simp only [hu, hl, hc, and_self, if_true]
          rw [eo]
          refine cQ_write h (by omega) i1 i2 (fG_new M _ k a b) ?_
          rw [(h.2 n (by omega)).2.2.1]
          exact eCh_R h.1.1 hc
      · refine (k_change_b M n k a b h.1 hn hu1 hc).weaken ?_
        rintro M1 r ⟨rfl, rfl⟩
        unfold oChange; rw [e]; simp only [hc, and_false, if_false]
        exact ⟨rfl, h, fM.rf _⟩
theorem c_request (M : aM) (S : aS) (t : Nat) (x c n k y v : Int32) (h : cR M S) (hi : sInv S t) : aK m_S_request 3 1 6 M [.ref 0, .int x, .int c, .int n, .int k, .int y, .int v] (cQ M (oRequest S x c n k y v)) := by
  rcases dG_cases x with ⟨e, hx⟩ | ⟨m, h3, hm, rfl, e⟩
  · refine (k_request_n M x c n k y v h.1 (k_upT_2 M x h.1 hx)).weaken ?_
    rintro M1 r ⟨rfl, rfl⟩
    unfold oRequest; rw [e]
    exact ⟨rfl, h, fM.rf _⟩
  · obtain ⟨i1, i2, i3, i4⟩ := hi.1 m hm
    have hu0 := (h.2 m hm).1
    cases hu : sUp S m
    · rw [hu] at hu0
      refine (k_request_n M (nI m) c n k y v h.1 (k_upT_1 M m h.1 h3 hm (by rw [hu0]; rfl))).weaken ?_
      rintro M1 r ⟨rfl, rfl⟩
      unfold oRequest; rw [e]; simp only [hu]
      exact ⟨rfl, h, fM.rf _⟩
    · rw [hu] at hu0
      have hu1 : mI M (nd m) 0 ≠ 0 := by rw [hu0]; decide
      by_cases hc : rqOk c n k y v
      · have hl0 := (h.2 m hm).2.1
        cases hl : sLd S m
        · rw [hl] at hl0
          refine (k_request_f M m c n k y v h.1 h3 hm hu1 hc (by rw [hl0]; rfl)).weaken ?_
          rintro M1 r ⟨rfl, rfl⟩
          have eo : oRequest S (nI m) c n k y v = (S, -2) := by
            unfold oRequest; rw [e]; simp only []; rw [if_pos ⟨hu, hc⟩, hl]; rfl
          rw [eo]
          exact ⟨rfl, h, fM.rf _⟩
        · rw [hl] at hl0
          refine (k_request_w M m c n k y v h.1 h3 hm hu1 hc (by rw [hl0]; decide) (sLn S m) (h.2 m hm).2.2.2.2.1.1 i1).weaken ?_
          have eo : oRequest S (nI m) c n k y v = oWr S m (eRq (sT S m) (iN c) (iN n) (iN k) (iN y) (iN v)) := by
            unfold oRequest; rw [e]; simp only []; rw [if_pos ⟨hu, hc⟩, if_pos hl]
          rw [eo]
          refine cQ_write h hm i1 i2 (fR_new M _ c n k y v) ?_
          rw [(h.2 m hm).2.2.1]
          exact eRq_R h.1.1 hc
      · refine (k_request_b M m c n k y v h.1 h3 hm hu1 hc).weaken ?_
        rintro M1 r ⟨rfl, rfl⟩
        have eo : oRequest S (nI m) c n k y v = (S, -1) := by
          unfold oRequest; rw [e]; simp only []; rw [if_neg (fun q => hc q.2)]
        rw [eo]
        exact ⟨rfl, h, fM.rf _⟩
