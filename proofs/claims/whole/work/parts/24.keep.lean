theorem nd_lo (n : Nat) : 8 ≤ nd n := by unfold nd; split <;> omega
theorem nd_hi {n : Nat} (h : n < 12) : nd n + 3 ≤ 332 := by unfold nd; split <;> omega
theorem nd_hi3 {n : Nat} (h : n < 12) (h3 : 3 ≤ n) : nd n + 35 ≤ 332 := by unfold nd; rw [if_neg (by omega)]; omega
def wd (n : Nat) : Nat := if n < 3 then 3 else 35
theorem nd_apart {m n i j : Nat} (hm : m < 12) (hn : n < 12) (h : m ≠ n) (hi : i < wd m) (hj : j < wd n) : nd m + i ≠ nd n + j := by
  unfold wd at hi hj
  unfold nd
  split at hi <;> split at hj <;> rename_i a b
  · rw [if_pos a, if_pos b]; omega
  · rw [if_pos a, if_neg b]; omega
  · rw [if_neg a, if_pos b]; omega
  · rw [if_neg a, if_neg b]; omega
theorem wd_3 (n : Nat) : 3 ≤ wd n := by unfold wd; split <;> omega
theorem wd_35 {n : Nat} (h : 3 ≤ n) : wd n = 35 := by unfold wd; rw [if_neg (by omega)]
theorem nd_im {n i : Nat} (hn : n < 12) (hi : i < wd n) : ¬ im (nd n + i) := by
  have h1 := nd_lo n
  have h2 : nd n + wd n ≤ 332 := by
    unfold nd wd; split <;> omega
  unfold im
  omega
theorem nd_in {n i : Nat} (hn : n < 12) (hi : i < wd n) : 8 ≤ nd n + i ∧ nd n + i < 332 := by
  have h1 := nd_lo n
  have h2 : nd n + wd n ≤ 332 := by
    unfold nd wd; split <;> omega
  omega
/-- what the shape speaks of -/
def fx (a k : Nat) : Prop := a ≤ 3 ∨ (∃ n, n < 12 ∧ a = nd n ∧ k ≠ 8) ∨ (∃ n, 3 ≤ n ∧ n < 12 ∧ a = nd n + 2) ∨ ∃ n s, 3 ≤ n ∧ n < 12 ∧ s < 8 ∧ a = nd n + 3 + 4 * s
theorem ndS_sR {M : aM} {a ci o k : Nat} {x : Option Nat} (h : ndS M a ci) (hn : ¬ (o = a ∧ k = 5)) : ndS (sR M o k x) a ci := ⟨h.1, by rw [mm_R_sR, if_neg (fun q => hn ⟨q.1.symm, q.2.symm⟩)]; exact h.2.1, h.2.2⟩
theorem cSh_sI {M : aM} {o k : Nat} {x : Int32} (h : cSh M) (hk : k ≠ 6 ∨ ∀ n, n < 12 → o ≠ nd n) : cSh (sI M o k x) := by
  obtain ⟨h0, h1, h2, h3, h4, h5, h6, h7, h8, h9, ha, hb⟩ := h
  refine ⟨h0, h1, h2, h3, h4, h5, h6, h7, h8, h9, ha, fun n g1 g2 => ?_⟩
  obtain ⟨b1, b2⟩ := hb n g1 g2
  refine ⟨?_, b2⟩
  rw [mm_I_sI, if_neg]
  · exact b1
  · rintro ⟨e1, e2⟩
    rcases hk with q | q
    · exact q e2.symm
    · exact q n g2 e1.symm
theorem cSh_sC {M : aM} {o sp q dp n : Nat} (h : cSh M) (hk : ∀ n, n < 12 → q ≠ nd n) : cSh (sC M o sp q dp n) := by
  obtain ⟨h0, h1, h2, h3, h4, h5, h6, h7, h8, h9, ha, hb⟩ := h
  refine ⟨h0, h1, h2, h3, h4, h5, h6, h7, h8, h9, ha, fun n g1 g2 => ?_⟩
  obtain ⟨b1, b2⟩ := hb n g1 g2
  refine ⟨?_, b2⟩
  rw [mm_I_sC, if_neg]
  · exact b1
  · rintro ⟨e1, -⟩
    exact hk n g2 e1.symm
theorem cSh_sR {M : aM} {o k : Nat} {x : Option Nat} (h : cSh M) (hk : ¬ fx o k) : cSh (sR M o k x) := by
  obtain ⟨h0, h1, h2, h3, h4, h5, h6, h7, h8, h9, ha, hb⟩ := h
  have F : ∀ a j, fx a j → mR (sR M o k x) a j = mR M a j := by
    intro a j q
    rw [mm_R_sR, if_neg]
    rintro ⟨e1, e2⟩
    subst e1; subst e2
    exact hk q
  refine ⟨h0, h1, ?_, ?_, ?_, h5, h6, h7, fun n hn => ?_, fun n hn => ?_, fun n hn => ?_, fun n g1 g2 => ?_⟩
  · rw [F 0 0 (Or.inl (by omega))]; exact h2
  · rw [F 0 1 (Or.inl (by omega))]; exact h3
  · rw [F 0 2 (Or.inl (by omega))]; exact h4
  · obtain ⟨b1, b2, b3, b4⟩ := h8 n hn
    refine ⟨?_, b2, ?_, b4⟩
    · rw [F 1 n (Or.inl (by omega))]; exact b1
    · rw [F (nd n) 5 (Or.inr (Or.inl ⟨n, hn, rfl, by decide⟩))]; exact b3
  · obtain ⟨b1, b2, b3⟩ := h9 n hn
    refine ⟨?_, ?_, b3⟩
    · rw [F 2 n (Or.inl (by omega))]; exact b1
    · rw [F (nd n) 6 (Or.inr (Or.inl ⟨n, by omega, rfl, by decide⟩))]; exact b2
  · rw [F 3 n (Or.inl (by omega))]; exact ha n hn
  · obtain ⟨b1, b2, b3, b4⟩ := hb n g1 g2
    refine ⟨b1, ?_, b3, fun s hs => ?_⟩
    · rw [F (nd n) 9 (Or.inr (Or.inl ⟨n, by omega, rfl, by decide⟩))]; exact b2
    · obtain ⟨c1, c2, c3, c4, c5, c6⟩ := b4 s hs
      have fs : ∀ j, fx (nd n + 3 + 4 * s) j := fun j => Or.inr (Or.inr (Or.inr ⟨n, s, g1, g2, hs, rfl⟩))
      refine ⟨?_, c2, ?_, ?_, ?_, c6⟩
      · rw [F (nd n + 2) s (Or.inr (Or.inr (Or.inl ⟨n, g1, g2, rfl⟩)))]; exact c1
      · rw [F _ 1 (fs 1)]; exact c3
      · rw [F _ 2 (fs 2)]; exact c4
      · rw [F _ 3 (fs 3)]; exact c5
theorem cSh_mN {M : aM} {kd ln : Nat} (h : cSh M) : cSh (mN M kd ln) := by
  obtain ⟨h0, h1, h2, h3, h4, h5, h6, h7, h8, h9, ha, hb⟩ := h
  have R : ∀ a j, a < 332 → mR (mN M kd ln) a j = mR M a j := fun a j q => by rw [mm_R_mN, if_neg (by omega)]
  have I : ∀ a j, a < 332 → mI (mN M kd ln) a j = mI M a j := fun a j q => by rw [mm_I_mN, if_neg (by omega)]
  refine ⟨Nat.le_succ_of_le h0, h1.up _ _, ?_, ?_, ?_, h5.up _ _, h6.up _ _, h7.up _ _, fun n hn => ?_, fun n hn => ?_, fun n hn => ?_, fun n g1 g2 => ?_⟩
  · rw [R 0 0 (by omega)]; exact h2
  · rw [R 0 1 (by omega)]; exact h3
  · rw [R 0 2 (by omega)]; exact h4
  · obtain ⟨b1, b2, b3, b4⟩ := h8 n hn
    have := nd_hi hn
    refine ⟨?_, b2.up _ _, ?_, b4.up _ _⟩
    · rw [R 1 n (by omega)]; exact b1
    · rw [R (nd n) 5 (by omega)]; exact b3
  · obtain ⟨b1, b2, b3⟩ := h9 n hn
    have := nd_hi (show n < 12 by omega)
    refine ⟨?_, ?_, b3.up _ _⟩
    · rw [R 2 n (by omega)]; exact b1
    · rw [R (nd n) 6 (by omega)]; exact b2
  · rw [R 3 n (by omega)]; exact ha n hn
  · obtain ⟨b1, b2, b3, b4⟩ := hb n g1 g2
    have := nd_hi3 g2 g1
    refine ⟨?_, ?_, b3.up _ _, fun s hs => ?_⟩
    · rw [I (nd n) 6 (by omega)]; exact b1
    · rw [R (nd n) 9 (by omega)]; exact b2
    · obtain ⟨c1, c2, c3, c4, c5, c6, c7, c8⟩ := b4 s hs
      refine ⟨?_, c2.up _ _, ?_, ?_, ?_, c6.up _ _, c7.up _ _, c8.up _ _⟩
      · rw [R (nd n + 2) s (by omega)]; exact c1
      · rw [R (nd n + 3 + 4 * s) 1 (by omega)]; exact c3
      · rw [R (nd n + 3 + 4 * s) 2 (by omega)]; exact c4
      · rw [R (nd n + 3 + 4 * s) 3 (by omega)]; exact c5
theorem lgR.keep {M M1 : aM} {n : Nat} {S S1 : aS} (h : lgR M n S) (st : stb M M1) (h3 : mI M1 (nd n) 3 = mI M (nd n) 3) (hr : ∀ k, mR M1 (nd n + 1) k = mR M (nd n + 1) k) (e1 : sLn S1 n = sLn S n) (e3 : sLg S1 n = sLg S n) : lgR M1 n S1 := by
  obtain ⟨a1, a2⟩ := h
  refine ⟨by rw [h3, e1]; exact a1, fun k hk => ?_⟩
  rw [e1] at hk
  obtain ⟨e, b1, b2⟩ := a2 k hk
  exact ⟨e, by rw [hr]; exact b1, by rw [e3]; exact b2.st st⟩
theorem svR.keep {M M1 : aM} {n : Nat} {V : aSv} (h : svR M n V) (st : stb M M1) (h7 : mI M1 (nd n) 7 = mI M (nd n) 7) (hr : ∀ k, mR M1 (nd n + 2) k = mR M (nd n + 2) k) : svR M1 n V := by
  obtain ⟨a1, a2⟩ := h
  refine ⟨by rw [h7]; exact a1, fun c hc => ?_⟩
  obtain ⟨q, b1, b2⟩ := a2 c hc
  exact ⟨q, by rw [hr]; exact b1, b2.st st⟩
theorem gpR.keep {M M1 : aM} {n : Nat} {G : aGp} (h : gpR M n G) (st : stb M M1) (h7 : mI M1 (nd n) 7 = mI M (nd n) 7) (h8 : mR M1 (nd n) 8 = mR M (nd n) 8) (hs : ∀ i, 3 ≤ i → i < 35 → ∀ k, mI M1 (nd n + i) k = mI M (nd n + i) k) : gpR M1 n G := by
  obtain ⟨a1, ⟨q, a2, a3⟩, a4⟩ := h
  refine ⟨by rw [h7]; exact a1, ⟨q, by rw [h8]; exact a2, a3.st st⟩, fun s hs1 => ?_⟩
  obtain ⟨b1, b2⟩ := a4 s hs1
  refine ⟨by rw [show nd n + 3 + 4 * s = nd n + (3 + 4 * s) by omega] at b1 ⊢; rw [hs (3 + 4 * s) (by omega) (by omega)]; exact b1, fun hc => ?_⟩
  obtain ⟨c1, c2, c3⟩ := b2 hc
  refine ⟨fun i hi => ?_, fun i hi => ?_, fun i hi => ?_⟩
  · rw [show nd n + 3 + 4 * s + 1 = nd n + (3 + 4 * s + 1) by omega, hs (3 + 4 * s + 1) (by omega) (by omega), show nd n + (3 + 4 * s + 1) = nd n + 3 + 4 * s + 1 by omega]; exact c1 i hi
  · rw [show nd n + 3 + 4 * s + 2 = nd n + (3 + 4 * s + 2) by omega, hs (3 + 4 * s + 2) (by omega) (by omega), show nd n + (3 + 4 * s + 2) = nd n + 3 + 4 * s + 2 by omega]; exact c2 i hi
  · rw [show nd n + 3 + 4 * s + 3 = nd n + (3 + 4 * s + 3) by omega, hs (3 + 4 * s + 3) (by omega) (by omega), show nd n + (3 + 4 * s + 3) = nd n + 3 + 4 * s + 3 by omega]; exact c3 i hi
/-- a node whose flags alone have changed -/
theorem ndR.flags {M M1 : aM} {n : Nat} {S S1 : aS} (h : ndR M n S) (st : stb M M1) (hs : ∀ i, 1 ≤ i → i < wd n → sm M M1 (nd n + i)) (hR : ∀ k, mR M1 (nd n) k = mR M (nd n) k) (hI : ∀ k, 3 ≤ k → mI M1 (nd n) k = mI M (nd n) k) (e1 : sLn S1 n = sLn S n) (e2 : sKn S1 n = sKn S n) (e3 : sLg S1 n = sLg S n)
    (f0 : mI M1 (nd n) 0 = bI (sUp S1 n)) (f1 : mI M1 (nd n) 1 = bI (sLd S1 n)) (f2 : mI M1 (nd n) 2 = nI (sT S1 n)) : ndR M1 n S1 := by
  obtain ⟨a0, a1, a2, a4, a5, a6, a7⟩ := h
  have w := wd_3 n
  refine ⟨f0, f1, f2, by rw [hI 4 (by omega), e2]; exact a4, a5.keep st (hI 3 (by omega)) (fun k => (hs 1 (by omega) (by omega)).2.2.2 k) e1 e3, fun h3 => ?_, fun h3 => ?_⟩
  · have e : sSv S1 n = sSv S n := by unfold sSv; rw [e2, e3]
    rw [e]
    exact (a6 h3).keep st (hI 7 (by omega)) (fun k => (hs 2 (by omega) (by omega)).2.2.2 k)
  · have e : sGp S1 n = sGp S n := by unfold sGp; rw [e2, e3]
    rw [e]
    rw [wd_35 h3] at hs
    exact (a7 h3).keep st (hI 7 (by omega)) (hR 8) (fun i h1 h2 k => (hs i (by omega) h2).2.2.1 k)
/-- a node none of whose cells has changed -/
theorem ndR.keep {M M1 : aM} {n : Nat} {S S1 : aS} (h : ndR M n S) (st : stb M M1) (hs : ∀ i, i < wd n → sm M M1 (nd n + i)) (e0 : sUp S1 n = sUp S n) (e4 : sLd S1 n = sLd S n) (e5 : sT S1 n = sT S n) (e1 : sLn S1 n = sLn S n) (e2 : sKn S1 n = sKn S n) (e3 : sLg S1 n = sLg S n) : ndR M1 n S1 := by
  have w := wd_3 n
  have s0 := hs 0 (by omega)
  exact ndR.flags h st (fun i _ h => hs i h) (fun k => s0.2.2.2 k) (fun k _ => s0.2.2.1 k) e1 e2 e3 (by rw [e0]; exact s0.I h.1) (by rw [e4]; exact s0.I h.2.1) (by rw [e5]; exact s0.I h.2.2.1)
/-- the model's cells are as they were -/
def fM (M M1 : aM) : Prop := mSz M ≤ mSz M1 ∧ ∀ a, 332 ≤ a → a < 345 → sm M M1 a
