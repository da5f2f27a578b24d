/-! the start: both hold the empty state -/
def A4 : aM := fMm (mN A3 11 0) 332
theorem A3_sz : mSz A3 = 332 := by decide +kernel
theorem st_1 : (345 ≤ mSz A4) ∧ (0 < mSz A4 ∧ mKd A4 0 = 0) ∧ mR A4 0 0 = some 1 ∧ mR A4 0 1 = some 2 ∧ mR A4 0 2 = some 3 ∧ (1 < mSz A4 ∧ mKd A4 1 = 102 ∧ mLn A4 1 = 12) ∧ (2 < mSz A4 ∧ mKd A4 2 = 103 ∧ mLn A4 2 = 3) ∧ (3 < mSz A4 ∧ mKd A4 3 = 104 ∧ mLn A4 3 = 9) := by decide +kernel
theorem st_2 : ∀ n, n < 12 → mR A4 1 n = some (nd n) ∧ (nd n < mSz A4 ∧ mKd A4 (nd n) = nc n) ∧ mR A4 (nd n) 5 = some (nd n + 1) ∧ (nd n + 1 < mSz A4 ∧ mKd A4 (nd n + 1) = 106 ∧ mLn A4 (nd n + 1) = 80) := by decide +kernel
theorem st_3 : ∀ n, n < 3 → mR A4 2 n = some (nd n) ∧ mR A4 (nd n) 6 = some (nd n + 2) ∧ (nd n + 2 < mSz A4 ∧ mKd A4 (nd n + 2) = 105 ∧ mLn A4 (nd n + 2) = 16) := by decide +kernel
theorem st_4 : ∀ n, n < 9 → mR A4 3 n = some (nd (3 + n)) := by decide +kernel
theorem st_5 : ∀ n, n < 9 → mI A4 (nd (3 + n)) 6 = nI ((3 + n) / 3) ∧ mR A4 (nd (3 + n)) 9 = some (nd (3 + n) + 2) ∧ (nd (3 + n) + 2 < mSz A4 ∧ mKd A4 (nd (3 + n) + 2) = 107 ∧ mLn A4 (nd (3 + n) + 2) = 8) := by decide +kernel
theorem st_6a : ∀ n, n < 9 → ∀ s, s < 8 → mR A4 (nd (3 + n) + 2) s = some (nd (3 + n) + 3 + 4 * s) ∧ (nd (3 + n) + 3 + 4 * s < mSz A4 ∧ mKd A4 (nd (3 + n) + 3 + 4 * s) = 4) := by decide +kernel
theorem st_6b : ∀ n, n < 9 → ∀ s, s < 8 → mR A4 (nd (3 + n) + 3 + 4 * s) 1 = some (nd (3 + n) + 3 + 4 * s + 1) ∧ mR A4 (nd (3 + n) + 3 + 4 * s) 2 = some (nd (3 + n) + 3 + 4 * s + 2) ∧ mR A4 (nd (3 + n) + 3 + 4 * s) 3 = some (nd (3 + n) + 3 + 4 * s + 3) := by decide +kernel
theorem st_6c : ∀ n, n < 9 → ∀ s, s < 8 → (nd (3 + n) + 3 + 4 * s + 1 < mSz A4 ∧ mKd A4 (nd (3 + n) + 3 + 4 * s + 1) = 100 ∧ mLn A4 (nd (3 + n) + 3 + 4 * s + 1) = 2) ∧ (nd (3 + n) + 3 + 4 * s + 2 < mSz A4 ∧ mKd A4 (nd (3 + n) + 3 + 4 * s + 2) = 100 ∧ mLn A4 (nd (3 + n) + 3 + 4 * s + 2) = 3) := by decide +kernel
theorem st_6d : ∀ n, n < 9 → ∀ s, s < 8 → (nd (3 + n) + 3 + 4 * s + 3 < mSz A4 ∧ mKd A4 (nd (3 + n) + 3 + 4 * s + 3) = 100 ∧ mLn A4 (nd (3 + n) + 3 + 4 * s + 3) = 3) := by decide +kernel
theorem st_7 : ∀ n, n < 9 → ∀ s, s < 8 → mI A4 (nd (3 + n) + 3 + 4 * s) 0 = 0 := by decide +kernel
theorem st_8 : ∀ n, n < 12 → mI A4 (nd n) 0 = 1 ∧ mI A4 (nd n) 1 = 0 ∧ mI A4 (nd n) 2 = 0 ∧ mI A4 (nd n) 3 = 0 ∧ mI A4 (nd n) 4 = 0 ∧ mI A4 (nd n) 7 = 0 := by decide +kernel
theorem st_9 : (∀ n, n < 3 → mR A4 (nd n + 2) 0 = some 4) ∧ ∀ n, n < 9 → mR A4 (nd (3 + n)) 8 = some 4 := by decide +kernel
theorem st_10 : (4 < mSz A4 ∧ mKd A4 4 = 1) ∧ mR A4 4 0 = some 5 ∧ mR A4 4 1 = some 6 ∧ mR A4 4 2 = some 7 ∧ (5 < mSz A4 ∧ mKd A4 5 = 101 ∧ mLn A4 5 = 4) ∧ (6 < mSz A4 ∧ mKd A4 6 = 100 ∧ mLn A4 6 = 8) ∧ (7 < mSz A4 ∧ mKd A4 7 = 100 ∧ mLn A4 7 = 4) ∧ (∀ g, g < 4 → mI A4 5 g = 0) ∧ (∀ s, s < 8 → mI A4 6 s = 0) ∧ (∀ g, g < 4 → mI A4 7 g = nI (cn (fun _ => 0) g 8)) := by decide +kernel
theorem cSh_0 : cSh A4 := by
  obtain ⟨a1, a2, a3, a4, a5, a6, a7, a8⟩ := st_1
  refine ⟨a1, a2, a3, a4, a5, a6, a7, a8, st_2, st_3, st_4, fun n h3 hn => ?_⟩
  obtain ⟨k, rfl⟩ : ∃ k, n = 3 + k := ⟨n - 3, by omega⟩
  obtain ⟨b1, b2, b3⟩ := st_5 k (by omega)
  refine ⟨b1, b2, b3, fun s hs => ?_⟩
  obtain ⟨c1, c2⟩ := st_6a k (by omega) s hs
  obtain ⟨d1, d2, d3⟩ := st_6b k (by omega) s hs
  obtain ⟨e1, e2⟩ := st_6c k (by omega) s hs
  exact ⟨c1, c2, d1, d2, d3, e1, e2, st_6d k (by omega) s hs⟩
theorem cf_0 : cfR A4 4 cf0 := by
  obtain ⟨a1, a2, a3, a4, a5, a6, a7, a8, a9, a10⟩ := st_10
  exact ⟨Or.inl ⟨by decide, by decide⟩, a1, 5, 6, 7, Or.inl ⟨by decide, by decide⟩, Or.inl ⟨by decide, by decide⟩, Or.inl ⟨by decide, by decide⟩, a2, a3, a4, a5, a6, a7, a8, a9, a10⟩
theorem cR_0 : cR A4 S0 := by
  refine ⟨cSh_0, fun n hn => ?_⟩
  obtain ⟨b1, b2, b3, b4, b5, b6⟩ := st_8 n hn
  refine ⟨b1, b2, b3, b5, ⟨b4, fun k hk => absurd hk (Nat.not_lt_zero k)⟩, fun h3 => ⟨b6, fun c hc => ?_⟩, fun h3 => ?_⟩
  · have hc0 : c = 0 := by have : c < 1 := hc; omega
    subst hc0
    exact ⟨4, st_9.1 n h3, cf_0⟩
  · obtain ⟨k, rfl⟩ : ∃ k, n = 3 + k := ⟨n - 3, by omega⟩
    refine ⟨b6, ⟨4, st_9.2 k (by omega), cf_0.o⟩, fun s hs => ⟨st_7 k (by omega) s hs, fun q => ?_⟩⟩
    have q' : (0 : Nat) = 1 ∨ (0 : Nat) = 3 := q
    omega
theorem st_11 : (332 < mSz A4 ∧ mKd A4 332 = 11) ∧ mR A4 332 0 = some 333 ∧ (333 < mSz A4 ∧ mKd A4 333 = 101 ∧ mLn A4 333 = 12) ∧ mR A4 332 1 = some 334 ∧ (334 < mSz A4 ∧ mKd A4 334 = 101 ∧ mLn A4 334 = 12) ∧ mR A4 332 2 = some 335 ∧ (335 < mSz A4 ∧ mKd A4 335 = 100 ∧ mLn A4 335 = 12) ∧ mR A4 332 3 = some 336 ∧ (336 < mSz A4 ∧ mKd A4 336 = 100 ∧ mLn A4 336 = 12) ∧ mR A4 332 4 = some 337 ∧ (337 < mSz A4 ∧ mKd A4 337 = 100 ∧ mLn A4 337 = 12) ∧ mR A4 332 5 = some 338 ∧ (338 < mSz A4 ∧ mKd A4 338 = 100 ∧ mLn A4 338 = 14400) ∧ mR A4 332 6 = some 339 ∧ (339 < mSz A4 ∧ mKd A4 339 = 100 ∧ mLn A4 339 = 15) ∧ mR A4 332 8 = some 340 ∧ (340 < mSz A4 ∧ mKd A4 340 = 100 ∧ mLn A4 340 = 16) ∧ mR A4 332 9 = some 341 ∧ (341 < mSz A4 ∧ mKd A4 341 = 100 ∧ mLn A4 341 = 128) ∧ mR A4 332 11 = some 342 ∧ (342 < mSz A4 ∧ mKd A4 342 = 100 ∧ mLn A4 342 = 8) ∧ mR A4 332 12 = some 343 ∧ (343 < mSz A4 ∧ mKd A4 343 = 100 ∧ mLn A4 343 = 8) ∧ mR A4 332 13 = some 344 ∧ (344 < mSz A4 ∧ mKd A4 344 = 100 ∧ mLn A4 344 = 64) := by decide +kernel
theorem st_12 : ∀ n, n < 12 → mI A4 333 n = 0 ∧ mI A4 334 n = 0 ∧ mI A4 335 n = 0 ∧ mI A4 336 n = 0 ∧ mI A4 337 n = 0 := by decide +kernel
theorem mRep_0 : mRep A4 S0 := by
  refine ⟨st_11, fun n hn => ?_⟩
  obtain ⟨b1, b2, b3, b4, b5⟩ := st_12 n hn
  exact ⟨b1, b2, b3, b4, b5, fun k hk => absurd hk (Nat.not_lt_zero k)⟩
