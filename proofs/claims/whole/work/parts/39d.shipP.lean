/-! shipping, on the pure state -/
theorem rInv.congr {T T' : Nat → Nat} {ld ld' : Nat → Prop} {len len' : Nat → Nat} {tm tm' : Nat → Nat → Nat} {kn kn' : Nat → Nat} {P : Nat} {pt : Nat → Nat} (h : rInv T ld len tm kn P pt) (hT : ∀ i, i < 3 → T' i = T i) (hl : ∀ i, i < 3 → (ld' i ↔ ld i)) (hn : ∀ i, i < 3 → len' i = len i) (ht : ∀ i k, i < 3 → k < len i → tm' i k = tm i k) (hk : ∀ i, i < 3 → kn' i = kn i) : rInv T' ld' len' tm' kn' P pt := by
  obtain ⟨a1, a2, b1, b2, c1, c0, e1, f1, f2, k1, h1, g1, l1⟩ := h
  have hold : ∀ i, i < 3 → rHold len tm P pt i → rHold len' tm' P pt i := fun i hi h => ⟨by rw [hn i hi]; exact h.1, fun k hk => by rw [ht i k hi (by have := h.1; omega)]; exact h.2 k hk⟩
  refine ⟨fun i k hi hk1 => ?_, fun i k k' hi h2 h3 => ?_, fun i j k k' hi hj h2 h3 h4 h5 => ?_, fun i j k k' hi hj h2 h3 h4 h5 => ?_, fun i j k hi hj h2 h3 h4 => ?_, fun i j k hi hj h2 h3 => ?_, fun i hi h2 => ?_, fun i hi h2 => ?_, fun j k hj h2 => ?_, fun i hi => ?_, h1.mono (fun a ha h => hold a ha h), fun j k hj h2 h3 => ?_, fun i hi h2 h3 => ?_⟩
  · rw [hn i hi] at hk1; rw [ht i k hi hk1, hT i hi]; exact a1 i k hi hk1
  · rw [hn i hi] at h3; rw [ht i k hi (by omega), ht i k' hi h3]; exact a2 i k k' hi h2 h3
  · rw [hn i hi] at h2; rw [hn j hj] at h3; rw [ht i k hi h2, ht j k hj h3] at h4; rw [ht i k' hi (by omega), ht j k' hj (by omega)]; exact b1 i j k k' hi hj h2 h3 h4 h5
  · rw [hn i hi] at h2; rw [hn j hj] at h3; rw [ht i k hi h2, ht j k' hj h3] at h4; rw [ht i k hi h2, ht j k hj (by omega)]; exact b2 i j k k' hi hj h2 h3 h4 h5
  · rw [hn j hj] at h3; rw [ht j k hj h3, hT i hi] at h4
    obtain ⟨q1, q2⟩ := c1 i j k hi hj ((hl i hi).mp h2) h3 h4
    rw [hn i hi, ht i k hi q1, hT i hi]; exact ⟨q1, q2⟩
  · rw [hn j hj] at h2; rw [ht j k hj h2] at h3 ⊢; rw [hT i hi]; exact c0 i j k hi hj h2 h3
  · rw [hT i hi]; exact e1 i hi ((hl i hi).mp h2)
  · exact (f1 i hi ((hl i hi).mp h2)).mono (fun a ha h => by rw [hT i hi, hT a ha]; exact h)
  · rw [hn j hj] at h2; exact (f2 j k hj h2).mono (fun a ha h => by rw [ht j k hj h2, hT a ha]; exact h)
  · rw [hk i hi, hn i hi]
    obtain ⟨q1, q2, q3⟩ := k1 i hi
    exact ⟨q1, q2, fun k hk2 => by rw [ht i k hi (by omega)]; exact q3 k hk2⟩
  · rw [hn j hj] at h2; rw [ht j k hj h2] at h3; exact hold j hj (g1 j k hj h2 h3)
  · rw [hT i hi] at h3; exact hold i hi (l1 i hi ((hl i hi).mp h2) h3)
def eqN (S S' : aS) (n : Nat) : Prop := sT S' n = sT S n ∧ sLd S' n = sLd S n ∧ sLn S' n = sLn S n ∧ sKn S' n = sKn S n ∧ sLg S' n = sLg S n
def nOk (S : aS) (t n : Nat) : Prop := sLn S n ≤ 80 ∧ sKn S n ≤ sLn S n ∧ sT S n ≤ 3 * t ∧ ∀ k, k < sLn S n → eV (sLg S n k)
def rS (S : aS) (g P : Nat) (pt : Nat → Nat) : Prop := rInv (fun i => sT S (3 * g + i)) (fun i => sLd S (3 * g + i) = true) (fun i => sLn S (3 * g + i)) (fun i => sTm S (3 * g + i)) (fun i => sKn S (3 * g + i)) P pt
theorem sInv.upd {S S' : aS} {t t' g : Nat} (h : sInv S t) (ht : t ≤ t') (ho : ∀ n, n < 12 → n / 3 ≠ g → eqN S S' n) (hi : ∀ n, n < 12 → n / 3 = g → nOk S' t' n) (hr : ∃ P pt, rS S' g P pt) : sInv S' t' := by
  refine ⟨fun n hn => ?_, fun g1 hg1 => ?_⟩
  · by_cases e : n / 3 = g
    · exact hi n hn e
    · obtain ⟨q1, q2, q3, q4, q5⟩ := ho n hn e
      obtain ⟨p1, p2, p3, p4⟩ := h.1 n hn
      rw [q1, q3, q4, q5]
      exact ⟨p1, p2, by omega, p4⟩
  · by_cases e : g1 = g
    · subst e; exact hr
    · obtain ⟨P, pt, hp⟩ := h.2 g1 hg1
      have hq : ∀ i, i < 3 → eqN S S' (3 * g1 + i) := fun i hi => ho _ (by omega) (by omega)
      refine ⟨P, pt, hp.congr (fun i hi => (hq i hi).1) (fun i hi => ?_) (fun i hi => (hq i hi).2.2.1) (fun i k hi _ => ?_) (fun i hi => (hq i hi).2.2.2.1)⟩
      · show sLd S' (3 * g1 + i) = true ↔ sLd S (3 * g1 + i) = true
        rw [(hq i hi).2.1]
      · show sLg S' (3 * g1 + i) k 0 = sLg S (3 * g1 + i) k 0
        rw [(hq i hi).2.2.2.2]
theorem sInv.up {S : aS} {t t' : Nat} (h : sInv S t) (ht : t ≤ t') : sInv S t' := ⟨fun n hn => by have := h.1 n hn; exact ⟨this.1, this.2.1, by have := this.2.2.1; omega, this.2.2.2⟩, h.2⟩
/-- how many entries two logs have alike from their beginning, looking at n of them -/
def csF (la lb : Nat) (ta tb : Nat → Nat) : Nat → Nat
  | 0 => 0
  | n + 1 => if csF la lb ta tb n = n ∧ n < la ∧ n < lb ∧ ta n = tb n then n + 1 else csF la lb ta tb n
theorem csF_ok (la lb : Nat) (ta tb : Nat → Nat) : ∀ n, csF la lb ta tb n ≤ n ∧ csF la lb ta tb n ≤ la ∧ csF la lb ta tb n ≤ lb ∧ (∀ j, j < csF la lb ta tb n → ta j = tb j) ∧ (csF la lb ta tb n < n → ¬ (csF la lb ta tb n < la ∧ csF la lb ta tb n < lb ∧ ta (csF la lb ta tb n) = tb (csF la lb ta tb n)))
  | 0 => ⟨Nat.le_refl _, Nat.zero_le _, Nat.zero_le _, fun j h => absurd h (Nat.not_lt_zero j), fun h => absurd h (Nat.not_lt_zero _)⟩
  | n + 1 => by
    obtain ⟨h1, h2, h3, h4, h5⟩ := csF_ok la lb ta tb n
    by_cases q : csF la lb ta tb n = n ∧ n < la ∧ n < lb ∧ ta n = tb n
    · have e : csF la lb ta tb (n + 1) = n + 1 := if_pos q
      rw [e]
      refine ⟨Nat.le_refl _, q.2.1, q.2.2.1, fun j hj => ?_, fun h => absurd h (Nat.lt_irrefl _)⟩
      by_cases z : j = n
      · rw [z]; exact q.2.2.2
      · exact h4 j (by omega)
    · have e : csF la lb ta tb (n + 1) = csF la lb ta tb n := if_neg q
      rw [e]
      refine ⟨by omega, h2, h3, h4, fun _ => ?_⟩
      by_cases z : csF la lb ta tb n = n
      · intro y
        rw [z] at y
        exact q ⟨z, y⟩
      · exact h5 (by omega)
theorem rCS.uq {la lb : Nat} {ta tb : Nat → Nat} {k k' : Nat} (h : rCS la lb ta tb k) (h' : rCS la lb ta tb k') : k = k' := by
  obtain ⟨a1, a2, a3, a4⟩ := h
  obtain ⟨b1, b2, b3, b4⟩ := h'
  rcases Nat.lt_trichotomy k k' with q | q | q
  · exact absurd ⟨by omega, by omega, b3 k q⟩ a4
  · exact q
  · exact absurd ⟨by omega, by omega, a3 k' q⟩ b4
theorem csF_rCS {la lb : Nat} {ta tb : Nat → Nat} (h : la ≤ 80) : rCS la lb ta tb (csF la lb ta tb 80) := by
  obtain ⟨h1, h2, h3, h4, h5⟩ := csF_ok la lb ta tb 80
  refine ⟨h2, h3, h4, fun q => ?_⟩
  exact h5 (by omega) q
def shR (S : aS) (a b : Nat) : aS := (sUp S, fu (sLd S) b (sLd S b && decide (sT S b = sT S a)), fu (sT S) b (sT S a), sLn S, sKn S, sLg S)
def cuS (S : aS) (b k : Nat) : aS := (sUp S, sLd S, sT S, fu (sLn S) b k, sKn S, sLg S)
def shW (S : aS) (a b k : Nat) : aS := (sUp S, sLd S, sT S, fu (sLn S) b (k + 1), sKn S, fu (sLg S) b (fu (sLg S b) k (sLg S a k)))
def shC (S : aS) (a b k : Nat) : aS := if k < sLn S a then shW S a b k else cuS S b k
/-- how many of node n's group have an entry of term t at place p -/
def cpC (S : aS) (n p t : Nat) : Nat → Nat
  | 0 => 0
  | i + 1 => cpC S n p t i + if p < sLn S (3 * (n / 3) + i) ∧ sTm S (3 * (n / 3) + i) p = t then 1 else 0
def ag0 (S : aS) (n : Nat) : Nat → Nat
  | 0 => 0
  | i + 1 => if sTm S n i = sT S n ∧ 2 ≤ cpC S n i (sT S n) 3 then i + 1 else ag0 S n i
theorem ag0_le (S : aS) (n : Nat) : ∀ i, ag0 S n i ≤ i
  | 0 => Nat.le_refl _
  | i + 1 => by
    have := ag0_le S n i
    show (if _ then _ else ag0 S n i) ≤ i + 1
    split
    · exact Nat.le_refl _
    · omega
theorem ag0_ok (S : aS) (n : Nat) : ∀ i, 0 < ag0 S n i → ∃ j, j < i ∧ ag0 S n i = j + 1 ∧ sTm S n j = sT S n ∧ 2 ≤ cpC S n j (sT S n) 3
  | 0, h => absurd h (Nat.not_lt_zero _)
  | i + 1, h => by
    by_cases q : sTm S n i = sT S n ∧ 2 ≤ cpC S n i (sT S n) 3
    · exact ⟨i, by omega, if_pos q, q.1, q.2⟩
    · have e : ag0 S n (i + 1) = ag0 S n i := if_neg q
      rw [e] at h ⊢
      obtain ⟨j, h1, h2⟩ := ag0_ok S n i h
      exact ⟨j, by omega, h2⟩
theorem cpC_le (S : aS) (n p t : Nat) : ∀ i, cpC S n p t i ≤ i
  | 0 => Nat.le_refl _
  | i + 1 => by
    have := cpC_le S n p t i
    show cpC S n p t i + (if _ then 1 else 0) ≤ i + 1
    split <;> omega
theorem cpC_two {S : aS} {n p t : Nat} (hn : n < 12) (h : 2 ≤ cpC S n p t 3) : ∃ v, v < 3 ∧ v ≠ n % 3 ∧ p < sLn S (3 * (n / 3) + v) ∧ sTm S (3 * (n / 3) + v) p = t := by
  have e : cpC S n p t 3 = ((0 + if p < sLn S (3 * (n / 3) + 0) ∧ sTm S (3 * (n / 3) + 0) p = t then 1 else 0) + if p < sLn S (3 * (n / 3) + 1) ∧ sTm S (3 * (n / 3) + 1) p = t then 1 else 0) + if p < sLn S (3 * (n / 3) + 2) ∧ sTm S (3 * (n / 3) + 2) p = t then 1 else 0 := rfl
  rw [e] at h
  by_cases q0 : p < sLn S (3 * (n / 3) + 0) ∧ sTm S (3 * (n / 3) + 0) p = t
  · by_cases q1 : p < sLn S (3 * (n / 3) + 1) ∧ sTm S (3 * (n / 3) + 1) p = t
    · by_cases z : n % 3 = 0
      · exact ⟨1, by omega, by omega, q1⟩
      · exact ⟨0, by omega, by omega, q0⟩
    · by_cases q2 : p < sLn S (3 * (n / 3) + 2) ∧ sTm S (3 * (n / 3) + 2) p = t
      · by_cases z : n % 3 = 0
        · exact ⟨2, by omega, by omega, q2⟩
        · exact ⟨0, by omega, by omega, q0⟩
      · rw [if_pos q0, if_neg q1, if_neg q2] at h; omega
  · by_cases q1 : p < sLn S (3 * (n / 3) + 1) ∧ sTm S (3 * (n / 3) + 1) p = t
    · by_cases q2 : p < sLn S (3 * (n / 3) + 2) ∧ sTm S (3 * (n / 3) + 2) p = t
      · by_cases z : n % 3 = 1
        · exact ⟨2, by omega, by omega, q2⟩
        · exact ⟨1, by omega, by omega, q1⟩
      · rw [if_neg q0, if_pos q1, if_neg q2] at h; omega
    · rw [if_neg q0, if_neg q1] at h
      split at h <;> omega
def shK (S : aS) (a : Nat) : aS := lnS S a (ag0 S a (sLn S a))
def shS (S : aS) (a b : Nat) : aS := lnS (shK (shC (shR S a b) a b (csF (sLn S a) (sLn S b) (sTm S a) (sTm S b) 80)) a) b (sKn (shK (shC (shR S a b) a b (csF (sLn S a) (sLn S b) (sTm S a) (sTm S b) 80)) a) a)
def shX (S : aS) (a : Nat) : aS := (sUp S, fu (sLd S) a false, sT S, sLn S, sKn S, sLg S)
def oShip (S : aS) (x y : Int32) : aS × Int32 := match dN x 12, dN y 12 with
  | some a, some b => if (a ≠ b ∧ a / 3 = b / 3) ∧ sUp S a = true ∧ sUp S b = true then
      (if sLd S a = true then
        (if sT S a < sT S b then (shX S a, -5)
         else (shS S a b, nI (sLn (shS S a b) b)))
       else (S, -2))
    else (S, -1)
  | _, _ => (S, -1)
theorem sInv_shR {S : aS} {t a b : Nat} (h : sInv S t) (ha : a < 12) (hb : b < 12) (hT : sT S b ≤ sT S a) : sInv (shR S a b) t := by
  refine h.upd (g := b / 3) (Nat.le_refl _) (fun n hn e => ⟨fu_n _ _ (by omega), fu_n _ _ (by omega), rfl, rfl, rfl⟩) (fun n hn _ => ?_) ?_
  · obtain ⟨p1, p2, p3, p4⟩ := h.1 n hn
    refine ⟨p1, p2, ?_, p4⟩
    show fu (sT S) b (sT S a) n ≤ 3 * t
    by_cases e : n = b
    · rw [e, fu_s]; exact (h.1 a ha).2.2.1
    · rw [fu_n _ _ e]; exact p3
  · obtain ⟨P, pt, hp⟩ := h.2 (b / 3) (by omega)
    refine ⟨P, pt, rInv.raise hp (fun i _ => ?_) (fun i _ hl => ?_)⟩
    · show sT S (3 * (b / 3) + i) ≤ fu (sT S) b (sT S a) (3 * (b / 3) + i)
      by_cases e : 3 * (b / 3) + i = b
      · rw [e, fu_s]; exact hT
      · rw [fu_n _ _ e]; exact Nat.le_refl _
    · have hl' : fu (sLd S) b (sLd S b && decide (sT S b = sT S a)) (3 * (b / 3) + i) = true := hl
      show sLd S (3 * (b / 3) + i) = true ∧ fu (sT S) b (sT S a) (3 * (b / 3) + i) = sT S (3 * (b / 3) + i)
      by_cases e : 3 * (b / 3) + i = b
      · rw [e, fu_s] at hl'
        rw [e, fu_s]
        simp only [Bool.and_eq_true, decide_eq_true_eq] at hl'
        exact ⟨hl'.1, hl'.2.symm⟩
      · rw [fu_n _ _ e] at hl'
        rw [fu_n _ _ e]; exact ⟨hl', rfl⟩
theorem shC_ln (S : aS) (a b k n : Nat) : sLn (shC S a b k) n = if n = b then (if k < sLn S a then k + 1 else k) else sLn S n := by
  unfold shC
  by_cases q : k < sLn S a
  · rw [if_pos q]
    show fu (sLn S) b (k + 1) n = _
    by_cases e : n = b
    · rw [e, fu_s, if_pos rfl, if_pos q]
    · rw [fu_n _ _ e, if_neg e]
  · rw [if_neg q]
    show fu (sLn S) b k n = _
    by_cases e : n = b
    · rw [e, fu_s, if_pos rfl, if_neg q]
    · rw [fu_n _ _ e, if_neg e]
theorem shC_lg (S : aS) (a b k n j : Nat) : sLg (shC S a b k) n j = if n = b ∧ k < sLn S a ∧ j = k then sLg S a k else sLg S n j := by
  unfold shC
  by_cases q : k < sLn S a
  · rw [if_pos q]
    show fu (sLg S) b (fu (sLg S b) k (sLg S a k)) n j = _
    by_cases e : n = b
    · rw [e, fu_s]
      by_cases z : j = k
      · rw [z, fu_s, if_pos ⟨rfl, q, rfl⟩]
      · rw [fu_n _ _ z, if_neg (fun y => z y.2.2)]
    · rw [fu_n _ _ e, if_neg (fun y => e y.1)]
  · rw [if_neg q, if_neg (fun y => q y.2.1)]; rfl
theorem shC_o (S : aS) (a b k : Nat) : sUp (shC S a b k) = sUp S ∧ sLd (shC S a b k) = sLd S ∧ sT (shC S a b k) = sT S ∧ sKn (shC S a b k) = sKn S := by
  unfold shC
  split <;> exact ⟨rfl, rfl, rfl, rfl⟩
theorem shC_lgn {S : aS} {a b k n : Nat} (h : n ≠ b) : sLg (shC S a b k) n = sLg S n := by
  funext j
  rw [shC_lg, if_neg (fun y => h y.1)]
/-- what is known is never cut -/
theorem ship_safe {S : aS} {t a b k : Nat} (h : sInv S t) (ha : a < 12) (hb : b < 12) (hab : a ≠ b) (hg : a / 3 = b / 3) (hl : sLd S a = true) (hT : sT S b = sT S a) (hk : rCS (sLn S a) (sLn S b) (sTm S a) (sTm S b) k) : sKn S b ≤ k := by
  obtain ⟨P, pt, hp⟩ := h.2 (a / 3) (by omega)
  have ea : 3 * (a / 3) + a % 3 = a := by omega
  have eb : 3 * (a / 3) + b % 3 = b := by omega
  have := hp.safe (a := a % 3) (b := b % 3) (k0 := k) (by omega) (by omega) (by omega) (by show sLd S (3 * (a / 3) + a % 3) = true; rw [ea]; exact hl) (by show sT S (3 * (a / 3) + b % 3) = sT S (3 * (a / 3) + a % 3); rw [ea, eb]; exact hT) (by rw [ea, eb]; exact hk.2.2.2)
  rw [eb] at this
  exact this
theorem sInv_shC {S : aS} {t a b k : Nat} (h : sInv S t) (ha : a < 12) (hb : b < 12) (hab : a ≠ b) (hg : a / 3 = b / 3) (hl : sLd S a = true) (hT : sT S b = sT S a) (hk : rCS (sLn S a) (sLn S b) (sTm S a) (sTm S b) k) : sInv (shC S a b k) t := by
  have hs := ship_safe h ha hb hab hg hl hT hk
  obtain ⟨k1, k2, k3, k4⟩ := hk
  obtain ⟨o1, o2, o3, o4⟩ := shC_o S a b k
  obtain ⟨pa1, pa2, pa3, pa4⟩ := h.1 a ha
  have ea : 3 * (a / 3) + a % 3 = a := by omega
  have eb : 3 * (a / 3) + b % 3 = b := by omega
  refine h.upd (g := a / 3) (Nat.le_refl _) (fun n hn e => ?_) (fun n hn _ => ?_) ?_
  · have nb : n ≠ b := by omega
    exact ⟨by rw [o3], by rw [o2], by rw [shC_ln, if_neg nb], by rw [o4], shC_lgn nb⟩
  · obtain ⟨p1, p2, p3, p4⟩ := h.1 n hn
    unfold nOk
    rw [o3, o4, shC_ln]
    by_cases e : n = b
    · subst e
      rw [if_pos rfl]
      refine ⟨by split <;> omega, by split <;> omega, p3, fun j hj => ?_⟩
      rw [shC_lg]
      by_cases z : n = n ∧ k < sLn S a ∧ j = k
      · rw [if_pos z]; exact pa4 k z.2.1
      · rw [if_neg z]
        refine p4 j ?_
        split at hj
        · rename_i q
          have : j ≠ k := fun y => z ⟨rfl, q, y⟩
          omega
        · omega
    · rw [if_neg e]
      refine ⟨p1, p2, p3, fun j hj => ?_⟩
      rw [shC_lgn e]; exact p4 j hj
  · obtain ⟨P, pt, hp⟩ := h.2 (a / 3) (by omega)
    have tmE : ∀ n j, sTm (shC S a b k) n j = if n = b ∧ k < sLn S a ∧ j = k then sTm S a k else sTm S n j := by
      intro n j
      show sLg (shC S a b k) n j 0 = _
      rw [shC_lg]
      split <;> rfl
    refine ⟨P, pt, ?_⟩
    unfold rS
    rw [o2, o3, o4]
    refine rInv.copy hp (a := a % 3) (b := b % 3) (n := if k < sLn S a then k + 1 else k) (by omega) (by omega) (by omega) (by show sLd S (3 * (a / 3) + a % 3) = true; rw [ea]; exact hl) (by show sT S (3 * (a / 3) + b % 3) = sT S (3 * (a / 3) + a % 3); rw [ea, eb]; exact hT) ?_ ?_ ?_ ?_ ?_
    · show _ ≤ sLn S (3 * (a / 3) + a % 3)
      rw [ea]
      split <;> omega
    · show sKn S (3 * (a / 3) + b % 3) ≤ _
      rw [eb]
      split <;> omega
    · intro hB
      have hA := hp.lead (a := a % 3) (b := b % 3) (by omega) (by omega) (by omega) (by show sLd S (3 * (a / 3) + a % 3) = true; rw [ea]; exact hl) (by show sT S (3 * (a / 3) + b % 3) = sT S (3 * (a / 3) + a % 3); rw [ea, eb]; exact hT)
      have hA1 : P ≤ sLn S (3 * (a / 3) + a % 3) := hA.1
      have hB1 : P ≤ sLn S (3 * (a / 3) + b % 3) := hB.1
      have hA2 : ∀ j, j < P → sTm S (3 * (a / 3) + a % 3) j = pt j := hA.2
      have hB2 : ∀ j, j < P → sTm S (3 * (a / 3) + b % 3) j = pt j := hB.2
      rw [ea] at hA1 hA2
      rw [eb] at hB1 hB2
      have : P ≤ k := Nat.le_of_not_lt (fun q => k4 ⟨by omega, by omega, by rw [hA2 k q, hB2 k q]⟩)
      split <;> omega
    · intro i hi
      show sLn (shC S a b k) (3 * (a / 3) + i) = _
      rw [shC_ln]
      by_cases e : i = b % 3
      · rw [if_pos (by omega), if_pos e]
      · rw [if_neg (by omega), if_neg e]
    · intro i j hi hj
      have hj' : j < sLn (shC S a b k) (3 * (a / 3) + i) := hj
      rw [shC_ln] at hj'
      show sTm (shC S a b k) (3 * (a / 3) + i) j = if i = b % 3 then sTm S (3 * (a / 3) + a % 3) j else sTm S (3 * (a / 3) + i) j
      rw [tmE, ea]
      by_cases e : i = b % 3
      · rw [if_pos (by omega)] at hj'
        rw [if_pos e]
        by_cases z : k < sLn S a ∧ j = k
        · rw [if_pos ⟨by omega, z⟩, z.2]
        · rw [if_neg (fun y => z y.2), show 3 * (a / 3) + i = b by omega]
          refine (k3 j ?_).symm
          split at hj'
          · rename_i q
            have : j ≠ k := fun y => z ⟨q, y⟩
            omega
          · omega
      · rw [if_neg e, if_neg (fun y => e (by omega))]
theorem lnS_kn (S : aS) (n c m : Nat) : sKn (lnS S n c) m = if m = n then max (sKn S n) (min c (sLn S n)) else sKn S m := rfl
theorem sInv_shK {S : aS} {t a b : Nat} (h : sInv S t) (ha : a < 12) (hb : b < 12) (hab : a ≠ b) (hg : a / 3 = b / 3) (hl : sLd S a = true) (hT : sT S b = sT S a) : sInv (shK S a) t := by
  have ea : 3 * (a / 3) + a % 3 = a := by omega
  have eb : 3 * (a / 3) + b % 3 = b := by omega
  have le := ag0_le S a (sLn S a)
  refine h.upd (g := a / 3) (Nat.le_refl _) (fun n hn e => ⟨rfl, rfl, rfl, fu_n _ _ (by omega), rfl⟩) (fun n hn _ => ?_) ?_
  · obtain ⟨p1, p2, p3, p4⟩ := h.1 n hn
    refine ⟨p1, ?_, p3, p4⟩
    show sKn (lnS S a _) n ≤ sLn S n
    rw [lnS_kn]
    split
    · rename_i e; subst e; omega
    · exact p2
  · obtain ⟨P, pt, hp⟩ := h.2 (a / 3) (by omega)
    by_cases q : ag0 S a (sLn S a) ≤ sKn S a
    · refine ⟨P, pt, hp.congr (fun i _ => rfl) (fun i _ => Iff.rfl) (fun i _ => rfl) (fun i k _ _ => rfl) (fun i _ => ?_)⟩
      show sKn (lnS S a _) (3 * (a / 3) + i) = sKn S (3 * (a / 3) + i)
      rw [lnS_kn]
      split
      · rename_i e; rw [e]; omega
      · rfl
    · obtain ⟨j, j1, j2, j3, j4⟩ := ag0_ok S a (sLn S a) (by omega)
      obtain ⟨v, v1, v2, v3, v4⟩ := cpC_two ha j4
      refine rInv.know hp (a := a % 3) (b := b % 3) (v := v) (i := j) (by omega) (by omega) (by omega) (by show sLd S (3 * (a / 3) + a % 3) = true; rw [ea]; exact hl) (by show sT S (3 * (a / 3) + b % 3) = sT S (3 * (a / 3) + a % 3); rw [ea, eb]; exact hT) ?_ ?_ v1 v2 v3 ?_ (fun x hx => ?_)
      · show j < sLn S (3 * (a / 3) + a % 3)
        rw [ea]; exact j1
      · show sTm S (3 * (a / 3) + a % 3) j = sT S (3 * (a / 3) + a % 3)
        rw [ea]; exact j3
      · show sTm S (3 * (a / 3) + v) j = sT S (3 * (a / 3) + a % 3)
        rw [ea]; exact v4
      · show sKn (lnS S a _) (3 * (a / 3) + x) = if x = a % 3 then j + 1 else sKn S (3 * (a / 3) + x)
        rw [lnS_kn]
        by_cases e : x = a % 3
        · rw [if_pos (by omega), if_pos e]; omega
        · rw [if_neg (by omega), if_neg e]
theorem sInv_shL {S : aS} {t a b : Nat} (h : sInv S t) (ha : a < 12) (hb : b < 12) (hab : a ≠ b) (hg : a / 3 = b / 3) (hpre : ∀ k, k < sLn S b → k < sLn S a ∧ sTm S b k = sTm S a k) : sInv (lnS S b (sKn S a)) t := by
  have ea : 3 * (a / 3) + a % 3 = a := by omega
  have eb : 3 * (a / 3) + b % 3 = b := by omega
  refine h.upd (g := a / 3) (Nat.le_refl _) (fun n hn e => ⟨rfl, rfl, rfl, fu_n _ _ (by omega), rfl⟩) (fun n hn _ => ?_) ?_
  · obtain ⟨p1, p2, p3, p4⟩ := h.1 n hn
    refine ⟨p1, ?_, p3, p4⟩
    show sKn (lnS S b _) n ≤ sLn S n
    rw [lnS_kn]
    split
    · rename_i e; subst e; omega
    · exact p2
  · obtain ⟨P, pt, hp⟩ := h.2 (a / 3) (by omega)
    refine ⟨P, pt, rInv.learn hp (a := a % 3) (b := b % 3) (by omega) (by omega) (fun k hk => ?_) (fun x hx => ?_)⟩
    · have hk' : k < sLn S (3 * (a / 3) + b % 3) := hk
      show k < sLn S (3 * (a / 3) + a % 3) ∧ sTm S (3 * (a / 3) + b % 3) k = sTm S (3 * (a / 3) + a % 3) k
      rw [eb] at hk'
      rw [ea, eb]; exact hpre k hk'
    · show sKn (lnS S b _) (3 * (a / 3) + x) = if x = b % 3 then max (sKn S (3 * (a / 3) + b % 3)) (min (sKn S (3 * (a / 3) + a % 3)) (sLn S (3 * (a / 3) + b % 3))) else sKn S (3 * (a / 3) + x)
      rw [lnS_kn, ea, eb]
      by_cases e : x = b % 3
      · rw [if_pos (by omega), if_pos e]
      · rw [if_neg (by omega), if_neg e]
theorem shC_pre {S : aS} {a b k : Nat} (hab : a ≠ b) (hk : rCS (sLn S a) (sLn S b) (sTm S a) (sTm S b) k) : ∀ j, j < sLn (shC S a b k) b → j < sLn (shC S a b k) a ∧ sTm (shC S a b k) b j = sTm (shC S a b k) a j := by
  obtain ⟨k1, k2, k3, k4⟩ := hk
  intro j hj
  rw [shC_ln, if_pos rfl] at hj
  rw [shC_ln, if_neg hab]
  show _ ∧ sLg (shC S a b k) b j 0 = sLg (shC S a b k) a j 0
  rw [shC_lgn hab, shC_lg]
  by_cases z : b = b ∧ k < sLn S a ∧ j = k
  · rw [if_pos z, z.2.2]; exact ⟨z.2.1, rfl⟩
  · rw [if_neg z]
    have hjk : j < k := by
      split at hj
      · rename_i q
        have : j ≠ k := fun y => z ⟨rfl, q, y⟩
        omega
      · omega
    exact ⟨by omega, (k3 j hjk).symm⟩
