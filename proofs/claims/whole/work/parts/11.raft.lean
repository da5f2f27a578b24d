/-! what is known is never cut: the logs of one group (three nodes), by their terms alone -/
def r2 (f : Nat → Prop) : Prop := ∃ a b, a < 3 ∧ b < 3 ∧ a ≠ b ∧ f a ∧ f b
theorem r2.meet {f g : Nat → Prop} (hf : r2 f) (hg : r2 g) : ∃ a, a < 3 ∧ f a ∧ g a := by
  obtain ⟨a, b, ha, hb, hab, fa, fb⟩ := hf
  obtain ⟨c, d, hc, hd, hcd, gc, gd⟩ := hg
  by_cases h1 : a = c
  · subst h1; exact ⟨a, ha, fa, gc⟩
  · by_cases h2 : a = d
    · subst h2; exact ⟨a, ha, fa, gd⟩
    · by_cases h3 : b = c
      · subst h3; exact ⟨b, hb, fb, gc⟩
      · by_cases h4 : b = d
        · subst h4; exact ⟨b, hb, fb, gd⟩
        · omega
theorem r2.mono {f g : Nat → Prop} (h : r2 f) (hg : ∀ a, a < 3 → f a → g a) : r2 g := by
  obtain ⟨a, b, ha, hb, hab, fa, fb⟩ := h
  exact ⟨a, b, ha, hb, hab, hg a ha fa, hg b hb fb⟩
def rHold (len : Nat → Nat) (tm : Nat → Nat → Nat) (P : Nat) (pt : Nat → Nat) (i : Nat) : Prop := P ≤ len i ∧ ∀ k, k < P → tm i k = pt k
def rT0 (P : Nat) (pt : Nat → Nat) : Nat := if P = 0 then 0 else pt (P - 1)
def rInv (T : Nat → Nat) (ld : Nat → Prop) (len : Nat → Nat) (tm : Nat → Nat → Nat) (kn : Nat → Nat) (P : Nat) (pt : Nat → Nat) : Prop :=
  (∀ i k, i < 3 → k < len i → tm i k ≤ T i) ∧
  (∀ i k k', i < 3 → k ≤ k' → k' < len i → tm i k ≤ tm i k') ∧
  (∀ i j k k', i < 3 → j < 3 → k < len i → k < len j → tm i k = tm j k → k' ≤ k → tm i k' = tm j k') ∧
  (∀ i j k k', i < 3 → j < 3 → k < len i → k' < len j → tm i k = tm j k' → k ≤ k' → tm j k = tm i k) ∧
  (∀ i j k, i < 3 → j < 3 → ld i → k < len j → tm j k = T i → k < len i ∧ tm i k = T i) ∧
  (∀ i j k, i < 3 → j < 3 → k < len j → tm j k % 3 = i → tm j k ≤ T i) ∧
  (∀ i, i < 3 → ld i → T i % 3 = i) ∧
  (∀ i, i < 3 → ld i → r2 (fun a => T i ≤ T a)) ∧
  (∀ j k, j < 3 → k < len j → r2 (fun a => tm j k ≤ T a)) ∧
  (∀ i, i < 3 → kn i ≤ P ∧ kn i ≤ len i ∧ ∀ k, k < kn i → tm i k = pt k) ∧
  r2 (rHold len tm P pt) ∧
  (∀ j k, j < 3 → k < len j → rT0 P pt < tm j k → rHold len tm P pt j) ∧
  (∀ i, i < 3 → ld i → rT0 P pt ≤ T i → rHold len tm P pt i)
theorem rInv.start : rInv (fun _ => 0) (fun _ => False) (fun _ => 0) (fun _ _ => 0) (fun _ => 0) 0 (fun _ => 0) := by
  refine ⟨fun i k _ h => absurd h (Nat.not_lt_zero _), fun i k k' _ _ h => absurd h (Nat.not_lt_zero _), fun i j k k' _ _ h => absurd h (Nat.not_lt_zero _), fun i j k k' _ _ h => absurd h (Nat.not_lt_zero _), fun i j k _ _ h => h.elim, fun i j k _ _ h => absurd h (Nat.not_lt_zero _), fun i _ h => h.elim, fun i _ h => h.elim, fun j k _ h => absurd h (Nat.not_lt_zero _), fun i _ => ⟨Nat.le_refl _, Nat.le_refl _, fun k h => absurd h (Nat.not_lt_zero _)⟩, ⟨0, 1, by omega, by omega, by omega, ⟨Nat.le_refl _, fun k h => absurd h (Nat.not_lt_zero _)⟩, ⟨Nat.le_refl _, fun k h => absurd h (Nat.not_lt_zero _)⟩⟩, fun j k _ h => absurd h (Nat.not_lt_zero _), fun i _ h => h.elim⟩
/-- terms grow; who leads keeps its term -/
theorem rInv.raise {T T' : Nat → Nat} {ld ld' : Nat → Prop} {len : Nat → Nat} {tm : Nat → Nat → Nat} {kn : Nat → Nat} {P : Nat} {pt : Nat → Nat} (h : rInv T ld len tm kn P pt) (hT : ∀ i, i < 3 → T i ≤ T' i) (hl : ∀ i, i < 3 → ld' i → ld i ∧ T' i = T i) : rInv T' ld' len tm kn P pt := by
  obtain ⟨a1, a2, b1, b2, c1, c0, e1, f1, f2, k1, h1, g1, l1⟩ := h
  refine ⟨fun i k hi hk => Nat.le_trans (a1 i k hi hk) (hT i hi), a2, b1, b2, fun i j k hi hj h hk he => ?_, fun i j k hi hj hk he => Nat.le_trans (c0 i j k hi hj hk he) (hT i hi), fun i hi h => ?_, fun i hi h => ?_, fun j k hj hk => (f2 j k hj hk).mono fun a ha h => Nat.le_trans h (hT a ha), k1, h1, g1, fun i hi h h0 => ?_⟩
  · obtain ⟨h2, h3⟩ := hl i hi h
    rw [h3] at he ⊢
    exact c1 i j k hi hj h2 hk he
  · obtain ⟨h2, h3⟩ := hl i hi h
    rw [h3]; exact e1 i hi h2
  · obtain ⟨h2, h3⟩ := hl i hi h
    rw [h3]; exact (f1 i hi h2).mono fun a ha h => Nat.le_trans h (hT a ha)
  · obtain ⟨h2, h3⟩ := hl i hi h
    exact l1 i hi h2 (by rw [← h3]; exact h0)
/-- a leader writes -/
theorem rInv.write {T : Nat → Nat} {ld : Nat → Prop} {len len' : Nat → Nat} {tm tm' : Nat → Nat → Nat} {kn : Nat → Nat} {P : Nat} {pt : Nat → Nat} (h : rInv T ld len tm kn P pt) {c : Nat} (hc : c < 3) (hl : ld c) (hlen : ∀ i, i < 3 → len' i = if i = c then len i + 1 else len i) (htm : ∀ i k, i < 3 → k < len' i → tm' i k = if i = c ∧ k = len c then T c else tm i k) : rInv T ld len' tm' kn P pt := by
  obtain ⟨a1, a2, b1, b2, c1, c0, e1, f1, f2, k1, h1, g1, l1⟩ := h
  have old : ∀ i k, i < 3 → k < len i → k < len' i ∧ tm' i k = tm i k := by
    intro i k hi hk
    have h9 : k < len' i := by rw [hlen i hi]; split <;> omega
    refine ⟨h9, ?_⟩
    rw [htm i k hi h9, if_neg]
    rintro ⟨rfl, h8⟩
    omega
  have new : ∀ i k, i < 3 → k < len' i → (k < len i ∧ tm' i k = tm i k) ∨ (i = c ∧ k = len c ∧ tm' i k = T c) := by
    intro i k hi hk
    rw [htm i k hi hk]
    rw [hlen i hi] at hk
    by_cases h9 : i = c
    · subst h9
      rw [if_pos rfl] at hk
      by_cases h8 : k = len i
      · exact Or.inr ⟨rfl, h8, by rw [if_pos ⟨rfl, h8⟩]⟩
      · exact Or.inl ⟨by omega, by rw [if_neg (fun q => h8 q.2)]⟩
    · rw [if_neg h9] at hk
      exact Or.inl ⟨hk, by rw [if_neg (fun q => h9 q.1)]⟩
  have hold : ∀ i, i < 3 → rHold len tm P pt i → rHold len' tm' P pt i := by
    intro i hi h9
    refine ⟨by have := h9.1; rw [hlen i hi]; split <;> omega, fun k hk => ?_⟩
    rw [(old i k hi (by have := h9.1; omega)).2]
    exact h9.2 k hk
  refine ⟨?_, ?_, ?_, ?_, ?_, ?_, e1, f1, ?_, ?_, h1.mono hold, ?_, fun i hi h h0 => hold i hi (l1 i hi h h0)⟩
  · intro i k hi hk
    rcases new i k hi hk with ⟨h2, h3⟩ | ⟨rfl, h2, h3⟩
    · rw [h3]; exact a1 i k hi h2
    · rw [h3]; exact Nat.le_refl _
  · intro i k k' hi hkk hk
    rcases new i k' hi hk with ⟨h2, h3⟩ | ⟨rfl, h2, h3⟩
    · rw [h3, (old i k hi (by omega)).2]; exact a2 i k k' hi hkk h2
    · rw [h3]
      rcases new i k hi (by omega) with ⟨h4, h5⟩ | ⟨-, h4, h5⟩
      · rw [h5]; exact a1 i k hi h4
      · rw [h5]; exact Nat.le_refl _
  · intro i j k k' hi hj hk hk2 he hkk
    rcases new i k hi hk with ⟨h2, h3⟩ | ⟨rfl, h2, h3⟩
    · rcases new j k hj hk2 with ⟨h4, h5⟩ | ⟨rfl, h4, h5⟩
      · rw [(old i k' hi (by omega)).2, (old j k' hj (by omega)).2]
        exact b1 i j k k' hi hj h2 h4 (by rw [← h3, ← h5]; exact he) hkk
      · have := (c1 j i k hj hi hl h2 (by rw [← h3, ← h5]; exact he)).1
        omega
    · rcases new j k hj hk2 with ⟨h4, h5⟩ | ⟨rfl, h4, h5⟩
      · have := (c1 i j k hi hj hl h4 (by rw [← h3, ← h5]; exact he.symm)).1
        omega
      · rfl
  · intro i j k k' hi hj hk hk2 he hkk
    rcases new i k hi hk with ⟨h2, h3⟩ | ⟨rfl, h2, h3⟩
    · rcases new j k' hj hk2 with ⟨h4, h5⟩ | ⟨rfl, h4, h5⟩
      · rw [(old j k hj (by omega)).2, h3]
        exact b2 i j k k' hi hj h2 h4 (by rw [← h3, ← h5]; exact he) hkk
      · obtain ⟨g2, g3⟩ := c1 j i k hj hi hl h2 (by rw [← h3, ← h5]; exact he)
        rw [(old j k hj g2).2, h3, g3, ← h3, he, h5]
    · rcases new j k' hj hk2 with ⟨h4, h5⟩ | ⟨rfl, h4, h5⟩
      · have := (c1 i j k' hi hj hl h4 (by rw [← h3, ← h5]; exact he.symm)).1
        omega
      · rw [h2, ← h4, h5]
  · intro i j k hi hj hli hk he
    rcases new j k hj hk with ⟨h4, h5⟩ | ⟨rfl, h4, h5⟩
    · obtain ⟨g2, g3⟩ := c1 i j k hi hj hli h4 (by rw [← h5]; exact he)
      obtain ⟨g4, g5⟩ := old i k hi g2
      exact ⟨g4, by rw [g5]; exact g3⟩
    · have e2 : j = i := by
        have q1 := e1 j hj hl
        have q2 := e1 i hi hli
        rw [← he, h5] at q2
        omega
      subst e2
      exact ⟨hk, he⟩
  · intro i j k hi hj hk he
    rcases new j k hj hk with ⟨h4, h5⟩ | ⟨rfl, h4, h5⟩
    · rw [h5] at he ⊢; exact c0 i j k hi hj h4 he
    · rw [h5] at he ⊢
      have := e1 j hj hl
      rw [show i = j by omega]
      exact Nat.le_refl _
  · intro j k hj hk
    rcases new j k hj hk with ⟨h4, h5⟩ | ⟨rfl, h4, h5⟩
    · rw [h5]; exact f2 j k hj h4
    · rw [h5]; exact f1 j hj hl
  · intro i hi
    obtain ⟨q1, q2, q3⟩ := k1 i hi
    refine ⟨q1, by rw [hlen i hi]; split <;> omega, fun k hk => ?_⟩
    rw [(old i k hi (by omega)).2]; exact q3 k hk
  · intro j k hj hk ht
    rcases new j k hj hk with ⟨h4, h5⟩ | ⟨rfl, h4, h5⟩
    · exact hold j hj (g1 j k hj h4 (by rw [← h5]; exact ht))
    · exact hold j hj (l1 j hj hl (by rw [h5] at ht; omega))
/-- the last term of a log -/
def rLt (len : Nat → Nat) (tm : Nat → Nat → Nat) (i : Nat) : Nat := if len i = 0 then 0 else tm i (len i - 1)
/-- c comes to lead: two have granted its term e, which no entry has yet -/
theorem rInv.elect {T : Nat → Nat} {ld ld' : Nat → Prop} {len : Nat → Nat} {tm : Nat → Nat → Nat} {kn : Nat → Nat} {P : Nat} {pt : Nat → Nat} (h : rInv T ld len tm kn P pt) {c : Nat} (hc : c < 3) (he : T c % 3 = c) (hno : ∀ j k, j < 3 → k < len j → tm j k ≠ T c)
    (hv : r2 (fun a => T c ≤ T a ∧ ¬ (rLt len tm c < rLt len tm a ∨ (rLt len tm c = rLt len tm a ∧ len c < len a)))) (hl : ∀ i, i < 3 → ld' i → ld i ∨ i = c) : rInv T ld' len tm kn P pt := by
  obtain ⟨a1, a2, b1, b2, c1, c0, e1, f1, f2, k1, h1, g1, l1⟩ := h
  have hhold : rHold len tm P pt c := by
    by_cases hP : P = 0
    · subst hP; exact ⟨Nat.zero_le _, fun k hk => absurd hk (Nat.not_lt_zero k)⟩
    · obtain ⟨v, hv3, hvh, hve, hvn⟩ := h1.meet hv
      have hT0 : rT0 P pt = tm v (P - 1) := by
        unfold rT0; rw [if_neg hP, hvh.2 (P - 1) (by omega)]
      have hlv : rLt len tm v = tm v (len v - 1) := by
        unfold rLt; rw [if_neg (by have := hvh.1; omega)]
      have hm : tm v (P - 1) ≤ tm v (len v - 1) := a2 v _ _ hv3 (by have := hvh.1; omega) (by have := hvh.1; omega)
      by_cases hgt : rT0 P pt < rLt len tm c
      · have hcl : ¬ len c = 0 := by
          intro q; unfold rLt at hgt; rw [if_pos q] at hgt; omega
        unfold rLt at hgt
        rw [if_neg hcl] at hgt
        exact g1 c (len c - 1) hc (by omega) hgt
      · have h5 : rLt len tm c = rLt len tm v := by omega
        have h6 : ¬ len c < len v := fun q => hvn (Or.inr ⟨h5, q⟩)
        have hlc : rLt len tm c = tm c (len c - 1) := by
          unfold rLt; rw [if_neg (by have := hvh.1; omega)]
        have h7 : tm v (P - 1) = tm c (len c - 1) := by omega
        have h8 := b2 v c (P - 1) (len c - 1) hv3 hc (by have := hvh.1; omega) (by have := hvh.1; omega) h7 (by have := hvh.1; omega)
        refine ⟨by have := hvh.1; omega, fun k hk => ?_⟩
        rw [b1 c v (P - 1) k hc hv3 (by have := hvh.1; omega) (by have := hvh.1; omega) h8 (by omega)]
        exact hvh.2 k hk
  refine ⟨a1, a2, b1, b2, fun i j k hi hj h hk hk2 => ?_, c0, fun i hi h => ?_, fun i hi h => ?_, f2, k1, h1, g1, fun i hi h h0 => ?_⟩
  · rcases hl i hi h with h | rfl
    · exact c1 i j k hi hj h hk hk2
    · exact absurd hk2 (hno j k hj hk)
  · rcases hl i hi h with h | rfl
    · exact e1 i hi h
    · exact he
  · rcases hl i hi h with h | rfl
    · exact f1 i hi h
    · exact hv.mono fun a _ h => h.1
  · rcases hl i hi h with h | rfl
    · exact l1 i hi h h0
    · exact hhold
/-- at a ship that isn't stale the leader holds what is committed -/
theorem rInv.lead {T : Nat → Nat} {ld : Nat → Prop} {len : Nat → Nat} {tm : Nat → Nat → Nat} {kn : Nat → Nat} {P : Nat} {pt : Nat → Nat} (h : rInv T ld len tm kn P pt) {a b : Nat} (ha : a < 3) (hb : b < 3) (hab : a ≠ b) (hl : ld a) (hT : T b = T a) : rHold len tm P pt a := by
  obtain ⟨a1, a2, b1, b2, c1, c0, e1, f1, f2, k1, h1, g1, l1⟩ := h
  refine l1 a ha hl ?_
  by_cases hP : P = 0
  · unfold rT0; rw [if_pos hP]; exact Nat.zero_le _
  · obtain ⟨v, hv3, hvh, hve⟩ := h1.meet (⟨a, b, ha, hb, hab, Nat.le_refl _, Nat.le_of_eq hT⟩ : r2 (fun x => T x ≤ T a))
    have := a1 v (P - 1) hv3 (by have := hvh.1; omega)
    unfold rT0; rw [if_neg hP, ← hvh.2 (P - 1) (by omega)]
    omega
/-- what is known is in the common beginning -/
theorem rInv.safe {T : Nat → Nat} {ld : Nat → Prop} {len : Nat → Nat} {tm : Nat → Nat → Nat} {kn : Nat → Nat} {P : Nat} {pt : Nat → Nat} (h : rInv T ld len tm kn P pt) {a b k0 : Nat} (ha : a < 3) (hb : b < 3) (hab : a ≠ b) (hl : ld a) (hT : T b = T a) (hk : ¬ (k0 < len a ∧ k0 < len b ∧ tm a k0 = tm b k0)) : kn b ≤ k0 := by
  have h9 := h.lead ha hb hab hl hT
  obtain ⟨a1, a2, b1, b2, c1, c0, e1, f1, f2, k1, h1, g1, l1⟩ := h
  obtain ⟨q1, q2, q3⟩ := k1 b hb
  refine Nat.le_of_not_lt fun q => hk ⟨by have := h9.1; omega, by omega, ?_⟩
  rw [q3 k0 q, h9.2 k0 (by omega)]
/-- b's log becomes a beginning of a's -/
theorem rInv.copy {T : Nat → Nat} {ld : Nat → Prop} {len len' : Nat → Nat} {tm tm' : Nat → Nat → Nat} {kn : Nat → Nat} {P : Nat} {pt : Nat → Nat} (h : rInv T ld len tm kn P pt) {a b n : Nat} (ha : a < 3) (hb : b < 3) (hab : a ≠ b) (hl : ld a) (hT : T b = T a) (hn : n ≤ len a) (hkn : kn b ≤ n) (hP : rHold len tm P pt b → P ≤ n)
    (hlen : ∀ i, i < 3 → len' i = if i = b then n else len i) (htm : ∀ i k, i < 3 → k < len' i → tm' i k = if i = b then tm a k else tm i k) : rInv T ld len' tm' kn P pt := by
  have h9 := h.lead ha hb hab hl hT
  obtain ⟨a1, a2, b1, b2, c1, c0, e1, f1, f2, k1, h1, g1, l1⟩ := h
  have hlb : ¬ ld b := by
    intro q
    have q1 := e1 a ha hl
    have q2 := e1 b hb q
    rw [hT] at q2
    omega
  -- each new log is one of the old, or a beginning of one
  have src : ∀ i, i < 3 → ∃ j, j < 3 ∧ (∀ k, k < len' i → k < len j ∧ tm' i k = tm j k) ∧ T j = T i ∧ (i ≠ b → j = i ∧ len' i = len i) ∧ (i = b → j = a ∧ len' i = n) := by
    intro i hi
    by_cases e : i = b
    · subst e
      refine ⟨a, ha, fun k hk => ?_, hT.symm, fun q => absurd rfl q, fun _ => ⟨rfl, by rw [hlen i hi, if_pos rfl]⟩⟩
      have hk2 := hk
      rw [hlen i hi, if_pos rfl] at hk2
      exact ⟨by omega, by rw [htm i k hi hk, if_pos rfl]⟩
    · refine ⟨i, hi, fun k hk => ?_, rfl, fun _ => ⟨rfl, by rw [hlen i hi, if_neg e]⟩, fun q => absurd q e⟩
      have hk2 := hk
      rw [hlen i hi, if_neg e] at hk2
      exact ⟨hk2, by rw [htm i k hi hk, if_neg e]⟩
  have hold : ∀ i, i < 3 → i ≠ b → rHold len tm P pt i → rHold len' tm' P pt i := by
    intro i hi e q
    obtain ⟨j, hj, s1, s2, s3, s4⟩ := src i hi
    obtain ⟨rfl, s5⟩ := s3 e
    refine ⟨by rw [s5]; exact q.1, fun k hk => ?_⟩
    rw [(s1 k (by rw [s5]; have := q.1; omega)).2]
    exact q.2 k hk
  have holdb : P ≤ n → rHold len' tm' P pt b := by
    intro q
    obtain ⟨j, hj, s1, s2, s3, s4⟩ := src b hb
    obtain ⟨rfl, s5⟩ := s4 rfl
    refine ⟨by omega, fun k hk => ?_⟩
    rw [(s1 k (by omega)).2]
    exact h9.2 k hk
  refine ⟨?_, ?_, ?_, ?_, ?_, ?_, e1, f1, ?_, ?_, ?_, ?_, ?_⟩
  · intro i k hi hk
    obtain ⟨j, hj, s1, s2, s3, s4⟩ := src i hi
    obtain ⟨q1, q2⟩ := s1 k hk
    rw [q2, ← s2]; exact a1 j k hj q1
  · intro i k k' hi hkk hk
    obtain ⟨j, hj, s1, s2, s3, s4⟩ := src i hi
    rw [(s1 k (by omega)).2, (s1 k' hk).2]
    exact a2 j k k' hj hkk (s1 k' hk).1
  · intro i j k k' hi hj hk hk2 he hkk
    obtain ⟨i', hi', s1, -⟩ := src i hi
    obtain ⟨j', hj', t1, -⟩ := src j hj
    rw [(s1 k' (by omega)).2, (t1 k' (by omega)).2]
    exact b1 i' j' k k' hi' hj' (s1 k hk).1 (t1 k hk2).1 (by rw [← (s1 k hk).2, ← (t1 k hk2).2]; exact he) hkk
  · intro i j k k' hi hj hk hk2 he hkk
    obtain ⟨i', hi', s1, -⟩ := src i hi
    obtain ⟨j', hj', t1, -⟩ := src j hj
    rw [(s1 k hk).2, (t1 k (by omega)).2]
    exact b2 i' j' k k' hi' hj' (s1 k hk).1 (t1 k' hk2).1 (by rw [← (s1 k hk).2, ← (t1 k' hk2).2]; exact he) hkk
  · intro i j k hi hj hli hk he
    have e : i ≠ b := fun q => hlb (q ▸ hli)
    obtain ⟨j', hj', t1, -⟩ := src j hj
    obtain ⟨i', hi', s1, s2, s3, s4⟩ := src i hi
    obtain ⟨rfl, s5⟩ := s3 e
    obtain ⟨g2, g3⟩ := c1 i' j' k hi' hj' hli (t1 k hk).1 (by rw [← (t1 k hk).2]; exact he)
    exact ⟨by omega, by rw [(s1 k (by omega)).2]; exact g3⟩
  · intro i j k hi hj hk he
    obtain ⟨j', hj', t1, -⟩ := src j hj
    rw [(t1 k hk).2] at he ⊢
    exact c0 i j' k hi hj' (t1 k hk).1 he
  · intro j k hj hk
    obtain ⟨j', hj', t1, -⟩ := src j hj
    rw [(t1 k hk).2]
    exact f2 j' k hj' (t1 k hk).1
  · intro i hi
    obtain ⟨q1, q2, q3⟩ := k1 i hi
    obtain ⟨i', hi', s1, s2, s3, s4⟩ := src i hi
    by_cases e : i = b
    · subst e
      obtain ⟨rfl, s5⟩ := s4 rfl
      refine ⟨q1, by omega, fun k hk => ?_⟩
      rw [(s1 k (by omega)).2]
      exact h9.2 k (by omega)
    · obtain ⟨rfl, s5⟩ := s3 e
      refine ⟨q1, by omega, fun k hk => ?_⟩
      rw [(s1 k (by omega)).2]
      exact q3 k hk
  · refine h1.mono fun x hx q => ?_
    by_cases e : x = b
    · subst e; exact holdb (hP q)
    · exact hold x hx e q
  · intro j k hj hk ht
    obtain ⟨j', hj', t1, t2, t3, t4⟩ := src j hj
    by_cases e : j = b
    · subst e
      obtain ⟨rfl, s5⟩ := t4 rfl
      refine holdb ?_
      by_cases hP0 : P = 0
      · omega
      · refine Nat.le_of_not_lt fun q => ?_
        rw [(t1 k hk).2] at ht
        unfold rT0 at ht
        rw [if_neg hP0, ← h9.2 (P - 1) (by omega)] at ht
        have := a2 j' k (P - 1) hj' (by omega) (by have := h9.1; omega)
        omega
    · obtain ⟨rfl, s5⟩ := t3 e
      refine hold j' hj' e (g1 j' k hj' (t1 k hk).1 (by rw [← (t1 k hk).2]; exact ht))
  · intro i hi hli h0
    have e : i ≠ b := fun q => hlb (q ▸ hli)
    exact hold i hi e (l1 i hi hli h0)
/-- the leader comes to know more -/
theorem rInv.know {T : Nat → Nat} {ld : Nat → Prop} {len : Nat → Nat} {tm : Nat → Nat → Nat} {kn kn' : Nat → Nat} {P : Nat} {pt : Nat → Nat} (h : rInv T ld len tm kn P pt) {a b v i : Nat} (ha : a < 3) (hb : b < 3) (hab : a ≠ b) (hl : ld a) (hT : T b = T a) (hi : i < len a) (hti : tm a i = T a) (hv : v < 3) (hva : v ≠ a) (hvi : i < len v) (htv : tm v i = T a)
    (hkn : ∀ x, x < 3 → kn' x = if x = a then i + 1 else kn x) : ∃ P' pt', rInv T ld len tm kn' P' pt' := by
  have h9 := h.lead ha hb hab hl hT
  obtain ⟨a1, a2, b1, b2, c1, c0, e1, f1, f2, k1, h1, g1, l1⟩ := h
  by_cases hP : i + 1 ≤ P
  · refine ⟨P, pt, a1, a2, b1, b2, c1, c0, e1, f1, f2, fun x hx => ?_, h1, g1, l1⟩
    rw [hkn x hx]
    split
    · rename_i e
      subst e
      exact ⟨hP, by omega, fun k hk => h9.2 k (by omega)⟩
    · exact k1 x hx
  · have two : ∀ f : Nat → Nat, ∀ y, r2 (fun x => y ≤ T x) → y ≤ T a := by
      intro _ y hy
      obtain ⟨x, hx, q1, q2⟩ := hy.meet (⟨a, b, ha, hb, hab, Nat.le_refl _, Nat.le_of_eq hT⟩ : r2 (fun x => T x ≤ T a))
      omega
    have ha2 : rHold len tm (i + 1) (tm a) a := ⟨by omega, fun k _ => rfl⟩
    have hv2 : rHold len tm (i + 1) (tm a) v := ⟨by omega, fun k hk => b1 v a i k hv ha hvi hi (by omega) (by omega)⟩
    have hT0 : rT0 (i + 1) (tm a) = T a := by
      unfold rT0; rw [if_neg (by omega), show i + 1 - 1 = i by omega]; exact hti
    refine ⟨i + 1, tm a, a1, a2, b1, b2, c1, c0, e1, f1, f2, fun x hx => ?_, ⟨v, a, hv, ha, hva, hv2, ha2⟩, fun j k hj hk ht => ?_, fun x hx hlx h0 => ?_⟩
    · rw [hkn x hx]
      split
      · rename_i e
        subst e
        exact ⟨Nat.le_refl _, by omega, fun k hk => rfl⟩
      · obtain ⟨q1, q2, q3⟩ := k1 x hx
        exact ⟨by omega, q2, fun k hk => by rw [q3 k hk, h9.2 k (by omega)]⟩
    · have := two T _ (f2 j k hj hk)
      rw [hT0] at ht
      omega
    · have q1 := two T _ (f1 x hx hlx)
      rw [hT0] at h0
      have q2 := e1 x hx hlx
      have q3 := e1 a ha hl
      rw [show T x = T a by omega] at q2
      rw [show x = a by omega]
      exact ha2
/-- b comes to know what its leader knows -/
theorem rInv.learn {T : Nat → Nat} {ld : Nat → Prop} {len : Nat → Nat} {tm : Nat → Nat → Nat} {kn kn' : Nat → Nat} {P : Nat} {pt : Nat → Nat} (h : rInv T ld len tm kn P pt) {a b : Nat} (ha : a < 3) (hb : b < 3) (hpre : ∀ k, k < len b → k < len a ∧ tm b k = tm a k)
    (hkn : ∀ x, x < 3 → kn' x = if x = b then max (kn b) (min (kn a) (len b)) else kn x) : rInv T ld len tm kn' P pt := by
  obtain ⟨a1, a2, b1, b2, c1, c0, e1, f1, f2, k1, h1, g1, l1⟩ := h
  refine ⟨a1, a2, b1, b2, c1, c0, e1, f1, f2, fun x hx => ?_, h1, g1, l1⟩
  rw [hkn x hx]
  split
  · rename_i e
    subst e
    obtain ⟨q1, q2, q3⟩ := k1 x hx
    obtain ⟨p1, p2, p3⟩ := k1 a ha
    refine ⟨by omega, by omega, fun k hk => ?_⟩
    by_cases h9 : k < kn x
    · exact q3 k h9
    · rw [(hpre k (by omega)).2]
      exact p3 k (by omega)
  · exact k1 x hx
