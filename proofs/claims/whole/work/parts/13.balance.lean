theorem cn_le (own : Nat → Nat) (g : Nat) : ∀ n, cn own g n ≤ n
  | 0 => Nat.le_refl _
  | n + 1 => by
    have := cn_le own g n
    show cn own g n + (if own n = g then 1 else 0) ≤ n + 1
    split <;> omega
theorem cn_fu_hi (own : Nat → Nat) {s g x : Nat} : ∀ n, n ≤ s → cn (fu own s g) x n = cn own x n
  | 0, _ => rfl
  | n + 1, h => by
    show cn (fu own s g) x n + (if fu own s g n = x then 1 else 0) = cn own x n + (if own n = x then 1 else 0)
    rw [cn_fu_hi own n (by omega), fu_n _ _ (by omega)]
theorem cn_fu (own : Nat → Nat) {s g x : Nat} : ∀ n, s < n → cn (fu own s g) x n + (if own s = x then 1 else 0) = cn own x n + (if g = x then 1 else 0)
  | 0, h => absurd h (Nat.not_lt_zero _)
  | n + 1, h => by
    show cn (fu own s g) x n + (if fu own s g n = x then 1 else 0) + _ = cn own x n + (if own n = x then 1 else 0) + _
    by_cases q : s = n
    · subst q
      rw [cn_fu_hi own s (Nat.le_refl _), fu_s]
      omega
    · have := cn_fu own (s := s) (g := g) (x := x) n (by omega)
      rw [fu_n _ _ (show n ≠ s by omega)]
      omega
theorem cn_pos {own : Nat → Nat} {s x : Nat} (h : own s = x) : ∀ n, s < n → 1 ≤ cn own x n
  | 0, g => absurd g (Nat.not_lt_zero _)
  | n + 1, g => by
    show 1 ≤ cn own x n + (if own n = x then 1 else 0)
    by_cases q : s = n
    · subst q; rw [if_pos h]; omega
    · have := cn_pos h n (by omega); omega
theorem cn_ex {own : Nat → Nat} {x : Nat} : ∀ n, 1 ≤ cn own x n → ∃ s, s < n ∧ own s = x
  | 0, h => absurd h (by show ¬ 1 ≤ 0; omega)
  | n + 1, h => by
    have h' : 1 ≤ cn own x n + (if own n = x then 1 else 0) := h
    by_cases q : own n = x
    · exact ⟨n, by omega, q⟩
    · rw [if_neg q] at h'
      obtain ⟨s, h1, h2⟩ := cn_ex n (by omega)
      exact ⟨s, by omega, h2⟩
theorem ls_none {own : Nat → Nat} {g : Nat} : ∀ n, (∀ j, j < n → own j ≠ g) → ls own g n = n
  | 0, _ => rfl
  | n + 1, h => by
    show (if ls own g n < n then ls own g n else if own n = g then n else n + 1) = n + 1
    rw [ls_none n (fun j hj => h j (by omega)), if_neg (Nat.lt_irrefl n), if_neg (h n (by omega))]
theorem ls_at {own : Nat → Nat} {g r : Nat} (h1 : ∀ j, j < r → own j ≠ g) (h2 : own r = g) : ∀ n, r < n → ls own g n = r
  | 0, h => absurd h (Nat.not_lt_zero _)
  | n + 1, h => by
    show (if ls own g n < n then ls own g n else if own n = g then n else n + 1) = r
    by_cases q : r = n
    · subst q
      rw [ls_none r h1, if_neg (Nat.lt_irrefl r), if_pos h2]
    · rw [ls_at h1 h2 n (by omega), if_pos (by omega)]
theorem ex_le (b : Bool) (mem : Nat → Bool) (c : Nat → Nat) : ∀ g, ex b mem c g ≤ g
  | 0 => Nat.le_refl _
  | g + 1 => by
    have := ex_le b mem c g
    have k : ∀ (p : Prop) [Decidable p], (if p then g + 1 else ex b mem c g) ≤ g + 1 := by
      intro p _
      split <;> omega
    exact k _
/-- all is even -/
def stl (mem : Nat → Bool) (own : Nat → Nat) : Prop := cn own (ex true mem (fun g => cn own g 8) 3) 8 < cn own (ex false mem (fun g => cn own g 8) 3) 8 + 2
theorem bal1_st {mem : Nat → Bool} {own : Nat → Nat} (h : stl mem own) : bal1 mem own = own := if_pos h
theorem bal_st {mem : Nat → Bool} {own : Nat → Nat} (h : stl mem own) : ∀ n, bal mem n own = own
  | 0 => rfl
  | n + 1 => by
    show bal1 mem (bal mem n own) = own
    rw [bal_st h n, bal1_st h]
theorem bal_add (mem : Nat → Bool) (own : Nat → Nat) (a : Nat) : ∀ b, bal mem (a + b) own = bal mem b (bal mem a own)
  | 0 => rfl
  | b + 1 => by
    show bal1 mem (bal mem (a + b) own) = bal1 mem (bal mem b (bal mem a own))
    rw [bal_add mem own a b]
/-- each shard has a member for its owner -/
def allm (mem : Nat → Bool) (own : Nat → Nat) : Prop := ∀ s, s < 8 → 1 ≤ own s ∧ own s ≤ 3 ∧ mem (own s) = true
theorem cn_sum {own : Nat → Nat} : ∀ n, (∀ s, s < n → 1 ≤ own s ∧ own s ≤ 3) → cn own 1 n + cn own 2 n + cn own 3 n = n
  | 0, _ => rfl
  | n + 1, h => by
    have := cn_sum n (fun s hs => h s (by omega))
    obtain ⟨h1, h2⟩ := h n (by omega)
    show cn own 1 n + (if own n = 1 then 1 else 0) + (cn own 2 n + if own n = 2 then 1 else 0) + (cn own 3 n + if own n = 3 then 1 else 0) = n + 1
    rcases (by omega : own n = 1 ∨ own n = 2 ∨ own n = 3) with e | e | e <;> simp [e] <;> omega
theorem cn_zero {own : Nat → Nat} {x : Nat} : ∀ n, (∀ s, s < n → own s ≠ x) → cn own x n = 0
  | 0, _ => rfl
  | n + 1, h => by
    show cn own x n + (if own n = x then 1 else 0) = 0
    rw [cn_zero n (fun s hs => h s (by omega)), if_neg (h n (by omega))]
theorem allm_0 {mem : Nat → Bool} {own : Nat → Nat} (h : allm mem own) {g : Nat} (hg : mem g = false) : cn own g 8 = 0 := by
  refine cn_zero 8 (fun s hs q => ?_)
  have := (h s hs).2.2
  rw [q, hg] at this
  cases this
/-- how far from even, by the counts of the three groups -/
def phi (mem : Nat → Bool) (c1 c2 c3 : Nat) : Nat :=
  if mem 1 && mem 2 && mem 3 then (c1 - 3) + (c2 - 3) + (c3 - 3) else (c1 - 4) + (c2 - 4) + (c3 - 4)
/-- the one with most, the one with fewest, by the counts -/
theorem ex_facts (mem : Nat → Bool) (c : Nat → Nat) (h : mem 1 = true ∨ mem 2 = true ∨ mem 3 = true) :
    (∃ r, ex true mem c 3 = r ∧ 1 ≤ r ∧ r ≤ 3 ∧ mem r = true ∧ ∀ g, 1 ≤ g → g ≤ 3 → mem g = true → c g ≤ c r) ∧ (∃ r, ex false mem c 3 = r ∧ 1 ≤ r ∧ r ≤ 3 ∧ mem r = true ∧ ∀ g, 1 ≤ g → g ≤ 3 → mem g = true → c r ≤ c g) := by
  have gen : ∀ b : Bool, ∀ k, (ex b mem c k = 0 ∧ ∀ g, 1 ≤ g → g ≤ k → mem g = false) ∨ (1 ≤ ex b mem c k ∧ ex b mem c k ≤ k ∧ mem (ex b mem c k) = true ∧ ∀ g, 1 ≤ g → g ≤ k → mem g = true → if b then c g ≤ c (ex b mem c k) else c (ex b mem c k) ≤ c g) := by
    intro b k
    induction k with
    | zero => exact Or.inl ⟨rfl, fun g h1 h2 => by omega⟩
    | succ k ih =>
      have hle := ex_le b mem c k
      by_cases q : mem (k + 1) = true ∧ (ex b mem c k = 0 ∨ (if b then c (ex b mem c k) < c (k + 1) else c (k + 1) < c (ex b mem c k)))
      · have e : ex b mem c (k + 1) = k + 1 := by
          show (if _ then k + 1 else _) = _
          exact if_pos q
        refine Or.inr ⟨by omega, by omega, by rw [e]; exact q.1, fun g h1 h2 h3 => ?_⟩
        rw [e]
        by_cases hg : g = k + 1
        · subst hg; split <;> omega
        · rcases ih with ⟨i1, i2⟩ | ⟨i1, i2, i3, i4⟩
          · rw [i2 g h1 (by omega)] at h3; cases h3
          · have i5 := i4 g h1 (by omega) h3
            rcases q.2 with q2 | q2
            · omega
            · cases b
              · simp only [Bool.false_eq_true, if_false] at i5 q2 ⊢; omega
              · simp only [if_true] at i5 q2 ⊢; omega
      · have e : ex b mem c (k + 1) = ex b mem c k := by
          show (if _ then k + 1 else _) = _
          exact if_neg q
        rw [e]
        rcases ih with ⟨i1, i2⟩ | ⟨i1, i2, i3, i4⟩
        · refine Or.inl ⟨i1, fun g h1 h2 => ?_⟩
          by_cases hg : g = k + 1
          · subst hg
            cases hm : mem (k + 1)
            · rfl
            · exact absurd ⟨hm, Or.inl i1⟩ q
          · exact i2 g h1 (by omega)
        · refine Or.inr ⟨i1, by omega, i3, fun g h1 h2 h3 => ?_⟩
          by_cases hg : g = k + 1
          · subst hg
            have q2 : ¬ (if b then c (ex b mem c k) < c (k + 1) else c (k + 1) < c (ex b mem c k)) := fun z => q ⟨h3, Or.inr z⟩
            cases b
            · simp only [Bool.false_eq_true, if_false] at q2 ⊢; omega
            · simp only [if_true] at q2 ⊢; omega
          · exact i4 g h1 (by omega) h3
  have nz : ¬ ∀ g, 1 ≤ g → g ≤ 3 → mem g = false := by
    intro q
    rcases h with h | h | h
    · rw [q 1 (by omega) (by omega)] at h; cases h
    · rw [q 2 (by omega) (by omega)] at h; cases h
    · rw [q 3 (by omega) (by omega)] at h; cases h
  constructor
  · rcases gen true 3 with ⟨-, g2⟩ | ⟨g1, g2, g3, g4⟩
    · exact absurd g2 nz
    · exact ⟨_, rfl, g1, g2, g3, fun g h1 h2 h3 => by have := g4 g h1 h2 h3; simpa using this⟩
  · rcases gen false 3 with ⟨-, g2⟩ | ⟨g1, g2, g3, g4⟩
    · exact absurd g2 nz
    · exact ⟨_, rfl, g1, g2, g3, fun g h1 h2 h3 => by have := g4 g h1 h2 h3; simpa using this⟩
theorem bal1_step {mem : Nat → Bool} {own : Nat → Nat} (h : allm mem own) (hn : ¬ stl mem own) : ∃ rich poor s, ex true mem (fun g => cn own g 8) 3 = rich ∧ ex false mem (fun g => cn own g 8) 3 = poor ∧ s < 8 ∧ own s = rich ∧ ls own rich 8 = s ∧ (∀ j, j < s → own j ≠ rich) ∧ bal1 mem own = fu own s poor ∧ allm mem (bal1 mem own) ∧ 1 ≤ poor ∧ poor ≤ 3 ∧
    phi mem (cn (bal1 mem own) 1 8) (cn (bal1 mem own) 2 8) (cn (bal1 mem own) 3 8) + 1 ≤ phi mem (cn own 1 8) (cn own 2 8) (cn own 3 8) := by
  have hm : mem 1 = true ∨ mem 2 = true ∨ mem 3 = true := by
    obtain ⟨h1, h2, h3⟩ := h 0 (by omega)
    rcases (by omega : own 0 = 1 ∨ own 0 = 2 ∨ own 0 = 3) with e | e | e <;> rw [e] at h3
    · exact Or.inl h3
    · exact Or.inr (Or.inl h3)
    · exact Or.inr (Or.inr h3)
  obtain ⟨⟨rich, r1, r2, r3, r4, r5⟩, ⟨poor, p1, p2, p3, p4, p5⟩⟩ := ex_facts mem (fun g => cn own g 8) hm
  unfold stl at hn
  rw [r1, p1] at hn
  obtain ⟨s0, hs0, hs1⟩ := cn_ex (own := own) (x := rich) 8 (by omega)
  obtain ⟨s, ⟨hs, hsr⟩, hmin⟩ := pk_least (fun k => k < 8 ∧ own k = rich) ⟨s0, hs0, hs1⟩
  have hlt : ∀ j, j < s → own j ≠ rich := fun j hj q => hmin j hj ⟨by omega, q⟩
  have hls := ls_at hlt hsr 8 hs
  have hb : bal1 mem own = fu own s poor := by
    unfold bal1
    rw [r1, p1, if_neg hn, hls]
  have hal : allm mem (fu own s poor) := by
    intro j hj
    by_cases q : j = s
    · rw [q, fu_s]; exact ⟨p2, p3, p4⟩
    · rw [fu_n _ _ q]; exact h j hj
  refine ⟨rich, poor, s, r1, p1, hs, hsr, hls, hlt, hb, by rw [hb]; exact hal, p2, p3, ?_⟩
  rw [hb]
  have hsum := cn_sum (own := own) 8 (fun j hj => ⟨(h j hj).1, (h j hj).2.1⟩)
  have hrp : rich ≠ poor := by
    intro q; rw [q] at hn; omega
  have f1 := cn_fu own (s := s) (g := poor) (x := 1) 8 hs
  have f2 := cn_fu own (s := s) (g := poor) (x := 2) 8 hs
  have f3 := cn_fu own (s := s) (g := poor) (x := 3) 8 hs
  rw [hsr] at f1 f2 f3
  have z1 : mem 1 = false → cn own 1 8 = 0 := allm_0 h
  have z2 : mem 2 = false → cn own 2 8 = 0 := allm_0 h
  have z3 : mem 3 = false → cn own 3 8 = 0 := allm_0 h
  have g1 : mem 1 = true → cn own 1 8 ≤ cn own rich 8 ∧ cn own poor 8 ≤ cn own 1 8 := fun q => ⟨r5 1 (by omega) (by omega) q, p5 1 (by omega) (by omega) q⟩
  have g2 : mem 2 = true → cn own 2 8 ≤ cn own rich 8 ∧ cn own poor 8 ≤ cn own 2 8 := fun q => ⟨r5 2 (by omega) (by omega) q, p5 2 (by omega) (by omega) q⟩
  have g3 : mem 3 = true → cn own 3 8 ≤ cn own rich 8 ∧ cn own poor 8 ≤ cn own 3 8 := fun q => ⟨r5 3 (by omega) (by omega) q, p5 3 (by omega) (by omega) q⟩
  unfold phi
  rcases (by omega : rich = 1 ∨ rich = 2 ∨ rich = 3) with rfl | rfl | rfl <;> rcases (by omega : poor = 1 ∨ poor = 2 ∨ poor = 3) with rfl | rfl | rfl <;> first | exact absurd rfl hrp | skip
  all_goals
    simp only [if_true, if_false, Nat.reduceEqDiff] at f1 f2 f3
    cases e1 : mem 1 <;> cases e2 : mem 2 <;> cases e3 : mem 3 <;> simp only [e1, e2, e3] at z1 z2 z3 g1 g2 g3 r4 p4 ⊢ <;> simp at z1 z2 z3 g1 g2 g3 r4 p4 ⊢ <;> omega
theorem phi_le {mem : Nat → Bool} {own : Nat → Nat} (h : allm mem own) (h2 : ¬ stl mem own) : phi mem (cn own 1 8) (cn own 2 8) (cn own 3 8) ≤ 5 := by
  have hsum := cn_sum (own := own) 8 (fun j hj => ⟨(h j hj).1, (h j hj).2.1⟩)
  unfold phi
  split <;> omega
theorem bal_run {mem : Nat → Bool} {own : Nat → Nat} (h : allm mem own) : ∀ r, (∀ j, j < r → ¬ stl mem (bal mem j own)) → allm mem (bal mem r own) ∧ phi mem (cn (bal mem r own) 1 8) (cn (bal mem r own) 2 8) (cn (bal mem r own) 3 8) + r ≤ phi mem (cn own 1 8) (cn own 2 8) (cn own 3 8)
  | 0, _ => ⟨h, Nat.le_refl _⟩
  | r + 1, hj => by
    obtain ⟨a, b⟩ := bal_run h r (fun j q => hj j (by omega))
    obtain ⟨rich, poor, s, -, -, -, -, -, -, -, c1, -, -, c2⟩ := bal1_step a (hj r (by omega))
    exact ⟨c1, by show phi mem (cn (bal1 mem (bal mem r own)) 1 8) (cn (bal1 mem (bal mem r own)) 2 8) (cn (bal1 mem (bal mem r own)) 3 8) + (r + 1) ≤ _; omega⟩
/-- eight rounds are enough -/
theorem bal_8 {mem : Nat → Bool} {own : Nat → Nat} (h : allm mem own) : ∃ r, r ≤ 6 ∧ stl mem (bal mem r own) ∧ (∀ j, j < r → ¬ stl mem (bal mem j own)) ∧ bal mem r own = bal mem 8 own := by
  have key : ∃ r, r ≤ 6 ∧ stl mem (bal mem r own) := by
    refine Classical.byContradiction fun q => ?_
    have q2 : ∀ j, j < 7 → ¬ stl mem (bal mem j own) := fun j hj z => q ⟨j, by omega, z⟩
    obtain ⟨-, b⟩ := bal_run h 7 q2
    have := phi_le h (q2 0 (by omega))
    omega
  obtain ⟨r0, g1, g2⟩ := key
  obtain ⟨r, h1, h2⟩ := pk_least (fun r => stl mem (bal mem r own)) ⟨r0, g2⟩
  have hr : r ≤ r0 := Nat.le_of_not_lt fun q => h2 r0 q g2
  refine ⟨r, by omega, h1, h2, ?_⟩
  rw [show 8 = r + (8 - r) by omega, bal_add, bal_st h1]
