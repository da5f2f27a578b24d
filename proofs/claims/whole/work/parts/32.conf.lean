/-- a configuration at q, with its rows at m, o, w -/
def cfS (M : aM) (q m o w : Nat) (c : aCf) : Prop := tO M q 1 ∧ mR M q 0 = some m ∧ mR M q 1 = some o ∧ mR M q 2 = some w ∧ tA M m 101 4 ∧ tA M o 100 8 ∧ tA M w 100 4 ∧ (∀ g, g < 4 → mI M m g = bI (c.1 g)) ∧ (∀ s, s < 8 → mI M o s = nI (c.2 s)) ∧ ∀ g, g < 4 → mI M w g = nI (cn c.2 g 8)
/-- only these three rows have changed -/
def fr3 (M M1 : aM) (m o w : Nat) : Prop := mSz M1 = mSz M ∧ ∀ a, a ≠ m → a ≠ o → a ≠ w → sm M M1 a
theorem fr3.rf (M : aM) (m o w : Nat) : fr3 M M m o w := ⟨rfl, fun a _ _ _ => sm.rf M a⟩
theorem fr3.tr {M M1 M2 : aM} {m o w : Nat} (h : fr3 M M1 m o w) (g : fr3 M1 M2 m o w) : fr3 M M2 m o w := ⟨g.1.trans h.1, fun a h1 h2 h3 => (h.2 a h1 h2 h3).tr (g.2 a h1 h2 h3)⟩
theorem cfS.ow {M : aM} {q m o w : Nat} {c : aCf} (h : cfS M q m o w c) : o ≠ w := by
  obtain ⟨-, -, -, -, -, h1, h2, -⟩ := h
  intro e; subst e
  exact absurd (h1.2.2.symm.trans h2.2.2) (by decide)
theorem cfS.mo {M : aM} {q m o w : Nat} {c : aCf} (h : cfS M q m o w c) : m ≠ o ∧ m ≠ w := by
  obtain ⟨-, -, -, -, h0, h1, h2, -⟩ := h
  constructor
  · intro e; subst e
    exact absurd (h0.2.1.symm.trans h1.2.1) (by decide)
  · intro e; subst e
    exact absurd (h0.2.1.symm.trans h2.2.1) (by decide)
theorem cfR.s {M : aM} {q : Nat} {c : aCf} (h : cfR M q c) : ∃ m o w, im m ∧ im o ∧ im w ∧ cfS M q m o w c := by
  obtain ⟨h1, h2, m, o, w, h3, h4, h5, h6, h7, h8, h9, ha, hb, hc, hd, he⟩ := h
  exact ⟨m, o, w, h3, h4, h5, h2, h6, h7, h8, h9, ha, hb, hc, hd, he⟩
theorem cfS.r {M : aM} {q m o w : Nat} {c : aCf} (h : cfS M q m o w c) (h1 : im q) (h2 : im m) (h3 : im o) (h4 : im w) : cfR M q c := by
  obtain ⟨a0, a1, a2, a3, a4, a5, a6, a7, a8, a9⟩ := h
  exact ⟨h1, a0, m, o, w, h2, h3, h4, a1, a2, a3, a4, a5, a6, a7, a8, a9⟩
theorem bI_eq {x : Int32} {b : Bool} (h : x = bI b) : (x = 0 ↔ b = false) := by
  subst h; cases b <;> decide

/-- how many of the first k are members -/
def nMk (mem : Nat → Bool) : Nat → Nat
  | 0 => 0
  | k + 1 => nMk mem k + if mem k = true then 1 else 0
theorem nMk_4 {mem : Nat → Bool} (h : mem 0 = false) : nMk mem 4 = nM mem := by
  unfold nM
  simp only [nMk, h]
  cases mem 1 <;> cases mem 2 <;> cases mem 3 <;> rfl
theorem nMk_le (mem : Nat → Bool) : ∀ k, nMk mem k ≤ k
  | 0 => Nat.le_refl _
  | k + 1 => by
    have := nMk_le mem k
    show nMk mem k + (if _ then 1 else 0) ≤ k + 1
    split <;> omega
set_option maxRecDepth 20000 in
set_option maxHeartbeats 1000000 in
theorem k_countMembers (M : aM) (q m o w : Nat) (c : aCf) (hc : cfS M q m o w c) (h0 : c.1 0 = false) : aK m_C_countMembers 0 0 0 M [.ref q] (fun M1 r => M1 = M ∧ r = some (.int (nI (nM c.1)))) := by
  refine aK.of (by decide) (Nat.le_of_ble_eq_true rfl) ?_
  have hc0 := hc
  obtain ⟨hq, hm, ho, hw, tm, to, tw, vm, vo, vw⟩ := hc
  have loop : ∀ (n i : Nat) (z : Option Value), i + n = 4 → aJ aX0 m_C_countMembers 0 0 0 (fun M1 r => M1 = M ∧ r = some (.int (nI (nM c.1)))) 0 0 13 [some (.ref q), some (.int (nI (nMk c.1 i))), some (.ref m), some (.int 4), some (.int (nI i)), z] [] M := by
    intro n
    induction n with
    | zero =>
      intro i z hi
      have e4 : i = 4 := by omega
      subst e4
      refine j_iload d_C_countMembers_13 rfl ?_
      refine j_iload_n d_C_countMembers_15 rfl ?_
      refine j_icmp_ge (tgt := 39) d_C_countMembers_16 (by decide) (fun h16 => ?_) (fun h16 => False.elim (h16 (nI_le (by decide) (by decide))))
      refine j_iload_n d_C_countMembers_39 rfl ?_
      refine j_ireturn d_C_countMembers_40 rfl rfl ⟨rfl, by rw [nMk_4 h0]⟩ (by decide) (by decide)
    | succ n ih =>
      intro i z hi
      refine j_iload d_C_countMembers_13 rfl ?_
      refine j_iload_n d_C_countMembers_15 rfl ?_
      refine j_icmp_ge (tgt := 39) d_C_countMembers_16 (by decide) (fun h16 => False.elim (nI_ge (b := 4) (by omega) (by decide) h16)) (fun h16 => ?_)
      refine j_aload_n d_C_countMembers_19 rfl ?_
      refine j_iload d_C_countMembers_20 rfl ?_
      refine j_zald d_C_countMembers_22 tm (aIx.n (by omega) (by decide)) ?_
      refine j_istore d_C_countMembers_23 (by decide) ?_
      refine j_iload d_C_countMembers_25 rfl ?_
      refine j_if_eq (tgt := 33) d_C_countMembers_27 (by decide) (fun h27 => ?_) (fun h27 => ?_)
      · have hz := (bI_eq (vm i (by omega))).mp h27
        have hk : nMk c.1 (i + 1) = nMk c.1 i := by show nMk c.1 i + (if c.1 i = true then 1 else 0) = _; rw [hz]; rfl
        refine j_iinc (nI (i + 1)) d_C_countMembers_33 rfl (nI_inc i) (by decide) ?_
        refine j_goto 13 d_C_countMembers_36 (by decide) ?_
        -- at 13
        have e9 := fun z => ih (i + 1) z (by omega)
        rw [hk] at e9
        exact e9 _
      · have hz : c.1 i = true := by cases e : c.1 i; exact absurd ((bI_eq (vm i (by omega))).mpr e) h27; rfl
        have hk : nMk c.1 (i + 1) = nMk c.1 i + 1 := by show nMk c.1 i + (if c.1 i = true then 1 else 0) = _; rw [hz]; rfl
        refine j_iinc (nI (nMk c.1 i + 1)) d_C_countMembers_30 rfl (nI_inc _) (by decide) ?_
        refine j_iinc (nI (i + 1)) d_C_countMembers_33 rfl (nI_inc i) (by decide) ?_
        refine j_goto 13 d_C_countMembers_36 (by decide) ?_
        -- at 13
        have e9 := fun z => ih (i + 1) z (by omega)
        rw [hk] at e9
        exact e9 _
  refine j_iconst (v := 0) d_C_countMembers_0 (by decide) ?_
  refine j_istore_n d_C_countMembers_1 (by decide) ?_
  refine j_aload_n d_C_countMembers_2 rfl ?_
  refine j_getR d_C_countMembers_3 hq f_C_9_C rfl (by decide) hm ?_
  refine j_astore_n d_C_countMembers_6 (by decide) ?_
  refine j_aload_n d_C_countMembers_7 rfl ?_
  refine j_alen d_C_countMembers_8 tm (by decide) ty_101 rfl ?_
  refine j_istore_n d_C_countMembers_9 (by decide) ?_
  refine j_iconst (v := 0) d_C_countMembers_10 (by decide) ?_
  refine j_istore d_C_countMembers_11 (by decide) ?_
  -- at 13
  exact loop 4 0 none (by decide)
set_option maxRecDepth 20000 in
set_option maxHeartbeats 1000000 in
theorem k_most (M : aM) (q m o w : Nat) (c : aCf) (hc : cfS M q m o w c) : aK m_C_most 0 0 0 M [.ref q] (fun M1 r => M1 = M ∧ r = some (.int (nI (ex true c.1 (fun g => cn c.2 g 8) 3)))) := by
  refine aK.of (by decide) (Nat.le_of_ble_eq_true rfl) ?_
  have hc0 := hc
  obtain ⟨hq, hm, ho, hw, tm, to, tw, vm, vo, vw⟩ := hc
  have loop : ∀ (n g : Nat), g + n = 3 → aJ aX0 m_C_most 0 0 0 (fun M1 r => M1 = M ∧ r = some (.int (nI (ex true c.1 (fun g => cn c.2 g 8) 3)))) 0 0 4 [some (.ref q), some (.int (nI (ex true c.1 (fun g => cn c.2 g 8) g))), some (.int (nI (g + 1)))] [] M := by
    intro n
    induction n with
    | zero =>
      intro g hi
      have e4 : g = 3 := by omega
      subst e4
      refine j_iload_n d_C_most_4 rfl ?_
      refine j_iconst (v := 4) d_C_most_5 (by decide) ?_
      refine j_icmp_ge (tgt := 45) d_C_most_6 (by decide) (fun h6 => ?_) (fun h6 => False.elim (h6 (nI_le (by decide) (by decide))))
      refine j_iload_n d_C_most_45 rfl ?_
      refine j_ireturn d_C_most_46 rfl rfl ⟨rfl, rfl⟩ (by decide) (by decide)
    | succ n ih =>
      intro g hi
      have hle := ex_le true c.1 (fun g => cn c.2 g 8) g
      have c1 := cn_le c.2 (g + 1) 8
      have c2 := cn_le c.2 (ex true c.1 (fun g => cn c.2 g 8) g) 8
      refine j_iload_n d_C_most_4 rfl ?_
      refine j_iconst (v := 4) d_C_most_5 (by decide) ?_
      refine j_icmp_ge (tgt := 45) d_C_most_6 (by decide) (fun h6 => False.elim (nI_ge (b := 4) (by omega) (by decide) h6)) (fun h6 => ?_)
      refine j_aload_n d_C_most_9 rfl ?_
      refine j_getR d_C_most_10 hq f_C_9_C rfl (by decide) hm ?_
      refine j_iload_n d_C_most_13 rfl ?_
      refine j_zald d_C_most_14 tm (aIx.n (by omega) (by decide)) ?_
      refine j_if_eq (tgt := 39) d_C_most_15 (by decide) (fun h15 => ?_) (fun h15 => ?_)
      · have hk : ex true c.1 (fun g => cn c.2 g 8) (g + 1) = ex true c.1 (fun g => cn c.2 g 8) g := if_neg (fun z => by have := (bI_eq (vm (g + 1) (by omega))).mp h15; rw [this] at z; exact absurd z.1 (by decide))
        refine j_iinc (nI (g + 1 + 1)) d_C_most_39 rfl (nI_inc _) (by decide) ?_
        refine j_goto 4 d_C_most_42 (by decide) ?_
        -- at 4
        have e9 := ih (g + 1) (by omega)
        rw [hk] at e9
        exact e9
      · have hz : c.1 (g + 1) = true := by cases e : c.1 (g + 1); exact absurd ((bI_eq (vm (g + 1) (by omega))).mpr e) h15; rfl
        refine j_iload_n d_C_most_18 rfl ?_
        refine j_if_eq (tgt := 37) d_C_most_19 (by decide) (fun h19 => ?_) (fun h19 => ?_)
        · have hf0 : ex true c.1 (fun g => cn c.2 g 8) g = 0 := i_eq (b := 0) (by omega) (by decide) h19
          have hk : ex true c.1 (fun g => cn c.2 g 8) (g + 1) = g + 1 := if_pos ⟨hz, Or.inl hf0⟩
          refine j_iload_n d_C_most_37 rfl ?_
          refine j_istore_n d_C_most_38 (by decide) ?_
          refine j_iinc (nI (g + 1 + 1)) d_C_most_39 rfl (nI_inc _) (by decide) ?_
          refine j_goto 4 d_C_most_42 (by decide) ?_
          -- at 4
          have e9 := ih (g + 1) (by omega)
          rw [hk] at e9
          exact e9
        · have hf0 : ex true c.1 (fun g => cn c.2 g 8) g ≠ 0 := i_ne (b := 0) (by omega) (by decide) h19
          refine j_aload_n d_C_most_22 rfl ?_
          refine j_getR d_C_most_23 hq f_C_19_C rfl (by decide) hw ?_
          refine j_iload_n d_C_most_26 rfl ?_
          refine j_iald d_C_most_27 tw (aIx.n (by omega) (by decide)) ?_
          refine j_eqi (vw (g + 1) (by omega)) ?_
          refine j_aload_n d_C_most_28 rfl ?_
          refine j_getR d_C_most_29 hq f_C_19_C rfl (by decide) hw ?_
          refine j_iload_n d_C_most_32 rfl ?_
          refine j_iald d_C_most_33 tw (aIx.n (by omega) (by decide)) ?_
          refine j_eqi (vw (ex true c.1 (fun g => cn c.2 g 8) g) (by omega)) ?_
          refine j_icmp_le (tgt := 39) d_C_most_34 (by decide) (fun h34 => ?_) (fun h34 => ?_)
          · have hk : ex true c.1 (fun g => cn c.2 g 8) (g + 1) = ex true c.1 (fun g => cn c.2 g 8) g := if_neg (fun z => z.2.elim hf0 (fun z2 => by have z3 : (cn c.2 (ex true c.1 (fun g => cn c.2 g 8) g) 8 < cn c.2 (g + 1) 8) := z2; have := i_le (by omega) (by omega) h34; omega))
            refine j_iinc (nI (g + 1 + 1)) d_C_most_39 rfl (nI_inc _) (by decide) ?_
            refine j_goto 4 d_C_most_42 (by decide) ?_
            -- at 4
            have e9 := ih (g + 1) (by omega)
            rw [hk] at e9
            exact e9
          · have hk : ex true c.1 (fun g => cn c.2 g 8) (g + 1) = g + 1 := if_pos ⟨hz, Or.inr (show (cn c.2 (ex true c.1 (fun g => cn c.2 g 8) g) 8 < cn c.2 (g + 1) 8) from i_nle (by omega) (by omega) h34)⟩
            refine j_iload_n d_C_most_37 rfl ?_
            refine j_istore_n d_C_most_38 (by decide) ?_
            refine j_iinc (nI (g + 1 + 1)) d_C_most_39 rfl (nI_inc _) (by decide) ?_
            refine j_goto 4 d_C_most_42 (by decide) ?_
            -- at 4
            have e9 := ih (g + 1) (by omega)
            rw [hk] at e9
            exact e9
  refine j_iconst (v := 0) d_C_most_0 (by decide) ?_
  refine j_istore_n d_C_most_1 (by decide) ?_
  refine j_iconst (v := 1) d_C_most_2 (by decide) ?_
  refine j_istore_n d_C_most_3 (by decide) ?_
  -- at 4
  exact loop 3 0 (by decide)
set_option maxRecDepth 20000 in
set_option maxHeartbeats 1000000 in
theorem k_fewest (M : aM) (q m o w : Nat) (c : aCf) (hc : cfS M q m o w c) : aK m_C_fewest 0 0 0 M [.ref q] (fun M1 r => M1 = M ∧ r = some (.int (nI (ex false c.1 (fun g => cn c.2 g 8) 3)))) := by
  refine aK.of (by decide) (Nat.le_of_ble_eq_true rfl) ?_
  have hc0 := hc
  obtain ⟨hq, hm, ho, hw, tm, to, tw, vm, vo, vw⟩ := hc
  have loop : ∀ (n g : Nat), g + n = 3 → aJ aX0 m_C_fewest 0 0 0 (fun M1 r => M1 = M ∧ r = some (.int (nI (ex false c.1 (fun g => cn c.2 g 8) 3)))) 0 0 4 [some (.ref q), some (.int (nI (ex false c.1 (fun g => cn c.2 g 8) g))), some (.int (nI (g + 1)))] [] M := by
    intro n
    induction n with
    | zero =>
      intro g hi
      have e4 : g = 3 := by omega
      subst e4
      refine j_iload_n d_C_fewest_4 rfl ?_
      refine j_iconst (v := 4) d_C_fewest_5 (by decide) ?_
      refine j_icmp_ge (tgt := 45) d_C_fewest_6 (by decide) (fun h6 => ?_) (fun h6 => False.elim (h6 (nI_le (by decide) (by decide))))
      refine j_iload_n d_C_fewest_45 rfl ?_
      refine j_ireturn d_C_fewest_46 rfl rfl ⟨rfl, rfl⟩ (by decide) (by decide)
    | succ n ih =>
      intro g hi
      have hle := ex_le false c.1 (fun g => cn c.2 g 8) g
      have c1 := cn_le c.2 (g + 1) 8
      have c2 := cn_le c.2 (ex false c.1 (fun g => cn c.2 g 8) g) 8
      refine j_iload_n d_C_fewest_4 rfl ?_
      refine j_iconst (v := 4) d_C_fewest_5 (by decide) ?_
      refine j_icmp_ge (tgt := 45) d_C_fewest_6 (by decide) (fun h6 => False.elim (nI_ge (b := 4) (by omega) (by decide) h6)) (fun h6 => ?_)
      refine j_aload_n d_C_fewest_9 rfl ?_
      refine j_getR d_C_fewest_10 hq f_C_9_C rfl (by decide) hm ?_
      refine j_iload_n d_C_fewest_13 rfl ?_
      refine j_zald d_C_fewest_14 tm (aIx.n (by omega) (by decide)) ?_
      refine j_if_eq (tgt := 39) d_C_fewest_15 (by decide) (fun h15 => ?_) (fun h15 => ?_)
      · have hk : ex false c.1 (fun g => cn c.2 g 8) (g + 1) = ex false c.1 (fun g => cn c.2 g 8) g := if_neg (fun z => by have := (bI_eq (vm (g + 1) (by omega))).mp h15; rw [this] at z; exact absurd z.1 (by decide))
        refine j_iinc (nI (g + 1 + 1)) d_C_fewest_39 rfl (nI_inc _) (by decide) ?_
        refine j_goto 4 d_C_fewest_42 (by decide) ?_
        -- at 4
        have e9 := ih (g + 1) (by omega)
        rw [hk] at e9
        exact e9
      · have hz : c.1 (g + 1) = true := by cases e : c.1 (g + 1); exact absurd ((bI_eq (vm (g + 1) (by omega))).mpr e) h15; rfl
        refine j_iload_n d_C_fewest_18 rfl ?_
        refine j_if_eq (tgt := 37) d_C_fewest_19 (by decide) (fun h19 => ?_) (fun h19 => ?_)
        · have hf0 : ex false c.1 (fun g => cn c.2 g 8) g = 0 := i_eq (b := 0) (by omega) (by decide) h19
          have hk : ex false c.1 (fun g => cn c.2 g 8) (g + 1) = g + 1 := if_pos ⟨hz, Or.inl hf0⟩
          refine j_iload_n d_C_fewest_37 rfl ?_
          refine j_istore_n d_C_fewest_38 (by decide) ?_
          refine j_iinc (nI (g + 1 + 1)) d_C_fewest_39 rfl (nI_inc _) (by decide) ?_
          refine j_goto 4 d_C_fewest_42 (by decide) ?_
          -- at 4
          have e9 := ih (g + 1) (by omega)
          rw [hk] at e9
          exact e9
        · have hf0 : ex false c.1 (fun g => cn c.2 g 8) g ≠ 0 := i_ne (b := 0) (by omega) (by decide) h19
          refine j_aload_n d_C_fewest_22 rfl ?_
          refine j_getR d_C_fewest_23 hq f_C_19_C rfl (by decide) hw ?_
          refine j_iload_n d_C_fewest_26 rfl ?_
          refine j_iald d_C_fewest_27 tw (aIx.n (by omega) (by decide)) ?_
          refine j_eqi (vw (g + 1) (by omega)) ?_
          refine j_aload_n d_C_fewest_28 rfl ?_
          refine j_getR d_C_fewest_29 hq f_C_19_C rfl (by decide) hw ?_
          refine j_iload_n d_C_fewest_32 rfl ?_
          refine j_iald d_C_fewest_33 tw (aIx.n (by omega) (by decide)) ?_
          refine j_eqi (vw (ex false c.1 (fun g => cn c.2 g 8) g) (by omega)) ?_
          refine j_icmp_ge (tgt := 39) d_C_fewest_34 (by decide) (fun h34 => ?_) (fun h34 => ?_)
          · have hk : ex false c.1 (fun g => cn c.2 g 8) (g + 1) = ex false c.1 (fun g => cn c.2 g 8) g := if_neg (fun z => z.2.elim hf0 (fun z2 => by have z3 : (cn c.2 (g + 1) 8 < cn c.2 (ex false c.1 (fun g => cn c.2 g 8) g) 8) := z2; have := i_le (by omega) (by omega) h34; omega))
            refine j_iinc (nI (g + 1 + 1)) d_C_fewest_39 rfl (nI_inc _) (by decide) ?_
            refine j_goto 4 d_C_fewest_42 (by decide) ?_
            -- at 4
            have e9 := ih (g + 1) (by omega)
            rw [hk] at e9
            exact e9
          · have hk : ex false c.1 (fun g => cn c.2 g 8) (g + 1) = g + 1 := if_pos ⟨hz, Or.inr (show (cn c.2 (g + 1) 8 < cn c.2 (ex false c.1 (fun g => cn c.2 g 8) g) 8) from i_nle (by omega) (by omega) h34)⟩
            refine j_iload_n d_C_fewest_37 rfl ?_
            refine j_istore_n d_C_fewest_38 (by decide) ?_
            refine j_iinc (nI (g + 1 + 1)) d_C_fewest_39 rfl (nI_inc _) (by decide) ?_
            refine j_goto 4 d_C_fewest_42 (by decide) ?_
            -- at 4
            have e9 := ih (g + 1) (by omega)
            rw [hk] at e9
            exact e9
  refine j_iconst (v := 0) d_C_fewest_0 (by decide) ?_
  refine j_istore_n d_C_fewest_1 (by decide) ?_
  refine j_iconst (v := 1) d_C_fewest_2 (by decide) ?_
  refine j_istore_n d_C_fewest_3 (by decide) ?_
  -- at 4
  exact loop 3 0 (by decide)
set_option maxRecDepth 20000 in
set_option maxHeartbeats 1000000 in
theorem k_leastShardOf (M : aM) (q m o w : Nat) (c : aCf) (hc : cfS M q m o w c) (g : Nat) (hg : g < 4) (hb : ∀ s, s < 8 → c.2 s < 4) : aK m_C_leastShardOf 0 0 0 M [.ref q, .int (nI g)] (fun M1 r => M1 = M ∧ ∃ z, z < 8 ∧ (∀ j, j < z → c.2 j ≠ g) ∧ (z = 7 ∨ c.2 z = g) ∧ r = some (.int (nI z))) := by
  refine aK.of (by decide) (Nat.le_of_ble_eq_true rfl) ?_
  have hc0 := hc
  obtain ⟨hq, hm, ho, hw, tm, to, tw, vm, vo, vw⟩ := hc
  have loop : ∀ (n i : Nat), i + n = 7 → (∀ j, j < i → c.2 j ≠ g) → aJ aX0 m_C_leastShardOf 0 0 0 (fun M1 r => M1 = M ∧ ∃ z, z < 8 ∧ (∀ j, j < z → c.2 j ≠ g) ∧ (z = 7 ∨ c.2 z = g) ∧ r = some (.int (nI z))) 0 0 2 [some (.ref q), some (.int (nI g)), some (.int (nI i))] [] M := by
    intro n
    induction n with
    | zero =>
      intro i hi hj
      have e4 : i = 7 := by omega
      subst e4
      refine j_iload_n d_C_leastShardOf_2 rfl ?_
      refine j_bipush (v := 7) d_C_leastShardOf_3 (by decide) ?_
      refine j_icmp_ge (tgt := 24) d_C_leastShardOf_5 (by decide) (fun h5 => ?_) (fun h5 => False.elim (h5 (nI_le (by decide) (by decide))))
      refine j_iload_n d_C_leastShardOf_24 rfl ?_
      refine j_ireturn d_C_leastShardOf_25 rfl rfl ⟨rfl, 7, by decide, hj, Or.inl rfl, rfl⟩ (by decide) (by decide)
    | succ n ih =>
      intro i hi hj
      have hbi := hb i (by omega)
      refine j_iload_n d_C_leastShardOf_2 rfl ?_
      refine j_bipush (v := 7) d_C_leastShardOf_3 (by decide) ?_
      refine j_icmp_ge (tgt := 24) d_C_leastShardOf_5 (by decide) (fun h5 => False.elim (nI_ge (b := 7) (by omega) (by decide) h5)) (fun h5 => ?_)
      refine j_aload_n d_C_leastShardOf_8 rfl ?_
      refine j_getR d_C_leastShardOf_9 hq f_C_15_C rfl (by decide) ho ?_
      refine j_iload_n d_C_leastShardOf_12 rfl ?_
      refine j_iald d_C_leastShardOf_13 to (aIx.n (by omega) (by decide)) ?_
      refine j_eqi (vo i (by omega)) ?_
      refine j_iload_n d_C_leastShardOf_14 rfl ?_
      refine j_icmp_eq (tgt := 24) d_C_leastShardOf_15 (by decide) (fun h15 => ?_) (fun h15 => ?_)
      · have he := i_eq (by omega) (by omega) h15
        refine j_iload_n d_C_leastShardOf_24 rfl ?_
        refine j_ireturn d_C_leastShardOf_25 rfl rfl ⟨rfl, i, by omega, hj, Or.inr he, rfl⟩ (by decide) (by decide)
      · have he := i_ne (by omega) (by omega) h15
        refine j_iinc (nI (i + 1)) d_C_leastShardOf_18 rfl (nI_inc i) (by decide) ?_
        refine j_goto 2 d_C_leastShardOf_21 (by decide) ?_
        -- at 2
        refine ih (i + 1) (by omega) (fun j hji => ?_)
        by_cases e : j = i
        · rw [e]; exact he
        · exact hj j (by omega)
  refine j_iconst (v := 0) d_C_leastShardOf_0 (by decide) ?_
  refine j_istore_n d_C_leastShardOf_1 (by decide) ?_
  -- at 2
  exact loop 7 0 (by decide) (fun j h => absurd h (Nat.not_lt_zero j))
set_option maxRecDepth 20000 in
set_option maxHeartbeats 1000000 in
theorem k_give0 (M : aM) (q m o w : Nat) (c : aCf) (hc : cfS M q m o w c) (s g : Nat) (hs : s < 8) (hg : g < 4) (hb : c.2 s < 4) : aK m_C_give 0 0 0 M [.ref q, .int (nI s), .int (nI g)] (fun M1 r => r = none ∧ M1 = sI (sI (sI M w (c.2 s) (mI M w (c.2 s) - 1)) o s (nI g)) w g (mI (sI (sI M w (c.2 s) (mI M w (c.2 s) - 1)) o s (nI g)) w g + 1)) := by
  refine aK.of (by decide) (Nat.le_of_ble_eq_true rfl) ?_
  have hc0 := hc
  obtain ⟨hq, hm, ho, hw, tm, to, tw, vm, vo, vw⟩ := hc
  refine j_aload_n d_C_give_0 rfl ?_
  refine j_getR d_C_give_1 hq f_C_19_C rfl (by decide) hw ?_
  refine j_aload_n d_C_give_4 rfl ?_
  refine j_getR d_C_give_5 hq f_C_15_C rfl (by decide) ho ?_
  refine j_iload_n d_C_give_8 rfl ?_
  refine j_iald d_C_give_9 to (aIx.n (by omega) (by decide)) ?_
  refine j_eqi (vo s hs) ?_
  refine j_dup2 d_C_give_10 ?_
  refine j_iald d_C_give_11 tw (aIx.n (by omega) (by decide)) ?_
  refine j_iconst (v := 1) d_C_give_12 (by decide) ?_
  refine j_isub d_C_give_13 ?_
  refine j_iast d_C_give_14 tw (aIx.n (by omega) (by decide)) ?_
  refine j_aload_n d_C_give_15 rfl ?_
  refine j_getR d_C_give_16 hq f_C_15_C rfl (by decide) ho ?_
  refine j_iload_n d_C_give_19 rfl ?_
  refine j_iload_n d_C_give_20 rfl ?_
  refine j_iast d_C_give_21 to (aIx.n (by omega) (by decide)) ?_
  refine j_aload_n d_C_give_22 rfl ?_
  refine j_getR d_C_give_23 hq f_C_19_C rfl (by decide) hw ?_
  refine j_iload_n d_C_give_26 rfl ?_
  refine j_dup2 d_C_give_27 ?_
  refine j_iald d_C_give_28 tw (aIx.n (by omega) (by decide)) ?_
  refine j_iconst (v := 1) d_C_give_29 (by decide) ?_
  refine j_iadd d_C_give_30 ?_
  refine j_iast d_C_give_31 tw (aIx.n (by omega) (by decide)) ?_
  refine j_return d_C_give_32 rfl ?_ (by decide) (by decide)
  exact ⟨rfl, rfl⟩
theorem give_S {M : aM} {q m o w : Nat} {c : aCf} (hc : cfS M q m o w c) {s g : Nat} (hs : s < 8) (hg : g < 4) (hb : c.2 s < 4) : cfS (sI (sI (sI M w (c.2 s) (mI M w (c.2 s) - 1)) o s (nI g)) w g (mI (sI (sI M w (c.2 s) (mI M w (c.2 s) - 1)) o s (nI g)) w g + 1)) q m o w (c.1, fu c.2 s g) ∧ fr3 M (sI (sI (sI M w (c.2 s) (mI M w (c.2 s) - 1)) o s (nI g)) w g (mI (sI (sI M w (c.2 s) (mI M w (c.2 s) - 1)) o s (nI g)) w g + 1)) m o w := by
  have how := hc.ow
  obtain ⟨hmo, hmw⟩ := hc.mo
  obtain ⟨hq, hm, ho, hw, tm, to, tw, vm, vo, vw⟩ := hc
  refine ⟨⟨hq, hm, ho, hw, tm, to, tw, fun x hx => ?_, fun x hx => ?_, fun x hx => ?_⟩, ⟨rfl, fun a h1 h2 h3 => (((sm.rf M a).sI h3).sI h2).sI h3⟩⟩
  · rw [mm_I_sI, if_neg (fun z => hmw z.1), mm_I_sI, if_neg (fun z => hmo z.1), mm_I_sI, if_neg (fun z => hmw z.1)]
    exact vm x hx
  · rw [mm_I_sI, if_neg (fun z => how z.1), mm_I_sI]
    by_cases e : x = s
    · subst e; rw [if_pos ⟨rfl, rfl⟩]; show nI g = nI (fu c.2 x g x); rw [fu_s]
    · rw [if_neg (fun z => e z.2), mm_I_sI, if_neg (fun z => how z.1)]
      show _ = nI (fu c.2 s g x)
      rw [fu_n _ _ e]; exact vo x hx
  · show _ = nI (cn (fu c.2 s g) x 8)
    have f := cn_fu c.2 (s := s) (g := g) (x := x) 8 hs
    have p1 := cn_pos (own := c.2) (s := s) rfl 8 hs
    have v2 : ∀ y, y < 4 → mI (sI (sI M w (c.2 s) (mI M w (c.2 s) - 1)) o s (nI g)) w y = if y = c.2 s then nI (cn c.2 (c.2 s) 8 - 1) else nI (cn c.2 y 8) := by
      intro y hy
      rw [mm_I_sI, if_neg (fun z => how z.1.symm), mm_I_sI]
      by_cases e : y = c.2 s
      · rw [if_pos ⟨rfl, e⟩, if_pos e, vw _ hb]; exact pk_sub (b := 1) p1
      · rw [if_neg (fun z => e z.2), if_neg e]; exact vw y hy
    rw [mm_I_sI]
    by_cases e : x = g
    · subst e
      rw [if_pos ⟨rfl, rfl⟩, v2 x hx]
      rw [if_pos (show x = x from rfl)] at f
      by_cases e2 : x = c.2 s
      · rw [if_pos e2.symm] at f
        rw [if_pos e2, nI_1]
        congr 1
        rw [← e2] at p1 ⊢
        omega
      · rw [if_neg (show ¬ c.2 s = x from fun z => e2 z.symm)] at f
        rw [if_neg e2, nI_1]
        congr 1
        omega
    · rw [if_neg (fun z => e z.2), v2 x hx]
      rw [if_neg (show ¬ g = x from fun z => e z.symm)] at f
      by_cases e2 : x = c.2 s
      · rw [if_pos e2.symm] at f
        rw [if_pos e2]
        congr 1
        rw [← e2] at p1 ⊢
        omega
      · rw [if_neg (show ¬ c.2 s = x from fun z => e2 z.symm)] at f
        rw [if_neg e2]
        congr 1
        omega
theorem k_give (M : aM) (q m o w : Nat) (c : aCf) (hc : cfS M q m o w c) (s g : Nat) (hs : s < 8) (hg : g < 4) (hb : c.2 s < 4) : aK m_C_give 0 0 0 M [.ref q, .int (nI s), .int (nI g)] (fun M1 r => r = none ∧ cfS M1 q m o w (c.1, fu c.2 s g) ∧ fr3 M M1 m o w) := by
  refine (k_give0 M q m o w c hc s g hs hg hb).weaken ?_
  rintro M1 r ⟨rfl, rfl⟩
  exact ⟨rfl, give_S hc hs hg hb⟩
