theorem sub2 {a b : Nat} (ha : a ≤ 8) (hb : b ≤ 8) : (2 : Int32) ≤ nI a - nI b ↔ b + 2 ≤ a := by
  rw [Int32.le_iff_toInt_le, pk_sub_toInt (by omega) (by omega), show (2 : Int32).toInt = 2 by decide]
  omega
theorem cfS.congr {M : aM} {q m o w : Nat} {c c' : aCf} (h : cfS M q m o w c) (h1 : ∀ g, g < 4 → c.1 g = c'.1 g) (h2 : ∀ s, s < 8 → c.2 s = c'.2 s) : cfS M q m o w c' := by
  obtain ⟨hq, hm, ho, hw, tm, to, tw, vm, vo, vw⟩ := h
  have k : ∀ g n, n ≤ 8 → cn c.2 g n = cn c'.2 g n := by
    intro g n
    induction n with
    | zero => intro _; rfl
    | succ n ih =>
      intro hn
      show cn c.2 g n + (if c.2 n = g then 1 else 0) = cn c'.2 g n + (if c'.2 n = g then 1 else 0)
      rw [ih (by omega), h2 n (by omega)]
  exact ⟨hq, hm, ho, hw, tm, to, tw, fun g hg => by rw [← h1 g hg]; exact vm g hg, fun s hs => by rw [← h2 s hs]; exact vo s hs, fun g hg => by rw [← k g 8 (Nat.le_refl _)]; exact vw g hg⟩
theorem least_u {own : Nat → Nat} {g s z : Nat} (hs : s < 8) (h1 : own s = g) (h2 : ∀ j, j < s → own j ≠ g) (hz : z < 8) (h3 : ∀ j, j < z → own j ≠ g) (h4 : z = 7 ∨ own z = g) : z = s := by
  rcases Nat.lt_trichotomy z s with h | h | h
  · rcases h4 with e | e
    · omega
    · exact absurd e (h2 z h)
  · exact h
  · exact absurd h1 (h3 s h)

set_option maxRecDepth 20000 in
set_option maxHeartbeats 2000000 in
theorem k_balance (M : aM) (q m o w : Nat) (c : aCf) (hc : cfS M q m o w c) (ha : allm c.1 c.2) : aK m_C_balance 1 0 0 M [.ref q] (fun M1 r => r = none ∧ cfS M1 q m o w (c.1, bal c.1 8 c.2) ∧ fr3 M M1 m o w) := by
  refine aK.of (by decide) (Nat.le_of_ble_eq_true rfl) ?_
  obtain ⟨r0, b1, b2, b3, b4⟩ := bal_8 ha
  have loop : ∀ (n r : Nat) (M0 : aM) (x y : Option Value), r + n = r0 → cfS M0 q m o w (c.1, bal c.1 r c.2) → fr3 M M0 m o w → aJ aX0 m_C_balance 1 0 0 (fun M1 r => r = none ∧ cfS M1 q m o w (c.1, bal c.1 8 c.2) ∧ fr3 M M1 m o w) 0 0 2 [some (.ref q), some (.int (nI r)), x, y] [] M0 := by
    intro n
    induction n with
    | zero =>
      intro r M0 x y hr hcr hf
      have er : r = r0 := by omega
      subst er
      have hcr0 := hcr
      obtain ⟨hq, hm, ho, hw, tm, to, tw, vm, vo, vw⟩ := hcr
      dsimp only at vm vo vw
      have x1 := ex_le true c.1 (fun g => cn (bal c.1 r c.2) g 8) 3
      have x2 := ex_le false c.1 (fun g => cn (bal c.1 r c.2) g 8) 3
      have x3 := cn_le (bal c.1 r c.2) (ex true c.1 (fun g => cn (bal c.1 r c.2) g 8) 3) 8
      have x4 := cn_le (bal c.1 r c.2) (ex false c.1 (fun g => cn (bal c.1 r c.2) g 8) 3) 8
      refine j_iload_n d_C_balance_2 rfl ?_
      refine j_bipush (v := 64) d_C_balance_3 (by decide) ?_
      refine j_icmp_ge (tgt := 52) d_C_balance_5 (by decide) (fun h5 => False.elim (nI_ge (b := 64) (by omega) (by decide) h5)) (fun h5 => ?_)
      refine j_aload_n d_C_balance_8 rfl ?_
      refine j_callV (vs := []) d_C_balance_9 hq (by decide) rfl w337 w339 w2 w340 ws_C_most y_C_most (by decide) (by decide) (k_most M0 q m o w _ hcr0) rfl (Nat.le_of_ble_eq_true rfl) (by decide) (by decide) (fun M1 r1 hq1 => ?_)
      obtain ⟨rfl, rfl⟩ := hq1
      dsimp only
      refine j_istore_n d_C_balance_12 (by decide) ?_
      refine j_aload_n d_C_balance_13 rfl ?_
      refine j_callV (vs := []) d_C_balance_14 hq (by decide) rfl w341 w343 w2 w344 ws_C_fewest y_C_fewest (by decide) (by decide) (k_fewest M1 q m o w _ hcr0) rfl (Nat.le_of_ble_eq_true rfl) (by decide) (by decide) (fun M2 r2 hq2 => ?_)
      obtain ⟨rfl, rfl⟩ := hq2
      dsimp only
      refine j_istore_n d_C_balance_17 (by decide) ?_
      refine j_aload_n d_C_balance_18 rfl ?_
      refine j_getR d_C_balance_19 hq f_C_19_C rfl (by decide) hw ?_
      refine j_iload_n d_C_balance_22 rfl ?_
      refine j_iald d_C_balance_23 tw (aIx.n (by omega) (by decide)) ?_
      refine j_eqi (vw (ex true c.1 (fun g => cn (bal c.1 r c.2) g 8) 3) (by omega)) ?_
      refine j_aload_n d_C_balance_24 rfl ?_
      refine j_getR d_C_balance_25 hq f_C_19_C rfl (by decide) hw ?_
      refine j_iload_n d_C_balance_28 rfl ?_
      refine j_iald d_C_balance_29 tw (aIx.n (by omega) (by decide)) ?_
      refine j_eqi (vw (ex false c.1 (fun g => cn (bal c.1 r c.2) g 8) 3) (by omega)) ?_
      refine j_isub d_C_balance_30 ?_
      refine j_iconst (v := 2) d_C_balance_31 (by decide) ?_
      refine j_icmp_ge (tgt := 36) d_C_balance_32 (by decide) (fun h32 => False.elim (by have := (sub2 (by omega) (by omega)).mp h32; unfold stl at b2; omega)) (fun h32 => ?_)
      refine j_return d_C_balance_35 rfl ⟨rfl, by rw [← b4]; exact hcr0, hf⟩ (by decide) (by decide)
    | succ n ih =>
      intro r M0 x y hr hcr hf
      have hal := (bal_run ha r (fun j hj => b3 j (by omega))).1
      have hns := b3 r (by omega)
      obtain ⟨rich, poor, s, e1, e2, e3, e4, e5, e6, e7, e8, e9, e10, -⟩ := bal1_step hal hns
      have hcr0 := hcr
      obtain ⟨hq, hm, ho, hw, tm, to, tw, vm, vo, vw⟩ := hcr
      dsimp only at vm vo vw
      have x1 := ex_le true c.1 (fun g => cn (bal c.1 r c.2) g 8) 3
      have x2 := ex_le false c.1 (fun g => cn (bal c.1 r c.2) g 8) 3
      have x3 := cn_le (bal c.1 r c.2) (ex true c.1 (fun g => cn (bal c.1 r c.2) g 8) 3) 8
      have x4 := cn_le (bal c.1 r c.2) (ex false c.1 (fun g => cn (bal c.1 r c.2) g 8) 3) 8
      refine j_iload_n d_C_balance_2 rfl ?_
      refine j_bipush (v := 64) d_C_balance_3 (by decide) ?_
      refine j_icmp_ge (tgt := 52) d_C_balance_5 (by decide) (fun h5 => False.elim (nI_ge (b := 64) (by omega) (by decide) h5)) (fun h5 => ?_)
      refine j_aload_n d_C_balance_8 rfl ?_
      refine j_callV (vs := []) d_C_balance_9 hq (by decide) rfl w337 w339 w2 w340 ws_C_most y_C_most (by decide) (by decide) (k_most M0 q m o w _ hcr0) rfl (Nat.le_of_ble_eq_true rfl) (by decide) (by decide) (fun M1 r1 hq1 => ?_)
      obtain ⟨rfl, rfl⟩ := hq1
      dsimp only
      refine j_istore_n d_C_balance_12 (by decide) ?_
      refine j_aload_n d_C_balance_13 rfl ?_
      refine j_callV (vs := []) d_C_balance_14 hq (by decide) rfl w341 w343 w2 w344 ws_C_fewest y_C_fewest (by decide) (by decide) (k_fewest M1 q m o w _ hcr0) rfl (Nat.le_of_ble_eq_true rfl) (by decide) (by decide) (fun M2 r2 hq2 => ?_)
      obtain ⟨rfl, rfl⟩ := hq2
      dsimp only
      refine j_istore_n d_C_balance_17 (by decide) ?_
      refine j_aload_n d_C_balance_18 rfl ?_
      refine j_getR d_C_balance_19 hq f_C_19_C rfl (by decide) hw ?_
      refine j_iload_n d_C_balance_22 rfl ?_
      refine j_iald d_C_balance_23 tw (aIx.n (by omega) (by decide)) ?_
      refine j_eqi (vw (ex true c.1 (fun g => cn (bal c.1 r c.2) g 8) 3) (by omega)) ?_
      refine j_aload_n d_C_balance_24 rfl ?_
      refine j_getR d_C_balance_25 hq f_C_19_C rfl (by decide) hw ?_
      refine j_iload_n d_C_balance_28 rfl ?_
      refine j_iald d_C_balance_29 tw (aIx.n (by omega) (by decide)) ?_
      refine j_eqi (vw (ex false c.1 (fun g => cn (bal c.1 r c.2) g 8) 3) (by omega)) ?_
      refine j_isub d_C_balance_30 ?_
      refine j_iconst (v := 2) d_C_balance_31 (by decide) ?_
      refine j_icmp_ge (tgt := 36) d_C_balance_32 (by decide) (fun h32 => ?_) (fun h32 => False.elim (h32 ((sub2 (by omega) (by omega)).mpr (by unfold stl at hns; omega))))
      refine j_aload_n d_C_balance_36 rfl ?_
      refine j_aload_n d_C_balance_37 rfl ?_
      refine j_iload_n d_C_balance_38 rfl ?_
      refine j_callV (vs := [_]) d_C_balance_39 hq (by decide) rfl w345 w347 w2 w348 ws_C_leastShardOf y_C_leastShardOf (by decide) (by decide) (k_leastShardOf M2 q m o w _ hcr0 (ex true c.1 (fun g => cn (bal c.1 r c.2) g 8) 3) (by omega) (fun s hs => by have := (hal s hs).2.1; show bal c.1 r c.2 s < 4; omega)) rfl (Nat.le_of_ble_eq_true rfl) (by decide) (by decide) (fun M3 r3 hq3 => ?_)
      obtain ⟨rfl, z, z1, z2, z3, rfl⟩ := hq3
      have ez : z = s := least_u (own := bal c.1 r c.2) (g := rich) e3 e4 e6 z1 (by rw [← e1]; exact z2) (by rw [← e1]; exact z3)
      subst ez
      refine j_iload_n d_C_balance_42 rfl ?_
      refine j_callV (vs := [_, _]) d_C_balance_43 hq (by decide) rfl w329 w330 w2 w332 w331 y_C_give (by decide) (by decide) (k_give M3 q m o w _ hcr0 z (ex false c.1 (fun g => cn (bal c.1 r c.2) g 8) 3) e3 (by omega) (by have := (hal z e3).2.1; show bal c.1 r c.2 z < 4; omega)) rfl (Nat.le_of_ble_eq_true rfl) (by decide) (by decide) (fun M4 r4 hq4 => ?_)
      obtain ⟨rfl, g1, g2⟩ := hq4
      refine j_iinc (nI (r + 1)) d_C_balance_46 rfl (nI_inc r) (by decide) ?_
      refine j_goto 2 d_C_balance_49 (by decide) ?_
      -- at 2
      refine ih (r + 1) M4 _ _ (by omega) ?_ (hf.tr g2)
      show cfS M4 q m o w (c.1, bal1 c.1 (bal c.1 r c.2))
      rw [e7, ← e2]
      exact g1
  refine j_iconst (v := 0) d_C_balance_0 (by decide) ?_
  refine j_istore_n d_C_balance_1 (by decide) ?_
  -- at 2
  exact loop r0 0 M none none (by omega) hc (fr3.rf M m o w)
/-- a configuration as the service makes it -/
def cfV (c : aCf) : Prop := c.1 0 = false ∧ (nM c.1 = 0 → ∀ s, s < 8 → c.2 s = 0) ∧ (nM c.1 ≠ 0 → allm c.1 c.2)
theorem cfV.lt {c : aCf} (h : cfV c) {s : Nat} (hs : s < 8) : c.2 s < 4 := by
  by_cases e : nM c.1 = 0
  · rw [h.2.1 e s hs]; omega
  · have := (h.2.2 e s hs).2.1; omega
theorem cfS.mem {M : aM} {q m o w : Nat} {c : aCf} (h : cfS M q m o w c) {a : Nat} (b : Bool) (ha : a < 4) : cfS (sI M m a (bI b)) q m o w (fu c.1 a b, c.2) ∧ fr3 M (sI M m a (bI b)) m o w := by
  obtain ⟨hmo, hmw⟩ := h.mo
  obtain ⟨hq, hm, ho, hw, tm, to, tw, vm, vo, vw⟩ := h
  refine ⟨⟨hq, hm, ho, hw, tm, to, tw, fun x hx => ?_, fun x hx => ?_, fun x hx => ?_⟩, ⟨rfl, fun y h1 h2 h3 => (sm.rf M y).sI h1⟩⟩
  · rw [mm_I_sI]
    by_cases e : x = a
    · subst e; rw [if_pos ⟨rfl, rfl⟩]; show bI b = bI (fu c.1 x b x); rw [fu_s]
    · rw [if_neg (fun z => e z.2)]; show _ = bI (fu c.1 a b x); rw [fu_n _ _ e]; exact vm x hx
  · rw [mm_I_sI, if_neg (fun z => hmo z.1.symm)]; exact vo x hx
  · rw [mm_I_sI, if_neg (fun z => hmw z.1.symm)]; exact vw x hx
theorem nM_t {mem : Nat → Bool} {a : Nat} (h1 : 1 ≤ a) (h3 : a ≤ 3) (h : mem a = false) : nM (fu mem a true) = nM mem + 1 := by
  rcases (by omega : a = 1 ∨ a = 2 ∨ a = 3) with rfl | rfl | rfl <;> simp [nM, fu, h] <;> omega
theorem nM_f {mem : Nat → Bool} {a : Nat} (h1 : 1 ≤ a) (h3 : a ≤ 3) (h : mem a = true) : nM (fu mem a false) + 1 = nM mem := by
  rcases (by omega : a = 1 ∨ a = 2 ∨ a = 3) with rfl | rfl | rfl <;> simp [nM, fu, h] <;> omega
theorem nM_le (mem : Nat → Bool) : nM mem ≤ 3 := by
  unfold nM; split <;> split <;> split <;> omega
theorem nM_pos {mem : Nat → Bool} (h : nM mem ≠ 0) : mem 1 = true ∨ mem 2 = true ∨ mem 3 = true := by
  unfold nM at h
  cases e1 : mem 1
  · cases e2 : mem 2
    · cases e3 : mem 3
      · simp [e1, e2, e3] at h
      · exact Or.inr (Or.inr rfl)
    · exact Or.inr (Or.inl rfl)
  · exact Or.inl rfl
theorem allm_grow {mem : Nat → Bool} {own : Nat → Nat} {a : Nat} (h : allm mem own) : allm (fu mem a true) own := by
  intro s hs
  obtain ⟨h1, h2, h3⟩ := h s hs
  refine ⟨h1, h2, ?_⟩
  by_cases e : own s = a
  · rw [e, fu_s]
  · rw [fu_n _ _ e]; exact h3

set_option maxRecDepth 20000 in
set_option maxHeartbeats 2000000 in
theorem k_join (M : aM) (q m o w : Nat) (c : aCf) (hc : cfS M q m o w c) (a : Nat) (a1 : 1 ≤ a) (a3 : a ≤ 3) (hv : cfV c) (hna : c.1 a = false) : aK m_C_join 2 0 0 M [.ref q, .int (nI a)] (fun M1 r => r = none ∧ cfS M1 q m o w (cfJ c a) ∧ fr3 M M1 m o w) := by
  refine aK.of (by decide) (Nat.le_of_ble_eq_true rfl) ?_
  have hc0 := hc
  obtain ⟨hq, hm, ho, hw, tm, to, tw, vm, vo, vw⟩ := hc
  obtain ⟨s1, f1⟩ := hc0.mem (a := a) true (by omega)
  have hz0 : (fu c.1 a true) 0 = false := by rw [fu_n _ _ (by omega)]; exact hv.1
  have hn1 := nM_t a1 a3 hna
  have hn3 := nM_le (fu c.1 a true)
  have fin : ∀ (M0 : aM) (z : Option Value) (own : Nat → Nat), cfS M0 q m o w (fu c.1 a true, own) → fr3 M M0 m o w → allm (fu c.1 a true) own → own = (if nM c.1 = 0 then fun _ => a else c.2) → aJ aX0 m_C_join 2 0 0 (fun M1 r => r = none ∧ cfS M1 q m o w (cfJ c a) ∧ fr3 M M1 m o w) 0 0 35 [some (.ref q), some (.int (nI a)), z] [] M0 := by
    intro M0 z own h1 h2 h3 h4
    refine j_aload_n d_C_join_35 rfl ?_
    refine j_callV (vs := []) d_C_join_36 h1.1 (by decide) rfl w333 w335 w2 w336 ws_C_balance y_C_balance (by decide) (by decide) (k_balance M0 q m o w _ h1 h3) rfl (Nat.le_of_ble_eq_true rfl) (by decide) (by decide) (fun M1 r1 hq1 => ?_)
    obtain ⟨rfl, g1, g2⟩ := hq1
    refine j_return d_C_join_39 rfl ⟨rfl, by unfold cfJ; rw [← h4]; exact g1, h2.tr g2⟩ (by decide) (by decide)
  have loop : ∀ (n i : Nat) (M0 : aM) (own : Nat → Nat), i + n = 8 → cfS M0 q m o w (fu c.1 a true, own) → fr3 M M0 m o w → nM c.1 = 0 → (∀ s, s < i → own s = a) → (∀ s, s < 8 → own s < 4) → aJ aX0 m_C_join 2 0 0 (fun M1 r => r = none ∧ cfS M1 q m o w (cfJ c a) ∧ fr3 M M1 m o w) 0 0 17 [some (.ref q), some (.int (nI a)), some (.int (nI i))] [] M0 := by
    intro n
    induction n with
    | zero =>
      intro i M0 own hi h1 h2 h3 h4 h5
      have e8 : i = 8 := by omega
      subst e8
      refine j_iload_n d_C_join_17 rfl ?_
      refine j_bipush (v := 8) d_C_join_18 (by decide) ?_
      refine j_icmp_ge (tgt := 35) d_C_join_20 (by decide) (fun h20 => ?_) (fun h20 => False.elim (h20 (nI_le (by decide) (by decide))))
      -- at 35
      exact fin M0 _ (fun _ => a) (h1.congr (fun _ _ => rfl) h4) h2 (fun s _ => ⟨a1, a3, fu_s _ _ _⟩) (by rw [if_pos h3])
    | succ n ih =>
      intro i M0 own hi h1 h2 h3 h4 h5
      have hq1 := h1.1
      refine j_iload_n d_C_join_17 rfl ?_
      refine j_bipush (v := 8) d_C_join_18 (by decide) ?_
      refine j_icmp_ge (tgt := 35) d_C_join_20 (by decide) (fun h20 => False.elim (nI_ge (b := 8) (by omega) (by decide) h20)) (fun h20 => ?_)
      refine j_aload_n d_C_join_23 rfl ?_
      refine j_iload_n d_C_join_24 rfl ?_
      refine j_iload_n d_C_join_25 rfl ?_
      refine j_callV (vs := [_, _]) d_C_join_26 h1.1 (by decide) rfl w329 w330 w2 w332 w331 y_C_give (by decide) (by decide) (k_give M0 q m o w _ h1 i a (by omega) (by omega) (h5 i (by omega))) rfl (Nat.le_of_ble_eq_true rfl) (by decide) (by decide) (fun M2 r2 hq2 => ?_)
      obtain ⟨rfl, g1, g2⟩ := hq2
      refine j_iinc (nI (i + 1)) d_C_join_29 rfl (nI_inc i) (by decide) ?_
      refine j_goto 17 d_C_join_32 (by decide) ?_
      -- at 17
      refine ih (i + 1) M2 (fu own i a) (by omega) g1 (h2.tr g2) h3 (fun s hs => ?_) (fun s hs => ?_)
      · by_cases e : s = i
        · rw [e, fu_s]
        · rw [fu_n _ _ e]; exact h4 s (by omega)
      · by_cases e : s = i
        · rw [e, fu_s]; omega
        · rw [fu_n _ _ e]; exact h5 s hs
  refine j_aload_n d_C_join_0 rfl ?_
  refine j_getR d_C_join_1 hq f_C_9_C rfl (by decide) hm ?_
  refine j_iload_n d_C_join_4 rfl ?_
  refine j_iconst (v := 1) d_C_join_5 (by decide) ?_
  refine j_zast d_C_join_6 tm (aIx.n (by omega) (by decide)) rfl ?_
  have hqj : tO (sI M m a 1) q 1 := hq
  refine j_aload_n d_C_join_7 rfl ?_
  refine j_callV (vs := []) d_C_join_8 hqj (by decide) rfl w328 w314 w2 w316 w315 y_C_countMembers (by decide) (by decide) (k_countMembers (sI M m a 1) q m o w (fu c.1 a true, c.2) s1 hz0) rfl (Nat.le_of_ble_eq_true rfl) (by decide) (by decide) (fun M2 r2 hq2 => ?_)
  obtain ⟨rfl, rfl⟩ := hq2
  dsimp only
  refine j_iconst (v := 1) d_C_join_11 (by decide) ?_
  refine j_icmp_ne (tgt := 35) d_C_join_12 (by decide) (fun h12 => ?_) (fun h12 => ?_)
  · have hk := i_ne (b := 1) (by omega) (by decide) h12
    have hne : nM c.1 ≠ 0 := by show nM c.1 ≠ 0; intro z; exact hk (by show nM (fu c.1 a true) = 1; omega)
    exact fin _ _ c.2 s1 f1 (allm_grow (hv.2.2 hne)) (by rw [if_neg hne])
  · have hk : nM (fu c.1 a true) = 1 := i_eq (b := 1) (by omega) (by decide) h12
    have he : nM c.1 = 0 := by omega
    refine j_iconst (v := 0) d_C_join_15 (by decide) ?_
    refine j_istore_n d_C_join_16 (by decide) ?_
    -- at 17
    exact loop 8 0 _ c.2 (by decide) s1 f1 he (fun s h => absurd h (Nat.not_lt_zero s)) (fun s hs => hv.lt hs)
theorem lv_out {mem : Nat → Bool} {a : Nat} {own : Nat → Nat} : ∀ n s, n ≤ s → lv mem a n own s = own s
  | 0, _, _ => rfl
  | n + 1, s, h => by
    show (if lv mem a n own n = a then fu (lv mem a n own) n _ else lv mem a n own) s = own s
    split
    · rw [fu_n _ _ (by omega)]; exact lv_out n s (by omega)
    · exact lv_out n s (by omega)
theorem lv_in {mem : Nat → Bool} {a : Nat} {own : Nat → Nat} (hm : mem 1 = true ∨ mem 2 = true ∨ mem 3 = true) (ha : ∀ s, s < 8 → own s ≠ a → 1 ≤ own s ∧ own s ≤ 3 ∧ mem (own s) = true) : ∀ n, n ≤ 8 → ∀ s, s < n → 1 ≤ lv mem a n own s ∧ lv mem a n own s ≤ 3 ∧ mem (lv mem a n own s) = true
  | 0, _, s, h => absurd h (Nat.not_lt_zero _)
  | n + 1, hn, s, h => by
    have ih := lv_in hm ha n (by omega)
    obtain ⟨-, ⟨r, e1, e2, e3, e4, -⟩⟩ := ex_facts mem (fun g => cn (lv mem a n own) g 8) hm
    show 1 ≤ (if lv mem a n own n = a then fu (lv mem a n own) n _ else lv mem a n own) s ∧ (if lv mem a n own n = a then fu (lv mem a n own) n _ else lv mem a n own) s ≤ 3 ∧ mem ((if lv mem a n own n = a then fu (lv mem a n own) n _ else lv mem a n own) s) = true
    by_cases q : lv mem a n own n = a
    · rw [if_pos q]
      by_cases e : s = n
      · rw [e, fu_s, e1]; exact ⟨e2, e3, e4⟩
      · rw [fu_n _ _ e]; exact ih s (by omega)
    · rw [if_neg q]
      by_cases e : s = n
      · subst e
        have := lv_out (mem := mem) (a := a) (own := own) s s (Nat.le_refl _)
        rw [this] at q ⊢
        exact ha s (by omega) q
      · exact ih s (by omega)

set_option maxRecDepth 20000 in
set_option maxHeartbeats 2000000 in
theorem k_leave (M : aM) (q m o w : Nat) (c : aCf) (hc : cfS M q m o w c) (a : Nat) (a1 : 1 ≤ a) (a3 : a ≤ 3) (hv : cfV c) (hma : c.1 a = true) (hn : 1 < nM c.1) : aK m_C_leave 2 0 0 M [.ref q, .int (nI a)] (fun M1 r => r = none ∧ cfS M1 q m o w (cfL c a) ∧ fr3 M M1 m o w) := by
  refine aK.of (by decide) (Nat.le_of_ble_eq_true rfl) ?_
  have hc0 := hc
  obtain ⟨hq, hm, ho, hw, tm, to, tw, vm, vo, vw⟩ := hc
  obtain ⟨s1, f1⟩ := hc0.mem (a := a) false (by omega)
  have hn1 := nM_f a1 a3 hma
  have hmm : fu c.1 a false 1 = true ∨ fu c.1 a false 2 = true ∨ fu c.1 a false 3 = true := nM_pos (by omega)
  have hoa : ∀ s, s < 8 → c.2 s ≠ a → 1 ≤ c.2 s ∧ c.2 s ≤ 3 ∧ fu c.1 a false (c.2 s) = true := fun s hs hne => by
    obtain ⟨g1, g2, g3⟩ := hv.2.2 (by omega) s hs
    exact ⟨g1, g2, by rw [fu_n _ _ hne]; exact g3⟩
  have hlt : ∀ n, n ≤ 8 → ∀ s, s < 8 → lv (fu c.1 a false) a n c.2 s < 4 := fun n hn8 s hs => by
    by_cases e : s < n
    · have := (lv_in hmm hoa n hn8 s e).2.1; omega
    · rw [lv_out n s (by omega)]; exact hv.lt hs
  have loop : ∀ (n i : Nat) (M0 : aM), i + n = 8 → cfS M0 q m o w (fu c.1 a false, lv (fu c.1 a false) a i c.2) → fr3 M M0 m o w → aJ aX0 m_C_leave 2 0 0 (fun M1 r => r = none ∧ cfS M1 q m o w (cfL c a) ∧ fr3 M M1 m o w) 0 0 9 [some (.ref q), some (.int (nI a)), some (.int (nI i))] [] M0 := by
    intro n
    induction n with
    | zero =>
      intro i M0 hi h1 h2
      have e8 : i = 8 := by omega
      subst e8
      have hall : allm (fu c.1 a false) (lv (fu c.1 a false) a 8 c.2) := fun s hs => lv_in hmm hoa 8 (Nat.le_refl _) s hs
      refine j_iload_n d_C_leave_9 rfl ?_
      refine j_bipush (v := 8) d_C_leave_10 (by decide) ?_
      refine j_icmp_ge (tgt := 40) d_C_leave_12 (by decide) (fun h12 => ?_) (fun h12 => False.elim (h12 (nI_le (by decide) (by decide))))
      refine j_aload_n d_C_leave_40 rfl ?_
      refine j_callV (vs := []) d_C_leave_41 h1.1 (by decide) rfl w333 w335 w2 w336 ws_C_balance y_C_balance (by decide) (by decide) (k_balance M0 q m o w _ h1 hall) rfl (Nat.le_of_ble_eq_true rfl) (by decide) (by decide) (fun M1 r1 hq1 => ?_)
      obtain ⟨rfl, g1, g2⟩ := hq1
      refine j_return d_C_leave_44 rfl ⟨rfl, g1, h2.tr g2⟩ (by decide) (by decide)
    | succ n ih =>
      intro i M0 hi h1 h2
      have hcr0 := h1
      obtain ⟨hq, hm, ho, hw, tm, to, tw, vm, vo, vw⟩ := h1
      dsimp only at vm vo vw
      have hbi := hlt i (by omega) i (by omega)
      have x2 := ex_le false (fu c.1 a false) (fun g => cn (lv (fu c.1 a false) a i c.2) g 8) 3
      refine j_iload_n d_C_leave_9 rfl ?_
      refine j_bipush (v := 8) d_C_leave_10 (by decide) ?_
      refine j_icmp_ge (tgt := 40) d_C_leave_12 (by decide) (fun h12 => False.elim (nI_ge (b := 8) (by omega) (by decide) h12)) (fun h12 => ?_)
      refine j_aload_n d_C_leave_15 rfl ?_
      refine j_getR d_C_leave_16 hq f_C_15_C rfl (by decide) ho ?_
      refine j_iload_n d_C_leave_19 rfl ?_
      refine j_iald d_C_leave_20 to (aIx.n (by omega) (by decide)) ?_
      refine j_eqi (vo i (by omega)) ?_
      refine j_iload_n d_C_leave_21 rfl ?_
      refine j_icmp_ne (tgt := 34) d_C_leave_22 (by decide) (fun h22 => ?_) (fun h22 => ?_)
      · have he := i_ne (by omega) (by omega) h22
        have hk : lv (fu c.1 a false) a (i + 1) c.2 = lv (fu c.1 a false) a i c.2 := if_neg he
        refine j_iinc (nI (i + 1)) d_C_leave_34 rfl (nI_inc i) (by decide) ?_
        refine j_goto 9 d_C_leave_37 (by decide) ?_
        -- at 9
        first
          | exact ih (i + 1) M2 (by omega) (by rw [hk]; exact g1) (h2.tr g2)
          | exact ih (i + 1) M0 (by omega) (by rw [hk]; exact hcr0) h2
      · have he := i_eq (by omega) (by omega) h22
        have hk : lv (fu c.1 a false) a (i + 1) c.2 = fu (lv (fu c.1 a false) a i c.2) i (ex false (fu c.1 a false) (fun g => cn (lv (fu c.1 a false) a i c.2) g 8) 3) := if_pos he
        refine j_aload_n d_C_leave_25 rfl ?_
        refine j_iload_n d_C_leave_26 rfl ?_
        refine j_aload_n d_C_leave_27 rfl ?_
        refine j_callV (vs := []) d_C_leave_28 hcr0.1 (by decide) rfl w341 w343 w2 w344 ws_C_fewest y_C_fewest (by decide) (by decide) (k_fewest M0 q m o w _ hcr0) rfl (Nat.le_of_ble_eq_true rfl) (by decide) (by decide) (fun M1 r1 hq1 => ?_)
        obtain ⟨rfl, rfl⟩ := hq1
        dsimp only
        refine j_callV (vs := [_, _]) d_C_leave_31 hcr0.1 (by decide) rfl w329 w330 w2 w332 w331 y_C_give (by decide) (by decide) (k_give M1 q m o w _ hcr0 i (ex false (fu c.1 a false) (fun g => cn (lv (fu c.1 a false) a i c.2) g 8) 3) (by omega) (by omega) hbi) rfl (Nat.le_of_ble_eq_true rfl) (by decide) (by decide) (fun M2 r2 hq2 => ?_)
        obtain ⟨rfl, g1, g2⟩ := hq2
        refine j_iinc (nI (i + 1)) d_C_leave_34 rfl (nI_inc i) (by decide) ?_
        refine j_goto 9 d_C_leave_37 (by decide) ?_
        -- at 9
        first
          | exact ih (i + 1) M2 (by omega) (by rw [hk]; exact g1) (h2.tr g2)
          | exact ih (i + 1) M0 (by omega) (by rw [hk]; exact hcr0) h2
  refine j_aload_n d_C_leave_0 rfl ?_
  refine j_getR d_C_leave_1 hq f_C_9_C rfl (by decide) hm ?_
  refine j_iload_n d_C_leave_4 rfl ?_
  refine j_iconst (v := 0) d_C_leave_5 (by decide) ?_
  refine j_zast d_C_leave_6 tm (aIx.n (by omega) (by decide)) rfl ?_
  refine j_iconst (v := 0) d_C_leave_7 (by decide) ?_
  refine j_istore_n d_C_leave_8 (by decide) ?_
  -- at 9
  exact loop 8 0 _ (by decide) s1 f1
