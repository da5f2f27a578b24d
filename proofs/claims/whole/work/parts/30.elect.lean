theorem xneg {x : Int32} (h : x.toInt < 0) : ¬ 0 ≤ x ^^^ 3 := by
  intro q
  have q1 := Int32.le_iff_toInt_le.mp q
  have m1 : x.toBitVec.msb = true := by
    rw [BitVec.msb_eq_toInt]
    exact decide_eq_true h
  have m2 : (x.toBitVec ^^^ 3#32).msb = true := by
    rw [BitVec.msb_xor, m1]; decide
  rw [BitVec.msb_eq_toInt] at m2
  have m3 := of_decide_eq_true m2
  have e : (x ^^^ 3).toInt = (x.toBitVec ^^^ 3#32).toInt := rfl
  rw [e] at q1
  have z : (0 : Int32).toInt = 0 := by decide
  rw [z] at q1
  omega
def elT (n t : Nat) : Nat := t + 1 + (n + 2 * (t + 1)) % 3
theorem fm3s : ∀ j, j < 12 → (if 0 ≤ nI j ^^^ 3 then nI j - nI j / 3 * 3 else if nI j - nI j / 3 * 3 = 0 then nI j - nI j / 3 * 3 else nI j - nI j / 3 * 3 + 3) = nI (j % 3) := by decide +kernel
theorem fmod3 {n t : Nat} (hn : n < 12) (ht : t < 1000000) : (if 0 ≤ (nI n - nI t - 1) ^^^ 3 then (nI n - nI t - 1) - (nI n - nI t - 1) / 3 * 3 else if (nI n - nI t - 1) - (nI n - nI t - 1) / 3 * 3 = 0 then (nI n - nI t - 1) - (nI n - nI t - 1) / 3 * 3 else (nI n - nI t - 1) - (nI n - nI t - 1) / 3 * 3 + 3) = nI ((n + 2 * (t + 1)) % 3) := by
  have e1 : nI n - nI t - 1 = nI n - nI (t + 1) := by
    rw [nI_succ, Int32.sub_sub]
  rw [e1]
  by_cases h : t + 1 ≤ n
  · rw [pk_sub h, fm3s (n - (t + 1)) (by omega)]
    congr 1
    omega
  · have e2 : nI n - nI (t + 1) = -nI (t + 1 - n) := by
      rw [← pk_sub (show n ≤ t + 1 by omega), Int32.neg_sub]
    rw [e2]
    generalize hw : t + 1 - n = w
    have hw1 : w < 2 ^ 31 := by omega
    have hw0 : 0 < w := by omega
    have d3 : (3 : Int32).toInt = 3 := by decide
    have hdiv : (-nI w) / 3 = -nI (w / 3) := by
      apply Int32.toInt_inj.mp
      rw [Int32.toInt_div, sb_negT hw1, d3, sb_negT (by omega), Int.neg_tdiv, Int.tdiv_eq_ediv_of_nonneg (by omega), Int.bmod_eq_of_le (by omega) (by omega)]
      omega
    have hrem : (-nI w) - (-nI w) / 3 * 3 = -nI (w % 3) := by
      have q := pk_rem (a := w) (d := 3) hw1 (by decide) (by decide)
      rw [pk_div hw1 (by decide) (by decide)] at q
      rw [hdiv, ← q]
      show -nI w - -nI (w / 3) * nI 3 = -(nI w - nI (w / 3) * nI 3)
      rw [Int32.neg_mul, Int32.sub_neg, Int32.neg_sub, Int32.add_comm, ← Int32.sub_eq_add_neg]
    rw [if_neg (xneg (by rw [sb_negT hw1]; omega)), hrem]
    have hm : w % 3 = 0 ∨ w % 3 = 1 ∨ w % 3 = 2 := by omega
    have hz : (n + 2 * (t + 1)) % 3 = (3 - w % 3) % 3 := by omega
    rw [hz]
    rcases hm with e | e | e <;> rw [e] <;> decide
/-- whether node m grants node n the term e -/
def bhd (S : aS) (n m : Nat) : Prop := lT (sLn S n) (sTm S n) < lT (sLn S m) (sTm S m) ∨ lT (sLn S n) (sTm S n) = lT (sLn S m) (sTm S m) ∧ sLn S n < sLn S m
abbrev gr (S : aS) (n e m : Nat) : Prop := sUp S m = true ∧ sT S m < e ∧ ¬ (lT (sLn S n) (sTm S n) < lT (sLn S m) (sTm S m) ∨ lT (sLn S n) (sTm S n) = lT (sLn S m) (sTm S m) ∧ sLn S n < sLn S m)
def gS (S : aS) (n e i : Nat) : aS := (sUp S, (fun m => if m / 3 = n / 3 ∧ m % 3 < i ∧ gr S n e m then false else sLd S m), (fun m => if m / 3 = n / 3 ∧ m % 3 < i ∧ gr S n e m then e else sT S m), sLn S, sKn S, sLg S)
def gC (S : aS) (n e : Nat) : Nat → Nat
  | 0 => 0
  | i + 1 => gC S n e i + if gr S n e (3 * (n / 3) + i) then 1 else 0
def oElect (S : aS) (x : Int32) : aS × Int32 := match dN x 12 with
  | none => (S, -1)
  | some n => if sUp S n = true then
      (if gC S n (elT n (sT S n)) 3 < 2 then (gS S n (elT n (sT S n)) 3, 0)
       else ((oWr (sUp S, fu (sLd (gS S n (elT n (sT S n)) 3)) n true, sT (gS S n (elT n (sT S n)) 3), sLn S, sKn S, sLg S) n (eM [elT n (sT S n), 0])).1, nI (elT n (sT S n))))
    else (S, -1)
def lgB (S : aS) : Prop := ∀ n, n < 12 → sLn S n ≤ 80 ∧ ∀ k, k < sLn S n → sLg S n k 0 < 1000000
theorem sInv.lgB {S : aS} {t : Nat} (h : sInv S t) : lgB S := fun n hn => ⟨(h.1 n hn).1, fun k hk => ((h.1 n hn).2.2.2 k hk).1⟩
theorem cR.lgT {M : aM} {S : aS} (h : cR M S) (hb : lgB S) {n : Nat} (hn : n < 12) : lgT M (nd n) (sLn S n) (sTm S n) := by
  obtain ⟨a1, a2⟩ := (h.2 n hn).2.2.2.2.1
  refine ⟨(hb n hn).1, a1, fun k hk => ?_⟩
  obtain ⟨e, b1, b2⟩ := a2 k hk
  obtain ⟨ci, c1, c2, c3⟩ := b2.cls
  exact ⟨e, ci, b1, c1, c2, c3, b2.2.1, (hb n hn).2 k hk⟩
theorem gS_0 (S : aS) (n e : Nat) : gS S n e 0 = S := by
  unfold gS
  obtain ⟨a, b, c, d, f, g⟩ := S
  simp [sUp, sLd, sT, sLn, sKn, sLg]
  rfl
theorem gS_n {S : aS} {n e i : Nat} (hi : i < 3) (h : ¬ gr S n e (3 * (n / 3) + i)) : gS S n e (i + 1) = gS S n e i := by
  have k : ∀ m, (m / 3 = n / 3 ∧ m % 3 < i + 1 ∧ gr S n e m) ↔ (m / 3 = n / 3 ∧ m % 3 < i ∧ gr S n e m) := by
    intro m
    constructor
    · rintro ⟨h1, h2, h3⟩
      refine ⟨h1, ?_, h3⟩
      refine Nat.lt_of_le_of_ne (by omega) (fun q => h ?_)
      rw [show 3 * (n / 3) + i = m by omega]; exact h3
    · rintro ⟨h1, h2, h3⟩
      exact ⟨h1, by omega, h3⟩
  have f1 : ∀ {α : Type} (x y : Nat → α), (fun m => if m / 3 = n / 3 ∧ m % 3 < i + 1 ∧ gr S n e m then x m else y m) = fun m => if m / 3 = n / 3 ∧ m % 3 < i ∧ gr S n e m then x m else y m := by
    intro α x y
    funext m
    by_cases q : m / 3 = n / 3 ∧ m % 3 < i ∧ gr S n e m
    · rw [if_pos q, if_pos ((k m).mpr q)]
    · rw [if_neg q, if_neg (fun z => q ((k m).mp z))]
  unfold gS
  rw [f1 (fun _ => false), f1 (fun _ => e)]
theorem gS_y {S : aS} {n e i : Nat} (hi : i < 3) (h : gr S n e (3 * (n / 3) + i)) : gS S n e (i + 1) = (sUp S, fu (sLd (gS S n e i)) (3 * (n / 3) + i) false, fu (sT (gS S n e i)) (3 * (n / 3) + i) e, sLn S, sKn S, sLg S) := by
  have f1 : (fun m => if m / 3 = n / 3 ∧ m % 3 < i + 1 ∧ gr S n e m then false else sLd S m) = fu (fun m => if m / 3 = n / 3 ∧ m % 3 < i ∧ gr S n e m then false else sLd S m) (3 * (n / 3) + i) false := by
    funext m
    by_cases q : m = 3 * (n / 3) + i
    · rw [q, fu_s, if_pos ⟨by omega, by omega, h⟩]
    · rw [fu_n _ _ q]
      by_cases q2 : m / 3 = n / 3 ∧ m % 3 < i ∧ gr S n e m
      · rw [if_pos q2, if_pos ⟨q2.1, by omega, q2.2.2⟩]
      · rw [if_neg q2, if_neg (fun z => q2 ⟨z.1, by omega, z.2.2⟩)]
  have f2 : (fun m => if m / 3 = n / 3 ∧ m % 3 < i + 1 ∧ gr S n e m then e else sT S m) = fu (fun m => if m / 3 = n / 3 ∧ m % 3 < i ∧ gr S n e m then e else sT S m) (3 * (n / 3) + i) e := by
    funext m
    by_cases q : m = 3 * (n / 3) + i
    · rw [q, fu_s, if_pos ⟨by omega, by omega, h⟩]
    · rw [fu_n _ _ q]
      by_cases q2 : m / 3 = n / 3 ∧ m % 3 < i ∧ gr S n e m
      · rw [if_pos q2, if_pos ⟨q2.1, by omega, q2.2.2⟩]
      · rw [if_neg q2, if_neg (fun z => q2 ⟨z.1, by omega, z.2.2⟩)]
  unfold gS
  rw [f1, f2]
  rfl
theorem cR_rz {M : aM} {S : aS} {m e : Nat} (h : cR M S) (hm : m < 12) : cR (sI (sI M (nd m) 2 (nI e)) (nd m) 1 0) (sUp S, fu (sLd S) m false, fu (sT S) m e, sLn S, sKn S, sLg S) := by
  have st : stb M (sI (sI M (nd m) 2 (nI e)) (nd m) 1 0) := stb_nd hm (stb_nd hm (stb.rf M))
  refine ⟨cSh_sI (cSh_sI h.1 (Or.inl (by decide))) (Or.inl (by decide)), fun j hj => ?_⟩
  by_cases hmn : j = m
  · subst hmn
    refine (h.2 j hj).flags st (fun i h1 h2 => ((sm.rf M _).sI (by omega)).sI (by omega)) (fun k => rfl) (fun k hk => by simp only [mm_I_sI]; rw [if_neg (by omega), if_neg (by omega)]) rfl rfl rfl ?_ ?_ ?_
    · simp only [mm_I_sI]; exact (h.2 j hj).1
    · simp only [mm_I_sI]; show _ = bI (fu (sLd S) j false j); rw [fu_s]; rfl
    · simp only [mm_I_sI]; show _ = nI (fu (sT S) j e j); rw [fu_s]; rfl
  · exact (h.2 j hj).keep st (sm_other (i := 0) hj hm hmn (wd0 m) (sm_other (i := 0) hj hm hmn (wd0 m) (fun j _ => sm.rf M _))) rfl (fu_n _ _ hmn) (fu_n _ _ hmn) rfl rfl rfl
theorem cR_ld {M : aM} {S : aS} {m : Nat} (h : cR M S) (hm : m < 12) : cR (sI M (nd m) 1 1) (sUp S, fu (sLd S) m true, sT S, sLn S, sKn S, sLg S) := by
  have st : stb M (sI M (nd m) 1 1) := stb_nd hm (stb.rf M)
  refine ⟨cSh_sI h.1 (Or.inl (by decide)), fun j hj => ?_⟩
  by_cases hmn : j = m
  · subst hmn
    refine (h.2 j hj).flags st (fun i h1 h2 => (sm.rf M _).sI (by omega)) (fun k => rfl) (fun k hk => by simp only [mm_I_sI]; rw [if_neg (by omega)]) rfl rfl rfl ?_ ?_ ?_
    · simp only [mm_I_sI]; exact (h.2 j hj).1
    · simp only [mm_I_sI]; show _ = bI (fu (sLd S) j true j); rw [fu_s]; rfl
    · simp only [mm_I_sI]; exact (h.2 j hj).2.2.1
  · exact (h.2 j hj).keep st (sm_other (i := 0) hj hm hmn (wd0 m) (fun j _ => sm.rf M _)) rfl (fu_n _ _ hmn) rfl rfl rfl rfl

set_option maxRecDepth 20000 in
set_option maxHeartbeats 1000000 in
theorem k_countGrants_V (M : aM) (S : aS) (n e : Nat) (h : cR M S) (hb : lgB S) (hg : n < 3) (hT : ∀ m, m < 12 → sT S m < 1000000) (he : e < 1000000) : aK m_S_countGrants 3 0 0 M [.ref 0, .ref (nd n), .int (nI (n / 3)), .int (nI e)] (fun M1 r => r = some (.int (nI (gC S n e 3))) ∧ cR M1 (gS S n e 3) ∧ fM M M1) := by
  refine aK.of (by decide) (Nat.le_of_ble_eq_true rfl) ?_
  have hn12 : n < 12 := by omega
  have loop : ∀ (k i : Nat) (M1 : aM), i + k = 3 → cR M1 (gS S n e i) → fM M M1 → aJ aX0 m_S_countGrants 3 0 0 (fun M1 r => r = some (.int (nI (gC S n e 3))) ∧ cR M1 (gS S n e 3) ∧ fM M M1) 0 0 6 [some (.ref 0), some (.ref (nd n)), some (.int (nI (n / 3))), some (.int (nI e)), some (.int (nI (gC S n e i))), some (.int (nI i))] [] M1 := by
    intro k
    induction k with
    | zero =>
      intro i M1 hi h1 f1
      have e3 : i = 3 := by omega
      subst e3
      refine j_iload d_S_countGrants_6 rfl ?_
      refine j_iconst (v := 3) d_S_countGrants_8 (by decide) ?_
      refine j_icmp_ge (tgt := 40) d_S_countGrants_9 (by decide) (fun h9 => ?_) (fun h9 => False.elim (h9 (nI_le (by decide) (by decide))))
      refine j_iload d_S_countGrants_40 rfl ?_
      refine j_ireturn d_S_countGrants_42 rfl rfl ⟨rfl, h1, f1⟩ (by decide) (by decide)
    | succ k ih =>
      intro i M1 hi h1 f1
      have hm : 3 * (n / 3) + i < 12 := by omega
      have h0 := h1.1.2.1
      have hr0 := h1.1.2.2.1
      have hr1 := h1.1.2.2.2.1
      have hr2 := h1.1.2.2.2.2.1
      have hA1 := h1.1.2.2.2.2.2.1
      have hA2 := h1.1.2.2.2.2.2.2.1
      have hA3 := h1.1.2.2.2.2.2.2.2.1
      have hb1 : lgB (gS S n e i) := hb
      have hA := cSh_V h1.1 (show n < 3 by omega)
      have hB := cSh_V h1.1 (show (3 * (n / 3) + i) < 3 by omega)
      have hNB := hB.1
      have hup : mI M1 (nd (3 * (n / 3) + i)) 0 = bI (sUp S (3 * (n / 3) + i)) := (h1.2 _ hm).1
      have ht1 : mI M1 (nd (3 * (n / 3) + i)) 2 = nI (sT S (3 * (n / 3) + i)) := by rw [(h1.2 _ hm).2.2.1]; show nI (if _ then _ else _) = _; rw [if_neg (by omega)]
      have hgr : (mI M1 (nd (3 * (n / 3) + i)) 0 ≠ 0 ∧ sT S (3 * (n / 3) + i) < e ∧ ¬ (lT (sLn S n) (sTm S n) < lT (sLn S (3 * (n / 3) + i)) (sTm S (3 * (n / 3) + i)) ∨ lT (sLn S n) (sTm S n) = lT (sLn S (3 * (n / 3) + i)) (sTm S (3 * (n / 3) + i)) ∧ sLn S n < sLn S (3 * (n / 3) + i))) ↔ gr S n e (3 * (n / 3) + i) := by
        rw [hup]
        constructor
        · rintro ⟨q1, q2⟩; exact ⟨bI_1 q1, q2⟩
        · rintro ⟨q1, q2⟩; exact ⟨bI_t q1, q2⟩
      refine j_iload d_S_countGrants_6 rfl ?_
      refine j_iconst (v := 3) d_S_countGrants_8 (by decide) ?_
      refine j_icmp_ge (tgt := 40) d_S_countGrants_9 (by decide) (fun h9 => False.elim (nI_ge (b := 3) (by omega) (by decide) h9)) (fun h9 => ?_)
      refine j_aload_n d_S_countGrants_12 rfl ?_
      refine j_getR d_S_countGrants_13 (by assumption) f_S_11_S rfl (by decide) (by assumption) ?_
      refine j_iload_n d_S_countGrants_16 rfl ?_
      refine j_iconst (v := 3) d_S_countGrants_17 (by decide) ?_
      refine j_imul d_S_countGrants_18 ?_
      refine j_iload d_S_countGrants_19 rfl ?_
      refine j_iadd d_S_countGrants_21 ?_
      refine j_eqi (show nI (n / 3) * 3 + nI i = nI (3 * (n / 3) + i) by rw [show nI (n / 3) * 3 = nI (n / 3 * 3) from pk_mul _ _, nI_add]; congr 1; omega) ?_
      refine j_aaldR d_S_countGrants_22 (by assumption) (by decide) ts_102 (aIx.n hm (by decide)) (h1.1.2.2.2.2.2.2.2.2.1 _ hm).1 ?_
      refine j_aload_n d_S_countGrants_23 rfl ?_
      refine j_iload_n d_S_countGrants_24 rfl ?_
      refine j_callU (owner := "ShardGroups$Node") (vs := [_, _]) d_S_countGrants_25 hNB (by decide) rfl w209 w210 w3 w214 w212 w211 (Or.inl rfl) y_N_grants (by decide) (by decide) (k_grants_V M1 (nd n) (nd (3 * (n / 3) + i)) (sLn S n) (sLn S (3 * (n / 3) + i)) (sTm S n) (sTm S (3 * (n / 3) + i)) hA hB (h1.lgT hb1 hn12) (h1.lgT hb1 hm) (sT S (3 * (n / 3) + i)) e ht1 (hT _ hm) he) rfl (Nat.le_of_ble_eq_true rfl) (by decide) (by decide) (fun M2 r2 hq2 => ?_)
      obtain ⟨rfl, rfl⟩ := hq2
      simp only [hgr]
      refine j_if_eq (tgt := 34) d_S_countGrants_28 (by decide) (fun h28 => ?_) (fun h28 => ?_)
      · have hg1 : ¬ gr S n e (3 * (n / 3) + i) := fun q => by rw [bP_t q] at h28; exact absurd h28 (by decide)
        rw [if_neg hg1]
        refine j_iinc (nI (i + 1)) d_S_countGrants_34 rfl (nI_inc i) (by decide) ?_
        refine j_goto 6 d_S_countGrants_37 (by decide) ?_
        -- at 6
        have hC : gC S n e (i + 1) = gC S n e i + if gr S n e (3 * (n / 3) + i) then 1 else 0 := rfl
        by_cases hg2 : gr S n e (3 * (n / 3) + i)
        · first
          | exact absurd hg2 hg1
          | (have e9 := ih (i + 1) _ (by omega) (by rw [gS_y (by omega) hg1]; exact cR_rz h1 hm) (f1.tr (fM_nd (i := 0) hm (wd0 _) (fM_nd (i := 0) hm (wd0 _) (fM.rf M1))))
             rw [hC, if_pos hg1] at e9
             exact e9)
        · first
          | exact absurd hg1 hg2
          | (have e9 := ih (i + 1) M1 (by omega) (by rw [gS_n (by omega) hg1]; exact h1) f1
             rw [hC, if_neg hg1] at e9
             exact e9)
      · have hg1 : gr S n e (3 * (n / 3) + i) := Decidable.byContradiction (fun q => h28 (bP_f q))
        rw [if_pos hg1]
        refine j_iinc (nI (gC S n e i + 1)) d_S_countGrants_31 rfl (nI_inc _) (by decide) ?_
        refine j_iinc (nI (i + 1)) d_S_countGrants_34 rfl (nI_inc i) (by decide) ?_
        refine j_goto 6 d_S_countGrants_37 (by decide) ?_
        -- at 6
        have hC : gC S n e (i + 1) = gC S n e i + if gr S n e (3 * (n / 3) + i) then 1 else 0 := rfl
        by_cases hg2 : gr S n e (3 * (n / 3) + i)
        · first
          | exact absurd hg2 hg1
          | (have e9 := ih (i + 1) _ (by omega) (by rw [gS_y (by omega) hg1]; exact cR_rz h1 hm) (f1.tr (fM_nd (i := 0) hm (wd0 _) (fM_nd (i := 0) hm (wd0 _) (fM.rf M1))))
             rw [hC, if_pos hg1] at e9
             exact e9)
        · first
          | exact absurd hg1 hg2
          | (have e9 := ih (i + 1) M1 (by omega) (by rw [gS_n (by omega) hg1]; exact h1) f1
             rw [hC, if_neg hg1] at e9
             exact e9)
  refine j_iconst (v := 0) d_S_countGrants_0 (by decide) ?_
  refine j_istore d_S_countGrants_1 (by decide) ?_
  refine j_iconst (v := 0) d_S_countGrants_3 (by decide) ?_
  refine j_istore d_S_countGrants_4 (by decide) ?_
  -- at 6
  exact loop 3 0 M (by decide) (by rw [gS_0]; exact h) (fM.rf M)
set_option maxRecDepth 20000 in
set_option maxHeartbeats 1000000 in
theorem k_countGrants_T (M : aM) (S : aS) (n e : Nat) (h : cR M S) (hb : lgB S) (hg : 3 ≤ n) (hn : n < 12) (hT : ∀ m, m < 12 → sT S m < 1000000) (he : e < 1000000) : aK m_S_countGrants 3 0 0 M [.ref 0, .ref (nd n), .int (nI (n / 3)), .int (nI e)] (fun M1 r => r = some (.int (nI (gC S n e 3))) ∧ cR M1 (gS S n e 3) ∧ fM M M1) := by
  refine aK.of (by decide) (Nat.le_of_ble_eq_true rfl) ?_
  have hn12 : n < 12 := by omega
  have loop : ∀ (k i : Nat) (M1 : aM), i + k = 3 → cR M1 (gS S n e i) → fM M M1 → aJ aX0 m_S_countGrants 3 0 0 (fun M1 r => r = some (.int (nI (gC S n e 3))) ∧ cR M1 (gS S n e 3) ∧ fM M M1) 0 0 6 [some (.ref 0), some (.ref (nd n)), some (.int (nI (n / 3))), some (.int (nI e)), some (.int (nI (gC S n e i))), some (.int (nI i))] [] M1 := by
    intro k
    induction k with
    | zero =>
      intro i M1 hi h1 f1
      have e3 : i = 3 := by omega
      subst e3
      refine j_iload d_S_countGrants_6 rfl ?_
      refine j_iconst (v := 3) d_S_countGrants_8 (by decide) ?_
      refine j_icmp_ge (tgt := 40) d_S_countGrants_9 (by decide) (fun h9 => ?_) (fun h9 => False.elim (h9 (nI_le (by decide) (by decide))))
      refine j_iload d_S_countGrants_40 rfl ?_
      refine j_ireturn d_S_countGrants_42 rfl rfl ⟨rfl, h1, f1⟩ (by decide) (by decide)
    | succ k ih =>
      intro i M1 hi h1 f1
      have hm : 3 * (n / 3) + i < 12 := by omega
      have h0 := h1.1.2.1
      have hr0 := h1.1.2.2.1
      have hr1 := h1.1.2.2.2.1
      have hr2 := h1.1.2.2.2.2.1
      have hA1 := h1.1.2.2.2.2.2.1
      have hA2 := h1.1.2.2.2.2.2.2.1
      have hA3 := h1.1.2.2.2.2.2.2.2.1
      have hb1 : lgB (gS S n e i) := hb
      have hA := cSh_T h1.1 (show 3 ≤ n by omega) (show n < 12 by omega)
      have hB := cSh_T h1.1 (show 3 ≤ (3 * (n / 3) + i) by omega) (show (3 * (n / 3) + i) < 12 by omega)
      have hNB := hB.1
      have hup : mI M1 (nd (3 * (n / 3) + i)) 0 = bI (sUp S (3 * (n / 3) + i)) := (h1.2 _ hm).1
      have ht1 : mI M1 (nd (3 * (n / 3) + i)) 2 = nI (sT S (3 * (n / 3) + i)) := by rw [(h1.2 _ hm).2.2.1]; show nI (if _ then _ else _) = _; rw [if_neg (by omega)]
      have hgr : (mI M1 (nd (3 * (n / 3) + i)) 0 ≠ 0 ∧ sT S (3 * (n / 3) + i) < e ∧ ¬ (lT (sLn S n) (sTm S n) < lT (sLn S (3 * (n / 3) + i)) (sTm S (3 * (n / 3) + i)) ∨ lT (sLn S n) (sTm S n) = lT (sLn S (3 * (n / 3) + i)) (sTm S (3 * (n / 3) + i)) ∧ sLn S n < sLn S (3 * (n / 3) + i))) ↔ gr S n e (3 * (n / 3) + i) := by
        rw [hup]
        constructor
        · rintro ⟨q1, q2⟩; exact ⟨bI_1 q1, q2⟩
        · rintro ⟨q1, q2⟩; exact ⟨bI_t q1, q2⟩
      refine j_iload d_S_countGrants_6 rfl ?_
      refine j_iconst (v := 3) d_S_countGrants_8 (by decide) ?_
      refine j_icmp_ge (tgt := 40) d_S_countGrants_9 (by decide) (fun h9 => False.elim (nI_ge (b := 3) (by omega) (by decide) h9)) (fun h9 => ?_)
      refine j_aload_n d_S_countGrants_12 rfl ?_
      refine j_getR d_S_countGrants_13 (by assumption) f_S_11_S rfl (by decide) (by assumption) ?_
      refine j_iload_n d_S_countGrants_16 rfl ?_
      refine j_iconst (v := 3) d_S_countGrants_17 (by decide) ?_
      refine j_imul d_S_countGrants_18 ?_
      refine j_iload d_S_countGrants_19 rfl ?_
      refine j_iadd d_S_countGrants_21 ?_
      refine j_eqi (show nI (n / 3) * 3 + nI i = nI (3 * (n / 3) + i) by rw [show nI (n / 3) * 3 = nI (n / 3 * 3) from pk_mul _ _, nI_add]; congr 1; omega) ?_
      refine j_aaldR d_S_countGrants_22 (by assumption) (by decide) ts_102 (aIx.n hm (by decide)) (h1.1.2.2.2.2.2.2.2.2.1 _ hm).1 ?_
      refine j_aload_n d_S_countGrants_23 rfl ?_
      refine j_iload_n d_S_countGrants_24 rfl ?_
      refine j_callU (owner := "ShardGroups$Node") (vs := [_, _]) d_S_countGrants_25 hNB (by decide) rfl w209 w210 w3 w214 w213 w211 (Or.inl rfl) y_N_grants (by decide) (by decide) (k_grants_T M1 (nd n) (nd (3 * (n / 3) + i)) (sLn S n) (sLn S (3 * (n / 3) + i)) (sTm S n) (sTm S (3 * (n / 3) + i)) hA hB (h1.lgT hb1 hn12) (h1.lgT hb1 hm) (sT S (3 * (n / 3) + i)) e ht1 (hT _ hm) he) rfl (Nat.le_of_ble_eq_true rfl) (by decide) (by decide) (fun M2 r2 hq2 => ?_)
      obtain ⟨rfl, rfl⟩ := hq2
      simp only [hgr]
      refine j_if_eq (tgt := 34) d_S_countGrants_28 (by decide) (fun h28 => ?_) (fun h28 => ?_)
      · have hg1 : ¬ gr S n e (3 * (n / 3) + i) := fun q => by rw [bP_t q] at h28; exact absurd h28 (by decide)
        rw [if_neg hg1]
        refine j_iinc (nI (i + 1)) d_S_countGrants_34 rfl (nI_inc i) (by decide) ?_
        refine j_goto 6 d_S_countGrants_37 (by decide) ?_
        -- at 6
        have hC : gC S n e (i + 1) = gC S n e i + if gr S n e (3 * (n / 3) + i) then 1 else 0 := rfl
        by_cases hg2 : gr S n e (3 * (n / 3) + i)
        · first
          | exact absurd hg2 hg1
          | (have e9 := ih (i + 1) _ (by omega) (by rw [gS_y (by omega) hg1]; exact cR_rz h1 hm) (f1.tr (fM_nd (i := 0) hm (wd0 _) (fM_nd (i := 0) hm (wd0 _) (fM.rf M1))))
             rw [hC, if_pos hg1] at e9
             exact e9)
        · first
          | exact absurd hg1 hg2
          | (have e9 := ih (i + 1) M1 (by omega) (by rw [gS_n (by omega) hg1]; exact h1) f1
             rw [hC, if_neg hg1] at e9
             exact e9)
      · have hg1 : gr S n e (3 * (n / 3) + i) := Decidable.byContradiction (fun q => h28 (bP_f q))
        rw [if_pos hg1]
        refine j_iinc (nI (gC S n e i + 1)) d_S_countGrants_31 rfl (nI_inc _) (by decide) ?_
        refine j_iinc (nI (i + 1)) d_S_countGrants_34 rfl (nI_inc i) (by decide) ?_
        refine j_goto 6 d_S_countGrants_37 (by decide) ?_
        -- at 6
        have hC : gC S n e (i + 1) = gC S n e i + if gr S n e (3 * (n / 3) + i) then 1 else 0 := rfl
        by_cases hg2 : gr S n e (3 * (n / 3) + i)
        · first
          | exact absurd hg2 hg1
          | (have e9 := ih (i + 1) _ (by omega) (by rw [gS_y (by omega) hg1]; exact cR_rz h1 hm) (f1.tr (fM_nd (i := 0) hm (wd0 _) (fM_nd (i := 0) hm (wd0 _) (fM.rf M1))))
             rw [hC, if_pos hg1] at e9
             exact e9)
        · first
          | exact absurd hg1 hg2
          | (have e9 := ih (i + 1) M1 (by omega) (by rw [gS_n (by omega) hg1]; exact h1) f1
             rw [hC, if_neg hg1] at e9
             exact e9)
  refine j_iconst (v := 0) d_S_countGrants_0 (by decide) ?_
  refine j_istore d_S_countGrants_1 (by decide) ?_
  refine j_iconst (v := 0) d_S_countGrants_3 (by decide) ?_
  refine j_istore d_S_countGrants_4 (by decide) ?_
  -- at 6
  exact loop 3 0 M (by decide) (by rw [gS_0]; exact h) (fM.rf M)
