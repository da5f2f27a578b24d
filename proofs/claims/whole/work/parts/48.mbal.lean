def mb (mem : Nat → Bool) : Nat := (if mem 1 then 2 else 0) + (if mem 2 then 4 else 0) + (if mem 3 then 8 else 0)
def mRow (M : aM) (c : Nat) (own : Nat → Nat) : Prop := ∀ s, s < 8 → mI M 341 (8 * c + s) = nI (own s)
def mCf (M : aM) (c : Nat) (f : aCf) : Prop := mI M 340 c = nI (mb f.1) ∧ mRow M c f.2
def mSv (M : aM) (V : aSv) : Prop := mI M 332 7 = nI V.1 ∧ ∀ c, c < V.1 → mCf M c (V.2 c)
def xI (n : Nat) : Int32 := if n = 0 then -1 else nI n
theorem mb_bit (mem : Nat → Bool) {g : Nat} (h1 : 1 ≤ g) (h3 : g ≤ 3) : (nI (mb mem) >>> (nI g &&& 31)) &&& 1 = bI (mem g) := by
  unfold mb
  rcases (by omega : g = 1 ∨ g = 2 ∨ g = 3) with rfl | rfl | rfl <;> cases mem 1 <;> cases mem 2 <;> cases mem 3 <;> decide
theorem xI_0 {n : Nat} (hn : n < 2 ^ 31) : xI n < 0 ↔ n = 0 := by
  unfold xI
  by_cases e : n = 0
  · rw [if_pos e]; exact ⟨fun _ => e, fun _ => by decide⟩
  · rw [if_neg e]; exact ⟨fun q => absurd q (fun z => nI_pos hn z), fun q => absurd q e⟩
theorem xI_p {n : Nat} (h : n ≠ 0) : xI n = nI n := if_neg h

set_option maxRecDepth 20000 in
set_option maxHeartbeats 1000000 in
theorem q_owned (M : aM) (c g : Nat) (own : Nat → Nat) (hm : mSh M) (hc : c < 16) (hr : mRow M c own) (hb : ∀ s, s < 8 → own s < 4) (hg : g < 4) : aK m_M_owned 0 0 0 M [.ref 332, .int (nI c), .int (nI g)] (fun M1 r => M1 = M ∧ r = some (.int (nI (cn own g 8)))) := by
  refine aK.of (by decide) (Nat.le_of_ble_eq_true rfl) ?_
  obtain ⟨h0, q_off, t_off, q_leads, t_leads, q_term, t_term, q_length, t_length, q_known, t_known, q_logs, t_logs, q_entry, t_entry, q_members, t_members, q_owners, t_owners, q_owner, t_owner, q_condition, t_condition, q_held, t_held⟩ := hm
  have loop : ∀ (k i : Nat), i + k = 8 → aJ aX0 m_M_owned 0 0 0 (fun M1 r => M1 = M ∧ r = some (.int (nI (cn own g 8)))) 0 0 5 [some (.ref 332), some (.int (nI c)), some (.int (nI g)), some (.int (nI (cn own g i))), some (.int (nI i))] [] M := by
    intro k
    induction k with
    | zero =>
      intro i hi
      have e8 : i = 8 := by omega
      subst e8
      refine j_iload d_M_owned_5 rfl ?_
      refine j_bipush (v := 8) d_M_owned_7 (by decide) ?_
      refine j_icmp_ge (tgt := 42) d_M_owned_9 (by decide) (fun h9 => ?_) (fun h9 => False.elim (h9 (nI_le (by decide) (by decide))))
      refine j_iload_n d_M_owned_42 rfl ?_
      refine j_ireturn d_M_owned_43 rfl rfl ⟨rfl, rfl⟩ (by decide) (by decide)
    | succ k ih =>
      intro i hi
      have hbi := hb i (by omega)
      refine j_iload d_M_owned_5 rfl ?_
      refine j_bipush (v := 8) d_M_owned_7 (by decide) ?_
      refine j_icmp_ge (tgt := 42) d_M_owned_9 (by decide) (fun h9 => False.elim (nI_ge (b := 8) (by omega) (by decide) h9)) (fun h9 => ?_)
      refine j_iload_n d_M_owned_12 rfl ?_
      refine j_aload_n d_M_owned_13 rfl ?_
      refine j_getR d_M_owned_14 h0 f_M_35_M rfl (by decide) q_owners ?_
      refine j_bipush (v := 8) d_M_owned_17 (by decide) ?_
      refine j_iload_n d_M_owned_19 rfl ?_
      refine j_imul d_M_owned_20 ?_
      refine j_iload d_M_owned_21 rfl ?_
      refine j_iadd d_M_owned_23 ?_
      refine j_eqi (i8 c i) ?_
      refine j_iald d_M_owned_24 t_owners (aIx.n (by omega) (by decide)) ?_
      refine j_eqi (hr i (by omega)) ?_
      refine j_iload_n d_M_owned_25 rfl ?_
      refine j_icmp_ne (tgt := 33) d_M_owned_26 (by decide) (fun h26 => ?_) (fun h26 => ?_)
      · have k26 := i_ne (by omega) (by omega) h26
        have hC : nI (cn own g i) + 0 = nI (cn own g (i + 1)) := by rw [show cn own g (i + 1) = cn own g i from (congrArg (fun z => cn own g i + z) (if_neg k26)).trans (Nat.add_zero _), Int32.add_zero]
        refine j_iconst (v := 0) d_M_owned_33 (by decide) ?_
        refine j_iadd d_M_owned_34 ?_
        refine j_eqi hC ?_
        refine j_istore_n d_M_owned_35 (by decide) ?_
        refine j_iinc (nI (i + 1)) d_M_owned_36 rfl (nI_inc i) (by decide) ?_
        refine j_goto 5 d_M_owned_39 (by decide) ?_
        -- at 5
        exact ih (i + 1) (by omega)
      · have k26 := i_eq (by omega) (by omega) h26
        have hC : nI (cn own g i) + 1 = nI (cn own g (i + 1)) := by rw [show cn own g (i + 1) = cn own g i + 1 from congrArg (fun z => cn own g i + z) (if_pos k26), nI_succ]
        refine j_iconst (v := 1) d_M_owned_29 (by decide) ?_
        refine j_goto 34 d_M_owned_30 (by decide) ?_
        refine j_iadd d_M_owned_34 ?_
        refine j_eqi hC ?_
        refine j_istore_n d_M_owned_35 (by decide) ?_
        refine j_iinc (nI (i + 1)) d_M_owned_36 rfl (nI_inc i) (by decide) ?_
        refine j_goto 5 d_M_owned_39 (by decide) ?_
        -- at 5
        exact ih (i + 1) (by omega)
  refine j_iconst (v := 0) d_M_owned_0 (by decide) ?_
  refine j_istore_n d_M_owned_1 (by decide) ?_
  refine j_iconst (v := 0) d_M_owned_2 (by decide) ?_
  refine j_istore d_M_owned_3 (by decide) ?_
  -- at 5
  exact loop 8 0 (by decide)
set_option maxRecDepth 20000 in
set_option maxHeartbeats 1000000 in
theorem q_extreme_true (M : aM) (c : Nat) (mem : Nat → Bool) (own : Nat → Nat) (hm : mSh M) (hc : c < 16) (hM : mI M 340 c = nI (mb mem)) (hr : mRow M c own) (hb : ∀ s, s < 8 → own s < 4) : aK m_M_extreme 1 0 0 M [.ref 332, .int (nI c), .int 1] (fun M1 r => M1 = M ∧ r = some (.int (xI (ex true mem (fun g => cn own g 8) 3)))) := by
  refine aK.of (by decide) (Nat.le_of_ble_eq_true rfl) ?_
  have hmm := hm
  obtain ⟨h0, q_off, t_off, q_leads, t_leads, q_term, t_term, q_length, t_length, q_known, t_known, q_logs, t_logs, q_entry, t_entry, q_members, t_members, q_owners, t_owners, q_owner, t_owner, q_condition, t_condition, q_held, t_held⟩ := hm
  have loop : ∀ (k i : Nat) (z5 z6 : Option Value), i + k = 3 → aJ aX0 m_M_extreme 1 0 0 (fun M1 r => M1 = M ∧ r = some (.int (xI (ex true mem (fun g => cn own g 8) 3)))) 0 0 5 [some (.ref 332), some (.int (nI c)), some (.int 1), some (.int (xI (ex true mem (fun g => cn own g 8) i))), some (.int (nI (i + 1))), z5, z6] [] M := by
    intro k
    induction k with
    | zero =>
      intro i z5 z6 hi
      have e8 : i = 3 := by omega
      subst e8
      refine j_iload d_M_extreme_5 rfl ?_
      refine j_iconst (v := 3) d_M_extreme_7 (by decide) ?_
      refine j_icmp_gt (tgt := 106) d_M_extreme_8 (by decide) (fun h8 => ?_) (fun h8 => False.elim (h8 (by decide)))
      refine j_iload_n d_M_extreme_106 rfl ?_
      refine j_ireturn d_M_extreme_107 rfl rfl ⟨rfl, rfl⟩ (by decide) (by decide)
    | succ k ih =>
      intro i z5 z6 hi
      have hle := ex_le true mem (fun g => cn own g 8) i
      have c1 := cn_le own (i + 1) 8
      have c2 := cn_le own (ex true mem (fun g => cn own g 8) i) 8
      have hX : (ex true mem (fun g => cn own g 8) (i + 1)) = if mem (i + 1) = true ∧ ((ex true mem (fun g => cn own g 8) i) = 0 ∨ cn own (ex true mem (fun g => cn own g 8) i) 8 < cn own (i + 1) 8) then i + 1 else (ex true mem (fun g => cn own g 8) i) := rfl
      have at83 : ∀ v w : Int32, (v ≠ 0 ↔ mem (i + 1) = true) → (w ≠ 0 ↔ ((ex true mem (fun g => cn own g 8) i) = 0 ∨ cn own (ex true mem (fun g => cn own g 8) i) 8 < cn own (i + 1) 8)) → aJ aX0 m_M_extreme 1 0 0 (fun M1 r => M1 = M ∧ r = some (.int (xI (ex true mem (fun g => cn own g 8) 3)))) 0 0 83 [some (.ref 332), some (.int (nI c)), some (.int 1), some (.int (xI (ex true mem (fun g => cn own g 8) i))), some (.int (nI (i + 1))), some (.int v), some (.int w)] [] M := by
        intro v w hv hw
        refine j_iload d_M_extreme_83 rfl ?_
        refine j_if_eq (tgt := 98) d_M_extreme_85 (by decide) (fun h85 => ?_) (fun h85 => ?_)
        · have hx : xI (ex true mem (fun g => cn own g 8) i) = xI (ex true mem (fun g => cn own g 8) (i + 1)) := by rw [hX, if_neg (fun q => hv.mpr q.1 h85)]
          refine j_iload_n d_M_extreme_98 rfl ?_
          refine j_eqi hx ?_
          refine j_istore_n d_M_extreme_99 (by decide) ?_
          refine j_iinc (nI (i + 1 + 1)) d_M_extreme_100 rfl (nI_inc _) (by decide) ?_
          refine j_goto 5 d_M_extreme_103 (by decide) ?_
          -- at 5
          exact ih (i + 1) _ _ (by omega)
        · have k85 := hv.mp h85
          refine j_iload d_M_extreme_88 rfl ?_
          refine j_if_eq (tgt := 98) d_M_extreme_90 (by decide) (fun h90 => ?_) (fun h90 => ?_)
          · have hx : xI (ex true mem (fun g => cn own g 8) i) = xI (ex true mem (fun g => cn own g 8) (i + 1)) := by rw [hX, if_neg (fun q => hw.mpr q.2 h90)]
            refine j_iload_n d_M_extreme_98 rfl ?_
            refine j_eqi hx ?_
            refine j_istore_n d_M_extreme_99 (by decide) ?_
            refine j_iinc (nI (i + 1 + 1)) d_M_extreme_100 rfl (nI_inc _) (by decide) ?_
            refine j_goto 5 d_M_extreme_103 (by decide) ?_
            -- at 5
            exact ih (i + 1) _ _ (by omega)
          · have hx : nI (i + 1) = xI (ex true mem (fun g => cn own g 8) (i + 1)) := by rw [hX, if_pos ⟨k85, hw.mp h90⟩, xI_p (by omega)]
            refine j_iload d_M_extreme_93 rfl ?_
            refine j_goto 99 d_M_extreme_95 (by decide) ?_
            refine j_eqi hx ?_
            refine j_istore_n d_M_extreme_99 (by decide) ?_
            refine j_iinc (nI (i + 1 + 1)) d_M_extreme_100 rfl (nI_inc _) (by decide) ?_
            refine j_goto 5 d_M_extreme_103 (by decide) ?_
            -- at 5
            exact ih (i + 1) _ _ (by omega)
      have at33 : ∀ v : Int32, (v ≠ 0 ↔ mem (i + 1) = true) → ∀ z6 : Option Value, aJ aX0 m_M_extreme 1 0 0 (fun M1 r => M1 = M ∧ r = some (.int (xI (ex true mem (fun g => cn own g 8) 3)))) 0 0 33 [some (.ref 332), some (.int (nI c)), some (.int 1), some (.int (xI (ex true mem (fun g => cn own g 8) i))), some (.int (nI (i + 1))), some (.int v), z6] [] M := by
        intro v hv z6
        refine j_iload_n d_M_extreme_33 rfl ?_
        refine j_if_lt (tgt := 76) d_M_extreme_34 (by decide) (fun h34 => ?_) (fun h34 => ?_)
        · have k34 := (xI_0 (by omega)).mp h34
          have hw : (1 : Int32) ≠ 0 ↔ ((ex true mem (fun g => cn own g 8) i) = 0 ∨ cn own (ex true mem (fun g => cn own g 8) i) 8 < cn own (i + 1) 8) := ⟨fun _ => Or.inl k34, fun _ => by decide⟩
          refine j_iconst (v := 1) d_M_extreme_76 (by decide) ?_
          refine j_goto 81 d_M_extreme_77 (by decide) ?_
          refine j_istore d_M_extreme_81 (by decide) ?_
          -- at 83
          first
            | exact at83 _ _ hv hw
            | (have y := at83 _ _ hv hw
               rw [xI_p k34] at y
               exact y)
        · have k34 : (ex true mem (fun g => cn own g 8) i) ≠ 0 := fun q => h34 ((xI_0 (by omega)).mpr q)
          rw [xI_p k34]
          refine j_iload_n d_M_extreme_37 rfl ?_
          refine j_if_eq (tgt := 60) d_M_extreme_38 (by decide) (fun h38 => False.elim (absurd h38 (by decide))) (fun h38 => ?_)
          refine j_aload_n d_M_extreme_41 rfl ?_
          refine j_iload_n d_M_extreme_42 rfl ?_
          refine j_iload d_M_extreme_43 rfl ?_
          refine j_callV (vs := [_, _]) d_M_extreme_45 h0 (by decide) rfl w770 w772 w7 w773 ws_M_owned y_M_owned (by decide) (by decide) (q_owned M c (i + 1) own hmm hc hr hb (by omega)) rfl (Nat.le_of_ble_eq_true rfl) (by decide) (by decide) (fun M2 r2 hq2 => ?_)
          obtain ⟨rfl, rfl⟩ := hq2
          refine j_aload_n d_M_extreme_48 rfl ?_
          refine j_iload_n d_M_extreme_49 rfl ?_
          refine j_iload_n d_M_extreme_50 rfl ?_
          refine j_callV (vs := [_, _]) d_M_extreme_51 h0 (by decide) rfl w770 w772 w7 w773 ws_M_owned y_M_owned (by decide) (by decide) (q_owned M2 c (ex true mem (fun g => cn own g 8) i) own hmm hc hr hb (by omega)) rfl (Nat.le_of_ble_eq_true rfl) (by decide) (by decide) (fun M3 r3 hq3 => ?_)
          obtain ⟨rfl, rfl⟩ := hq3
          refine j_icmp_le (tgt := 80) d_M_extreme_54 (by decide) (fun h54 => ?_) (fun h54 => ?_)
          · have k54 := i_le (by omega) (by omega) h54
            have hw : (0 : Int32) ≠ 0 ↔ ((ex true mem (fun g => cn own g 8) i) = 0 ∨ cn own (ex true mem (fun g => cn own g 8) i) 8 < cn own (i + 1) 8) := ⟨fun q => absurd rfl q, fun q => absurd q (by omega)⟩
            refine j_iconst (v := 0) d_M_extreme_80 (by decide) ?_
            refine j_istore d_M_extreme_81 (by decide) ?_
            -- at 83
            first
              | exact at83 _ _ hv hw
              | (have y := at83 _ _ hv hw
                 rw [xI_p k34] at y
                 exact y)
          · have k54 := i_nle (by omega) (by omega) h54
            have hw : (1 : Int32) ≠ 0 ↔ ((ex true mem (fun g => cn own g 8) i) = 0 ∨ cn own (ex true mem (fun g => cn own g 8) i) 8 < cn own (i + 1) 8) := ⟨fun _ => Or.inr k54, fun _ => by decide⟩
            refine j_goto 76 d_M_extreme_57 (by decide) ?_
            refine j_iconst (v := 1) d_M_extreme_76 (by decide) ?_
            refine j_goto 81 d_M_extreme_77 (by decide) ?_
            refine j_istore d_M_extreme_81 (by decide) ?_
            -- at 83
            first
              | exact at83 _ _ hv hw
              | (have y := at83 _ _ hv hw
                 rw [xI_p k34] at y
                 exact y)
      refine j_iload d_M_extreme_5 rfl ?_
      refine j_iconst (v := 3) d_M_extreme_7 (by decide) ?_
      refine j_icmp_gt (tgt := 106) d_M_extreme_8 (by decide) (fun h8 => False.elim (absurd (i_lt (a := 3) (by decide) (by omega) h8) (by omega))) (fun h8 => ?_)
      refine j_aload_n d_M_extreme_11 rfl ?_
      refine j_getR d_M_extreme_12 h0 f_M_32_M rfl (by decide) q_members ?_
      refine j_iload_n d_M_extreme_15 rfl ?_
      refine j_iald d_M_extreme_16 t_members (aIx.n (by omega) (by decide)) ?_
      refine j_eqi hM ?_
      refine j_iload d_M_extreme_17 rfl ?_
      refine j_ishr d_M_extreme_19 ?_
      refine j_iconst (v := 1) d_M_extreme_20 (by decide) ?_
      refine j_iand d_M_extreme_21 ?_
      refine j_eqi (mb_bit mem (by omega) (by omega)) ?_
      refine j_iconst (v := 1) d_M_extreme_22 (by decide) ?_
      refine j_icmp_ne (tgt := 30) d_M_extreme_23 (by decide) (fun h23 => ?_) (fun h23 => ?_)
      · have hv : (0 : Int32) ≠ 0 ↔ mem (i + 1) = true := ⟨fun q => absurd rfl q, fun q => absurd (by rw [q]; rfl) h23⟩
        refine j_iconst (v := 0) d_M_extreme_30 (by decide) ?_
        refine j_istore d_M_extreme_31 (by decide) ?_
        -- at 33
        exact at33 _ hv _
      · have hv : (1 : Int32) ≠ 0 ↔ mem (i + 1) = true := ⟨fun _ => bI_n0 (by rw [h23]; decide), fun _ => by decide⟩
        refine j_iconst (v := 1) d_M_extreme_26 (by decide) ?_
        refine j_goto 31 d_M_extreme_27 (by decide) ?_
        refine j_istore d_M_extreme_31 (by decide) ?_
        -- at 33
        exact at33 _ hv _
  refine j_iconst (v := -1) d_M_extreme_0 (by decide) ?_
  refine j_istore_n d_M_extreme_1 (by decide) ?_
  refine j_iconst (v := 1) d_M_extreme_2 (by decide) ?_
  refine j_istore d_M_extreme_3 (by decide) ?_
  -- at 5
  exact loop 3 0 _ _ (by decide)
set_option maxRecDepth 20000 in
set_option maxHeartbeats 1000000 in
theorem q_extreme_false (M : aM) (c : Nat) (mem : Nat → Bool) (own : Nat → Nat) (hm : mSh M) (hc : c < 16) (hM : mI M 340 c = nI (mb mem)) (hr : mRow M c own) (hb : ∀ s, s < 8 → own s < 4) : aK m_M_extreme 1 0 0 M [.ref 332, .int (nI c), .int 0] (fun M1 r => M1 = M ∧ r = some (.int (xI (ex false mem (fun g => cn own g 8) 3)))) := by
  refine aK.of (by decide) (Nat.le_of_ble_eq_true rfl) ?_
  have hmm := hm
  obtain ⟨h0, q_off, t_off, q_leads, t_leads, q_term, t_term, q_length, t_length, q_known, t_known, q_logs, t_logs, q_entry, t_entry, q_members, t_members, q_owners, t_owners, q_owner, t_owner, q_condition, t_condition, q_held, t_held⟩ := hm
  have loop : ∀ (k i : Nat) (z5 z6 : Option Value), i + k = 3 → aJ aX0 m_M_extreme 1 0 0 (fun M1 r => M1 = M ∧ r = some (.int (xI (ex false mem (fun g => cn own g 8) 3)))) 0 0 5 [some (.ref 332), some (.int (nI c)), some (.int 0), some (.int (xI (ex false mem (fun g => cn own g 8) i))), some (.int (nI (i + 1))), z5, z6] [] M := by
    intro k
    induction k with
    | zero =>
      intro i z5 z6 hi
      have e8 : i = 3 := by omega
      subst e8
      refine j_iload d_M_extreme_5 rfl ?_
      refine j_iconst (v := 3) d_M_extreme_7 (by decide) ?_
      refine j_icmp_gt (tgt := 106) d_M_extreme_8 (by decide) (fun h8 => ?_) (fun h8 => False.elim (h8 (by decide)))
      refine j_iload_n d_M_extreme_106 rfl ?_
      refine j_ireturn d_M_extreme_107 rfl rfl ⟨rfl, rfl⟩ (by decide) (by decide)
    | succ k ih =>
      intro i z5 z6 hi
      have hle := ex_le false mem (fun g => cn own g 8) i
      have c1 := cn_le own (i + 1) 8
      have c2 := cn_le own (ex false mem (fun g => cn own g 8) i) 8
      have hX : (ex false mem (fun g => cn own g 8) (i + 1)) = if mem (i + 1) = true ∧ ((ex false mem (fun g => cn own g 8) i) = 0 ∨ cn own (i + 1) 8 < cn own (ex false mem (fun g => cn own g 8) i) 8) then i + 1 else (ex false mem (fun g => cn own g 8) i) := rfl
      have at83 : ∀ v w : Int32, (v ≠ 0 ↔ mem (i + 1) = true) → (w ≠ 0 ↔ ((ex false mem (fun g => cn own g 8) i) = 0 ∨ cn own (i + 1) 8 < cn own (ex false mem (fun g => cn own g 8) i) 8)) → aJ aX0 m_M_extreme 1 0 0 (fun M1 r => M1 = M ∧ r = some (.int (xI (ex false mem (fun g => cn own g 8) 3)))) 0 0 83 [some (.ref 332), some (.int (nI c)), some (.int 0), some (.int (xI (ex false mem (fun g => cn own g 8) i))), some (.int (nI (i + 1))), some (.int v), some (.int w)] [] M := by
        intro v w hv hw
        refine j_iload d_M_extreme_83 rfl ?_
        refine j_if_eq (tgt := 98) d_M_extreme_85 (by decide) (fun h85 => ?_) (fun h85 => ?_)
        · have hx : xI (ex false mem (fun g => cn own g 8) i) = xI (ex false mem (fun g => cn own g 8) (i + 1)) := by rw [hX, if_neg (fun q => hv.mpr q.1 h85)]
          refine j_iload_n d_M_extreme_98 rfl ?_
          refine j_eqi hx ?_
          refine j_istore_n d_M_extreme_99 (by decide) ?_
          refine j_iinc (nI (i + 1 + 1)) d_M_extreme_100 rfl (nI_inc _) (by decide) ?_
          refine j_goto 5 d_M_extreme_103 (by decide) ?_
          -- at 5
          exact ih (i + 1) _ _ (by omega)
        · have k85 := hv.mp h85
          refine j_iload d_M_extreme_88 rfl ?_
          refine j_if_eq (tgt := 98) d_M_extreme_90 (by decide) (fun h90 => ?_) (fun h90 => ?_)
          · have hx : xI (ex false mem (fun g => cn own g 8) i) = xI (ex false mem (fun g => cn own g 8) (i + 1)) := by rw [hX, if_neg (fun q => hw.mpr q.2 h90)]
            refine j_iload_n d_M_extreme_98 rfl ?_
            refine j_eqi hx ?_
            refine j_istore_n d_M_extreme_99 (by decide) ?_
            refine j_iinc (nI (i + 1 + 1)) d_M_extreme_100 rfl (nI_inc _) (by decide) ?_
            refine j_goto 5 d_M_extreme_103 (by decide) ?_
            -- at 5
            exact ih (i + 1) _ _ (by omega)
          · have hx : nI (i + 1) = xI (ex false mem (fun g => cn own g 8) (i + 1)) := by rw [hX, if_pos ⟨k85, hw.mp h90⟩, xI_p (by omega)]
            refine j_iload d_M_extreme_93 rfl ?_
            refine j_goto 99 d_M_extreme_95 (by decide) ?_
            refine j_eqi hx ?_
            refine j_istore_n d_M_extreme_99 (by decide) ?_
            refine j_iinc (nI (i + 1 + 1)) d_M_extreme_100 rfl (nI_inc _) (by decide) ?_
            refine j_goto 5 d_M_extreme_103 (by decide) ?_
            -- at 5
            exact ih (i + 1) _ _ (by omega)
      have at33 : ∀ v : Int32, (v ≠ 0 ↔ mem (i + 1) = true) → ∀ z6 : Option Value, aJ aX0 m_M_extreme 1 0 0 (fun M1 r => M1 = M ∧ r = some (.int (xI (ex false mem (fun g => cn own g 8) 3)))) 0 0 33 [some (.ref 332), some (.int (nI c)), some (.int 0), some (.int (xI (ex false mem (fun g => cn own g 8) i))), some (.int (nI (i + 1))), some (.int v), z6] [] M := by
        intro v hv z6
        refine j_iload_n d_M_extreme_33 rfl ?_
        refine j_if_lt (tgt := 76) d_M_extreme_34 (by decide) (fun h34 => ?_) (fun h34 => ?_)
        · have k34 := (xI_0 (by omega)).mp h34
          have hw : (1 : Int32) ≠ 0 ↔ ((ex false mem (fun g => cn own g 8) i) = 0 ∨ cn own (i + 1) 8 < cn own (ex false mem (fun g => cn own g 8) i) 8) := ⟨fun _ => Or.inl k34, fun _ => by decide⟩
          refine j_iconst (v := 1) d_M_extreme_76 (by decide) ?_
          refine j_goto 81 d_M_extreme_77 (by decide) ?_
          refine j_istore d_M_extreme_81 (by decide) ?_
          -- at 83
          first
            | exact at83 _ _ hv hw
            | (have y := at83 _ _ hv hw
               rw [xI_p k34] at y
               exact y)
        · have k34 : (ex false mem (fun g => cn own g 8) i) ≠ 0 := fun q => h34 ((xI_0 (by omega)).mpr q)
          rw [xI_p k34]
          refine j_iload_n d_M_extreme_37 rfl ?_
          refine j_if_eq (tgt := 60) d_M_extreme_38 (by decide) (fun h38 => ?_) (fun h38 => False.elim (h38 rfl))
          refine j_aload_n d_M_extreme_60 rfl ?_
          refine j_iload_n d_M_extreme_61 rfl ?_
          refine j_iload d_M_extreme_62 rfl ?_
          refine j_callV (vs := [_, _]) d_M_extreme_64 h0 (by decide) rfl w770 w772 w7 w773 ws_M_owned y_M_owned (by decide) (by decide) (q_owned M c (i + 1) own hmm hc hr hb (by omega)) rfl (Nat.le_of_ble_eq_true rfl) (by decide) (by decide) (fun M2 r2 hq2 => ?_)
          obtain ⟨rfl, rfl⟩ := hq2
          refine j_aload_n d_M_extreme_67 rfl ?_
          refine j_iload_n d_M_extreme_68 rfl ?_
          refine j_iload_n d_M_extreme_69 rfl ?_
          refine j_callV (vs := [_, _]) d_M_extreme_70 h0 (by decide) rfl w770 w772 w7 w773 ws_M_owned y_M_owned (by decide) (by decide) (q_owned M2 c (ex false mem (fun g => cn own g 8) i) own hmm hc hr hb (by omega)) rfl (Nat.le_of_ble_eq_true rfl) (by decide) (by decide) (fun M3 r3 hq3 => ?_)
          obtain ⟨rfl, rfl⟩ := hq3
          refine j_icmp_ge (tgt := 80) d_M_extreme_73 (by decide) (fun h73 => ?_) (fun h73 => ?_)
          · have k73 := i_le (by omega) (by omega) h73
            have hw : (0 : Int32) ≠ 0 ↔ ((ex false mem (fun g => cn own g 8) i) = 0 ∨ cn own (i + 1) 8 < cn own (ex false mem (fun g => cn own g 8) i) 8) := ⟨fun q => absurd rfl q, fun q => absurd q (by omega)⟩
            refine j_iconst (v := 0) d_M_extreme_80 (by decide) ?_
            refine j_istore d_M_extreme_81 (by decide) ?_
            -- at 83
            first
              | exact at83 _ _ hv hw
              | (have y := at83 _ _ hv hw
                 rw [xI_p k34] at y
                 exact y)
          · have k73 := i_nle (by omega) (by omega) h73
            have hw : (1 : Int32) ≠ 0 ↔ ((ex false mem (fun g => cn own g 8) i) = 0 ∨ cn own (i + 1) 8 < cn own (ex false mem (fun g => cn own g 8) i) 8) := ⟨fun _ => Or.inr k73, fun _ => by decide⟩
            refine j_iconst (v := 1) d_M_extreme_76 (by decide) ?_
            refine j_goto 81 d_M_extreme_77 (by decide) ?_
            refine j_istore d_M_extreme_81 (by decide) ?_
            -- at 83
            first
              | exact at83 _ _ hv hw
              | (have y := at83 _ _ hv hw
                 rw [xI_p k34] at y
                 exact y)
      refine j_iload d_M_extreme_5 rfl ?_
      refine j_iconst (v := 3) d_M_extreme_7 (by decide) ?_
      refine j_icmp_gt (tgt := 106) d_M_extreme_8 (by decide) (fun h8 => False.elim (absurd (i_lt (a := 3) (by decide) (by omega) h8) (by omega))) (fun h8 => ?_)
      refine j_aload_n d_M_extreme_11 rfl ?_
      refine j_getR d_M_extreme_12 h0 f_M_32_M rfl (by decide) q_members ?_
      refine j_iload_n d_M_extreme_15 rfl ?_
      refine j_iald d_M_extreme_16 t_members (aIx.n (by omega) (by decide)) ?_
      refine j_eqi hM ?_
      refine j_iload d_M_extreme_17 rfl ?_
      refine j_ishr d_M_extreme_19 ?_
      refine j_iconst (v := 1) d_M_extreme_20 (by decide) ?_
      refine j_iand d_M_extreme_21 ?_
      refine j_eqi (mb_bit mem (by omega) (by omega)) ?_
      refine j_iconst (v := 1) d_M_extreme_22 (by decide) ?_
      refine j_icmp_ne (tgt := 30) d_M_extreme_23 (by decide) (fun h23 => ?_) (fun h23 => ?_)
      · have hv : (0 : Int32) ≠ 0 ↔ mem (i + 1) = true := ⟨fun q => absurd rfl q, fun q => absurd (by rw [q]; rfl) h23⟩
        refine j_iconst (v := 0) d_M_extreme_30 (by decide) ?_
        refine j_istore d_M_extreme_31 (by decide) ?_
        -- at 33
        exact at33 _ hv _
      · have hv : (1 : Int32) ≠ 0 ↔ mem (i + 1) = true := ⟨fun _ => bI_n0 (by rw [h23]; decide), fun _ => by decide⟩
        refine j_iconst (v := 1) d_M_extreme_26 (by decide) ?_
        refine j_goto 31 d_M_extreme_27 (by decide) ?_
        refine j_istore d_M_extreme_31 (by decide) ?_
        -- at 33
        exact at33 _ hv _
  refine j_iconst (v := -1) d_M_extreme_0 (by decide) ?_
  refine j_istore_n d_M_extreme_1 (by decide) ?_
  refine j_iconst (v := 1) d_M_extreme_2 (by decide) ?_
  refine j_istore d_M_extreme_3 (by decide) ?_
  -- at 5
  exact loop 3 0 _ _ (by decide)
theorem bal1_lt {mem : Nat → Bool} {own : Nat → Nat} (h : ∀ s, s < 8 → own s < 4) : ∀ s, s < 8 → bal1 mem own s < 4 := by
  intro s hs
  unfold bal1
  split
  · exact h s hs
  · have := ex_le false mem (fun g => cn own g 8) 3
    by_cases e : s = ls own (ex true mem (fun g => cn own g 8) 3) 8
    · rw [e, fu_s]; omega
    · rw [fu_n _ _ e]; exact h s hs
theorem bal_lt {mem : Nat → Bool} {own : Nat → Nat} (h : ∀ s, s < 8 → own s < 4) : ∀ n s, s < 8 → bal mem n own s < 4
  | 0 => h
  | n + 1 => bal1_lt (bal_lt h n)
/-- only row c of the owners has changed -/
def rwO (M M1 : aM) (c : Nat) : Prop := oI M M1 (fun a => a = 341) ∧ ∀ x, ¬ (8 * c ≤ x ∧ x < 8 * c + 8) → mI M1 341 x = mI M 341 x
theorem rwO.rf (M : aM) (c : Nat) : rwO M M c := ⟨oI.rf M _, fun _ _ => rfl⟩
theorem rwO.tr {M M1 M2 : aM} {c : Nat} (h : rwO M M1 c) (g : rwO M1 M2 c) : rwO M M2 c := ⟨h.1.tr g.1, fun x hx => (g.2 x hx).trans (h.2 x hx)⟩
theorem rwO.sI {M M1 : aM} {c s : Nat} {x : Int32} (h : rwO M M1 c) (hs : s < 8) : rwO M (sI M1 341 (8 * c + s) x) c := ⟨h.1.sI rfl, fun y hy => by rw [mm_I_sI, if_neg (by omega)]; exact h.2 y hy⟩
theorem mRow.sI {M : aM} {c s g : Nat} {own : Nat → Nat} (h : mRow M c own) : mRow (sI M 341 (8 * c + s) (nI g)) c (fu own s g) := fun j hj => by
  rw [mm_I_sI]
  by_cases e : j = s
  · rw [if_pos ⟨rfl, by rw [e]⟩, e, fu_s]
  · rw [if_neg (by omega), fu_n _ _ e]; exact h j hj
theorem mRow.eq {M : aM} {c : Nat} {own own' : Nat → Nat} (h : mRow M c own) (e : ∀ s, s < 8 → own s = own' s) : mRow M c own' := fun s hs => (h s hs).trans (by rw [e s hs])

set_option maxRecDepth 20000 in
set_option maxHeartbeats 1000000 in
theorem q_balance (M : aM) (c : Nat) (mem : Nat → Bool) (own : Nat → Nat) (hm : mSh M) (hc : c < 16) (hM : mI M 340 c = nI (mb mem)) (hr : mRow M c own) (hb : ∀ s, s < 8 → own s < 4) (hx : mem 1 = true ∨ mem 2 = true ∨ mem 3 = true) : aK m_M_balance 2 0 0 M [.ref 332, .int (nI c)] (fun M1 r => r = none ∧ mRow M1 c (bal mem 8 own) ∧ rwO M M1 c) := by
  refine aK.of (by decide) (Nat.le_of_ble_eq_true rfl) ?_
  have loop : ∀ (k r : Nat) (M1 : aM) (z3 z4 z5 z6 : Option Value), r + k = 8 → mRow M1 c (bal mem r own) → rwO M M1 c → aJ aX0 m_M_balance 2 0 0 (fun M1 r => r = none ∧ mRow M1 c (bal mem 8 own) ∧ rwO M M1 c) 0 0 2 [some (.ref 332), some (.int (nI c)), some (.int (nI r)), z3, z4, z5, z6] [] M1 := by
    intro k
    induction k with
    | zero =>
      intro r M1 z3 z4 z5 z6 hk h1 o1
      have e8 : r = 8 := by omega
      subst e8
      refine j_iload_n d_M_balance_2 rfl ?_
      refine j_bipush (v := 8) d_M_balance_3 (by decide) ?_
      refine j_icmp_ge (tgt := 108) d_M_balance_5 (by decide) (fun h5 => ?_) (fun h5 => False.elim (h5 (nI_le (by decide) (by decide))))
      refine j_return d_M_balance_108 rfl ⟨rfl, h1, o1⟩ (by decide) (by decide)
    | succ k ih =>
      intro r M1 z3 z4 z5 z6 hk h1 o1
      have hb1 := bal_lt (mem := mem) hb r
      have ihB : ∀ (M2 : aM) (z3 z4 z5 z6 : Option Value), mRow M2 c (bal1 mem (bal mem r own)) → rwO M M2 c → aJ aX0 m_M_balance 2 0 0 (fun M1 r => r = none ∧ mRow M1 c (bal mem 8 own) ∧ rwO M M1 c) 0 0 2 [some (.ref 332), some (.int (nI c)), some (.int (nI (r + 1))), z3, z4, z5, z6] [] M2 := fun M2 z3 z4 z5 z6 h2 o2 => ih (r + 1) M2 z3 z4 z5 z6 (by omega) h2 o2
      generalize bal mem r own = own1 at h1 hb1 ihB
      have hM1 : mI M1 340 c = nI (mb mem) := (o1.1.2.2 340 (by decide) c).trans hM
      have hm1 := o1.1.mSh hm
      obtain ⟨⟨rich, er, r1, r3, -, -⟩, ⟨poor, ep, p1, p3, -, -⟩⟩ := ex_facts mem (fun g => cn own1 g 8) hx
      have c1 := cn_le own1 rich 8
      have c2 := cn_le own1 poor 8
      have hB1 : bal1 mem own1 = if cn own1 rich 8 < cn own1 poor 8 + 2 then own1 else fu own1 (ls own1 rich 8) poor := by unfold bal1; rw [er, ep]
      have at102 : ∀ (M2 : aM) (z3 z4 z5 z6 : Option Value), mRow M2 c (bal1 mem own1) → rwO M1 M2 c → aJ aX0 m_M_balance 2 0 0 (fun M1 r => r = none ∧ mRow M1 c (bal mem 8 own) ∧ rwO M M1 c) 0 0 102 [some (.ref 332), some (.int (nI c)), some (.int (nI r)), z3, z4, z5, z6] [] M2 := by
        intro M2 z3 z4 z5 z6 h2 o2
        refine j_iinc (nI (r + 1)) d_M_balance_102 rfl (nI_inc r) (by decide) ?_
        refine j_goto 2 d_M_balance_105 (by decide) ?_
        -- at 2
        exact ihB M2 _ _ _ _ h2 (o1.tr o2)
      have evn : ∀ (M2 : aM) (ev s : Int32), ev ≠ 0 → mRow M2 c (bal1 mem own1) → rwO M1 M2 c → aJ aX0 m_M_balance 2 0 0 (fun M1 r => r = none ∧ mRow M1 c (bal mem 8 own) ∧ rwO M M1 c) 0 0 51 [some (.ref 332), some (.int (nI c)), some (.int (nI r)), some (.int (nI rich)), some (.int (nI poor)), some (.int ev), some (.int s)] [] M2 := by
        intro M2 ev s hev h2 o2
        refine j_iload d_M_balance_51 rfl ?_
        refine j_bipush (v := 8) d_M_balance_53 (by decide) ?_
        refine j_icmp_ge (tgt := 102) d_M_balance_55 (by decide) (fun h55 => ?_) (fun h55 => ?_)
        · exact at102 M2 _ _ _ _ h2 o2
        · refine j_iload d_M_balance_58 rfl ?_
          refine j_if_ne (tgt := 102) d_M_balance_60 (by decide) (fun h60 => ?_) (fun h60 => False.elim (hev h60))
          -- at 102
          exact at102 M2 _ _ _ _ h2 o2
      have inner : ¬ (cn own1 rich 8 < cn own1 poor 8 + 2) → ∀ (j i : Nat), i + j = 8 → (∀ x, x < i → own1 x ≠ rich) → aJ aX0 m_M_balance 2 0 0 (fun M1 r => r = none ∧ mRow M1 c (bal mem 8 own) ∧ rwO M M1 c) 0 0 51 [some (.ref 332), some (.int (nI c)), some (.int (nI r)), some (.int (nI rich)), some (.int (nI poor)), some (.int 0), some (.int (nI i))] [] M1 := by
        intro hne j
        induction j with
        | zero =>
          intro i hij hx9
          have e8 : i = 8 := by omega
          subst e8
          refine j_iload d_M_balance_51 rfl ?_
          refine j_bipush (v := 8) d_M_balance_53 (by decide) ?_
          refine j_icmp_ge (tgt := 102) d_M_balance_55 (by decide) (fun h55 => ?_) (fun h55 => False.elim (h55 (nI_le (by decide) (by decide))))
          -- at 102
          refine at102 M1 _ _ _ _ (h1.eq (fun s hs => ?_)) (rwO.rf _ _)
          rw [hB1, if_neg hne, ls_none 8 hx9, fu_n _ _ (by omega)]
        | succ j ih9 =>
          intro i hij hx9
          have hbi := hb1 i (by omega)
          obtain ⟨h0, q_off, t_off, q_leads, t_leads, q_term, t_term, q_length, t_length, q_known, t_known, q_logs, t_logs, q_entry, t_entry, q_members, t_members, q_owners, t_owners, q_owner, t_owner, q_condition, t_condition, q_held, t_held⟩ := hm1
          refine j_iload d_M_balance_51 rfl ?_
          refine j_bipush (v := 8) d_M_balance_53 (by decide) ?_
          refine j_icmp_ge (tgt := 102) d_M_balance_55 (by decide) (fun h55 => False.elim (nI_ge (b := 8) (by omega) (by decide) h55)) (fun h55 => ?_)
          refine j_iload d_M_balance_58 rfl ?_
          refine j_if_ne (tgt := 102) d_M_balance_60 (by decide) (fun h60 => False.elim (h60 rfl)) (fun h60 => ?_)
          refine j_aload_n d_M_balance_63 rfl ?_
          refine j_getR d_M_balance_64 h0 f_M_35_M rfl (by decide) q_owners ?_
          refine j_bipush (v := 8) d_M_balance_67 (by decide) ?_
          refine j_iload_n d_M_balance_69 rfl ?_
          refine j_imul d_M_balance_70 ?_
          refine j_iload d_M_balance_71 rfl ?_
          refine j_iadd d_M_balance_73 ?_
          refine j_eqi (i8 c i) ?_
          refine j_iald d_M_balance_74 t_owners (aIx.n (by omega) (by decide)) ?_
          refine j_eqi (h1 i (by omega)) ?_
          refine j_iload_n d_M_balance_75 rfl ?_
          refine j_icmp_ne (tgt := 96) d_M_balance_76 (by decide) (fun h76 => ?_) (fun h76 => ?_)
          · have k76 := i_ne (by omega) (by omega) h76
            refine j_iinc (nI (i + 1)) d_M_balance_96 rfl (nI_inc i) (by decide) ?_
            refine j_goto 51 d_M_balance_99 (by decide) ?_
            -- at 51
            first
              | exact ih9 (i + 1) (by omega) (fun x hx8 => by
                  by_cases z : x = i
                  · rw [z]; exact k76
                  · exact hx9 x (by omega))
              | exact evn _ _ _ (by decide) (h1.sI.eq (fun s hs => by rw [hB1, if_neg hne, ls_at hx9 k76 8 (by omega)])) ((rwO.rf M1 c).sI (by omega))
          · have k76 := i_eq (by omega) (by omega) h76
            refine j_aload_n d_M_balance_79 rfl ?_
            refine j_getR d_M_balance_80 h0 f_M_35_M rfl (by decide) q_owners ?_
            refine j_bipush (v := 8) d_M_balance_83 (by decide) ?_
            refine j_iload_n d_M_balance_85 rfl ?_
            refine j_imul d_M_balance_86 ?_
            refine j_iload d_M_balance_87 rfl ?_
            refine j_iadd d_M_balance_89 ?_
            refine j_eqi (i8 c i) ?_
            refine j_iload d_M_balance_90 rfl ?_
            refine j_iast d_M_balance_92 t_owners (aIx.n (by omega) (by decide)) ?_
            refine j_iconst (v := 1) d_M_balance_93 (by decide) ?_
            refine j_istore d_M_balance_94 (by decide) ?_
            refine j_iinc (nI (i + 1)) d_M_balance_96 rfl (nI_inc i) (by decide) ?_
            refine j_goto 51 d_M_balance_99 (by decide) ?_
            -- at 51
            first
              | exact ih9 (i + 1) (by omega) (fun x hx8 => by
                  by_cases z : x = i
                  · rw [z]; exact k76
                  · exact hx9 x (by omega))
              | exact evn _ _ _ (by decide) (h1.sI.eq (fun s hs => by rw [hB1, if_neg hne, ls_at hx9 k76 8 (by omega)])) ((rwO.rf M1 c).sI (by omega))
      have hmm1 := hm1
      obtain ⟨h0, q_off, t_off, q_leads, t_leads, q_term, t_term, q_length, t_length, q_known, t_known, q_logs, t_logs, q_entry, t_entry, q_members, t_members, q_owners, t_owners, q_owner, t_owner, q_condition, t_condition, q_held, t_held⟩ := hmm1
      refine j_iload_n d_M_balance_2 rfl ?_
      refine j_bipush (v := 8) d_M_balance_3 (by decide) ?_
      refine j_icmp_ge (tgt := 108) d_M_balance_5 (by decide) (fun h5 => False.elim (nI_ge (b := 8) (by omega) (by decide) h5)) (fun h5 => ?_)
      refine j_aload_n d_M_balance_8 rfl ?_
      refine j_iload_n d_M_balance_9 rfl ?_
      refine j_iconst (v := 1) d_M_balance_10 (by decide) ?_
      refine j_callV (vs := [_, _]) d_M_balance_11 h0 (by decide) rfl w766 w768 w7 w769 ws_M_extreme y_M_extreme (by decide) (by decide) (q_extreme_true M1 c mem own1 hm1 hc hM1 h1 hb1) rfl (Nat.le_of_ble_eq_true rfl) (by decide) (by decide) (fun M2 r2 hq2 => ?_)
      obtain ⟨rfl, rfl⟩ := hq2
      rw [er, xI_p (by omega)]
      refine j_istore_n d_M_balance_14 (by decide) ?_
      refine j_aload_n d_M_balance_15 rfl ?_
      refine j_iload_n d_M_balance_16 rfl ?_
      refine j_iconst (v := 0) d_M_balance_17 (by decide) ?_
      refine j_callV (vs := [_, _]) d_M_balance_18 h0 (by decide) rfl w766 w768 w7 w769 ws_M_extreme y_M_extreme (by decide) (by decide) (q_extreme_false M2 c mem own1 hm1 hc hM1 h1 hb1) rfl (Nat.le_of_ble_eq_true rfl) (by decide) (by decide) (fun M3 r3_ hq3 => ?_)
      obtain ⟨rfl, rfl⟩ := hq3
      rw [ep, xI_p (by omega)]
      refine j_istore d_M_balance_21 (by decide) ?_
      refine j_aload_n d_M_balance_23 rfl ?_
      refine j_iload_n d_M_balance_24 rfl ?_
      refine j_iload_n d_M_balance_25 rfl ?_
      refine j_callV (vs := [_, _]) d_M_balance_26 h0 (by decide) rfl w770 w772 w7 w773 ws_M_owned y_M_owned (by decide) (by decide) (q_owned M3 c rich own1 hm1 hc h1 hb1 (by omega)) rfl (Nat.le_of_ble_eq_true rfl) (by decide) (by decide) (fun M4 r4 hq4 => ?_)
      obtain ⟨rfl, rfl⟩ := hq4
      refine j_aload_n d_M_balance_29 rfl ?_
      refine j_iload_n d_M_balance_30 rfl ?_
      refine j_iload d_M_balance_31 rfl ?_
      refine j_callV (vs := [_, _]) d_M_balance_33 h0 (by decide) rfl w770 w772 w7 w773 ws_M_owned y_M_owned (by decide) (by decide) (q_owned M4 c poor own1 hm1 hc h1 hb1 (by omega)) rfl (Nat.le_of_ble_eq_true rfl) (by decide) (by decide) (fun M5 r5 hq5 => ?_)
      obtain ⟨rfl, rfl⟩ := hq5
      refine j_iconst (v := 2) d_M_balance_36 (by decide) ?_
      refine j_iadd d_M_balance_37 ?_
      refine j_eqi (nI_add (cn own1 poor 8) 2) ?_
      refine j_icmp_ge (tgt := 45) d_M_balance_38 (by decide) (fun h38 => ?_) (fun h38 => ?_)
      · have k38 := i_le (by omega) (by omega) h38
        refine j_iconst (v := 0) d_M_balance_45 (by decide) ?_
        refine j_istore d_M_balance_46 (by decide) ?_
        refine j_iconst (v := 0) d_M_balance_48 (by decide) ?_
        refine j_istore d_M_balance_49 (by decide) ?_
        -- at 51
        first
          | exact inner (by omega) 8 0 (by decide) (fun x hx9 => absurd hx9 (Nat.not_lt_zero x))
          | exact evn _ _ _ (by decide) (h1.eq (fun s hs => by rw [hB1, if_pos k38])) (rwO.rf _ _)
      · have k38 := i_nle (by omega) (by omega) h38
        refine j_iconst (v := 1) d_M_balance_41 (by decide) ?_
        refine j_goto 46 d_M_balance_42 (by decide) ?_
        refine j_istore d_M_balance_46 (by decide) ?_
        refine j_iconst (v := 0) d_M_balance_48 (by decide) ?_
        refine j_istore d_M_balance_49 (by decide) ?_
        -- at 51
        first
          | exact inner (by omega) 8 0 (by decide) (fun x hx9 => absurd hx9 (Nat.not_lt_zero x))
          | exact evn _ _ _ (by decide) (h1.eq (fun s hs => by rw [hB1, if_pos k38])) (rwO.rf _ _)
  refine j_iconst (v := 0) d_M_balance_0 (by decide) ?_
  refine j_istore_n d_M_balance_1 (by decide) ?_
  -- at 2
  exact loop 8 0 M _ _ _ _ (by decide) hr (rwO.rf M c)
