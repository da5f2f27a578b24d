def vcl (a : Nat) : Prop := a = 332 ∨ a = 340 ∨ a = 341
theorem vcl_s (a : Nat) (h : vcl a) : scr a := by unfold vcl at h; unfold scr; omega
theorem mb_lt (mem : Nat → Bool) : mb mem < 16 := by
  unfold mb
  cases mem 1 <;> cases mem 2 <;> cases mem 3 <;> decide
theorem mb_one {mem : Nat → Bool} {a : Nat} (h1 : 1 ≤ a) (h3 : a ≤ 3) (hm : mem a = true) : nI (mb mem) = 1 <<< (nI a &&& 31) ↔ ¬ 1 < nM mem := by
  unfold mb nM
  rcases (by omega : a = 1 ∨ a = 2 ∨ a = 3) with rfl | rfl | rfl <;> rw [hm]
  · cases mem 2 <;> cases mem 3 <;> decide
  · cases mem 1 <;> cases mem 3 <;> decide
  · cases mem 1 <;> cases mem 2 <;> decide
theorem mb_zero {mem : Nat → Bool} : nI (mb mem) = 0 ↔ nM mem = 0 := by
  unfold mb nM
  cases mem 1 <;> cases mem 2 <;> cases mem 3 <;> decide
theorem mb_or {mem : Nat → Bool} {a : Nat} (h1 : 1 ≤ a) (h3 : a ≤ 3) : nI (mb mem) ||| (1 <<< (nI a &&& 31)) = nI (mb (fu mem a true)) := by
  unfold mb fu
  rcases (by omega : a = 1 ∨ a = 2 ∨ a = 3) with rfl | rfl | rfl <;> cases mem 1 <;> cases mem 2 <;> cases mem 3 <;> decide
theorem mb_sub {mem : Nat → Bool} {a : Nat} (h1 : 1 ≤ a) (h3 : a ≤ 3) (hm : mem a = true) : nI (mb mem) - (1 <<< (nI a &&& 31)) = nI (mb (fu mem a false)) := by
  unfold mb fu
  rcases (by omega : a = 1 ∨ a = 2 ∨ a = 3) with rfl | rfl | rfl <;> rw [hm]
  · cases mem 2 <;> cases mem 3 <;> decide
  · cases mem 1 <;> cases mem 3 <;> decide
  · cases mem 1 <;> cases mem 2 <;> decide
theorem fu_any {mem : Nat → Bool} {a : Nat} (h1 : 1 ≤ a) (h3 : a ≤ 3) : fu mem a true 1 = true ∨ fu mem a true 2 = true ∨ fu mem a true 3 = true := by
  rcases (by omega : a = 1 ∨ a = 2 ∨ a = 3) with rfl | rfl | rfl
  · exact Or.inl (fu_s _ _ _)
  · exact Or.inr (Or.inl (fu_s _ _ _))
  · exact Or.inr (Or.inr (fu_s _ _ _))
theorem fu_left {mem : Nat → Bool} {a : Nat} (h1 : 1 ≤ a) (h3 : a ≤ 3) (hm : mem a = true) (hn : 1 < nM mem) : fu mem a false 1 = true ∨ fu mem a false 2 = true ∨ fu mem a false 3 = true := by
  unfold nM at hn
  unfold fu
  rcases (by omega : a = 1 ∨ a = 2 ∨ a = 3) with rfl | rfl | rfl <;> rw [hm] at hn <;> clear hm <;> revert hn <;> generalize mem 1 = x <;> generalize mem 2 = y <;> generalize mem 3 = z <;> revert x y z <;> decide
theorem lvq_lt {mem : Nat → Bool} {a : Nat} {own : Nat → Nat} (h : ∀ s, s < 8 → own s < 4) : ∀ n s, s < 8 → lv mem a n own s < 4
  | 0 => h
  | n + 1 => fun s hs => by
    have := ex_le false mem (fun g => cn (lv mem a n own) g 8) 3
    show (if lv mem a n own n = a then fu (lv mem a n own) n (ex false mem (fun g => cn (lv mem a n own) g 8) 3) else lv mem a n own) s < 4
    split
    · by_cases e : s = n
      · rw [e, fu_s]; omega
      · rw [fu_n _ _ e]; exact lvq_lt h n s hs
    · exact lvq_lt h n s hs
theorem i8m {c : Nat} (s : Nat) (h : 1 ≤ c) : (8 : Int32) * nI c - 8 + nI s = nI (8 * (c - 1) + s) := by
  rw [show (8 : Int32) * nI c = nI (8 * c) from pk_mul 8 c, show nI (8 * c) - 8 = nI (8 * c - 8) from pk_sub (b := 8) (by omega), nI_add]
  congr 1
  omega
theorem mSv_add {M M3 : aM} {V : aSv} {f : aCf} (hV : mSv M V) (o : rwO (sI (sI M 332 7 (nI (V.1 + 1))) 340 V.1 (nI (mb f.1))) M3 V.1) (r : mRow M3 V.1 f.2) : mSv M3 (V.1 + 1, fu V.2 V.1 f) ∧ oI M M3 vcl ∧ mI M3 332 10 = mI M 332 10 := by
  have o1 : oI M M3 vcl := (((oI.rf M vcl).sI (Or.inl rfl)).sI (Or.inr (Or.inl rfl))).tr (o.1.mono (fun a ha => Or.inr (Or.inr ha)))
  refine ⟨⟨(o.1.2.2 332 (by decide) 7).trans (by rw [mm_I_sI, if_neg (by omega), mm_I_sI, if_pos ⟨rfl, rfl⟩]), fun c hc => ?_⟩, o1, (o.1.2.2 332 (by decide) 10).trans (by rw [mm_I_sI, if_neg (by omega), mm_I_sI, if_neg (by omega)])⟩
  have hc' : c < V.1 + 1 := hc
  have e3 : mI M3 340 c = if c = V.1 then nI (mb f.1) else mI M 340 c := (o.1.2.2 340 (by decide) c).trans (by
    rw [mm_I_sI]
    by_cases z : c = V.1
    · rw [if_pos ⟨rfl, z⟩, if_pos z]
    · rw [if_neg (fun y => z y.2), if_neg z, mm_I_sI, if_neg (by omega)])
  show mCf M3 c (fu V.2 V.1 f c)
  by_cases e : c = V.1
  · subst e; rw [fu_s]; rw [if_pos rfl] at e3; exact ⟨e3, r⟩
  · rw [fu_n _ _ e]; rw [if_neg e] at e3
    obtain ⟨x1, x2⟩ := hV.2 c (by omega)
    refine ⟨e3.trans x1, fun s hs => ?_⟩
    rw [o.2 _ (by omega), mm_I_sI, if_neg (by omega), mm_I_sI, if_neg (by omega)]
    exact x2 s hs
theorem svS_no {V : aSv} {E : Nat → Nat} (h : ¬ svOk V E = true) : svStep V E = V := if_neg h
theorem svS_1 {V : aSv} {E : Nat → Nat} (e : E 1 = 1) (h : V.1 < 16) (hm : (V.2 (V.1 - 1)).1 (E 2) = false) : svStep V E = (V.1 + 1, fu V.2 V.1 (cfJ (V.2 (V.1 - 1)) (E 2))) := by
  have ok : svOk V E = true := by unfold svOk; rw [e, decide_eq_true (by omega), decide_eq_true h, if_pos rfl, hm]; rfl
  unfold svStep
  rw [if_pos ok]
  unfold cfStep
  rw [if_pos e]
theorem svS_2 {V : aSv} {E : Nat → Nat} (e : E 1 = 2) (h : V.1 < 16) (hm : (V.2 (V.1 - 1)).1 (E 2) = true) (hn : 1 < nM (V.2 (V.1 - 1)).1) : svStep V E = (V.1 + 1, fu V.2 V.1 (cfL (V.2 (V.1 - 1)) (E 2))) := by
  have ok : svOk V E = true := by unfold svOk; rw [e, decide_eq_true (by omega), decide_eq_true h, if_neg (by omega), if_pos rfl, hm, decide_eq_true hn]; rfl
  unfold svStep
  rw [if_pos ok]
  unfold cfStep
  rw [if_neg (by omega), if_pos e]
theorem svS_3 {V : aSv} {E : Nat → Nat} (e : E 1 = 3) (h : V.1 < 16) (hm : (V.2 (V.1 - 1)).1 (E 3) = true) : svStep V E = (V.1 + 1, fu V.2 V.1 (cfM (V.2 (V.1 - 1)) (E 2) (E 3))) := by
  have ok : svOk V E = true := by unfold svOk; rw [e, decide_eq_true (by omega), decide_eq_true h, if_neg (by omega), if_neg (by omega), hm]; rfl
  unfold svStep
  rw [if_pos ok]
  unfold cfStep
  rw [if_neg (by omega), if_neg (by omega)]
theorem svS_n {V : aSv} {E : Nat → Nat} (h : 16 ≤ V.1 ∨ (E 1 = 1 ∧ (V.2 (V.1 - 1)).1 (E 2) = true) ∨ (E 1 = 2 ∧ ¬ ((V.2 (V.1 - 1)).1 (E 2) = true ∧ 1 < nM (V.2 (V.1 - 1)).1)) ∨ (E 1 = 3 ∧ (V.2 (V.1 - 1)).1 (E 3) = false) ∨ E 1 = 0 ∨ 4 ≤ E 1) : svStep V E = V := by
  refine svS_no (fun ok => ?_)
  unfold svOk at ok
  simp only [Bool.and_eq_true, decide_eq_true_eq] at ok
  obtain ⟨⟨o1, o2⟩, o3⟩ := ok
  rcases h with h | ⟨h, g⟩ | ⟨h, g⟩ | ⟨h, g⟩ | h | h
  · omega
  · rw [if_pos h, g] at o3; exact absurd o3 (by decide)
  · rw [if_neg (by omega), if_pos h] at o3
    simp only [Bool.and_eq_true, decide_eq_true_eq] at o3
    exact g o3
  · rw [if_neg (by omega), if_neg (by omega), g] at o3; exact absurd o3 (by decide)
  · omega
  · omega

set_option maxRecDepth 20000 in
set_option maxHeartbeats 1000000 in
theorem q_alter_n1 (M : aM) (V : aSv) (E : Nat → Nat) (hm : mSh M) (hV : mSv M V) (vV : svV V) (e1 : E 1 = 1) (a1 : 1 ≤ E 2) (a3 : E 2 ≤ 3) (hno : V.1 = 16 ∨ ¬ (V.2 (V.1 - 1)).1 (E 2) = false) : aK m_M_alter 3 0 0 M [.ref 332, .int 1, .int (nI (E 2)), .int (nI (E 3))] (fun M1 r => r = none ∧ M1 = M) := by
  refine aK.of (by decide) (Nat.le_of_ble_eq_true rfl) ?_
  have hmm := hm
  obtain ⟨s1, s16, s3⟩ := vV
  obtain ⟨x1, x2⟩ := hV.2 (V.1 - 1) (by omega)
  have cv := s3 (V.1 - 1) (by omega)
  obtain ⟨h0, q_off, t_off, q_leads, t_leads, q_term, t_term, q_length, t_length, q_known, t_known, q_logs, t_logs, q_entry, t_entry, q_members, t_members, q_owners, t_owners, q_owner, t_owner, q_condition, t_condition, q_held, t_held⟩ := hm
  refine j_aload_n d_M_alter_0 rfl ?_
  refine j_geti d_M_alter_1 h0 f_M_83_M rfl (by decide) ?_
  refine j_eqi hV.1 ?_
  refine j_istore d_M_alter_4 (by decide) ?_
  refine j_aload_n d_M_alter_6 rfl ?_
  refine j_getR d_M_alter_7 h0 f_M_32_M rfl (by decide) q_members ?_
  refine j_iload d_M_alter_10 rfl ?_
  refine j_iconst (v := 1) d_M_alter_12 (by decide) ?_
  refine j_isub d_M_alter_13 ?_
  refine j_eqi (pk_sub (b := 1) s1) ?_
  refine j_iald d_M_alter_14 t_members (aIx.n (by omega) (by decide)) ?_
  refine j_eqi x1 ?_
  refine j_istore d_M_alter_15 (by decide) ?_
  refine j_iload d_M_alter_17 rfl ?_
  refine j_iload_n d_M_alter_19 rfl ?_
  refine j_iconst (v := 3) d_M_alter_20 (by decide) ?_
  refine j_icmp_ne (tgt := 28) d_M_alter_21 (by decide) (fun h21 => ?_) (fun h21 => False.elim (absurd h21 (by decide)))
  refine j_iload_n d_M_alter_28 rfl ?_
  refine j_ishr d_M_alter_29 ?_
  refine j_iconst (v := 1) d_M_alter_30 (by decide) ?_
  refine j_iand d_M_alter_31 ?_
  refine j_eqi (mb_bit _ a1 a3) ?_
  refine j_iconst (v := 1) d_M_alter_32 (by decide) ?_
  refine j_icmp_ne (tgt := 40) d_M_alter_33 (by decide) (fun h33 => ?_) (fun h33 => ?_)
  · have k33 : (V.2 (V.1 - 1)).1 (E 2) = false := by cases q : (V.2 (V.1 - 1)).1 (E 2); rfl; rw [q] at h33; exact absurd rfl h33
    refine j_iconst (v := 0) d_M_alter_40 (by decide) ?_
    refine j_istore d_M_alter_41 (by decide) ?_
    refine j_iload_n d_M_alter_43 rfl ?_
    refine j_iconst (v := 1) d_M_alter_44 (by decide) ?_
    refine j_icmp_ne (tgt := 61) d_M_alter_45 (by decide) (fun h45 => False.elim (h45 rfl)) (fun h45 => ?_)
    refine j_iload d_M_alter_48 rfl ?_
    refine j_if_ne (tgt := 57) d_M_alter_50 (by decide) (fun h50 => ?_) (fun h50 => ?_)
    · refine j_iconst (v := 0) d_M_alter_57 (by decide) ?_
      refine j_goto 89 d_M_alter_58 (by decide) ?_
      refine j_istore d_M_alter_89 (by decide) ?_
      refine j_iload d_M_alter_91 rfl ?_
      refine j_bipush (v := 16) d_M_alter_93 (by decide) ?_
      refine j_icmp_eq (tgt := 103) d_M_alter_95 (by decide) (fun h95 => ?_) (fun h95 => ?_)
      · refine j_return d_M_alter_103 rfl ⟨rfl, rfl⟩ (by decide) (by decide)
      · have k95 := i_ne (b := 16) (by omega) (by decide) h95
        refine j_iload d_M_alter_98 rfl ?_
        refine j_if_ne (tgt := 104) d_M_alter_100 (by decide) (fun h100 => ?_) (fun h100 => ?_)
        · first
            | exact absurd rfl h100
            | exact absurd rfl h50
            | exact absurd h50 (by decide)
            | exact absurd k33 (hno.resolve_left k95)
        · refine j_return d_M_alter_103 rfl ⟨rfl, rfl⟩ (by decide) (by decide)
    · refine j_iconst (v := 1) d_M_alter_53 (by decide) ?_
      refine j_goto 89 d_M_alter_54 (by decide) ?_
      refine j_istore d_M_alter_89 (by decide) ?_
      refine j_iload d_M_alter_91 rfl ?_
      refine j_bipush (v := 16) d_M_alter_93 (by decide) ?_
      refine j_icmp_eq (tgt := 103) d_M_alter_95 (by decide) (fun h95 => ?_) (fun h95 => ?_)
      · refine j_return d_M_alter_103 rfl ⟨rfl, rfl⟩ (by decide) (by decide)
      · have k95 := i_ne (b := 16) (by omega) (by decide) h95
        refine j_iload d_M_alter_98 rfl ?_
        refine j_if_ne (tgt := 104) d_M_alter_100 (by decide) (fun h100 => ?_) (fun h100 => ?_)
        · first
            | exact absurd rfl h100
            | exact absurd rfl h50
            | exact absurd h50 (by decide)
            | exact absurd k33 (hno.resolve_left k95)
        · refine j_return d_M_alter_103 rfl ⟨rfl, rfl⟩ (by decide) (by decide)
  · have k33 : (V.2 (V.1 - 1)).1 (E 2) = true := bI_n0 (by rw [h33]; decide)
    refine j_iconst (v := 1) d_M_alter_36 (by decide) ?_
    refine j_goto 41 d_M_alter_37 (by decide) ?_
    refine j_istore d_M_alter_41 (by decide) ?_
    refine j_iload_n d_M_alter_43 rfl ?_
    refine j_iconst (v := 1) d_M_alter_44 (by decide) ?_
    refine j_icmp_ne (tgt := 61) d_M_alter_45 (by decide) (fun h45 => False.elim (h45 rfl)) (fun h45 => ?_)
    refine j_iload d_M_alter_48 rfl ?_
    refine j_if_ne (tgt := 57) d_M_alter_50 (by decide) (fun h50 => ?_) (fun h50 => ?_)
    · refine j_iconst (v := 0) d_M_alter_57 (by decide) ?_
      refine j_goto 89 d_M_alter_58 (by decide) ?_
      refine j_istore d_M_alter_89 (by decide) ?_
      refine j_iload d_M_alter_91 rfl ?_
      refine j_bipush (v := 16) d_M_alter_93 (by decide) ?_
      refine j_icmp_eq (tgt := 103) d_M_alter_95 (by decide) (fun h95 => ?_) (fun h95 => ?_)
      · refine j_return d_M_alter_103 rfl ⟨rfl, rfl⟩ (by decide) (by decide)
      · have k95 := i_ne (b := 16) (by omega) (by decide) h95
        refine j_iload d_M_alter_98 rfl ?_
        refine j_if_ne (tgt := 104) d_M_alter_100 (by decide) (fun h100 => ?_) (fun h100 => ?_)
        · first
            | exact absurd rfl h100
            | exact absurd rfl h50
            | exact absurd h50 (by decide)
            | exact absurd k33 (hno.resolve_left k95)
        · refine j_return d_M_alter_103 rfl ⟨rfl, rfl⟩ (by decide) (by decide)
    · refine j_iconst (v := 1) d_M_alter_53 (by decide) ?_
      refine j_goto 89 d_M_alter_54 (by decide) ?_
      refine j_istore d_M_alter_89 (by decide) ?_
      refine j_iload d_M_alter_91 rfl ?_
      refine j_bipush (v := 16) d_M_alter_93 (by decide) ?_
      refine j_icmp_eq (tgt := 103) d_M_alter_95 (by decide) (fun h95 => ?_) (fun h95 => ?_)
      · refine j_return d_M_alter_103 rfl ⟨rfl, rfl⟩ (by decide) (by decide)
      · have k95 := i_ne (b := 16) (by omega) (by decide) h95
        refine j_iload d_M_alter_98 rfl ?_
        refine j_if_ne (tgt := 104) d_M_alter_100 (by decide) (fun h100 => ?_) (fun h100 => ?_)
        · first
            | exact absurd rfl h100
            | exact absurd rfl h50
            | exact absurd h50 (by decide)
            | exact absurd k33 (hno.resolve_left k95)
        · refine j_return d_M_alter_103 rfl ⟨rfl, rfl⟩ (by decide) (by decide)
set_option maxRecDepth 20000 in
set_option maxHeartbeats 1000000 in
theorem q_alter_1 (M : aM) (V : aSv) (E : Nat → Nat) (hm : mSh M) (hV : mSv M V) (vV : svV V) (e1 : E 1 = 1) (a1 : 1 ≤ E 2) (a3 : E 2 ≤ 3) (hlt : V.1 < 16) (hf : (V.2 (V.1 - 1)).1 (E 2) = false) : aK m_M_alter 3 0 0 M [.ref 332, .int 1, .int (nI (E 2)), .int (nI (E 3))] (fun M1 r => r = none ∧ mSv M1 (svStep V E) ∧ oI M M1 vcl ∧ mI M1 332 10 = mI M 332 10) := by
  refine aK.of (by decide) (Nat.le_of_ble_eq_true rfl) ?_
  have hmm := hm
  obtain ⟨s1, s16, s3⟩ := vV
  obtain ⟨x1, x2⟩ := hV.2 (V.1 - 1) (by omega)
  have cv := s3 (V.1 - 1) (by omega)
  have hb : ∀ s, s < 8 → (V.2 (V.1 - 1)).2 s < 4 := fun s hs => cv.lt hs
  rw [svS_1 e1 hlt hf]
  have sh : ∀ M1, rwO (sI (sI M 332 7 (nI (V.1 + 1))) 340 V.1 (nI (mb (fu (V.2 (V.1 - 1)).1 (E 2) true)))) M1 V.1 → mSh M1 := fun M1 o => o.1.mSh (mSh_sI (mSh_sI hm))
  have cM : ∀ M1, rwO (sI (sI M 332 7 (nI (V.1 + 1))) 340 V.1 (nI (mb (fu (V.2 (V.1 - 1)).1 (E 2) true)))) M1 V.1 → mI M1 340 V.1 = nI (mb (fu (V.2 (V.1 - 1)).1 (E 2) true)) := fun M1 o => (o.1.2.2 340 (by decide) V.1).trans (by rw [mm_I_sI, if_pos ⟨rfl, rfl⟩])
  have at297 : ∀ (M1 : aM) (z : Option Value), rwO (sI (sI M 332 7 (nI (V.1 + 1))) 340 V.1 (nI (mb (fu (V.2 (V.1 - 1)).1 (E 2) true)))) M1 V.1 → mRow M1 V.1 (if nM (V.2 (V.1 - 1)).1 = 0 then fun _ => E 2 else (V.2 (V.1 - 1)).2) → aJ aX0 m_M_alter 3 0 0 (fun M1 r => r = none ∧ mSv M1 (V.1 + 1, fu V.2 V.1 (cfJ (V.2 (V.1 - 1)) (E 2))) ∧ oI M M1 vcl ∧ mI M1 332 10 = mI M 332 10) 0 0 297 [some (.ref 332), some (.int 1), some (.int (nI (E 2))), some (.int (nI (E 3))), some (.int (nI V.1)), some (.int (nI (mb (V.2 (V.1 - 1)).1))), some (.int 0), some (.int 1), z] [] M1 := by
    intro M1 z o r
    obtain ⟨h0, q_off, t_off, q_leads, t_leads, q_term, t_term, q_length, t_length, q_known, t_known, q_logs, t_logs, q_entry, t_entry, q_members, t_members, q_owners, t_owners, q_owner, t_owner, q_condition, t_condition, q_held, t_held⟩ := sh M1 o
    refine j_aload_n d_M_alter_297 rfl ?_
    refine j_iload d_M_alter_298 rfl ?_
    refine j_callV (vs := [_]) d_M_alter_300 h0 (by decide) rfl w774 w776 w7 w777 ws_M_balance y_M_balance (by decide) (by decide) (q_balance M1 V.1 (fu (V.2 (V.1 - 1)).1 (E 2) true) (if nM (V.2 (V.1 - 1)).1 = 0 then fun _ => E 2 else (V.2 (V.1 - 1)).2) (sh M1 o) hlt (cM M1 o) r (fun s hs => by
        by_cases q : nM (V.2 (V.1 - 1)).1 = 0
        · rw [if_pos q]; omega
        · rw [if_neg q]; exact hb s hs) (fu_any a1 a3)) rfl (Nat.le_of_ble_eq_true rfl) (by decide) (by decide) (fun M3 r3 hq3 => ?_)
    obtain ⟨rfl, r3, o3⟩ := hq3
    refine j_return d_M_alter_303 rfl ?_ (by decide) (by decide)
    exact ⟨rfl, mSv_add hV (f := cfJ (V.2 (V.1 - 1)) (E 2)) (o.tr o3) (by dsimp only [cfJ]; exact r3)⟩
  have lp : ∀ (j i : Nat) (M1 : aM), i + j = 8 → rwO (sI (sI M 332 7 (nI (V.1 + 1))) 340 V.1 (nI (mb (fu (V.2 (V.1 - 1)).1 (E 2) true)))) M1 V.1 → mRow M1 V.1 (fun s => if s < i then (if nM (V.2 (V.1 - 1)).1 = 0 then fun _ => E 2 else (V.2 (V.1 - 1)).2) s else (V.2 (V.1 - 1)).2 s) → aJ aX0 m_M_alter 3 0 0 (fun M1 r => r = none ∧ mSv M1 (V.1 + 1, fu V.2 V.1 (cfJ (V.2 (V.1 - 1)) (E 2))) ∧ oI M M1 vcl ∧ mI M1 332 10 = mI M 332 10) 0 0 218 [some (.ref 332), some (.int 1), some (.int (nI (E 2))), some (.int (nI (E 3))), some (.int (nI V.1)), some (.int (nI (mb (V.2 (V.1 - 1)).1))), some (.int 0), some (.int 1), some (.int (nI i))] [] M1 := by
    intro j
    induction j with
    | zero =>
      intro i M1 hij o r
      have e8 : i = 8 := by omega
      subst e8
      refine j_iload d_M_alter_218 rfl ?_
      refine j_bipush (v := 8) d_M_alter_220 (by decide) ?_
      refine j_icmp_ge (tgt := 297) d_M_alter_222 (by decide) (fun h222 => ?_) (fun h222 => False.elim (h222 (nI_le (by decide) (by decide))))
      -- at 297
      exact at297 M1 _ o (r.eq (fun s hs => if_pos hs))
    | succ j ih =>
      intro i M1 hij o r
      obtain ⟨h0, q_off, t_off, q_leads, t_leads, q_term, t_term, q_length, t_length, q_known, t_known, q_logs, t_logs, q_entry, t_entry, q_members, t_members, q_owners, t_owners, q_owner, t_owner, q_condition, t_condition, q_held, t_held⟩ := sh M1 o
      refine j_iload d_M_alter_218 rfl ?_
      refine j_bipush (v := 8) d_M_alter_220 (by decide) ?_
      refine j_icmp_ge (tgt := 297) d_M_alter_222 (by decide) (fun h222 => False.elim (nI_ge (b := 8) (by omega) (by decide) h222)) (fun h222 => ?_)
      refine j_iload_n d_M_alter_225 rfl ?_
      refine j_iconst (v := 1) d_M_alter_226 (by decide) ?_
      refine j_icmp_ne (tgt := 249) d_M_alter_227 (by decide) (fun h227 => False.elim (h227 rfl)) (fun h227 => ?_)
      refine j_iload d_M_alter_230 rfl ?_
      refine j_if_ne (tgt := 249) d_M_alter_232 (by decide) (fun h232 => ?_) (fun h232 => ?_)
      · have k232 : ¬ nM (V.2 (V.1 - 1)).1 = 0 := fun q => h232 (mb_zero.mpr q)
        refine j_iload_n d_M_alter_249 rfl ?_
        refine j_iconst (v := 2) d_M_alter_250 (by decide) ?_
        refine j_icmp_ne (tgt := 291) d_M_alter_251 (by decide) (fun h251 => ?_) (fun h251 => False.elim (absurd h251 (by decide)))
        refine j_iinc (nI (i + 1)) d_M_alter_291 rfl (nI_inc i) (by decide) ?_
        refine j_goto 218 d_M_alter_294 (by decide) ?_
        -- at 218
        first
          | (refine ih (i + 1) M1 (by omega) o (r.eq (fun s hs => ?_))
             rw [if_neg k232]
             split <;> split <;> rfl)
          | (refine ih (i + 1) _ (by omega) (o.sI (by omega)) (r.sI.eq (fun s hs => ?_))
             rw [if_pos k232]
             by_cases z : s = i
             · rw [z, fu_s, if_pos (by omega)]
             · rw [fu_n _ _ z]
               by_cases y : s < i
               · rw [if_pos y, if_pos (by omega)]
               · rw [if_neg y, if_neg (by omega)])
      · have k232 : nM (V.2 (V.1 - 1)).1 = 0 := mb_zero.mp h232
        refine j_aload_n d_M_alter_235 rfl ?_
        refine j_getR d_M_alter_236 h0 f_M_35_M rfl (by decide) q_owners ?_
        refine j_bipush (v := 8) d_M_alter_239 (by decide) ?_
        refine j_iload d_M_alter_241 rfl ?_
        refine j_imul d_M_alter_243 ?_
        refine j_iload d_M_alter_244 rfl ?_
        refine j_iadd d_M_alter_246 ?_
        refine j_eqi (i8 V.1 i) ?_
        refine j_iload_n d_M_alter_247 rfl ?_
        refine j_iast d_M_alter_248 t_owners (aIx.n (by omega) (by decide)) ?_
        refine j_iload_n d_M_alter_249 rfl ?_
        refine j_iconst (v := 2) d_M_alter_250 (by decide) ?_
        refine j_icmp_ne (tgt := 291) d_M_alter_251 (by decide) (fun h251 => ?_) (fun h251 => False.elim (absurd h251 (by decide)))
        refine j_iinc (nI (i + 1)) d_M_alter_291 rfl (nI_inc i) (by decide) ?_
        refine j_goto 218 d_M_alter_294 (by decide) ?_
        -- at 218
        first
          | (refine ih (i + 1) M1 (by omega) o (r.eq (fun s hs => ?_))
             rw [if_neg k232]
             split <;> split <;> rfl)
          | (refine ih (i + 1) _ (by omega) (o.sI (by omega)) (r.sI.eq (fun s hs => ?_))
             rw [if_pos k232]
             by_cases z : s = i
             · rw [z, fu_s, if_pos (by omega)]
             · rw [fu_n _ _ z]
               by_cases y : s < i
               · rw [if_pos y, if_pos (by omega)]
               · rw [if_neg y, if_neg (by omega)])
  have at196 : ∀ (M1 : aM) (z : Option Value), rwO (sI (sI M 332 7 (nI (V.1 + 1))) 340 V.1 (nI (mb (fu (V.2 (V.1 - 1)).1 (E 2) true)))) M1 V.1 → mRow M1 V.1 (V.2 (V.1 - 1)).2 → aJ aX0 m_M_alter 3 0 0 (fun M1 r => r = none ∧ mSv M1 (V.1 + 1, fu V.2 V.1 (cfJ (V.2 (V.1 - 1)) (E 2))) ∧ oI M M1 vcl ∧ mI M1 332 10 = mI M 332 10) 0 0 196 [some (.ref 332), some (.int 1), some (.int (nI (E 2))), some (.int (nI (E 3))), some (.int (nI V.1)), some (.int (nI (mb (V.2 (V.1 - 1)).1))), some (.int 0), some (.int 1), z] [] M1 := by
    intro M1 z o r
    obtain ⟨h0, q_off, t_off, q_leads, t_leads, q_term, t_term, q_length, t_length, q_known, t_known, q_logs, t_logs, q_entry, t_entry, q_members, t_members, q_owners, t_owners, q_owner, t_owner, q_condition, t_condition, q_held, t_held⟩ := sh M1 o
    refine j_iload_n d_M_alter_196 rfl ?_
    refine j_iconst (v := 3) d_M_alter_197 (by decide) ?_
    refine j_icmp_ne (tgt := 215) d_M_alter_198 (by decide) (fun h198 => ?_) (fun h198 => False.elim (absurd h198 (by decide)))
    refine j_iconst (v := 0) d_M_alter_215 (by decide) ?_
    refine j_istore d_M_alter_216 (by decide) ?_
    -- at 218
    exact lp 8 0 _ (by decide) o (r.eq (fun s hs => (if_neg (Nat.not_lt_zero s)).symm))
  have cp : ∀ (j i : Nat) (M1 : aM), i + j = 8 → rwO (sI (sI M 332 7 (nI (V.1 + 1))) 340 V.1 (nI (mb (fu (V.2 (V.1 - 1)).1 (E 2) true)))) M1 V.1 → (∀ s, s < i → mI M1 341 (8 * V.1 + s) = nI ((V.2 (V.1 - 1)).2 s)) → aJ aX0 m_M_alter 3 0 0 (fun M1 r => r = none ∧ mSv M1 (V.1 + 1, fu V.2 V.1 (cfJ (V.2 (V.1 - 1)) (E 2))) ∧ oI M M1 vcl ∧ mI M1 332 10 = mI M 332 10) 0 0 154 [some (.ref 332), some (.int 1), some (.int (nI (E 2))), some (.int (nI (E 3))), some (.int (nI V.1)), some (.int (nI (mb (V.2 (V.1 - 1)).1))), some (.int 0), some (.int 1), some (.int (nI i))] [] M1 := by
    intro j
    induction j with
    | zero =>
      intro i M1 hij o r
      have e8 : i = 8 := by omega
      subst e8
      refine j_iload d_M_alter_154 rfl ?_
      refine j_bipush (v := 8) d_M_alter_156 (by decide) ?_
      refine j_icmp_ge (tgt := 196) d_M_alter_158 (by decide) (fun h158 => ?_) (fun h158 => False.elim (h158 (nI_le (by decide) (by decide))))
      -- at 196
      exact at196 M1 _ o r
    | succ j ih =>
      intro i M1 hij o r
      have old : mI M1 341 (8 * (V.1 - 1) + i) = nI ((V.2 (V.1 - 1)).2 i) := by rw [o.2 _ (by omega), mm_I_sI, if_neg (by omega), mm_I_sI, if_neg (by omega)]; exact x2 i (by omega)
      obtain ⟨h0, q_off, t_off, q_leads, t_leads, q_term, t_term, q_length, t_length, q_known, t_known, q_logs, t_logs, q_entry, t_entry, q_members, t_members, q_owners, t_owners, q_owner, t_owner, q_condition, t_condition, q_held, t_held⟩ := sh M1 o
      refine j_iload d_M_alter_154 rfl ?_
      refine j_bipush (v := 8) d_M_alter_156 (by decide) ?_
      refine j_icmp_ge (tgt := 196) d_M_alter_158 (by decide) (fun h158 => False.elim (nI_ge (b := 8) (by omega) (by decide) h158)) (fun h158 => ?_)
      refine j_aload_n d_M_alter_161 rfl ?_
      refine j_getR d_M_alter_162 h0 f_M_35_M rfl (by decide) q_owners ?_
      refine j_bipush (v := 8) d_M_alter_165 (by decide) ?_
      refine j_iload d_M_alter_167 rfl ?_
      refine j_imul d_M_alter_169 ?_
      refine j_iload d_M_alter_170 rfl ?_
      refine j_iadd d_M_alter_172 ?_
      refine j_eqi (i8 V.1 i) ?_
      refine j_aload_n d_M_alter_173 rfl ?_
      refine j_getR d_M_alter_174 h0 f_M_35_M rfl (by decide) q_owners ?_
      refine j_bipush (v := 8) d_M_alter_177 (by decide) ?_
      refine j_iload d_M_alter_179 rfl ?_
      refine j_imul d_M_alter_181 ?_
      refine j_bipush (v := 8) d_M_alter_182 (by decide) ?_
      refine j_isub d_M_alter_184 ?_
      refine j_iload d_M_alter_185 rfl ?_
      refine j_iadd d_M_alter_187 ?_
      refine j_eqi (i8m i s1) ?_
      refine j_iald d_M_alter_188 t_owners (aIx.n (by omega) (by decide)) ?_
      refine j_eqi old ?_
      refine j_iast d_M_alter_189 t_owners (aIx.n (by omega) (by decide)) ?_
      refine j_iinc (nI (i + 1)) d_M_alter_190 rfl (nI_inc i) (by decide) ?_
      refine j_goto 154 d_M_alter_193 (by decide) ?_
      -- at 154
      refine ih (i + 1) _ (by omega) (o.sI (by omega)) (fun s hs => ?_)
      rw [mm_I_sI]
      by_cases z : s = i
      · rw [if_pos ⟨rfl, by rw [z]⟩, z]
      · rw [if_neg (by omega)]; exact r s (by omega)
  obtain ⟨h0, q_off, t_off, q_leads, t_leads, q_term, t_term, q_length, t_length, q_known, t_known, q_logs, t_logs, q_entry, t_entry, q_members, t_members, q_owners, t_owners, q_owner, t_owner, q_condition, t_condition, q_held, t_held⟩ := hm
  refine j_aload_n d_M_alter_0 rfl ?_
  refine j_geti d_M_alter_1 h0 f_M_83_M rfl (by decide) ?_
  refine j_eqi hV.1 ?_
  refine j_istore d_M_alter_4 (by decide) ?_
  refine j_aload_n d_M_alter_6 rfl ?_
  refine j_getR d_M_alter_7 h0 f_M_32_M rfl (by decide) q_members ?_
  refine j_iload d_M_alter_10 rfl ?_
  refine j_iconst (v := 1) d_M_alter_12 (by decide) ?_
  refine j_isub d_M_alter_13 ?_
  refine j_eqi (pk_sub (b := 1) s1) ?_
  refine j_iald d_M_alter_14 t_members (aIx.n (by omega) (by decide)) ?_
  refine j_eqi x1 ?_
  refine j_istore d_M_alter_15 (by decide) ?_
  refine j_iload d_M_alter_17 rfl ?_
  refine j_iload_n d_M_alter_19 rfl ?_
  refine j_iconst (v := 3) d_M_alter_20 (by decide) ?_
  refine j_icmp_ne (tgt := 28) d_M_alter_21 (by decide) (fun h21 => ?_) (fun h21 => False.elim (absurd h21 (by decide)))
  refine j_iload_n d_M_alter_28 rfl ?_
  refine j_ishr d_M_alter_29 ?_
  refine j_iconst (v := 1) d_M_alter_30 (by decide) ?_
  refine j_iand d_M_alter_31 ?_
  refine j_eqi (mb_bit _ a1 a3) ?_
  refine j_iconst (v := 1) d_M_alter_32 (by decide) ?_
  refine j_icmp_ne (tgt := 40) d_M_alter_33 (by decide) (fun h33 => ?_) (fun h33 => False.elim (absurd h33 (by rw [hf]; decide)))
  refine j_iconst (v := 0) d_M_alter_40 (by decide) ?_
  refine j_istore d_M_alter_41 (by decide) ?_
  refine j_iload_n d_M_alter_43 rfl ?_
  refine j_iconst (v := 1) d_M_alter_44 (by decide) ?_
  refine j_icmp_ne (tgt := 61) d_M_alter_45 (by decide) (fun h45 => False.elim (h45 rfl)) (fun h45 => ?_)
  refine j_iload d_M_alter_48 rfl ?_
  refine j_if_ne (tgt := 57) d_M_alter_50 (by decide) (fun h50 => False.elim (h50 rfl)) (fun h50 => ?_)
  refine j_iconst (v := 1) d_M_alter_53 (by decide) ?_
  refine j_goto 89 d_M_alter_54 (by decide) ?_
  refine j_istore d_M_alter_89 (by decide) ?_
  refine j_iload d_M_alter_91 rfl ?_
  refine j_bipush (v := 16) d_M_alter_93 (by decide) ?_
  refine j_icmp_eq (tgt := 103) d_M_alter_95 (by decide) (fun h95 => False.elim (absurd (i_eq (b := 16) (by omega) (by decide) h95) (by omega))) (fun h95 => ?_)
  refine j_iload d_M_alter_98 rfl ?_
  refine j_if_ne (tgt := 104) d_M_alter_100 (by decide) (fun h100 => ?_) (fun h100 => False.elim (absurd h100 (by decide)))
  refine j_aload_n d_M_alter_104 rfl ?_
  refine j_dup d_M_alter_105 ?_
  refine j_geti d_M_alter_106 h0 f_M_83_M rfl (by decide) ?_
  refine j_eqi hV.1 ?_
  refine j_iconst (v := 1) d_M_alter_109 (by decide) ?_
  refine j_iadd d_M_alter_110 ?_
  refine j_eqi (nI_succ V.1).symm ?_
  refine j_puti d_M_alter_111 h0 p_M_83_M rfl (by decide) rfl rfl ?_
  refine j_aload_n d_M_alter_114 rfl ?_
  refine j_getR d_M_alter_115 h0 f_M_32_M rfl (by decide) q_members ?_
  refine j_iload d_M_alter_118 rfl ?_
  refine j_iload_n d_M_alter_120 rfl ?_
  refine j_iconst (v := 1) d_M_alter_121 (by decide) ?_
  refine j_icmp_ne (tgt := 134) d_M_alter_122 (by decide) (fun h122 => False.elim (h122 rfl)) (fun h122 => ?_)
  refine j_iload d_M_alter_125 rfl ?_
  refine j_iconst (v := 1) d_M_alter_127 (by decide) ?_
  refine j_iload_n d_M_alter_128 rfl ?_
  refine j_ishl d_M_alter_129 ?_
  refine j_ior d_M_alter_130 ?_
  refine j_eqi (mb_or a1 a3) ?_
  refine j_goto 150 d_M_alter_131 (by decide) ?_
  refine j_iast d_M_alter_150 t_members (aIx.n (by omega) (by decide)) ?_
  refine j_iconst (v := 0) d_M_alter_151 (by decide) ?_
  refine j_istore d_M_alter_152 (by decide) ?_
  -- at 154
  exact cp 8 0 _ (by decide) (rwO.rf _ _) (fun s hs => absurd hs (Nat.not_lt_zero s))
set_option maxRecDepth 20000 in
set_option maxHeartbeats 1000000 in
theorem q_alter_n2 (M : aM) (V : aSv) (E : Nat → Nat) (hm : mSh M) (hV : mSv M V) (vV : svV V) (e1 : E 1 = 2) (a1 : 1 ≤ E 2) (a3 : E 2 ≤ 3) (hno : V.1 = 16 ∨ ¬ ((V.2 (V.1 - 1)).1 (E 2) = true ∧ 1 < nM (V.2 (V.1 - 1)).1)) : aK m_M_alter 3 0 0 M [.ref 332, .int 2, .int (nI (E 2)), .int (nI (E 3))] (fun M1 r => r = none ∧ M1 = M) := by
  refine aK.of (by decide) (Nat.le_of_ble_eq_true rfl) ?_
  have hmm := hm
  obtain ⟨s1, s16, s3⟩ := vV
  obtain ⟨x1, x2⟩ := hV.2 (V.1 - 1) (by omega)
  have cv := s3 (V.1 - 1) (by omega)
  obtain ⟨h0, q_off, t_off, q_leads, t_leads, q_term, t_term, q_length, t_length, q_known, t_known, q_logs, t_logs, q_entry, t_entry, q_members, t_members, q_owners, t_owners, q_owner, t_owner, q_condition, t_condition, q_held, t_held⟩ := hm
  have at71 : (V.2 (V.1 - 1)).1 (E 2) = true → aJ aX0 m_M_alter 3 0 0 (fun M1 r => r = none ∧ M1 = M) 0 0 71 [some (.ref 332), some (.int 2), some (.int (nI (E 2))), some (.int (nI (E 3))), some (.int (nI V.1)), some (.int (nI (mb (V.2 (V.1 - 1)).1))), some (.int 1), none, none] [] M := by
    intro k33
    refine j_iload d_M_alter_71 rfl ?_
    refine j_iconst (v := 1) d_M_alter_73 (by decide) ?_
    refine j_iload_n d_M_alter_74 rfl ?_
    refine j_ishl d_M_alter_75 ?_
    refine j_icmp_eq (tgt := 83) d_M_alter_76 (by decide) (fun h76 => ?_) (fun h76 => ?_)
    · have k76 := (mb_one a1 a3 k33).mp h76
      refine j_iconst (v := 0) d_M_alter_83 (by decide) ?_
      refine j_goto 89 d_M_alter_84 (by decide) ?_
      refine j_istore d_M_alter_89 (by decide) ?_
      refine j_iload d_M_alter_91 rfl ?_
      refine j_bipush (v := 16) d_M_alter_93 (by decide) ?_
      refine j_icmp_eq (tgt := 103) d_M_alter_95 (by decide) (fun h95 => ?_) (fun h95 => ?_)
      · refine j_return d_M_alter_103 rfl ⟨rfl, rfl⟩ (by decide) (by decide)
      · have k95 := i_ne (b := 16) (by omega) (by decide) h95
        refine j_iload d_M_alter_98 rfl ?_
        refine j_if_ne (tgt := 104) d_M_alter_100 (by decide) (fun h100 => ?_) (fun h100 => ?_)
        · first
            | exact absurd rfl h100
            | exact absurd rfl h50
            | exact absurd h50 (by decide)
            | exact absurd ⟨k33, k76⟩ (hno.resolve_left k95)
        · refine j_return d_M_alter_103 rfl ⟨rfl, rfl⟩ (by decide) (by decide)
    · have k76 : 1 < nM (V.2 (V.1 - 1)).1 := Decidable.byContradiction (fun q => h76 ((mb_one a1 a3 k33).mpr q))
      refine j_iconst (v := 1) d_M_alter_79 (by decide) ?_
      refine j_goto 89 d_M_alter_80 (by decide) ?_
      refine j_istore d_M_alter_89 (by decide) ?_
      refine j_iload d_M_alter_91 rfl ?_
      refine j_bipush (v := 16) d_M_alter_93 (by decide) ?_
      refine j_icmp_eq (tgt := 103) d_M_alter_95 (by decide) (fun h95 => ?_) (fun h95 => ?_)
      · refine j_return d_M_alter_103 rfl ⟨rfl, rfl⟩ (by decide) (by decide)
      · have k95 := i_ne (b := 16) (by omega) (by decide) h95
        refine j_iload d_M_alter_98 rfl ?_
        refine j_if_ne (tgt := 104) d_M_alter_100 (by decide) (fun h100 => ?_) (fun h100 => ?_)
        · first
            | exact absurd rfl h100
            | exact absurd rfl h50
            | exact absurd h50 (by decide)
            | exact absurd ⟨k33, k76⟩ (hno.resolve_left k95)
        · refine j_return d_M_alter_103 rfl ⟨rfl, rfl⟩ (by decide) (by decide)
  refine j_aload_n d_M_alter_0 rfl ?_
  refine j_geti d_M_alter_1 h0 f_M_83_M rfl (by decide) ?_
  refine j_eqi hV.1 ?_
  refine j_istore d_M_alter_4 (by decide) ?_
  refine j_aload_n d_M_alter_6 rfl ?_
  refine j_getR d_M_alter_7 h0 f_M_32_M rfl (by decide) q_members ?_
  refine j_iload d_M_alter_10 rfl ?_
  refine j_iconst (v := 1) d_M_alter_12 (by decide) ?_
  refine j_isub d_M_alter_13 ?_
  refine j_eqi (pk_sub (b := 1) s1) ?_
  refine j_iald d_M_alter_14 t_members (aIx.n (by omega) (by decide)) ?_
  refine j_eqi x1 ?_
  refine j_istore d_M_alter_15 (by decide) ?_
  refine j_iload d_M_alter_17 rfl ?_
  refine j_iload_n d_M_alter_19 rfl ?_
  refine j_iconst (v := 3) d_M_alter_20 (by decide) ?_
  refine j_icmp_ne (tgt := 28) d_M_alter_21 (by decide) (fun h21 => ?_) (fun h21 => False.elim (absurd h21 (by decide)))
  refine j_iload_n d_M_alter_28 rfl ?_
  refine j_ishr d_M_alter_29 ?_
  refine j_iconst (v := 1) d_M_alter_30 (by decide) ?_
  refine j_iand d_M_alter_31 ?_
  refine j_eqi (mb_bit _ a1 a3) ?_
  refine j_iconst (v := 1) d_M_alter_32 (by decide) ?_
  refine j_icmp_ne (tgt := 40) d_M_alter_33 (by decide) (fun h33 => ?_) (fun h33 => ?_)
  · have k33 : (V.2 (V.1 - 1)).1 (E 2) = false := by cases q : (V.2 (V.1 - 1)).1 (E 2); rfl; rw [q] at h33; exact absurd rfl h33
    refine j_iconst (v := 0) d_M_alter_40 (by decide) ?_
    refine j_istore d_M_alter_41 (by decide) ?_
    refine j_iload_n d_M_alter_43 rfl ?_
    refine j_iconst (v := 1) d_M_alter_44 (by decide) ?_
    refine j_icmp_ne (tgt := 61) d_M_alter_45 (by decide) (fun h45 => ?_) (fun h45 => False.elim (absurd h45 (by decide)))
    refine j_iload_n d_M_alter_61 rfl ?_
    refine j_iconst (v := 2) d_M_alter_62 (by decide) ?_
    refine j_icmp_ne (tgt := 87) d_M_alter_63 (by decide) (fun h63 => False.elim (h63 rfl)) (fun h63 => ?_)
    refine j_iload d_M_alter_66 rfl ?_
    refine j_if_eq (tgt := 83) d_M_alter_68 (by decide) (fun h68 => ?_) (fun h68 => ?_)
    · refine j_iconst (v := 0) d_M_alter_83 (by decide) ?_
      refine j_goto 89 d_M_alter_84 (by decide) ?_
      refine j_istore d_M_alter_89 (by decide) ?_
      refine j_iload d_M_alter_91 rfl ?_
      refine j_bipush (v := 16) d_M_alter_93 (by decide) ?_
      refine j_icmp_eq (tgt := 103) d_M_alter_95 (by decide) (fun h95 => ?_) (fun h95 => ?_)
      · refine j_return d_M_alter_103 rfl ⟨rfl, rfl⟩ (by decide) (by decide)
      · have k95 := i_ne (b := 16) (by omega) (by decide) h95
        refine j_iload d_M_alter_98 rfl ?_
        refine j_if_ne (tgt := 104) d_M_alter_100 (by decide) (fun h100 => ?_) (fun h100 => ?_)
        · first
            | exact absurd rfl h100
            | exact absurd h68 (by decide)
        · refine j_return d_M_alter_103 rfl ⟨rfl, rfl⟩ (by decide) (by decide)
    · first
        | exact absurd rfl h68
        | exact at71 k33
  · have k33 : (V.2 (V.1 - 1)).1 (E 2) = true := bI_n0 (by rw [h33]; decide)
    refine j_iconst (v := 1) d_M_alter_36 (by decide) ?_
    refine j_goto 41 d_M_alter_37 (by decide) ?_
    refine j_istore d_M_alter_41 (by decide) ?_
    refine j_iload_n d_M_alter_43 rfl ?_
    refine j_iconst (v := 1) d_M_alter_44 (by decide) ?_
    refine j_icmp_ne (tgt := 61) d_M_alter_45 (by decide) (fun h45 => ?_) (fun h45 => False.elim (absurd h45 (by decide)))
    refine j_iload_n d_M_alter_61 rfl ?_
    refine j_iconst (v := 2) d_M_alter_62 (by decide) ?_
    refine j_icmp_ne (tgt := 87) d_M_alter_63 (by decide) (fun h63 => False.elim (h63 rfl)) (fun h63 => ?_)
    refine j_iload d_M_alter_66 rfl ?_
    refine j_if_eq (tgt := 83) d_M_alter_68 (by decide) (fun h68 => ?_) (fun h68 => ?_)
    · refine j_iconst (v := 0) d_M_alter_83 (by decide) ?_
      refine j_goto 89 d_M_alter_84 (by decide) ?_
      refine j_istore d_M_alter_89 (by decide) ?_
      refine j_iload d_M_alter_91 rfl ?_
      refine j_bipush (v := 16) d_M_alter_93 (by decide) ?_
      refine j_icmp_eq (tgt := 103) d_M_alter_95 (by decide) (fun h95 => ?_) (fun h95 => ?_)
      · refine j_return d_M_alter_103 rfl ⟨rfl, rfl⟩ (by decide) (by decide)
      · have k95 := i_ne (b := 16) (by omega) (by decide) h95
        refine j_iload d_M_alter_98 rfl ?_
        refine j_if_ne (tgt := 104) d_M_alter_100 (by decide) (fun h100 => ?_) (fun h100 => ?_)
        · first
            | exact absurd rfl h100
            | exact absurd h68 (by decide)
        · refine j_return d_M_alter_103 rfl ⟨rfl, rfl⟩ (by decide) (by decide)
    · first
        | exact absurd rfl h68
        | exact at71 k33
set_option maxRecDepth 20000 in
set_option maxHeartbeats 1000000 in
theorem q_alter_2 (M : aM) (V : aSv) (E : Nat → Nat) (hm : mSh M) (hV : mSv M V) (vV : svV V) (e1 : E 1 = 2) (a1 : 1 ≤ E 2) (a3 : E 2 ≤ 3) (hlt : V.1 < 16) (hf : (V.2 (V.1 - 1)).1 (E 2) = true) (hn : 1 < nM (V.2 (V.1 - 1)).1) : aK m_M_alter 3 0 0 M [.ref 332, .int 2, .int (nI (E 2)), .int (nI (E 3))] (fun M1 r => r = none ∧ mSv M1 (svStep V E) ∧ oI M M1 vcl ∧ mI M1 332 10 = mI M 332 10) := by
  refine aK.of (by decide) (Nat.le_of_ble_eq_true rfl) ?_
  have hmm := hm
  obtain ⟨s1, s16, s3⟩ := vV
  obtain ⟨x1, x2⟩ := hV.2 (V.1 - 1) (by omega)
  have cv := s3 (V.1 - 1) (by omega)
  have hb : ∀ s, s < 8 → (V.2 (V.1 - 1)).2 s < 4 := fun s hs => cv.lt hs
  rw [svS_2 e1 hlt hf hn]
  have sh : ∀ M1, rwO (sI (sI M 332 7 (nI (V.1 + 1))) 340 V.1 (nI (mb (fu (V.2 (V.1 - 1)).1 (E 2) false)))) M1 V.1 → mSh M1 := fun M1 o => o.1.mSh (mSh_sI (mSh_sI hm))
  have cM : ∀ M1, rwO (sI (sI M 332 7 (nI (V.1 + 1))) 340 V.1 (nI (mb (fu (V.2 (V.1 - 1)).1 (E 2) false)))) M1 V.1 → mI M1 340 V.1 = nI (mb (fu (V.2 (V.1 - 1)).1 (E 2) false)) := fun M1 o => (o.1.2.2 340 (by decide) V.1).trans (by rw [mm_I_sI, if_pos ⟨rfl, rfl⟩])
  have at297 : ∀ (M1 : aM) (z : Option Value), rwO (sI (sI M 332 7 (nI (V.1 + 1))) 340 V.1 (nI (mb (fu (V.2 (V.1 - 1)).1 (E 2) false)))) M1 V.1 → mRow M1 V.1 (lv (fu (V.2 (V.1 - 1)).1 (E 2) false) (E 2) 8 (V.2 (V.1 - 1)).2) → aJ aX0 m_M_alter 3 0 0 (fun M1 r => r = none ∧ mSv M1 (V.1 + 1, fu V.2 V.1 (cfL (V.2 (V.1 - 1)) (E 2))) ∧ oI M M1 vcl ∧ mI M1 332 10 = mI M 332 10) 0 0 297 [some (.ref 332), some (.int 2), some (.int (nI (E 2))), some (.int (nI (E 3))), some (.int (nI V.1)), some (.int (nI (mb (V.2 (V.1 - 1)).1))), some (.int 1), some (.int 1), z] [] M1 := by
    intro M1 z o r
    obtain ⟨h0, q_off, t_off, q_leads, t_leads, q_term, t_term, q_length, t_length, q_known, t_known, q_logs, t_logs, q_entry, t_entry, q_members, t_members, q_owners, t_owners, q_owner, t_owner, q_condition, t_condition, q_held, t_held⟩ := sh M1 o
    refine j_aload_n d_M_alter_297 rfl ?_
    refine j_iload d_M_alter_298 rfl ?_
    refine j_callV (vs := [_]) d_M_alter_300 h0 (by decide) rfl w774 w776 w7 w777 ws_M_balance y_M_balance (by decide) (by decide) (q_balance M1 V.1 (fu (V.2 (V.1 - 1)).1 (E 2) false) (lv (fu (V.2 (V.1 - 1)).1 (E 2) false) (E 2) 8 (V.2 (V.1 - 1)).2) (sh M1 o) hlt (cM M1 o) r (lvq_lt hb 8) (fu_left a1 a3 hf hn)) rfl (Nat.le_of_ble_eq_true rfl) (by decide) (by decide) (fun M3 r3 hq3 => ?_)
    obtain ⟨rfl, r3, o3⟩ := hq3
    refine j_return d_M_alter_303 rfl ?_ (by decide) (by decide)
    exact ⟨rfl, mSv_add hV (f := cfL (V.2 (V.1 - 1)) (E 2)) (o.tr o3) (by dsimp only [cfL]; exact r3)⟩
  have lp : ∀ (j i : Nat) (M1 : aM), i + j = 8 → rwO (sI (sI M 332 7 (nI (V.1 + 1))) 340 V.1 (nI (mb (fu (V.2 (V.1 - 1)).1 (E 2) false)))) M1 V.1 → mRow M1 V.1 (lv (fu (V.2 (V.1 - 1)).1 (E 2) false) (E 2) i (V.2 (V.1 - 1)).2) → aJ aX0 m_M_alter 3 0 0 (fun M1 r => r = none ∧ mSv M1 (V.1 + 1, fu V.2 V.1 (cfL (V.2 (V.1 - 1)) (E 2))) ∧ oI M M1 vcl ∧ mI M1 332 10 = mI M 332 10) 0 0 218 [some (.ref 332), some (.int 2), some (.int (nI (E 2))), some (.int (nI (E 3))), some (.int (nI V.1)), some (.int (nI (mb (V.2 (V.1 - 1)).1))), some (.int 1), some (.int 1), some (.int (nI i))] [] M1 := by
    intro j
    induction j with
    | zero =>
      intro i M1 hij o r
      have e8 : i = 8 := by omega
      subst e8
      refine j_iload d_M_alter_218 rfl ?_
      refine j_bipush (v := 8) d_M_alter_220 (by decide) ?_
      refine j_icmp_ge (tgt := 297) d_M_alter_222 (by decide) (fun h222 => ?_) (fun h222 => False.elim (h222 (nI_le (by decide) (by decide))))
      -- at 297
      exact at297 M1 _ o r
    | succ j ih =>
      intro i M1 hij o r
      have lb := lvq_lt (mem := (fu (V.2 (V.1 - 1)).1 (E 2) false)) (a := E 2) hb i
      have lbi := lb i (by omega)
      obtain ⟨-, ⟨poor, ep, p1, p3, -, -⟩⟩ := ex_facts (fu (V.2 (V.1 - 1)).1 (E 2) false) (fun g => cn (lv (fu (V.2 (V.1 - 1)).1 (E 2) false) (E 2) i (V.2 (V.1 - 1)).2) g 8) (fu_left a1 a3 hf hn)
      have hL : lv (fu (V.2 (V.1 - 1)).1 (E 2) false) (E 2) (i + 1) (V.2 (V.1 - 1)).2 = if (lv (fu (V.2 (V.1 - 1)).1 (E 2) false) (E 2) i (V.2 (V.1 - 1)).2) i = E 2 then fu (lv (fu (V.2 (V.1 - 1)).1 (E 2) false) (E 2) i (V.2 (V.1 - 1)).2) i (ex false (fu (V.2 (V.1 - 1)).1 (E 2) false) (fun g => cn (lv (fu (V.2 (V.1 - 1)).1 (E 2) false) (E 2) i (V.2 (V.1 - 1)).2) g 8) 3) else (lv (fu (V.2 (V.1 - 1)).1 (E 2) false) (E 2) i (V.2 (V.1 - 1)).2) := rfl
      rw [ep] at hL
      obtain ⟨h0, q_off, t_off, q_leads, t_leads, q_term, t_term, q_length, t_length, q_known, t_known, q_logs, t_logs, q_entry, t_entry, q_members, t_members, q_owners, t_owners, q_owner, t_owner, q_condition, t_condition, q_held, t_held⟩ := sh M1 o
      refine j_iload d_M_alter_218 rfl ?_
      refine j_bipush (v := 8) d_M_alter_220 (by decide) ?_
      refine j_icmp_ge (tgt := 297) d_M_alter_222 (by decide) (fun h222 => False.elim (nI_ge (b := 8) (by omega) (by decide) h222)) (fun h222 => ?_)
      refine j_iload_n d_M_alter_225 rfl ?_
      refine j_iconst (v := 1) d_M_alter_226 (by decide) ?_
      refine j_icmp_ne (tgt := 249) d_M_alter_227 (by decide) (fun h227 => ?_) (fun h227 => False.elim (absurd h227 (by decide)))
      refine j_iload_n d_M_alter_249 rfl ?_
      refine j_iconst (v := 2) d_M_alter_250 (by decide) ?_
      refine j_icmp_ne (tgt := 291) d_M_alter_251 (by decide) (fun h251 => False.elim (h251 rfl)) (fun h251 => ?_)
      refine j_aload_n d_M_alter_254 rfl ?_
      refine j_getR d_M_alter_255 h0 f_M_35_M rfl (by decide) q_owners ?_
      refine j_bipush (v := 8) d_M_alter_258 (by decide) ?_
      refine j_iload d_M_alter_260 rfl ?_
      refine j_imul d_M_alter_262 ?_
      refine j_iload d_M_alter_263 rfl ?_
      refine j_iadd d_M_alter_265 ?_
      refine j_eqi (i8 V.1 i) ?_
      refine j_iald d_M_alter_266 t_owners (aIx.n (by omega) (by decide)) ?_
      refine j_eqi (r i (by omega)) ?_
      refine j_iload_n d_M_alter_267 rfl ?_
      refine j_icmp_ne (tgt := 291) d_M_alter_268 (by decide) (fun h268 => ?_) (fun h268 => ?_)
      · have k268 := i_ne (by omega) (by omega) h268
        refine j_iinc (nI (i + 1)) d_M_alter_291 rfl (nI_inc i) (by decide) ?_
        refine j_goto 218 d_M_alter_294 (by decide) ?_
        -- at 218
        first
          | exact ih (i + 1) M1 (by omega) o (by rw [hL, if_neg k268]; exact r)
          | exact ih (i + 1) _ (by omega) (o.sI (by omega)) (by rw [hL, if_pos k268]; exact r.sI)
      · have k268 := i_eq (by omega) (by omega) h268
        refine j_aload_n d_M_alter_271 rfl ?_
        refine j_getR d_M_alter_272 h0 f_M_35_M rfl (by decide) q_owners ?_
        refine j_bipush (v := 8) d_M_alter_275 (by decide) ?_
        refine j_iload d_M_alter_277 rfl ?_
        refine j_imul d_M_alter_279 ?_
        refine j_iload d_M_alter_280 rfl ?_
        refine j_iadd d_M_alter_282 ?_
        refine j_eqi (i8 V.1 i) ?_
        refine j_aload_n d_M_alter_283 rfl ?_
        refine j_iload d_M_alter_284 rfl ?_
        refine j_iconst (v := 0) d_M_alter_286 (by decide) ?_
        refine j_callV (vs := [_, _]) d_M_alter_287 h0 (by decide) rfl w766 w768 w7 w769 ws_M_extreme y_M_extreme (by decide) (by decide) (q_extreme_false M1 V.1 (fu (V.2 (V.1 - 1)).1 (E 2) false) (lv (fu (V.2 (V.1 - 1)).1 (E 2) false) (E 2) i (V.2 (V.1 - 1)).2) (sh M1 o) hlt (cM M1 o) r lb) rfl (Nat.le_of_ble_eq_true rfl) (by decide) (by decide) (fun M3 r3 hq3 => ?_)
        obtain ⟨rfl, rfl⟩ := hq3
        rw [ep, xI_p (by omega)]
        refine j_iast d_M_alter_290 t_owners (aIx.n (by omega) (by decide)) ?_
        refine j_iinc (nI (i + 1)) d_M_alter_291 rfl (nI_inc i) (by decide) ?_
        refine j_goto 218 d_M_alter_294 (by decide) ?_
        -- at 218
        first
          | exact ih (i + 1) M1 (by omega) o (by rw [hL, if_neg k268]; exact r)
          | exact ih (i + 1) _ (by omega) (o.sI (by omega)) (by rw [hL, if_pos k268]; exact r.sI)
  have at196 : ∀ (M1 : aM) (z : Option Value), rwO (sI (sI M 332 7 (nI (V.1 + 1))) 340 V.1 (nI (mb (fu (V.2 (V.1 - 1)).1 (E 2) false)))) M1 V.1 → mRow M1 V.1 (V.2 (V.1 - 1)).2 → aJ aX0 m_M_alter 3 0 0 (fun M1 r => r = none ∧ mSv M1 (V.1 + 1, fu V.2 V.1 (cfL (V.2 (V.1 - 1)) (E 2))) ∧ oI M M1 vcl ∧ mI M1 332 10 = mI M 332 10) 0 0 196 [some (.ref 332), some (.int 2), some (.int (nI (E 2))), some (.int (nI (E 3))), some (.int (nI V.1)), some (.int (nI (mb (V.2 (V.1 - 1)).1))), some (.int 1), some (.int 1), z] [] M1 := by
    intro M1 z o r
    obtain ⟨h0, q_off, t_off, q_leads, t_leads, q_term, t_term, q_length, t_length, q_known, t_known, q_logs, t_logs, q_entry, t_entry, q_members, t_members, q_owners, t_owners, q_owner, t_owner, q_condition, t_condition, q_held, t_held⟩ := sh M1 o
    refine j_iload_n d_M_alter_196 rfl ?_
    refine j_iconst (v := 3) d_M_alter_197 (by decide) ?_
    refine j_icmp_ne (tgt := 215) d_M_alter_198 (by decide) (fun h198 => ?_) (fun h198 => False.elim (absurd h198 (by decide)))
    refine j_iconst (v := 0) d_M_alter_215 (by decide) ?_
    refine j_istore d_M_alter_216 (by decide) ?_
    -- at 218
    exact lp 8 0 _ (by decide) o r
  have cp : ∀ (j i : Nat) (M1 : aM), i + j = 8 → rwO (sI (sI M 332 7 (nI (V.1 + 1))) 340 V.1 (nI (mb (fu (V.2 (V.1 - 1)).1 (E 2) false)))) M1 V.1 → (∀ s, s < i → mI M1 341 (8 * V.1 + s) = nI ((V.2 (V.1 - 1)).2 s)) → aJ aX0 m_M_alter 3 0 0 (fun M1 r => r = none ∧ mSv M1 (V.1 + 1, fu V.2 V.1 (cfL (V.2 (V.1 - 1)) (E 2))) ∧ oI M M1 vcl ∧ mI M1 332 10 = mI M 332 10) 0 0 154 [some (.ref 332), some (.int 2), some (.int (nI (E 2))), some (.int (nI (E 3))), some (.int (nI V.1)), some (.int (nI (mb (V.2 (V.1 - 1)).1))), some (.int 1), some (.int 1), some (.int (nI i))] [] M1 := by
    intro j
    induction j with
    | zero =>
      intro i M1 hij o r
      have e8 : i = 8 := by omega
      subst e8
      refine j_iload d_M_alter_154 rfl ?_
      refine j_bipush (v := 8) d_M_alter_156 (by decide) ?_
      refine j_icmp_ge (tgt := 196) d_M_alter_158 (by decide) (fun h158 => ?_) (fun h158 => False.elim (h158 (nI_le (by decide) (by decide))))
      -- at 196
      exact at196 M1 _ o r
    | succ j ih =>
      intro i M1 hij o r
      have old : mI M1 341 (8 * (V.1 - 1) + i) = nI ((V.2 (V.1 - 1)).2 i) := by rw [o.2 _ (by omega), mm_I_sI, if_neg (by omega), mm_I_sI, if_neg (by omega)]; exact x2 i (by omega)
      obtain ⟨h0, q_off, t_off, q_leads, t_leads, q_term, t_term, q_length, t_length, q_known, t_known, q_logs, t_logs, q_entry, t_entry, q_members, t_members, q_owners, t_owners, q_owner, t_owner, q_condition, t_condition, q_held, t_held⟩ := sh M1 o
      refine j_iload d_M_alter_154 rfl ?_
      refine j_bipush (v := 8) d_M_alter_156 (by decide) ?_
      refine j_icmp_ge (tgt := 196) d_M_alter_158 (by decide) (fun h158 => False.elim (nI_ge (b := 8) (by omega) (by decide) h158)) (fun h158 => ?_)
      refine j_aload_n d_M_alter_161 rfl ?_
      refine j_getR d_M_alter_162 h0 f_M_35_M rfl (by decide) q_owners ?_
      refine j_bipush (v := 8) d_M_alter_165 (by decide) ?_
      refine j_iload d_M_alter_167 rfl ?_
      refine j_imul d_M_alter_169 ?_
      refine j_iload d_M_alter_170 rfl ?_
      refine j_iadd d_M_alter_172 ?_
      refine j_eqi (i8 V.1 i) ?_
      refine j_aload_n d_M_alter_173 rfl ?_
      refine j_getR d_M_alter_174 h0 f_M_35_M rfl (by decide) q_owners ?_
      refine j_bipush (v := 8) d_M_alter_177 (by decide) ?_
      refine j_iload d_M_alter_179 rfl ?_
      refine j_imul d_M_alter_181 ?_
      refine j_bipush (v := 8) d_M_alter_182 (by decide) ?_
      refine j_isub d_M_alter_184 ?_
      refine j_iload d_M_alter_185 rfl ?_
      refine j_iadd d_M_alter_187 ?_
      refine j_eqi (i8m i s1) ?_
      refine j_iald d_M_alter_188 t_owners (aIx.n (by omega) (by decide)) ?_
      refine j_eqi old ?_
      refine j_iast d_M_alter_189 t_owners (aIx.n (by omega) (by decide)) ?_
      refine j_iinc (nI (i + 1)) d_M_alter_190 rfl (nI_inc i) (by decide) ?_
      refine j_goto 154 d_M_alter_193 (by decide) ?_
      -- at 154
      refine ih (i + 1) _ (by omega) (o.sI (by omega)) (fun s hs => ?_)
      rw [mm_I_sI]
      by_cases z : s = i
      · rw [if_pos ⟨rfl, by rw [z]⟩, z]
      · rw [if_neg (by omega)]; exact r s (by omega)
  obtain ⟨h0, q_off, t_off, q_leads, t_leads, q_term, t_term, q_length, t_length, q_known, t_known, q_logs, t_logs, q_entry, t_entry, q_members, t_members, q_owners, t_owners, q_owner, t_owner, q_condition, t_condition, q_held, t_held⟩ := hm
  refine j_aload_n d_M_alter_0 rfl ?_
  refine j_geti d_M_alter_1 h0 f_M_83_M rfl (by decide) ?_
  refine j_eqi hV.1 ?_
  refine j_istore d_M_alter_4 (by decide) ?_
  refine j_aload_n d_M_alter_6 rfl ?_
  refine j_getR d_M_alter_7 h0 f_M_32_M rfl (by decide) q_members ?_
  refine j_iload d_M_alter_10 rfl ?_
  refine j_iconst (v := 1) d_M_alter_12 (by decide) ?_
  refine j_isub d_M_alter_13 ?_
  refine j_eqi (pk_sub (b := 1) s1) ?_
  refine j_iald d_M_alter_14 t_members (aIx.n (by omega) (by decide)) ?_
  refine j_eqi x1 ?_
  refine j_istore d_M_alter_15 (by decide) ?_
  refine j_iload d_M_alter_17 rfl ?_
  refine j_iload_n d_M_alter_19 rfl ?_
  refine j_iconst (v := 3) d_M_alter_20 (by decide) ?_
  refine j_icmp_ne (tgt := 28) d_M_alter_21 (by decide) (fun h21 => ?_) (fun h21 => False.elim (absurd h21 (by decide)))
  refine j_iload_n d_M_alter_28 rfl ?_
  refine j_ishr d_M_alter_29 ?_
  refine j_iconst (v := 1) d_M_alter_30 (by decide) ?_
  refine j_iand d_M_alter_31 ?_
  refine j_eqi (mb_bit _ a1 a3) ?_
  refine j_iconst (v := 1) d_M_alter_32 (by decide) ?_
  refine j_icmp_ne (tgt := 40) d_M_alter_33 (by decide) (fun h33 => False.elim (h33 (by rw [hf]; rfl))) (fun h33 => ?_)
  refine j_iconst (v := 1) d_M_alter_36 (by decide) ?_
  refine j_goto 41 d_M_alter_37 (by decide) ?_
  refine j_istore d_M_alter_41 (by decide) ?_
  refine j_iload_n d_M_alter_43 rfl ?_
  refine j_iconst (v := 1) d_M_alter_44 (by decide) ?_
  refine j_icmp_ne (tgt := 61) d_M_alter_45 (by decide) (fun h45 => ?_) (fun h45 => False.elim (absurd h45 (by decide)))
  refine j_iload_n d_M_alter_61 rfl ?_
  refine j_iconst (v := 2) d_M_alter_62 (by decide) ?_
  refine j_icmp_ne (tgt := 87) d_M_alter_63 (by decide) (fun h63 => False.elim (h63 rfl)) (fun h63 => ?_)
  refine j_iload d_M_alter_66 rfl ?_
  refine j_if_eq (tgt := 83) d_M_alter_68 (by decide) (fun h68 => False.elim (absurd h68 (by decide))) (fun h68 => ?_)
  refine j_iload d_M_alter_71 rfl ?_
  refine j_iconst (v := 1) d_M_alter_73 (by decide) ?_
  refine j_iload_n d_M_alter_74 rfl ?_
  refine j_ishl d_M_alter_75 ?_
  refine j_icmp_eq (tgt := 83) d_M_alter_76 (by decide) (fun h76 => False.elim ((mb_one a1 a3 hf).mp h76 hn)) (fun h76 => ?_)
  refine j_iconst (v := 1) d_M_alter_79 (by decide) ?_
  refine j_goto 89 d_M_alter_80 (by decide) ?_
  refine j_istore d_M_alter_89 (by decide) ?_
  refine j_iload d_M_alter_91 rfl ?_
  refine j_bipush (v := 16) d_M_alter_93 (by decide) ?_
  refine j_icmp_eq (tgt := 103) d_M_alter_95 (by decide) (fun h95 => False.elim (absurd (i_eq (b := 16) (by omega) (by decide) h95) (by omega))) (fun h95 => ?_)
  refine j_iload d_M_alter_98 rfl ?_
  refine j_if_ne (tgt := 104) d_M_alter_100 (by decide) (fun h100 => ?_) (fun h100 => False.elim (absurd h100 (by decide)))
  refine j_aload_n d_M_alter_104 rfl ?_
  refine j_dup d_M_alter_105 ?_
  refine j_geti d_M_alter_106 h0 f_M_83_M rfl (by decide) ?_
  refine j_eqi hV.1 ?_
  refine j_iconst (v := 1) d_M_alter_109 (by decide) ?_
  refine j_iadd d_M_alter_110 ?_
  refine j_eqi (nI_succ V.1).symm ?_
  refine j_puti d_M_alter_111 h0 p_M_83_M rfl (by decide) rfl rfl ?_
  refine j_aload_n d_M_alter_114 rfl ?_
  refine j_getR d_M_alter_115 h0 f_M_32_M rfl (by decide) q_members ?_
  refine j_iload d_M_alter_118 rfl ?_
  refine j_iload_n d_M_alter_120 rfl ?_
  refine j_iconst (v := 1) d_M_alter_121 (by decide) ?_
  refine j_icmp_ne (tgt := 134) d_M_alter_122 (by decide) (fun h122 => ?_) (fun h122 => False.elim (absurd h122 (by decide)))
  refine j_iload_n d_M_alter_134 rfl ?_
  refine j_iconst (v := 2) d_M_alter_135 (by decide) ?_
  refine j_icmp_ne (tgt := 148) d_M_alter_136 (by decide) (fun h136 => False.elim (h136 rfl)) (fun h136 => ?_)
  refine j_iload d_M_alter_139 rfl ?_
  refine j_iconst (v := 1) d_M_alter_141 (by decide) ?_
  refine j_iload_n d_M_alter_142 rfl ?_
  refine j_ishl d_M_alter_143 ?_
  refine j_isub d_M_alter_144 ?_
  refine j_eqi (mb_sub a1 a3 hf) ?_
  refine j_goto 150 d_M_alter_145 (by decide) ?_
  refine j_iast d_M_alter_150 t_members (aIx.n (by omega) (by decide)) ?_
  refine j_iconst (v := 0) d_M_alter_151 (by decide) ?_
  refine j_istore d_M_alter_152 (by decide) ?_
  -- at 154
  exact cp 8 0 _ (by decide) (rwO.rf _ _) (fun s hs => absurd hs (Nat.not_lt_zero s))
set_option maxRecDepth 20000 in
set_option maxHeartbeats 1000000 in
theorem q_alter_n3 (M : aM) (V : aSv) (E : Nat → Nat) (hm : mSh M) (hV : mSv M V) (vV : svV V) (e1 : E 1 = 3) (a8 : E 2 < 8) (a1 : 1 ≤ E 3) (a3 : E 3 ≤ 3) (hno : V.1 = 16 ∨ ¬ (V.2 (V.1 - 1)).1 (E 3) = true) : aK m_M_alter 3 0 0 M [.ref 332, .int 3, .int (nI (E 2)), .int (nI (E 3))] (fun M1 r => r = none ∧ M1 = M) := by
  refine aK.of (by decide) (Nat.le_of_ble_eq_true rfl) ?_
  have hmm := hm
  obtain ⟨s1, s16, s3⟩ := vV
  obtain ⟨x1, x2⟩ := hV.2 (V.1 - 1) (by omega)
  have cv := s3 (V.1 - 1) (by omega)
  obtain ⟨h0, q_off, t_off, q_leads, t_leads, q_term, t_term, q_length, t_length, q_known, t_known, q_logs, t_logs, q_entry, t_entry, q_members, t_members, q_owners, t_owners, q_owner, t_owner, q_condition, t_condition, q_held, t_held⟩ := hm
  refine j_aload_n d_M_alter_0 rfl ?_
  refine j_geti d_M_alter_1 h0 f_M_83_M rfl (by decide) ?_
  refine j_eqi hV.1 ?_
  refine j_istore d_M_alter_4 (by decide) ?_
  refine j_aload_n d_M_alter_6 rfl ?_
  refine j_getR d_M_alter_7 h0 f_M_32_M rfl (by decide) q_members ?_
  refine j_iload d_M_alter_10 rfl ?_
  refine j_iconst (v := 1) d_M_alter_12 (by decide) ?_
  refine j_isub d_M_alter_13 ?_
  refine j_eqi (pk_sub (b := 1) s1) ?_
  refine j_iald d_M_alter_14 t_members (aIx.n (by omega) (by decide)) ?_
  refine j_eqi x1 ?_
  refine j_istore d_M_alter_15 (by decide) ?_
  refine j_iload d_M_alter_17 rfl ?_
  refine j_iload_n d_M_alter_19 rfl ?_
  refine j_iconst (v := 3) d_M_alter_20 (by decide) ?_
  refine j_icmp_ne (tgt := 28) d_M_alter_21 (by decide) (fun h21 => False.elim (h21 rfl)) (fun h21 => ?_)
  refine j_iload_n d_M_alter_24 rfl ?_
  refine j_goto 29 d_M_alter_25 (by decide) ?_
  refine j_ishr d_M_alter_29 ?_
  refine j_iconst (v := 1) d_M_alter_30 (by decide) ?_
  refine j_iand d_M_alter_31 ?_
  refine j_eqi (mb_bit _ a1 a3) ?_
  refine j_iconst (v := 1) d_M_alter_32 (by decide) ?_
  refine j_icmp_ne (tgt := 40) d_M_alter_33 (by decide) (fun h33 => ?_) (fun h33 => ?_)
  · have k33 : (V.2 (V.1 - 1)).1 (E 3) = false := by cases q : (V.2 (V.1 - 1)).1 (E 3); rfl; rw [q] at h33; exact absurd rfl h33
    refine j_iconst (v := 0) d_M_alter_40 (by decide) ?_
    refine j_istore d_M_alter_41 (by decide) ?_
    refine j_iload_n d_M_alter_43 rfl ?_
    refine j_iconst (v := 1) d_M_alter_44 (by decide) ?_
    refine j_icmp_ne (tgt := 61) d_M_alter_45 (by decide) (fun h45 => ?_) (fun h45 => False.elim (absurd h45 (by decide)))
    refine j_iload_n d_M_alter_61 rfl ?_
    refine j_iconst (v := 2) d_M_alter_62 (by decide) ?_
    refine j_icmp_ne (tgt := 87) d_M_alter_63 (by decide) (fun h63 => ?_) (fun h63 => False.elim (absurd h63 (by decide)))
    refine j_iload d_M_alter_87 rfl ?_
    refine j_istore d_M_alter_89 (by decide) ?_
    refine j_iload d_M_alter_91 rfl ?_
    refine j_bipush (v := 16) d_M_alter_93 (by decide) ?_
    refine j_icmp_eq (tgt := 103) d_M_alter_95 (by decide) (fun h95 => ?_) (fun h95 => ?_)
    · refine j_return d_M_alter_103 rfl ⟨rfl, rfl⟩ (by decide) (by decide)
    · have k95 := i_ne (b := 16) (by omega) (by decide) h95
      refine j_iload d_M_alter_98 rfl ?_
      refine j_if_ne (tgt := 104) d_M_alter_100 (by decide) (fun h100 => ?_) (fun h100 => ?_)
      · first
          | exact absurd rfl h100
          | exact absurd rfl h50
          | exact absurd h50 (by decide)
          | exact absurd k33 (hno.resolve_left k95)
      · refine j_return d_M_alter_103 rfl ⟨rfl, rfl⟩ (by decide) (by decide)
  · have k33 : (V.2 (V.1 - 1)).1 (E 3) = true := bI_n0 (by rw [h33]; decide)
    refine j_iconst (v := 1) d_M_alter_36 (by decide) ?_
    refine j_goto 41 d_M_alter_37 (by decide) ?_
    refine j_istore d_M_alter_41 (by decide) ?_
    refine j_iload_n d_M_alter_43 rfl ?_
    refine j_iconst (v := 1) d_M_alter_44 (by decide) ?_
    refine j_icmp_ne (tgt := 61) d_M_alter_45 (by decide) (fun h45 => ?_) (fun h45 => False.elim (absurd h45 (by decide)))
    refine j_iload_n d_M_alter_61 rfl ?_
    refine j_iconst (v := 2) d_M_alter_62 (by decide) ?_
    refine j_icmp_ne (tgt := 87) d_M_alter_63 (by decide) (fun h63 => ?_) (fun h63 => False.elim (absurd h63 (by decide)))
    refine j_iload d_M_alter_87 rfl ?_
    refine j_istore d_M_alter_89 (by decide) ?_
    refine j_iload d_M_alter_91 rfl ?_
    refine j_bipush (v := 16) d_M_alter_93 (by decide) ?_
    refine j_icmp_eq (tgt := 103) d_M_alter_95 (by decide) (fun h95 => ?_) (fun h95 => ?_)
    · refine j_return d_M_alter_103 rfl ⟨rfl, rfl⟩ (by decide) (by decide)
    · have k95 := i_ne (b := 16) (by omega) (by decide) h95
      refine j_iload d_M_alter_98 rfl ?_
      refine j_if_ne (tgt := 104) d_M_alter_100 (by decide) (fun h100 => ?_) (fun h100 => ?_)
      · first
          | exact absurd rfl h100
          | exact absurd rfl h50
          | exact absurd h50 (by decide)
          | exact absurd k33 (hno.resolve_left k95)
      · refine j_return d_M_alter_103 rfl ⟨rfl, rfl⟩ (by decide) (by decide)
set_option maxRecDepth 20000 in
set_option maxHeartbeats 1000000 in
theorem q_alter_3 (M : aM) (V : aSv) (E : Nat → Nat) (hm : mSh M) (hV : mSv M V) (vV : svV V) (e1 : E 1 = 3) (a8 : E 2 < 8) (a1 : 1 ≤ E 3) (a3 : E 3 ≤ 3) (hlt : V.1 < 16) (hf : (V.2 (V.1 - 1)).1 (E 3) = true) : aK m_M_alter 3 0 0 M [.ref 332, .int 3, .int (nI (E 2)), .int (nI (E 3))] (fun M1 r => r = none ∧ mSv M1 (svStep V E) ∧ oI M M1 vcl ∧ mI M1 332 10 = mI M 332 10) := by
  refine aK.of (by decide) (Nat.le_of_ble_eq_true rfl) ?_
  have hmm := hm
  obtain ⟨s1, s16, s3⟩ := vV
  obtain ⟨x1, x2⟩ := hV.2 (V.1 - 1) (by omega)
  have cv := s3 (V.1 - 1) (by omega)
  have hb : ∀ s, s < 8 → (V.2 (V.1 - 1)).2 s < 4 := fun s hs => cv.lt hs
  rw [svS_3 e1 hlt hf]
  have sh : ∀ M1, rwO (sI (sI M 332 7 (nI (V.1 + 1))) 340 V.1 (nI (mb (V.2 (V.1 - 1)).1))) M1 V.1 → mSh M1 := fun M1 o => o.1.mSh (mSh_sI (mSh_sI hm))
  have cM : ∀ M1, rwO (sI (sI M 332 7 (nI (V.1 + 1))) 340 V.1 (nI (mb (V.2 (V.1 - 1)).1))) M1 V.1 → mI M1 340 V.1 = nI (mb (V.2 (V.1 - 1)).1) := fun M1 o => (o.1.2.2 340 (by decide) V.1).trans (by rw [mm_I_sI, if_pos ⟨rfl, rfl⟩])
  have at196 : ∀ (M1 : aM) (z : Option Value), rwO (sI (sI M 332 7 (nI (V.1 + 1))) 340 V.1 (nI (mb (V.2 (V.1 - 1)).1))) M1 V.1 → mRow M1 V.1 (V.2 (V.1 - 1)).2 → aJ aX0 m_M_alter 3 0 0 (fun M1 r => r = none ∧ mSv M1 (V.1 + 1, fu V.2 V.1 (cfM (V.2 (V.1 - 1)) (E 2) (E 3))) ∧ oI M M1 vcl ∧ mI M1 332 10 = mI M 332 10) 0 0 196 [some (.ref 332), some (.int 3), some (.int (nI (E 2))), some (.int (nI (E 3))), some (.int (nI V.1)), some (.int (nI (mb (V.2 (V.1 - 1)).1))), some (.int 1), some (.int 1), z] [] M1 := by
    intro M1 z o r
    obtain ⟨h0, q_off, t_off, q_leads, t_leads, q_term, t_term, q_length, t_length, q_known, t_known, q_logs, t_logs, q_entry, t_entry, q_members, t_members, q_owners, t_owners, q_owner, t_owner, q_condition, t_condition, q_held, t_held⟩ := sh M1 o
    refine j_iload_n d_M_alter_196 rfl ?_
    refine j_iconst (v := 3) d_M_alter_197 (by decide) ?_
    refine j_icmp_ne (tgt := 215) d_M_alter_198 (by decide) (fun h198 => False.elim (h198 rfl)) (fun h198 => ?_)
    refine j_aload_n d_M_alter_201 rfl ?_
    refine j_getR d_M_alter_202 h0 f_M_35_M rfl (by decide) q_owners ?_
    refine j_bipush (v := 8) d_M_alter_205 (by decide) ?_
    refine j_iload d_M_alter_207 rfl ?_
    refine j_imul d_M_alter_209 ?_
    refine j_iload_n d_M_alter_210 rfl ?_
    refine j_iadd d_M_alter_211 ?_
    refine j_eqi (i8 V.1 (E 2)) ?_
    refine j_iload_n d_M_alter_212 rfl ?_
    refine j_iast d_M_alter_213 t_owners (aIx.n (by omega) (by decide)) ?_
    refine j_return d_M_alter_214 rfl ?_ (by decide) (by decide)
    exact ⟨rfl, mSv_add hV (f := cfM (V.2 (V.1 - 1)) (E 2) (E 3)) (o.sI a8) r.sI⟩
  have cp : ∀ (j i : Nat) (M1 : aM), i + j = 8 → rwO (sI (sI M 332 7 (nI (V.1 + 1))) 340 V.1 (nI (mb (V.2 (V.1 - 1)).1))) M1 V.1 → (∀ s, s < i → mI M1 341 (8 * V.1 + s) = nI ((V.2 (V.1 - 1)).2 s)) → aJ aX0 m_M_alter 3 0 0 (fun M1 r => r = none ∧ mSv M1 (V.1 + 1, fu V.2 V.1 (cfM (V.2 (V.1 - 1)) (E 2) (E 3))) ∧ oI M M1 vcl ∧ mI M1 332 10 = mI M 332 10) 0 0 154 [some (.ref 332), some (.int 3), some (.int (nI (E 2))), some (.int (nI (E 3))), some (.int (nI V.1)), some (.int (nI (mb (V.2 (V.1 - 1)).1))), some (.int 1), some (.int 1), some (.int (nI i))] [] M1 := by
    intro j
    induction j with
    | zero =>
      intro i M1 hij o r
      have e8 : i = 8 := by omega
      subst e8
      refine j_iload d_M_alter_154 rfl ?_
      refine j_bipush (v := 8) d_M_alter_156 (by decide) ?_
      refine j_icmp_ge (tgt := 196) d_M_alter_158 (by decide) (fun h158 => ?_) (fun h158 => False.elim (h158 (nI_le (by decide) (by decide))))
      -- at 196
      exact at196 M1 _ o r
    | succ j ih =>
      intro i M1 hij o r
      have old : mI M1 341 (8 * (V.1 - 1) + i) = nI ((V.2 (V.1 - 1)).2 i) := by rw [o.2 _ (by omega), mm_I_sI, if_neg (by omega), mm_I_sI, if_neg (by omega)]; exact x2 i (by omega)
      obtain ⟨h0, q_off, t_off, q_leads, t_leads, q_term, t_term, q_length, t_length, q_known, t_known, q_logs, t_logs, q_entry, t_entry, q_members, t_members, q_owners, t_owners, q_owner, t_owner, q_condition, t_condition, q_held, t_held⟩ := sh M1 o
      refine j_iload d_M_alter_154 rfl ?_
      refine j_bipush (v := 8) d_M_alter_156 (by decide) ?_
      refine j_icmp_ge (tgt := 196) d_M_alter_158 (by decide) (fun h158 => False.elim (nI_ge (b := 8) (by omega) (by decide) h158)) (fun h158 => ?_)
      refine j_aload_n d_M_alter_161 rfl ?_
      refine j_getR d_M_alter_162 h0 f_M_35_M rfl (by decide) q_owners ?_
      refine j_bipush (v := 8) d_M_alter_165 (by decide) ?_
      refine j_iload d_M_alter_167 rfl ?_
      refine j_imul d_M_alter_169 ?_
      refine j_iload d_M_alter_170 rfl ?_
      refine j_iadd d_M_alter_172 ?_
      refine j_eqi (i8 V.1 i) ?_
      refine j_aload_n d_M_alter_173 rfl ?_
      refine j_getR d_M_alter_174 h0 f_M_35_M rfl (by decide) q_owners ?_
      refine j_bipush (v := 8) d_M_alter_177 (by decide) ?_
      refine j_iload d_M_alter_179 rfl ?_
      refine j_imul d_M_alter_181 ?_
      refine j_bipush (v := 8) d_M_alter_182 (by decide) ?_
      refine j_isub d_M_alter_184 ?_
      refine j_iload d_M_alter_185 rfl ?_
      refine j_iadd d_M_alter_187 ?_
      refine j_eqi (i8m i s1) ?_
      refine j_iald d_M_alter_188 t_owners (aIx.n (by omega) (by decide)) ?_
      refine j_eqi old ?_
      refine j_iast d_M_alter_189 t_owners (aIx.n (by omega) (by decide)) ?_
      refine j_iinc (nI (i + 1)) d_M_alter_190 rfl (nI_inc i) (by decide) ?_
      refine j_goto 154 d_M_alter_193 (by decide) ?_
      -- at 154
      refine ih (i + 1) _ (by omega) (o.sI (by omega)) (fun s hs => ?_)
      rw [mm_I_sI]
      by_cases z : s = i
      · rw [if_pos ⟨rfl, by rw [z]⟩, z]
      · rw [if_neg (by omega)]; exact r s (by omega)
  obtain ⟨h0, q_off, t_off, q_leads, t_leads, q_term, t_term, q_length, t_length, q_known, t_known, q_logs, t_logs, q_entry, t_entry, q_members, t_members, q_owners, t_owners, q_owner, t_owner, q_condition, t_condition, q_held, t_held⟩ := hm
  refine j_aload_n d_M_alter_0 rfl ?_
  refine j_geti d_M_alter_1 h0 f_M_83_M rfl (by decide) ?_
  refine j_eqi hV.1 ?_
  refine j_istore d_M_alter_4 (by decide) ?_
  refine j_aload_n d_M_alter_6 rfl ?_
  refine j_getR d_M_alter_7 h0 f_M_32_M rfl (by decide) q_members ?_
  refine j_iload d_M_alter_10 rfl ?_
  refine j_iconst (v := 1) d_M_alter_12 (by decide) ?_
  refine j_isub d_M_alter_13 ?_
  refine j_eqi (pk_sub (b := 1) s1) ?_
  refine j_iald d_M_alter_14 t_members (aIx.n (by omega) (by decide)) ?_
  refine j_eqi x1 ?_
  refine j_istore d_M_alter_15 (by decide) ?_
  refine j_iload d_M_alter_17 rfl ?_
  refine j_iload_n d_M_alter_19 rfl ?_
  refine j_iconst (v := 3) d_M_alter_20 (by decide) ?_
  refine j_icmp_ne (tgt := 28) d_M_alter_21 (by decide) (fun h21 => False.elim (h21 rfl)) (fun h21 => ?_)
  refine j_iload_n d_M_alter_24 rfl ?_
  refine j_goto 29 d_M_alter_25 (by decide) ?_
  refine j_ishr d_M_alter_29 ?_
  refine j_iconst (v := 1) d_M_alter_30 (by decide) ?_
  refine j_iand d_M_alter_31 ?_
  refine j_eqi (mb_bit _ a1 a3) ?_
  refine j_iconst (v := 1) d_M_alter_32 (by decide) ?_
  refine j_icmp_ne (tgt := 40) d_M_alter_33 (by decide) (fun h33 => False.elim (h33 (by rw [hf]; rfl))) (fun h33 => ?_)
  refine j_iconst (v := 1) d_M_alter_36 (by decide) ?_
  refine j_goto 41 d_M_alter_37 (by decide) ?_
  refine j_istore d_M_alter_41 (by decide) ?_
  refine j_iload_n d_M_alter_43 rfl ?_
  refine j_iconst (v := 1) d_M_alter_44 (by decide) ?_
  refine j_icmp_ne (tgt := 61) d_M_alter_45 (by decide) (fun h45 => ?_) (fun h45 => False.elim (absurd h45 (by decide)))
  refine j_iload_n d_M_alter_61 rfl ?_
  refine j_iconst (v := 2) d_M_alter_62 (by decide) ?_
  refine j_icmp_ne (tgt := 87) d_M_alter_63 (by decide) (fun h63 => ?_) (fun h63 => False.elim (absurd h63 (by decide)))
  refine j_iload d_M_alter_87 rfl ?_
  refine j_istore d_M_alter_89 (by decide) ?_
  refine j_iload d_M_alter_91 rfl ?_
  refine j_bipush (v := 16) d_M_alter_93 (by decide) ?_
  refine j_icmp_eq (tgt := 103) d_M_alter_95 (by decide) (fun h95 => False.elim (absurd (i_eq (b := 16) (by omega) (by decide) h95) (by omega))) (fun h95 => ?_)
  refine j_iload d_M_alter_98 rfl ?_
  refine j_if_ne (tgt := 104) d_M_alter_100 (by decide) (fun h100 => ?_) (fun h100 => False.elim (absurd h100 (by decide)))
  refine j_aload_n d_M_alter_104 rfl ?_
  refine j_dup d_M_alter_105 ?_
  refine j_geti d_M_alter_106 h0 f_M_83_M rfl (by decide) ?_
  refine j_eqi hV.1 ?_
  refine j_iconst (v := 1) d_M_alter_109 (by decide) ?_
  refine j_iadd d_M_alter_110 ?_
  refine j_eqi (nI_succ V.1).symm ?_
  refine j_puti d_M_alter_111 h0 p_M_83_M rfl (by decide) rfl rfl ?_
  refine j_aload_n d_M_alter_114 rfl ?_
  refine j_getR d_M_alter_115 h0 f_M_32_M rfl (by decide) q_members ?_
  refine j_iload d_M_alter_118 rfl ?_
  refine j_iload_n d_M_alter_120 rfl ?_
  refine j_iconst (v := 1) d_M_alter_121 (by decide) ?_
  refine j_icmp_ne (tgt := 134) d_M_alter_122 (by decide) (fun h122 => ?_) (fun h122 => False.elim (absurd h122 (by decide)))
  refine j_iload_n d_M_alter_134 rfl ?_
  refine j_iconst (v := 2) d_M_alter_135 (by decide) ?_
  refine j_icmp_ne (tgt := 148) d_M_alter_136 (by decide) (fun h136 => ?_) (fun h136 => False.elim (absurd h136 (by decide)))
  refine j_iload d_M_alter_148 rfl ?_
  refine j_iast d_M_alter_150 t_members (aIx.n (by omega) (by decide)) ?_
  refine j_iconst (v := 0) d_M_alter_151 (by decide) ?_
  refine j_istore d_M_alter_152 (by decide) ?_
  -- at 154
  exact cp 8 0 _ (by decide) (rwO.rf _ _) (fun s hs => absurd hs (Nat.not_lt_zero s))
theorem q_alter (M : aM) (V : aSv) (E : Nat → Nat) (hm : mSh M) (hV : mSv M V) (vV : svV V) (hE : eV E) (k1 : 1 ≤ E 1) (k3 : E 1 ≤ 3) : aK m_M_alter 3 0 0 M [.ref 332, .int (nI (E 1)), .int (nI (E 2)), .int (nI (E 3))] (fun M1 r => r = none ∧ mSv M1 (svStep V E) ∧ oI M M1 vcl ∧ mI M1 332 10 = mI M 332 10) := by
  obtain ⟨-, -, f12, f3, -⟩ := hE
  have no : svStep V E = V → ∀ M1 (r : Option Value), (r = none ∧ M1 = M) → (fun M1 r => r = none ∧ mSv M1 (svStep V E) ∧ oI M M1 vcl ∧ mI M1 332 10 = mI M 332 10) M1 r := by
    rintro e M1 r ⟨rfl, rfl⟩
    exact ⟨rfl, by rw [e]; exact hV, oI.rf _ _, rfl⟩
  rcases (by omega : E 1 = 1 ∨ E 1 = 2 ∨ E 1 = 3) with e1 | e1 | e1
  · obtain ⟨a1, a3⟩ := f12 (Or.inl e1)
    by_cases q : V.1 = 16 ∨ ¬ (V.2 (V.1 - 1)).1 (E 2) = false
    · have := (q_alter_n1 M V E hm hV vV e1 a1 a3 q).weaken (no (svS_n (q.elim (fun z => Or.inl (by omega)) (fun z => Or.inr (Or.inl ⟨e1, by cases y : (V.2 (V.1 - 1)).1 (E 2); exact absurd y z; rfl⟩)))))
      rw [e1]; exact this
    · have h2 : (V.2 (V.1 - 1)).1 (E 2) = false := Decidable.byContradiction (fun z => q (Or.inr z))
      have := q_alter_1 M V E hm hV vV e1 a1 a3 (by have := vV.2.1; have : V.1 ≠ 16 := fun z => q (Or.inl z); omega) h2
      rw [e1]; exact this
  · obtain ⟨a1, a3⟩ := f12 (Or.inr e1)
    by_cases q : V.1 = 16 ∨ ¬ ((V.2 (V.1 - 1)).1 (E 2) = true ∧ 1 < nM (V.2 (V.1 - 1)).1)
    · have := (q_alter_n2 M V E hm hV vV e1 a1 a3 q).weaken (no (svS_n (q.elim (fun z => Or.inl (by omega)) (fun z => Or.inr (Or.inr (Or.inl ⟨e1, z⟩))))))
      rw [e1]; exact this
    · have h2 : (V.2 (V.1 - 1)).1 (E 2) = true ∧ 1 < nM (V.2 (V.1 - 1)).1 := Decidable.byContradiction (fun z => q (Or.inr z))
      have := q_alter_2 M V E hm hV vV e1 a1 a3 (by have := vV.2.1; have : V.1 ≠ 16 := fun z => q (Or.inl z); omega) h2.1 h2.2
      rw [e1]; exact this
  · obtain ⟨a8, a1, a3⟩ := f3 e1
    by_cases q : V.1 = 16 ∨ ¬ (V.2 (V.1 - 1)).1 (E 3) = true
    · have := (q_alter_n3 M V E hm hV vV e1 a8 a1 a3 q).weaken (no (svS_n (q.elim (fun z => Or.inl (by omega)) (fun z => Or.inr (Or.inr (Or.inr (Or.inl ⟨e1, by cases y : (V.2 (V.1 - 1)).1 (E 3); rfl; exact absurd y z⟩)))))))
      rw [e1]; exact this
    · have h2 : (V.2 (V.1 - 1)).1 (E 3) = true := Decidable.byContradiction (fun z => q (Or.inr z))
      have := q_alter_3 M V E hm hV vV e1 a8 a1 a3 (by have := vV.2.1; have : V.1 ≠ 16 := fun z => q (Or.inl z); omega) h2
      rw [e1]; exact this
set_option maxRecDepth 20000 in
set_option maxHeartbeats 1000000 in
theorem q_service (M : aM) (S : aS) (t n : Nat) (h : mRep M S) (hi : sInv S t) (hn : n < 12) : aK m_M_service 4 0 0 M [.ref 332, .int (nI n)] (fun M1 r => r = none ∧ mSv M1 (sSv S n) ∧ oI M M1 vcl ∧ mI M1 332 10 = mI M 332 10) := by
  refine aK.of (by decide) (Nat.le_of_ble_eq_true rfl) ?_
  have hm := h.1
  obtain ⟨i1, i2, i3, i4⟩ := hi.1 n hn
  have hkn := (h.2 n hn).2.2.2.2.1
  have loop : ∀ (j k : Nat) (M1 : aM) (z3 z4 : Option Value), k + j = sKn S n → oI M M1 vcl → mI M1 332 10 = mI M 332 10 → mSv M1 (svc (sLg S n) k) → aJ aX0 m_M_service 4 0 0 (fun M1 r => r = none ∧ mSv M1 (sSv S n) ∧ oI M M1 vcl ∧ mI M1 332 10 = mI M 332 10) 0 0 35 [some (.ref 332), some (.int (nI n)), some (.int (nI k)), z3, z4] [] M1 := by
    intro j
    induction j with
    | zero =>
      intro k M1 z3 z4 hk o h10 hG
      have ek : k = sKn S n := by omega
      have kn1 : mI M1 337 n = nI (sKn S n) := (o.2.2 337 (by unfold vcl; omega) n).trans hkn
      obtain ⟨h0, q_off, t_off, q_leads, t_leads, q_term, t_term, q_length, t_length, q_known, t_known, q_logs, t_logs, q_entry, t_entry, q_members, t_members, q_owners, t_owners, q_owner, t_owner, q_condition, t_condition, q_held, t_held⟩ := o.mSh hm
      refine j_iload_n d_M_service_35 rfl ?_
      refine j_aload_n d_M_service_36 rfl ?_
      refine j_getR d_M_service_37 h0 f_M_23_M rfl (by decide) q_known ?_
      refine j_iload_n d_M_service_40 rfl ?_
      refine j_iald d_M_service_41 t_known (aIx.n hn (by decide)) ?_
      refine j_eqi kn1 ?_
      refine j_icmp_ge (tgt := 101) d_M_service_42 (by decide) (fun h42 => ?_) (fun h42 => False.elim (h42 (nI_le (by omega) (by omega))))
      refine j_return d_M_service_101 rfl ?_ (by decide) (by decide)
      rw [ek] at hG
      exact ⟨rfl, hG, o, h10⟩
    | succ j ih =>
      intro k M1 z3 z4 hk o h10 hG
      have kn1 : mI M1 337 n = nI (sKn S n) := (o.2.2 337 (by unfold vcl; omega) n).trans hkn
      have eV1 := i4 k (by omega)
      have sV1 := svV_svc (lg := sLg S n) k (fun x hx => i4 x (by omega))
      have hE : lgE M1 (15 * (80 * n + k)) (sLg S n k) := (lgE_of h hn i1 (by omega)).o o (by unfold vcl; omega)
      have ihG : ∀ (M2 : aM) (z3 z4 : Option Value), oI M M2 vcl → mI M2 332 10 = mI M 332 10 → mSv M2 (svStep (svc (sLg S n) k) (sLg S n k)) → aJ aX0 m_M_service 4 0 0 (fun M1 r => r = none ∧ mSv M1 (sSv S n) ∧ oI M M1 vcl ∧ mI M1 332 10 = mI M 332 10) 0 0 35 [some (.ref 332), some (.int (nI n)), some (.int (nI (k + 1))), z3, z4] [] M2 := fun M2 z3 z4 o2 h2 hG2 => ih (k + 1) M2 z3 z4 (by omega) o2 h2 hG2
      generalize hpp : 15 * (80 * n + k) = p at hE
      generalize svc (sLg S n) k = V at hG sV1 ihG
      generalize sLg S n k = E at eV1 hE ihG
      have hp := hE.1
      have v7 := eV1.2.1
      have hmm := o.mSh hm
      obtain ⟨h0, q_off, t_off, q_leads, t_leads, q_term, t_term, q_length, t_length, q_known, t_known, q_logs, t_logs, q_entry, t_entry, q_members, t_members, q_owners, t_owners, q_owner, t_owner, q_condition, t_condition, q_held, t_held⟩ := o.mSh hm
      refine j_iload_n d_M_service_35 rfl ?_
      refine j_aload_n d_M_service_36 rfl ?_
      refine j_getR d_M_service_37 h0 f_M_23_M rfl (by decide) q_known ?_
      refine j_iload_n d_M_service_40 rfl ?_
      refine j_iald d_M_service_41 t_known (aIx.n hn (by decide)) ?_
      refine j_eqi kn1 ?_
      refine j_icmp_ge (tgt := 101) d_M_service_42 (by decide) (fun h42 => False.elim (nI_ge (a := k) (b := sKn S n) (by omega) (by omega) h42)) (fun h42 => ?_)
      refine j_iload_n d_M_service_45 rfl ?_
      refine j_iload_n d_M_service_46 rfl ?_
      refine j_callS (vs := [_, _]) d_M_service_47 w699 w700 w7 w701 y_M_place (by decide) (by decide) (k_place M1 n k) rfl (Nat.le_of_ble_eq_true rfl) (by decide) (by decide) (fun M2 r2 hq2 => ?_)
      obtain ⟨rfl, rfl⟩ := hq2
      rw [hpp]
      refine j_istore_n d_M_service_50 (by decide) ?_
      refine j_aload_n d_M_service_51 rfl ?_
      refine j_getR d_M_service_52 h0 f_M_26_M rfl (by decide) q_logs ?_
      refine j_iload_n d_M_service_55 rfl ?_
      refine j_iconst (v := 1) d_M_service_56 (by decide) ?_
      refine j_iadd d_M_service_57 ?_
      refine j_eqi (nI_add p 1) ?_
      refine j_iald d_M_service_58 t_logs (aIx.n (by omega) (by decide)) ?_
      refine j_eqi (hE.2 1 (by decide)) ?_
      refine j_istore d_M_service_59 (by decide) ?_
      refine j_iload d_M_service_61 rfl ?_
      refine j_iconst (v := 1) d_M_service_63 (by decide) ?_
      refine j_icmp_lt (tgt := 95) d_M_service_64 (by decide) (fun h64 => ?_) (fun h64 => ?_)
      · have k64 := i_lt (b := 1) (by omega) (by decide) h64
        have hst : svStep V E = V := svS_n (Or.inr (Or.inr (Or.inr (Or.inr (Or.inl (by omega))))))
        refine j_iinc (nI (k + 1)) d_M_service_95 rfl (nI_inc k) (by decide) ?_
        refine j_goto 35 d_M_service_98 (by decide) ?_
        -- at 35
        first
          | exact ihG M3 _ _ (o.tr o3) (h3.trans h10) hG3
          | exact ihG M2 _ _ o h10 (by rw [hst]; exact hG)
      · have k64 := i_nlt (b := 1) (by omega) (by decide) h64
        refine j_iload d_M_service_67 rfl ?_
        refine j_iconst (v := 3) d_M_service_69 (by decide) ?_
        refine j_icmp_gt (tgt := 95) d_M_service_70 (by decide) (fun h70 => ?_) (fun h70 => ?_)
        · have k70 := i_lt (a := 3) (by decide) (by omega) h70
          have hst : svStep V E = V := svS_n (Or.inr (Or.inr (Or.inr (Or.inr (Or.inr (by omega))))))
          refine j_iinc (nI (k + 1)) d_M_service_95 rfl (nI_inc k) (by decide) ?_
          refine j_goto 35 d_M_service_98 (by decide) ?_
          -- at 35
          first
            | exact ihG M3 _ _ (o.tr o3) (h3.trans h10) hG3
            | exact ihG M2 _ _ o h10 (by rw [hst]; exact hG)
        · have k70 := i_nlt (a := 3) (by decide) (by omega) h70
          refine j_aload_n d_M_service_73 rfl ?_
          refine j_iload d_M_service_74 rfl ?_
          refine j_aload_n d_M_service_76 rfl ?_
          refine j_getR d_M_service_77 h0 f_M_26_M rfl (by decide) q_logs ?_
          refine j_iload_n d_M_service_80 rfl ?_
          refine j_iconst (v := 2) d_M_service_81 (by decide) ?_
          refine j_iadd d_M_service_82 ?_
          refine j_eqi (nI_add p 2) ?_
          refine j_iald d_M_service_83 t_logs (aIx.n (by omega) (by decide)) ?_
          refine j_eqi (hE.2 2 (by decide)) ?_
          refine j_aload_n d_M_service_84 rfl ?_
          refine j_getR d_M_service_85 h0 f_M_26_M rfl (by decide) q_logs ?_
          refine j_iload_n d_M_service_88 rfl ?_
          refine j_iconst (v := 3) d_M_service_89 (by decide) ?_
          refine j_iadd d_M_service_90 ?_
          refine j_eqi (nI_add p 3) ?_
          refine j_iald d_M_service_91 t_logs (aIx.n (by omega) (by decide)) ?_
          refine j_eqi (hE.2 3 (by decide)) ?_
          refine j_callV (vs := [_, _, _]) d_M_service_92 h0 (by decide) rfl w762 w764 w7 w765 ws_M_alter y_M_alter (by decide) (by decide) (q_alter M2 V E hmm hG sV1 eV1 k64 k70) rfl (Nat.le_of_ble_eq_true rfl) (by decide) (by decide) (fun M3 r3 hq3 => ?_)
          obtain ⟨rfl, hG3, o3, h3⟩ := hq3
          refine j_iinc (nI (k + 1)) d_M_service_95 rfl (nI_inc k) (by decide) ?_
          refine j_goto 35 d_M_service_98 (by decide) ?_
          -- at 35
          first
            | exact ihG M3 _ _ (o.tr o3) (h3.trans h10) hG3
            | exact ihG M2 _ _ o h10 (by rw [hst]; exact hG)
  have st : ∀ (j i : Nat) (M1 : aM), i + j = 8 → oI M M1 vcl → mI M1 332 10 = mI M 332 10 → mI M1 332 7 = nI 1 → mI M1 340 0 = 0 → (∀ s, s < i → mI M1 341 s = 0) → aJ aX0 m_M_service 4 0 0 (fun M1 r => r = none ∧ mSv M1 (sSv S n) ∧ oI M M1 vcl ∧ mI M1 332 10 = mI M 332 10) 0 0 14 [some (.ref 332), some (.int (nI n)), some (.int (nI i)), none, none] [] M1 := by
    intro j
    induction j with
    | zero =>
      intro i M1 hij o h10 h7 hM hz
      have e8 : i = 8 := by omega
      subst e8
      obtain ⟨h0, q_off, t_off, q_leads, t_leads, q_term, t_term, q_length, t_length, q_known, t_known, q_logs, t_logs, q_entry, t_entry, q_members, t_members, q_owners, t_owners, q_owner, t_owner, q_condition, t_condition, q_held, t_held⟩ := o.mSh hm
      refine j_iload_n d_M_service_14 rfl ?_
      refine j_bipush (v := 8) d_M_service_15 (by decide) ?_
      refine j_icmp_ge (tgt := 33) d_M_service_17 (by decide) (fun h17 => ?_) (fun h17 => False.elim (h17 (nI_le (by decide) (by decide))))
      refine j_iconst (v := 0) d_M_service_33 (by decide) ?_
      refine j_istore_n d_M_service_34 (by decide) ?_
      -- at 35
      refine loop (sKn S n) 0 M1 _ _ (Nat.zero_add _) o h10 ⟨h7, fun c hc => ?_⟩
      have hc0 : c = 0 := by have : c < 1 := hc; omega
      subst hc0
      exact ⟨hM, fun s hs => (by rw [show 8 * 0 + s = s by omega]; exact hz s hs)⟩
    | succ j ih =>
      intro i M1 hij o h10 h7 hM hz
      obtain ⟨h0, q_off, t_off, q_leads, t_leads, q_term, t_term, q_length, t_length, q_known, t_known, q_logs, t_logs, q_entry, t_entry, q_members, t_members, q_owners, t_owners, q_owner, t_owner, q_condition, t_condition, q_held, t_held⟩ := o.mSh hm
      refine j_iload_n d_M_service_14 rfl ?_
      refine j_bipush (v := 8) d_M_service_15 (by decide) ?_
      refine j_icmp_ge (tgt := 33) d_M_service_17 (by decide) (fun h17 => False.elim (nI_ge (b := 8) (by omega) (by decide) h17)) (fun h17 => ?_)
      refine j_aload_n d_M_service_20 rfl ?_
      refine j_getR d_M_service_21 h0 f_M_35_M rfl (by decide) q_owners ?_
      refine j_iload_n d_M_service_24 rfl ?_
      refine j_iconst (v := 0) d_M_service_25 (by decide) ?_
      refine j_iast d_M_service_26 t_owners (aIx.n (by omega) (by decide)) ?_
      refine j_iinc (nI (i + 1)) d_M_service_27 rfl (nI_inc i) (by decide) ?_
      refine j_goto 14 d_M_service_30 (by decide) ?_
      -- at 14
      refine ih (i + 1) _ (by omega) (o.sI (Or.inr (Or.inr rfl))) ?_ ?_ ?_ (fun s hs => ?_)
      · rw [mm_I_sI, if_neg (by omega)]; exact h10
      · rw [mm_I_sI, if_neg (by omega)]; exact h7
      · rw [mm_I_sI, if_neg (by omega)]; exact hM
      · rw [mm_I_sI]
        by_cases z : s = i
        · rw [if_pos ⟨rfl, z⟩]
        · rw [if_neg (fun y => z y.2)]; exact hz s (by omega)
  obtain ⟨h0, q_off, t_off, q_leads, t_leads, q_term, t_term, q_length, t_length, q_known, t_known, q_logs, t_logs, q_entry, t_entry, q_members, t_members, q_owners, t_owners, q_owner, t_owner, q_condition, t_condition, q_held, t_held⟩ := hm
  refine j_aload_n d_M_service_0 rfl ?_
  refine j_iconst (v := 1) d_M_service_1 (by decide) ?_
  refine j_puti d_M_service_2 h0 p_M_83_M rfl (by decide) rfl rfl ?_
  refine j_aload_n d_M_service_5 rfl ?_
  refine j_getR d_M_service_6 h0 f_M_32_M rfl (by decide) q_members ?_
  refine j_iconst (v := 0) d_M_service_9 (by decide) ?_
  refine j_iconst (v := 0) d_M_service_10 (by decide) ?_
  refine j_iast d_M_service_11 t_members (aIx.of (j := 0) rfl (by decide) (by decide)) ?_
  refine j_iconst (v := 0) d_M_service_12 (by decide) ?_
  refine j_istore_n d_M_service_13 (by decide) ?_
  -- at 14
  refine st 8 0 _ (by decide) (((oI.rf M vcl).sI (Or.inl rfl)).sI (Or.inr (Or.inl rfl))) ?_ ?_ ?_ (fun s hs => absurd hs (Nat.not_lt_zero s))
  · rw [mm_I_sI, if_neg (by omega), mm_I_sI, if_neg (by omega)]
  · rw [mm_I_sI, if_neg (by omega), mm_I_sI, if_pos ⟨rfl, rfl⟩]; rfl
  · rw [mm_I_sI, if_pos ⟨rfl, rfl⟩]
