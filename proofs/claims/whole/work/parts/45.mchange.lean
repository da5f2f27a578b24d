def nsv (S : aS) (x : Int32) : Prop := ∀ n, dN x 3 = some n → sUp S n = false
def ngn (S : aS) (x : Int32) : Prop := ∀ n, dG x = some n → sUp S n = false
theorem nsv_no {S : aS} {x : Int32} (h : ¬ nsv S x) : ∃ n, n < 3 ∧ x = nI n ∧ dN x 3 = some n ∧ sUp S n = true := by
  rcases dN_cases x (N := 3) (by decide) with ⟨e, hx⟩ | ⟨n, hn, rfl, e⟩
  · exact absurd (fun n q => by rw [e] at q; cases q) h
  · refine ⟨n, hn, rfl, e, ?_⟩
    cases hu : sUp S n
    · exact absurd (fun m q => by rw [e] at q; cases q; exact hu) h
    · rfl
theorem ngn_no {S : aS} {x : Int32} (h : ¬ ngn S x) : ∃ n, 3 ≤ n ∧ n < 12 ∧ x = nI n ∧ dG x = some n ∧ sUp S n = true := by
  rcases dG_cases x with ⟨e, hx⟩ | ⟨n, h3, hn, rfl, e⟩
  · exact absurd (fun n q => by rw [e] at q; cases q) h
  · refine ⟨n, h3, hn, rfl, e, ?_⟩
    cases hu : sUp S n
    · exact absurd (fun m q => by rw [e] at q; cases q; exact hu) h
    · rfl
theorem bm1 (b : Int32) : (0 ≤ b - 1 ∧ b - 1 < 3) ↔ (1 ≤ b ∧ b < 4) := by
  have z0 : (0 : Int32).toInt = 0 := by decide
  have z1 : (1 : Int32).toInt = 1 := by decide
  have z3 : (3 : Int32).toInt = 3 := by decide
  have z4 : (4 : Int32).toInt = 4 := by decide
  have l1 := Int32.le_toInt b
  have l2 := Int32.toInt_lt b
  rw [Int32.le_iff_toInt_le, Int32.le_iff_toInt_le, Int32.lt_iff_toInt_lt, Int32.lt_iff_toInt_lt, Int32.toInt_sub, z0, z1, z3, z4]
  by_cases q : b.toInt = -2147483648
  · rw [q]; decide
  · rw [Int.bmod_eq_of_le (by omega) (by omega)]
    omega
theorem lt3 (k : Int32) : k < 3 ↔ k ≤ 2 := by
  have z2 : (2 : Int32).toInt = 2 := by decide
  have z3 : (3 : Int32).toInt = 3 := by decide
  rw [Int32.le_iff_toInt_le, Int32.lt_iff_toInt_lt, z2, z3]
  omega
theorem k3 (k : Int32) : (0 ≤ k ∧ k < 3) ↔ (k = 0 ∨ k = 1 ∨ k = 2) := by
  constructor
  · rintro ⟨h1, h2⟩
    rcases nI_of (x := k) (Int32.not_lt.mpr h1) with ⟨j, h3, rfl⟩
    have := i_lt (b := 3) h3 (by decide) h2
    rcases (by omega : j = 0 ∨ j = 1 ∨ j = 2) with rfl | rfl | rfl
    · exact Or.inl rfl
    · exact Or.inr (Or.inl rfl)
    · exact Or.inr (Or.inr rfl)
  · rintro (rfl | rfl | rfl) <;> decide
theorem say_E {x1 x2 x3 x4 x5 x6 : Int32} {E : Nat → Nat} (h1 : x1 = nI (E 1)) (h2 : x2 = nI (E 2)) (h3 : x3 = nI (E 3)) (h4 : x4 = nI (E 4)) (h5 : x5 = nI (E 5)) (h6 : x6 = nI (E 6)) {i : Nat} (hi : 1 ≤ i) (h7 : i < 7) : sayF x1 x2 x3 x4 x5 x6 i = nI (E i) := by
  rcases (by omega : i = 1 ∨ i = 2 ∨ i = 3 ∨ i = 4 ∨ i = 5 ∨ i = 6) with rfl | rfl | rfl | rfl | rfl | rfl
  · exact h1
  · exact h2
  · exact h3
  · exact h4
  · exact h5
  · exact h6
theorem say_0 {x1 x2 x3 x4 x5 x6 : Int32} {i : Nat} (hi : 7 ≤ i) : sayF x1 x2 x3 x4 x5 x6 i = 0 := by
  unfold sayF
  rw [if_neg (by omega), if_neg (by omega), if_neg (by omega), if_neg (by omega), if_neg (by omega), if_neg (by omega)]
theorem eM_0 {l : List Nat} {i : Nat} (h : l.length ≤ i) : eM l i = 0 := by
  unfold eM
  rw [List.getD_eq_getElem?_getD, List.getElem?_eq_none h]; rfl
theorem fY_say {M M1 : aM} (o : oI M M1 (fun a => a = 339)) : fY M M1 := o.fY (fun a ha => by unfold mdl; omega)
theorem mRep_say {M M1 : aM} {S : aS} (h : mRep M S) (o : oI M M1 (fun a => a = 339)) : mRep M1 S := mRep_o h o (fun a h1 h2 q => by omega)
theorem mQ_fY {M M1 M2 : aM} {o : aS × Int32} {r : Option Value} (f : fY M M1) (h : mQ M1 o M2 r) : mQ M o M2 r := ⟨h.1, h.2.1, f.tr h.2.2⟩

set_option maxRecDepth 20000 in
set_option maxHeartbeats 1000000 in
theorem k_noServer_1 (M : aM) (x : Int32) (hm : mSh M) (hx : x < 0 ∨ nI 3 ≤ x) : aK m_M_noServer 1 0 0 M [.ref 332, .int x] (fun M1 r => M1 = M ∧ r = some (.int 1)) := by
  refine aK.of (by decide) (Nat.le_of_ble_eq_true rfl) ?_
  obtain ⟨h0, q_off, t_off, q_leads, t_leads, q_term, t_term, q_length, t_length, q_known, t_known, q_logs, t_logs, q_entry, t_entry, q_members, t_members, q_owners, t_owners, q_owner, t_owner, q_condition, t_condition, q_held, t_held⟩ := hm
  refine j_iload_n d_M_noServer_0 rfl ?_
  refine j_iconst (v := 3) d_M_noServer_1 (by decide) ?_
  refine j_callS (vs := [_, _]) d_M_noServer_2 w680 w681 w7 w682 y_M_below (by decide) (by decide) (k_below_f M (N := 3) hx) rfl (Nat.le_of_ble_eq_true rfl) (by decide) (by decide) (fun M1 r1 hq1 => ?_)
  obtain ⟨rfl, rfl⟩ := hq1
  refine j_if_eq (tgt := 17) d_M_noServer_5 (by decide) (fun h5 => ?_) (fun h5 => False.elim (h5 rfl))
  refine j_iconst (v := 1) d_M_noServer_17 (by decide) ?_
  refine j_goto 22 d_M_noServer_18 (by decide) ?_
  refine j_ireturn d_M_noServer_22 rfl rfl ?_ (by decide) (by decide)
  exact ⟨rfl, rfl⟩
set_option maxRecDepth 20000 in
set_option maxHeartbeats 1000000 in
theorem k_noServer_2 (M : aM) (n : Nat) (u : Bool) (hm : mSh M) (hn : n < 3) (hu : mI M 333 n = bI (!u)) : aK m_M_noServer 1 0 0 M [.ref 332, .int (nI n)] (fun M1 r => M1 = M ∧ r = some (.int (bI (!u)))) := by
  refine aK.of (by decide) (Nat.le_of_ble_eq_true rfl) ?_
  obtain ⟨h0, q_off, t_off, q_leads, t_leads, q_term, t_term, q_length, t_length, q_known, t_known, q_logs, t_logs, q_entry, t_entry, q_members, t_members, q_owners, t_owners, q_owner, t_owner, q_condition, t_condition, q_held, t_held⟩ := hm
  refine j_iload_n d_M_noServer_0 rfl ?_
  refine j_iconst (v := 3) d_M_noServer_1 (by decide) ?_
  refine j_callS (vs := [_, _]) d_M_noServer_2 w680 w681 w7 w682 y_M_below (by decide) (by decide) (k_below_t M (N := 3) hn (by decide)) rfl (Nat.le_of_ble_eq_true rfl) (by decide) (by decide) (fun M1 r1 hq1 => ?_)
  obtain ⟨rfl, rfl⟩ := hq1
  refine j_if_eq (tgt := 17) d_M_noServer_5 (by decide) (fun h5 => False.elim (absurd h5 (by decide))) (fun h5 => ?_)
  refine j_aload_n d_M_noServer_8 rfl ?_
  refine j_getR d_M_noServer_9 h0 f_M_7_M rfl (by decide) q_off ?_
  refine j_iload_n d_M_noServer_12 rfl ?_
  refine j_zald d_M_noServer_13 t_off (aIx.n (by omega) (by decide)) ?_
  refine j_eqi hu ?_
  refine j_if_eq (tgt := 21) d_M_noServer_14 (by decide) (fun h14 => ?_) (fun h14 => ?_)
  · have hb : bI (!u) = 0 := h14
    refine j_iconst (v := 0) d_M_noServer_21 (by decide) ?_
    refine j_ireturn d_M_noServer_22 rfl rfl ?_ (by decide) (by decide)
    exact ⟨rfl, by rw [hb]⟩
  · have hb : bI (!u) = 1 := by rw [bI_1 h14]; rfl
    refine j_iconst (v := 1) d_M_noServer_17 (by decide) ?_
    refine j_goto 22 d_M_noServer_18 (by decide) ?_
    refine j_ireturn d_M_noServer_22 rfl rfl ?_ (by decide) (by decide)
    exact ⟨rfl, by rw [hb]⟩
theorem q_noServer (M : aM) (S : aS) (x : Int32) (h : mRep M S) : aK m_M_noServer 1 0 0 M [.ref 332, .int x] (fun M1 r => M1 = M ∧ ∃ v : Int32, r = some (.int v) ∧ (v ≠ 0 ↔ nsv S x)) := by
  rcases dN_cases x (N := 3) (by decide) with ⟨e, hx⟩ | ⟨n, hn, rfl, e⟩
  · refine (k_noServer_1 M x h.1 hx).weaken ?_
    rintro M1 r ⟨rfl, rfl⟩
    exact ⟨rfl, 1, rfl, ⟨fun _ n q => (by rw [e] at q; cases q), fun _ => (by decide)⟩⟩
  · refine (k_noServer_2 M n (sUp S n) h.1 hn (h.2 n (by omega)).1).weaken ?_
    rintro M1 r ⟨rfl, rfl⟩
    refine ⟨rfl, _, rfl, ⟨fun q m z => ?_, fun q => ?_⟩⟩
    · rw [e] at z; cases z
      have := bI_1 q
      cases u : sUp S n
      · rfl
      · rw [u] at this; exact absurd this (by decide)
    · rw [q n e]; decide
set_option maxRecDepth 20000 in
set_option maxHeartbeats 1000000 in
theorem k_noGroup_1 (M : aM) (x : Int32) (hm : mSh M) (hx : x < 3 ∨ nI 12 ≤ x) : aK m_M_noGroupNode 1 0 0 M [.ref 332, .int x] (fun M1 r => M1 = M ∧ r = some (.int 1)) := by
  refine aK.of (by decide) (Nat.le_of_ble_eq_true rfl) ?_
  obtain ⟨h0, q_off, t_off, q_leads, t_leads, q_term, t_term, q_length, t_length, q_known, t_known, q_logs, t_logs, q_entry, t_entry, q_members, t_members, q_owners, t_owners, q_owner, t_owner, q_condition, t_condition, q_held, t_held⟩ := hm
  refine j_iload_n d_M_noGroupNode_0 rfl ?_
  refine j_iconst (v := 3) d_M_noGroupNode_1 (by decide) ?_
  refine j_icmp_lt (tgt := 20) d_M_noGroupNode_2 (by decide) (fun h2 => ?_) (fun h2 => ?_)
  · refine j_iconst (v := 1) d_M_noGroupNode_20 (by decide) ?_
    refine j_goto 25 d_M_noGroupNode_21 (by decide) ?_
    refine j_ireturn d_M_noGroupNode_25 rfl rfl ?_ (by decide) (by decide)
    exact ⟨rfl, rfl⟩
  · refine j_iload_n d_M_noGroupNode_5 rfl ?_
    refine j_bipush (v := 11) d_M_noGroupNode_6 (by decide) ?_
    refine j_icmp_gt (tgt := 20) d_M_noGroupNode_8 (by decide) (fun h8 => ?_) (fun h8 => False.elim (hx.elim h2 (fun q => h8 (Int32.lt_of_lt_of_le (by decide) q))))
    refine j_iconst (v := 1) d_M_noGroupNode_20 (by decide) ?_
    refine j_goto 25 d_M_noGroupNode_21 (by decide) ?_
    refine j_ireturn d_M_noGroupNode_25 rfl rfl ?_ (by decide) (by decide)
    exact ⟨rfl, rfl⟩
set_option maxRecDepth 20000 in
set_option maxHeartbeats 1000000 in
theorem k_noGroup_2 (M : aM) (n : Nat) (u : Bool) (hm : mSh M) (h3 : 3 ≤ n) (hn : n < 12) (hu : mI M 333 n = bI (!u)) : aK m_M_noGroupNode 1 0 0 M [.ref 332, .int (nI n)] (fun M1 r => M1 = M ∧ r = some (.int (bI (!u)))) := by
  refine aK.of (by decide) (Nat.le_of_ble_eq_true rfl) ?_
  obtain ⟨h0, q_off, t_off, q_leads, t_leads, q_term, t_term, q_length, t_length, q_known, t_known, q_logs, t_logs, q_entry, t_entry, q_members, t_members, q_owners, t_owners, q_owner, t_owner, q_condition, t_condition, q_held, t_held⟩ := hm
  refine j_iload_n d_M_noGroupNode_0 rfl ?_
  refine j_iconst (v := 3) d_M_noGroupNode_1 (by decide) ?_
  refine j_icmp_lt (tgt := 20) d_M_noGroupNode_2 (by decide) (fun h2 => False.elim (nI_nlt (b := 3) h3 (by omega) h2)) (fun h2 => ?_)
  refine j_iload_n d_M_noGroupNode_5 rfl ?_
  refine j_bipush (v := 11) d_M_noGroupNode_6 (by decide) ?_
  refine j_icmp_gt (tgt := 20) d_M_noGroupNode_8 (by decide) (fun h8 => False.elim (absurd (i_lt (a := 11) (by decide) (by omega) h8) (by omega))) (fun h8 => ?_)
  refine j_aload_n d_M_noGroupNode_11 rfl ?_
  refine j_getR d_M_noGroupNode_12 h0 f_M_7_M rfl (by decide) q_off ?_
  refine j_iload_n d_M_noGroupNode_15 rfl ?_
  refine j_zald d_M_noGroupNode_16 t_off (aIx.n (by omega) (by decide)) ?_
  refine j_eqi hu ?_
  refine j_if_eq (tgt := 24) d_M_noGroupNode_17 (by decide) (fun h17 => ?_) (fun h17 => ?_)
  · have hb : bI (!u) = 0 := h17
    refine j_iconst (v := 0) d_M_noGroupNode_24 (by decide) ?_
    refine j_ireturn d_M_noGroupNode_25 rfl rfl ?_ (by decide) (by decide)
    exact ⟨rfl, by rw [hb]⟩
  · have hb : bI (!u) = 1 := by rw [bI_1 h17]; rfl
    refine j_iconst (v := 1) d_M_noGroupNode_20 (by decide) ?_
    refine j_goto 25 d_M_noGroupNode_21 (by decide) ?_
    refine j_ireturn d_M_noGroupNode_25 rfl rfl ?_ (by decide) (by decide)
    exact ⟨rfl, by rw [hb]⟩
theorem q_noGroup (M : aM) (S : aS) (x : Int32) (h : mRep M S) : aK m_M_noGroupNode 1 0 0 M [.ref 332, .int x] (fun M1 r => M1 = M ∧ ∃ v : Int32, r = some (.int v) ∧ (v ≠ 0 ↔ ngn S x)) := by
  rcases dG_cases x with ⟨e, hx⟩ | ⟨n, h3, hn, rfl, e⟩
  · refine (k_noGroup_1 M x h.1 hx).weaken ?_
    rintro M1 r ⟨rfl, rfl⟩
    exact ⟨rfl, 1, rfl, ⟨fun _ n q => (by rw [e] at q; cases q), fun _ => (by decide)⟩⟩
  · refine (k_noGroup_2 M n (sUp S n) h.1 h3 hn (h.2 n hn).1).weaken ?_
    rintro M1 r ⟨rfl, rfl⟩
    refine ⟨rfl, _, rfl, ⟨fun q m z => ?_, fun q => ?_⟩⟩
    · rw [e] at z; cases z
      have := bI_1 q
      cases u : sUp S n
      · rfl
      · rw [u] at this; exact absurd this (by decide)
    · rw [q n e]; decide
theorem oCh_no {S : aS} {x k a b : Int32} (h : nsv S x ∨ ¬ chOk k a b) : oChange S x k a b = (S, -1) := by
  unfold oChange
  cases e : dN x 3 with
  | none => rfl
  | some n =>
    simp only []
    rw [if_neg]
    rintro ⟨q1, q2⟩
    rcases h with h | h
    · rw [h n e] at q1; exact absurd q1 (by decide)
    · exact h q2
theorem oRq_no {S : aS} {x c n k y v : Int32} (h : ngn S x ∨ ¬ rqOk c n k y v) : oRequest S x c n k y v = (S, -1) := by
  unfold oRequest
  cases e : dG x with
  | none => rfl
  | some m =>
    simp only []
    rw [if_neg]
    rintro ⟨q1, q2⟩
    rcases h with h | h
    · rw [h m e] at q1; exact absurd q1 (by decide)
    · exact h q2
set_option maxRecDepth 20000 in
set_option maxHeartbeats 1000000 in
theorem m_change (M : aM) (S : aS) (t : Nat) (x k a b : Int32) (h : mRep M S) (hi : sInv S t) : aK m_M_change 2 0 0 M [.ref 332, .int x, .int k, .int a, .int b] (mQ M (oChange S x k a b)) := by
  refine aK.of (by decide) (Nat.le_of_ble_eq_true rfl) ?_
  have hm := h.1
  obtain ⟨h0, q_off, t_off, q_leads, t_leads, q_term, t_term, q_length, t_length, q_known, t_known, q_logs, t_logs, q_entry, t_entry, q_members, t_members, q_owners, t_owners, q_owner, t_owner, q_condition, t_condition, q_held, t_held⟩ := hm
  have at40 : ∀ v : Int32, (v ≠ 0 ↔ (if k = 2 then (0 ≤ a ∧ a < 8) ∧ (1 ≤ b ∧ b < 4) else (1 ≤ a ∧ a < 4))) → aJ aX0 m_M_change 2 0 0 (mQ M (oChange S x k a b)) 0 0 40 [some (.ref 332), some (.int x), some (.int k), some (.int a), some (.int b), none] [.int v] M := by
    intro v hv
    refine j_istore d_M_change_40 (by decide) ?_
    refine j_aload_n d_M_change_42 rfl ?_
    refine j_iload_n d_M_change_43 rfl ?_
    refine j_callV (vs := [_]) d_M_change_44 h0 (by decide) rfl w726 w728 w7 w729 ws_M_noServer y_M_noServer (by decide) (by decide) (q_noServer M S x h) rfl (Nat.le_of_ble_eq_true rfl) (by decide) (by decide) (fun M1 r1 hq1 => ?_)
    obtain ⟨rfl, w, rfl, hw⟩ := hq1
    refine j_if_ne (tgt := 63) d_M_change_47 (by decide) (fun h47 => ?_) (fun h47 => ?_)
    · have eo := oCh_no (k := k) (a := a) (b := b) (Or.inl (hw.mp h47))
      refine j_iconst (v := -1) d_M_change_63 (by decide) ?_
      refine j_ireturn d_M_change_64 rfl rfl ?_ (by decide) (by decide)
      rw [eo]
      exact ⟨rfl, h, fY.rf _⟩
    · obtain ⟨n, hn, rfl, en, un⟩ := nsv_no (fun q => hw.mpr q h47)
      have hl0 := (h.2 n (by omega)).2.1
      refine j_iload_n d_M_change_50 rfl ?_
      refine j_iconst (v := 3) d_M_change_51 (by decide) ?_
      refine j_callS (vs := [_, _]) d_M_change_52 w680 w681 w7 w682 y_M_below (by decide) (by decide) (k_below M1 k (nI 3)) rfl (Nat.le_of_ble_eq_true rfl) (by decide) (by decide) (fun M2 r2 hq2 => ?_)
      obtain ⟨rfl, rfl⟩ := hq2
      refine j_if_eq (tgt := 63) d_M_change_55 (by decide) (fun h55 => ?_) (fun h55 => ?_)
      · have eo := oCh_no (S := S) (x := nI n) (a := a) (b := b) (Or.inr (fun q => by have : 0 ≤ k ∧ k < nI 3 := (k3 k).mpr (q.elim (fun q => Or.inr (Or.inr q.1)) (fun q => q.1.elim Or.inl (fun q => Or.inr (Or.inl q)))); rw [bP_t this] at h55; exact absurd h55 (by decide)))
        refine j_iconst (v := -1) d_M_change_63 (by decide) ?_
        refine j_ireturn d_M_change_64 rfl rfl ?_ (by decide) (by decide)
        rw [eo]
        exact ⟨rfl, h, fY.rf _⟩
      · have hk3 := (k3 k).mp (bP1 h55)
        refine j_iload d_M_change_58 rfl ?_
        refine j_if_ne (tgt := 65) d_M_change_60 (by decide) (fun h60 => ?_) (fun h60 => ?_)
        · have hc : chOk k a b := by
            have g1 := hv.mp h60
            by_cases q : k = 2
            · rw [if_pos q] at g1; exact Or.inl ⟨q, g1⟩
            · rw [if_neg q] at g1; exact Or.inr ⟨hk3.elim Or.inl (fun z => z.elim Or.inr (fun z => absurd z q)), g1⟩
          refine j_aload_n d_M_change_65 rfl ?_
          refine j_getR d_M_change_66 h0 f_M_13_M rfl (by decide) q_leads ?_
          refine j_iload_n d_M_change_69 rfl ?_
          refine j_zald d_M_change_70 t_leads (aIx.n (by omega) (by decide)) ?_
          refine j_eqi hl0 ?_
          refine j_if_ne (tgt := 77) d_M_change_71 (by decide) (fun h71 => ?_) (fun h71 => ?_)
          · have hl := bI_1 h71
            refine j_aload_n d_M_change_77 rfl ?_
            refine j_iconst (v := 1) d_M_change_78 (by decide) ?_
            refine j_iload_n d_M_change_79 rfl ?_
            refine j_iadd d_M_change_80 ?_
            refine j_iload_n d_M_change_81 rfl ?_
            refine j_iload_n d_M_change_82 rfl ?_
            refine j_iconst (v := 2) d_M_change_83 (by decide) ?_
            refine j_icmp_ne (tgt := 92) d_M_change_84 (by decide) (fun h84 => ?_) (fun h84 => ?_)
            · have v3 : (0 : Int32) = nI (if iN k = 2 then iN b else 0) := by rw [if_neg (fun q => h84 (by rw [← iN_nI (x := k) ((k3 k).mpr hk3).1, q]; rfl))]; rfl
              refine j_iconst (v := 0) d_M_change_92 (by decide) ?_
              refine j_iconst (v := 0) d_M_change_93 (by decide) ?_
              refine j_iconst (v := 0) d_M_change_94 (by decide) ?_
              refine j_iconst (v := 0) d_M_change_95 (by decide) ?_
              refine j_callV (vs := [_, _, _, _, _, _]) d_M_change_96 h0 (by decide) rfl w706 w708 w7 w709 ws_M_say y_M_say (by decide) (by decide) (k_say M2 _ _ _ _ _ _ h.1) rfl (Nat.le_of_ble_eq_true rfl) (by decide) (by decide) (fun M3 r3 hq3 => ?_)
              obtain ⟨rfl, o3, s3⟩ := hq3
              have h3 := mRep_say h o3
              have h03 := h3.1.1
              have ka := ((k3 k).mpr hk3).1
              have aa : 0 ≤ a := hc.elim (fun q => q.2.1.1) (fun q => Int32.le_trans (by decide) q.2.1)
              refine j_aload_n d_M_change_99 rfl ?_
              refine j_iload_n d_M_change_100 rfl ?_
              refine j_callV (vs := [_]) d_M_change_101 h03 (by decide) rfl w710 w712 w7 w713 ws_M_write y_M_write (by decide) (by decide) (q_write M3 S n (eCh (sT S n) (iN k) (iN a) (iN b)) h3 (by omega) (fun m hm => (hi.1 m hm).1) rfl (fun i h1 h2 => by
            rw [s3 i h2]
            by_cases h7 : i < 7
            · exact say_E (E := eCh (sT S n) (iN k) (iN a) (iN b)) (show 1 + k = nI (1 + iN k) by rw [← nI_add, iN_nI ka]; rfl) (iN_nI aa).symm v3 rfl rfl rfl h1 h7
            · rw [say_0 (by omega)]; unfold eCh; rw [eM_0 (by simp only [List.length_cons, List.length_nil]; omega)]; rfl)) rfl (Nat.le_of_ble_eq_true rfl) (by decide) (by decide) (fun M4 r4 hq4 => ?_)
              obtain ⟨z, hz⟩ : ∃ z : Int32, r4 = some (.int z) := ⟨_, hq4.1⟩
              subst hz
              refine j_ireturn d_M_change_104 rfl rfl ?_ (by decide) (by decide)
              have eo : oChange S (nI n) k a b = oWr S n (eCh (sT S n) (iN k) (iN a) (iN b)) := by
                unfold oChange; rw [en]; simp only []; rw [if_pos ⟨un, hc⟩, if_pos hl]
              rw [eo]
              exact mQ_fY (fY_say o3) hq4
            · have v3 : b = nI (if iN k = 2 then iN b else 0) := by
                rw [if_pos (by rw [h84]; rfl)]
                rcases hc with q | q
                · rw [iN_nI (Int32.le_trans (by decide) q.2.2.1)]
                · exact absurd h84 (by rcases q.1 with z | z <;> rw [z] <;> decide)
              refine j_iload d_M_change_87 rfl ?_
              refine j_goto 93 d_M_change_89 (by decide) ?_
              refine j_iconst (v := 0) d_M_change_93 (by decide) ?_
              refine j_iconst (v := 0) d_M_change_94 (by decide) ?_
              refine j_iconst (v := 0) d_M_change_95 (by decide) ?_
              refine j_callV (vs := [_, _, _, _, _, _]) d_M_change_96 h0 (by decide) rfl w706 w708 w7 w709 ws_M_say y_M_say (by decide) (by decide) (k_say M2 _ _ _ _ _ _ h.1) rfl (Nat.le_of_ble_eq_true rfl) (by decide) (by decide) (fun M3 r3 hq3 => ?_)
              obtain ⟨rfl, o3, s3⟩ := hq3
              have h3 := mRep_say h o3
              have h03 := h3.1.1
              have ka := ((k3 k).mpr hk3).1
              have aa : 0 ≤ a := hc.elim (fun q => q.2.1.1) (fun q => Int32.le_trans (by decide) q.2.1)
              refine j_aload_n d_M_change_99 rfl ?_
              refine j_iload_n d_M_change_100 rfl ?_
              refine j_callV (vs := [_]) d_M_change_101 h03 (by decide) rfl w710 w712 w7 w713 ws_M_write y_M_write (by decide) (by decide) (q_write M3 S n (eCh (sT S n) (iN k) (iN a) (iN b)) h3 (by omega) (fun m hm => (hi.1 m hm).1) rfl (fun i h1 h2 => by
            rw [s3 i h2]
            by_cases h7 : i < 7
            · exact say_E (E := eCh (sT S n) (iN k) (iN a) (iN b)) (show 1 + k = nI (1 + iN k) by rw [← nI_add, iN_nI ka]; rfl) (iN_nI aa).symm v3 rfl rfl rfl h1 h7
            · rw [say_0 (by omega)]; unfold eCh; rw [eM_0 (by simp only [List.length_cons, List.length_nil]; omega)]; rfl)) rfl (Nat.le_of_ble_eq_true rfl) (by decide) (by decide) (fun M4 r4 hq4 => ?_)
              obtain ⟨z, hz⟩ : ∃ z : Int32, r4 = some (.int z) := ⟨_, hq4.1⟩
              subst hz
              refine j_ireturn d_M_change_104 rfl rfl ?_ (by decide) (by decide)
              have eo : oChange S (nI n) k a b = oWr S n (eCh (sT S n) (iN k) (iN a) (iN b)) := by
                unfold oChange; rw [en]; simp only []; rw [if_pos ⟨un, hc⟩, if_pos hl]
              rw [eo]
              exact mQ_fY (fY_say o3) hq4
          · have hl := bI_z h71
            refine j_bipush (v := -2) d_M_change_74 (by decide) ?_
            refine j_ireturn d_M_change_76 rfl rfl ?_ (by decide) (by decide)
            have eo : oChange S (nI n) k a b = (S, -2) := by
              unfold oChange; rw [en]; simp only []; rw [if_pos ⟨un, hc⟩, hl]; rfl
            rw [eo]
            exact ⟨rfl, h, fY.rf _⟩
        · have eo := oCh_no (S := S) (x := nI n) (k := k) (a := a) (b := b) (Or.inr (fun q => hv.mpr (by
            by_cases z : k = 2
            · rw [if_pos z]; exact q.elim (fun q => q.2) (fun q => q.1.elim (fun y => absurd (z.symm.trans y) (by decide)) (fun y => absurd (z.symm.trans y) (by decide)))
            · rw [if_neg z]; exact q.elim (fun q => absurd q.1 z) (fun q => q.2)) h60))
          refine j_iconst (v := -1) d_M_change_63 (by decide) ?_
          refine j_ireturn d_M_change_64 rfl rfl ?_ (by decide) (by decide)
          rw [eo]
          exact ⟨rfl, h, fY.rf _⟩
  refine j_iload_n d_M_change_0 rfl ?_
  refine j_iconst (v := 2) d_M_change_1 (by decide) ?_
  refine j_icmp_ne (tgt := 33) d_M_change_2 (by decide) (fun h2 => ?_) (fun h2 => ?_)
  · have hg : ∀ v : Int32, (v ≠ 0 ↔ (1 ≤ a ∧ a < 4)) → (v ≠ 0 ↔ (if k = 2 then (0 ≤ a ∧ a < 8) ∧ (1 ≤ b ∧ b < 4) else (1 ≤ a ∧ a < 4))) := fun v q => by rw [if_neg h2]; exact q
    refine j_iload_n d_M_change_33 rfl ?_
    refine j_iconst (v := 1) d_M_change_34 (by decide) ?_
    refine j_isub d_M_change_35 ?_
    refine j_iconst (v := 3) d_M_change_36 (by decide) ?_
    refine j_callS (vs := [_, _]) d_M_change_37 w680 w681 w7 w682 y_M_below (by decide) (by decide) (k_below M (a - 1) (nI 3)) rfl (Nat.le_of_ble_eq_true rfl) (by decide) (by decide) (fun M1 r1 hq1 => ?_)
    obtain ⟨rfl, rfl⟩ := hq1
    have hv := hg (bP (0 ≤ a - 1 ∧ a - 1 < nI 3)) ⟨fun q => (bm1 a).mp (bP1 q), fun q => by rw [bP_t (show 0 ≤ a - 1 ∧ a - 1 < nI 3 from (bm1 a).mpr q)]; decide⟩
    -- at 40
    exact at40 _ hv
  · have hg : ∀ v : Int32, (v ≠ 0 ↔ (0 ≤ a ∧ a < 8) ∧ (1 ≤ b ∧ b < 4)) → (v ≠ 0 ↔ (if k = 2 then (0 ≤ a ∧ a < 8) ∧ (1 ≤ b ∧ b < 4) else (1 ≤ a ∧ a < 4))) := fun v q => by rw [if_pos h2]; exact q
    refine j_iload_n d_M_change_5 rfl ?_
    refine j_bipush (v := 8) d_M_change_6 (by decide) ?_
    refine j_callS (vs := [_, _]) d_M_change_8 w680 w681 w7 w682 y_M_below (by decide) (by decide) (k_below M a (nI 8)) rfl (Nat.le_of_ble_eq_true rfl) (by decide) (by decide) (fun M1 r1 hq1 => ?_)
    obtain ⟨rfl, rfl⟩ := hq1
    refine j_if_eq (tgt := 29) d_M_change_11 (by decide) (fun h11 => ?_) (fun h11 => ?_)
    · have hv := hg 0 ⟨fun q => absurd rfl q, fun q => by have : 0 ≤ a ∧ a < nI 8 := q.1; rw [bP_t this] at h11; exact absurd h11 (by decide)⟩
      refine j_iconst (v := 0) d_M_change_29 (by decide) ?_
      refine j_goto 40 d_M_change_30 (by decide) ?_
      -- at 40
      exact at40 _ hv
    · have k11 : 0 ≤ a ∧ a < nI 8 := bP1 h11
      refine j_iload d_M_change_14 rfl ?_
      refine j_iconst (v := 1) d_M_change_16 (by decide) ?_
      refine j_isub d_M_change_17 ?_
      refine j_iconst (v := 3) d_M_change_18 (by decide) ?_
      refine j_callS (vs := [_, _]) d_M_change_19 w680 w681 w7 w682 y_M_below (by decide) (by decide) (k_below M1 (b - 1) (nI 3)) rfl (Nat.le_of_ble_eq_true rfl) (by decide) (by decide) (fun M2 r2 hq2 => ?_)
      obtain ⟨rfl, rfl⟩ := hq2
      refine j_if_eq (tgt := 29) d_M_change_22 (by decide) (fun h22 => ?_) (fun h22 => ?_)
      · have hv := hg 0 ⟨fun q => absurd rfl q, fun q => by have : 0 ≤ b - 1 ∧ b - 1 < nI 3 := (bm1 b).mpr q.2; rw [bP_t this] at h22; exact absurd h22 (by decide)⟩
        refine j_iconst (v := 0) d_M_change_29 (by decide) ?_
        refine j_goto 40 d_M_change_30 (by decide) ?_
        -- at 40
        exact at40 _ hv
      · have hv := hg 1 ⟨fun _ => ⟨k11, (bm1 b).mp (bP1 h22)⟩, fun _ => by decide⟩
        refine j_iconst (v := 1) d_M_change_25 (by decide) ?_
        refine j_goto 40 d_M_change_26 (by decide) ?_
        -- at 40
        exact at40 _ hv
set_option maxRecDepth 20000 in
set_option maxHeartbeats 1000000 in
theorem m_request (M : aM) (S : aS) (t : Nat) (x c n k y v : Int32) (h : mRep M S) (hi : sInv S t) : aK m_M_request 2 0 0 M [.ref 332, .int x, .int c, .int n, .int k, .int y, .int v] (mQ M (oRequest S x c n k y v)) := by
  refine aK.of (by decide) (Nat.le_of_ble_eq_true rfl) ?_
  have hm := h.1
  obtain ⟨h0, q_off, t_off, q_leads, t_leads, q_term, t_term, q_length, t_length, q_known, t_known, q_logs, t_logs, q_entry, t_entry, q_members, t_members, q_owners, t_owners, q_owner, t_owner, q_condition, t_condition, q_held, t_held⟩ := hm
  refine j_aload_n d_M_request_0 rfl ?_
  refine j_iload_n d_M_request_1 rfl ?_
  refine j_callV (vs := [_]) d_M_request_2 h0 (by decide) rfl w734 w736 w7 w737 ws_M_noGroupNode y_M_noGroupNode (by decide) (by decide) (q_noGroup M S x h) rfl (Nat.le_of_ble_eq_true rfl) (by decide) (by decide) (fun M1 r1 hq1 => ?_)
  obtain ⟨rfl, w, rfl, hw⟩ := hq1
  refine j_if_ne (tgt := 58) d_M_request_5 (by decide) (fun h5 => ?_) (fun h5 => ?_)
  · have eo := oRq_no (c := c) (n := n) (k := k) (y := y) (v := v) (Or.inl (hw.mp h5))
    refine j_iconst (v := -1) d_M_request_58 (by decide) ?_
    refine j_ireturn d_M_request_59 rfl rfl ?_ (by decide) (by decide)
    rw [eo]
    exact ⟨rfl, h, fY.rf _⟩
  · obtain ⟨m, h3, hm9, rfl, em, um⟩ := ngn_no (fun q => hw.mpr q h5)
    have hl0 := (h.2 m hm9).2.1
    refine j_iload_n d_M_request_8 rfl ?_
    refine j_iconst (v := 3) d_M_request_9 (by decide) ?_
    refine j_callS (vs := [_, _]) d_M_request_10 w680 w681 w7 w682 y_M_below (by decide) (by decide) (k_below M1 c (nI 3)) rfl (Nat.le_of_ble_eq_true rfl) (by decide) (by decide) (fun M2 r2 hq2 => ?_)
    obtain ⟨rfl, rfl⟩ := hq2
    refine j_if_eq (tgt := 58) d_M_request_13 (by decide) (fun h13 => ?_) (fun h13 => ?_)
    · have eo := oRq_no (S := S) (x := nI m) (c := c) (n := n) (k := k) (y := y) (v := v) (Or.inr (fun q => by have z9 : 0 ≤ c ∧ c < nI 3 := q.1; rw [bP_t z9] at h13; exact absurd h13 (by decide)))
      refine j_iconst (v := -1) d_M_request_58 (by decide) ?_
      refine j_ireturn d_M_request_59 rfl rfl ?_ (by decide) (by decide)
      rw [eo]
      exact ⟨rfl, h, fY.rf _⟩
    · have kc : 0 ≤ c ∧ c < nI 3 := bP1 h13
      refine j_iload d_M_request_16 rfl ?_
      refine j_bipush (v := 16) d_M_request_18 (by decide) ?_
      refine j_callS (vs := [_, _]) d_M_request_20 w680 w681 w7 w682 y_M_below (by decide) (by decide) (k_below M2 y (nI 16)) rfl (Nat.le_of_ble_eq_true rfl) (by decide) (by decide) (fun M3 r3 hq3 => ?_)
      obtain ⟨rfl, rfl⟩ := hq3
      refine j_if_eq (tgt := 58) d_M_request_23 (by decide) (fun h23 => ?_) (fun h23 => ?_)
      · have eo := oRq_no (S := S) (x := nI m) (c := c) (n := n) (k := k) (y := y) (v := v) (Or.inr (fun q => by have z9 : 0 ≤ y ∧ y < nI 16 := q.2.1; rw [bP_t z9] at h23; exact absurd h23 (by decide)))
        refine j_iconst (v := -1) d_M_request_58 (by decide) ?_
        refine j_ireturn d_M_request_59 rfl rfl ?_ (by decide) (by decide)
        rw [eo]
        exact ⟨rfl, h, fY.rf _⟩
      · have ky : 0 ≤ y ∧ y < nI 16 := bP1 h23
        refine j_iload_n d_M_request_26 rfl ?_
        refine j_iconst (v := 1) d_M_request_27 (by decide) ?_
        refine j_icmp_lt (tgt := 58) d_M_request_28 (by decide) (fun h28 => ?_) (fun h28 => ?_)
        · have eo := oRq_no (S := S) (x := nI m) (c := c) (n := n) (k := k) (y := y) (v := v) (Or.inr (fun q => Int32.not_lt.mpr q.2.2.1 h28))
          refine j_iconst (v := -1) d_M_request_58 (by decide) ?_
          refine j_ireturn d_M_request_59 rfl rfl ?_ (by decide) (by decide)
          rw [eo]
          exact ⟨rfl, h, fY.rf _⟩
        · refine j_iload_n d_M_request_31 rfl ?_
          refine j_sipush (v := 999) d_M_request_32 (by decide) ?_
          refine j_icmp_gt (tgt := 58) d_M_request_35 (by decide) (fun h35 => ?_) (fun h35 => ?_)
          · have eo := oRq_no (S := S) (x := nI m) (c := c) (n := n) (k := k) (y := y) (v := v) (Or.inr (fun q => Int32.not_lt.mpr q.2.2.2.1 h35))
            refine j_iconst (v := -1) d_M_request_58 (by decide) ?_
            refine j_ireturn d_M_request_59 rfl rfl ?_ (by decide) (by decide)
            rw [eo]
            exact ⟨rfl, h, fY.rf _⟩
          · refine j_iload d_M_request_38 rfl ?_
            refine j_iconst (v := 3) d_M_request_40 (by decide) ?_
            refine j_callS (vs := [_, _]) d_M_request_41 w680 w681 w7 w682 y_M_below (by decide) (by decide) (k_below M3 k (nI 3)) rfl (Nat.le_of_ble_eq_true rfl) (by decide) (by decide) (fun M4 r4 hq4 => ?_)
            obtain ⟨rfl, rfl⟩ := hq4
            refine j_if_eq (tgt := 58) d_M_request_44 (by decide) (fun h44 => ?_) (fun h44 => ?_)
            · have eo := oRq_no (S := S) (x := nI m) (c := c) (n := n) (k := k) (y := y) (v := v) (Or.inr (fun q => by have z9 : 0 ≤ k ∧ k < nI 3 := ⟨q.2.2.2.2.1, (lt3 k).mpr q.2.2.2.2.2.1⟩; rw [bP_t z9] at h44; exact absurd h44 (by decide)))
              refine j_iconst (v := -1) d_M_request_58 (by decide) ?_
              refine j_ireturn d_M_request_59 rfl rfl ?_ (by decide) (by decide)
              rw [eo]
              exact ⟨rfl, h, fY.rf _⟩
            · have kk : 0 ≤ k ∧ k < nI 3 := bP1 h44
              refine j_iload d_M_request_47 rfl ?_
              refine j_sipush (v := 1000) d_M_request_49 (by decide) ?_
              refine j_callS (vs := [_, _]) d_M_request_52 w680 w681 w7 w682 y_M_below (by decide) (by decide) (k_below M4 v (nI 1000)) rfl (Nat.le_of_ble_eq_true rfl) (by decide) (by decide) (fun M5 r5 hq5 => ?_)
              obtain ⟨rfl, rfl⟩ := hq5
              refine j_if_ne (tgt := 60) d_M_request_55 (by decide) (fun h55 => ?_) (fun h55 => ?_)
              · have hc : rqOk c n k y v := ⟨kc, ky, Int32.not_lt.mp h28, Int32.not_lt.mp h35, kk.1, (lt3 k).mp kk.2, bP1 h55⟩
                refine j_aload_n d_M_request_60 rfl ?_
                refine j_getR d_M_request_61 h0 f_M_13_M rfl (by decide) q_leads ?_
                refine j_iload_n d_M_request_64 rfl ?_
                refine j_zald d_M_request_65 t_leads (aIx.n (by omega) (by decide)) ?_
                refine j_eqi hl0 ?_
                refine j_if_ne (tgt := 72) d_M_request_66 (by decide) (fun h66 => ?_) (fun h66 => ?_)
                · have hl := bI_1 h66
                  refine j_aload_n d_M_request_72 rfl ?_
                  refine j_iconst (v := 5) d_M_request_73 (by decide) ?_
                  refine j_iload_n d_M_request_74 rfl ?_
                  refine j_iload_n d_M_request_75 rfl ?_
                  refine j_iload d_M_request_76 rfl ?_
                  refine j_iload d_M_request_78 rfl ?_
                  refine j_iload d_M_request_80 rfl ?_
                  refine j_callV (vs := [_, _, _, _, _, _]) d_M_request_82 h0 (by decide) rfl w706 w708 w7 w709 ws_M_say y_M_say (by decide) (by decide) (k_say M5 _ _ _ _ _ _ h.1) rfl (Nat.le_of_ble_eq_true rfl) (by decide) (by decide) (fun M6 r6 hq6 => ?_)
                  obtain ⟨rfl, o3, s3⟩ := hq6
                  have h6 := mRep_say h o3
                  have h03 := h6.1.1
                  refine j_aload_n d_M_request_85 rfl ?_
                  refine j_iload_n d_M_request_86 rfl ?_
                  refine j_callV (vs := [_]) d_M_request_87 h03 (by decide) rfl w710 w712 w7 w713 ws_M_write y_M_write (by decide) (by decide) (q_write M6 S m (eRq (sT S m) (iN c) (iN n) (iN k) (iN y) (iN v)) h6 hm9 (fun m hm => (hi.1 m hm).1) rfl (fun i h1 h2 => by
            rw [s3 i h2]
            by_cases h7 : i < 7
            · exact say_E (E := eRq (sT S m) (iN c) (iN n) (iN k) (iN y) (iN v)) rfl (iN_nI hc.1.1).symm (iN_nI (Int32.le_trans (by decide) hc.2.2.1)).symm (iN_nI hc.2.2.2.2.1).symm (iN_nI hc.2.1.1).symm (iN_nI hc.2.2.2.2.2.2.1).symm h1 h7
            · rw [say_0 (by omega)]; unfold eRq; rw [eM_0 (by simp only [List.length_cons, List.length_nil]; omega)]; rfl)) rfl (Nat.le_of_ble_eq_true rfl) (by decide) (by decide) (fun M7 r7 hq7 => ?_)
                  obtain ⟨z, hz⟩ : ∃ z : Int32, r7 = some (.int z) := ⟨_, hq7.1⟩
                  subst hz
                  refine j_ireturn d_M_request_90 rfl rfl ?_ (by decide) (by decide)
                  have eo : oRequest S (nI m) c n k y v = oWr S m (eRq (sT S m) (iN c) (iN n) (iN k) (iN y) (iN v)) := by
                    unfold oRequest; rw [em]; simp only []; rw [if_pos ⟨um, hc⟩, if_pos hl]
                  rw [eo]
                  exact mQ_fY (fY_say o3) hq7
                · have hl := bI_z h66
                  refine j_bipush (v := -2) d_M_request_69 (by decide) ?_
                  refine j_ireturn d_M_request_71 rfl rfl ?_ (by decide) (by decide)
                  have eo : oRequest S (nI m) c n k y v = (S, -2) := by
                    unfold oRequest; rw [em]; simp only []; rw [if_pos ⟨um, hc⟩, hl]; rfl
                  rw [eo]
                  exact ⟨rfl, h, fY.rf _⟩
              · have eo := oRq_no (S := S) (x := nI m) (c := c) (n := n) (k := k) (y := y) (v := v) (Or.inr (fun q => by have z9 : 0 ≤ v ∧ v < nI 1000 := ⟨q.2.2.2.2.2.2.1, q.2.2.2.2.2.2.2⟩; rw [bP_t z9] at h55; exact absurd h55 (by decide)))
                refine j_iconst (v := -1) d_M_request_58 (by decide) ?_
                refine j_ireturn d_M_request_59 rfl rfl ?_ (by decide) (by decide)
                rw [eo]
                exact ⟨rfl, h, fY.rf _⟩
