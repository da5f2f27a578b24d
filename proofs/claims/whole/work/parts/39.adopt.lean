theorem shV_o {M M1 : aM} {h : Nat} {v : Nat → Nat} {P : Nat → Prop} (ho : oI M M1 P) (h1 : ¬ P (h + 1)) (h2 : ¬ P (h + 2)) (h3 : ¬ P (h + 3)) (hv : shV M h v) : shV M1 h v :=
  ⟨fun i hi => by rw [ho.2.2 _ h1]; exact hv.1 i hi, fun i hi => by rw [ho.2.2 _ h2]; exact hv.2.1 i hi, fun i hi => by rw [ho.2.2 _ h3]; exact hv.2.2 i hi⟩
theorem shV_c {M : aM} {h : Nat} {v : Nat → Nat} {k : Nat} {x : Int32} (hv : shV M h v) : shV (sI M h k x) h v :=
  shV_o (P := fun a => a = h) ((oI.rf M _).sI rfl) (by omega) (by omega) (by omega) hv
def hC (g b w c0 : Nat) : Nat := if w = g ∧ b ≠ g then (if b = 0 then 1 else 2) else if w ≠ g ∧ b = g then 3 else c0
theorem hand_ok {M : aM} {h9 b w g c0 : Nat} {v0 : Nat → Nat} (hc : mI M h9 0 = nI c0) (hv : c0 = 1 ∨ c0 = 3 → shV M h9 v0) (hbg : b = g → c0 = 1) (hg : 1 ≤ g) {M1 : aM} (e : M1 = (if w = g then (if b = 0 then sI (clr M h9) h9 0 1 else if b = g then M else sI M h9 0 2) else if b = g then sI M h9 0 3 else M)) :
    mI M1 h9 0 = nI (hC g b w c0) ∧ (hC g b w c0 = 1 ∨ hC g b w c0 = 3 → shV M1 h9 (if w = g ∧ b ≠ g then fun _ => 0 else v0)) ∧ oI M M1 (inS h9) := by
  have hin : inS h9 h9 := ⟨Nat.le_refl _, by omega⟩
  subst e
  unfold hC
  by_cases q1 : w = g
  · by_cases q2 : b = 0
    · have q3 : b ≠ g := by omega
      rw [if_pos q1, if_pos q2, if_pos ⟨q1, q3⟩, if_pos q2, if_pos ⟨q1, q3⟩]
      exact ⟨by rw [mm_I_sI, if_pos ⟨rfl, rfl⟩]; rfl, fun _ => shV_c (clr_v M h9), (clr_o M h9).sI hin⟩
    · by_cases q3 : b = g
      · rw [if_pos q1, if_neg q2, if_pos q3, if_neg (fun z => z.2 q3), if_neg (fun z => z.1 q1), if_neg (fun z => z.2 q3)]
        exact ⟨hc, hv, oI.rf M _⟩
      · rw [if_pos q1, if_neg q2, if_neg q3, if_pos ⟨q1, q3⟩, if_neg q2, if_pos ⟨q1, q3⟩]
        exact ⟨by rw [mm_I_sI, if_pos ⟨rfl, rfl⟩]; rfl, fun z => by omega, (oI.rf M _).sI hin⟩
  · by_cases q3 : b = g
    · rw [if_neg q1, if_pos q3, if_neg (fun z => q1 z.1), if_pos ⟨q1, q3⟩, if_neg (fun z => q1 z.1)]
      exact ⟨by rw [mm_I_sI, if_pos ⟨rfl, rfl⟩]; rfl, fun _ => shV_c (hv (Or.inl (hbg q3))), (oI.rf M _).sI hin⟩
    · rw [if_neg q1, if_neg q3, if_neg (fun z => q1 z.1), if_neg (fun z => q3 z.2), if_neg (fun z => q1 z.1)]
      exact ⟨hc, hv, oI.rf M _⟩
/-- the first shards of node n, up to i -/
def inI (n i : Nat) (a : Nat) : Prop := nd n + 3 ≤ a ∧ a < nd n + 3 + 4 * i
theorem inI_N {n i : Nat} (hi : i ≤ 8) (a : Nat) (h : inI n i a) : inN n a := by unfold inI at h; unfold inN; omega

set_option maxRecDepth 20000 in
set_option maxHeartbeats 1000000 in
theorem k_adopt_no (M : aM) (n : Nat) (G : aGp) (h : cSh M) (h3 : 3 ≤ n) (hn : n < 12) (hg : gpR M n G) (hV : gpV (n / 3) G) (c q : Nat) (E : Nat → Nat) (hc : c < 16) (hq : cfO M q (fun s => E (7 + s))) (hE : ∀ s, s < 8 → E (7 + s) ≤ 3) (hno : c ≠ G.1 + 1 ∨ ¬ gSet G) : aK m_T_adopt 2 0 0 M [.ref (nd n), .int (nI c), .ref q] (fun M1 r => r = none ∧ M1 = M) := by
  refine aK.of (by decide) (Nat.le_of_ble_eq_true rfl) ?_
  have hN := (cSh_T h h3 hn).1
  obtain ⟨st0, st1, st2, st3⟩ := cSh_st h h3 hn
  have hn7 := hg.1
  have hv16 := hV.1
  refine j_iload_n d_T_adopt_0 rfl ?_
  refine j_aload_n d_T_adopt_1 rfl ?_
  refine j_geti d_T_adopt_2 hN f_T_32_T rfl (by decide) ?_
  refine j_iconst (v := 1) d_T_adopt_5 (by decide) ?_
  refine j_iadd d_T_adopt_6 ?_
  refine j_eqi (show mI M (nd n) 7 + 1 = nI (G.1 + 1) by rw [hn7]; exact (nI_succ G.1).symm) ?_
  refine j_icmp_ne (tgt := 17) d_T_adopt_7 (by decide) (fun h7 => ?_) (fun h7 => ?_)
  · refine j_return d_T_adopt_17 rfl ⟨rfl, rfl⟩ (by decide) (by decide)
  · have k7 := i_eq (by omega) (by omega) h7
    refine j_aload_n d_T_adopt_10 rfl ?_
    refine j_callV (vs := []) d_T_adopt_11 hN (by decide) rfl w378 w379 w5 w381 w380 y_T_isSettled (by decide) (by decide) (k_isSettled M n G h h3 hn hg hV) rfl (Nat.le_of_ble_eq_true rfl) (by decide) (by decide) (fun M1 r1 hq1 => ?_)
    obtain ⟨rfl, ⟨hs, rfl⟩ | ⟨hs, rfl⟩⟩ := hq1
    · exact (hno.elim (fun z => absurd k7 z) (fun z => absurd hs z))
    refine j_if_ne (tgt := 18) d_T_adopt_14 (by decide) (fun h14 => False.elim (h14 rfl)) (fun h14 => ?_)
    refine j_return d_T_adopt_17 rfl ⟨rfl, rfl⟩ (by decide) (by decide)
set_option maxRecDepth 20000 in
set_option maxHeartbeats 2000000 in
theorem k_adopt (M : aM) (n : Nat) (G : aGp) (h : cSh M) (h3 : 3 ≤ n) (hn : n < 12) (hg : gpR M n G) (hV : gpV (n / 3) G) (c q : Nat) (E : Nat → Nat) (hc : c < 16) (hq : cfO M q (fun s => E (7 + s))) (hE : ∀ s, s < 8 → E (7 + s) ≤ 3) (hyes : c = G.1 + 1) (hs : gSet G) : aK m_T_adopt 2 0 0 M [.ref (nd n), .int (nI c), .ref q] (fun M1 r => r = none ∧ gpR M1 n (gpCf (n / 3) G E) ∧ chg M M1 n) := by
  refine aK.of (by decide) (Nat.le_of_ble_eq_true rfl) ?_
  have hN := (cSh_T h h3 hn).1
  obtain ⟨st0, st1, st2, st3⟩ := cSh_st h h3 hn
  have hn7 := hg.1
  have hv16 := hV.1
  obtain ⟨cq, hcq, cI, cT, co, oI0, oR, oT, oV⟩ := hg.2.1
  obtain ⟨nI1, nT, no, oI1, nR, noT, noV⟩ := hq
  have hi35 := nd_hi3 hn h3
  have lo := nd_lo n
  have nim : ∀ a i, im a → i ≤ 8 → ¬ inI n i a := fun a i ha hi q => by unfold inI at q; unfold im at ha; omega
  have loop : ∀ (k i : Nat) (M0 : aM), i + k = 8 → oI M M0 (inI n i) → (∀ s, s < i → mI M0 (nd n + 3 + 4 * s) 0 = nI (hC (n / 3) (G.2.1 s) (E (7 + s)) (G.2.2.1 s)) ∧ (hC (n / 3) (G.2.1 s) (E (7 + s)) (G.2.2.1 s) = 1 ∨ hC (n / 3) (G.2.1 s) (E (7 + s)) (G.2.2.1 s) = 3 → shV M0 (nd n + 3 + 4 * s) (if E (7 + s) = n / 3 ∧ G.2.1 s ≠ n / 3 then fun _ => 0 else G.2.2.2 s))) → aJ aX0 m_T_adopt 2 0 0 (fun M1 r => r = none ∧ gpR M1 n (gpCf (n / 3) G E) ∧ chg M M1 n) 0 0 20 [some (.ref (nd n)), some (.int (nI c)), some (.ref q), some (.int (nI i))] [] M0 := by
    intro k
    induction k with
    | zero =>
      intro i M0 hi ho hp
      have e8 : i = 8 := by omega
      subst e8
      have c0 := oI_chg h h3 hn (ho.mono (fun a ha => inI_N (Nat.le_refl _) a ha))
      have hN0 := ho.tO hN
      refine j_iload_n d_T_adopt_20 rfl ?_
      refine j_bipush (v := 8) d_T_adopt_21 (by decide) ?_
      refine j_icmp_ge (tgt := 57) d_T_adopt_23 (by decide) (fun h23 => ?_) (fun h23 => False.elim (h23 (nI_le (by decide) (by decide))))
      refine j_aload_n d_T_adopt_57 rfl ?_
      refine j_iload_n d_T_adopt_58 rfl ?_
      refine j_puti d_T_adopt_59 hN0 p_T_32_T rfl (by decide) rfl rfl ?_
      refine j_aload_n d_T_adopt_62 rfl ?_
      refine j_aload_n d_T_adopt_63 rfl ?_
      refine j_putR d_T_adopt_64 hN0 p_T_21_T rfl (by decide) (fun z => by cases z <;> rfl) (fun z => by cases z <;> rfl) ?_
      refine j_return d_T_adopt_67 rfl ?_ (by decide) (by decide)
      have st2a : stb M0 (sR (sI M0 (nd n) 7 (nI c)) (nd n) 8 (some q)) := (stb_nd hn (stb.rf M0)).sR (Or.inl (nd_im (i := 0) hn (wd0 n)))
      have g8 : ¬ fx (nd n) 8 := by
        rintro (z | ⟨m, z1, z2, z3⟩ | ⟨m, z1, z2, z3⟩ | ⟨m, s, z1, z2, z3, z4⟩)
        · omega
        · exact z3 rfl
        · by_cases e : n = m
          · subst e; omega
          · exact nd_apart (i := 0) (j := 2) hn z2 e (wd0 n) (by have := wd_3 m; omega) z3
        · by_cases e : n = m
          · subst e; omega
          · exact nd_apart (i := 0) (j := 3 + 4 * s) hn z2 e (wd0 n) (by rw [wd_35 z1]; omega) (by omega)
      have w35 := wd_35 h3
      refine ⟨rfl, ⟨?_, ⟨q, by rw [mm_R_sR, if_pos ⟨rfl, rfl⟩], ?_⟩, fun s hs1 => ?_⟩, c0.tr ⟨st2a, fM_ndR (i := 0) hn (wd0 n) (fM_nd (i := 0) hn (wd0 n) (fM.rf M0)), cSh_sR (cSh_sI c0.2.2.1 (Or.inl (by decide))) g8, fun a _ hi2 => ((sm.rf M0 a).sI (hi2 0 (wd0 n))).sR (hi2 0 (wd0 n)), fun k hk => by rw [mm_I_sR, mm_I_sI, if_neg (fun z => hk z.2)], fun k hk => by rw [mm_R_sR, if_neg (fun z => hk z.2), mm_R_sI], ((sm.rf M0 _).sI (by omega)).sR (by omega)⟩⟩
      · rw [mm_I_sR, mm_I_sI, if_pos ⟨rfl, rfl⟩, hyes]; rfl
      · have hq2 : cfO M0 q (fun s => E (7 + s)) := ⟨nI1, ho.tO nT, no, oI1, ho.R nR, ho.tA noT, fun s hs1 => by rw [ho.2.2 _ (nim _ _ oI1 (Nat.le_refl _))]; exact noV s hs1⟩
        obtain ⟨y1, y2, y3, y4, y5, y6, y7⟩ := hq2.st st2a
        exact ⟨y1, y2, y3, y4, y5, y6, fun s hs1 => by rw [y7 s hs1]; show _ = nI (if s < 8 then E (7 + s) else G.2.1 s); rw [if_pos hs1]⟩
      · obtain ⟨p1, p2⟩ := hp s hs1
        have ec : (gpCf (n / 3) G E).2.2.1 s = hC (n / 3) (G.2.1 s) (E (7 + s)) (G.2.2.1 s) := if_pos hs1
        have eh : (gpCf (n / 3) G E).2.2.2 s = if E (7 + s) = n / 3 ∧ G.2.1 s ≠ n / 3 then fun _ => 0 else G.2.2.2 s := by
          show (if s < 8 ∧ E (7 + s) = n / 3 ∧ G.2.1 s ≠ n / 3 then fun _ => 0 else G.2.2.2 s) = _
          by_cases z : E (7 + s) = n / 3 ∧ G.2.1 s ≠ n / 3
          · rw [if_pos ⟨hs1, z⟩, if_pos z]
          · rw [if_neg (fun y => z y.2), if_neg z]
        rw [ec, eh]
        refine ⟨by rw [mm_I_sR, mm_I_sI, if_neg (by omega)]; exact p1, fun z => ?_⟩
        have o1 : oI M0 (sI M0 (nd n) 7 (nI c)) (fun a => a = nd n) := (oI.rf M0 _).sI rfl
        have v1 := shV_o o1 (by omega) (by omega) (by omega) (p2 z)
        exact ⟨v1.1, v1.2.1, v1.2.2⟩
    | succ k ih =>
      intro i M0 hi ho hp
      have c0 := oI_chg h h3 hn (ho.mono (fun a ha => inI_N (by omega) a ha))
      have hN0 := ho.tO hN
      obtain ⟨d1, d2⟩ := st3 i (by omega)
      obtain ⟨v1, v2, v3, v4⟩ := hV.2 i (by omega)
      obtain ⟨w1, w2⟩ := hg.2.2 i (by omega)
      have hsi := hs i (by omega)
      have hEi := hE i (by omega)
      have nin : ∀ j, j < 4 → ¬ inI n i (nd n + 3 + 4 * i + j) := fun j hj z => by unfold inI at z; omega
      refine j_iload_n d_T_adopt_20 rfl ?_
      refine j_bipush (v := 8) d_T_adopt_21 (by decide) ?_
      refine j_icmp_ge (tgt := 57) d_T_adopt_23 (by decide) (fun h23 => False.elim (nI_ge (b := 8) (by omega) (by decide) h23)) (fun h23 => ?_)
      refine j_aload_n d_T_adopt_26 rfl ?_
      refine j_aload_n d_T_adopt_27 rfl ?_
      refine j_getR d_T_adopt_28 hN0 f_T_11_T rfl (by decide) (ho.R st1) ?_
      refine j_iload_n d_T_adopt_31 rfl ?_
      refine j_aaldR d_T_adopt_32 (ho.tA st2) (by decide) ts_107 (aIx.n (by omega) (by decide)) (ho.R d1) ?_
      refine j_aload_n d_T_adopt_33 rfl ?_
      refine j_getR d_T_adopt_34 hN0 f_T_21_T rfl (by decide) (ho.R hcq) ?_
      refine j_getR d_T_adopt_37 (ho.tO cT) f_T_42_C rfl (by decide) (ho.R oR) ?_
      refine j_iload_n d_T_adopt_40 rfl ?_
      refine j_iald d_T_adopt_41 (ho.tA oT) (aIx.n (by omega) (by decide)) ?_
      refine j_eqi (show _ = nI (G.2.1 i) by rw [ho.2.2 _ (nim _ _ oI0 (by omega))]; exact oV i (by omega)) ?_
      refine j_aload_n d_T_adopt_42 rfl ?_
      refine j_getR d_T_adopt_43 (ho.tO nT) f_T_42_C rfl (by decide) (ho.R nR) ?_
      refine j_iload_n d_T_adopt_46 rfl ?_
      refine j_iald d_T_adopt_47 (ho.tA noT) (aIx.n (by omega) (by decide)) ?_
      refine j_eqi (show _ = nI (E (7 + i)) by rw [ho.2.2 _ (nim _ _ oI1 (by omega))]; exact noV i (by omega)) ?_
      refine j_callV (vs := [_, _, _]) d_T_adopt_48 hN0 (by decide) rfl w382 w383 w5 w385 w384 y_T_handOver (by decide) (by decide) (k_handOver M0 n (nd n + 3 + 4 * i) (G.2.1 i) (E (7 + i)) c0.2.2.1 h3 hn (ho.shT d2) v1 hEi) rfl (Nat.le_of_ble_eq_true rfl) (by decide) (by decide) (fun M2 r2 hq2 => ?_)
      obtain ⟨rfl, e2⟩ := hq2
      obtain ⟨u1, u2, u3⟩ := hand_ok (c0 := G.2.2.1 i) (v0 := G.2.2.2 i) ((ho.2.2 (nd n + 3 + 4 * i) (nin 0 (by omega)) 0).trans w1) (fun z => shV_o ho (nin 1 (by omega)) (nin 2 (by omega)) (nin 3 (by omega)) (w2 z)) (fun z => by have := v2 z; omega) (by omega) e2
      refine j_iinc (nI (i + 1)) d_T_adopt_51 rfl (nI_inc i) (by decide) ?_
      refine j_goto 20 d_T_adopt_54 (by decide) ?_
      -- at 20
      refine ih (i + 1) M2 (by omega) ((ho.mono (fun a z => by unfold inI at z ⊢; omega)).tr (u3.mono (fun a z => by unfold inS at z; unfold inI; omega))) (fun s hs1 => ?_)
      by_cases e : s = i
      · subst e; exact ⟨u1, u2⟩
      · obtain ⟨p1, p2⟩ := hp s (by omega)
        have ns : ∀ j, j < 4 → ¬ inS (nd n + 3 + 4 * i) (nd n + 3 + 4 * s + j) := fun j hj z => by unfold inS at z; omega
        exact ⟨(u3.2.2 (nd n + 3 + 4 * s) (ns 0 (by omega)) 0).trans p1, fun z => shV_o u3 (ns 1 (by omega)) (ns 2 (by omega)) (ns 3 (by omega)) (p2 z)⟩
  refine j_iload_n d_T_adopt_0 rfl ?_
  refine j_aload_n d_T_adopt_1 rfl ?_
  refine j_geti d_T_adopt_2 hN f_T_32_T rfl (by decide) ?_
  refine j_iconst (v := 1) d_T_adopt_5 (by decide) ?_
  refine j_iadd d_T_adopt_6 ?_
  refine j_eqi (show mI M (nd n) 7 + 1 = nI (G.1 + 1) by rw [hn7]; exact (nI_succ G.1).symm) ?_
  refine j_icmp_ne (tgt := 17) d_T_adopt_7 (by decide) (fun h7 => False.elim (h7 (by rw [hyes]))) (fun h7 => ?_)
  refine j_aload_n d_T_adopt_10 rfl ?_
  refine j_callV (vs := []) d_T_adopt_11 hN (by decide) rfl w378 w379 w5 w381 w380 y_T_isSettled (by decide) (by decide) (k_isSettled M n G h h3 hn hg hV) rfl (Nat.le_of_ble_eq_true rfl) (by decide) (by decide) (fun M1 r1 hq1 => ?_)
  obtain ⟨rfl, ⟨hs0, rfl⟩ | ⟨hs0, rfl⟩⟩ := hq1
  rotate_left
  · exact absurd hs hs0
  refine j_if_ne (tgt := 18) d_T_adopt_14 (by decide) (fun h14 => ?_) (fun h14 => False.elim (absurd h14 (by decide)))
  refine j_iconst (v := 0) d_T_adopt_18 (by decide) ?_
  refine j_istore_n d_T_adopt_19 (by decide) ?_
  -- at 20
  exact loop 8 0 _ (by decide) (oI.rf _ _) (fun s z => absurd z (Nat.not_lt_zero s))
