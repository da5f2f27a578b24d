/-- only ints have changed, and only in cells of P -/
def oI (M M1 : aM) (P : Nat → Prop) : Prop := mSz M1 = mSz M ∧ (∀ a, mKd M1 a = mKd M a ∧ mLn M1 a = mLn M a ∧ ∀ k, mR M1 a k = mR M a k) ∧ ∀ a, ¬ P a → ∀ k, mI M1 a k = mI M a k
theorem oI.rf (M : aM) (P : Nat → Prop) : oI M M P := ⟨rfl, fun _ => ⟨rfl, rfl, fun _ => rfl⟩, fun _ _ _ => rfl⟩
theorem oI.tr {M M1 M2 : aM} {P : Nat → Prop} (h : oI M M1 P) (g : oI M1 M2 P) : oI M M2 P := ⟨g.1.trans h.1, fun a => ⟨(g.2.1 a).1.trans (h.2.1 a).1, (g.2.1 a).2.1.trans (h.2.1 a).2.1, fun k => ((g.2.1 a).2.2 k).trans ((h.2.1 a).2.2 k)⟩, fun a ha k => (g.2.2 a ha k).trans (h.2.2 a ha k)⟩
theorem oI.sI {M M1 : aM} {P : Nat → Prop} {o k : Nat} {x : Int32} (h : oI M M1 P) (ho : P o) : oI M (sI M1 o k x) P := h.tr ⟨rfl, fun _ => ⟨rfl, rfl, fun _ => rfl⟩, fun a ha j => by rw [mm_I_sI, if_neg (fun q : a = o ∧ j = k => ha (by rw [q.1]; exact ho))]⟩
theorem oI.sC {M M1 : aM} {P : Nat → Prop} {o sp q dp n : Nat} (h : oI M M1 P) (ho : P q) : oI M (sC M1 o sp q dp n) P := h.tr ⟨rfl, fun _ => ⟨rfl, rfl, fun _ => rfl⟩, fun a ha j => by rw [mm_I_sC, if_neg (fun z : a = q ∧ dp ≤ j ∧ j < dp + n => ha (by rw [z.1]; exact ho))]⟩
theorem oI.sm {M M1 : aM} {P : Nat → Prop} {a : Nat} (h : oI M M1 P) (ha : ¬ P a) : sm M M1 a := ⟨(h.2.1 a).1, (h.2.1 a).2.1, fun k => h.2.2 a ha k, fun k => (h.2.1 a).2.2 k⟩
theorem oI.mono {M M1 : aM} {P Q : Nat → Prop} (h : oI M M1 P) (hq : ∀ a, P a → Q a) : oI M M1 Q := ⟨h.1, h.2.1, fun a ha k => h.2.2 a (fun q => ha (hq a q)) k⟩
theorem oI.tO {M M1 : aM} {P : Nat → Prop} {a ci : Nat} (h : oI M M1 P) (t : tO M a ci) : tO M1 a ci := ⟨by rw [h.1]; exact t.1, (h.2.1 a).1.trans t.2⟩
theorem oI.tA {M M1 : aM} {P : Nat → Prop} {a kd n : Nat} (h : oI M M1 P) (t : tA M a kd n) : tA M1 a kd n := ⟨by rw [h.1]; exact t.1, (h.2.1 a).1.trans t.2.1, (h.2.1 a).2.1.trans t.2.2⟩
theorem oI.R {M M1 : aM} {P : Nat → Prop} {a k : Nat} {r : Option Nat} (h : oI M M1 P) (t : mR M a k = r) : mR M1 a k = r := ((h.2.1 a).2.2 k).trans t
theorem oI.shT {M M1 : aM} {P : Nat → Prop} {a : Nat} (h : oI M M1 P) (t : shT M a) : shT M1 a := ⟨h.tO t.1, h.R t.2.1, h.R t.2.2.1, h.R t.2.2.2.1, h.tA t.2.2.2.2.1, h.tA t.2.2.2.2.2.1, h.tA t.2.2.2.2.2.2⟩
/-- the cells of the shard at h -/
def inS (h : Nat) (a : Nat) : Prop := h ≤ a ∧ a < h + 4
def clr (M : aM) (h : Nat) : aM := sI (sI (sI (sI (sI (sI (sI (sI M (h + 1) 0 0) (h + 1) 1 0) (h + 2) 0 0) (h + 3) 0 0) (h + 2) 1 0) (h + 3) 1 0) (h + 2) 2 0) (h + 3) 2 0
def cpy (M : aM) (g h : Nat) : aM := sC (sC (sC M (g + 1) 0 (h + 1) 0 2) (g + 2) 0 (h + 2) 0 3) (g + 3) 0 (h + 3) 0 3
theorem clr_o (M : aM) (h : Nat) : oI M (clr M h) (inS h) := by
  unfold clr
  refine oI.sI (oI.sI (oI.sI (oI.sI (oI.sI (oI.sI (oI.sI (oI.sI (oI.rf M _) ?_) ?_) ?_) ?_) ?_) ?_) ?_) ?_ <;> (unfold inS; omega)
theorem clr_v (M : aM) (h : Nat) : shV (clr M h) h (fun _ => 0) := by
  unfold clr
  refine ⟨fun i hi => ?_, fun i hi => ?_, fun i hi => ?_⟩
  · rcases (by omega : i = 0 ∨ i = 1) with rfl | rfl <;> simp [mm_I_sI] <;> rfl
  · rcases (by omega : i = 0 ∨ i = 1 ∨ i = 2) with rfl | rfl | rfl <;> simp [mm_I_sI] <;> rfl
  · rcases (by omega : i = 0 ∨ i = 1 ∨ i = 2) with rfl | rfl | rfl <;> simp [mm_I_sI] <;> rfl
theorem clr_c (M : aM) (h : Nat) : mI (clr M h) h 0 = mI M h 0 := by
  unfold clr
  simp [mm_I_sI]
theorem cpy_o (M : aM) (g h : Nat) : oI M (cpy M g h) (inS h) := by
  unfold cpy
  refine oI.sC (oI.sC (oI.sC (oI.rf M _) ?_) ?_) ?_ <;> (unfold inS; omega)
theorem cpy_v {M : aM} {g h : Nat} {v : Nat → Nat} (hv : shV M g v) (hgh : g + 4 ≤ h ∨ h + 4 ≤ g) : shV (cpy M g h) h v := by
  unfold cpy
  refine ⟨fun i hi => ?_, fun i hi => ?_, fun i hi => ?_⟩
  · rw [mm_I_sC, if_neg (by omega), mm_I_sC, if_neg (by omega), mm_I_sC, if_pos ⟨rfl, by omega, by omega⟩, show 0 + (i - 0) = i by omega]; exact hv.1 i hi
  · rw [mm_I_sC, if_neg (by omega), mm_I_sC, if_pos ⟨rfl, by omega, by omega⟩, show 0 + (i - 0) = i by omega, mm_I_sC, if_neg (by omega)]; exact hv.2.1 i hi
  · rw [mm_I_sC, if_pos ⟨rfl, by omega, by omega⟩, show 0 + (i - 0) = i by omega, mm_I_sC, if_neg (by omega), mm_I_sC, if_neg (by omega)]; exact hv.2.2 i hi
theorem cpy_c (M : aM) (g h : Nat) : mI (cpy M g h) h 0 = mI M h 0 := by
  unfold cpy
  rw [mm_I_sC, if_neg (by omega), mm_I_sC, if_neg (by omega), mm_I_sC, if_neg (by omega)]

set_option maxRecDepth 20000 in
set_option maxHeartbeats 1000000 in
theorem k_clear (M : aM) (h : Nat) (ht : shT M h) : aK m_H_clear 0 0 0 M [.ref h] (fun M1 r => r = none ∧ M1 = clr M h) := by
  refine aK.of (by decide) (Nat.le_of_ble_eq_true rfl) ?_
  obtain ⟨t1, t2, t3, t4, t5, t6, t7⟩ := ht
  refine j_iconst (v := 0) d_H_clear_0 (by decide) ?_
  refine j_istore_n d_H_clear_1 (by decide) ?_
  -- at 2
  refine j_iload_n d_H_clear_2 rfl ?_
  refine j_aload_n d_H_clear_3 rfl ?_
  refine j_getR d_H_clear_4 t1 f_H_15_H rfl (by decide) t2 ?_
  refine j_alen d_H_clear_7 t5 (by decide) ty_100 rfl ?_
  refine j_icmp_ge (tgt := 24) d_H_clear_8 (by decide) (fun h8 => False.elim (absurd h8 (by decide))) (fun h8 => ?_)
  refine j_aload_n d_H_clear_11 rfl ?_
  refine j_getR d_H_clear_12 t1 f_H_15_H rfl (by decide) t2 ?_
  refine j_iload_n d_H_clear_15 rfl ?_
  refine j_iconst (v := 0) d_H_clear_16 (by decide) ?_
  refine j_iast d_H_clear_17 t5 (aIx.of (j := 0) rfl (by decide) (by decide)) ?_
  refine j_iinc 1 d_H_clear_18 rfl rfl (by decide) ?_
  refine j_goto 2 d_H_clear_21 (by decide) ?_
  -- at 2
  refine j_iload_n d_H_clear_2 rfl ?_
  refine j_aload_n d_H_clear_3 rfl ?_
  refine j_getR d_H_clear_4 t1 f_H_15_H rfl (by decide) t2 ?_
  refine j_alen d_H_clear_7 t5 (by decide) ty_100 rfl ?_
  refine j_icmp_ge (tgt := 24) d_H_clear_8 (by decide) (fun h8 => False.elim (absurd h8 (by decide))) (fun h8 => ?_)
  refine j_aload_n d_H_clear_11 rfl ?_
  refine j_getR d_H_clear_12 t1 f_H_15_H rfl (by decide) t2 ?_
  refine j_iload_n d_H_clear_15 rfl ?_
  refine j_iconst (v := 0) d_H_clear_16 (by decide) ?_
  refine j_iast d_H_clear_17 t5 (aIx.of (j := 1) rfl (by decide) (by decide)) ?_
  refine j_iinc 2 d_H_clear_18 rfl rfl (by decide) ?_
  refine j_goto 2 d_H_clear_21 (by decide) ?_
  -- at 2
  refine j_iload_n d_H_clear_2 rfl ?_
  refine j_aload_n d_H_clear_3 rfl ?_
  refine j_getR d_H_clear_4 t1 f_H_15_H rfl (by decide) t2 ?_
  refine j_alen d_H_clear_7 t5 (by decide) ty_100 rfl ?_
  refine j_icmp_ge (tgt := 24) d_H_clear_8 (by decide) (fun h8 => ?_) (fun h8 => False.elim (h8 (by decide)))
  refine j_iconst (v := 0) d_H_clear_24 (by decide) ?_
  refine j_istore_n d_H_clear_25 (by decide) ?_
  -- at 26
  refine j_iload_n d_H_clear_26 rfl ?_
  refine j_iconst (v := 3) d_H_clear_27 (by decide) ?_
  refine j_icmp_ge (tgt := 51) d_H_clear_28 (by decide) (fun h28 => False.elim (absurd h28 (by decide))) (fun h28 => ?_)
  refine j_aload_n d_H_clear_31 rfl ?_
  refine j_getR d_H_clear_32 t1 f_H_19_H rfl (by decide) t3 ?_
  refine j_iload_n d_H_clear_35 rfl ?_
  refine j_iconst (v := 0) d_H_clear_36 (by decide) ?_
  refine j_iast d_H_clear_37 t6 (aIx.of (j := 0) rfl (by decide) (by decide)) ?_
  refine j_aload_n d_H_clear_38 rfl ?_
  refine j_getR d_H_clear_39 t1 f_H_22_H rfl (by decide) t4 ?_
  refine j_iload_n d_H_clear_42 rfl ?_
  refine j_iconst (v := 0) d_H_clear_43 (by decide) ?_
  refine j_iast d_H_clear_44 t7 (aIx.of (j := 0) rfl (by decide) (by decide)) ?_
  refine j_iinc 1 d_H_clear_45 rfl rfl (by decide) ?_
  refine j_goto 26 d_H_clear_48 (by decide) ?_
  -- at 26
  refine j_iload_n d_H_clear_26 rfl ?_
  refine j_iconst (v := 3) d_H_clear_27 (by decide) ?_
  refine j_icmp_ge (tgt := 51) d_H_clear_28 (by decide) (fun h28 => False.elim (absurd h28 (by decide))) (fun h28 => ?_)
  refine j_aload_n d_H_clear_31 rfl ?_
  refine j_getR d_H_clear_32 t1 f_H_19_H rfl (by decide) t3 ?_
  refine j_iload_n d_H_clear_35 rfl ?_
  refine j_iconst (v := 0) d_H_clear_36 (by decide) ?_
  refine j_iast d_H_clear_37 t6 (aIx.of (j := 1) rfl (by decide) (by decide)) ?_
  refine j_aload_n d_H_clear_38 rfl ?_
  refine j_getR d_H_clear_39 t1 f_H_22_H rfl (by decide) t4 ?_
  refine j_iload_n d_H_clear_42 rfl ?_
  refine j_iconst (v := 0) d_H_clear_43 (by decide) ?_
  refine j_iast d_H_clear_44 t7 (aIx.of (j := 1) rfl (by decide) (by decide)) ?_
  refine j_iinc 2 d_H_clear_45 rfl rfl (by decide) ?_
  refine j_goto 26 d_H_clear_48 (by decide) ?_
  -- at 26
  refine j_iload_n d_H_clear_26 rfl ?_
  refine j_iconst (v := 3) d_H_clear_27 (by decide) ?_
  refine j_icmp_ge (tgt := 51) d_H_clear_28 (by decide) (fun h28 => False.elim (absurd h28 (by decide))) (fun h28 => ?_)
  refine j_aload_n d_H_clear_31 rfl ?_
  refine j_getR d_H_clear_32 t1 f_H_19_H rfl (by decide) t3 ?_
  refine j_iload_n d_H_clear_35 rfl ?_
  refine j_iconst (v := 0) d_H_clear_36 (by decide) ?_
  refine j_iast d_H_clear_37 t6 (aIx.of (j := 2) rfl (by decide) (by decide)) ?_
  refine j_aload_n d_H_clear_38 rfl ?_
  refine j_getR d_H_clear_39 t1 f_H_22_H rfl (by decide) t4 ?_
  refine j_iload_n d_H_clear_42 rfl ?_
  refine j_iconst (v := 0) d_H_clear_43 (by decide) ?_
  refine j_iast d_H_clear_44 t7 (aIx.of (j := 2) rfl (by decide) (by decide)) ?_
  refine j_iinc 3 d_H_clear_45 rfl rfl (by decide) ?_
  refine j_goto 26 d_H_clear_48 (by decide) ?_
  -- at 26
  refine j_iload_n d_H_clear_26 rfl ?_
  refine j_iconst (v := 3) d_H_clear_27 (by decide) ?_
  refine j_icmp_ge (tgt := 51) d_H_clear_28 (by decide) (fun h28 => ?_) (fun h28 => False.elim (h28 (by decide)))
  refine j_return d_H_clear_51 rfl ⟨rfl, rfl⟩ (by decide) (by decide)
set_option maxRecDepth 20000 in
set_option maxHeartbeats 1000000 in
theorem k_copyContents (M : aM) (h g : Nat) (ht : shT M h) (hg : shT M g) : aK m_H_copyContents 1 0 0 M [.ref h, .ref g] (fun M1 r => r = none ∧ M1 = cpy M g h) := by
  refine aK.of (by decide) (Nat.le_of_ble_eq_true rfl) ?_
  obtain ⟨t1, t2, t3, t4, t5, t6, t7⟩ := ht
  obtain ⟨g1, g2, g3, g4, g5, g6, g7⟩ := hg
  refine j_aload_n d_H_copyContents_0 rfl ?_
  refine j_getR d_H_copyContents_1 g1 f_H_15_H rfl (by decide) g2 ?_
  refine j_iconst (v := 0) d_H_copyContents_4 (by decide) ?_
  refine j_aload_n d_H_copyContents_5 rfl ?_
  refine j_getR d_H_copyContents_6 t1 f_H_15_H rfl (by decide) t2 ?_
  refine j_iconst (v := 0) d_H_copyContents_9 (by decide) ?_
  refine j_aload_n d_H_copyContents_10 rfl ?_
  refine j_getR d_H_copyContents_11 t1 f_H_15_H rfl (by decide) t2 ?_
  refine j_alen d_H_copyContents_14 t5 (by decide) ty_100 rfl ?_
  refine j_copy (kd := 100) d_H_copyContents_15 w400 w323 w322 w10 g5 t5 (by decide) (by decide) tx_100 rfl rfl rfl rfl (by decide) (by decide) (by decide) (by decide) (fun q _ => rfl) (by decide) (Nat.le_of_ble_eq_true rfl) ?_
  refine j_aload_n d_H_copyContents_18 rfl ?_
  refine j_getR d_H_copyContents_19 g1 f_H_19_H rfl (by decide) g3 ?_
  refine j_iconst (v := 0) d_H_copyContents_22 (by decide) ?_
  refine j_aload_n d_H_copyContents_23 rfl ?_
  refine j_getR d_H_copyContents_24 t1 f_H_19_H rfl (by decide) t3 ?_
  refine j_iconst (v := 0) d_H_copyContents_27 (by decide) ?_
  refine j_iconst (v := 3) d_H_copyContents_28 (by decide) ?_
  refine j_copy (kd := 100) d_H_copyContents_29 w400 w323 w322 w10 g6 t6 (by decide) (by decide) tx_100 rfl rfl rfl rfl (by decide) (by decide) (by decide) (by decide) (fun q _ => rfl) (by decide) (Nat.le_of_ble_eq_true rfl) ?_
  refine j_aload_n d_H_copyContents_32 rfl ?_
  refine j_getR d_H_copyContents_33 g1 f_H_22_H rfl (by decide) g4 ?_
  refine j_iconst (v := 0) d_H_copyContents_36 (by decide) ?_
  refine j_aload_n d_H_copyContents_37 rfl ?_
  refine j_getR d_H_copyContents_38 t1 f_H_22_H rfl (by decide) t4 ?_
  refine j_iconst (v := 0) d_H_copyContents_41 (by decide) ?_
  refine j_iconst (v := 3) d_H_copyContents_42 (by decide) ?_
  refine j_copy (kd := 100) d_H_copyContents_43 w400 w323 w322 w10 g7 t7 (by decide) (by decide) tx_100 rfl rfl rfl rfl (by decide) (by decide) (by decide) (by decide) (fun q _ => rfl) (by decide) (Nat.le_of_ble_eq_true rfl) ?_
  refine j_return d_H_copyContents_46 rfl ?_ (by decide) (by decide)
  exact ⟨rfl, rfl⟩
set_option maxRecDepth 20000 in
set_option maxHeartbeats 1000000 in
theorem k_hasContents (M : aM) (h c : Nat) (ht : tO M h 4) (hc : mI M h 0 = nI c) (hc2 : c < 100) : aK m_H_hasContents 0 0 0 M [.ref h] (fun M1 r => M1 = M ∧ r = some (.int (bP (c = 1 ∨ c = 3)))) := by
  refine aK.of (by decide) (Nat.le_of_ble_eq_true rfl) ?_
  refine j_aload_n d_H_hasContents_0 rfl ?_
  refine j_geti d_H_hasContents_1 ht f_H_9_H rfl (by decide) ?_
  refine j_eqi hc ?_
  refine j_iconst (v := 1) d_H_hasContents_4 (by decide) ?_
  refine j_icmp_eq (tgt := 16) d_H_hasContents_5 (by decide) (fun h5 => ?_) (fun h5 => ?_)
  · have hb : bP (c = 1 ∨ c = 3) = 1 := bP_t (Or.inl (i_eq (b := 1) (by omega) (by decide) h5))
    refine j_iconst (v := 1) d_H_hasContents_16 (by decide) ?_
    refine j_goto 21 d_H_hasContents_17 (by decide) ?_
    refine j_ireturn d_H_hasContents_21 rfl rfl ?_ (by decide) (by decide)
    exact ⟨rfl, by rw [hb]⟩
  · have n1 := i_ne (b := 1) (by omega) (by decide) h5
    refine j_aload_n d_H_hasContents_8 rfl ?_
    refine j_geti d_H_hasContents_9 ht f_H_9_H rfl (by decide) ?_
    refine j_eqi hc ?_
    refine j_iconst (v := 3) d_H_hasContents_12 (by decide) ?_
    refine j_icmp_ne (tgt := 20) d_H_hasContents_13 (by decide) (fun h13 => ?_) (fun h13 => ?_)
    · have n3 := i_ne (b := 3) (by omega) (by decide) h13
      have hb : bP (c = 1 ∨ c = 3) = 0 := bP_f (by omega)
      refine j_iconst (v := 0) d_H_hasContents_20 (by decide) ?_
      refine j_ireturn d_H_hasContents_21 rfl rfl ?_ (by decide) (by decide)
      exact ⟨rfl, by rw [hb]⟩
    · have hb : bP (c = 1 ∨ c = 3) = 1 := bP_t (Or.inr (i_eq (b := 3) (by omega) (by decide) h13))
      refine j_iconst (v := 1) d_H_hasContents_16 (by decide) ?_
      refine j_goto 21 d_H_hasContents_17 (by decide) ?_
      refine j_ireturn d_H_hasContents_21 rfl rfl ?_ (by decide) (by decide)
      exact ⟨rfl, by rw [hb]⟩
theorem add1000 {a b : Nat} (ha : a < 1000) (hb : b < 1000) : (nI a + nI b) - (nI a + nI b) / 1000 * 1000 = nI ((a + b) % 1000) := by
  rw [nI_add]
  exact pk_rem (d := 1000) (by omega) (by decide) (by decide)
/-- a request on what a shard holds -/
def svN (v : Nat → Nat) (E : Nat → Nat) : Nat := if E 4 = 0 then v (E 5 / 8) else if E 4 = 1 then E 6 else (v (E 5 / 8) + E 6) % 1000
def svH (v : Nat → Nat) (E : Nat → Nat) : Nat → Nat := fu (fu (fu v (E 5 / 8) (svN v E)) (2 + E 2) (E 3)) (5 + E 2) (svN v E)
theorem svH_V {M : aM} {h : Nat} {v : Nat → Nat} {E : Nat → Nat} {x : Nat} (hv : shV M h v) (e2 : E 2 < 3) (e5 : E 5 < 16) (hx : x = svN v E) {M1 : aM} (ho : oI M M1 (inS h)) (h1 : ∀ i, i < 2 → mI M1 (h + 1) i = nI (fu v (E 5 / 8) x i)) (h2 : ∀ i, mI M1 (h + 2) i = mI M (h + 2) i) (h3 : ∀ i, mI M1 (h + 3) i = mI M (h + 3) i) :
    shV (sI (sI M1 (h + 2) (E 2) (nI (E 3))) (h + 3) (E 2) (nI x)) h (svH v E) ∧ oI M (sI (sI M1 (h + 2) (E 2) (nI (E 3))) (h + 3) (E 2) (nI x)) (inS h) := by
  refine ⟨⟨fun i hi => ?_, fun i hi => ?_, fun i hi => ?_⟩, (ho.sI (by unfold inS; omega)).sI (by unfold inS; omega)⟩
  · rw [mm_I_sI, if_neg (by omega), mm_I_sI, if_neg (by omega), h1 i hi]
    unfold svH
    rw [fu_n _ _ (show i ≠ 5 + E 2 by omega), fu_n _ _ (show i ≠ 2 + E 2 by omega), hx]
  · rw [mm_I_sI, if_neg (by omega), mm_I_sI]
    unfold svH
    rw [fu_n _ _ (show 2 + i ≠ 5 + E 2 by omega)]
    by_cases q : i = E 2
    · rw [if_pos ⟨rfl, q⟩, q, fu_s]
    · rw [if_neg (fun z => q z.2), fu_n _ _ (show 2 + i ≠ 2 + E 2 by omega), fu_n _ _ (show 2 + i ≠ E 5 / 8 by omega), h2]; exact hv.2.1 i hi
  · rw [mm_I_sI]
    unfold svH
    by_cases q : i = E 2
    · rw [if_pos ⟨rfl, q⟩, q, fu_s, hx]
    · rw [if_neg (fun z => q z.2), fu_n _ _ (show 5 + i ≠ 5 + E 2 by omega), fu_n _ _ (show 5 + i ≠ 2 + E 2 by omega), fu_n _ _ (show 5 + i ≠ E 5 / 8 by omega), mm_I_sI, if_neg (by omega), h3]; exact hv.2.2 i hi

set_option maxRecDepth 20000 in
set_option maxHeartbeats 1000000 in
theorem k_serve_no (M : aM) (h e : Nat) (E : Nat → Nat) (ht : shT M h) (he : tO M e 8) (r1 : mI M e 1 = nI (E 2)) (r2 : mI M e 2 = nI (E 3)) (r3 : mI M e 3 = nI (E 4)) (r4 : mI M e 4 = nI (E 5)) (r5 : mI M e 5 = nI (E 6)) (e2 : E 2 < 3) (e3 : E 3 ≤ 999) (e4 : E 4 < 3) (e5 : E 5 < 16) (e6 : E 6 < 1000) (c : Nat) (hc : mI M h 0 = nI c) (hc2 : c < 100) (hno : c ≠ 1 ∨ (∃ y, mI M (h + 2) (E 2) = nI y ∧ E 3 ≤ y ∧ y < 1000)) : aK m_H_serve 1 0 0 M [.ref h, .ref e] (fun M1 r => r = none ∧ M1 = M) := by
  refine aK.of (by decide) (Nat.le_of_ble_eq_true rfl) ?_
  obtain ⟨t1, t2, t3, t4, t5, t6, t7⟩ := ht
  refine j_aload_n d_H_serve_0 rfl ?_
  refine j_geti d_H_serve_1 t1 f_H_9_H rfl (by decide) ?_
  refine j_eqi hc ?_
  refine j_iconst (v := 1) d_H_serve_4 (by decide) ?_
  refine j_icmp_ne (tgt := 24) d_H_serve_5 (by decide) (fun h5 => ?_) (fun h5 => ?_)
  · refine j_return d_H_serve_24 rfl ?_ (by decide) (by decide)
    exact ⟨rfl, rfl⟩
  · refine j_aload_n d_H_serve_8 rfl ?_
    refine j_geti d_H_serve_9 he f_H_31_R rfl (by decide) ?_
    refine j_eqi r2 ?_
    refine j_aload_n d_H_serve_12 rfl ?_
    refine j_getR d_H_serve_13 t1 f_H_19_H rfl (by decide) t3 ?_
    refine j_aload_n d_H_serve_16 rfl ?_
    refine j_geti d_H_serve_17 he f_H_36_R rfl (by decide) ?_
    refine j_eqi r1 ?_
    refine j_iald d_H_serve_20 t6 (aIx.n e2 (by decide)) ?_
    refine j_icmp_gt (tgt := 25) d_H_serve_21 (by decide) (fun h21 => False.elim (hno.elim (fun z => z (i_eq (b := 1) (by omega) (by decide) h5)) (fun ⟨y, y1, y2, y3⟩ => by rw [y1] at h21; exact absurd (i_lt (by omega) (by omega) h21) (by omega)))) (fun h21 => ?_)
    refine j_return d_H_serve_24 rfl ?_ (by decide) (by decide)
    exact ⟨rfl, rfl⟩
set_option maxRecDepth 20000 in
set_option maxHeartbeats 1000000 in
theorem k_serve (M : aM) (h e : Nat) (E : Nat → Nat) (ht : shT M h) (he : tO M e 8) (r1 : mI M e 1 = nI (E 2)) (r2 : mI M e 2 = nI (E 3)) (r3 : mI M e 3 = nI (E 4)) (r4 : mI M e 4 = nI (E 5)) (r5 : mI M e 5 = nI (E 6)) (e2 : E 2 < 3) (e3 : E 3 ≤ 999) (e4 : E 4 < 3) (e5 : E 5 < 16) (e6 : E 6 < 1000) (c : Nat) (hc : mI M h 0 = nI c) (hc2 : c < 100) (v : Nat → Nat) (hc1 : c = 1) (hv : shV M h v) (hb : ∀ i, i < 8 → v i < 1000) (hlt : v (2 + E 2) < E 3) (ne1 : e ≠ h + 1) (ne2 : e ≠ h + 2) (ne3 : e ≠ h + 3) : aK m_H_serve 1 0 0 M [.ref h, .ref e] (fun M1 r => r = none ∧ shV M1 h (svH v E) ∧ oI M M1 (inS h) ∧ mI M1 h 0 = mI M h 0) := by
  refine aK.of (by decide) (Nat.le_of_ble_eq_true rfl) ?_
  obtain ⟨t1, t2, t3, t4, t5, t6, t7⟩ := ht
  refine j_aload_n d_H_serve_0 rfl ?_
  refine j_geti d_H_serve_1 t1 f_H_9_H rfl (by decide) ?_
  refine j_eqi hc ?_
  refine j_iconst (v := 1) d_H_serve_4 (by decide) ?_
  refine j_icmp_ne (tgt := 24) d_H_serve_5 (by decide) (fun h5 => False.elim (h5 (by rw [hc1]; rfl))) (fun h5 => ?_)
  refine j_aload_n d_H_serve_8 rfl ?_
  refine j_geti d_H_serve_9 he f_H_31_R rfl (by decide) ?_
  refine j_eqi r2 ?_
  refine j_aload_n d_H_serve_12 rfl ?_
  refine j_getR d_H_serve_13 t1 f_H_19_H rfl (by decide) t3 ?_
  refine j_aload_n d_H_serve_16 rfl ?_
  refine j_geti d_H_serve_17 he f_H_36_R rfl (by decide) ?_
  refine j_eqi r1 ?_
  refine j_iald d_H_serve_20 t6 (aIx.n e2 (by decide)) ?_
  refine j_eqi (hv.2.1 (E 2) e2) ?_
  refine j_icmp_gt (tgt := 25) d_H_serve_21 (by decide) (fun h21 => ?_) (fun h21 => False.elim (h21 (nI_lt hlt (by omega))))
  refine j_aload_n d_H_serve_25 rfl ?_
  refine j_geti d_H_serve_26 he f_H_39_R rfl (by decide) ?_
  refine j_eqi r4 ?_
  refine j_callSN (vs := [_]) d_H_serve_29 nw11 w412 w1 w413 y_S_placeInShard (by decide) (by decide) (k_placeInShard M (nI (E 5))) rfl (Nat.le_of_ble_eq_true rfl) (by decide) (by decide) (fun M1 r1 hq1 => ?_)
  obtain ⟨rfl, rfl⟩ := hq1
  rw [show nI (E 5) / 8 = nI (E 5 / 8) from pk_div (d := 8) (by omega) (by decide) (by decide)]
  refine j_istore_n d_H_serve_32 (by decide) ?_
  refine j_aload_n d_H_serve_33 rfl ?_
  refine j_geti d_H_serve_34 he f_H_46_R rfl (by decide) ?_
  refine j_eqi r3 ?_
  refine j_iconst (v := 1) d_H_serve_37 (by decide) ?_
  refine j_icmp_ne (tgt := 54) d_H_serve_38 (by decide) (fun h38 => ?_) (fun h38 => ?_)
  · have k1 := i_ne (b := 1) (by omega) (by decide) h38
    refine j_aload_n d_H_serve_54 rfl ?_
    refine j_geti d_H_serve_55 he f_H_46_R rfl (by decide) ?_
    refine j_eqi r3 ?_
    refine j_iconst (v := 2) d_H_serve_58 (by decide) ?_
    refine j_icmp_ne (tgt := 83) d_H_serve_59 (by decide) (fun h59 => ?_) (fun h59 => ?_)
    · have k2 := i_ne (b := 2) (by omega) (by decide) h59
      have hx : v (E 5 / 8) = svN v E := by unfold svN; rw [if_pos (by omega)]
      refine j_aload_n d_H_serve_83 rfl ?_
      refine j_getR d_H_serve_84 t1 f_H_19_H rfl (by decide) t3 ?_
      refine j_aload_n d_H_serve_87 rfl ?_
      refine j_geti d_H_serve_88 he f_H_36_R rfl (by decide) ?_
      refine j_eqi (show _ = nI (E 2) by (repeat rw [mm_I_sI, if_neg (by omega)]); exact r1) ?_
      refine j_aload_n d_H_serve_91 rfl ?_
      refine j_geti d_H_serve_92 he f_H_31_R rfl (by decide) ?_
      refine j_eqi (show _ = nI (E 3) by (repeat rw [mm_I_sI, if_neg (by omega)]); exact r2) ?_
      refine j_iast d_H_serve_95 t6 (aIx.n e2 (by decide)) ?_
      refine j_aload_n d_H_serve_96 rfl ?_
      refine j_getR d_H_serve_97 t1 f_H_22_H rfl (by decide) t4 ?_
      refine j_aload_n d_H_serve_100 rfl ?_
      refine j_geti d_H_serve_101 he f_H_36_R rfl (by decide) ?_
      refine j_eqi (show _ = nI (E 2) by (repeat rw [mm_I_sI, if_neg (by omega)]); exact r1) ?_
      refine j_aload_n d_H_serve_104 rfl ?_
      refine j_getR d_H_serve_105 t1 f_H_15_H rfl (by decide) t2 ?_
      refine j_iload_n d_H_serve_108 rfl ?_
      refine j_iald d_H_serve_109 t5 (aIx.n (by omega) (by decide)) ?_
      rw [mm_I_sI, if_neg (by omega)]
      first | rw [mm_I_sI, if_pos ⟨rfl, rfl⟩] | rw [hv.1 (E 5 / 8) (by omega)]
      refine j_iast d_H_serve_110 t7 (aIx.n e2 (by decide)) ?_
      refine j_return d_H_serve_111 rfl ?_ (by decide) (by decide)
      refine ⟨rfl, ?_⟩
      first
        | (obtain ⟨u1, u2⟩ := svH_V (M1 := M1) hv e2 e5 hx (oI.rf M1 _) (fun i hi => by by_cases q : i = E 5 / 8; rw [q, fu_s]; exact hv.1 _ (by omega); rw [fu_n _ _ q]; exact hv.1 i hi) (fun _ => rfl) (fun _ => rfl)
           exact ⟨u1, u2, by rw [mm_I_sI, if_neg (by omega), mm_I_sI, if_neg (by omega)]⟩)
        | (obtain ⟨u1, u2⟩ := svH_V (M1 := sI M1 (h + 1) (E 5 / 8) (nI (svN v E))) hv e2 e5 rfl ((oI.rf M1 _).sI (by unfold inS; omega)) (fun i hi => by rw [mm_I_sI]; by_cases q : i = E 5 / 8; rw [if_pos ⟨rfl, q⟩, q, fu_s]; rw [if_neg (fun z => q z.2), fu_n _ _ q]; exact hv.1 i hi) (fun i => by rw [mm_I_sI, if_neg (by omega)]) (fun i => by rw [mm_I_sI, if_neg (by omega)])
           rw [hx]
           exact ⟨u1, u2, by rw [mm_I_sI, if_neg (by omega), mm_I_sI, if_neg (by omega), mm_I_sI, if_neg (by omega)]⟩)
    · have k2 := i_eq (b := 2) (by omega) (by decide) h59
      have hx : (v (E 5 / 8) + E 6) % 1000 = svN v E := by unfold svN; rw [if_neg (by omega), if_neg (by omega)]
      refine j_aload_n d_H_serve_62 rfl ?_
      refine j_getR d_H_serve_63 t1 f_H_15_H rfl (by decide) t2 ?_
      refine j_iload_n d_H_serve_66 rfl ?_
      refine j_aload_n d_H_serve_67 rfl ?_
      refine j_getR d_H_serve_68 t1 f_H_15_H rfl (by decide) t2 ?_
      refine j_iload_n d_H_serve_71 rfl ?_
      refine j_iald d_H_serve_72 t5 (aIx.n (by omega) (by decide)) ?_
      refine j_eqi (hv.1 (E 5 / 8) (by omega)) ?_
      refine j_aload_n d_H_serve_73 rfl ?_
      refine j_geti d_H_serve_74 he f_H_49_R rfl (by decide) ?_
      refine j_eqi r5 ?_
      refine j_iadd d_H_serve_77 ?_
      refine j_sipush (v := 1000) d_H_serve_78 (by decide) ?_
      refine j_irem d_H_serve_81 (by decide) ?_
      refine j_eqi (add1000 (hb _ (by omega)) e6) ?_
      refine j_iast d_H_serve_82 t5 (aIx.n (by omega) (by decide)) ?_
      refine j_aload_n d_H_serve_83 rfl ?_
      refine j_getR d_H_serve_84 t1 f_H_19_H rfl (by decide) t3 ?_
      refine j_aload_n d_H_serve_87 rfl ?_
      refine j_geti d_H_serve_88 he f_H_36_R rfl (by decide) ?_
      refine j_eqi (show _ = nI (E 2) by (repeat rw [mm_I_sI, if_neg (by omega)]); exact r1) ?_
      refine j_aload_n d_H_serve_91 rfl ?_
      refine j_geti d_H_serve_92 he f_H_31_R rfl (by decide) ?_
      refine j_eqi (show _ = nI (E 3) by (repeat rw [mm_I_sI, if_neg (by omega)]); exact r2) ?_
      refine j_iast d_H_serve_95 t6 (aIx.n e2 (by decide)) ?_
      refine j_aload_n d_H_serve_96 rfl ?_
      refine j_getR d_H_serve_97 t1 f_H_22_H rfl (by decide) t4 ?_
      refine j_aload_n d_H_serve_100 rfl ?_
      refine j_geti d_H_serve_101 he f_H_36_R rfl (by decide) ?_
      refine j_eqi (show _ = nI (E 2) by (repeat rw [mm_I_sI, if_neg (by omega)]); exact r1) ?_
      refine j_aload_n d_H_serve_104 rfl ?_
      refine j_getR d_H_serve_105 t1 f_H_15_H rfl (by decide) t2 ?_
      refine j_iload_n d_H_serve_108 rfl ?_
      refine j_iald d_H_serve_109 t5 (aIx.n (by omega) (by decide)) ?_
      rw [mm_I_sI, if_neg (by omega)]
      first | rw [mm_I_sI, if_pos ⟨rfl, rfl⟩] | rw [hv.1 (E 5 / 8) (by omega)]
      refine j_iast d_H_serve_110 t7 (aIx.n e2 (by decide)) ?_
      refine j_return d_H_serve_111 rfl ?_ (by decide) (by decide)
      refine ⟨rfl, ?_⟩
      first
        | (obtain ⟨u1, u2⟩ := svH_V (M1 := M1) hv e2 e5 hx (oI.rf M1 _) (fun i hi => by by_cases q : i = E 5 / 8; rw [q, fu_s]; exact hv.1 _ (by omega); rw [fu_n _ _ q]; exact hv.1 i hi) (fun _ => rfl) (fun _ => rfl)
           exact ⟨u1, u2, by rw [mm_I_sI, if_neg (by omega), mm_I_sI, if_neg (by omega)]⟩)
        | (obtain ⟨u1, u2⟩ := svH_V (M1 := sI M1 (h + 1) (E 5 / 8) (nI (svN v E))) hv e2 e5 rfl ((oI.rf M1 _).sI (by unfold inS; omega)) (fun i hi => by rw [mm_I_sI]; by_cases q : i = E 5 / 8; rw [if_pos ⟨rfl, q⟩, q, fu_s]; rw [if_neg (fun z => q z.2), fu_n _ _ q]; exact hv.1 i hi) (fun i => by rw [mm_I_sI, if_neg (by omega)]) (fun i => by rw [mm_I_sI, if_neg (by omega)])
           rw [hx]
           exact ⟨u1, u2, by rw [mm_I_sI, if_neg (by omega), mm_I_sI, if_neg (by omega), mm_I_sI, if_neg (by omega)]⟩)
  · have k1 := i_eq (b := 1) (by omega) (by decide) h38
    have hx : E 6 = svN v E := by unfold svN; rw [if_neg (by omega), if_pos k1]
    refine j_aload_n d_H_serve_41 rfl ?_
    refine j_getR d_H_serve_42 t1 f_H_15_H rfl (by decide) t2 ?_
    refine j_iload_n d_H_serve_45 rfl ?_
    refine j_aload_n d_H_serve_46 rfl ?_
    refine j_geti d_H_serve_47 he f_H_49_R rfl (by decide) ?_
    refine j_eqi r5 ?_
    refine j_iast d_H_serve_50 t5 (aIx.n (by omega) (by decide)) ?_
    refine j_goto 83 d_H_serve_51 (by decide) ?_
    refine j_aload_n d_H_serve_83 rfl ?_
    refine j_getR d_H_serve_84 t1 f_H_19_H rfl (by decide) t3 ?_
    refine j_aload_n d_H_serve_87 rfl ?_
    refine j_geti d_H_serve_88 he f_H_36_R rfl (by decide) ?_
    refine j_eqi (show _ = nI (E 2) by (repeat rw [mm_I_sI, if_neg (by omega)]); exact r1) ?_
    refine j_aload_n d_H_serve_91 rfl ?_
    refine j_geti d_H_serve_92 he f_H_31_R rfl (by decide) ?_
    refine j_eqi (show _ = nI (E 3) by (repeat rw [mm_I_sI, if_neg (by omega)]); exact r2) ?_
    refine j_iast d_H_serve_95 t6 (aIx.n e2 (by decide)) ?_
    refine j_aload_n d_H_serve_96 rfl ?_
    refine j_getR d_H_serve_97 t1 f_H_22_H rfl (by decide) t4 ?_
    refine j_aload_n d_H_serve_100 rfl ?_
    refine j_geti d_H_serve_101 he f_H_36_R rfl (by decide) ?_
    refine j_eqi (show _ = nI (E 2) by (repeat rw [mm_I_sI, if_neg (by omega)]); exact r1) ?_
    refine j_aload_n d_H_serve_104 rfl ?_
    refine j_getR d_H_serve_105 t1 f_H_15_H rfl (by decide) t2 ?_
    refine j_iload_n d_H_serve_108 rfl ?_
    refine j_iald d_H_serve_109 t5 (aIx.n (by omega) (by decide)) ?_
    rw [mm_I_sI, if_neg (by omega)]
    first | rw [mm_I_sI, if_pos ⟨rfl, rfl⟩] | rw [hv.1 (E 5 / 8) (by omega)]
    refine j_iast d_H_serve_110 t7 (aIx.n e2 (by decide)) ?_
    refine j_return d_H_serve_111 rfl ?_ (by decide) (by decide)
    refine ⟨rfl, ?_⟩
    first
      | (obtain ⟨u1, u2⟩ := svH_V (M1 := M1) hv e2 e5 hx (oI.rf M1 _) (fun i hi => by by_cases q : i = E 5 / 8; rw [q, fu_s]; exact hv.1 _ (by omega); rw [fu_n _ _ q]; exact hv.1 i hi) (fun _ => rfl) (fun _ => rfl)
         exact ⟨u1, u2, by rw [mm_I_sI, if_neg (by omega), mm_I_sI, if_neg (by omega)]⟩)
      | (obtain ⟨u1, u2⟩ := svH_V (M1 := sI M1 (h + 1) (E 5 / 8) (nI (svN v E))) hv e2 e5 rfl ((oI.rf M1 _).sI (by unfold inS; omega)) (fun i hi => by rw [mm_I_sI]; by_cases q : i = E 5 / 8; rw [if_pos ⟨rfl, q⟩, q, fu_s]; rw [if_neg (fun z => q z.2), fu_n _ _ q]; exact hv.1 i hi) (fun i => by rw [mm_I_sI, if_neg (by omega)]) (fun i => by rw [mm_I_sI, if_neg (by omega)])
         rw [hx]
         exact ⟨u1, u2, by rw [mm_I_sI, if_neg (by omega), mm_I_sI, if_neg (by omega), mm_I_sI, if_neg (by omega)]⟩)
