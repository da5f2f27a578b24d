theorem rCS.sym {la lb : Nat} {ta tb : Nat → Nat} {k : Nat} (h : rCS la lb ta tb k) : rCS lb la tb ta k := ⟨h.2.1, h.1, fun j hj => (h.2.2.1 j hj).symm, fun q => h.2.2.2 ⟨q.2.1, q.1, q.2.2.symm⟩⟩
theorem cR_raise {M : aM} {S : aS} {a b : Nat} (h : cR M S) (hb : b < 12) (hT : sT S b ≤ sT S a) (ha : sT S a < 1000000) {M2 : aM} (e : M2 = if mI M (nd b) 2 < nI (sT S a) then sI (sI M (nd b) 2 (nI (sT S a))) (nd b) 1 0 else M) : cR M2 (shR S a b) ∧ fM M M2 := by
  have t2 : mI M (nd b) 2 = nI (sT S b) := (h.2 b hb).2.2.1
  rw [t2] at e
  by_cases q : sT S b = sT S a
  · rw [if_neg (by rw [q]; exact Int32.lt_irrefl)] at e
    subst e
    rw [shR_same q]; exact ⟨h, fM.rf _⟩
  · rw [if_pos (nI_lt (by omega) (by omega))] at e
    subst e
    rw [shR_raise (by omega)]
    exact ⟨cR_rz h hb, fM_nd (i := 0) hb (wd0 b) (fM_nd (i := 0) hb (wd0 b) (fM.rf M))⟩
theorem k_upNode_u (M : aM) (n : Nat) (h : cSh M) (hn : n < 12) (hu : mI M (nd n) 0 ≠ 0) : aK m_S_upNode 1 0 0 M [.ref 0, .int (nI n)] (fun M1 r => M1 = M ∧ r = some (.ref (nd n))) := by
  by_cases h3 : n < 3
  · exact k_upNode_V M n h h3 hu
  · exact k_upNode_T M n h (by omega) hn hu

set_option maxRecDepth 20000 in
set_option maxHeartbeats 1000000 in
theorem k_ship_1 (M : aM) (x y : Int32) (h : cSh M) (q : Nat) (hx : aK m_S_upNode 1 0 0 M [.ref 0, .int x] (fun M1 r => M1 = M ∧ r = some .null)) (hy : aK m_S_upNode 1 0 0 M [.ref 0, .int y] (fun M1 r => M1 = M ∧ r = some (.ref q))) : aK m_S_ship 6 640 3040 M [.ref 0, .int x, .int y] (fun M1 r => M1 = M ∧ r = some (.int (-1))) := by
  refine aK.of (by decide) (Nat.le_of_ble_eq_true rfl) ?_
  have h0 := h.2.1
  have hr0 := h.2.2.1
  have hr1 := h.2.2.2.1
  have hr2 := h.2.2.2.2.1
  have hA1 := h.2.2.2.2.2.1
  have hA2 := h.2.2.2.2.2.2.1
  have hA3 := h.2.2.2.2.2.2.2.1
  refine j_aload_n d_S_ship_0 rfl ?_
  refine j_iload_n d_S_ship_1 rfl ?_
  refine j_callV (vs := [_]) d_S_ship_2 (by assumption) (by decide) rfl w186 w188 w1 w189 ws_S_upNode y_S_upNode (by decide) (by decide) (hx) rfl (Nat.le_of_ble_eq_true rfl) (by decide) (by decide) (fun M1 r1 hq1 => ?_)
  obtain ⟨rfl, rfl⟩ := hq1
  refine j_astore_nN d_S_ship_5 (by decide) ?_
  refine j_aload_n d_S_ship_6 rfl ?_
  refine j_iload_n d_S_ship_7 rfl ?_
  refine j_callV (vs := [_]) d_S_ship_8 (by assumption) (by decide) rfl w186 w188 w1 w189 ws_S_upNode y_S_upNode (by decide) (by decide) (hy) rfl (Nat.le_of_ble_eq_true rfl) (by decide) (by decide) (fun M2 r2 hq2 => ?_)
  obtain ⟨rfl, rfl⟩ := hq2
  refine j_astore d_S_ship_11 (by decide) ?_
  refine j_aload_nN d_S_ship_13 rfl ?_
  refine j_ifnullN 38 d_S_ship_14 (by decide) ?_
  refine j_iconst (v := -1) d_S_ship_38 (by decide) ?_
  refine j_ireturn d_S_ship_39 rfl rfl ?_ (by decide) (by decide)
  exact ⟨rfl, rfl⟩
set_option maxRecDepth 20000 in
set_option maxHeartbeats 1000000 in
theorem k_ship_2 (M : aM) (x y : Int32) (h : cSh M) (hx : aK m_S_upNode 1 0 0 M [.ref 0, .int x] (fun M1 r => M1 = M ∧ r = some .null)) (hy : aK m_S_upNode 1 0 0 M [.ref 0, .int y] (fun M1 r => M1 = M ∧ r = some .null)) : aK m_S_ship 6 640 3040 M [.ref 0, .int x, .int y] (fun M1 r => M1 = M ∧ r = some (.int (-1))) := by
  refine aK.of (by decide) (Nat.le_of_ble_eq_true rfl) ?_
  have h0 := h.2.1
  have hr0 := h.2.2.1
  have hr1 := h.2.2.2.1
  have hr2 := h.2.2.2.2.1
  have hA1 := h.2.2.2.2.2.1
  have hA2 := h.2.2.2.2.2.2.1
  have hA3 := h.2.2.2.2.2.2.2.1
  refine j_aload_n d_S_ship_0 rfl ?_
  refine j_iload_n d_S_ship_1 rfl ?_
  refine j_callV (vs := [_]) d_S_ship_2 (by assumption) (by decide) rfl w186 w188 w1 w189 ws_S_upNode y_S_upNode (by decide) (by decide) (hx) rfl (Nat.le_of_ble_eq_true rfl) (by decide) (by decide) (fun M1 r1 hq1 => ?_)
  obtain ⟨rfl, rfl⟩ := hq1
  refine j_astore_nN d_S_ship_5 (by decide) ?_
  refine j_aload_n d_S_ship_6 rfl ?_
  refine j_iload_n d_S_ship_7 rfl ?_
  refine j_callV (vs := [_]) d_S_ship_8 (by assumption) (by decide) rfl w186 w188 w1 w189 ws_S_upNode y_S_upNode (by decide) (by decide) (hy) rfl (Nat.le_of_ble_eq_true rfl) (by decide) (by decide) (fun M2 r2 hq2 => ?_)
  obtain ⟨rfl, rfl⟩ := hq2
  refine j_astoreN d_S_ship_11 (by decide) ?_
  refine j_aload_nN d_S_ship_13 rfl ?_
  refine j_ifnullN 38 d_S_ship_14 (by decide) ?_
  refine j_iconst (v := -1) d_S_ship_38 (by decide) ?_
  refine j_ireturn d_S_ship_39 rfl rfl ?_ (by decide) (by decide)
  exact ⟨rfl, rfl⟩
set_option maxRecDepth 20000 in
set_option maxHeartbeats 1000000 in
theorem k_ship_3 (M : aM) (x y : Int32) (h : cSh M) (q : Nat) (hx : aK m_S_upNode 1 0 0 M [.ref 0, .int x] (fun M1 r => M1 = M ∧ r = some (.ref q))) (hy : aK m_S_upNode 1 0 0 M [.ref 0, .int y] (fun M1 r => M1 = M ∧ r = some .null)) : aK m_S_ship 6 640 3040 M [.ref 0, .int x, .int y] (fun M1 r => M1 = M ∧ r = some (.int (-1))) := by
  refine aK.of (by decide) (Nat.le_of_ble_eq_true rfl) ?_
  have h0 := h.2.1
  have hr0 := h.2.2.1
  have hr1 := h.2.2.2.1
  have hr2 := h.2.2.2.2.1
  have hA1 := h.2.2.2.2.2.1
  have hA2 := h.2.2.2.2.2.2.1
  have hA3 := h.2.2.2.2.2.2.2.1
  refine j_aload_n d_S_ship_0 rfl ?_
  refine j_iload_n d_S_ship_1 rfl ?_
  refine j_callV (vs := [_]) d_S_ship_2 (by assumption) (by decide) rfl w186 w188 w1 w189 ws_S_upNode y_S_upNode (by decide) (by decide) (hx) rfl (Nat.le_of_ble_eq_true rfl) (by decide) (by decide) (fun M1 r1 hq1 => ?_)
  obtain ⟨rfl, rfl⟩ := hq1
  refine j_astore_n d_S_ship_5 (by decide) ?_
  refine j_aload_n d_S_ship_6 rfl ?_
  refine j_iload_n d_S_ship_7 rfl ?_
  refine j_callV (vs := [_]) d_S_ship_8 (by assumption) (by decide) rfl w186 w188 w1 w189 ws_S_upNode y_S_upNode (by decide) (by decide) (hy) rfl (Nat.le_of_ble_eq_true rfl) (by decide) (by decide) (fun M2 r2 hq2 => ?_)
  obtain ⟨rfl, rfl⟩ := hq2
  refine j_astoreN d_S_ship_11 (by decide) ?_
  refine j_aload_n d_S_ship_13 rfl ?_
  refine j_ifnull d_S_ship_14 ?_
  refine j_aloadN d_S_ship_17 rfl ?_
  refine j_ifnullN 38 d_S_ship_19 (by decide) ?_
  refine j_iconst (v := -1) d_S_ship_38 (by decide) ?_
  refine j_ireturn d_S_ship_39 rfl rfl ?_ (by decide) (by decide)
  exact ⟨rfl, rfl⟩
set_option maxRecDepth 20000 in
set_option maxHeartbeats 1000000 in
theorem k_ship_4 (M : aM) (x y : Int32) (h : cSh M) (q q2 : Nat) (hx : aK m_S_upNode 1 0 0 M [.ref 0, .int x] (fun M1 r => M1 = M ∧ r = some (.ref q))) (hy : aK m_S_upNode 1 0 0 M [.ref 0, .int y] (fun M1 r => M1 = M ∧ r = some (.ref q2))) (hne : x = y ∨ x / 3 ≠ y / 3) : aK m_S_ship 6 640 3040 M [.ref 0, .int x, .int y] (fun M1 r => M1 = M ∧ r = some (.int (-1))) := by
  refine aK.of (by decide) (Nat.le_of_ble_eq_true rfl) ?_
  have h0 := h.2.1
  have hr0 := h.2.2.1
  have hr1 := h.2.2.2.1
  have hr2 := h.2.2.2.2.1
  have hA1 := h.2.2.2.2.2.1
  have hA2 := h.2.2.2.2.2.2.1
  have hA3 := h.2.2.2.2.2.2.2.1
  refine j_aload_n d_S_ship_0 rfl ?_
  refine j_iload_n d_S_ship_1 rfl ?_
  refine j_callV (vs := [_]) d_S_ship_2 (by assumption) (by decide) rfl w186 w188 w1 w189 ws_S_upNode y_S_upNode (by decide) (by decide) (hx) rfl (Nat.le_of_ble_eq_true rfl) (by decide) (by decide) (fun M1 r1 hq1 => ?_)
  obtain ⟨rfl, rfl⟩ := hq1
  refine j_astore_n d_S_ship_5 (by decide) ?_
  refine j_aload_n d_S_ship_6 rfl ?_
  refine j_iload_n d_S_ship_7 rfl ?_
  refine j_callV (vs := [_]) d_S_ship_8 (by assumption) (by decide) rfl w186 w188 w1 w189 ws_S_upNode y_S_upNode (by decide) (by decide) (hy) rfl (Nat.le_of_ble_eq_true rfl) (by decide) (by decide) (fun M2 r2 hq2 => ?_)
  obtain ⟨rfl, rfl⟩ := hq2
  refine j_astore d_S_ship_11 (by decide) ?_
  refine j_aload_n d_S_ship_13 rfl ?_
  refine j_ifnull d_S_ship_14 ?_
  refine j_aload d_S_ship_17 rfl ?_
  refine j_ifnull d_S_ship_19 ?_
  refine j_iload_n d_S_ship_22 rfl ?_
  refine j_iload_n d_S_ship_23 rfl ?_
  refine j_icmp_eq (tgt := 38) d_S_ship_24 (by decide) (fun h24 => ?_) (fun h24 => ?_)
  · refine j_iconst (v := -1) d_S_ship_38 (by decide) ?_
    refine j_ireturn d_S_ship_39 rfl rfl ?_ (by decide) (by decide)
    exact ⟨rfl, rfl⟩
  · refine j_iload_n d_S_ship_27 rfl ?_
    refine j_callS (vs := [_]) d_S_ship_28 w110 w111 w1 w112 y_S_groupOf (by decide) (by decide) (k_groupOf M2 x) rfl (Nat.le_of_ble_eq_true rfl) (by decide) (by decide) (fun M3 r3 hq3 => ?_)
    obtain ⟨rfl, rfl⟩ := hq3
    refine j_iload_n d_S_ship_31 rfl ?_
    refine j_callS (vs := [_]) d_S_ship_32 w110 w111 w1 w112 y_S_groupOf (by decide) (by decide) (k_groupOf M3 y) rfl (Nat.le_of_ble_eq_true rfl) (by decide) (by decide) (fun M4 r4 hq4 => ?_)
    obtain ⟨rfl, rfl⟩ := hq4
    refine j_icmp_eq (tgt := 40) d_S_ship_35 (by decide) (fun h35 => False.elim (hne.elim h24 (fun z => z h35))) (fun h35 => ?_)
    refine j_iconst (v := -1) d_S_ship_38 (by decide) ?_
    refine j_ireturn d_S_ship_39 rfl rfl ?_ (by decide) (by decide)
    exact ⟨rfl, rfl⟩
set_option maxRecDepth 20000 in
set_option maxHeartbeats 1000000 in
theorem k_ship_fV (M : aM) (S : aS) (a b : Nat) (h : cR M S) (ga : a < 3) (gb : b < 3) (hab : a ≠ b) (hg : a / 3 = b / 3) (ua : sUp S a = true) (ub : sUp S b = true) (hl : sLd S a = false) : aK m_S_ship 6 640 3040 M [.ref 0, .int (nI a), .int (nI b)] (fun M1 r => M1 = M ∧ r = some (.int (-2))) := by
  refine aK.of (by decide) (Nat.le_of_ble_eq_true rfl) ?_
  have h0 := h.1.2.1
  have hr0 := h.1.2.2.1
  have hr1 := h.1.2.2.2.1
  have hr2 := h.1.2.2.2.2.1
  have hA1 := h.1.2.2.2.2.2.1
  have hA2 := h.1.2.2.2.2.2.2.1
  have hA3 := h.1.2.2.2.2.2.2.2.1
  have a12 : a < 12 := by omega
  have b12 : b < 12 := by omega
  have hA := cSh_V h.1 (show a < 3 by omega)
  have hB := cSh_V h.1 (show b < 3 by omega)
  have hNA := hA.1
  have hNB := hB.1
  have la1 : mI M (nd a) 1 = bI (sLd S a) := (h.2 a a12).2.1
  have la2 : mI M (nd a) 2 = nI (sT S a) := (h.2 a a12).2.2.1
  have lb2 : mI M (nd b) 2 = nI (sT S b) := (h.2 b b12).2.2.1
  have ga3 : nI a / 3 = nI (a / 3) := pk_div (d := 3) (by omega) (by decide) (by decide)
  have gb3 : nI b / 3 = nI (b / 3) := pk_div (d := 3) (by omega) (by decide) (by decide)
  refine j_aload_n d_S_ship_0 rfl ?_
  refine j_iload_n d_S_ship_1 rfl ?_
  refine j_callV (vs := [_]) d_S_ship_2 (by assumption) (by decide) rfl w186 w188 w1 w189 ws_S_upNode y_S_upNode (by decide) (by decide) (k_upNode_u M a h.1 a12 (by rw [(h.2 a a12).1]; exact bI_t ua)) rfl (Nat.le_of_ble_eq_true rfl) (by decide) (by decide) (fun M1 r1 hq1 => ?_)
  obtain ⟨rfl, rfl⟩ := hq1
  refine j_astore_n d_S_ship_5 (by decide) ?_
  refine j_aload_n d_S_ship_6 rfl ?_
  refine j_iload_n d_S_ship_7 rfl ?_
  refine j_callV (vs := [_]) d_S_ship_8 (by assumption) (by decide) rfl w186 w188 w1 w189 ws_S_upNode y_S_upNode (by decide) (by decide) (k_upNode_u M1 b h.1 b12 (by rw [(h.2 b b12).1]; exact bI_t ub)) rfl (Nat.le_of_ble_eq_true rfl) (by decide) (by decide) (fun M2 r2 hq2 => ?_)
  obtain ⟨rfl, rfl⟩ := hq2
  refine j_astore d_S_ship_11 (by decide) ?_
  refine j_aload_n d_S_ship_13 rfl ?_
  refine j_ifnull d_S_ship_14 ?_
  refine j_aload d_S_ship_17 rfl ?_
  refine j_ifnull d_S_ship_19 ?_
  refine j_iload_n d_S_ship_22 rfl ?_
  refine j_iload_n d_S_ship_23 rfl ?_
  refine j_icmp_eq (tgt := 38) d_S_ship_24 (by decide) (fun h24 => False.elim (hab (i_eq (by omega) (by omega) h24))) (fun h24 => ?_)
  refine j_iload_n d_S_ship_27 rfl ?_
  refine j_callS (vs := [_]) d_S_ship_28 w110 w111 w1 w112 y_S_groupOf (by decide) (by decide) (k_groupOf M2 (nI a)) rfl (Nat.le_of_ble_eq_true rfl) (by decide) (by decide) (fun M3 r3 hq3 => ?_)
  obtain ⟨rfl, rfl⟩ := hq3
  rw [ga3]
  refine j_iload_n d_S_ship_31 rfl ?_
  refine j_callS (vs := [_]) d_S_ship_32 w110 w111 w1 w112 y_S_groupOf (by decide) (by decide) (k_groupOf M3 (nI b)) rfl (Nat.le_of_ble_eq_true rfl) (by decide) (by decide) (fun M4 r4 hq4 => ?_)
  obtain ⟨rfl, rfl⟩ := hq4
  rw [gb3, ← hg]
  refine j_icmp_eq (tgt := 40) d_S_ship_35 (by decide) (fun h35 => ?_) (fun h35 => False.elim (h35 rfl))
  refine j_aload_n d_S_ship_40 rfl ?_
  refine j_geti d_S_ship_41 hNA f_S_48_V rfl (by decide) ?_
  refine j_eqi la1 ?_
  refine j_if_ne (tgt := 50) d_S_ship_44 (by decide) (fun h44 => False.elim (h44 (by rw [hl]; rfl))) (fun h44 => ?_)
  refine j_bipush (v := -2) d_S_ship_47 (by decide) ?_
  refine j_ireturn d_S_ship_49 rfl rfl ?_ (by decide) (by decide)
  exact ⟨rfl, rfl⟩
set_option maxRecDepth 20000 in
set_option maxHeartbeats 1000000 in
theorem k_ship_sV (M : aM) (S : aS) (a b : Nat) (h : cR M S) (ga : a < 3) (gb : b < 3) (hab : a ≠ b) (hg : a / 3 = b / 3) (ua : sUp S a = true) (ub : sUp S b = true) (hl : sLd S a = true) (hT : sT S a < sT S b) (hT1 : sT S b < 1000000) : aK m_S_ship 6 640 3040 M [.ref 0, .int (nI a), .int (nI b)] (fun M1 r => M1 = sI M (nd a) 1 0 ∧ r = some (.int (-5))) := by
  refine aK.of (by decide) (Nat.le_of_ble_eq_true rfl) ?_
  have h0 := h.1.2.1
  have hr0 := h.1.2.2.1
  have hr1 := h.1.2.2.2.1
  have hr2 := h.1.2.2.2.2.1
  have hA1 := h.1.2.2.2.2.2.1
  have hA2 := h.1.2.2.2.2.2.2.1
  have hA3 := h.1.2.2.2.2.2.2.2.1
  have a12 : a < 12 := by omega
  have b12 : b < 12 := by omega
  have hA := cSh_V h.1 (show a < 3 by omega)
  have hB := cSh_V h.1 (show b < 3 by omega)
  have hNA := hA.1
  have hNB := hB.1
  have la1 : mI M (nd a) 1 = bI (sLd S a) := (h.2 a a12).2.1
  have la2 : mI M (nd a) 2 = nI (sT S a) := (h.2 a a12).2.2.1
  have lb2 : mI M (nd b) 2 = nI (sT S b) := (h.2 b b12).2.2.1
  have ga3 : nI a / 3 = nI (a / 3) := pk_div (d := 3) (by omega) (by decide) (by decide)
  have gb3 : nI b / 3 = nI (b / 3) := pk_div (d := 3) (by omega) (by decide) (by decide)
  refine j_aload_n d_S_ship_0 rfl ?_
  refine j_iload_n d_S_ship_1 rfl ?_
  refine j_callV (vs := [_]) d_S_ship_2 (by assumption) (by decide) rfl w186 w188 w1 w189 ws_S_upNode y_S_upNode (by decide) (by decide) (k_upNode_u M a h.1 a12 (by rw [(h.2 a a12).1]; exact bI_t ua)) rfl (Nat.le_of_ble_eq_true rfl) (by decide) (by decide) (fun M1 r1 hq1 => ?_)
  obtain ⟨rfl, rfl⟩ := hq1
  refine j_astore_n d_S_ship_5 (by decide) ?_
  refine j_aload_n d_S_ship_6 rfl ?_
  refine j_iload_n d_S_ship_7 rfl ?_
  refine j_callV (vs := [_]) d_S_ship_8 (by assumption) (by decide) rfl w186 w188 w1 w189 ws_S_upNode y_S_upNode (by decide) (by decide) (k_upNode_u M1 b h.1 b12 (by rw [(h.2 b b12).1]; exact bI_t ub)) rfl (Nat.le_of_ble_eq_true rfl) (by decide) (by decide) (fun M2 r2 hq2 => ?_)
  obtain ⟨rfl, rfl⟩ := hq2
  refine j_astore d_S_ship_11 (by decide) ?_
  refine j_aload_n d_S_ship_13 rfl ?_
  refine j_ifnull d_S_ship_14 ?_
  refine j_aload d_S_ship_17 rfl ?_
  refine j_ifnull d_S_ship_19 ?_
  refine j_iload_n d_S_ship_22 rfl ?_
  refine j_iload_n d_S_ship_23 rfl ?_
  refine j_icmp_eq (tgt := 38) d_S_ship_24 (by decide) (fun h24 => False.elim (hab (i_eq (by omega) (by omega) h24))) (fun h24 => ?_)
  refine j_iload_n d_S_ship_27 rfl ?_
  refine j_callS (vs := [_]) d_S_ship_28 w110 w111 w1 w112 y_S_groupOf (by decide) (by decide) (k_groupOf M2 (nI a)) rfl (Nat.le_of_ble_eq_true rfl) (by decide) (by decide) (fun M3 r3 hq3 => ?_)
  obtain ⟨rfl, rfl⟩ := hq3
  rw [ga3]
  refine j_iload_n d_S_ship_31 rfl ?_
  refine j_callS (vs := [_]) d_S_ship_32 w110 w111 w1 w112 y_S_groupOf (by decide) (by decide) (k_groupOf M3 (nI b)) rfl (Nat.le_of_ble_eq_true rfl) (by decide) (by decide) (fun M4 r4 hq4 => ?_)
  obtain ⟨rfl, rfl⟩ := hq4
  rw [gb3, ← hg]
  refine j_icmp_eq (tgt := 40) d_S_ship_35 (by decide) (fun h35 => ?_) (fun h35 => False.elim (h35 rfl))
  refine j_aload_n d_S_ship_40 rfl ?_
  refine j_geti d_S_ship_41 hNA f_S_48_V rfl (by decide) ?_
  refine j_eqi la1 ?_
  refine j_if_ne (tgt := 50) d_S_ship_44 (by decide) (fun h44 => ?_) (fun h44 => False.elim (absurd h44 (by rw [hl]; decide)))
  refine j_aload d_S_ship_50 rfl ?_
  refine j_geti d_S_ship_52 hNB f_S_54_V rfl (by decide) ?_
  refine j_eqi lb2 ?_
  refine j_aload_n d_S_ship_55 rfl ?_
  refine j_geti d_S_ship_56 hNA f_S_54_V rfl (by decide) ?_
  refine j_eqi la2 ?_
  refine j_icmp_le (tgt := 70) d_S_ship_59 (by decide) (fun h59 => False.elim (absurd (i_le (by omega) (by omega) h59) (by omega))) (fun h59 => ?_)
  refine j_aload_n d_S_ship_62 rfl ?_
  refine j_iconst (v := 0) d_S_ship_63 (by decide) ?_
  refine j_puti d_S_ship_64 hNA p_S_48_V rfl (by decide) rfl rfl ?_
  refine j_bipush (v := -5) d_S_ship_67 (by decide) ?_
  refine j_ireturn d_S_ship_69 rfl rfl ?_ (by decide) (by decide)
  exact ⟨rfl, rfl⟩
set_option maxRecDepth 20000 in
set_option maxHeartbeats 1000000 in
theorem k_ship_V (M : aM) (S : aS) (a b : Nat) (h : cR M S) (ga : a < 3) (gb : b < 3) (hab : a ≠ b) (hg : a / 3 = b / 3) (ua : sUp S a = true) (ub : sUp S b = true) (t : Nat) (hi : sInv S t) (ht : t < 300000) (hl : sLd S a = true) (hT : sT S b ≤ sT S a) : aK m_S_ship 6 640 3040 M [.ref 0, .int (nI a), .int (nI b)] (cQ M (shS S a b, nI (sLn (shS S a b) b))) := by
  refine aK.of (by decide) (Nat.le_of_ble_eq_true rfl) ?_
  have h0 := h.1.2.1
  have hr0 := h.1.2.2.1
  have hr1 := h.1.2.2.2.1
  have hr2 := h.1.2.2.2.2.1
  have hA1 := h.1.2.2.2.2.2.1
  have hA2 := h.1.2.2.2.2.2.2.1
  have hA3 := h.1.2.2.2.2.2.2.2.1
  have a12 : a < 12 := by omega
  have b12 : b < 12 := by omega
  have hA := cSh_V h.1 (show a < 3 by omega)
  have hB := cSh_V h.1 (show b < 3 by omega)
  have hNA := hA.1
  have hNB := hB.1
  have la1 : mI M (nd a) 1 = bI (sLd S a) := (h.2 a a12).2.1
  have la2 : mI M (nd a) 2 = nI (sT S a) := (h.2 a a12).2.2.1
  have lb2 : mI M (nd b) 2 = nI (sT S b) := (h.2 b b12).2.2.1
  have ga3 : nI a / 3 = nI (a / 3) := pk_div (d := 3) (by omega) (by decide) (by decide)
  have gb3 : nI b / 3 = nI (b / 3) := pk_div (d := 3) (by omega) (by decide) (by decide)
  have hTa := (hi.1 a a12).2.2.1
  have i1 := sInv_shR hi a12 b12 hT
  have hl1 : sLd (shR S a b) a = true := (fu_n (sLd S) _ hab).trans hl
  have tAe : sT (shR S a b) a = sT S a := fu_n (sT S) _ hab
  have hT1 : sT (shR S a b) b = sT (shR S a b) a := (fu_s (sT S) b (sT S a)).trans tAe.symm
  have tA1 : sT (shR S a b) a < 1000000 := by rw [tAe]; omega
  have hsafe : ∀ k, rCS (sLn (shR S a b) b) (sLn (shR S a b) a) (sTm (shR S a b) b) (sTm (shR S a b) a) k → sKn (shR S a b) b ≤ k := fun k hk => ship_safe i1 a12 b12 hab hg hl1 hT1 (rCS.sym hk)
  refine j_aload_n d_S_ship_0 rfl ?_
  refine j_iload_n d_S_ship_1 rfl ?_
  refine j_callV (vs := [_]) d_S_ship_2 (by assumption) (by decide) rfl w186 w188 w1 w189 ws_S_upNode y_S_upNode (by decide) (by decide) (k_upNode_u M a h.1 a12 (by rw [(h.2 a a12).1]; exact bI_t ua)) rfl (Nat.le_of_ble_eq_true rfl) (by decide) (by decide) (fun M1 r1 hq1 => ?_)
  obtain ⟨rfl, rfl⟩ := hq1
  refine j_astore_n d_S_ship_5 (by decide) ?_
  refine j_aload_n d_S_ship_6 rfl ?_
  refine j_iload_n d_S_ship_7 rfl ?_
  refine j_callV (vs := [_]) d_S_ship_8 (by assumption) (by decide) rfl w186 w188 w1 w189 ws_S_upNode y_S_upNode (by decide) (by decide) (k_upNode_u M1 b h.1 b12 (by rw [(h.2 b b12).1]; exact bI_t ub)) rfl (Nat.le_of_ble_eq_true rfl) (by decide) (by decide) (fun M2 r2 hq2 => ?_)
  obtain ⟨rfl, rfl⟩ := hq2
  refine j_astore d_S_ship_11 (by decide) ?_
  refine j_aload_n d_S_ship_13 rfl ?_
  refine j_ifnull d_S_ship_14 ?_
  refine j_aload d_S_ship_17 rfl ?_
  refine j_ifnull d_S_ship_19 ?_
  refine j_iload_n d_S_ship_22 rfl ?_
  refine j_iload_n d_S_ship_23 rfl ?_
  refine j_icmp_eq (tgt := 38) d_S_ship_24 (by decide) (fun h24 => False.elim (hab (i_eq (by omega) (by omega) h24))) (fun h24 => ?_)
  refine j_iload_n d_S_ship_27 rfl ?_
  refine j_callS (vs := [_]) d_S_ship_28 w110 w111 w1 w112 y_S_groupOf (by decide) (by decide) (k_groupOf M2 (nI a)) rfl (Nat.le_of_ble_eq_true rfl) (by decide) (by decide) (fun M3 r3 hq3 => ?_)
  obtain ⟨rfl, rfl⟩ := hq3
  rw [ga3]
  refine j_iload_n d_S_ship_31 rfl ?_
  refine j_callS (vs := [_]) d_S_ship_32 w110 w111 w1 w112 y_S_groupOf (by decide) (by decide) (k_groupOf M3 (nI b)) rfl (Nat.le_of_ble_eq_true rfl) (by decide) (by decide) (fun M4 r4 hq4 => ?_)
  obtain ⟨rfl, rfl⟩ := hq4
  rw [gb3, ← hg]
  refine j_icmp_eq (tgt := 40) d_S_ship_35 (by decide) (fun h35 => ?_) (fun h35 => False.elim (h35 rfl))
  refine j_aload_n d_S_ship_40 rfl ?_
  refine j_geti d_S_ship_41 hNA f_S_48_V rfl (by decide) ?_
  refine j_eqi la1 ?_
  refine j_if_ne (tgt := 50) d_S_ship_44 (by decide) (fun h44 => ?_) (fun h44 => False.elim (absurd h44 (by rw [hl]; decide)))
  refine j_aload d_S_ship_50 rfl ?_
  refine j_geti d_S_ship_52 hNB f_S_54_V rfl (by decide) ?_
  refine j_eqi lb2 ?_
  refine j_aload_n d_S_ship_55 rfl ?_
  refine j_geti d_S_ship_56 hNA f_S_54_V rfl (by decide) ?_
  refine j_eqi la2 ?_
  refine j_icmp_le (tgt := 70) d_S_ship_59 (by decide) (fun h59 => ?_) (fun h59 => False.elim (h59 (nI_le (by omega) (by omega))))
  refine j_aload d_S_ship_70 rfl ?_
  refine j_aload_n d_S_ship_72 rfl ?_
  refine j_geti d_S_ship_73 hNA f_S_54_V rfl (by decide) ?_
  refine j_eqi la2 ?_
  refine j_callU (owner := "ShardGroups$Node") (vs := [_]) d_S_ship_76 hNB (by decide) rfl w254 w228 w3 w232 w230 w229 (Or.inl rfl) y_N_takeTerm (by decide) (by decide) (k_takeTerm_V M4 (nd b) (nI (sT S a)) hNB) rfl (Nat.le_of_ble_eq_true rfl) (by decide) (by decide) (fun M5 r5 hq5 => ?_)
  obtain ⟨rfl, e5⟩ := hq5
  obtain ⟨h5, f5⟩ := cR_raise h b12 hT (by omega) e5
  have hA5 := cSh_V h5.1 (show a < 3 by omega)
  have hB5 := cSh_V h5.1 (show b < 3 by omega)
  refine j_aload d_S_ship_79 rfl ?_
  refine j_aload_n d_S_ship_81 rfl ?_
  refine j_callU (owner := "ShardGroups$Node") (vs := [_]) d_S_ship_82 hB5.1 (by decide) rfl w255 w256 w3 w260 w258 w257 (Or.inl rfl) y_N_copyNextFrom (by decide) (by decide) (k_copyNextFrom_V M5 (shR S a b) a b h5 i1.lgB ga gb hab hsafe) rfl (Nat.le_of_ble_eq_true rfl) (by decide) (by decide) (fun M6 r6 hq6 => ?_)
  obtain ⟨rfl, k, hk, h6, f6⟩ := hq6
  have ek : k = csF (sLn S a) (sLn S b) (sTm S a) (sTm S b) 80 := (rCS.sym hk).uq (csF_rCS (hi.1 a a12).1)
  have i2 := sInv_shC i1 a12 b12 hab hg hl1 hT1 (rCS.sym hk)
  obtain ⟨o1, o2, o3, o4⟩ := shC_o (shR S a b) a b k
  have i3 := sInv_shK i2 a12 b12 hab hg (by rw [o2]; exact hl1) (by rw [o3]; exact hT1)
  have hA6 := cSh_V h6.1 (show a < 3 by omega)
  refine j_aload_n d_S_ship_85 rfl ?_
  refine j_aload_n d_S_ship_86 rfl ?_
  refine j_aload_n d_S_ship_87 rfl ?_
  refine j_iload_n d_S_ship_88 rfl ?_
  refine j_callS (vs := [_]) d_S_ship_89 w110 w111 w1 w112 y_S_groupOf (by decide) (by decide) (k_groupOf M6 (nI a)) rfl (Nat.le_of_ble_eq_true rfl) (by decide) (by decide) (fun M7 r7 hq7 => ?_)
  obtain ⟨rfl, rfl⟩ := hq7
  rw [ga3]
  refine j_callV (vs := [_, _]) d_S_ship_92 h6.1.2.1 (by decide) rfl w271 w273 w1 w274 ws_S_countAgreed y_S_countAgreed (by decide) (by decide) (k_countAgreed_V M7 (shC (shR S a b) a b k) a h6 i2.lgB ga (by rw [o3]; exact tA1)) rfl (Nat.le_of_ble_eq_true rfl) (by decide) (by decide) (fun M8 r8 hq8 => ?_)
  obtain ⟨rfl, rfl⟩ := hq8
  have j2 := i2.1 a a12
  have al := ag0_le (shC (shR S a b) a b k) a (sLn (shC (shR S a b) a b k) a)
  refine j_callU (owner := "ShardGroups$Node") (vs := [_]) d_S_ship_95 hA6.1 (by decide) rfl w285 w286 w3 w290 w288 w287 (Or.inl rfl) y_N_learn (by decide) (by decide) (k_learn_V M8 (shC (shR S a b) a b k) a (ag0 (shC (shR S a b) a b k) a (sLn (shC (shR S a b) a b k) a)) h6 ga j2.1 j2.2.1 j2.2.2.2 (by have := j2.1; omega)) rfl (Nat.le_of_ble_eq_true rfl) (by decide) (by decide) (fun M9 r9 hq9 => ?_)
  obtain ⟨rfl, h9, f9⟩ := hq9
  have h9b : cR M9 (shK (shC (shR S a b) a b k) a) := h9
  have hA9 := cSh_V h9.1 (show a < 3 by omega)
  have hB9 := cSh_V h9.1 (show b < 3 by omega)
  have l9 : mI M9 (nd a) 4 = nI (sKn (shK (shC (shR S a b) a b k) a) a) := (h9b.2 a a12).2.2.2.1
  have j3 := i3.1 b b12
  have j4 := i3.1 a a12
  refine j_aload d_S_ship_98 rfl ?_
  refine j_aload_n d_S_ship_100 rfl ?_
  refine j_geti d_S_ship_101 hA9.1 f_S_91_V rfl (by decide) ?_
  refine j_eqi l9 ?_
  refine j_callU (owner := "ShardGroups$Node") (vs := [_]) d_S_ship_104 hB9.1 (by decide) rfl w285 w286 w3 w290 w288 w287 (Or.inl rfl) y_N_learn (by decide) (by decide) (k_learn_V M9 (shK (shC (shR S a b) a b k) a) b (sKn (shK (shC (shR S a b) a b k) a) a) h9b gb j3.1 j3.2.1 j3.2.2.2 (by have := j4.1; have := j4.2.1; omega)) rfl (Nat.le_of_ble_eq_true rfl) (by decide) (by decide) (fun Ma ra hqa => ?_)
  obtain ⟨rfl, ha9, fa⟩ := hqa
  have hab9 : cR Ma (shS S a b) := by unfold shS; rw [← ek]; exact ha9
  have hBa := cSh_V ha9.1 (show b < 3 by omega)
  refine j_aload d_S_ship_107 rfl ?_
  refine j_geti d_S_ship_109 hBa.1 f_S_94_V rfl (by decide) ?_
  refine j_eqi (hab9.2 b b12).2.2.2.2.1.1 ?_
  refine j_ireturn d_S_ship_112 rfl rfl ⟨rfl, hab9, ((f5.tr f6).tr f9).tr fa⟩ (by decide) (by decide)
set_option maxRecDepth 20000 in
set_option maxHeartbeats 1000000 in
theorem k_ship_fT (M : aM) (S : aS) (a b : Nat) (h : cR M S) (ga : 3 ≤ a) (ha : a < 12) (gb : 3 ≤ b) (hb12 : b < 12) (hab : a ≠ b) (hg : a / 3 = b / 3) (ua : sUp S a = true) (ub : sUp S b = true) (hl : sLd S a = false) : aK m_S_ship 6 640 3040 M [.ref 0, .int (nI a), .int (nI b)] (fun M1 r => M1 = M ∧ r = some (.int (-2))) := by
  refine aK.of (by decide) (Nat.le_of_ble_eq_true rfl) ?_
  have h0 := h.1.2.1
  have hr0 := h.1.2.2.1
  have hr1 := h.1.2.2.2.1
  have hr2 := h.1.2.2.2.2.1
  have hA1 := h.1.2.2.2.2.2.1
  have hA2 := h.1.2.2.2.2.2.2.1
  have hA3 := h.1.2.2.2.2.2.2.2.1
  have a12 : a < 12 := by omega
  have b12 : b < 12 := by omega
  have hA := cSh_T h.1 (show 3 ≤ a by omega) (show a < 12 by omega)
  have hB := cSh_T h.1 (show 3 ≤ b by omega) (show b < 12 by omega)
  have hNA := hA.1
  have hNB := hB.1
  have la1 : mI M (nd a) 1 = bI (sLd S a) := (h.2 a a12).2.1
  have la2 : mI M (nd a) 2 = nI (sT S a) := (h.2 a a12).2.2.1
  have lb2 : mI M (nd b) 2 = nI (sT S b) := (h.2 b b12).2.2.1
  have ga3 : nI a / 3 = nI (a / 3) := pk_div (d := 3) (by omega) (by decide) (by decide)
  have gb3 : nI b / 3 = nI (b / 3) := pk_div (d := 3) (by omega) (by decide) (by decide)
  refine j_aload_n d_S_ship_0 rfl ?_
  refine j_iload_n d_S_ship_1 rfl ?_
  refine j_callV (vs := [_]) d_S_ship_2 (by assumption) (by decide) rfl w186 w188 w1 w189 ws_S_upNode y_S_upNode (by decide) (by decide) (k_upNode_u M a h.1 a12 (by rw [(h.2 a a12).1]; exact bI_t ua)) rfl (Nat.le_of_ble_eq_true rfl) (by decide) (by decide) (fun M1 r1 hq1 => ?_)
  obtain ⟨rfl, rfl⟩ := hq1
  refine j_astore_n d_S_ship_5 (by decide) ?_
  refine j_aload_n d_S_ship_6 rfl ?_
  refine j_iload_n d_S_ship_7 rfl ?_
  refine j_callV (vs := [_]) d_S_ship_8 (by assumption) (by decide) rfl w186 w188 w1 w189 ws_S_upNode y_S_upNode (by decide) (by decide) (k_upNode_u M1 b h.1 b12 (by rw [(h.2 b b12).1]; exact bI_t ub)) rfl (Nat.le_of_ble_eq_true rfl) (by decide) (by decide) (fun M2 r2 hq2 => ?_)
  obtain ⟨rfl, rfl⟩ := hq2
  refine j_astore d_S_ship_11 (by decide) ?_
  refine j_aload_n d_S_ship_13 rfl ?_
  refine j_ifnull d_S_ship_14 ?_
  refine j_aload d_S_ship_17 rfl ?_
  refine j_ifnull d_S_ship_19 ?_
  refine j_iload_n d_S_ship_22 rfl ?_
  refine j_iload_n d_S_ship_23 rfl ?_
  refine j_icmp_eq (tgt := 38) d_S_ship_24 (by decide) (fun h24 => False.elim (hab (i_eq (by omega) (by omega) h24))) (fun h24 => ?_)
  refine j_iload_n d_S_ship_27 rfl ?_
  refine j_callS (vs := [_]) d_S_ship_28 w110 w111 w1 w112 y_S_groupOf (by decide) (by decide) (k_groupOf M2 (nI a)) rfl (Nat.le_of_ble_eq_true rfl) (by decide) (by decide) (fun M3 r3 hq3 => ?_)
  obtain ⟨rfl, rfl⟩ := hq3
  rw [ga3]
  refine j_iload_n d_S_ship_31 rfl ?_
  refine j_callS (vs := [_]) d_S_ship_32 w110 w111 w1 w112 y_S_groupOf (by decide) (by decide) (k_groupOf M3 (nI b)) rfl (Nat.le_of_ble_eq_true rfl) (by decide) (by decide) (fun M4 r4 hq4 => ?_)
  obtain ⟨rfl, rfl⟩ := hq4
  rw [gb3, ← hg]
  refine j_icmp_eq (tgt := 40) d_S_ship_35 (by decide) (fun h35 => ?_) (fun h35 => False.elim (h35 rfl))
  refine j_aload_n d_S_ship_40 rfl ?_
  refine j_geti d_S_ship_41 hNA f_S_48_T rfl (by decide) ?_
  refine j_eqi la1 ?_
  refine j_if_ne (tgt := 50) d_S_ship_44 (by decide) (fun h44 => False.elim (h44 (by rw [hl]; rfl))) (fun h44 => ?_)
  refine j_bipush (v := -2) d_S_ship_47 (by decide) ?_
  refine j_ireturn d_S_ship_49 rfl rfl ?_ (by decide) (by decide)
  exact ⟨rfl, rfl⟩
set_option maxRecDepth 20000 in
set_option maxHeartbeats 1000000 in
theorem k_ship_sT (M : aM) (S : aS) (a b : Nat) (h : cR M S) (ga : 3 ≤ a) (ha : a < 12) (gb : 3 ≤ b) (hb12 : b < 12) (hab : a ≠ b) (hg : a / 3 = b / 3) (ua : sUp S a = true) (ub : sUp S b = true) (hl : sLd S a = true) (hT : sT S a < sT S b) (hT1 : sT S b < 1000000) : aK m_S_ship 6 640 3040 M [.ref 0, .int (nI a), .int (nI b)] (fun M1 r => M1 = sI M (nd a) 1 0 ∧ r = some (.int (-5))) := by
  refine aK.of (by decide) (Nat.le_of_ble_eq_true rfl) ?_
  have h0 := h.1.2.1
  have hr0 := h.1.2.2.1
  have hr1 := h.1.2.2.2.1
  have hr2 := h.1.2.2.2.2.1
  have hA1 := h.1.2.2.2.2.2.1
  have hA2 := h.1.2.2.2.2.2.2.1
  have hA3 := h.1.2.2.2.2.2.2.2.1
  have a12 : a < 12 := by omega
  have b12 : b < 12 := by omega
  have hA := cSh_T h.1 (show 3 ≤ a by omega) (show a < 12 by omega)
  have hB := cSh_T h.1 (show 3 ≤ b by omega) (show b < 12 by omega)
  have hNA := hA.1
  have hNB := hB.1
  have la1 : mI M (nd a) 1 = bI (sLd S a) := (h.2 a a12).2.1
  have la2 : mI M (nd a) 2 = nI (sT S a) := (h.2 a a12).2.2.1
  have lb2 : mI M (nd b) 2 = nI (sT S b) := (h.2 b b12).2.2.1
  have ga3 : nI a / 3 = nI (a / 3) := pk_div (d := 3) (by omega) (by decide) (by decide)
  have gb3 : nI b / 3 = nI (b / 3) := pk_div (d := 3) (by omega) (by decide) (by decide)
  refine j_aload_n d_S_ship_0 rfl ?_
  refine j_iload_n d_S_ship_1 rfl ?_
  refine j_callV (vs := [_]) d_S_ship_2 (by assumption) (by decide) rfl w186 w188 w1 w189 ws_S_upNode y_S_upNode (by decide) (by decide) (k_upNode_u M a h.1 a12 (by rw [(h.2 a a12).1]; exact bI_t ua)) rfl (Nat.le_of_ble_eq_true rfl) (by decide) (by decide) (fun M1 r1 hq1 => ?_)
  obtain ⟨rfl, rfl⟩ := hq1
  refine j_astore_n d_S_ship_5 (by decide) ?_
  refine j_aload_n d_S_ship_6 rfl ?_
  refine j_iload_n d_S_ship_7 rfl ?_
  refine j_callV (vs := [_]) d_S_ship_8 (by assumption) (by decide) rfl w186 w188 w1 w189 ws_S_upNode y_S_upNode (by decide) (by decide) (k_upNode_u M1 b h.1 b12 (by rw [(h.2 b b12).1]; exact bI_t ub)) rfl (Nat.le_of_ble_eq_true rfl) (by decide) (by decide) (fun M2 r2 hq2 => ?_)
  obtain ⟨rfl, rfl⟩ := hq2
  refine j_astore d_S_ship_11 (by decide) ?_
  refine j_aload_n d_S_ship_13 rfl ?_
  refine j_ifnull d_S_ship_14 ?_
  refine j_aload d_S_ship_17 rfl ?_
  refine j_ifnull d_S_ship_19 ?_
  refine j_iload_n d_S_ship_22 rfl ?_
  refine j_iload_n d_S_ship_23 rfl ?_
  refine j_icmp_eq (tgt := 38) d_S_ship_24 (by decide) (fun h24 => False.elim (hab (i_eq (by omega) (by omega) h24))) (fun h24 => ?_)
  refine j_iload_n d_S_ship_27 rfl ?_
  refine j_callS (vs := [_]) d_S_ship_28 w110 w111 w1 w112 y_S_groupOf (by decide) (by decide) (k_groupOf M2 (nI a)) rfl (Nat.le_of_ble_eq_true rfl) (by decide) (by decide) (fun M3 r3 hq3 => ?_)
  obtain ⟨rfl, rfl⟩ := hq3
  rw [ga3]
  refine j_iload_n d_S_ship_31 rfl ?_
  refine j_callS (vs := [_]) d_S_ship_32 w110 w111 w1 w112 y_S_groupOf (by decide) (by decide) (k_groupOf M3 (nI b)) rfl (Nat.le_of_ble_eq_true rfl) (by decide) (by decide) (fun M4 r4 hq4 => ?_)
  obtain ⟨rfl, rfl⟩ := hq4
  rw [gb3, ← hg]
  refine j_icmp_eq (tgt := 40) d_S_ship_35 (by decide) (fun h35 => ?_) (fun h35 => False.elim (h35 rfl))
  refine j_aload_n d_S_ship_40 rfl ?_
  refine j_geti d_S_ship_41 hNA f_S_48_T rfl (by decide) ?_
  refine j_eqi la1 ?_
  refine j_if_ne (tgt := 50) d_S_ship_44 (by decide) (fun h44 => ?_) (fun h44 => False.elim (absurd h44 (by rw [hl]; decide)))
  refine j_aload d_S_ship_50 rfl ?_
  refine j_geti d_S_ship_52 hNB f_S_54_T rfl (by decide) ?_
  refine j_eqi lb2 ?_
  refine j_aload_n d_S_ship_55 rfl ?_
  refine j_geti d_S_ship_56 hNA f_S_54_T rfl (by decide) ?_
  refine j_eqi la2 ?_
  refine j_icmp_le (tgt := 70) d_S_ship_59 (by decide) (fun h59 => False.elim (absurd (i_le (by omega) (by omega) h59) (by omega))) (fun h59 => ?_)
  refine j_aload_n d_S_ship_62 rfl ?_
  refine j_iconst (v := 0) d_S_ship_63 (by decide) ?_
  refine j_puti d_S_ship_64 hNA p_S_48_T rfl (by decide) rfl rfl ?_
  refine j_bipush (v := -5) d_S_ship_67 (by decide) ?_
  refine j_ireturn d_S_ship_69 rfl rfl ?_ (by decide) (by decide)
  exact ⟨rfl, rfl⟩
set_option maxRecDepth 20000 in
set_option maxHeartbeats 1000000 in
theorem k_ship_T (M : aM) (S : aS) (a b : Nat) (h : cR M S) (ga : 3 ≤ a) (ha : a < 12) (gb : 3 ≤ b) (hb12 : b < 12) (hab : a ≠ b) (hg : a / 3 = b / 3) (ua : sUp S a = true) (ub : sUp S b = true) (t : Nat) (hi : sInv S t) (ht : t < 300000) (hl : sLd S a = true) (hT : sT S b ≤ sT S a) : aK m_S_ship 6 640 3040 M [.ref 0, .int (nI a), .int (nI b)] (cQ M (shS S a b, nI (sLn (shS S a b) b))) := by
  refine aK.of (by decide) (Nat.le_of_ble_eq_true rfl) ?_
  have h0 := h.1.2.1
  have hr0 := h.1.2.2.1
  have hr1 := h.1.2.2.2.1
  have hr2 := h.1.2.2.2.2.1
  have hA1 := h.1.2.2.2.2.2.1
  have hA2 := h.1.2.2.2.2.2.2.1
  have hA3 := h.1.2.2.2.2.2.2.2.1
  have a12 : a < 12 := by omega
  have b12 : b < 12 := by omega
  have hA := cSh_T h.1 (show 3 ≤ a by omega) (show a < 12 by omega)
  have hB := cSh_T h.1 (show 3 ≤ b by omega) (show b < 12 by omega)
  have hNA := hA.1
  have hNB := hB.1
  have la1 : mI M (nd a) 1 = bI (sLd S a) := (h.2 a a12).2.1
  have la2 : mI M (nd a) 2 = nI (sT S a) := (h.2 a a12).2.2.1
  have lb2 : mI M (nd b) 2 = nI (sT S b) := (h.2 b b12).2.2.1
  have ga3 : nI a / 3 = nI (a / 3) := pk_div (d := 3) (by omega) (by decide) (by decide)
  have gb3 : nI b / 3 = nI (b / 3) := pk_div (d := 3) (by omega) (by decide) (by decide)
  have hTa := (hi.1 a a12).2.2.1
  have i1 := sInv_shR hi a12 b12 hT
  have hl1 : sLd (shR S a b) a = true := (fu_n (sLd S) _ hab).trans hl
  have tAe : sT (shR S a b) a = sT S a := fu_n (sT S) _ hab
  have hT1 : sT (shR S a b) b = sT (shR S a b) a := (fu_s (sT S) b (sT S a)).trans tAe.symm
  have tA1 : sT (shR S a b) a < 1000000 := by rw [tAe]; omega
  have hsafe : ∀ k, rCS (sLn (shR S a b) b) (sLn (shR S a b) a) (sTm (shR S a b) b) (sTm (shR S a b) a) k → sKn (shR S a b) b ≤ k := fun k hk => ship_safe i1 a12 b12 hab hg hl1 hT1 (rCS.sym hk)
  refine j_aload_n d_S_ship_0 rfl ?_
  refine j_iload_n d_S_ship_1 rfl ?_
  refine j_callV (vs := [_]) d_S_ship_2 (by assumption) (by decide) rfl w186 w188 w1 w189 ws_S_upNode y_S_upNode (by decide) (by decide) (k_upNode_u M a h.1 a12 (by rw [(h.2 a a12).1]; exact bI_t ua)) rfl (Nat.le_of_ble_eq_true rfl) (by decide) (by decide) (fun M1 r1 hq1 => ?_)
  obtain ⟨rfl, rfl⟩ := hq1
  refine j_astore_n d_S_ship_5 (by decide) ?_
  refine j_aload_n d_S_ship_6 rfl ?_
  refine j_iload_n d_S_ship_7 rfl ?_
  refine j_callV (vs := [_]) d_S_ship_8 (by assumption) (by decide) rfl w186 w188 w1 w189 ws_S_upNode y_S_upNode (by decide) (by decide) (k_upNode_u M1 b h.1 b12 (by rw [(h.2 b b12).1]; exact bI_t ub)) rfl (Nat.le_of_ble_eq_true rfl) (by decide) (by decide) (fun M2 r2 hq2 => ?_)
  obtain ⟨rfl, rfl⟩ := hq2
  refine j_astore d_S_ship_11 (by decide) ?_
  refine j_aload_n d_S_ship_13 rfl ?_
  refine j_ifnull d_S_ship_14 ?_
  refine j_aload d_S_ship_17 rfl ?_
  refine j_ifnull d_S_ship_19 ?_
  refine j_iload_n d_S_ship_22 rfl ?_
  refine j_iload_n d_S_ship_23 rfl ?_
  refine j_icmp_eq (tgt := 38) d_S_ship_24 (by decide) (fun h24 => False.elim (hab (i_eq (by omega) (by omega) h24))) (fun h24 => ?_)
  refine j_iload_n d_S_ship_27 rfl ?_
  refine j_callS (vs := [_]) d_S_ship_28 w110 w111 w1 w112 y_S_groupOf (by decide) (by decide) (k_groupOf M2 (nI a)) rfl (Nat.le_of_ble_eq_true rfl) (by decide) (by decide) (fun M3 r3 hq3 => ?_)
  obtain ⟨rfl, rfl⟩ := hq3
  rw [ga3]
  refine j_iload_n d_S_ship_31 rfl ?_
  refine j_callS (vs := [_]) d_S_ship_32 w110 w111 w1 w112 y_S_groupOf (by decide) (by decide) (k_groupOf M3 (nI b)) rfl (Nat.le_of_ble_eq_true rfl) (by decide) (by decide) (fun M4 r4 hq4 => ?_)
  obtain ⟨rfl, rfl⟩ := hq4
  rw [gb3, ← hg]
  refine j_icmp_eq (tgt := 40) d_S_ship_35 (by decide) (fun h35 => ?_) (fun h35 => False.elim (h35 rfl))
  refine j_aload_n d_S_ship_40 rfl ?_
  refine j_geti d_S_ship_41 hNA f_S_48_T rfl (by decide) ?_
  refine j_eqi la1 ?_
  refine j_if_ne (tgt := 50) d_S_ship_44 (by decide) (fun h44 => ?_) (fun h44 => False.elim (absurd h44 (by rw [hl]; decide)))
  refine j_aload d_S_ship_50 rfl ?_
  refine j_geti d_S_ship_52 hNB f_S_54_T rfl (by decide) ?_
  refine j_eqi lb2 ?_
  refine j_aload_n d_S_ship_55 rfl ?_
  refine j_geti d_S_ship_56 hNA f_S_54_T rfl (by decide) ?_
  refine j_eqi la2 ?_
  refine j_icmp_le (tgt := 70) d_S_ship_59 (by decide) (fun h59 => ?_) (fun h59 => False.elim (h59 (nI_le (by omega) (by omega))))
  refine j_aload d_S_ship_70 rfl ?_
  refine j_aload_n d_S_ship_72 rfl ?_
  refine j_geti d_S_ship_73 hNA f_S_54_T rfl (by decide) ?_
  refine j_eqi la2 ?_
  refine j_callU (owner := "ShardGroups$Node") (vs := [_]) d_S_ship_76 hNB (by decide) rfl w254 w228 w3 w232 w231 w229 (Or.inl rfl) y_N_takeTerm (by decide) (by decide) (k_takeTerm_T M4 (nd b) (nI (sT S a)) hNB) rfl (Nat.le_of_ble_eq_true rfl) (by decide) (by decide) (fun M5 r5 hq5 => ?_)
  obtain ⟨rfl, e5⟩ := hq5
  obtain ⟨h5, f5⟩ := cR_raise h b12 hT (by omega) e5
  have hA5 := cSh_T h5.1 (show 3 ≤ a by omega) (show a < 12 by omega)
  have hB5 := cSh_T h5.1 (show 3 ≤ b by omega) (show b < 12 by omega)
  refine j_aload d_S_ship_79 rfl ?_
  refine j_aload_n d_S_ship_81 rfl ?_
  refine j_callU (owner := "ShardGroups$Node") (vs := [_]) d_S_ship_82 hB5.1 (by decide) rfl w255 w256 w3 w260 w259 w257 (Or.inl rfl) y_N_copyNextFrom (by decide) (by decide) (k_copyNextFrom_T M5 (shR S a b) a b h5 i1.lgB ga ha gb hb12 hab hsafe) rfl (Nat.le_of_ble_eq_true rfl) (by decide) (by decide) (fun M6 r6 hq6 => ?_)
  obtain ⟨rfl, k, hk, h6, f6⟩ := hq6
  have ek : k = csF (sLn S a) (sLn S b) (sTm S a) (sTm S b) 80 := (rCS.sym hk).uq (csF_rCS (hi.1 a a12).1)
  have i2 := sInv_shC i1 a12 b12 hab hg hl1 hT1 (rCS.sym hk)
  obtain ⟨o1, o2, o3, o4⟩ := shC_o (shR S a b) a b k
  have i3 := sInv_shK i2 a12 b12 hab hg (by rw [o2]; exact hl1) (by rw [o3]; exact hT1)
  have hA6 := cSh_T h6.1 (show 3 ≤ a by omega) (show a < 12 by omega)
  refine j_aload_n d_S_ship_85 rfl ?_
  refine j_aload_n d_S_ship_86 rfl ?_
  refine j_aload_n d_S_ship_87 rfl ?_
  refine j_iload_n d_S_ship_88 rfl ?_
  refine j_callS (vs := [_]) d_S_ship_89 w110 w111 w1 w112 y_S_groupOf (by decide) (by decide) (k_groupOf M6 (nI a)) rfl (Nat.le_of_ble_eq_true rfl) (by decide) (by decide) (fun M7 r7 hq7 => ?_)
  obtain ⟨rfl, rfl⟩ := hq7
  rw [ga3]
  refine j_callV (vs := [_, _]) d_S_ship_92 h6.1.2.1 (by decide) rfl w271 w273 w1 w274 ws_S_countAgreed y_S_countAgreed (by decide) (by decide) (k_countAgreed_T M7 (shC (shR S a b) a b k) a h6 i2.lgB ga ha (by rw [o3]; exact tA1)) rfl (Nat.le_of_ble_eq_true rfl) (by decide) (by decide) (fun M8 r8 hq8 => ?_)
  obtain ⟨rfl, rfl⟩ := hq8
  have j2 := i2.1 a a12
  have al := ag0_le (shC (shR S a b) a b k) a (sLn (shC (shR S a b) a b k) a)
  refine j_callU (owner := "ShardGroups$Node") (vs := [_]) d_S_ship_95 hA6.1 (by decide) rfl w285 w286 w3 w290 w289 w287 (Or.inl rfl) y_N_learn (by decide) (by decide) (k_learn_T M8 (shC (shR S a b) a b k) a (ag0 (shC (shR S a b) a b k) a (sLn (shC (shR S a b) a b k) a)) h6 ga ha j2.1 j2.2.1 j2.2.2.2 (by have := j2.1; omega)) rfl (Nat.le_of_ble_eq_true rfl) (by decide) (by decide) (fun M9 r9 hq9 => ?_)
  obtain ⟨rfl, h9, f9⟩ := hq9
  have h9b : cR M9 (shK (shC (shR S a b) a b k) a) := h9
  have hA9 := cSh_T h9.1 (show 3 ≤ a by omega) (show a < 12 by omega)
  have hB9 := cSh_T h9.1 (show 3 ≤ b by omega) (show b < 12 by omega)
  have l9 : mI M9 (nd a) 4 = nI (sKn (shK (shC (shR S a b) a b k) a) a) := (h9b.2 a a12).2.2.2.1
  have j3 := i3.1 b b12
  have j4 := i3.1 a a12
  refine j_aload d_S_ship_98 rfl ?_
  refine j_aload_n d_S_ship_100 rfl ?_
  refine j_geti d_S_ship_101 hA9.1 f_S_91_T rfl (by decide) ?_
  refine j_eqi l9 ?_
  refine j_callU (owner := "ShardGroups$Node") (vs := [_]) d_S_ship_104 hB9.1 (by decide) rfl w285 w286 w3 w290 w289 w287 (Or.inl rfl) y_N_learn (by decide) (by decide) (k_learn_T M9 (shK (shC (shR S a b) a b k) a) b (sKn (shK (shC (shR S a b) a b k) a) a) h9b gb hb12 j3.1 j3.2.1 j3.2.2.2 (by have := j4.1; have := j4.2.1; omega)) rfl (Nat.le_of_ble_eq_true rfl) (by decide) (by decide) (fun Ma ra hqa => ?_)
  obtain ⟨rfl, ha9, fa⟩ := hqa
  have hab9 : cR Ma (shS S a b) := by unfold shS; rw [← ek]; exact ha9
  have hBa := cSh_T ha9.1 (show 3 ≤ b by omega) (show b < 12 by omega)
  refine j_aload d_S_ship_107 rfl ?_
  refine j_geti d_S_ship_109 hBa.1 f_S_94_T rfl (by decide) ?_
  refine j_eqi (hab9.2 b b12).2.2.2.2.1.1 ?_
  refine j_ireturn d_S_ship_112 rfl rfl ⟨rfl, hab9, ((f5.tr f6).tr f9).tr fa⟩ (by decide) (by decide)
theorem c_ship (M : aM) (S : aS) (t : Nat) (x y : Int32) (h : cR M S) (hi : sInv S t) (ht : t < 300000) : aK m_S_ship 6 640 3040 M [.ref 0, .int x, .int y] (cQ M (oShip S x y)) := by
  have no : oShip S x y = (S, -1) → ∀ M1 r, (M1 = M ∧ r = some (.int (-1))) → cQ M (oShip S x y) M1 r := by
    rintro e M1 r ⟨rfl, rfl⟩
    rw [e]
    exact ⟨rfl, h, fM.rf _⟩
  have cs : ∀ z, (nUp M z ∧ (∀ n, dN z 12 = some n → sUp S n = false)) ∨ ∃ n, n < 12 ∧ z = nI n ∧ dN z 12 = some n ∧ sUp S n = true := by
    intro z
    rcases dN_cases z (N := 12) (by decide) with ⟨e, hx⟩ | ⟨n, hn, rfl, e⟩
    · exact Or.inl ⟨Or.inl hx, fun n q => by rw [e] at q; cases q⟩
    · cases hu : sUp S n
      · exact Or.inl ⟨h.n (Or.inr ⟨n, hn, rfl, hu⟩), fun m q => by rw [e] at q; cases q; exact hu⟩
      · exact Or.inr ⟨n, hn, rfl, e, hu⟩
  have n1 : (∀ n, dN x 12 = some n → sUp S n = false) → oShip S x y = (S, -1) := by
    intro q
    unfold oShip
    cases ex : dN x 12 with
    | none => rfl
    | some a =>
      cases ey : dN y 12 with
      | none => rfl
      | some b => simp only []; rw [if_neg (fun z => by rw [q a ex] at z; exact absurd z.2.1 (by decide))]
  have n2 : (∀ n, dN y 12 = some n → sUp S n = false) → oShip S x y = (S, -1) := by
    intro q
    unfold oShip
    cases ex : dN x 12 with
    | none => rfl
    | some a =>
      cases ey : dN y 12 with
      | none => rfl
      | some b => simp only []; rw [if_neg (fun z => by rw [q b ey] at z; exact absurd z.2.2 (by decide))]
  rcases cs x with ⟨ux, qx⟩ | ⟨a, ha, rfl, ea, ua⟩
  · rcases cs y with ⟨uy, qy⟩ | ⟨b, hb, rfl, eb, ub⟩
    · exact (k_ship_2 M x y h.1 (k_upNode_n M x h.1 ux) (k_upNode_n M y h.1 uy)).weaken (no (n1 qx))
    · exact (k_ship_1 M x (nI b) h.1 (nd b) (k_upNode_n M x h.1 ux) (k_upNode_u M b h.1 hb (by rw [(h.2 b hb).1]; exact bI_t ub))).weaken (no (n1 qx))
  · have kx := k_upNode_u M a h.1 ha (by rw [(h.2 a ha).1]; exact bI_t ua)
    rcases cs y with ⟨uy, qy⟩ | ⟨b, hb, rfl, eb, ub⟩
    · exact (k_ship_3 M (nI a) y h.1 (nd a) kx (k_upNode_n M y h.1 uy)).weaken (no (n2 qy))
    · have ky := k_upNode_u M b h.1 hb (by rw [(h.2 b hb).1]; exact bI_t ub)
      have ga3 : nI a / 3 = nI (a / 3) := pk_div (d := 3) (by omega) (by decide) (by decide)
      have gb3 : nI b / 3 = nI (b / 3) := pk_div (d := 3) (by omega) (by decide) (by decide)
      have hTa := (hi.1 a ha).2.2.1
      have hTb := (hi.1 b hb).2.2.1
      by_cases q : a ≠ b ∧ a / 3 = b / 3
      · have e0 : oShip S (nI a) (nI b) = if sLd S a = true then (if sT S a < sT S b then (shX S a, -5) else (shS S a b, nI (sLn (shS S a b) b))) else (S, -2) := by
          unfold oShip
          rw [ea, eb]
          simp only []
          rw [if_pos ⟨q, ua, ub⟩]
        obtain ⟨hab, hg⟩ := q
        cases hl : sLd S a
        · have e1 : oShip S (nI a) (nI b) = (S, -2) := by rw [e0, hl]; rfl
          rw [e1]
          have fin : ∀ M1 r, (M1 = M ∧ r = some (.int (-2))) → cQ M (S, -2) M1 r := by
            rintro M1 r ⟨rfl, rfl⟩
            exact ⟨rfl, h, fM.rf _⟩
          by_cases h3 : a < 3
          · exact (k_ship_fV M S a b h h3 (by omega) hab hg ua ub hl).weaken fin
          · exact (k_ship_fT M S a b h (by omega) ha (by omega) hb hab hg ua ub hl).weaken fin
        · by_cases hT : sT S a < sT S b
          · have e1 : oShip S (nI a) (nI b) = (shX S a, -5) := by rw [e0, if_pos hl, if_pos hT]
            rw [e1]
            have fin : ∀ M1 r, (M1 = sI M (nd a) 1 0 ∧ r = some (.int (-5))) → cQ M (shX S a, -5) M1 r := by
              rintro M1 r ⟨rfl, rfl⟩
              exact ⟨rfl, cR_lost h ha, fM_nd (i := 0) ha (wd0 a) (fM.rf M)⟩
            by_cases h3 : a < 3
            · exact (k_ship_sV M S a b h h3 (by omega) hab hg ua ub hl hT (by omega)).weaken fin
            · exact (k_ship_sT M S a b h (by omega) ha (by omega) hb hab hg ua ub hl hT (by omega)).weaken fin
          · have e1 : oShip S (nI a) (nI b) = (shS S a b, nI (sLn (shS S a b) b)) := by rw [e0, if_pos hl, if_neg hT]
            rw [e1]
            by_cases h3 : a < 3
            · exact k_ship_V M S a b h h3 (by omega) hab hg ua ub t hi ht hl (by omega)
            · exact k_ship_T M S a b h (by omega) ha (by omega) hb hab hg ua ub t hi ht hl (by omega)
      · refine (k_ship_4 M (nI a) (nI b) h.1 (nd a) (nd b) kx ky ?_).weaken (no ?_)
        · by_cases z : a = b
          · exact Or.inl (by rw [z])
          · refine Or.inr (fun y => q ⟨z, ?_⟩)
            rw [ga3, gb3] at y
            exact i_eq (by omega) (by omega) y
        · unfold oShip
          rw [ea, eb]
          simp only []
          rw [if_neg (fun z => q z.1)]
