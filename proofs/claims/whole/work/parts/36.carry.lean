set_option maxRecDepth 20000 in
set_option maxHeartbeats 1000000 in
theorem k_E_chS (M : aM) (e x : Nat) : aK m_E_changeService 0 0 0 M [.ref e, .ref x] (fun M1 r => r = none ∧ M1 = M) := by
  refine aK.of (by decide) (Nat.le_of_ble_eq_true rfl) ?_
  refine j_return d_E_changeService_0 rfl ?_ (by decide) (by decide)
  exact ⟨rfl, rfl⟩
set_option maxRecDepth 20000 in
set_option maxHeartbeats 1000000 in
theorem k_E_chT (M : aM) (e x : Nat) : aK m_E_changeStore 0 0 0 M [.ref e, .ref x] (fun M1 r => r = none ∧ M1 = M) := by
  refine aK.of (by decide) (Nat.le_of_ble_eq_true rfl) ?_
  refine j_return d_E_changeStore_0 rfl ?_ (by decide) (by decide)
  exact ⟨rfl, rfl⟩
set_option maxRecDepth 20000 in
set_option maxHeartbeats 1000000 in
theorem k_V_cO_E (M : aM) (a e : Nat) (he : tO M e 5) : aK m_V_carryOut 4 4 19 M [.ref a, .ref e] (fun M1 r => r = none ∧ M1 = M) := by
  refine aK.of (by decide) (Nat.le_of_ble_eq_true rfl) ?_
  refine j_aload_n d_V_carryOut_0 rfl ?_
  refine j_aload_n d_V_carryOut_1 rfl ?_
  refine j_callV (vs := [_]) d_V_carryOut_2 (by assumption) (by decide) rfl w297 w298 w9 w362 w299 y_E_changeService (by decide) (by decide) (k_E_chS M e a) rfl (Nat.le_of_ble_eq_true rfl) (by decide) (by decide) (fun M1 r1 hq1 => ?_)
  obtain ⟨rfl, rfl⟩ := hq1
  refine j_return d_V_carryOut_5 rfl ?_ (by decide) (by decide)
  exact ⟨rfl, rfl⟩
set_option maxRecDepth 20000 in
set_option maxHeartbeats 1000000 in
theorem k_V_cO_F (M : aM) (a e : Nat) (he : tO M e 7) : aK m_V_carryOut 4 4 19 M [.ref a, .ref e] (fun M1 r => r = none ∧ M1 = M) := by
  refine aK.of (by decide) (Nat.le_of_ble_eq_true rfl) ?_
  refine j_aload_n d_V_carryOut_0 rfl ?_
  refine j_aload_n d_V_carryOut_1 rfl ?_
  refine j_callU (owner := "ShardGroups$Entry") (vs := [_]) d_V_carryOut_2 (by assumption) (by decide) rfl w297 w298 w9 w362 w358 w300 (Or.inl rfl) y_E_changeService (by decide) (by decide) (k_E_chS M e a) rfl (Nat.le_of_ble_eq_true rfl) (by decide) (by decide) (fun M1 r1 hq1 => ?_)
  obtain ⟨rfl, rfl⟩ := hq1
  refine j_return d_V_carryOut_5 rfl ?_ (by decide) (by decide)
  exact ⟨rfl, rfl⟩
set_option maxRecDepth 20000 in
set_option maxHeartbeats 1000000 in
theorem k_V_cO_R (M : aM) (a e : Nat) (he : tO M e 8) : aK m_V_carryOut 4 4 19 M [.ref a, .ref e] (fun M1 r => r = none ∧ M1 = M) := by
  refine aK.of (by decide) (Nat.le_of_ble_eq_true rfl) ?_
  refine j_aload_n d_V_carryOut_0 rfl ?_
  refine j_aload_n d_V_carryOut_1 rfl ?_
  refine j_callU (owner := "ShardGroups$Entry") (vs := [_]) d_V_carryOut_2 (by assumption) (by decide) rfl w297 w298 w9 w362 w361 w300 (Or.inl rfl) y_E_changeService (by decide) (by decide) (k_E_chS M e a) rfl (Nat.le_of_ble_eq_true rfl) (by decide) (by decide) (fun M1 r1 hq1 => ?_)
  obtain ⟨rfl, rfl⟩ := hq1
  refine j_return d_V_carryOut_5 rfl ?_ (by decide) (by decide)
  exact ⟨rfl, rfl⟩
set_option maxRecDepth 20000 in
set_option maxHeartbeats 1000000 in
theorem k_V_cO_I (M : aM) (a e : Nat) (he : tO M e 9) : aK m_V_carryOut 4 4 19 M [.ref a, .ref e] (fun M1 r => r = none ∧ M1 = M) := by
  refine aK.of (by decide) (Nat.le_of_ble_eq_true rfl) ?_
  refine j_aload_n d_V_carryOut_0 rfl ?_
  refine j_aload_n d_V_carryOut_1 rfl ?_
  refine j_callU (owner := "ShardGroups$Entry") (vs := [_]) d_V_carryOut_2 (by assumption) (by decide) rfl w297 w298 w9 w362 w360 w300 (Or.inl rfl) y_E_changeService (by decide) (by decide) (k_E_chS M e a) rfl (Nat.le_of_ble_eq_true rfl) (by decide) (by decide) (fun M1 r1 hq1 => ?_)
  obtain ⟨rfl, rfl⟩ := hq1
  refine j_return d_V_carryOut_5 rfl ?_ (by decide) (by decide)
  exact ⟨rfl, rfl⟩
set_option maxRecDepth 20000 in
set_option maxHeartbeats 1000000 in
theorem k_V_cO_D (M : aM) (a e : Nat) (he : tO M e 10) : aK m_V_carryOut 4 4 19 M [.ref a, .ref e] (fun M1 r => r = none ∧ M1 = M) := by
  refine aK.of (by decide) (Nat.le_of_ble_eq_true rfl) ?_
  refine j_aload_n d_V_carryOut_0 rfl ?_
  refine j_aload_n d_V_carryOut_1 rfl ?_
  refine j_callU (owner := "ShardGroups$Entry") (vs := [_]) d_V_carryOut_2 (by assumption) (by decide) rfl w297 w298 w9 w362 w359 w300 (Or.inl rfl) y_E_changeService (by decide) (by decide) (k_E_chS M e a) rfl (Nat.le_of_ble_eq_true rfl) (by decide) (by decide) (fun M1 r1 hq1 => ?_)
  obtain ⟨rfl, rfl⟩ := hq1
  refine j_return d_V_carryOut_5 rfl ?_ (by decide) (by decide)
  exact ⟨rfl, rfl⟩
set_option maxRecDepth 20000 in
set_option maxHeartbeats 1000000 in
theorem k_V_cO_G (M : aM) (a e : Nat) (he : tO M e 6) (Q : aM → Option Value → Prop) (hk : aK m_G_changeService 3 4 19 M [.ref e, .ref a] Q) (hQ : ∀ M1 r, Q M1 r → r = none) : aK m_V_carryOut 4 4 19 M [.ref a, .ref e] Q := by
  refine aK.of (by decide) (Nat.le_of_ble_eq_true rfl) ?_
  refine j_aload_n d_V_carryOut_0 rfl ?_
  refine j_aload_n d_V_carryOut_1 rfl ?_
  refine j_callU (owner := "ShardGroups$Entry") (vs := [_]) d_V_carryOut_2 (by assumption) (by decide) rfl w297 w302 w11 w303 w301 w300 (Or.inr (Or.inl ⟨w298, _, _, _, w362⟩)) y_E_changeService (by decide) (by decide) (hk) rfl (Nat.le_of_ble_eq_true rfl) (by decide) (by decide) (fun M1 r1 hq1 => ?_)
  have hr1 := hQ M1 r1 hq1
  subst hr1
  refine j_return d_V_carryOut_5 rfl hq1 (by decide) (by decide)
theorem bal_allm {mem : Nat → Bool} {own : Nat → Nat} (h : allm mem own) : allm mem (bal mem 8 own) := by
  obtain ⟨r, -, -, h3, h4⟩ := bal_8 h
  rw [← h4]
  exact (bal_run h r h3).1
theorem cfV_J {c : aCf} {a : Nat} (h : cfV c) (a1 : 1 ≤ a) (a3 : a ≤ 3) (hna : c.1 a = false) : cfV (cfJ c a) := by
  have hn := nM_t a1 a3 hna
  unfold cfV cfJ
  dsimp only
  refine ⟨by rw [fu_n _ _ (by omega)]; exact h.1, fun q => by omega, fun _ => ?_⟩
  apply bal_allm
  by_cases e : nM c.1 = 0
  · rw [if_pos e]; exact fun s _ => ⟨a1, a3, fu_s _ _ _⟩
  · rw [if_neg e]; exact allm_grow (h.2.2 e)
theorem cfV_L {c : aCf} {a : Nat} (h : cfV c) (a1 : 1 ≤ a) (a3 : a ≤ 3) (hma : c.1 a = true) (hn : 1 < nM c.1) : cfV (cfL c a) := by
  have hn1 := nM_f a1 a3 hma
  have hmm : fu c.1 a false 1 = true ∨ fu c.1 a false 2 = true ∨ fu c.1 a false 3 = true := nM_pos (by omega)
  have hall : allm (fu c.1 a false) (lv (fu c.1 a false) a 8 c.2) := by
    intro s hs
    refine lv_in hmm (fun s hs hne => ?_) 8 (Nat.le_refl _) s hs
    obtain ⟨g1, g2, g3⟩ := h.2.2 (by omega) s hs
    exact ⟨g1, g2, by rw [fu_n _ _ hne]; exact g3⟩
  unfold cfV cfL
  dsimp only
  refine ⟨by rw [fu_n _ _ (by omega)]; exact h.1, fun q => by omega, fun _ => ?_⟩
  apply bal_allm
  exact hall
theorem cfV_M {c : aCf} {s g : Nat} (h : cfV c) (g1 : 1 ≤ g) (g3 : g ≤ 3) (hm : c.1 g = true) : cfV (cfM c s g) := by
  have hne : nM c.1 ≠ 0 := by
    unfold nM
    rcases (by omega : g = 1 ∨ g = 2 ∨ g = 3) with rfl | rfl | rfl <;> rw [hm] <;> simp
  refine ⟨h.1, fun q => absurd q hne, fun _ j hj => ?_⟩
  show 1 ≤ fu c.2 s g j ∧ fu c.2 s g j ≤ 3 ∧ c.1 (fu c.2 s g j) = true
  by_cases e : j = s
  · rw [e, fu_s]; exact ⟨g1, g3, hm⟩
  · rw [fu_n _ _ e]; exact h.2.2 hne j hj
theorem cfV_0 : cfV cf0 := ⟨rfl, fun _ _ _ => rfl, fun q => absurd rfl q⟩
theorem sv_no {V : aSv} {E : Nat → Nat} (h : svOk V E = false) : svStep V E = V := by
  unfold svStep; rw [h]; rfl
theorem sv_yes {V : aSv} {E : Nat → Nat} (h : svOk V E = true) : svStep V E = (V.1 + 1, fu V.2 V.1 (cfStep (V.2 (V.1 - 1)) E)) := if_pos h
/-- what a change asks, by its kind -/
theorem sv_1 {V : aSv} {E : Nat → Nat} (e : E 1 = 1) : svOk V E = (decide (V.1 < 16) && !(V.2 (V.1 - 1)).1 (E 2)) := by unfold svOk; rw [e]; simp
theorem sv_2 {V : aSv} {E : Nat → Nat} (e : E 1 = 2) : svOk V E = (decide (V.1 < 16) && ((V.2 (V.1 - 1)).1 (E 2) && decide (1 < nM (V.2 (V.1 - 1)).1))) := by unfold svOk; rw [e]; simp
theorem sv_3 {V : aSv} {E : Nat → Nat} (e : E 1 = 3) : svOk V E = (decide (V.1 < 16) && (V.2 (V.1 - 1)).1 (E 3)) := by unfold svOk; rw [e]; simp
theorem sv_o {V : aSv} {E : Nat → Nat} (e : ¬ (1 ≤ E 1 ∧ E 1 ≤ 3)) : svOk V E = false := by unfold svOk; rw [decide_eq_false e]; rfl
theorem svV_step {V : aSv} {E : Nat → Nat} (h : svV V) (hE : eV E) : svV (svStep V E) := by
  obtain ⟨v1, v2, v3⟩ := h
  cases hk : svOk V E
  · rw [sv_no hk]; exact ⟨v1, v2, v3⟩
  · rw [sv_yes hk]
    have hb : 1 ≤ E 1 ∧ E 1 ≤ 3 := Decidable.byContradiction fun q => by rw [sv_o q] at hk; cases hk
    have key : V.1 < 16 ∧ cfV (cfStep (V.2 (V.1 - 1)) E) := by
      have c0 := v3 (V.1 - 1) (by omega)
      rcases (by omega : E 1 = 1 ∨ E 1 = 2 ∨ E 1 = 3) with e | e | e
      · rw [sv_1 e, Bool.and_eq_true, decide_eq_true_eq, Bool.not_eq_true'] at hk
        obtain ⟨r1, r3⟩ := hE.2.2.1 (Or.inl e)
        refine ⟨hk.1, ?_⟩
        unfold cfStep; rw [if_pos e]
        exact cfV_J c0 r1 r3 hk.2
      · rw [sv_2 e, Bool.and_eq_true, decide_eq_true_eq, Bool.and_eq_true, decide_eq_true_eq] at hk
        obtain ⟨r1, r3⟩ := hE.2.2.1 (Or.inr e)
        refine ⟨hk.1, ?_⟩
        unfold cfStep; rw [if_neg (by omega), if_pos e]
        exact cfV_L c0 r1 r3 hk.2.1 hk.2.2
      · rw [sv_3 e, Bool.and_eq_true, decide_eq_true_eq] at hk
        obtain ⟨r0, r1, r3⟩ := hE.2.2.2.1 e
        refine ⟨hk.1, ?_⟩
        unfold cfStep; rw [if_neg (by omega), if_neg (by omega)]
        exact cfV_M c0 r1 r3 hk.2
    refine ⟨by show 1 ≤ V.1 + 1; omega, by show V.1 + 1 ≤ 16; omega, fun c hc => ?_⟩
    show cfV (fu V.2 V.1 _ c)
    by_cases q : c = V.1
    · rw [q, fu_s]; exact key.2
    · rw [fu_n _ _ q]; exact v3 c (by have : c < V.1 + 1 := hc; omega)
theorem svV_svc {lg : aLg} : ∀ K, (∀ k, k < K → eV (lg k)) → svV (svc lg K)
  | 0, _ => ⟨Nat.le_refl _, show 1 ≤ 16 by decide, fun _ _ => cfV_0⟩
  | K + 1, h => svV_step (svV_svc K (fun k hk => h k (by omega))) (h K (by omega))
theorem k_carryOut_V (M : aM) (n e : Nat) (V : aSv) (E : Nat → Nat) (h : cSh M) (hn : n < 3) (hv : svR M n V) (hV : svV V) (he : eR M e E) (hE : eV E) : aK m_V_carryOut 4 4 19 M [.ref (nd n), .ref e] (fun M1 r => r = none ∧ svR M1 n (svStep V E) ∧ chg M M1 n) := by
  have none_ : ∀ {Q : aM → Option Value → Prop}, ¬ (1 ≤ E 1 ∧ E 1 ≤ 3) → aK m_V_carryOut 4 4 19 M [.ref (nd n), .ref e] (fun M1 r => r = none ∧ M1 = M) → aK m_V_carryOut 4 4 19 M [.ref (nd n), .ref e] (fun M1 r => r = none ∧ svR M1 n (svStep V E) ∧ chg M M1 n) := by
    intro _ q hk
    refine hk.weaken ?_
    rintro M1 r ⟨rfl, rfl⟩
    rw [sv_no (sv_o q)]
    exact ⟨rfl, hv, chg.rf h⟩
  obtain ⟨-, -, ⟨k0, k1⟩ | ⟨k0, k1, k2, k3, k4⟩ | ⟨k0, k1, -⟩ | ⟨k0, k1, -⟩ | ⟨k0, k1, -⟩ | ⟨k0, k1, -⟩⟩ := he
  · exact none_ (Q := fun _ _ => True) (by omega) (k_V_cO_E M (nd n) e k1)
  · have hV0 := hV
    obtain ⟨v1, v2, v3⟩ := hV
    obtain ⟨q, hq, hcR⟩ := hv.2 (V.1 - 1) (by omega)
    obtain ⟨m, o, w, -, -, -, hc⟩ := hcR.s
    have c0 := v3 (V.1 - 1) (by omega)
    refine k_V_cO_G M (nd n) e k1 _ ?_ (fun M1 r z => z.1)
    have no : ∀ al, aK m_G_isAllowed 1 0 0 M [.ref e, .ref q] (fun M1 r => M1 = M ∧ r = some (.int (bI al))) → svOk V E = false → (V.1 = 16 ∨ al = false) → aK m_G_changeService 3 4 19 M [.ref e, .ref (nd n)] (fun M1 r => r = none ∧ svR M1 n (svStep V E) ∧ chg M M1 n) := by
      intro al hal hno hor
      refine (k_chS_no M n e q m o w V E al h hn hv hV0 k1 k2 k3 hq hc hal hor).weaken ?_
      rintro M1 r ⟨rfl, rfl⟩
      rw [sv_no hno]
      exact ⟨rfl, hv, chg.rf h⟩
    rcases (by omega : E 1 = 1 ∨ E 1 = 2 ∨ E 1 = 3) with e1 | e1 | e1
    · obtain ⟨r1, r3⟩ := hE.2.2.1 (Or.inl e1)
      have hal := k_isAllowed_1 M e q m o w _ E k1 k2 k3 hc e1 (by omega)
      by_cases h16 : V.1 < 16
      · cases hm : (V.2 (V.1 - 1)).1 (E 2)
        · have hok : svOk V E = true := by rw [sv_1 e1, decide_eq_true h16, hm]; rfl
          exact k_chS_1 M n e q m o w V E _ h hn hv hV0 k1 k2 k3 hq hc hal h16 (by rw [hm]; rfl) e1 r1 r3 hm (by rw [sv_yes hok]; unfold cfStep; rw [if_pos e1])
        · exact no _ hal (by rw [sv_1 e1, hm]; simp) (Or.inr (by rw [hm]; rfl))
      · exact no _ hal (by rw [sv_1 e1, decide_eq_false h16]; rfl) (Or.inl (by omega))
    · obtain ⟨r1, r3⟩ := hE.2.2.1 (Or.inr e1)
      have hal := k_isAllowed_2 M e q m o w _ E k1 k2 k3 hc e1 (by omega) c0.1
      by_cases h16 : V.1 < 16
      · cases hm : ((V.2 (V.1 - 1)).1 (E 2) && decide (1 < nM (V.2 (V.1 - 1)).1))
        · exact no _ hal (by rw [sv_2 e1, hm]; simp) (Or.inr hm)
        · have hok : svOk V E = true := by rw [sv_2 e1, decide_eq_true h16, hm]; rfl
          have hm2 := hm
          rw [Bool.and_eq_true, decide_eq_true_eq] at hm2
          exact k_chS_2 M n e q m o w V E _ h hn hv hV0 k1 k2 k3 hq hc hal h16 hm e1 r1 r3 hm2.1 hm2.2 (by rw [sv_yes hok]; unfold cfStep; rw [if_neg (by omega), if_pos e1])
      · exact no _ hal (by rw [sv_2 e1, decide_eq_false h16]; rfl) (Or.inl (by omega))
    · obtain ⟨r0, r1, r3⟩ := hE.2.2.2.1 e1
      have hal := k_isAllowed_3 M e q m o w _ E k1 k2 k3 hc (k4 e1) e1 (by omega)
      by_cases h16 : V.1 < 16
      · cases hm : (V.2 (V.1 - 1)).1 (E 3)
        · exact no _ hal (by rw [sv_3 e1, hm]; simp) (Or.inr hm)
        · have hok : svOk V E = true := by rw [sv_3 e1, decide_eq_true h16, hm]; rfl
          exact k_chS_3 M n e q m o w V E _ h hn hv hV0 k1 k2 k3 hq hc hal h16 hm (k4 e1) e1 r0 r1 r3 (by rw [sv_yes hok]; unfold cfStep; rw [if_neg (by omega), if_neg (by omega)])
      · exact no _ hal (by rw [sv_3 e1, decide_eq_false h16]; rfl) (Or.inl (by omega))
  · exact none_ (Q := fun _ _ => True) (by omega) (k_V_cO_F M (nd n) e k1)
  · exact none_ (Q := fun _ _ => True) (by omega) (k_V_cO_R M (nd n) e k1)
  · exact none_ (Q := fun _ _ => True) (by omega) (k_V_cO_I M (nd n) e k1)
  · exact none_ (Q := fun _ _ => True) (by omega) (k_V_cO_D M (nd n) e k1)

