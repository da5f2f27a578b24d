theorem start_nw {args : Array Value} {s : State} (hts : ∀ w ∈ lw_tbl, w.before args s = true) : ∀ w ∈ aNW, va_Nw w s := by
  unfold aNW
  exact List.forall_mem_cons.mpr ⟨va_AO.of (hts _ (List.mem_append_right _ (List.mem_of_getElem? (i := 25) (by decide +kernel)))), List.forall_mem_cons.mpr ⟨va_AO.of (hts _ (List.mem_append_right _ (List.mem_of_getElem? (i := 27) (by decide +kernel)))), List.forall_mem_cons.mpr ⟨va_AO.of (hts _ (List.mem_append_right _ (List.mem_of_getElem? (i := 29) (by decide +kernel)))), List.forall_mem_cons.mpr ⟨va_Nw.of rfl (hts _ (List.mem_append_right _ (List.mem_of_getElem? (i := 55) (by decide +kernel)))), List.forall_mem_cons.mpr ⟨va_AO.of (hts _ (List.mem_append_right _ (List.mem_of_getElem? (i := 60) (by decide +kernel)))), List.forall_mem_cons.mpr ⟨va_AO.of (hts _ (List.mem_append_right _ (List.mem_of_getElem? (i := 62) (by decide +kernel)))), List.forall_mem_cons.mpr ⟨va_Nw.of rfl (hts _ (List.mem_append_right _ (List.mem_of_getElem? (i := 116) (by decide +kernel)))), List.forall_mem_cons.mpr ⟨va_AO.of (hts _ (List.mem_append_right _ (List.mem_of_getElem? (i := 118) (by decide +kernel)))), List.forall_mem_cons.mpr ⟨va_Nw.of rfl (hts _ (List.mem_append_right _ (List.mem_of_getElem? (i := 120) (by decide +kernel)))), List.forall_mem_cons.mpr ⟨va_Nw.of rfl (hts _ (List.mem_append_right _ (List.mem_of_getElem? (i := 292) (by decide +kernel)))), List.forall_mem_cons.mpr ⟨va_Nw.of rfl (hts _ (List.mem_append_right _ (List.mem_of_getElem? (i := 404) (by decide +kernel)))), List.forall_mem_cons.mpr ⟨va_Nw.of rfl (hts _ (List.mem_append_right _ (List.mem_of_getElem? (i := 411) (by decide +kernel)))), List.forall_mem_cons.mpr ⟨va_Nw.of rfl (hts _ (List.mem_append_right _ (List.mem_of_getElem? (i := 457) (by decide +kernel)))), List.forall_mem_cons.mpr ⟨va_Nw.of rfl (hts _ (List.mem_append_right _ (List.mem_of_getElem? (i := 538) (by decide +kernel)))), List.forall_mem_cons.mpr ⟨va_Nw.of rfl (hts _ (List.mem_append_right _ (List.mem_of_getElem? (i := 589) (by decide +kernel)))), List.forall_mem_cons.mpr ⟨va_Nw.of rfl (hts _ (List.mem_append_right _ (List.mem_of_getElem? (i := 826) (by decide +kernel)))), List.forall_mem_cons.mpr ⟨va_Nw.of rfl (hts _ (List.mem_append_right _ (List.mem_of_getElem? (i := 827) (by decide +kernel)))), List.forall_mem_cons.mpr ⟨va_Nw.of rfl (hts _ (List.mem_append_right _ (List.mem_of_getElem? (i := 828) (by decide +kernel)))), List.forall_mem_cons.mpr ⟨va_Nw.of rfl (hts _ (List.mem_append_right _ (List.mem_of_getElem? (i := 829) (by decide +kernel)))), List.forall_mem_cons.mpr ⟨va_Nw.of rfl (hts _ (List.mem_append_right _ (List.mem_of_getElem? (i := 830) (by decide +kernel)))), List.forall_mem_cons.mpr ⟨va_Nw.of rfl (hts _ (List.mem_append_right _ (List.mem_of_getElem? (i := 831) (by decide +kernel)))), List.forall_mem_cons.mpr ⟨va_Nw.of rfl (hts _ (List.mem_append_right _ (List.mem_of_getElem? (i := 832) (by decide +kernel)))), fun _ h => absurd h List.not_mem_nil⟩⟩⟩⟩⟩⟩⟩⟩⟩⟩⟩⟩⟩⟩⟩⟩⟩⟩⟩⟩⟩⟩
theorem kn_of {own : String} {ix ci N : Nat} {args : Array Value} {s : State} (h : aNl own ix ci N) (hts : ∀ w ∈ aWS, w.before args s = true) : ∃ r : ClassId × (Nat → Nat), ∀ q : vw_C, aCl[ci]? = some q → u_Kn s q.1 q.2.1 q.2.2 r.1 r.2 := by
  obtain ⟨C, T, ty, hc, hin, -, -, hi, -⟩ := h
  obtain ⟨cC, iS, hk⟩ := u_known hts hin (hts _ hi)
  exact ⟨(cC, iS), fun q hq => by rw [hc] at hq; cases hq; exact hk⟩
theorem start_cl {args : Array Value} {s : State} (hts : ∀ w ∈ aWS, w.before args s = true) : ∀ c : Nat, ∃ r : ClassId × (Nat → Nat), ∀ q : vw_C, aCl[c]? = some q → u_Kn s q.1 q.2.1 q.2.2 r.1 r.2 := by
  intro c
  by_cases h : c < 12
  · rcases (by omega : c = 0 ∨ c = 1 ∨ c = 2 ∨ c = 3 ∨ c = 4 ∨ c = 5 ∨ c = 6 ∨ c = 7 ∨ c = 8 ∨ c = 9 ∨ c = 10 ∨ c = 11) with rfl | rfl | rfl | rfl | rfl | rfl | rfl | rfl | rfl | rfl | rfl | rfl
    · exact kn_of n_L_7 hts
    · exact kn_of n_S_27 hts
    · exact kn_of n_S_15 hts
    · exact kn_of n_S_21 hts
    · exact kn_of n_T_9 hts
    · exact kn_of n_S_68 hts
    · exact kn_of n_S_106 hts
    · exact kn_of n_S_142 hts
    · exact kn_of n_S_125 hts
    · exact kn_of n_S_163 hts
    · exact kn_of n_S_183 hts
    · exact kn_of n_L_10 hts
  · obtain ⟨r, -⟩ := kn_of n_L_7 hts
    refine ⟨r, fun q hq => ?_⟩
    have := (List.getElem?_eq_some_iff.mp hq).1
    have e : aCl.length = 12 := rfl
    omega
theorem start_ai {args : Array Value} {s : State} (hts : ∀ w ∈ aWS, w.before args s = true) : (∃ c, ArrOfT s c .int ∧ va_RA s c .int) ∧ ∃ c, ArrOfT s c .boolean ∧ va_RA s c .boolean := by
  obtain ⟨c, k, comp, h1, h2, h3⟩ := Cond.arrayClass_spec (hts _ w50)
  obtain ⟨c', k', comp', g1, g2, g3⟩ := Cond.arrayClass_spec (hts _ w49)
  exact ⟨⟨c, fun N z => ⟨(fun k h => by cases h), k, h2, comp, h3⟩, h1⟩, ⟨c', fun N z => ⟨(fun k h => by cases h), k', g2, comp', g3⟩, g1⟩⟩
theorem start_ao {C : String} {s : State} (h : va_Nw (.arrayOver (.object C)) s) : ∃ c, ArrOfT s c (.object C) ∧ va_RA s c (.object C) := by
  obtain ⟨comp, c, k, h1, h2, h3, h4, h5⟩ := Cond.arrayOver_spec h
  exact ⟨c, fun N z => ⟨(fun k h => by cases h), k, h3, comp, h4⟩, k, comp, h3, h4, h1, h5⟩
theorem start_G {args : Array Value} {s : State} (hts : ∀ w ∈ lw_tbl, w.before args s = true) : ∃ (D : va_G) (cA : Nat → ClassId), aG D cA s := by
  have hw : ∀ w ∈ aWS, w.before args s = true := fun w h => hts w (List.mem_filter.mp h).1
  have hn := start_nw hts
  obtain ⟨f, hf⟩ := Classical.axiomOfChoice (start_cl hw)
  obtain ⟨⟨a0, b0⟩, ⟨a1, b1⟩⟩ := start_ai hw
  obtain ⟨a2, b2⟩ := start_ao (hn _ nw0)
  obtain ⟨a3, b3⟩ := start_ao (hn _ nw1)
  obtain ⟨a4, b4⟩ := start_ao (hn _ nw2)
  obtain ⟨a5, b5⟩ := start_ao (hn _ nw5)
  obtain ⟨a6, b6⟩ := start_ao (hn _ nw4)
  obtain ⟨a7, b7⟩ := start_ao (hn _ nw7)
  refine ⟨(fun c => (f c).1, fun c => (f c).2), fun k => if k = 100 then a0 else if k = 101 then a1 else if k = 102 then a2 else if k = 103 then a3 else if k = 104 then a4 else if k = 105 then a5 else if k = 106 then a6 else a7, ⟨fun c q hq => hf c q hq, fun k q hq => ?_⟩, hn⟩
  have hl := (List.getElem?_eq_some_iff.mp hq).1
  have hl8 : k < 8 := hl
  rcases (by omega : k = 0 ∨ k = 1 ∨ k = 2 ∨ k = 3 ∨ k = 4 ∨ k = 5 ∨ k = 6 ∨ k = 7) with rfl | rfl | rfl | rfl | rfl | rfl | rfl | rfl
  · cases hq; exact b0
  · cases hq; exact b1
  · cases hq; exact b2
  · cases hq; exact b3
  · cases hq; exact b4
  · cases hq; exact b5
  · cases hq; exact b6
  · cases hq; exact b7

set_option maxRecDepth 20000 in
set_option maxHeartbeats 1000000 in
theorem law_loop (L : Nat) (xs : Nat → Int32) (hL : L ≤ 3584) : ∀ (j k : Nat) (M : aM) (S : aS), k + j = 513 → cR M S → mRep M S → sInv S k → aJ (aXl L xs) m_L_law 7 600000 7302250 QL (345 + 640 * k) (16817 + 3040 * k) 18 [some (.float 0), some (.ref 0), some (.ref 332), some (.int (nI (7 * k)))] [] M := by
  intro j
  induction j with
  | zero =>
    intro k M S hk h hm hi
    refine j_iload_n d_L_law_18 rfl ?_
    refine j_aload_nS d_L_law_19 rfl ?_
    refine j_slen d_L_law_20 ?_
    refine j_bipush (v := 7) d_L_law_21 (by decide) ?_
    refine j_isub d_L_law_23 ?_
    refine j_icmp_gt (tgt := 762) d_L_law_24 (by decide) (fun h24 => ?_) (fun h24 => False.elim (h24 ((sub7 hL (by omega)).mpr (by omega))))
    refine j_iconst (v := 1) d_L_law_762 (by decide) ?_
    refine j_ireturn d_L_law_763 rfl rfl rfl (by omega) (by omega)
  | succ j ih =>
    intro k M S hk h hm hi
    have nx : ∀ (M1 : aM) (S1 : aS), cR M1 S1 → mRep M1 S1 → sInv S1 (k + 1) → aJ (aXl L xs) m_L_law 7 600000 7302250 QL (345 + 640 * k + 640) (16817 + 3040 * k + 3040) 756 [some (.float 0), some (.ref 0), some (.ref 332), some (.int (nI (7 * k)))] [] M1 := by
      intro M1 S1 h1 m1 i1
      refine j_iinc (nI (7 * (k + 1))) d_L_law_756 rfl (by rw [show Int32.ofInt 7 = nI 7 from rfl, nI_add]; rfl) (by decide) ?_
      refine j_goto 18 d_L_law_759 (by decide) ?_
      -- at 18
      exact j_widen (by omega) (by omega) (ih (k + 1) M1 S1 (by omega) h1 m1 i1)
    refine j_iload_n d_L_law_18 rfl ?_
    refine j_aload_nS d_L_law_19 rfl ?_
    refine j_slen d_L_law_20 ?_
    refine j_bipush (v := 7) d_L_law_21 (by decide) ?_
    refine j_isub d_L_law_23 ?_
    refine j_icmp_gt (tgt := 762) d_L_law_24 (by decide) (fun h24 => ?_) (fun h24 => ?_)
    · refine j_iconst (v := 1) d_L_law_762 (by decide) ?_
      refine j_ireturn d_L_law_763 rfl rfl rfl (by omega) (by omega)
    · have k24 : 7 * k + 7 ≤ L := by have := mt (sub7 hL (by omega)).mpr h24; omega
      refine j_aload_nS d_L_law_27 rfl ?_
      refine j_iload_n d_L_law_28 rfl ?_
      refine j_sld d_L_law_29 (aIx.n (by omega) (by omega)) ?_
      refine j_bipush (v := 31) d_L_law_30 (by decide) ?_
      refine j_iand d_L_law_32 ?_
      -- at 33
      generalize xs (7 * k) &&& 31 = x
      by_cases e0 : x = 0
      · subst e0
        refine j_tabIn (off := 87) (tgt := 120) d_L_law_33 (by decide) (by decide) (by decide) (by decide) ?_
        exact l_crash L xs M S k (7 * k) _ _ h hm hi (by omega) k24 hL (by omega) (by omega) nx
      by_cases e1 : x = 1
      · subst e1
        refine j_tabIn (off := 110) (tgt := 143) d_L_law_33 (by decide) (by decide) (by decide) (by decide) ?_
        exact l_recover L xs M S k (7 * k) _ _ h hm hi (by omega) k24 hL (by omega) (by omega) nx
      by_cases e2 : x = 2
      · subst e2
        refine j_tabIn (off := 133) (tgt := 166) d_L_law_33 (by decide) (by decide) (by decide) (by decide) ?_
        exact l_elect L xs M S k (7 * k) _ _ h hm hi (by omega) k24 hL (by omega) (by omega) nx
      by_cases e3 : x = 3
      · subst e3
        refine j_tabIn (off := 156) (tgt := 189) d_L_law_33 (by decide) (by decide) (by decide) (by decide) ?_
        exact l_ship L xs M S k (7 * k) _ _ h hm hi (by omega) k24 hL (by omega) (by omega) nx
      by_cases e4 : x = 4
      · subst e4
        refine j_tabIn (off := 189) (tgt := 222) d_L_law_33 (by decide) (by decide) (by decide) (by decide) ?_
        exact l_change L xs M S k (7 * k) _ _ h hm hi (by omega) k24 hL (by omega) (by omega) nx
      by_cases e5 : x = 5
      · subst e5
        refine j_tabIn (off := 242) (tgt := 275) d_L_law_33 (by decide) (by decide) (by decide) (by decide) ?_
        exact l_request L xs M S k (7 * k) _ _ h hm hi (by omega) k24 hL (by omega) (by omega) nx
      by_cases e6 : x = 6
      · subst e6
        refine j_tabIn (off := 317) (tgt := 350) d_L_law_33 (by decide) (by decide) (by decide) (by decide) ?_
        exact l_poll L xs M S k (7 * k) _ _ h hm hi (by omega) k24 hL (by omega) (by omega) nx
      by_cases e7 : x = 7
      · subst e7
        refine j_tabIn (off := 350) (tgt := 383) d_L_law_33 (by decide) (by decide) (by decide) (by decide) ?_
        exact l_pull L xs M S k (7 * k) _ _ h hm hi (by omega) k24 hL (by omega) (by omega) nx
      by_cases e8 : x = 8
      · subst e8
        refine j_tabIn (off := 393) (tgt := 426) d_L_law_33 (by decide) (by decide) (by decide) (by decide) ?_
        exact l_confirm L xs M S k (7 * k) _ _ h hm hi (by omega) k24 hL (by omega) (by omega) nx
      by_cases e9 : x = 9
      · subst e9
        refine j_tabIn (off := 436) (tgt := 469) d_L_law_33 (by decide) (by decide) (by decide) (by decide) ?_
        exact l_length L xs M S k (7 * k) _ _ h hm hi (by omega) k24 hL (by omega) (by omega) nx
      by_cases e10 : x = 10
      · subst e10
        refine j_tabIn (off := 459) (tgt := 492) d_L_law_33 (by decide) (by decide) (by decide) (by decide) ?_
        exact l_known L xs M S k (7 * k) _ _ h hm hi (by omega) k24 hL (by omega) (by omega) nx
      by_cases e11 : x = 11
      · subst e11
        refine j_tabIn (off := 482) (tgt := 515) d_L_law_33 (by decide) (by decide) (by decide) (by decide) ?_
        exact l_term L xs M S k (7 * k) _ _ h hm hi (by omega) k24 hL (by omega) (by omega) nx
      by_cases e12 : x = 12
      · subst e12
        refine j_tabIn (off := 505) (tgt := 538) d_L_law_33 (by decide) (by decide) (by decide) (by decide) ?_
        exact l_configuration L xs M S k (7 * k) _ _ h hm hi (by omega) k24 hL (by omega) (by omega) nx
      by_cases e13 : x = 13
      · subst e13
        refine j_tabIn (off := 528) (tgt := 561) d_L_law_33 (by decide) (by decide) (by decide) (by decide) ?_
        exact l_owner L xs M S k (7 * k) _ _ h hm hi (by omega) k24 hL (by omega) (by omega) nx
      by_cases e14 : x = 14
      · subst e14
        refine j_tabIn (off := 571) (tgt := 604) d_L_law_33 (by decide) (by decide) (by decide) (by decide) ?_
        exact l_condition L xs M S k (7 * k) _ _ h hm hi (by omega) k24 hL (by omega) (by omega) nx
      by_cases e15 : x = 15
      · subst e15
        refine j_tabIn (off := 604) (tgt := 637) d_L_law_33 (by decide) (by decide) (by decide) (by decide) ?_
        exact l_value L xs M S k (7 * k) _ _ h hm hi (by omega) k24 hL (by omega) (by omega) nx
      by_cases e16 : x = 16
      · subst e16
        refine j_tabIn (off := 637) (tgt := 670) d_L_law_33 (by decide) (by decide) (by decide) (by decide) ?_
        exact l_latest L xs M S k (7 * k) _ _ h hm hi (by omega) k24 hL (by omega) (by omega) nx
      by_cases e17 : x = 17
      · subst e17
        refine j_tabIn (off := 680) (tgt := 713) d_L_law_33 (by decide) (by decide) (by decide) (by decide) ?_
        exact l_answer L xs M S k (7 * k) _ _ h hm hi (by omega) k24 hL (by omega) (by omega) nx
      refine j_tabOut (tgt := 756) d_L_law_33 ?_ (by decide) ?_
      · have n0 : ∀ y : Int32, ¬ x = y → x.toInt ≠ y.toInt := fun y h q => h (Int32.toInt_inj.mp q)
        have z0 := n0 0 e0
        rw [show (0 : Int32).toInt = 0 by decide] at z0
        have z1 := n0 1 e1
        rw [show (1 : Int32).toInt = 1 by decide] at z1
        have z2 := n0 2 e2
        rw [show (2 : Int32).toInt = 2 by decide] at z2
        have z3 := n0 3 e3
        rw [show (3 : Int32).toInt = 3 by decide] at z3
        have z4 := n0 4 e4
        rw [show (4 : Int32).toInt = 4 by decide] at z4
        have z5 := n0 5 e5
        rw [show (5 : Int32).toInt = 5 by decide] at z5
        have z6 := n0 6 e6
        rw [show (6 : Int32).toInt = 6 by decide] at z6
        have z7 := n0 7 e7
        rw [show (7 : Int32).toInt = 7 by decide] at z7
        have z8 := n0 8 e8
        rw [show (8 : Int32).toInt = 8 by decide] at z8
        have z9 := n0 9 e9
        rw [show (9 : Int32).toInt = 9 by decide] at z9
        have z10 := n0 10 e10
        rw [show (10 : Int32).toInt = 10 by decide] at z10
        have z11 := n0 11 e11
        rw [show (11 : Int32).toInt = 11 by decide] at z11
        have z12 := n0 12 e12
        rw [show (12 : Int32).toInt = 12 by decide] at z12
        have z13 := n0 13 e13
        rw [show (13 : Int32).toInt = 13 by decide] at z13
        have z14 := n0 14 e14
        rw [show (14 : Int32).toInt = 14 by decide] at z14
        have z15 := n0 15 e15
        rw [show (15 : Int32).toInt = 15 by decide] at z15
        have z16 := n0 16 e16
        rw [show (16 : Int32).toInt = 16 by decide] at z16
        have z17 := n0 17 e17
        rw [show (17 : Int32).toInt = 17 by decide] at z17
        omega
      · exact j_widen (by omega) (by omega) (nx M S h hm (hi.up (by omega)))
set_option maxRecDepth 20000 in
set_option maxHeartbeats 1000000 in
theorem law_walk (L : Nat) (xs : Nat → Int32) (hL : L ≤ 3584) : aJ (aXl L xs) m_L_law 7 600000 7302250 QL 0 0 0 [some (.float 0), none, none, none] [] Me := by
  have hz := A3_sz
  have hc : cR (fMm (mN A3 11 0) 332) S0 := cR_0
  have hm : mRep (fMm (mN A3 11 0) 332) S0 := mRep_0
  have kS := k_S_init
  generalize A3 = A at *
  refine j_new d_L_law_0 n_L_7 (by decide) (by decide) (by decide) ?_
  change aJ (aXl L xs) m_L_law 7 600000 7302250 QL _ _ _ _ [.ref 0] A0
  refine j_dup d_L_law_3 ?_
  refine j_callI (vs := []) d_L_law_4 w18 w19 w1 w20 rfl rfl y_S_init (by decide) (by decide) (kS) rfl (Nat.le_of_ble_eq_true rfl) (by decide) (by decide) (fun M1 r1 hq1 => ?_)
  obtain ⟨rfl, rfl⟩ := hq1
  refine j_astore_n d_L_law_7 (by decide) ?_
  refine j_new d_L_law_8 n_L_10 (by decide) (by decide) (by decide) ?_
  rw [hz]
  refine j_dup d_L_law_11 ?_
  refine j_callI (vs := []) d_L_law_12 w629 w630 w7 w631 rfl rfl y_M_init (by decide) (by decide) (k_M_init (mN M1 11 0) 332 (by have q := tO.new M1 11 0; rw [hz] at q; exact q)) rfl (Nat.le_of_ble_eq_true rfl) (by decide) (by decide) (fun M2 r2 hq2 => ?_)
  obtain ⟨rfl, rfl⟩ := hq2
  refine j_astore_n d_L_law_15 (by decide) ?_
  refine j_iconst (v := 0) d_L_law_16 (by decide) ?_
  refine j_istore_n d_L_law_17 (by decide) ?_
  -- at 18
  exact law_loop L xs hL 513 0 _ S0 (by decide) hc hm sInv_0
