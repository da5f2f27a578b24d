theorem shV.congr {M : aM} {h : Nat} {v v' : Nat → Nat} (hv : shV M h v) (e : ∀ i, i < 8 → v i = v' i) : shV M h v' :=
  ⟨fun i hi => by rw [← e i (by omega)]; exact hv.1 i hi, fun i hi => by rw [← e (2 + i) (by omega)]; exact hv.2.1 i hi, fun i hi => by rw [← e (5 + i) (by omega)]; exact hv.2.2 i hi⟩
theorem gpR_shard {M M1 : aM} {n s c : Nat} {G : aGp} {v : Nat → Nat} (h : cSh M) (h3 : 3 ≤ n) (hn : n < 12) (hg : gpR M n G) (hs : s < 8) (ho : oI M M1 (inS (nd n + 3 + 4 * s))) (hc : mI M1 (nd n + 3 + 4 * s) 0 = nI c) (hv : c = 1 ∨ c = 3 → shV M1 (nd n + 3 + 4 * s) v) :
    gpR M1 n (G.1, G.2.1, fu G.2.2.1 s c, fu G.2.2.2 s v) ∧ chg M M1 n := by
  have c0 := oI_chg h h3 hn (ho.mono (fun a z => by unfold inS at z; unfold inN; omega))
  obtain ⟨a1, ⟨q, a2, a3⟩, a4⟩ := hg
  refine ⟨⟨(ho.2.2 (nd n) (by unfold inS; omega) 7).trans a1, ⟨q, ho.R a2, a3.st c0.1⟩, fun j hj => ?_⟩, c0⟩
  show mI M1 (nd n + 3 + 4 * j) 0 = nI (fu G.2.2.1 s c j) ∧ (fu G.2.2.1 s c j = 1 ∨ fu G.2.2.1 s c j = 3 → shV M1 (nd n + 3 + 4 * j) (fu G.2.2.2 s v j))
  by_cases e : j = s
  · subst e
    rw [fu_s, fu_s]
    exact ⟨hc, hv⟩
  · rw [fu_n _ _ e, fu_n _ _ e]
    obtain ⟨b1, b2⟩ := a4 j hj
    have ns : ∀ i, i < 4 → ¬ inS (nd n + 3 + 4 * s) (nd n + 3 + 4 * j + i) := fun i hi z => by unfold inS at z; omega
    exact ⟨(ho.2.2 (nd n + 3 + 4 * j) (ns 0 (by omega)) 0).trans b1, fun z => shV_o ho (ns 1 (by omega)) (ns 2 (by omega)) (ns 3 (by omega)) (b2 z)⟩
theorem fu_id {α : Type} (f : Nat → α) (s : Nat) : fu f s (f s) = f := by
  funext i
  by_cases e : i = s
  · rw [e, fu_s]
  · rw [fu_n _ _ e]
theorem gp_4 {g : Nat} {G : aGp} {E : Nat → Nat} (e : E 1 = 4) (h : gSet G ∧ E 2 = G.1 + 1) : gpStep g G E = gpCf g G E := by
  classical
  rw [gpStep_def, if_pos e, if_pos h]
theorem gp_4n {g : Nat} {G : aGp} {E : Nat → Nat} (e : E 1 = 4) (h : ¬ (gSet G ∧ E 2 = G.1 + 1)) : gpStep g G E = G := by
  classical
  rw [gpStep_def, if_pos e, if_neg h]
theorem gp_5 {g : Nat} {G : aGp} {E : Nat → Nat} (e : E 1 = 5) : gpStep g G E = if G.2.2.1 (E 5 % 8) = 1 ∧ G.2.2.2 (E 5 % 8) (2 + E 2) < E 3 then gpRq G E else G := by
  classical
  rw [gpStep_def, if_neg (by omega), if_pos e]
theorem gp_6 {g : Nat} {G : aGp} {E : Nat → Nat} (e : E 1 = 6) : gpStep g G E = if E 3 = G.1 ∧ G.2.2.1 (E 2) = 2 then gpIn G E else G := by
  classical
  rw [gpStep_def, if_neg (by omega), if_neg (by omega), if_pos e]
theorem gp_7 {g : Nat} {G : aGp} {E : Nat → Nat} (e : E 1 = 7) : gpStep g G E = if E 3 = G.1 ∧ G.2.2.1 (E 2) = 3 then gpDl G E else G := by
  classical
  rw [gpStep_def, if_neg (by omega), if_neg (by omega), if_neg (by omega), if_pos e]
theorem gp_o {g : Nat} {G : aGp} {E : Nat → Nat} (e : E 1 < 4) : gpStep g G E = G := by
  classical
  rw [gpStep_def, if_neg (by omega), if_neg (by omega), if_neg (by omega), if_neg (by omega)]
theorem gpV_step {g : Nat} {G : aGp} {E : Nat → Nat} (h : gpV g G) (hE : eV E) (hg : 1 ≤ g) : gpV g (gpStep g G E) := by
  obtain ⟨h1, h2⟩ := h
  obtain ⟨-, e7, -, -, e4, e5, e6, e7'⟩ := hE
  by_cases k4 : E 1 = 4
  · by_cases k : gSet G ∧ E 2 = G.1 + 1
    · rw [gp_4 k4 k]
      obtain ⟨f1, f2⟩ := e4 k4
      refine ⟨by show G.1 + 1 < 16; omega, fun s hs => ?_⟩
      obtain ⟨a1, a2, a3, a4⟩ := h2 s hs
      have a5 := k.1 s hs
      have x1 : (gpCf g G E).2.1 s = E (7 + s) := if_pos hs
      have x2 : (gpCf g G E).2.2.1 s = hC g (G.2.1 s) (E (7 + s)) (G.2.2.1 s) := if_pos hs
      rw [x1, x2]
      refine ⟨f2 s hs, fun q => ?_, fun q => ?_, fun i hi => ?_⟩
      · unfold hC
        by_cases z : G.2.1 s = g
        · rw [if_neg (fun y => y.2 z), if_neg (fun y => y.1 q)]; exact a2 z
        · rw [if_pos ⟨q, z⟩]; split <;> omega
      · unfold hC
        rw [if_neg (fun y => q y.1)]
        by_cases z : G.2.1 s = g
        · rw [if_pos ⟨q, z⟩]; omega
        · rw [if_neg (fun y => z y.2)]; exact a3 z
      · show (if s < 8 ∧ E (7 + s) = g ∧ G.2.1 s ≠ g then (fun _ => 0) else G.2.2.2 s) i < 1000
        split
        · exact (by decide : 0 < 1000)
        · exact a4 i hi
    · rw [gp_4n k4 k]; exact ⟨h1, h2⟩
  · by_cases k5 : E 1 = 5
    · rw [gp_5 k5]
      split
      · obtain ⟨f1, f2, f3, f4, f5, f6⟩ := e5 k5
        refine ⟨h1, fun s hs => ?_⟩
        obtain ⟨a1, a2, a3, a4⟩ := h2 s hs
        refine ⟨a1, a2, a3, fun i hi => ?_⟩
        show fu G.2.2.2 (E 5 % 8) (svH (G.2.2.2 (E 5 % 8)) E) s i < 1000
        by_cases z : s = E 5 % 8
        · subst z
          rw [fu_s]
          have hN : svN (G.2.2.2 (E 5 % 8)) E < 1000 := by
            unfold svN
            split
            · exact a4 _ (by omega)
            · split
              · omega
              · omega
          unfold svH
          by_cases y1 : i = 5 + E 2
          · rw [y1, fu_s]; exact hN
          · rw [fu_n _ _ y1]
            by_cases y2 : i = 2 + E 2
            · rw [y2, fu_s]; omega
            · rw [fu_n _ _ y2]
              by_cases y3 : i = E 5 / 8
              · rw [y3, fu_s]; exact hN
              · rw [fu_n _ _ y3]; exact a4 i hi
        · rw [fu_n _ _ z]; exact a4 i hi
      · exact ⟨h1, h2⟩
    · by_cases k6 : E 1 = 6
      · rw [gp_6 k6]
        split
        · rename_i k
          obtain ⟨f1, f2, f3⟩ := e6 k6
          refine ⟨h1, fun s hs => ?_⟩
          obtain ⟨a1, a2, a3, a4⟩ := h2 s hs
          show G.2.1 s ≤ 3 ∧ (G.2.1 s = g → fu G.2.2.1 (E 2) 1 s = 1 ∨ fu G.2.2.1 (E 2) 1 s = 2) ∧ (G.2.1 s ≠ g → fu G.2.2.1 (E 2) 1 s = 0 ∨ fu G.2.2.1 (E 2) 1 s = 3) ∧ ∀ i, i < 8 → fu G.2.2.2 (E 2) (fun i => if i < 8 then E (7 + i) else G.2.2.2 (E 2) i) s i < 1000
          by_cases z : s = E 2
          · subst z
            rw [fu_s, fu_s]
            refine ⟨a1, fun _ => Or.inl rfl, fun q => ?_, fun i hi => ?_⟩
            · have := a3 q; omega
            · show (if i < 8 then E (7 + i) else _) < 1000
              rw [if_pos hi]; exact f3 i hi
          · rw [fu_n _ _ z, fu_n _ _ z]; exact ⟨a1, a2, a3, a4⟩
        · exact ⟨h1, h2⟩
      · by_cases k7 : E 1 = 7
        · rw [gp_7 k7]
          split
          · rename_i k
            refine ⟨h1, fun s hs => ?_⟩
            obtain ⟨a1, a2, a3, a4⟩ := h2 s hs
            show G.2.1 s ≤ 3 ∧ (G.2.1 s = g → fu G.2.2.1 (E 2) 0 s = 1 ∨ fu G.2.2.1 (E 2) 0 s = 2) ∧ (G.2.1 s ≠ g → fu G.2.2.1 (E 2) 0 s = 0 ∨ fu G.2.2.1 (E 2) 0 s = 3) ∧ ∀ i, i < 8 → G.2.2.2 s i < 1000
            by_cases z : s = E 2
            · subst z
              rw [fu_s]
              refine ⟨a1, fun q => ?_, fun _ => Or.inl rfl, a4⟩
              have := a2 q; omega
            · rw [fu_n _ _ z]; exact ⟨a1, a2, a3, a4⟩
          · exact ⟨h1, h2⟩
        · rw [gp_o (by omega)]; exact ⟨h1, h2⟩
theorem gpV_grp {g : Nat} {lg : aLg} (hg : 1 ≤ g) : ∀ K, (∀ k, k < K → eV (lg k)) → gpV g (grp g lg K)
  | 0, _ => ⟨show 0 < 16 by omega, fun s _ => ⟨show 0 ≤ 3 by omega, fun q => by have q' : 0 = g := q; omega, fun _ => Or.inl rfl, fun i _ => show 0 < 1000 by omega⟩⟩
  | K + 1, h => gpV_step (gpV_grp hg K (fun k hk => h k (by omega))) (h K (by omega)) hg

set_option maxRecDepth 20000 in
set_option maxHeartbeats 1000000 in
theorem k_F_chT0 (M : aM) (n : Nat) (G : aGp) (h : cSh M) (h3 : 3 ≤ n) (hn : n < 12) (hg : gpR M n G) (hV : gpV (n / 3) G) (e q c : Nat) (he : tO M e 7) (r1 : mI M e 1 = nI c) (r2 : mR M e 2 = some q) (Q : aM → Option Value → Prop) (hk : aK m_T_adopt 2 0 0 M [.ref (nd n), .int (nI c), .ref q] Q) (hQ : ∀ M1 r, Q M1 r → r = none) : aK m_F_changeStore 3 0 0 M [.ref e, .ref (nd n)] Q := by
  refine aK.of (by decide) (Nat.le_of_ble_eq_true rfl) ?_
  have hN := (cSh_T h h3 hn).1
  obtain ⟨st0, st1, st2, st3⟩ := cSh_st h h3 hn
  refine j_aload_n d_F_changeStore_0 rfl ?_
  refine j_aload_n d_F_changeStore_1 rfl ?_
  refine j_geti d_F_changeStore_2 he f_F_7_F rfl (by decide) ?_
  refine j_eqi r1 ?_
  refine j_aload_n d_F_changeStore_5 rfl ?_
  refine j_getR d_F_changeStore_6 he f_F_13_F rfl (by decide) r2 ?_
  refine j_callV (vs := [_, _]) d_F_changeStore_9 hN (by decide) rfl w374 w375 w5 w377 w376 y_T_adopt (by decide) (by decide) (hk) rfl (Nat.le_of_ble_eq_true rfl) (by decide) (by decide) (fun M1 r1_ hq1 => ?_)
  have hr1 := hQ M1 r1_ hq1
  subst hr1
  refine j_return d_F_changeStore_12 rfl hq1 (by decide) (by decide)
theorem k_F_chT (M : aM) (n : Nat) (G : aGp) (h : cSh M) (h3 : 3 ≤ n) (hn : n < 12) (hg : gpR M n G) (hV : gpV (n / 3) G) (e : Nat) (E : Nat → Nat) (hE : eV E) (e1 : E 1 = 4) (he : tO M e 7) (r1 : mI M e 1 = nI (E 2)) (q : Nat) (r2 : mR M e 2 = some q) (hq : cfO M q (fun s => E (7 + s))) : aK m_F_changeStore 3 0 0 M [.ref e, .ref (nd n)] (fun M1 r => r = none ∧ gpR M1 n (gpStep (n / 3) G E) ∧ chg M M1 n) := by
  obtain ⟨f1, f2⟩ := hE.2.2.2.2.1 e1
  refine k_F_chT0 M n G h h3 hn hg hV e q (E 2) he r1 r2 _ ?_ (fun M1 r z => z.1)
  by_cases k : gSet G ∧ E 2 = G.1 + 1
  · refine (k_adopt M n G h h3 hn hg hV (E 2) q E f1 hq f2 k.2 k.1).weaken ?_
    rintro M1 r ⟨rfl, u1, u2⟩
    exact ⟨rfl, by rw [gp_4 e1 k]; exact u1, u2⟩
  · refine (k_adopt_no M n G h h3 hn hg hV (E 2) q E f1 hq f2 ?_).weaken ?_
    · by_cases z : E 2 = G.1 + 1
      · exact Or.inr (fun y => k ⟨y, z⟩)
      · exact Or.inl z
    · rintro M1 r ⟨rfl, rfl⟩
      exact ⟨rfl, by rw [gp_4n e1 k]; exact hg, chg.rf h⟩
set_option maxRecDepth 20000 in
set_option maxHeartbeats 1000000 in
theorem k_R_chT0 (M : aM) (n : Nat) (G : aGp) (h : cSh M) (h3 : 3 ≤ n) (hn : n < 12) (hg : gpR M n G) (hV : gpV (n / 3) G) (e : Nat) (E : Nat → Nat) (hE : eV E) (he : tO M e 8) (r4 : mI M e 4 = nI (E 5)) (e5 : E 5 < 16) (Q : aM → Option Value → Prop) (hk : aK m_H_serve 1 0 0 M [.ref (nd n + 3 + 4 * (E 5 % 8)), .ref e] Q) (hQ : ∀ M1 r, Q M1 r → r = none) : aK m_R_changeStore 3 0 0 M [.ref e, .ref (nd n)] Q := by
  refine aK.of (by decide) (Nat.le_of_ble_eq_true rfl) ?_
  have hN := (cSh_T h h3 hn).1
  obtain ⟨st0, st1, st2, st3⟩ := cSh_st h h3 hn
  have h8 : E 5 % 8 < 8 := Nat.mod_lt _ (by decide)
  obtain ⟨d1, d2⟩ := st3 (E 5 % 8) h8
  refine j_aload_n d_R_changeStore_0 rfl ?_
  refine j_getR d_R_changeStore_1 hN f_R_25_T rfl (by decide) st1 ?_
  refine j_aload_n d_R_changeStore_4 rfl ?_
  refine j_geti d_R_changeStore_5 he f_R_19_R rfl (by decide) ?_
  refine j_eqi r4 ?_
  refine j_callSN (vs := [_]) d_R_changeStore_8 nw10 w405 w1 w406 y_S_shardOf (by decide) (by decide) (k_shardOf M (nI (E 5))) rfl (Nat.le_of_ble_eq_true rfl) (by decide) (by decide) (fun M1 r1 hq1 => ?_)
  obtain ⟨rfl, rfl⟩ := hq1
  rw [show nI (E 5) - nI (E 5) / 8 * 8 = nI (E 5 % 8) from pk_rem (d := 8) (by omega) (by decide) (by decide)]
  refine j_aaldR d_R_changeStore_11 st2 (by decide) ts_107 (aIx.n h8 (by decide)) d1 ?_
  refine j_aload_n d_R_changeStore_12 rfl ?_
  refine j_callV (vs := [_]) d_R_changeStore_13 d2.1 (by decide) rfl w407 w408 w6 w410 w409 y_H_serve (by decide) (by decide) (hk) rfl (Nat.le_of_ble_eq_true rfl) (by decide) (by decide) (fun M2 r2_ hq2 => ?_)
  have hr2 := hQ M2 r2_ hq2
  subst hr2
  refine j_return d_R_changeStore_16 rfl hq2 (by decide) (by decide)
theorem k_R_chT (M : aM) (n : Nat) (G : aGp) (h : cSh M) (h3 : 3 ≤ n) (hn : n < 12) (hg : gpR M n G) (hV : gpV (n / 3) G) (e : Nat) (E : Nat → Nat) (hE : eV E) (e1 : E 1 = 5) (he : tO M e 8) (r1 : mI M e 1 = nI (E 2)) (r2 : mI M e 2 = nI (E 3)) (r3 : mI M e 3 = nI (E 4)) (r4 : mI M e 4 = nI (E 5)) (r5 : mI M e 5 = nI (E 6)) : aK m_R_changeStore 3 0 0 M [.ref e, .ref (nd n)] (fun M1 r => r = none ∧ gpR M1 n (gpStep (n / 3) G E) ∧ chg M M1 n) := by
  obtain ⟨f1, f2, f3, f4, f5, f6⟩ := hE.2.2.2.2.2.1 e1
  have h8 : E 5 % 8 < 8 := Nat.mod_lt _ (by decide)
  obtain ⟨d1, d2⟩ := (cSh_st h h3 hn).2.2.2 (E 5 % 8) h8
  obtain ⟨b1, b2⟩ := hg.2.2 (E 5 % 8) h8
  obtain ⟨v1, v2, v3, v4⟩ := hV.2 (E 5 % 8) h8
  have vc := hV.c h8
  refine k_R_chT0 M n G h h3 hn hg hV e E hE he r4 f5 _ ?_ (fun M1 r z => z.1)
  have ne : ∀ j, tA M (nd n + 3 + 4 * (E 5 % 8) + j) 100 2 ∨ tA M (nd n + 3 + 4 * (E 5 % 8) + j) 100 3 → e ≠ nd n + 3 + 4 * (E 5 % 8) + j := fun j z q => by
    rcases z with z | z
    · exact absurd (he.2.symm.trans (q ▸ z.2.1)) (by decide)
    · exact absurd (he.2.symm.trans (q ▸ z.2.1)) (by decide)
  by_cases k : G.2.2.1 (E 5 % 8) = 1 ∧ G.2.2.2 (E 5 % 8) (2 + E 2) < E 3
  · refine (k_serve M _ e E d2 he r1 r2 r3 r4 r5 f1 (by omega) f4 f5 f6 _ b1 (by omega) (G.2.2.2 (E 5 % 8)) k.1 (b2 (Or.inl k.1)) v4 k.2 (ne 1 (Or.inl d2.2.2.2.2.1)) (ne 2 (Or.inr d2.2.2.2.2.2.1)) (ne 3 (Or.inr d2.2.2.2.2.2.2))).weaken ?_
    rintro M1 r ⟨rfl, u1, u2, u3⟩
    obtain ⟨w1, w2⟩ := gpR_shard h h3 hn hg h8 u2 (u3.trans b1) (fun _ => u1)
    rw [fu_id] at w1
    refine ⟨rfl, ?_, w2⟩
    rw [gp_5 e1, if_pos k]
    exact w1
  · refine (k_serve_no M _ e E d2 he r1 r2 r3 r4 r5 f1 (by omega) f4 f5 f6 _ b1 (by omega) ?_).weaken ?_
    · by_cases z : G.2.2.1 (E 5 % 8) = 1
      · exact Or.inr ⟨G.2.2.2 (E 5 % 8) (2 + E 2), (b2 (Or.inl z)).2.1 (E 2) f1, by have : ¬ G.2.2.2 (E 5 % 8) (2 + E 2) < E 3 := fun y => k ⟨z, y⟩; omega, v4 _ (by omega)⟩
      · exact Or.inl z
    · rintro M1 r ⟨rfl, rfl⟩
      exact ⟨rfl, by rw [gp_5 e1, if_neg k]; exact hg, chg.rf h⟩
set_option maxRecDepth 20000 in
set_option maxHeartbeats 1000000 in
theorem k_I_chT (M : aM) (n : Nat) (G : aGp) (h : cSh M) (h3 : 3 ≤ n) (hn : n < 12) (hg : gpR M n G) (hV : gpV (n / 3) G) (e : Nat) (E : Nat → Nat) (hE : eV E) (h8 : E 2 < 8) (h16 : E 3 < 16) (e1 : E 1 = 6) (he : tO M e 9) (r1 : mI M e 1 = nI (E 2)) (r2 : mI M e 2 = nI (E 3)) (hc : Nat) (h345 : 345 ≤ hc) (r3 : mR M e 3 = some hc) (ct : shT M hc) (cv : shV M hc (fun i => E (7 + i))) : aK m_I_changeStore 2 0 0 M [.ref e, .ref (nd n)] (fun M1 r => r = none ∧ gpR M1 n (gpStep (n / 3) G E) ∧ chg M M1 n) := by
  refine aK.of (by decide) (Nat.le_of_ble_eq_true rfl) ?_
  have hN := (cSh_T h h3 hn).1
  obtain ⟨st0, st1, st2, st3⟩ := cSh_st h h3 hn
  obtain ⟨d1, d2⟩ := st3 (E 2) h8
  obtain ⟨b1, b2⟩ := hg.2.2 (E 2) h8
  have vc := hV.c h8
  have hn7 := hg.1
  have hv16 := hV.1
  refine j_aload_n d_I_changeStore_0 rfl ?_
  refine j_getR d_I_changeStore_1 hN f_I_31_T rfl (by decide) st1 ?_
  refine j_aload_n d_I_changeStore_4 rfl ?_
  refine j_geti d_I_changeStore_5 he f_I_20_I rfl (by decide) ?_
  refine j_eqi r1 ?_
  refine j_aaldR d_I_changeStore_8 st2 (by decide) ts_107 (aIx.n h8 (by decide)) d1 ?_
  refine j_astore_n d_I_changeStore_9 (by decide) ?_
  refine j_aload_n d_I_changeStore_10 rfl ?_
  refine j_geti d_I_changeStore_11 d2.1 f_I_37_H rfl (by decide) ?_
  refine j_eqi b1 ?_
  refine j_iconst (v := 2) d_I_changeStore_14 (by decide) ?_
  refine j_icmp_ne (tgt := 42) d_I_changeStore_15 (by decide) (fun h15 => ?_) (fun h15 => ?_)
  · have k15 := i_ne (b := 2) (by omega) (by decide) h15
    have hno : gpStep (n / 3) G E = G := by rw [gp_6 e1, if_neg (fun z => k15 z.2)]
    refine j_return d_I_changeStore_42 rfl ?_ (by decide) (by decide)
    first
      | exact ⟨rfl, by rw [hno]; exact hg, chg.rf h⟩
      | (obtain ⟨w1, w2⟩ := gpR_shard (c := 1) (v := fun i => if i < 8 then E (7 + i) else G.2.2.2 (E 2) i) (M1 := sI (cpy M hc (nd n + 3 + 4 * E 2)) (nd n + 3 + 4 * E 2) 0 1) h h3 hn hg h8 (o1.sI ⟨Nat.le_refl _, by omega⟩) (by rw [mm_I_sI, if_pos ⟨rfl, rfl⟩]; rfl) (fun _ => shV_c ((cpy_v cv (Or.inr (by omega))).congr (fun i hi => by rw [if_pos hi])))
         refine ⟨rfl, ?_, w2⟩
         rw [gp_6 e1, if_pos ⟨k26.symm, k15⟩]
         exact w1)
  · have k15 := i_eq (b := 2) (by omega) (by decide) h15
    refine j_aload_n d_I_changeStore_18 rfl ?_
    refine j_geti d_I_changeStore_19 hN f_I_40_T rfl (by decide) ?_
    refine j_eqi hn7 ?_
    refine j_aload_n d_I_changeStore_22 rfl ?_
    refine j_geti d_I_changeStore_23 he f_I_24_I rfl (by decide) ?_
    refine j_eqi r2 ?_
    refine j_icmp_ne (tgt := 42) d_I_changeStore_26 (by decide) (fun h26 => ?_) (fun h26 => ?_)
    · have k26 := i_ne (by omega) (by omega) h26
      have hno : gpStep (n / 3) G E = G := by rw [gp_6 e1, if_neg (fun z => k26 z.1.symm)]
      refine j_return d_I_changeStore_42 rfl ?_ (by decide) (by decide)
      first
        | exact ⟨rfl, by rw [hno]; exact hg, chg.rf h⟩
        | (obtain ⟨w1, w2⟩ := gpR_shard (c := 1) (v := fun i => if i < 8 then E (7 + i) else G.2.2.2 (E 2) i) (M1 := sI (cpy M hc (nd n + 3 + 4 * E 2)) (nd n + 3 + 4 * E 2) 0 1) h h3 hn hg h8 (o1.sI ⟨Nat.le_refl _, by omega⟩) (by rw [mm_I_sI, if_pos ⟨rfl, rfl⟩]; rfl) (fun _ => shV_c ((cpy_v cv (Or.inr (by omega))).congr (fun i hi => by rw [if_pos hi])))
           refine ⟨rfl, ?_, w2⟩
           rw [gp_6 e1, if_pos ⟨k26.symm, k15⟩]
           exact w1)
    · have k26 := i_eq (by omega) (by omega) h26
      refine j_aload_n d_I_changeStore_29 rfl ?_
      refine j_aload_n d_I_changeStore_30 rfl ?_
      refine j_getR d_I_changeStore_31 he f_I_14_I rfl (by decide) r3 ?_
      refine j_callV (vs := [_]) d_I_changeStore_34 d2.1 (by decide) rfl w396 w397 w6 w399 w398 y_H_copyContents (by decide) (by decide) (k_copyContents M _ hc d2 ct) rfl (Nat.le_of_ble_eq_true rfl) (by decide) (by decide) (fun M1 r1 hq1 => ?_)
      obtain ⟨rfl, rfl⟩ := hq1
      have hi35 := nd_hi3 hn h3
      have o1 := cpy_o M hc (nd n + 3 + 4 * E 2)
      refine j_aload_n d_I_changeStore_37 rfl ?_
      refine j_iconst (v := 1) d_I_changeStore_38 (by decide) ?_
      refine j_puti d_I_changeStore_39 (o1.tO d2.1) p_I_37_H rfl (by decide) rfl rfl ?_
      refine j_return d_I_changeStore_42 rfl ?_ (by decide) (by decide)
      first
        | exact ⟨rfl, by rw [hno]; exact hg, chg.rf h⟩
        | (obtain ⟨w1, w2⟩ := gpR_shard (c := 1) (v := fun i => if i < 8 then E (7 + i) else G.2.2.2 (E 2) i) (M1 := sI (cpy M hc (nd n + 3 + 4 * E 2)) (nd n + 3 + 4 * E 2) 0 1) h h3 hn hg h8 (o1.sI ⟨Nat.le_refl _, by omega⟩) (by rw [mm_I_sI, if_pos ⟨rfl, rfl⟩]; rfl) (fun _ => shV_c ((cpy_v cv (Or.inr (by omega))).congr (fun i hi => by rw [if_pos hi])))
           refine ⟨rfl, ?_, w2⟩
           rw [gp_6 e1, if_pos ⟨k26.symm, k15⟩]
           exact w1)
set_option maxRecDepth 20000 in
set_option maxHeartbeats 1000000 in
theorem k_D_chT (M : aM) (n : Nat) (G : aGp) (h : cSh M) (h3 : 3 ≤ n) (hn : n < 12) (hg : gpR M n G) (hV : gpV (n / 3) G) (e : Nat) (E : Nat → Nat) (hE : eV E) (h8 : E 2 < 8) (h16 : E 3 < 16) (e1 : E 1 = 7) (he : tO M e 10) (r1 : mI M e 1 = nI (E 2)) (r2 : mI M e 2 = nI (E 3)) : aK m_D_changeStore 2 0 0 M [.ref e, .ref (nd n)] (fun M1 r => r = none ∧ gpR M1 n (gpStep (n / 3) G E) ∧ chg M M1 n) := by
  refine aK.of (by decide) (Nat.le_of_ble_eq_true rfl) ?_
  have hN := (cSh_T h h3 hn).1
  obtain ⟨st0, st1, st2, st3⟩ := cSh_st h h3 hn
  obtain ⟨d1, d2⟩ := st3 (E 2) h8
  obtain ⟨b1, b2⟩ := hg.2.2 (E 2) h8
  have vc := hV.c h8
  have hn7 := hg.1
  have hv16 := hV.1
  refine j_aload_n d_D_changeStore_0 rfl ?_
  refine j_getR d_D_changeStore_1 hN f_D_18_T rfl (by decide) st1 ?_
  refine j_aload_n d_D_changeStore_4 rfl ?_
  refine j_geti d_D_changeStore_5 he f_D_9_D rfl (by decide) ?_
  refine j_eqi r1 ?_
  refine j_aaldR d_D_changeStore_8 st2 (by decide) ts_107 (aIx.n h8 (by decide)) d1 ?_
  refine j_astore_n d_D_changeStore_9 (by decide) ?_
  refine j_aload_n d_D_changeStore_10 rfl ?_
  refine j_geti d_D_changeStore_11 d2.1 f_D_24_H rfl (by decide) ?_
  refine j_eqi b1 ?_
  refine j_iconst (v := 3) d_D_changeStore_14 (by decide) ?_
  refine j_icmp_ne (tgt := 34) d_D_changeStore_15 (by decide) (fun h15 => ?_) (fun h15 => ?_)
  · have k15 := i_ne (b := 3) (by omega) (by decide) h15
    have hno : gpStep (n / 3) G E = G := by rw [gp_7 e1, if_neg (fun z => k15 z.2)]
    refine j_return d_D_changeStore_34 rfl ?_ (by decide) (by decide)
    first
      | exact ⟨rfl, by rw [hno]; exact hg, chg.rf h⟩
      | (obtain ⟨w1, w2⟩ := gpR_shard (c := 0) (v := G.2.2.2 (E 2)) (M1 := sI M (nd n + 3 + 4 * E 2) 0 0) h h3 hn hg h8 ((oI.rf M _).sI ⟨Nat.le_refl _, by omega⟩) (by rw [mm_I_sI, if_pos ⟨rfl, rfl⟩]; rfl) (fun z => by omega)
         rw [fu_id] at w1
         refine ⟨rfl, ?_, w2⟩
         rw [gp_7 e1, if_pos ⟨k26.symm, k15⟩]
         exact w1)
  · have k15 := i_eq (b := 3) (by omega) (by decide) h15
    refine j_aload_n d_D_changeStore_18 rfl ?_
    refine j_geti d_D_changeStore_19 hN f_D_29_T rfl (by decide) ?_
    refine j_eqi hn7 ?_
    refine j_aload_n d_D_changeStore_22 rfl ?_
    refine j_geti d_D_changeStore_23 he f_D_15_D rfl (by decide) ?_
    refine j_eqi r2 ?_
    refine j_icmp_ne (tgt := 34) d_D_changeStore_26 (by decide) (fun h26 => ?_) (fun h26 => ?_)
    · have k26 := i_ne (by omega) (by omega) h26
      have hno : gpStep (n / 3) G E = G := by rw [gp_7 e1, if_neg (fun z => k26 z.1.symm)]
      refine j_return d_D_changeStore_34 rfl ?_ (by decide) (by decide)
      first
        | exact ⟨rfl, by rw [hno]; exact hg, chg.rf h⟩
        | (obtain ⟨w1, w2⟩ := gpR_shard (c := 0) (v := G.2.2.2 (E 2)) (M1 := sI M (nd n + 3 + 4 * E 2) 0 0) h h3 hn hg h8 ((oI.rf M _).sI ⟨Nat.le_refl _, by omega⟩) (by rw [mm_I_sI, if_pos ⟨rfl, rfl⟩]; rfl) (fun z => by omega)
           rw [fu_id] at w1
           refine ⟨rfl, ?_, w2⟩
           rw [gp_7 e1, if_pos ⟨k26.symm, k15⟩]
           exact w1)
    · have k26 := i_eq (by omega) (by omega) h26
      refine j_aload_n d_D_changeStore_29 rfl ?_
      refine j_iconst (v := 0) d_D_changeStore_30 (by decide) ?_
      refine j_puti d_D_changeStore_31 d2.1 p_D_24_H rfl (by decide) rfl rfl ?_
      refine j_return d_D_changeStore_34 rfl ?_ (by decide) (by decide)
      first
        | exact ⟨rfl, by rw [hno]; exact hg, chg.rf h⟩
        | (obtain ⟨w1, w2⟩ := gpR_shard (c := 0) (v := G.2.2.2 (E 2)) (M1 := sI M (nd n + 3 + 4 * E 2) 0 0) h h3 hn hg h8 ((oI.rf M _).sI ⟨Nat.le_refl _, by omega⟩) (by rw [mm_I_sI, if_pos ⟨rfl, rfl⟩]; rfl) (fun z => by omega)
           rw [fu_id] at w1
           refine ⟨rfl, ?_, w2⟩
           rw [gp_7 e1, if_pos ⟨k26.symm, k15⟩]
           exact w1)
set_option maxRecDepth 20000 in
set_option maxHeartbeats 1000000 in
theorem k_T_cO_E (M : aM) (a e : Nat) (he : tO M e 5) (Q : aM → Option Value → Prop) (hk : aK m_E_changeStore 0 0 0 M [.ref e, .ref a] Q) (hQ : ∀ M1 r, Q M1 r → r = none) : aK m_T_carryOut 4 4 19 M [.ref a, .ref e] Q := by
  refine aK.of (by decide) (Nat.le_of_ble_eq_true rfl) ?_
  refine j_aload_n d_T_carryOut_0 rfl ?_
  refine j_aload_n d_T_carryOut_1 rfl ?_
  refine j_callV (vs := [_]) d_T_carryOut_2 (by assumption) (by decide) rfl w366 w367 w9 w414 w368 y_E_changeStore (by decide) (by decide) (hk) rfl (Nat.le_of_ble_eq_true rfl) (by decide) (by decide) (fun M1 r1 hq1 => ?_)
  have hr1 := hQ M1 r1 hq1
  subst hr1
  refine j_return d_T_carryOut_5 rfl hq1 (by decide) (by decide)
set_option maxRecDepth 20000 in
set_option maxHeartbeats 1000000 in
theorem k_T_cO_G (M : aM) (a e : Nat) (he : tO M e 6) (Q : aM → Option Value → Prop) (hk : aK m_E_changeStore 0 0 0 M [.ref e, .ref a] Q) (hQ : ∀ M1 r, Q M1 r → r = none) : aK m_T_carryOut 4 4 19 M [.ref a, .ref e] Q := by
  refine aK.of (by decide) (Nat.le_of_ble_eq_true rfl) ?_
  refine j_aload_n d_T_carryOut_0 rfl ?_
  refine j_aload_n d_T_carryOut_1 rfl ?_
  refine j_callU (owner := "ShardGroups$Entry") (vs := [_]) d_T_carryOut_2 (by assumption) (by decide) rfl w366 w367 w9 w414 w370 w369 (Or.inl rfl) y_E_changeStore (by decide) (by decide) (hk) rfl (Nat.le_of_ble_eq_true rfl) (by decide) (by decide) (fun M1 r1 hq1 => ?_)
  have hr1 := hQ M1 r1 hq1
  subst hr1
  refine j_return d_T_carryOut_5 rfl hq1 (by decide) (by decide)
set_option maxRecDepth 20000 in
set_option maxHeartbeats 1000000 in
theorem k_T_cO_F (M : aM) (a e : Nat) (he : tO M e 7) (Q : aM → Option Value → Prop) (hk : aK m_F_changeStore 3 0 0 M [.ref e, .ref a] Q) (hQ : ∀ M1 r, Q M1 r → r = none) : aK m_T_carryOut 4 4 19 M [.ref a, .ref e] Q := by
  refine aK.of (by decide) (Nat.le_of_ble_eq_true rfl) ?_
  refine j_aload_n d_T_carryOut_0 rfl ?_
  refine j_aload_n d_T_carryOut_1 rfl ?_
  refine j_callU (owner := "ShardGroups$Entry") (vs := [_]) d_T_carryOut_2 (by assumption) (by decide) rfl w366 w372 w13 w373 w371 w369 (Or.inr (Or.inl ⟨w367, _, _, _, w414⟩)) y_E_changeStore (by decide) (by decide) (hk) rfl (Nat.le_of_ble_eq_true rfl) (by decide) (by decide) (fun M1 r1 hq1 => ?_)
  have hr1 := hQ M1 r1 hq1
  subst hr1
  refine j_return d_T_carryOut_5 rfl hq1 (by decide) (by decide)
set_option maxRecDepth 20000 in
set_option maxHeartbeats 1000000 in
theorem k_T_cO_R (M : aM) (a e : Nat) (he : tO M e 8) (Q : aM → Option Value → Prop) (hk : aK m_R_changeStore 3 0 0 M [.ref e, .ref a] Q) (hQ : ∀ M1 r, Q M1 r → r = none) : aK m_T_carryOut 4 4 19 M [.ref a, .ref e] Q := by
  refine aK.of (by decide) (Nat.le_of_ble_eq_true rfl) ?_
  refine j_aload_n d_T_carryOut_0 rfl ?_
  refine j_aload_n d_T_carryOut_1 rfl ?_
  refine j_callU (owner := "ShardGroups$Entry") (vs := [_]) d_T_carryOut_2 (by assumption) (by decide) rfl w366 w402 w12 w403 w401 w369 (Or.inr (Or.inl ⟨w367, _, _, _, w414⟩)) y_E_changeStore (by decide) (by decide) (hk) rfl (Nat.le_of_ble_eq_true rfl) (by decide) (by decide) (fun M1 r1 hq1 => ?_)
  have hr1 := hQ M1 r1 hq1
  subst hr1
  refine j_return d_T_carryOut_5 rfl hq1 (by decide) (by decide)
set_option maxRecDepth 20000 in
set_option maxHeartbeats 1000000 in
theorem k_T_cO_I (M : aM) (a e : Nat) (he : tO M e 9) (Q : aM → Option Value → Prop) (hk : aK m_I_changeStore 2 0 0 M [.ref e, .ref a] Q) (hQ : ∀ M1 r, Q M1 r → r = none) : aK m_T_carryOut 4 4 19 M [.ref a, .ref e] Q := by
  refine aK.of (by decide) (Nat.le_of_ble_eq_true rfl) ?_
  refine j_aload_n d_T_carryOut_0 rfl ?_
  refine j_aload_n d_T_carryOut_1 rfl ?_
  refine j_callU (owner := "ShardGroups$Entry") (vs := [_]) d_T_carryOut_2 (by assumption) (by decide) rfl w366 w394 w14 w395 w393 w369 (Or.inr (Or.inl ⟨w367, _, _, _, w414⟩)) y_E_changeStore (by decide) (by decide) (hk) rfl (Nat.le_of_ble_eq_true rfl) (by decide) (by decide) (fun M1 r1 hq1 => ?_)
  have hr1 := hQ M1 r1 hq1
  subst hr1
  refine j_return d_T_carryOut_5 rfl hq1 (by decide) (by decide)
set_option maxRecDepth 20000 in
set_option maxHeartbeats 1000000 in
theorem k_T_cO_D (M : aM) (a e : Nat) (he : tO M e 10) (Q : aM → Option Value → Prop) (hk : aK m_D_changeStore 2 0 0 M [.ref e, .ref a] Q) (hQ : ∀ M1 r, Q M1 r → r = none) : aK m_T_carryOut 4 4 19 M [.ref a, .ref e] Q := by
  refine aK.of (by decide) (Nat.le_of_ble_eq_true rfl) ?_
  refine j_aload_n d_T_carryOut_0 rfl ?_
  refine j_aload_n d_T_carryOut_1 rfl ?_
  refine j_callU (owner := "ShardGroups$Entry") (vs := [_]) d_T_carryOut_2 (by assumption) (by decide) rfl w366 w391 w15 w392 w390 w369 (Or.inr (Or.inl ⟨w367, _, _, _, w414⟩)) y_E_changeStore (by decide) (by decide) (hk) rfl (Nat.le_of_ble_eq_true rfl) (by decide) (by decide) (fun M1 r1 hq1 => ?_)
  have hr1 := hQ M1 r1 hq1
  subst hr1
  refine j_return d_T_carryOut_5 rfl hq1 (by decide) (by decide)
theorem k_carryOut_T (M : aM) (n : Nat) (G : aGp) (h : cSh M) (h3 : 3 ≤ n) (hn : n < 12) (hg : gpR M n G) (hV : gpV (n / 3) G) (e : Nat) (E : Nat → Nat) (hE : eV E) (he : eR M e E) : aK m_T_carryOut 4 4 19 M [.ref (nd n), .ref e] (fun M1 r => r = none ∧ gpR M1 n (gpStep (n / 3) G E) ∧ chg M M1 n) := by
  have no : E 1 < 4 → ∀ M1 r, (r = none ∧ M1 = M) → (fun M1 (r : Option Value) => r = none ∧ gpR M1 n (gpStep (n / 3) G E) ∧ chg M M1 n) M1 r := by
    rintro q M1 r ⟨rfl, rfl⟩
    exact ⟨rfl, by rw [gp_o q]; exact hg, chg.rf h⟩
  obtain ⟨-, -, ⟨k0, k1⟩ | ⟨k0, k1, k2, k3, k4⟩ | ⟨k0, k1, k2, q, k3, k4⟩ | ⟨k0, k1, k2, k3, k4, k5, k6⟩ | ⟨k0, k1, k2, k3, q, k4, k5, k6, k7⟩ | ⟨k0, k1, k2, k3⟩⟩ := he
  · exact k_T_cO_E M (nd n) e k1 _ ((k_E_chT M e (nd n)).weaken (no (by omega))) (fun _ _ z => z.1)
  · exact k_T_cO_G M (nd n) e k1 _ ((k_E_chT M e (nd n)).weaken (no (by omega))) (fun _ _ z => z.1)
  · exact k_T_cO_F M (nd n) e k1 _ (k_F_chT M n G h h3 hn hg hV e E hE k0 k1 k2 q k3 k4) (fun _ _ z => z.1)
  · exact k_T_cO_R M (nd n) e k1 _ (k_R_chT M n G h h3 hn hg hV e E hE k0 k1 k2 k3 k4 k5 k6) (fun _ _ z => z.1)
  · obtain ⟨f1, f2, f3⟩ := hE.2.2.2.2.2.2.1 k0
    exact k_T_cO_I M (nd n) e k1 _ (k_I_chT M n G h h3 hn hg hV e E hE f1 f2 k0 k1 k2 k3 q k4 k5 k6 k7) (fun _ _ z => z.1)
  · obtain ⟨f1, f2⟩ := hE.2.2.2.2.2.2.2 k0
    exact k_T_cO_D M (nd n) e k1 _ (k_D_chT M n G h h3 hn hg hV e E hE f1 f2 k0 k1 k2 k3) (fun _ _ z => z.1)
