theorem i82 (s c d : Nat) : (8 : Int32) * nI s + nI d + nI c = nI (8 * s + d + c) := by
  rw [i8, nI_add]
theorem r8 {k : Nat} (hk : k < 16) : nI k - nI k / 8 * 8 = nI (k % 8) := pk_rem (d := 8) (by omega) (by decide) (by decide)
theorem d8 {k : Nat} (hk : k < 16) : nI k / 8 = nI (k / 8) := pk_div (d := 8) (by omega) (by decide) (by decide)
theorem mGp_held {M M1 : aM} {G : aGp} {s : Nat} {w : Nat → Nat} (h : mGp M G) (o : oI M M1 (fun a => a = 344)) (hs : s < 8) (h1 : ∀ x, ¬ (8 * s ≤ x ∧ x < 8 * s + 8) → mI M1 344 x = mI M 344 x) (h2 : ∀ i, i < 8 → mI M1 344 (8 * s + i) = nI (w i)) : mGp M1 (G.1, G.2.1, G.2.2.1, fu G.2.2.2 s w) := by
  refine ⟨(o.2.2 332 (by decide) 10).trans h.1, fun j hj => ?_⟩
  obtain ⟨a1, a2, a3⟩ := h.2 j hj
  refine ⟨(o.2.2 342 (by decide) j).trans a1, (o.2.2 343 (by decide) j).trans a2, fun q i hi => ?_⟩
  show _ = nI (fu G.2.2.2 s w j i)
  by_cases e : j = s
  · subst e; rw [fu_s]; exact h2 i hi
  · rw [fu_n _ _ e, h1 _ (by omega)]; exact a3 q i hi

set_option maxRecDepth 20000 in
set_option maxHeartbeats 1000000 in
theorem q_effect_0 (M : aM) (g p : Nat) (G : aGp) (E : Nat → Nat) (hm : mSh M) (hG : mGp M G) (hV : gpV g G) (hE : lgE M p E) (e2 : E 2 < 3) (e3 : E 3 ≤ 999) (e4 : E 4 < 3) (e5 : E 5 < 16) (e6 : E 6 < 1000) (hno : ¬ (G.2.2.1 (E 5 % 8) = 1 ∧ G.2.2.2 (E 5 % 8) (2 + E 2) < E 3)) : aK m_M_effect 0 0 0 M [.ref 332, .int (nI p)] (fun M1 r => r = none ∧ M1 = M) := by
  refine aK.of (by decide) (Nat.le_of_ble_eq_true rfl) ?_
  have hp := hE.1
  have h8 : E 5 % 8 < 8 := Nat.mod_lt _ (by decide)
  obtain ⟨g1, g2, g3⟩ := hG.2 (E 5 % 8) h8
  have c3 := hV.c h8
  obtain ⟨v1, v2, v3, v4⟩ := hV.2 (E 5 % 8) h8
  obtain ⟨h0, q_off, t_off, q_leads, t_leads, q_term, t_term, q_length, t_length, q_known, t_known, q_logs, t_logs, q_entry, t_entry, q_members, t_members, q_owners, t_owners, q_owner, t_owner, q_condition, t_condition, q_held, t_held⟩ := hm
  refine j_aload_n d_M_effect_0 rfl ?_
  refine j_getR d_M_effect_1 h0 f_M_26_M rfl (by decide) q_logs ?_
  refine j_iload_n d_M_effect_4 rfl ?_
  refine j_iconst (v := 2) d_M_effect_5 (by decide) ?_
  refine j_iadd d_M_effect_6 ?_
  refine j_eqi (nI_add p 2) ?_
  refine j_iald d_M_effect_7 t_logs (aIx.n (by omega) (by decide)) ?_
  refine j_eqi (show _ = nI (E 2) from hE.2 2 (by decide)) ?_
  refine j_istore_n d_M_effect_8 (by decide) ?_
  refine j_aload_n d_M_effect_9 rfl ?_
  refine j_getR d_M_effect_10 h0 f_M_26_M rfl (by decide) q_logs ?_
  refine j_iload_n d_M_effect_13 rfl ?_
  refine j_iconst (v := 5) d_M_effect_14 (by decide) ?_
  refine j_iadd d_M_effect_15 ?_
  refine j_eqi (nI_add p 5) ?_
  refine j_iald d_M_effect_16 t_logs (aIx.n (by omega) (by decide)) ?_
  refine j_eqi (show _ = nI (E 5) from hE.2 5 (by decide)) ?_
  refine j_istore_n d_M_effect_17 (by decide) ?_
  refine j_iload_n d_M_effect_18 rfl ?_
  refine j_bipush (v := 8) d_M_effect_19 (by decide) ?_
  refine j_irem d_M_effect_21 (by decide) ?_
  refine j_eqi (r8 e5) ?_
  refine j_istore d_M_effect_22 (by decide) ?_
  refine j_bipush (v := 8) d_M_effect_24 (by decide) ?_
  refine j_iload d_M_effect_26 rfl ?_
  refine j_imul d_M_effect_28 ?_
  refine j_iload_n d_M_effect_29 rfl ?_
  refine j_bipush (v := 8) d_M_effect_30 (by decide) ?_
  refine j_idiv d_M_effect_32 (by decide) ?_
  refine j_eqi (d8 e5) ?_
  refine j_iadd d_M_effect_33 ?_
  refine j_eqi (i8 (E 5 % 8) (E 5 / 8)) ?_
  refine j_istore d_M_effect_34 (by decide) ?_
  refine j_aload_n d_M_effect_36 rfl ?_
  refine j_getR d_M_effect_37 h0 f_M_41_M rfl (by decide) q_condition ?_
  refine j_iload d_M_effect_40 rfl ?_
  refine j_iald d_M_effect_42 t_condition (aIx.n (by omega) (by decide)) ?_
  refine j_eqi g2 ?_
  refine j_iconst (v := 1) d_M_effect_43 (by decide) ?_
  refine j_icmp_ne (tgt := 72) d_M_effect_44 (by decide) (fun h44 => ?_) (fun h44 => ?_)
  · refine j_return d_M_effect_72 rfl ⟨rfl, rfl⟩ (by decide) (by decide)
  · have k44 := i_eq (b := 1) (by omega) (by decide) h44
    refine j_aload_n d_M_effect_47 rfl ?_
    refine j_getR d_M_effect_48 h0 f_M_26_M rfl (by decide) q_logs ?_
    refine j_iload_n d_M_effect_51 rfl ?_
    refine j_iconst (v := 3) d_M_effect_52 (by decide) ?_
    refine j_iadd d_M_effect_53 ?_
    refine j_eqi (nI_add p 3) ?_
    refine j_iald d_M_effect_54 t_logs (aIx.n (by omega) (by decide)) ?_
    refine j_eqi (show _ = nI (E 3) from hE.2 3 (by decide)) ?_
    refine j_aload_n d_M_effect_55 rfl ?_
    refine j_getR d_M_effect_56 h0 f_M_44_M rfl (by decide) q_held ?_
    refine j_bipush (v := 8) d_M_effect_59 (by decide) ?_
    refine j_iload d_M_effect_61 rfl ?_
    refine j_imul d_M_effect_63 ?_
    refine j_iconst (v := 2) d_M_effect_64 (by decide) ?_
    refine j_iadd d_M_effect_65 ?_
    refine j_iload_n d_M_effect_66 rfl ?_
    refine j_iadd d_M_effect_67 ?_
    refine j_eqi (i82 (E 5 % 8) (E 2) 2) ?_
    refine j_iald d_M_effect_68 t_held (aIx.n (by omega) (by decide)) ?_
    refine j_eqi (show _ = nI (G.2.2.2 (E 5 % 8) (2 + E 2)) by rw [Nat.add_assoc]; exact g3 (by omega) (2 + E 2) (by omega)) ?_
    have hv4 := v4 (2 + E 2) (by omega)
    refine j_icmp_gt (tgt := 73) d_M_effect_69 (by decide) (fun h69 => False.elim (hno ⟨k44, i_lt (by omega) (by omega) h69⟩)) (fun h69 => ?_)
    refine j_return d_M_effect_72 rfl ⟨rfl, rfl⟩ (by decide) (by decide)
set_option maxRecDepth 20000 in
set_option maxHeartbeats 1000000 in
theorem q_effect (M : aM) (g p : Nat) (G : aGp) (E : Nat → Nat) (hm : mSh M) (hG : mGp M G) (hV : gpV g G) (hE : lgE M p E) (e2 : E 2 < 3) (e3 : E 3 ≤ 999) (e4 : E 4 < 3) (e5 : E 5 < 16) (e6 : E 6 < 1000) (hy : (G.2.2.1 (E 5 % 8) = 1 ∧ G.2.2.2 (E 5 % 8) (2 + E 2) < E 3)) : aK m_M_effect 0 0 0 M [.ref 332, .int (nI p)] (fun M1 r => r = none ∧ mGp M1 (gpRq G E) ∧ oI M M1 gcl) := by
  refine aK.of (by decide) (Nat.le_of_ble_eq_true rfl) ?_
  have hp := hE.1
  have h8 : E 5 % 8 < 8 := Nat.mod_lt _ (by decide)
  obtain ⟨g1, g2, g3⟩ := hG.2 (E 5 % 8) h8
  have c3 := hV.c h8
  obtain ⟨v1, v2, v3, v4⟩ := hV.2 (E 5 % 8) h8
  obtain ⟨h0, q_off, t_off, q_leads, t_leads, q_term, t_term, q_length, t_length, q_known, t_known, q_logs, t_logs, q_entry, t_entry, q_members, t_members, q_owners, t_owners, q_owner, t_owner, q_condition, t_condition, q_held, t_held⟩ := hm
  have hv0 : mI M 344 (8 * (E 5 % 8) + E 5 / 8) = nI (G.2.2.2 (E 5 % 8) (E 5 / 8)) := g3 (by omega) (E 5 / 8) (by omega)
  refine j_aload_n d_M_effect_0 rfl ?_
  refine j_getR d_M_effect_1 h0 f_M_26_M rfl (by decide) q_logs ?_
  refine j_iload_n d_M_effect_4 rfl ?_
  refine j_iconst (v := 2) d_M_effect_5 (by decide) ?_
  refine j_iadd d_M_effect_6 ?_
  refine j_eqi (nI_add p 2) ?_
  refine j_iald d_M_effect_7 t_logs (aIx.n (by omega) (by decide)) ?_
  refine j_eqi (show _ = nI (E 2) from hE.2 2 (by decide)) ?_
  refine j_istore_n d_M_effect_8 (by decide) ?_
  refine j_aload_n d_M_effect_9 rfl ?_
  refine j_getR d_M_effect_10 h0 f_M_26_M rfl (by decide) q_logs ?_
  refine j_iload_n d_M_effect_13 rfl ?_
  refine j_iconst (v := 5) d_M_effect_14 (by decide) ?_
  refine j_iadd d_M_effect_15 ?_
  refine j_eqi (nI_add p 5) ?_
  refine j_iald d_M_effect_16 t_logs (aIx.n (by omega) (by decide)) ?_
  refine j_eqi (show _ = nI (E 5) from hE.2 5 (by decide)) ?_
  refine j_istore_n d_M_effect_17 (by decide) ?_
  refine j_iload_n d_M_effect_18 rfl ?_
  refine j_bipush (v := 8) d_M_effect_19 (by decide) ?_
  refine j_irem d_M_effect_21 (by decide) ?_
  refine j_eqi (r8 e5) ?_
  refine j_istore d_M_effect_22 (by decide) ?_
  refine j_bipush (v := 8) d_M_effect_24 (by decide) ?_
  refine j_iload d_M_effect_26 rfl ?_
  refine j_imul d_M_effect_28 ?_
  refine j_iload_n d_M_effect_29 rfl ?_
  refine j_bipush (v := 8) d_M_effect_30 (by decide) ?_
  refine j_idiv d_M_effect_32 (by decide) ?_
  refine j_eqi (d8 e5) ?_
  refine j_iadd d_M_effect_33 ?_
  refine j_eqi (i8 (E 5 % 8) (E 5 / 8)) ?_
  refine j_istore d_M_effect_34 (by decide) ?_
  refine j_aload_n d_M_effect_36 rfl ?_
  refine j_getR d_M_effect_37 h0 f_M_41_M rfl (by decide) q_condition ?_
  refine j_iload d_M_effect_40 rfl ?_
  refine j_iald d_M_effect_42 t_condition (aIx.n (by omega) (by decide)) ?_
  refine j_eqi g2 ?_
  refine j_iconst (v := 1) d_M_effect_43 (by decide) ?_
  refine j_icmp_ne (tgt := 72) d_M_effect_44 (by decide) (fun h44 => False.elim (h44 (by rw [hy.1]; rfl))) (fun h44 => ?_)
  refine j_aload_n d_M_effect_47 rfl ?_
  refine j_getR d_M_effect_48 h0 f_M_26_M rfl (by decide) q_logs ?_
  refine j_iload_n d_M_effect_51 rfl ?_
  refine j_iconst (v := 3) d_M_effect_52 (by decide) ?_
  refine j_iadd d_M_effect_53 ?_
  refine j_eqi (nI_add p 3) ?_
  refine j_iald d_M_effect_54 t_logs (aIx.n (by omega) (by decide)) ?_
  refine j_eqi (show _ = nI (E 3) from hE.2 3 (by decide)) ?_
  refine j_aload_n d_M_effect_55 rfl ?_
  refine j_getR d_M_effect_56 h0 f_M_44_M rfl (by decide) q_held ?_
  refine j_bipush (v := 8) d_M_effect_59 (by decide) ?_
  refine j_iload d_M_effect_61 rfl ?_
  refine j_imul d_M_effect_63 ?_
  refine j_iconst (v := 2) d_M_effect_64 (by decide) ?_
  refine j_iadd d_M_effect_65 ?_
  refine j_iload_n d_M_effect_66 rfl ?_
  refine j_iadd d_M_effect_67 ?_
  refine j_eqi (i82 (E 5 % 8) (E 2) 2) ?_
  refine j_iald d_M_effect_68 t_held (aIx.n (by omega) (by decide)) ?_
  refine j_eqi (show _ = nI (G.2.2.2 (E 5 % 8) (2 + E 2)) by rw [Nat.add_assoc]; exact g3 (by omega) (2 + E 2) (by omega)) ?_
  have hv4 := v4 (2 + E 2) (by omega)
  refine j_icmp_gt (tgt := 73) d_M_effect_69 (by decide) (fun h69 => ?_) (fun h69 => False.elim (h69 (nI_lt hy.2 (by omega))))
  refine j_aload_n d_M_effect_73 rfl ?_
  refine j_getR d_M_effect_74 h0 f_M_26_M rfl (by decide) q_logs ?_
  refine j_iload_n d_M_effect_77 rfl ?_
  refine j_iconst (v := 4) d_M_effect_78 (by decide) ?_
  refine j_iadd d_M_effect_79 ?_
  refine j_eqi (nI_add p 4) ?_
  refine j_iald d_M_effect_80 t_logs (aIx.n (by omega) (by decide)) ?_
  refine j_eqi (show _ = nI (E 4) from hE.2 4 (by decide)) ?_
  refine j_istore d_M_effect_81 (by decide) ?_
  refine j_aload_n d_M_effect_83 rfl ?_
  refine j_getR d_M_effect_84 h0 f_M_26_M rfl (by decide) q_logs ?_
  refine j_iload_n d_M_effect_87 rfl ?_
  refine j_bipush (v := 6) d_M_effect_88 (by decide) ?_
  refine j_iadd d_M_effect_90 ?_
  refine j_eqi (nI_add p 6) ?_
  refine j_iald d_M_effect_91 t_logs (aIx.n (by omega) (by decide)) ?_
  refine j_eqi (show _ = nI (E 6) from hE.2 6 (by decide)) ?_
  refine j_istore d_M_effect_92 (by decide) ?_
  refine j_aload_n d_M_effect_94 rfl ?_
  refine j_getR d_M_effect_95 h0 f_M_44_M rfl (by decide) q_held ?_
  refine j_iload d_M_effect_98 rfl ?_
  refine j_iload d_M_effect_100 rfl ?_
  refine j_if_ne (tgt := 115) d_M_effect_102 (by decide) (fun h102 => ?_) (fun h102 => ?_)
  · have k102 := i_ne (b := 0) (by omega) (by decide) h102
    refine j_iload d_M_effect_115 rfl ?_
    refine j_iconst (v := 1) d_M_effect_117 (by decide) ?_
    refine j_icmp_ne (tgt := 126) d_M_effect_118 (by decide) (fun h118 => ?_) (fun h118 => ?_)
    · have k118 := i_ne (b := 1) (by omega) (by decide) h118
      refine j_aload_n d_M_effect_126 rfl ?_
      refine j_getR d_M_effect_127 h0 f_M_44_M rfl (by decide) q_held ?_
      refine j_iload d_M_effect_130 rfl ?_
      refine j_iald d_M_effect_132 t_held (aIx.n (by omega) (by decide)) ?_
      refine j_eqi hv0 ?_
      refine j_iload d_M_effect_133 rfl ?_
      refine j_iadd d_M_effect_135 ?_
      refine j_sipush (v := 1000) d_M_effect_136 (by decide) ?_
      refine j_irem d_M_effect_139 (by decide) ?_
      have hN : nI (G.2.2.2 (E 5 % 8) (E 5 / 8)) + nI (E 6) - (nI (G.2.2.2 (E 5 % 8) (E 5 / 8)) + nI (E 6)) / 1000 * 1000 = nI (svN (G.2.2.2 (E 5 % 8)) E) := by unfold svN; rw [if_neg k102, if_neg k118]; exact add1000 (v4 _ (by omega)) e6
      refine j_eqi hN ?_
      refine j_iast d_M_effect_140 t_held (aIx.n (by omega) (by decide)) ?_
      refine j_aload_n d_M_effect_141 rfl ?_
      refine j_getR d_M_effect_142 h0 f_M_44_M rfl (by decide) q_held ?_
      refine j_bipush (v := 8) d_M_effect_145 (by decide) ?_
      refine j_iload d_M_effect_147 rfl ?_
      refine j_imul d_M_effect_149 ?_
      refine j_iconst (v := 2) d_M_effect_150 (by decide) ?_
      refine j_iadd d_M_effect_151 ?_
      refine j_iload_n d_M_effect_152 rfl ?_
      refine j_iadd d_M_effect_153 ?_
      refine j_eqi (i82 (E 5 % 8) (E 2) 2) ?_
      refine j_aload_n d_M_effect_154 rfl ?_
      refine j_getR d_M_effect_155 h0 f_M_26_M rfl (by decide) q_logs ?_
      refine j_iload_n d_M_effect_158 rfl ?_
      refine j_iconst (v := 3) d_M_effect_159 (by decide) ?_
      refine j_iadd d_M_effect_160 ?_
      refine j_eqi (nI_add p 3) ?_
      refine j_iald d_M_effect_161 t_logs (aIx.n (by omega) (by decide)) ?_
      refine j_eqi (show _ = nI (E 3) by rw [mm_I_sI, if_neg (by omega)]; exact hE.2 3 (by decide)) ?_
      refine j_iast d_M_effect_162 t_held (aIx.n (by omega) (by decide)) ?_
      refine j_aload_n d_M_effect_163 rfl ?_
      refine j_getR d_M_effect_164 h0 f_M_44_M rfl (by decide) q_held ?_
      refine j_bipush (v := 8) d_M_effect_167 (by decide) ?_
      refine j_iload d_M_effect_169 rfl ?_
      refine j_imul d_M_effect_171 ?_
      refine j_iconst (v := 5) d_M_effect_172 (by decide) ?_
      refine j_iadd d_M_effect_173 ?_
      refine j_iload_n d_M_effect_174 rfl ?_
      refine j_iadd d_M_effect_175 ?_
      refine j_eqi (i82 (E 5 % 8) (E 2) 5) ?_
      refine j_aload_n d_M_effect_176 rfl ?_
      refine j_getR d_M_effect_177 h0 f_M_44_M rfl (by decide) q_held ?_
      refine j_iload d_M_effect_180 rfl ?_
      refine j_iald d_M_effect_182 t_held (aIx.n (by omega) (by decide)) ?_
      refine j_eqi (show _ = nI (svN (G.2.2.2 (E 5 % 8)) E) by rw [mm_I_sI, if_neg (by omega), mm_I_sI, if_pos ⟨rfl, rfl⟩]) ?_
      refine j_iast d_M_effect_183 t_held (aIx.n (by omega) (by decide)) ?_
      refine j_return d_M_effect_184 rfl ?_ (by decide) (by decide)
      have o : oI M (sI (sI (sI M 344 (8 * (E 5 % 8) + E 5 / 8) (nI (svN (G.2.2.2 (E 5 % 8)) E))) 344 (8 * (E 5 % 8) + 2 + E 2) (nI (E 3))) 344 (8 * (E 5 % 8) + 5 + E 2) (nI (svN (G.2.2.2 (E 5 % 8)) E))) (fun a => a = 344) := (((oI.rf M (fun a => a = 344)).sI rfl).sI rfl).sI rfl
      refine ⟨rfl, mGp_held hG o h8 (fun x hx => ?_) (fun i hi => ?_), o.mono (fun a ha => by unfold gcl; omega)⟩
      · rw [mm_I_sI, if_neg (by omega), mm_I_sI, if_neg (by omega), mm_I_sI, if_neg (by omega)]
      · show _ = nI (svH (G.2.2.2 (E 5 % 8)) E i)
        unfold svH
        rw [mm_I_sI]
        by_cases z1 : i = 5 + E 2
        · rw [if_pos ⟨rfl, by omega⟩, z1, fu_s]
        · rw [if_neg (by omega), fu_n _ _ z1, mm_I_sI]
          by_cases z2 : i = 2 + E 2
          · rw [if_pos ⟨rfl, by omega⟩, z2, fu_s]
          · rw [if_neg (by omega), fu_n _ _ z2, mm_I_sI]
            by_cases z3 : i = E 5 / 8
            · rw [if_pos ⟨rfl, by omega⟩, z3, fu_s]
            · rw [if_neg (by omega), fu_n _ _ z3]; exact g3 (by omega) i hi
    · have k118 := i_eq (b := 1) (by omega) (by decide) h118
      have hN : nI (E 6) = nI (svN (G.2.2.2 (E 5 % 8)) E) := by unfold svN; rw [if_neg k102, if_pos k118]
      refine j_iload d_M_effect_121 rfl ?_
      refine j_goto 140 d_M_effect_123 (by decide) ?_
      refine j_eqi hN ?_
      refine j_iast d_M_effect_140 t_held (aIx.n (by omega) (by decide)) ?_
      refine j_aload_n d_M_effect_141 rfl ?_
      refine j_getR d_M_effect_142 h0 f_M_44_M rfl (by decide) q_held ?_
      refine j_bipush (v := 8) d_M_effect_145 (by decide) ?_
      refine j_iload d_M_effect_147 rfl ?_
      refine j_imul d_M_effect_149 ?_
      refine j_iconst (v := 2) d_M_effect_150 (by decide) ?_
      refine j_iadd d_M_effect_151 ?_
      refine j_iload_n d_M_effect_152 rfl ?_
      refine j_iadd d_M_effect_153 ?_
      refine j_eqi (i82 (E 5 % 8) (E 2) 2) ?_
      refine j_aload_n d_M_effect_154 rfl ?_
      refine j_getR d_M_effect_155 h0 f_M_26_M rfl (by decide) q_logs ?_
      refine j_iload_n d_M_effect_158 rfl ?_
      refine j_iconst (v := 3) d_M_effect_159 (by decide) ?_
      refine j_iadd d_M_effect_160 ?_
      refine j_eqi (nI_add p 3) ?_
      refine j_iald d_M_effect_161 t_logs (aIx.n (by omega) (by decide)) ?_
      refine j_eqi (show _ = nI (E 3) by rw [mm_I_sI, if_neg (by omega)]; exact hE.2 3 (by decide)) ?_
      refine j_iast d_M_effect_162 t_held (aIx.n (by omega) (by decide)) ?_
      refine j_aload_n d_M_effect_163 rfl ?_
      refine j_getR d_M_effect_164 h0 f_M_44_M rfl (by decide) q_held ?_
      refine j_bipush (v := 8) d_M_effect_167 (by decide) ?_
      refine j_iload d_M_effect_169 rfl ?_
      refine j_imul d_M_effect_171 ?_
      refine j_iconst (v := 5) d_M_effect_172 (by decide) ?_
      refine j_iadd d_M_effect_173 ?_
      refine j_iload_n d_M_effect_174 rfl ?_
      refine j_iadd d_M_effect_175 ?_
      refine j_eqi (i82 (E 5 % 8) (E 2) 5) ?_
      refine j_aload_n d_M_effect_176 rfl ?_
      refine j_getR d_M_effect_177 h0 f_M_44_M rfl (by decide) q_held ?_
      refine j_iload d_M_effect_180 rfl ?_
      refine j_iald d_M_effect_182 t_held (aIx.n (by omega) (by decide)) ?_
      refine j_eqi (show _ = nI (svN (G.2.2.2 (E 5 % 8)) E) by rw [mm_I_sI, if_neg (by omega), mm_I_sI, if_pos ⟨rfl, rfl⟩]) ?_
      refine j_iast d_M_effect_183 t_held (aIx.n (by omega) (by decide)) ?_
      refine j_return d_M_effect_184 rfl ?_ (by decide) (by decide)
      have o : oI M (sI (sI (sI M 344 (8 * (E 5 % 8) + E 5 / 8) (nI (svN (G.2.2.2 (E 5 % 8)) E))) 344 (8 * (E 5 % 8) + 2 + E 2) (nI (E 3))) 344 (8 * (E 5 % 8) + 5 + E 2) (nI (svN (G.2.2.2 (E 5 % 8)) E))) (fun a => a = 344) := (((oI.rf M (fun a => a = 344)).sI rfl).sI rfl).sI rfl
      refine ⟨rfl, mGp_held hG o h8 (fun x hx => ?_) (fun i hi => ?_), o.mono (fun a ha => by unfold gcl; omega)⟩
      · rw [mm_I_sI, if_neg (by omega), mm_I_sI, if_neg (by omega), mm_I_sI, if_neg (by omega)]
      · show _ = nI (svH (G.2.2.2 (E 5 % 8)) E i)
        unfold svH
        rw [mm_I_sI]
        by_cases z1 : i = 5 + E 2
        · rw [if_pos ⟨rfl, by omega⟩, z1, fu_s]
        · rw [if_neg (by omega), fu_n _ _ z1, mm_I_sI]
          by_cases z2 : i = 2 + E 2
          · rw [if_pos ⟨rfl, by omega⟩, z2, fu_s]
          · rw [if_neg (by omega), fu_n _ _ z2, mm_I_sI]
            by_cases z3 : i = E 5 / 8
            · rw [if_pos ⟨rfl, by omega⟩, z3, fu_s]
            · rw [if_neg (by omega), fu_n _ _ z3]; exact g3 (by omega) i hi
  · have k102 := i_eq (b := 0) (by omega) (by decide) h102
    have hN : nI (G.2.2.2 (E 5 % 8) (E 5 / 8)) = nI (svN (G.2.2.2 (E 5 % 8)) E) := by unfold svN; rw [if_pos k102]
    refine j_aload_n d_M_effect_105 rfl ?_
    refine j_getR d_M_effect_106 h0 f_M_44_M rfl (by decide) q_held ?_
    refine j_iload d_M_effect_109 rfl ?_
    refine j_iald d_M_effect_111 t_held (aIx.n (by omega) (by decide)) ?_
    refine j_eqi hv0 ?_
    refine j_goto 140 d_M_effect_112 (by decide) ?_
    refine j_eqi hN ?_
    refine j_iast d_M_effect_140 t_held (aIx.n (by omega) (by decide)) ?_
    refine j_aload_n d_M_effect_141 rfl ?_
    refine j_getR d_M_effect_142 h0 f_M_44_M rfl (by decide) q_held ?_
    refine j_bipush (v := 8) d_M_effect_145 (by decide) ?_
    refine j_iload d_M_effect_147 rfl ?_
    refine j_imul d_M_effect_149 ?_
    refine j_iconst (v := 2) d_M_effect_150 (by decide) ?_
    refine j_iadd d_M_effect_151 ?_
    refine j_iload_n d_M_effect_152 rfl ?_
    refine j_iadd d_M_effect_153 ?_
    refine j_eqi (i82 (E 5 % 8) (E 2) 2) ?_
    refine j_aload_n d_M_effect_154 rfl ?_
    refine j_getR d_M_effect_155 h0 f_M_26_M rfl (by decide) q_logs ?_
    refine j_iload_n d_M_effect_158 rfl ?_
    refine j_iconst (v := 3) d_M_effect_159 (by decide) ?_
    refine j_iadd d_M_effect_160 ?_
    refine j_eqi (nI_add p 3) ?_
    refine j_iald d_M_effect_161 t_logs (aIx.n (by omega) (by decide)) ?_
    refine j_eqi (show _ = nI (E 3) by rw [mm_I_sI, if_neg (by omega)]; exact hE.2 3 (by decide)) ?_
    refine j_iast d_M_effect_162 t_held (aIx.n (by omega) (by decide)) ?_
    refine j_aload_n d_M_effect_163 rfl ?_
    refine j_getR d_M_effect_164 h0 f_M_44_M rfl (by decide) q_held ?_
    refine j_bipush (v := 8) d_M_effect_167 (by decide) ?_
    refine j_iload d_M_effect_169 rfl ?_
    refine j_imul d_M_effect_171 ?_
    refine j_iconst (v := 5) d_M_effect_172 (by decide) ?_
    refine j_iadd d_M_effect_173 ?_
    refine j_iload_n d_M_effect_174 rfl ?_
    refine j_iadd d_M_effect_175 ?_
    refine j_eqi (i82 (E 5 % 8) (E 2) 5) ?_
    refine j_aload_n d_M_effect_176 rfl ?_
    refine j_getR d_M_effect_177 h0 f_M_44_M rfl (by decide) q_held ?_
    refine j_iload d_M_effect_180 rfl ?_
    refine j_iald d_M_effect_182 t_held (aIx.n (by omega) (by decide)) ?_
    refine j_eqi (show _ = nI (svN (G.2.2.2 (E 5 % 8)) E) by rw [mm_I_sI, if_neg (by omega), mm_I_sI, if_pos ⟨rfl, rfl⟩]) ?_
    refine j_iast d_M_effect_183 t_held (aIx.n (by omega) (by decide)) ?_
    refine j_return d_M_effect_184 rfl ?_ (by decide) (by decide)
    have o : oI M (sI (sI (sI M 344 (8 * (E 5 % 8) + E 5 / 8) (nI (svN (G.2.2.2 (E 5 % 8)) E))) 344 (8 * (E 5 % 8) + 2 + E 2) (nI (E 3))) 344 (8 * (E 5 % 8) + 5 + E 2) (nI (svN (G.2.2.2 (E 5 % 8)) E))) (fun a => a = 344) := (((oI.rf M (fun a => a = 344)).sI rfl).sI rfl).sI rfl
    refine ⟨rfl, mGp_held hG o h8 (fun x hx => ?_) (fun i hi => ?_), o.mono (fun a ha => by unfold gcl; omega)⟩
    · rw [mm_I_sI, if_neg (by omega), mm_I_sI, if_neg (by omega), mm_I_sI, if_neg (by omega)]
    · show _ = nI (svH (G.2.2.2 (E 5 % 8)) E i)
      unfold svH
      rw [mm_I_sI]
      by_cases z1 : i = 5 + E 2
      · rw [if_pos ⟨rfl, by omega⟩, z1, fu_s]
      · rw [if_neg (by omega), fu_n _ _ z1, mm_I_sI]
        by_cases z2 : i = 2 + E 2
        · rw [if_pos ⟨rfl, by omega⟩, z2, fu_s]
        · rw [if_neg (by omega), fu_n _ _ z2, mm_I_sI]
          by_cases z3 : i = E 5 / 8
          · rw [if_pos ⟨rfl, by omega⟩, z3, fu_s]
          · rw [if_neg (by omega), fu_n _ _ z3]; exact g3 (by omega) i hi
set_option maxRecDepth 20000 in
set_option maxHeartbeats 1000000 in
theorem q_group (M : aM) (S : aS) (t n : Nat) (h : mRep M S) (hi : sInv S t) (h3 : 3 ≤ n) (hn : n < 12) : aK m_M_group 2 0 0 M [.ref 332, .int (nI n)] (fun M1 r => r = none ∧ mGp M1 (sGp S n) ∧ oI M M1 gcl) := by
  refine aK.of (by decide) (Nat.le_of_ble_eq_true rfl) ?_
  have hm := h.1
  obtain ⟨i1, i2, i3, i4⟩ := hi.1 n hn
  have hkn := (h.2 n hn).2.2.2.2.1
  have loop : ∀ (j k : Nat) (M1 : aM) (z3 z4 z5 z6 z7 : Option Value), k + j = sKn S n → oI M M1 gcl → mGp M1 (grp (n / 3) (sLg S n) k) → aJ aX0 m_M_group 2 0 0 (fun M1 r => r = none ∧ mGp M1 (sGp S n) ∧ oI M M1 gcl) 0 0 35 [some (.ref 332), some (.int (nI n)), some (.int (nI k)), z3, z4, z5, z6, z7] [] M1 := by
    intro j
    induction j with
    | zero =>
      intro k M1 z3 z4 z5 z6 z7 hk o hG
      have ek : k = sKn S n := by omega
      have kn1 : mI M1 337 n = nI (sKn S n) := (o.2.2 337 (by unfold gcl; omega) n).trans hkn
      obtain ⟨h0, q_off, t_off, q_leads, t_leads, q_term, t_term, q_length, t_length, q_known, t_known, q_logs, t_logs, q_entry, t_entry, q_members, t_members, q_owners, t_owners, q_owner, t_owner, q_condition, t_condition, q_held, t_held⟩ := o.mSh hm
      refine j_iload_n d_M_group_35 rfl ?_
      refine j_aload_n d_M_group_36 rfl ?_
      refine j_getR d_M_group_37 h0 f_M_23_M rfl (by decide) q_known ?_
      refine j_iload_n d_M_group_40 rfl ?_
      refine j_iald d_M_group_41 t_known (aIx.n hn (by decide)) ?_
      refine j_eqi kn1 ?_
      refine j_icmp_ge (tgt := 232) d_M_group_42 (by decide) (fun h42 => ?_) (fun h42 => False.elim (h42 (nI_le (by omega) (by omega))))
      refine j_return d_M_group_232 rfl ?_ (by decide) (by decide)
      rw [ek] at hG
      exact ⟨rfl, hG, o⟩
    | succ j ih =>
      intro k M1 z3 z4 z5 z6 z7 hk o hG
      have kn1 : mI M1 337 n = nI (sKn S n) := (o.2.2 337 (by unfold gcl; omega) n).trans hkn
      have eV1 := i4 k (by omega)
      have gV1 := gpV_grp (g := n / 3) (lg := sLg S n) (by omega) k (fun x hx => i4 x (by omega))
      have hs1 : mGp M1 (grp (n / 3) (sLg S n) k) := hG
      have hE : lgE M1 (15 * (80 * n + k)) (sLg S n k) := (lgE_of h hn i1 (by omega)).o o (by unfold gcl; omega)
      have ihG : ∀ (M2 : aM) (z3 z4 z5 z6 z7 : Option Value), oI M M2 gcl → mGp M2 (gpStep (n / 3) (grp (n / 3) (sLg S n) k) (sLg S n k)) → aJ aX0 m_M_group 2 0 0 (fun M1 r => r = none ∧ mGp M1 (sGp S n) ∧ oI M M1 gcl) 0 0 35 [some (.ref 332), some (.int (nI n)), some (.int (nI (k + 1))), z3, z4, z5, z6, z7] [] M2 := fun M2 z3 z4 z5 z6 z7 o2 hG2 => ih (k + 1) M2 z3 z4 z5 z6 z7 (by omega) o2 hG2
      generalize hpp : 15 * (80 * n + k) = p at hE
      generalize grp (n / 3) (sLg S n) k = G at hG gV1 hs1 ihG
      generalize sLg S n k = E at eV1 hE ihG
      obtain ⟨-, v7, -, -, v4, v5, v6, v77⟩ := eV1
      have hp := hE.1
      have g16 := gV1.1
      have at226 : ∀ (M2 : aM) (z3 z4 z5 z6 z7 : Option Value), oI M1 M2 gcl → mGp M2 (gpStep (n / 3) G E) → aJ aX0 m_M_group 2 0 0 (fun M1 r => r = none ∧ mGp M1 (sGp S n) ∧ oI M M1 gcl) 0 0 226 [some (.ref 332), some (.int (nI n)), some (.int (nI k)), z3, z4, z5, z6, z7] [] M2 := by
        intro M2 z3 z4 z5 z6 z7 o2 hG2
        refine j_iinc (nI (k + 1)) d_M_group_226 rfl (nI_inc k) (by decide) ?_
        refine j_goto 35 d_M_group_229 (by decide) ?_
        -- at 35
        exact ihG M2 z3 z4 z5 z6 z7 (o.tr o2) hG2
      have at71 : aJ aX0 m_M_group 2 0 0 (fun M1 r => r = none ∧ mGp M1 (sGp S n) ∧ oI M M1 gcl) 0 0 71 [some (.ref 332), some (.int (nI n)), some (.int (nI k)), some (.int (nI p)), some (.int (nI (E 1))), some (.int (nI (E 2))), z6, z7] [] M1 := by
        have hmm := o.mSh hm
        obtain ⟨h0, q_off, t_off, q_leads, t_leads, q_term, t_term, q_length, t_length, q_known, t_known, q_logs, t_logs, q_entry, t_entry, q_members, t_members, q_owners, t_owners, q_owner, t_owner, q_condition, t_condition, q_held, t_held⟩ := o.mSh hm
        rcases (by omega : E 1 < 4 ∨ E 1 = 4 ∨ E 1 = 5 ∨ E 1 = 6 ∨ E 1 = 7) with e1 | e1 | e1 | e1 | e1
        · have hst : gpStep (n / 3) G E = G := gp_o e1
          refine j_iload d_M_group_71 rfl ?_
          refine j_bipush (v := 6) d_M_group_73 (by decide) ?_
          refine j_icmp_eq (tgt := 85) d_M_group_75 (by decide) (fun h75 => False.elim (absurd (i_eq (b := 6) (by omega) (by decide) h75) (by omega))) (fun h75 => ?_)
          refine j_iload d_M_group_78 rfl ?_
          refine j_bipush (v := 7) d_M_group_80 (by decide) ?_
          refine j_icmp_ne (tgt := 126) d_M_group_82 (by decide) (fun h82 => ?_) (fun h82 => False.elim (absurd (i_eq (b := 7) (by omega) (by decide) h82) (by omega)))
          refine j_iconst (v := 0) d_M_group_126 (by decide) ?_
          refine j_istore d_M_group_127 (by decide) ?_
          refine j_iload d_M_group_129 rfl ?_
          refine j_iconst (v := 4) d_M_group_131 (by decide) ?_
          refine j_icmp_ne (tgt := 143) d_M_group_132 (by decide) (fun h132 => ?_) (fun h132 => False.elim (absurd (i_eq (b := 4) (by omega) (by decide) h132) (by omega)))
          refine j_iload d_M_group_143 rfl ?_
          refine j_iconst (v := 5) d_M_group_145 (by decide) ?_
          refine j_icmp_ne (tgt := 154) d_M_group_146 (by decide) (fun h146 => ?_) (fun h146 => False.elim (absurd (i_eq (b := 5) (by omega) (by decide) h146) (by omega)))
          refine j_iload d_M_group_154 rfl ?_
          refine j_if_eq (tgt := 226) d_M_group_156 (by decide) (fun h156 => ?_) (fun h156 => False.elim (h156 rfl))
          -- at 226
          exact at226 M1 _ _ _ _ _ (oI.rf M1 _) (by rw [hst]; exact hs1)
        · obtain ⟨f1, f2⟩ := v4 e1
          have hcf : aK m_M_configure 1 0 0 M1 [.ref 332, .int (nI (n / 3)), .int (nI p)] (fun M2 r => r = none ∧ mGp M2 (gpStep (n / 3) G E) ∧ oI M1 M2 gcl) := by
            by_cases q : gSet G ∧ E 2 = G.1 + 1
            · rw [gp_4 e1 q]
              exact q_configure M1 (n / 3) p G E hmm hs1 gV1 hE (by omega) (by omega) f1 f2 q
            · rw [gp_4n e1 q]
              refine (q_configure_0 M1 (n / 3) p G E hmm hs1 gV1 hE (by omega) (by omega) f1 q).weaken ?_
              rintro M2 r ⟨rfl, rfl⟩
              exact ⟨rfl, hs1, oI.rf _ _⟩
          refine j_iload d_M_group_71 rfl ?_
          refine j_bipush (v := 6) d_M_group_73 (by decide) ?_
          refine j_icmp_eq (tgt := 85) d_M_group_75 (by decide) (fun h75 => False.elim (absurd (i_eq (b := 6) (by omega) (by decide) h75) (by omega))) (fun h75 => ?_)
          refine j_iload d_M_group_78 rfl ?_
          refine j_bipush (v := 7) d_M_group_80 (by decide) ?_
          refine j_icmp_ne (tgt := 126) d_M_group_82 (by decide) (fun h82 => ?_) (fun h82 => False.elim (absurd (i_eq (b := 7) (by omega) (by decide) h82) (by omega)))
          refine j_iconst (v := 0) d_M_group_126 (by decide) ?_
          refine j_istore d_M_group_127 (by decide) ?_
          refine j_iload d_M_group_129 rfl ?_
          refine j_iconst (v := 4) d_M_group_131 (by decide) ?_
          refine j_icmp_ne (tgt := 143) d_M_group_132 (by decide) (fun h132 => False.elim (h132 (by rw [e1]; rfl))) (fun h132 => ?_)
          refine j_aload_n d_M_group_135 rfl ?_
          refine j_iload_n d_M_group_136 rfl ?_
          refine j_iconst (v := 3) d_M_group_137 (by decide) ?_
          refine j_idiv d_M_group_138 (by decide) ?_
          refine j_eqi (g3d hn) ?_
          refine j_iload_n d_M_group_139 rfl ?_
          refine j_callV (vs := [_, _]) d_M_group_140 h0 (by decide) rfl w746 w748 w7 w749 ws_M_configure y_M_configure (by decide) (by decide) (hcf) rfl (Nat.le_of_ble_eq_true rfl) (by decide) (by decide) (fun M2 r2 hq2 => ?_)
          obtain ⟨rfl, hG2, o2⟩ := hq2
          refine j_iload d_M_group_143 rfl ?_
          refine j_iconst (v := 5) d_M_group_145 (by decide) ?_
          refine j_icmp_ne (tgt := 154) d_M_group_146 (by decide) (fun h146 => ?_) (fun h146 => False.elim (absurd (i_eq (b := 5) (by omega) (by decide) h146) (by omega)))
          refine j_iload d_M_group_154 rfl ?_
          refine j_if_eq (tgt := 226) d_M_group_156 (by decide) (fun h156 => ?_) (fun h156 => False.elim (h156 rfl))
          -- at 226
          exact at226 M2 _ _ _ _ _ o2 hG2
        · obtain ⟨f1, f2, f3, f4, f5, f6⟩ := v5 e1
          have hcf : aK m_M_effect 0 0 0 M1 [.ref 332, .int (nI p)] (fun M2 r => r = none ∧ mGp M2 (gpStep (n / 3) G E) ∧ oI M1 M2 gcl) := by
            by_cases q : (G.2.2.1 (E 5 % 8) = 1 ∧ G.2.2.2 (E 5 % 8) (2 + E 2) < E 3)
            · rw [gp_5 e1, if_pos q]
              exact q_effect M1 (n / 3) p G E hmm hs1 gV1 hE f1 f3 f4 f5 f6 q
            · rw [gp_5 e1, if_neg q]
              refine (q_effect_0 M1 (n / 3) p G E hmm hs1 gV1 hE f1 f3 f4 f5 f6 q).weaken ?_
              rintro M2 r ⟨rfl, rfl⟩
              exact ⟨rfl, hs1, oI.rf _ _⟩
          refine j_iload d_M_group_71 rfl ?_
          refine j_bipush (v := 6) d_M_group_73 (by decide) ?_
          refine j_icmp_eq (tgt := 85) d_M_group_75 (by decide) (fun h75 => False.elim (absurd (i_eq (b := 6) (by omega) (by decide) h75) (by omega))) (fun h75 => ?_)
          refine j_iload d_M_group_78 rfl ?_
          refine j_bipush (v := 7) d_M_group_80 (by decide) ?_
          refine j_icmp_ne (tgt := 126) d_M_group_82 (by decide) (fun h82 => ?_) (fun h82 => False.elim (absurd (i_eq (b := 7) (by omega) (by decide) h82) (by omega)))
          refine j_iconst (v := 0) d_M_group_126 (by decide) ?_
          refine j_istore d_M_group_127 (by decide) ?_
          refine j_iload d_M_group_129 rfl ?_
          refine j_iconst (v := 4) d_M_group_131 (by decide) ?_
          refine j_icmp_ne (tgt := 143) d_M_group_132 (by decide) (fun h132 => ?_) (fun h132 => False.elim (absurd (i_eq (b := 4) (by omega) (by decide) h132) (by omega)))
          refine j_iload d_M_group_143 rfl ?_
          refine j_iconst (v := 5) d_M_group_145 (by decide) ?_
          refine j_icmp_ne (tgt := 154) d_M_group_146 (by decide) (fun h146 => False.elim (h146 (by rw [e1]; rfl))) (fun h146 => ?_)
          refine j_aload_n d_M_group_149 rfl ?_
          refine j_iload_n d_M_group_150 rfl ?_
          refine j_callV (vs := [_]) d_M_group_151 h0 (by decide) rfl w754 w756 w7 w757 ws_M_effect y_M_effect (by decide) (by decide) (hcf) rfl (Nat.le_of_ble_eq_true rfl) (by decide) (by decide) (fun M2 r2 hq2 => ?_)
          obtain ⟨rfl, hG2, o2⟩ := hq2
          refine j_iload d_M_group_154 rfl ?_
          refine j_if_eq (tgt := 226) d_M_group_156 (by decide) (fun h156 => ?_) (fun h156 => False.elim (h156 rfl))
          -- at 226
          exact at226 M2 _ _ _ _ _ o2 hG2
        · obtain ⟨f1, f2, f3⟩ := v6 e1
          obtain ⟨g1, g2, g3⟩ := hs1.2 (E 2) f1
          have c3 := gV1.c f1
          have hst : gpStep (n / 3) G E = if E 3 = G.1 ∧ G.2.2.1 (E 2) = 2 then gpIn G E else G := gp_6 e1
          have inner : E 3 = G.1 ∧ G.2.2.1 (E 2) = 2 → ∀ (j i : Nat) (M2 : aM) (z6 : Option Value), i + j = 8 → oI (sI M1 343 (E 2) 1) M2 (fun a => a = 344) → (∀ x, ¬ (8 * E 2 ≤ x ∧ x < 8 * E 2 + i) → mI M2 344 x = mI M1 344 x) → (∀ c, c < i → mI M2 344 (8 * E 2 + c) = nI (E (7 + c))) → aJ aX0 m_M_group 2 0 0 (fun M1 r => r = none ∧ mGp M1 (sGp S n) ∧ oI M M1 gcl) 0 0 181 [some (.ref 332), some (.int (nI n)), some (.int (nI k)), some (.int (nI p)), some (.int (nI (E 1))), some (.int (nI (E 2))), z6, some (.int (nI i))] [] M2 := by
            intro hy j
            induction j with
            | zero =>
              intro i M2 z6 hij o2 e1x e2x
              have e8 : i = 8 := by omega
              subst e8
              have o3 : oI M1 M2 gcl := ((oI.rf M1 gcl).sI (o := 343) (k := E 2) (x := 1) (Or.inr (by omega))).tr (o2.mono (fun a ha => by unfold gcl; omega))
              obtain ⟨h0, q_off, t_off, q_leads, t_leads, q_term, t_term, q_length, t_length, q_known, t_known, q_logs, t_logs, q_entry, t_entry, q_members, t_members, q_owners, t_owners, q_owner, t_owner, q_condition, t_condition, q_held, t_held⟩ := (o.tr o3).mSh hm
              refine j_iload d_M_group_181 rfl ?_
              refine j_bipush (v := 8) d_M_group_183 (by decide) ?_
              refine j_icmp_ge (tgt := 226) d_M_group_185 (by decide) (fun h185 => ?_) (fun h185 => False.elim (h185 (nI_le (by decide) (by decide))))
              -- at 226
              refine at226 M2 _ _ _ _ _ o3 ?_
              rw [hst, if_pos hy]
              refine ⟨(o2.2.2 332 (by decide) 10).trans ((by rw [mm_I_sI, if_neg (by omega)] : mI (sI M1 343 (E 2) 1) 332 10 = mI M1 332 10).trans hs1.1), fun s hs => ?_⟩
              obtain ⟨x1, x2, x3⟩ := hs1.2 s hs
              have y1 : mI M2 342 s = mI M1 342 s := (o2.2.2 342 (by decide) s).trans (by rw [mm_I_sI, if_neg (by omega)])
              have y2 : mI M2 343 s = if s = E 2 then 1 else mI M1 343 s := (o2.2.2 343 (by decide) s).trans (by
                rw [mm_I_sI]
                by_cases z : s = E 2
                · rw [if_pos ⟨rfl, z⟩, if_pos z]
                · rw [if_neg (fun y => z y.2), if_neg z])
              show _ ∧ mI M2 343 s = nI (fu G.2.2.1 (E 2) 1 s) ∧ (fu G.2.2.1 (E 2) 1 s ≠ 0 → ∀ i, i < 8 → mI M2 344 (8 * s + i) = nI (fu G.2.2.2 (E 2) (fun i => if i < 8 then E (7 + i) else G.2.2.2 (E 2) i) s i))
              refine ⟨y1.trans x1, ?_, fun q i hi => ?_⟩
              · rw [y2]
                by_cases z : s = E 2
                · rw [if_pos z, z, fu_s]; rfl
                · rw [if_neg z, fu_n _ _ z]; exact x2
              · by_cases z : s = E 2
                · subst z; rw [fu_s, e2x i hi]; show _ = nI (if i < 8 then E (7 + i) else _); rw [if_pos hi]
                · rw [fu_n _ _ z] at q
                  rw [fu_n _ _ z, e1x _ (by omega)]; exact x3 q i hi
            | succ j ih9 =>
              intro i M2 z6 hij o2 e1x e2x
              have o3 : oI M1 M2 gcl := ((oI.rf M1 gcl).sI (o := 343) (k := E 2) (x := 1) (Or.inr (by omega))).tr (o2.mono (fun a ha => by unfold gcl; omega))
              have lE : mI M2 338 (p + 7 + i) = nI (E (7 + i)) := by rw [o3.2.2 338 (by unfold gcl; omega), Nat.add_assoc]; exact hE.2 (7 + i) (by omega)
              obtain ⟨h0, q_off, t_off, q_leads, t_leads, q_term, t_term, q_length, t_length, q_known, t_known, q_logs, t_logs, q_entry, t_entry, q_members, t_members, q_owners, t_owners, q_owner, t_owner, q_condition, t_condition, q_held, t_held⟩ := (o.tr o3).mSh hm
              refine j_iload d_M_group_181 rfl ?_
              refine j_bipush (v := 8) d_M_group_183 (by decide) ?_
              refine j_icmp_ge (tgt := 226) d_M_group_185 (by decide) (fun h185 => False.elim (nI_ge (b := 8) (by omega) (by decide) h185)) (fun h185 => ?_)
              refine j_iload d_M_group_188 rfl ?_
              refine j_bipush (v := 6) d_M_group_190 (by decide) ?_
              refine j_icmp_ne (tgt := 226) d_M_group_192 (by decide) (fun h192 => False.elim (h192 (by rw [e1]; rfl))) (fun h192 => ?_)
              refine j_aload_n d_M_group_195 rfl ?_
              refine j_getR d_M_group_196 h0 f_M_44_M rfl (by decide) q_held ?_
              refine j_bipush (v := 8) d_M_group_199 (by decide) ?_
              refine j_iload d_M_group_201 rfl ?_
              refine j_imul d_M_group_203 ?_
              refine j_iload d_M_group_204 rfl ?_
              refine j_iadd d_M_group_206 ?_
              refine j_eqi (i8 (E 2) i) ?_
              refine j_aload_n d_M_group_207 rfl ?_
              refine j_getR d_M_group_208 h0 f_M_26_M rfl (by decide) q_logs ?_
              refine j_iload_n d_M_group_211 rfl ?_
              refine j_bipush (v := 7) d_M_group_212 (by decide) ?_
              refine j_iadd d_M_group_214 ?_
              refine j_eqi (nI_add p 7) ?_
              refine j_iload d_M_group_215 rfl ?_
              refine j_iadd d_M_group_217 ?_
              refine j_eqi (nI_add (p + 7) i) ?_
              refine j_iald d_M_group_218 t_logs (aIx.n (by omega) (by decide)) ?_
              refine j_eqi lE ?_
              refine j_iast d_M_group_219 t_held (aIx.n (by omega) (by decide)) ?_
              refine j_iinc (nI (i + 1)) d_M_group_220 rfl (nI_inc i) (by decide) ?_
              refine j_goto 181 d_M_group_223 (by decide) ?_
              -- at 181
              refine ih9 (i + 1) _ _ (by omega) (o2.sI rfl) (fun x hx => ?_) (fun c hc => ?_)
              · rw [mm_I_sI, if_neg (by omega)]; exact e1x x (by omega)
              · rw [mm_I_sI]
                by_cases z : c = i
                · rw [if_pos ⟨rfl, by rw [z]⟩, z]
                · rw [if_neg (by omega)]; exact e2x c (by omega)
          have at159 : E 3 = G.1 ∧ G.2.2.1 (E 2) = 2 → ∀ z6 : Option Value, aJ aX0 m_M_group 2 0 0 (fun M1 r => r = none ∧ mGp M1 (sGp S n) ∧ oI M M1 gcl) 0 0 159 [some (.ref 332), some (.int (nI n)), some (.int (nI k)), some (.int (nI p)), some (.int (nI (E 1))), some (.int (nI (E 2))), z6, z7] [] M1 := by
            rintro ⟨k97, k119⟩ z6
            refine j_aload_n d_M_group_159 rfl ?_
            refine j_getR d_M_group_160 h0 f_M_41_M rfl (by decide) q_condition ?_
            refine j_iload d_M_group_163 rfl ?_
            refine j_iload d_M_group_165 rfl ?_
            refine j_bipush (v := 6) d_M_group_167 (by decide) ?_
            refine j_icmp_ne (tgt := 176) d_M_group_169 (by decide) (fun h169 => False.elim (h169 (by rw [e1]; rfl))) (fun h169 => ?_)
            refine j_iconst (v := 1) d_M_group_172 (by decide) ?_
            refine j_goto 177 d_M_group_173 (by decide) ?_
            refine j_iast d_M_group_177 t_condition (aIx.n (by omega) (by decide)) ?_
            refine j_iconst (v := 0) d_M_group_178 (by decide) ?_
            refine j_istore d_M_group_179 (by decide) ?_
            -- at 181
            exact inner ⟨k97, k119⟩ 8 0 _ _ (by decide) (oI.rf _ _) (fun x hx => by rw [mm_I_sI, if_neg (by omega)]) (fun c hc => absurd hc (Nat.not_lt_zero c))
          refine j_iload d_M_group_71 rfl ?_
          refine j_bipush (v := 6) d_M_group_73 (by decide) ?_
          refine j_icmp_eq (tgt := 85) d_M_group_75 (by decide) (fun h75 => ?_) (fun h75 => False.elim (h75 (by rw [e1]; rfl)))
          refine j_aload_n d_M_group_85 rfl ?_
          refine j_getR d_M_group_86 h0 f_M_26_M rfl (by decide) q_logs ?_
          refine j_iload_n d_M_group_89 rfl ?_
          refine j_iconst (v := 3) d_M_group_90 (by decide) ?_
          refine j_iadd d_M_group_91 ?_
          refine j_eqi (nI_add p 3) ?_
          refine j_iald d_M_group_92 t_logs (aIx.n (by omega) (by decide)) ?_
          refine j_eqi (hE.2 3 (by decide)) ?_
          refine j_aload_n d_M_group_93 rfl ?_
          refine j_geti d_M_group_94 h0 f_M_99_M rfl (by decide) ?_
          refine j_eqi hs1.1 ?_
          refine j_icmp_ne (tgt := 126) d_M_group_97 (by decide) (fun h97 => ?_) (fun h97 => ?_)
          · have k97 := i_ne (by omega) (by omega) h97
            have hno : ¬ (E 3 = G.1 ∧ G.2.2.1 (E 2) = 2) := fun q => k97 q.1
            refine j_iconst (v := 0) d_M_group_126 (by decide) ?_
            refine j_istore d_M_group_127 (by decide) ?_
            refine j_iload d_M_group_129 rfl ?_
            refine j_iconst (v := 4) d_M_group_131 (by decide) ?_
            refine j_icmp_ne (tgt := 143) d_M_group_132 (by decide) (fun h132 => ?_) (fun h132 => False.elim (absurd (i_eq (b := 4) (by omega) (by decide) h132) (by omega)))
            refine j_iload d_M_group_143 rfl ?_
            refine j_iconst (v := 5) d_M_group_145 (by decide) ?_
            refine j_icmp_ne (tgt := 154) d_M_group_146 (by decide) (fun h146 => ?_) (fun h146 => False.elim (absurd (i_eq (b := 5) (by omega) (by decide) h146) (by omega)))
            refine j_iload d_M_group_154 rfl ?_
            refine j_if_eq (tgt := 226) d_M_group_156 (by decide) (fun h156 => ?_) (fun h156 => ?_)
            · first
                | exact absurd h156 (by decide)
                | exact at226 M1 _ _ _ _ _ (oI.rf M1 _) (by rw [hst, if_neg hno]; exact hs1)
            · first
                | exact absurd rfl h156
                | exact at159 ⟨k97, k119⟩ _
          · have k97 := i_eq (by omega) (by omega) h97
            refine j_aload_n d_M_group_100 rfl ?_
            refine j_getR d_M_group_101 h0 f_M_41_M rfl (by decide) q_condition ?_
            refine j_iload d_M_group_104 rfl ?_
            refine j_iald d_M_group_106 t_condition (aIx.n (by omega) (by decide)) ?_
            refine j_eqi g2 ?_
            refine j_iload d_M_group_107 rfl ?_
            refine j_bipush (v := 6) d_M_group_109 (by decide) ?_
            refine j_icmp_ne (tgt := 118) d_M_group_111 (by decide) (fun h111 => False.elim (h111 (by rw [e1]; rfl))) (fun h111 => ?_)
            refine j_iconst (v := 2) d_M_group_114 (by decide) ?_
            refine j_goto 119 d_M_group_115 (by decide) ?_
            refine j_icmp_ne (tgt := 126) d_M_group_119 (by decide) (fun h119 => ?_) (fun h119 => ?_)
            · have k119 := i_ne (b := 2) (by omega) (by decide) h119
              have hno : ¬ (E 3 = G.1 ∧ G.2.2.1 (E 2) = 2) := fun q => k119 q.2
              refine j_iconst (v := 0) d_M_group_126 (by decide) ?_
              refine j_istore d_M_group_127 (by decide) ?_
              refine j_iload d_M_group_129 rfl ?_
              refine j_iconst (v := 4) d_M_group_131 (by decide) ?_
              refine j_icmp_ne (tgt := 143) d_M_group_132 (by decide) (fun h132 => ?_) (fun h132 => False.elim (absurd (i_eq (b := 4) (by omega) (by decide) h132) (by omega)))
              refine j_iload d_M_group_143 rfl ?_
              refine j_iconst (v := 5) d_M_group_145 (by decide) ?_
              refine j_icmp_ne (tgt := 154) d_M_group_146 (by decide) (fun h146 => ?_) (fun h146 => False.elim (absurd (i_eq (b := 5) (by omega) (by decide) h146) (by omega)))
              refine j_iload d_M_group_154 rfl ?_
              refine j_if_eq (tgt := 226) d_M_group_156 (by decide) (fun h156 => ?_) (fun h156 => ?_)
              · first
                  | exact absurd h156 (by decide)
                  | exact at226 M1 _ _ _ _ _ (oI.rf M1 _) (by rw [hst, if_neg hno]; exact hs1)
              · first
                  | exact absurd rfl h156
                  | exact at159 ⟨k97, k119⟩ _
            · have k119 := i_eq (b := 2) (by omega) (by decide) h119
              refine j_iconst (v := 1) d_M_group_122 (by decide) ?_
              refine j_goto 127 d_M_group_123 (by decide) ?_
              refine j_istore d_M_group_127 (by decide) ?_
              refine j_iload d_M_group_129 rfl ?_
              refine j_iconst (v := 4) d_M_group_131 (by decide) ?_
              refine j_icmp_ne (tgt := 143) d_M_group_132 (by decide) (fun h132 => ?_) (fun h132 => False.elim (absurd (i_eq (b := 4) (by omega) (by decide) h132) (by omega)))
              refine j_iload d_M_group_143 rfl ?_
              refine j_iconst (v := 5) d_M_group_145 (by decide) ?_
              refine j_icmp_ne (tgt := 154) d_M_group_146 (by decide) (fun h146 => ?_) (fun h146 => False.elim (absurd (i_eq (b := 5) (by omega) (by decide) h146) (by omega)))
              refine j_iload d_M_group_154 rfl ?_
              refine j_if_eq (tgt := 226) d_M_group_156 (by decide) (fun h156 => ?_) (fun h156 => ?_)
              · first
                  | exact absurd h156 (by decide)
                  | exact at226 M1 _ _ _ _ _ (oI.rf M1 _) (by rw [hst, if_neg hno]; exact hs1)
              · first
                  | exact absurd rfl h156
                  | exact at159 ⟨k97, k119⟩ _
        · obtain ⟨f1, f2⟩ := v77 e1
          obtain ⟨g1, g2, g3⟩ := hs1.2 (E 2) f1
          have c3 := gV1.c f1
          have hst : gpStep (n / 3) G E = if E 3 = G.1 ∧ G.2.2.1 (E 2) = 3 then gpDl G E else G := gp_7 e1
          have at159 : E 3 = G.1 ∧ G.2.2.1 (E 2) = 3 → ∀ z6 : Option Value, aJ aX0 m_M_group 2 0 0 (fun M1 r => r = none ∧ mGp M1 (sGp S n) ∧ oI M M1 gcl) 0 0 159 [some (.ref 332), some (.int (nI n)), some (.int (nI k)), some (.int (nI p)), some (.int (nI (E 1))), some (.int (nI (E 2))), z6, z7] [] M1 := by
            rintro ⟨k97, k119⟩ z6
            refine j_aload_n d_M_group_159 rfl ?_
            refine j_getR d_M_group_160 h0 f_M_41_M rfl (by decide) q_condition ?_
            refine j_iload d_M_group_163 rfl ?_
            refine j_iload d_M_group_165 rfl ?_
            refine j_bipush (v := 6) d_M_group_167 (by decide) ?_
            refine j_icmp_ne (tgt := 176) d_M_group_169 (by decide) (fun h169 => ?_) (fun h169 => False.elim (absurd (i_eq (b := 6) (by omega) (by decide) h169) (by omega)))
            refine j_iconst (v := 0) d_M_group_176 (by decide) ?_
            refine j_iast d_M_group_177 t_condition (aIx.n (by omega) (by decide)) ?_
            refine j_iconst (v := 0) d_M_group_178 (by decide) ?_
            refine j_istore d_M_group_179 (by decide) ?_
            refine j_iload d_M_group_181 rfl ?_
            refine j_bipush (v := 8) d_M_group_183 (by decide) ?_
            refine j_icmp_ge (tgt := 226) d_M_group_185 (by decide) (fun h185 => False.elim (absurd h185 (by decide))) (fun h185 => ?_)
            refine j_iload d_M_group_188 rfl ?_
            refine j_bipush (v := 6) d_M_group_190 (by decide) ?_
            refine j_icmp_ne (tgt := 226) d_M_group_192 (by decide) (fun h192 => ?_) (fun h192 => False.elim (absurd (i_eq (b := 6) (by omega) (by decide) h192) (by omega)))
            -- at 226
            refine at226 _ _ _ _ _ _ ((oI.rf M1 gcl).sI (Or.inr (by omega))) ?_
            rw [hst, if_pos ⟨k97, k119⟩]
            refine ⟨(by rw [mm_I_sI, if_neg (by omega)]; exact hs1.1), fun s hs => ?_⟩
            obtain ⟨x1, x2, x3⟩ := hs1.2 s hs
            show _ ∧ _ = nI (fu G.2.2.1 (E 2) 0 s) ∧ (fu G.2.2.1 (E 2) 0 s ≠ 0 → ∀ i, i < 8 → _ = nI (G.2.2.2 s i))
            rw [mm_I_sI, if_neg (by omega), mm_I_sI]
            by_cases z : s = E 2
            · rw [if_pos ⟨rfl, z⟩, z, fu_s]; exact ⟨by rw [← z]; exact x1, rfl, fun q => absurd rfl q⟩
            · rw [if_neg (fun y => z y.2), fu_n _ _ z]; exact ⟨x1, x2, fun q i hi => by rw [mm_I_sI, if_neg (by omega)]; exact x3 q i hi⟩
          refine j_iload d_M_group_71 rfl ?_
          refine j_bipush (v := 6) d_M_group_73 (by decide) ?_
          refine j_icmp_eq (tgt := 85) d_M_group_75 (by decide) (fun h75 => False.elim (absurd (i_eq (b := 6) (by omega) (by decide) h75) (by omega))) (fun h75 => ?_)
          refine j_iload d_M_group_78 rfl ?_
          refine j_bipush (v := 7) d_M_group_80 (by decide) ?_
          refine j_icmp_ne (tgt := 126) d_M_group_82 (by decide) (fun h82 => False.elim (h82 (by rw [e1]; rfl))) (fun h82 => ?_)
          refine j_aload_n d_M_group_85 rfl ?_
          refine j_getR d_M_group_86 h0 f_M_26_M rfl (by decide) q_logs ?_
          refine j_iload_n d_M_group_89 rfl ?_
          refine j_iconst (v := 3) d_M_group_90 (by decide) ?_
          refine j_iadd d_M_group_91 ?_
          refine j_eqi (nI_add p 3) ?_
          refine j_iald d_M_group_92 t_logs (aIx.n (by omega) (by decide)) ?_
          refine j_eqi (hE.2 3 (by decide)) ?_
          refine j_aload_n d_M_group_93 rfl ?_
          refine j_geti d_M_group_94 h0 f_M_99_M rfl (by decide) ?_
          refine j_eqi hs1.1 ?_
          refine j_icmp_ne (tgt := 126) d_M_group_97 (by decide) (fun h97 => ?_) (fun h97 => ?_)
          · have k97 := i_ne (by omega) (by omega) h97
            have hno : ¬ (E 3 = G.1 ∧ G.2.2.1 (E 2) = 3) := fun q => k97 q.1
            refine j_iconst (v := 0) d_M_group_126 (by decide) ?_
            refine j_istore d_M_group_127 (by decide) ?_
            refine j_iload d_M_group_129 rfl ?_
            refine j_iconst (v := 4) d_M_group_131 (by decide) ?_
            refine j_icmp_ne (tgt := 143) d_M_group_132 (by decide) (fun h132 => ?_) (fun h132 => False.elim (absurd (i_eq (b := 4) (by omega) (by decide) h132) (by omega)))
            refine j_iload d_M_group_143 rfl ?_
            refine j_iconst (v := 5) d_M_group_145 (by decide) ?_
            refine j_icmp_ne (tgt := 154) d_M_group_146 (by decide) (fun h146 => ?_) (fun h146 => False.elim (absurd (i_eq (b := 5) (by omega) (by decide) h146) (by omega)))
            refine j_iload d_M_group_154 rfl ?_
            refine j_if_eq (tgt := 226) d_M_group_156 (by decide) (fun h156 => ?_) (fun h156 => ?_)
            · first
                | exact absurd h156 (by decide)
                | exact at226 M1 _ _ _ _ _ (oI.rf M1 _) (by rw [hst, if_neg hno]; exact hs1)
            · first
                | exact absurd rfl h156
                | exact at159 ⟨k97, k119⟩ _
          · have k97 := i_eq (by omega) (by omega) h97
            refine j_aload_n d_M_group_100 rfl ?_
            refine j_getR d_M_group_101 h0 f_M_41_M rfl (by decide) q_condition ?_
            refine j_iload d_M_group_104 rfl ?_
            refine j_iald d_M_group_106 t_condition (aIx.n (by omega) (by decide)) ?_
            refine j_eqi g2 ?_
            refine j_iload d_M_group_107 rfl ?_
            refine j_bipush (v := 6) d_M_group_109 (by decide) ?_
            refine j_icmp_ne (tgt := 118) d_M_group_111 (by decide) (fun h111 => ?_) (fun h111 => False.elim (absurd (i_eq (b := 6) (by omega) (by decide) h111) (by omega)))
            refine j_iconst (v := 3) d_M_group_118 (by decide) ?_
            refine j_icmp_ne (tgt := 126) d_M_group_119 (by decide) (fun h119 => ?_) (fun h119 => ?_)
            · have k119 := i_ne (b := 3) (by omega) (by decide) h119
              have hno : ¬ (E 3 = G.1 ∧ G.2.2.1 (E 2) = 3) := fun q => k119 q.2
              refine j_iconst (v := 0) d_M_group_126 (by decide) ?_
              refine j_istore d_M_group_127 (by decide) ?_
              refine j_iload d_M_group_129 rfl ?_
              refine j_iconst (v := 4) d_M_group_131 (by decide) ?_
              refine j_icmp_ne (tgt := 143) d_M_group_132 (by decide) (fun h132 => ?_) (fun h132 => False.elim (absurd (i_eq (b := 4) (by omega) (by decide) h132) (by omega)))
              refine j_iload d_M_group_143 rfl ?_
              refine j_iconst (v := 5) d_M_group_145 (by decide) ?_
              refine j_icmp_ne (tgt := 154) d_M_group_146 (by decide) (fun h146 => ?_) (fun h146 => False.elim (absurd (i_eq (b := 5) (by omega) (by decide) h146) (by omega)))
              refine j_iload d_M_group_154 rfl ?_
              refine j_if_eq (tgt := 226) d_M_group_156 (by decide) (fun h156 => ?_) (fun h156 => ?_)
              · first
                  | exact absurd h156 (by decide)
                  | exact at226 M1 _ _ _ _ _ (oI.rf M1 _) (by rw [hst, if_neg hno]; exact hs1)
              · first
                  | exact absurd rfl h156
                  | exact at159 ⟨k97, k119⟩ _
            · have k119 := i_eq (b := 3) (by omega) (by decide) h119
              refine j_iconst (v := 1) d_M_group_122 (by decide) ?_
              refine j_goto 127 d_M_group_123 (by decide) ?_
              refine j_istore d_M_group_127 (by decide) ?_
              refine j_iload d_M_group_129 rfl ?_
              refine j_iconst (v := 4) d_M_group_131 (by decide) ?_
              refine j_icmp_ne (tgt := 143) d_M_group_132 (by decide) (fun h132 => ?_) (fun h132 => False.elim (absurd (i_eq (b := 4) (by omega) (by decide) h132) (by omega)))
              refine j_iload d_M_group_143 rfl ?_
              refine j_iconst (v := 5) d_M_group_145 (by decide) ?_
              refine j_icmp_ne (tgt := 154) d_M_group_146 (by decide) (fun h146 => ?_) (fun h146 => False.elim (absurd (i_eq (b := 5) (by omega) (by decide) h146) (by omega)))
              refine j_iload d_M_group_154 rfl ?_
              refine j_if_eq (tgt := 226) d_M_group_156 (by decide) (fun h156 => ?_) (fun h156 => ?_)
              · first
                  | exact absurd h156 (by decide)
                  | exact at226 M1 _ _ _ _ _ (oI.rf M1 _) (by rw [hst, if_neg hno]; exact hs1)
              · first
                  | exact absurd rfl h156
                  | exact at159 ⟨k97, k119⟩ _
      obtain ⟨h0, q_off, t_off, q_leads, t_leads, q_term, t_term, q_length, t_length, q_known, t_known, q_logs, t_logs, q_entry, t_entry, q_members, t_members, q_owners, t_owners, q_owner, t_owner, q_condition, t_condition, q_held, t_held⟩ := o.mSh hm
      refine j_iload_n d_M_group_35 rfl ?_
      refine j_aload_n d_M_group_36 rfl ?_
      refine j_getR d_M_group_37 h0 f_M_23_M rfl (by decide) q_known ?_
      refine j_iload_n d_M_group_40 rfl ?_
      refine j_iald d_M_group_41 t_known (aIx.n hn (by decide)) ?_
      refine j_eqi kn1 ?_
      refine j_icmp_ge (tgt := 232) d_M_group_42 (by decide) (fun h42 => False.elim (nI_ge (a := k) (b := sKn S n) (by omega) (by omega) h42)) (fun h42 => ?_)
      refine j_iload_n d_M_group_45 rfl ?_
      refine j_iload_n d_M_group_46 rfl ?_
      refine j_callS (vs := [_, _]) d_M_group_47 w699 w700 w7 w701 y_M_place (by decide) (by decide) (k_place M1 n k) rfl (Nat.le_of_ble_eq_true rfl) (by decide) (by decide) (fun M2 r2 hq2 => ?_)
      obtain ⟨rfl, rfl⟩ := hq2
      rw [hpp]
      refine j_istore_n d_M_group_50 (by decide) ?_
      refine j_aload_n d_M_group_51 rfl ?_
      refine j_getR d_M_group_52 h0 f_M_26_M rfl (by decide) q_logs ?_
      refine j_iload_n d_M_group_55 rfl ?_
      refine j_iconst (v := 1) d_M_group_56 (by decide) ?_
      refine j_iadd d_M_group_57 ?_
      refine j_eqi (nI_add p 1) ?_
      refine j_iald d_M_group_58 t_logs (aIx.n (by omega) (by decide)) ?_
      refine j_eqi (hE.2 1 (by decide)) ?_
      refine j_istore d_M_group_59 (by decide) ?_
      refine j_aload_n d_M_group_61 rfl ?_
      refine j_getR d_M_group_62 h0 f_M_26_M rfl (by decide) q_logs ?_
      refine j_iload_n d_M_group_65 rfl ?_
      refine j_iconst (v := 2) d_M_group_66 (by decide) ?_
      refine j_iadd d_M_group_67 ?_
      refine j_eqi (nI_add p 2) ?_
      refine j_iald d_M_group_68 t_logs (aIx.n (by omega) (by decide)) ?_
      refine j_eqi (hE.2 2 (by decide)) ?_
      refine j_istore d_M_group_69 (by decide) ?_
      -- at 71
      exact at71
  have st : ∀ (j i : Nat) (M1 : aM), i + j = 8 → oI M M1 gcl → mI M1 332 10 = 0 → (∀ s, s < i → mI M1 342 s = 0 ∧ mI M1 343 s = 0) → aJ aX0 m_M_group 2 0 0 (fun M1 r => r = none ∧ mGp M1 (sGp S n) ∧ oI M M1 gcl) 0 0 7 [some (.ref 332), some (.int (nI n)), some (.int (nI i)), none, none, none, none, none] [] M1 := by
    intro j
    induction j with
    | zero =>
      intro i M1 hij o h10 hz
      have e8 : i = 8 := by omega
      subst e8
      obtain ⟨h0, q_off, t_off, q_leads, t_leads, q_term, t_term, q_length, t_length, q_known, t_known, q_logs, t_logs, q_entry, t_entry, q_members, t_members, q_owners, t_owners, q_owner, t_owner, q_condition, t_condition, q_held, t_held⟩ := o.mSh hm
      refine j_iload_n d_M_group_7 rfl ?_
      refine j_bipush (v := 8) d_M_group_8 (by decide) ?_
      refine j_icmp_ge (tgt := 33) d_M_group_10 (by decide) (fun h10_ => ?_) (fun h10_ => False.elim (h10_ (nI_le (by decide) (by decide))))
      refine j_iconst (v := 0) d_M_group_33 (by decide) ?_
      refine j_istore_n d_M_group_34 (by decide) ?_
      -- at 35
      exact loop (sKn S n) 0 M1 _ _ _ _ _ (Nat.zero_add _) o ⟨h10, fun s hs => ⟨(hz s hs).1, (hz s hs).2, fun q => absurd rfl q⟩⟩
    | succ j ih =>
      intro i M1 hij o h10 hz
      obtain ⟨h0, q_off, t_off, q_leads, t_leads, q_term, t_term, q_length, t_length, q_known, t_known, q_logs, t_logs, q_entry, t_entry, q_members, t_members, q_owners, t_owners, q_owner, t_owner, q_condition, t_condition, q_held, t_held⟩ := o.mSh hm
      refine j_iload_n d_M_group_7 rfl ?_
      refine j_bipush (v := 8) d_M_group_8 (by decide) ?_
      refine j_icmp_ge (tgt := 33) d_M_group_10 (by decide) (fun h10_ => False.elim (nI_ge (b := 8) (by omega) (by decide) h10_)) (fun h10_ => ?_)
      refine j_aload_n d_M_group_13 rfl ?_
      refine j_getR d_M_group_14 h0 f_M_38_M rfl (by decide) q_owner ?_
      refine j_iload_n d_M_group_17 rfl ?_
      refine j_iconst (v := 0) d_M_group_18 (by decide) ?_
      refine j_iast d_M_group_19 t_owner (aIx.n (by omega) (by decide)) ?_
      refine j_aload_n d_M_group_20 rfl ?_
      refine j_getR d_M_group_21 h0 f_M_41_M rfl (by decide) q_condition ?_
      refine j_iload_n d_M_group_24 rfl ?_
      refine j_iconst (v := 0) d_M_group_25 (by decide) ?_
      refine j_iast d_M_group_26 t_condition (aIx.n (by omega) (by decide)) ?_
      refine j_iinc (nI (i + 1)) d_M_group_27 rfl (nI_inc i) (by decide) ?_
      refine j_goto 7 d_M_group_30 (by decide) ?_
      -- at 7
      refine ih (i + 1) _ (by omega) ((o.sI (Or.inr (by omega))).sI (Or.inr (by omega))) ?_ (fun s hs => ?_)
      · rw [mm_I_sI, if_neg (by omega), mm_I_sI, if_neg (by omega)]; exact h10
      · rw [mm_I_sI, if_neg (by omega), mm_I_sI, mm_I_sI]
        by_cases z : s = i
        · rw [if_pos ⟨rfl, z⟩, if_pos ⟨rfl, z⟩]; exact ⟨rfl, rfl⟩
        · rw [if_neg (fun y => z y.2), if_neg (fun y => z y.2), mm_I_sI, if_neg (by omega)]; exact hz s (by omega)
  obtain ⟨h0, q_off, t_off, q_leads, t_leads, q_term, t_term, q_length, t_length, q_known, t_known, q_logs, t_logs, q_entry, t_entry, q_members, t_members, q_owners, t_owners, q_owner, t_owner, q_condition, t_condition, q_held, t_held⟩ := hm
  refine j_aload_n d_M_group_0 rfl ?_
  refine j_iconst (v := 0) d_M_group_1 (by decide) ?_
  refine j_puti d_M_group_2 h0 p_M_99_M rfl (by decide) rfl rfl ?_
  refine j_iconst (v := 0) d_M_group_5 (by decide) ?_
  refine j_istore_n d_M_group_6 (by decide) ?_
  -- at 7
  exact st 8 0 _ (by decide) ((oI.rf M gcl).sI (Or.inl rfl)) (by rw [mm_I_sI, if_pos ⟨rfl, rfl⟩]) (fun s hs => absurd hs (Nat.not_lt_zero s))
