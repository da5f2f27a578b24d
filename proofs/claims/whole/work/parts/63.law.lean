/-! the law's own rows -/
def aXl (L : Nat) (xs : Nat → Int32) : Nat → Nat → State → Prop := fun b scr s => va_X scr L xs s s.heap ∧ scr < s.heap.size ∧ scr < b
section JL
variable {X : Nat → Nat → State → Prop} {μ : aMd} {d mc ms : Nat} {Q : aM → Option Value → Prop} {uc us pc : Nat} {ls : List (Option Value)} {st : List Value} {M : aM}
theorem j_slen {L : Nat} {xs : Nat → Int32} {x : UInt32} (hd : decode μ.2.1 pc = .ok (.arraylength, 1)) (kk : aJ (aXl L xs) μ d mc ms Q uc us (pc + 1) ls (.int (nI L) :: st) M) : aJ (aXl L xs) μ d mc ms Q uc us pc ls (.float x :: st) M := by
  intro D cA b scr p l e R s m args below meth c Qf H locs a C hX hO hS hL
  exact va_slen C.1 C.2.1 hX.1 hX.2.1 (fun q => Nat.not_lt.mpr q hX.2.2) hS hd (kk D cA b scr p l e R s m args below meth c Qf H locs a C hX hO hS hL)
theorem j_sld {L j : Nat} {xs : Nat → Int32} {x : UInt32} {i : Int32} (hd : decode μ.2.1 pc = .ok (.iaload, 1)) (hj : aIx i L j) (kk : aJ (aXl L xs) μ d mc ms Q uc us (pc + 1) ls (.int (xs j) :: st) M) : aJ (aXl L xs) μ d mc ms Q uc us pc ls (.int i :: .float x :: st) M := by
  intro D cA b scr p l e R s m args below meth c Qf H locs a C hX hO hS hL
  have h := kk D cA b scr p l e R s m args below meth c Qf H locs a C hX hO hS hL
  rw [← hj.2] at h
  exact va_sld C.1 C.2.1 hX.1 hX.2.1 (fun q => Nat.not_lt.mpr q hX.2.2) hS hj.1 hd h
theorem j_tabOut {dflt lo hi : Int} {offs : Array Int} {len : Nat} {x : Int32} {tgt : Nat} (hd : decode μ.2.1 pc = .ok (.tableswitch dflt lo hi offs, len)) (h : x.toInt < lo ∨ hi < x.toInt) (ht : (pc : Int) + dflt = (tgt : Int)) (kk : aJ X μ d mc ms Q uc us tgt ls st M) : aJ X μ d mc ms Q uc us pc ls (.int x :: st) M := by
  intro D cA b scr p l e R s m args below meth c Qf H locs a C hX hO hS hL
  exact lv_tableOut C.1 C.2.1 hd h ht (kk D cA b scr p l e R s m args below meth c Qf H locs a C hX hO hS hL)
theorem j_tabIn {dflt lo hi : Int} {offs : Array Int} {len : Nat} {x : Int32} {off : Int} {tgt : Nat} (hd : decode μ.2.1 pc = .ok (.tableswitch dflt lo hi offs, len)) (h1 : ¬ x.toInt < lo) (h2 : ¬ hi < x.toInt) (ho : offs[(x.toInt - lo).toNat]? = some off) (ht : (pc : Int) + off = (tgt : Int)) (kk : aJ X μ d mc ms Q uc us tgt ls st M) : aJ X μ d mc ms Q uc us pc ls (.int x :: st) M := by
  intro D cA b scr p l e R s m args below meth c Qf H locs a C hX hO hS hL
  exact lv_tableIn C.1 C.2.1 hd h1 h2 ho ht (kk D cA b scr p l e R s m args below meth c Qf H locs a C hX hO hS hL)
end JL
theorem cR_fY {M M1 : aM} {S : aS} (h : cR M S) (f : fY M M1) : cR M1 S := cR_sm ⟨Nat.le_of_eq f.1.symm, fun a ha _ => f.2 a (by unfold im at ha; omega)⟩ (fun a ha => f.2 a (by omega)) h
def QL : aM → Option Value → Prop := fun _ r => r = some (.int 1)
theorem sub7 {L i : Nat} (hL : L ≤ 3584) (hi : i ≤ 10000) : nI L - 7 < nI i ↔ L < i + 7 := by
  have z7 : (7 : Int32).toInt = 7 := by decide
  rw [Int32.lt_iff_toInt_lt, Int32.toInt_sub, nI_toInt (by omega), nI_toInt (by omega), z7, Int.bmod_eq_of_le (by omega) (by omega)]
  omega

theorem mSh_fM {M M1 : aM} (h : mSh M) (f : fM M M1) : mSh M1 := by
  obtain ⟨h0, q_off, t_off, q_leads, t_leads, q_term, t_term, q_length, t_length, q_known, t_known, q_logs, t_logs, q_entry, t_entry, q_members, t_members, q_owners, t_owners, q_owner, t_owner, q_condition, t_condition, q_held, t_held⟩ := h
  have s : ∀ a, 332 ≤ a → a < 345 → sm M M1 a := f.2
  exact ⟨(s 332 (by decide) (by decide)).tO f.1 h0, (s 332 (by decide) (by decide)).R q_off, (s 333 (by decide) (by decide)).tA f.1 t_off, (s 332 (by decide) (by decide)).R q_leads, (s 334 (by decide) (by decide)).tA f.1 t_leads, (s 332 (by decide) (by decide)).R q_term, (s 335 (by decide) (by decide)).tA f.1 t_term, (s 332 (by decide) (by decide)).R q_length, (s 336 (by decide) (by decide)).tA f.1 t_length, (s 332 (by decide) (by decide)).R q_known, (s 337 (by decide) (by decide)).tA f.1 t_known, (s 332 (by decide) (by decide)).R q_logs, (s 338 (by decide) (by decide)).tA f.1 t_logs, (s 332 (by decide) (by decide)).R q_entry, (s 339 (by decide) (by decide)).tA f.1 t_entry, (s 332 (by decide) (by decide)).R q_members, (s 340 (by decide) (by decide)).tA f.1 t_members, (s 332 (by decide) (by decide)).R q_owners, (s 341 (by decide) (by decide)).tA f.1 t_owners, (s 332 (by decide) (by decide)).R q_owner, (s 342 (by decide) (by decide)).tA f.1 t_owner, (s 332 (by decide) (by decide)).R q_condition, (s 343 (by decide) (by decide)).tA f.1 t_condition, (s 332 (by decide) (by decide)).R q_held, (s 344 (by decide) (by decide)).tA f.1 t_held⟩
theorem mRep_fM {M M1 : aM} {S : aS} (h : mRep M S) (f : fM M M1) : mRep M1 S := by
  refine ⟨mSh_fM h.1 f, fun n hn => ?_⟩
  obtain ⟨a1, a2, a3, a4, a5, a6⟩ := h.2 n hn
  have s : ∀ a, 332 ≤ a → a < 345 → sm M M1 a := f.2
  exact ⟨(s 333 (by decide) (by decide)).I a1, (s 334 (by decide) (by decide)).I a2, (s 335 (by decide) (by decide)).I a3, (s 336 (by decide) (by decide)).I a4, (s 337 (by decide) (by decide)).I a5, fun k hk c hc => (s 338 (by decide) (by decide)).I (a6 k hk c hc)⟩

set_option maxRecDepth 20000 in
set_option maxHeartbeats 1000000 in
theorem l_crash (L : Nat) (xs : Nat → Int32) (M : aM) (S : aS) (t i uc us : Nat) (h : cR M S) (hm : mRep M S) (hi : sInv S t) (ht : t < 300000) (hi7 : i + 7 ≤ L) (hL : L ≤ 3584) (hu : uc + 640 ≤ 600000) (hv : us + 3040 ≤ 7302250) (kk : ∀ (M1 : aM) (S1 : aS), cR M1 S1 → mRep M1 S1 → sInv S1 (t + 1) → aJ (aXl L xs) m_L_law 7 600000 7302250 QL (uc + 640) (us + 3040) 756 [some (.float 0), some (.ref 0), some (.ref 332), some (.int (nI i))] [] M1) : aJ (aXl L xs) m_L_law 7 600000 7302250 QL uc us 120 [some (.float 0), some (.ref 0), some (.ref 332), some (.int (nI i))] [] M := by
  refine j_aload_n d_L_law_120 rfl ?_
  refine j_aload_nS d_L_law_121 rfl ?_
  refine j_iload_n d_L_law_122 rfl ?_
  refine j_iconst (v := 1) d_L_law_123 (by decide) ?_
  refine j_iadd d_L_law_124 ?_
  refine j_eqi (nI_add i 1) ?_
  refine j_sld d_L_law_125 (aIx.n (by omega) (by omega)) ?_
  refine j_callV (vs := [_]) d_L_law_126 h.1.2.1 (by decide) rfl w182 w183 w1 w185 w184 y_S_crash (by decide) (by decide) (c_crash M S (xs (i + 1)) h) rfl (Nat.le_of_ble_eq_true rfl) (by omega) (by omega) (fun M1 r1 hq1 => ?_)
  obtain ⟨rfl, h1, f1⟩ := hq1
  have hm1 := mRep_fM hm f1
  refine j_aload_n d_L_law_129 rfl ?_
  refine j_aload_nS d_L_law_130 rfl ?_
  refine j_iload_n d_L_law_131 rfl ?_
  refine j_iconst (v := 1) d_L_law_132 (by decide) ?_
  refine j_iadd d_L_law_133 ?_
  refine j_eqi (nI_add i 1) ?_
  refine j_sld d_L_law_134 (aIx.n (by omega) (by omega)) ?_
  refine j_callV (vs := [_]) d_L_law_135 hm1.1.1 (by decide) rfl w676 w677 w7 w679 w678 y_M_crash (by decide) (by decide) (m_crash M1 S (xs (i + 1)) hm1) rfl (Nat.le_of_ble_eq_true rfl) (by omega) (by omega) (fun M2 r2 hq2 => ?_)
  obtain ⟨rfl, h2, f2⟩ := hq2
  refine j_icmp_eq (tgt := 756) d_L_law_138 (by decide) (fun h138 => ?_) (fun h138 => False.elim (h138 rfl))
  -- at 756
  exact j_widen (by omega) (by omega) (kk M2 _ (cR_fY h1 f2) h2 (sInv_oCrash (xs (i + 1)) hi))
set_option maxRecDepth 20000 in
set_option maxHeartbeats 1000000 in
theorem l_recover (L : Nat) (xs : Nat → Int32) (M : aM) (S : aS) (t i uc us : Nat) (h : cR M S) (hm : mRep M S) (hi : sInv S t) (ht : t < 300000) (hi7 : i + 7 ≤ L) (hL : L ≤ 3584) (hu : uc + 640 ≤ 600000) (hv : us + 3040 ≤ 7302250) (kk : ∀ (M1 : aM) (S1 : aS), cR M1 S1 → mRep M1 S1 → sInv S1 (t + 1) → aJ (aXl L xs) m_L_law 7 600000 7302250 QL (uc + 640) (us + 3040) 756 [some (.float 0), some (.ref 0), some (.ref 332), some (.int (nI i))] [] M1) : aJ (aXl L xs) m_L_law 7 600000 7302250 QL uc us 143 [some (.float 0), some (.ref 0), some (.ref 332), some (.int (nI i))] [] M := by
  refine j_aload_n d_L_law_143 rfl ?_
  refine j_aload_nS d_L_law_144 rfl ?_
  refine j_iload_n d_L_law_145 rfl ?_
  refine j_iconst (v := 1) d_L_law_146 (by decide) ?_
  refine j_iadd d_L_law_147 ?_
  refine j_eqi (nI_add i 1) ?_
  refine j_sld d_L_law_148 (aIx.n (by omega) (by omega)) ?_
  refine j_callV (vs := [_]) d_L_law_149 h.1.2.1 (by decide) rfl w194 w195 w1 w197 w196 y_S_recover (by decide) (by decide) (c_recover M S (xs (i + 1)) h) rfl (Nat.le_of_ble_eq_true rfl) (by omega) (by omega) (fun M1 r1 hq1 => ?_)
  obtain ⟨rfl, h1, f1⟩ := hq1
  have hm1 := mRep_fM hm f1
  refine j_aload_n d_L_law_152 rfl ?_
  refine j_aload_nS d_L_law_153 rfl ?_
  refine j_iload_n d_L_law_154 rfl ?_
  refine j_iconst (v := 1) d_L_law_155 (by decide) ?_
  refine j_iadd d_L_law_156 ?_
  refine j_eqi (nI_add i 1) ?_
  refine j_sld d_L_law_157 (aIx.n (by omega) (by omega)) ?_
  refine j_callV (vs := [_]) d_L_law_158 hm1.1.1 (by decide) rfl w683 w684 w7 w686 w685 y_M_recover (by decide) (by decide) (m_recover M1 S (xs (i + 1)) hm1) rfl (Nat.le_of_ble_eq_true rfl) (by omega) (by omega) (fun M2 r2 hq2 => ?_)
  obtain ⟨rfl, h2, f2⟩ := hq2
  refine j_icmp_eq (tgt := 756) d_L_law_161 (by decide) (fun h161 => ?_) (fun h161 => False.elim (h161 rfl))
  -- at 756
  exact j_widen (by omega) (by omega) (kk M2 _ (cR_fY h1 f2) h2 (sInv_oRecover (xs (i + 1)) hi))
set_option maxRecDepth 20000 in
set_option maxHeartbeats 1000000 in
theorem l_elect (L : Nat) (xs : Nat → Int32) (M : aM) (S : aS) (t i uc us : Nat) (h : cR M S) (hm : mRep M S) (hi : sInv S t) (ht : t < 300000) (hi7 : i + 7 ≤ L) (hL : L ≤ 3584) (hu : uc + 640 ≤ 600000) (hv : us + 3040 ≤ 7302250) (kk : ∀ (M1 : aM) (S1 : aS), cR M1 S1 → mRep M1 S1 → sInv S1 (t + 1) → aJ (aXl L xs) m_L_law 7 600000 7302250 QL (uc + 640) (us + 3040) 756 [some (.float 0), some (.ref 0), some (.ref 332), some (.int (nI i))] [] M1) : aJ (aXl L xs) m_L_law 7 600000 7302250 QL uc us 166 [some (.float 0), some (.ref 0), some (.ref 332), some (.int (nI i))] [] M := by
  refine j_aload_n d_L_law_166 rfl ?_
  refine j_aload_nS d_L_law_167 rfl ?_
  refine j_iload_n d_L_law_168 rfl ?_
  refine j_iconst (v := 1) d_L_law_169 (by decide) ?_
  refine j_iadd d_L_law_170 ?_
  refine j_eqi (nI_add i 1) ?_
  refine j_sld d_L_law_171 (aIx.n (by omega) (by omega)) ?_
  refine j_callV (vs := [_]) d_L_law_172 h.1.2.1 (by decide) rfl w198 w199 w1 w201 w200 y_S_elect (by decide) (by decide) (c_elect M S t (xs (i + 1)) h hi ht) rfl (Nat.le_of_ble_eq_true rfl) (by omega) (by omega) (fun M1 r1 hq1 => ?_)
  obtain ⟨rfl, h1, f1⟩ := hq1
  have hm1 := mRep_fM hm f1
  refine j_aload_n d_L_law_175 rfl ?_
  refine j_aload_nS d_L_law_176 rfl ?_
  refine j_iload_n d_L_law_177 rfl ?_
  refine j_iconst (v := 1) d_L_law_178 (by decide) ?_
  refine j_iadd d_L_law_179 ?_
  refine j_eqi (nI_add i 1) ?_
  refine j_sld d_L_law_180 (aIx.n (by omega) (by omega)) ?_
  refine j_callV (vs := [_]) d_L_law_181 hm1.1.1 (by decide) rfl w687 w688 w7 w690 w689 y_M_elect (by decide) (by decide) (m_elect M1 S t (xs (i + 1)) hm1 hi ht) rfl (Nat.le_of_ble_eq_true rfl) (by omega) (by omega) (fun M2 r2 hq2 => ?_)
  obtain ⟨rfl, h2, f2⟩ := hq2
  refine j_icmp_eq (tgt := 756) d_L_law_184 (by decide) (fun h184 => ?_) (fun h184 => False.elim (h184 rfl))
  -- at 756
  exact j_widen (by omega) (by omega) (kk M2 _ (cR_fY h1 f2) h2 (sInv_oElect (xs (i + 1)) hi ht))
set_option maxRecDepth 20000 in
set_option maxHeartbeats 1000000 in
theorem l_ship (L : Nat) (xs : Nat → Int32) (M : aM) (S : aS) (t i uc us : Nat) (h : cR M S) (hm : mRep M S) (hi : sInv S t) (ht : t < 300000) (hi7 : i + 7 ≤ L) (hL : L ≤ 3584) (hu : uc + 640 ≤ 600000) (hv : us + 3040 ≤ 7302250) (kk : ∀ (M1 : aM) (S1 : aS), cR M1 S1 → mRep M1 S1 → sInv S1 (t + 1) → aJ (aXl L xs) m_L_law 7 600000 7302250 QL (uc + 640) (us + 3040) 756 [some (.float 0), some (.ref 0), some (.ref 332), some (.int (nI i))] [] M1) : aJ (aXl L xs) m_L_law 7 600000 7302250 QL uc us 189 [some (.float 0), some (.ref 0), some (.ref 332), some (.int (nI i))] [] M := by
  refine j_aload_n d_L_law_189 rfl ?_
  refine j_aload_nS d_L_law_190 rfl ?_
  refine j_iload_n d_L_law_191 rfl ?_
  refine j_iconst (v := 1) d_L_law_192 (by decide) ?_
  refine j_iadd d_L_law_193 ?_
  refine j_eqi (nI_add i 1) ?_
  refine j_sld d_L_law_194 (aIx.n (by omega) (by omega)) ?_
  refine j_aload_nS d_L_law_195 rfl ?_
  refine j_iload_n d_L_law_196 rfl ?_
  refine j_iconst (v := 2) d_L_law_197 (by decide) ?_
  refine j_iadd d_L_law_198 ?_
  refine j_eqi (nI_add i 2) ?_
  refine j_sld d_L_law_199 (aIx.n (by omega) (by omega)) ?_
  refine j_callV (vs := [_, _]) d_L_law_200 h.1.2.1 (by decide) rfl w250 w251 w1 w253 w252 y_S_ship (by decide) (by decide) (c_ship M S t (xs (i + 1)) (xs (i + 2)) h hi ht) rfl (Nat.le_of_ble_eq_true rfl) (by omega) (by omega) (fun M1 r1 hq1 => ?_)
  obtain ⟨rfl, h1, f1⟩ := hq1
  have hm1 := mRep_fM hm f1
  refine j_aload_n d_L_law_203 rfl ?_
  refine j_aload_nS d_L_law_204 rfl ?_
  refine j_iload_n d_L_law_205 rfl ?_
  refine j_iconst (v := 1) d_L_law_206 (by decide) ?_
  refine j_iadd d_L_law_207 ?_
  refine j_eqi (nI_add i 1) ?_
  refine j_sld d_L_law_208 (aIx.n (by omega) (by omega)) ?_
  refine j_aload_nS d_L_law_209 rfl ?_
  refine j_iload_n d_L_law_210 rfl ?_
  refine j_iconst (v := 2) d_L_law_211 (by decide) ?_
  refine j_iadd d_L_law_212 ?_
  refine j_eqi (nI_add i 2) ?_
  refine j_sld d_L_law_213 (aIx.n (by omega) (by omega)) ?_
  refine j_callV (vs := [_, _]) d_L_law_214 hm1.1.1 (by decide) rfl w714 w715 w7 w717 w716 y_M_ship (by decide) (by decide) (m_ship M1 S t (xs (i + 1)) (xs (i + 2)) hm1 hi ht) rfl (Nat.le_of_ble_eq_true rfl) (by omega) (by omega) (fun M2 r2 hq2 => ?_)
  obtain ⟨rfl, h2, f2⟩ := hq2
  refine j_icmp_eq (tgt := 756) d_L_law_217 (by decide) (fun h217 => ?_) (fun h217 => False.elim (h217 rfl))
  -- at 756
  exact j_widen (by omega) (by omega) (kk M2 _ (cR_fY h1 f2) h2 (sInv_oShip (xs (i + 1)) (xs (i + 2)) hi))
set_option maxRecDepth 20000 in
set_option maxHeartbeats 1000000 in
theorem l_change (L : Nat) (xs : Nat → Int32) (M : aM) (S : aS) (t i uc us : Nat) (h : cR M S) (hm : mRep M S) (hi : sInv S t) (ht : t < 300000) (hi7 : i + 7 ≤ L) (hL : L ≤ 3584) (hu : uc + 640 ≤ 600000) (hv : us + 3040 ≤ 7302250) (kk : ∀ (M1 : aM) (S1 : aS), cR M1 S1 → mRep M1 S1 → sInv S1 (t + 1) → aJ (aXl L xs) m_L_law 7 600000 7302250 QL (uc + 640) (us + 3040) 756 [some (.float 0), some (.ref 0), some (.ref 332), some (.int (nI i))] [] M1) : aJ (aXl L xs) m_L_law 7 600000 7302250 QL uc us 222 [some (.float 0), some (.ref 0), some (.ref 332), some (.int (nI i))] [] M := by
  refine j_aload_n d_L_law_222 rfl ?_
  refine j_aload_nS d_L_law_223 rfl ?_
  refine j_iload_n d_L_law_224 rfl ?_
  refine j_iconst (v := 1) d_L_law_225 (by decide) ?_
  refine j_iadd d_L_law_226 ?_
  refine j_eqi (nI_add i 1) ?_
  refine j_sld d_L_law_227 (aIx.n (by omega) (by omega)) ?_
  refine j_aload_nS d_L_law_228 rfl ?_
  refine j_iload_n d_L_law_229 rfl ?_
  refine j_iconst (v := 2) d_L_law_230 (by decide) ?_
  refine j_iadd d_L_law_231 ?_
  refine j_eqi (nI_add i 2) ?_
  refine j_sld d_L_law_232 (aIx.n (by omega) (by omega)) ?_
  refine j_aload_nS d_L_law_233 rfl ?_
  refine j_iload_n d_L_law_234 rfl ?_
  refine j_iconst (v := 3) d_L_law_235 (by decide) ?_
  refine j_iadd d_L_law_236 ?_
  refine j_eqi (nI_add i 3) ?_
  refine j_sld d_L_law_237 (aIx.n (by omega) (by omega)) ?_
  refine j_aload_nS d_L_law_238 rfl ?_
  refine j_iload_n d_L_law_239 rfl ?_
  refine j_iconst (v := 4) d_L_law_240 (by decide) ?_
  refine j_iadd d_L_law_241 ?_
  refine j_eqi (nI_add i 4) ?_
  refine j_sld d_L_law_242 (aIx.n (by omega) (by omega)) ?_
  refine j_callV (vs := [_, _, _, _]) d_L_law_243 h.1.2.1 (by decide) rfl w418 w419 w1 w421 w420 y_S_change (by decide) (by decide) (c_change M S t (xs (i + 1)) (xs (i + 2)) (xs (i + 3)) (xs (i + 4)) h hi) rfl (Nat.le_of_ble_eq_true rfl) (by omega) (by omega) (fun M1 r1 hq1 => ?_)
  obtain ⟨rfl, h1, f1⟩ := hq1
  have hm1 := mRep_fM hm f1
  refine j_aload_n d_L_law_246 rfl ?_
  refine j_aload_nS d_L_law_247 rfl ?_
  refine j_iload_n d_L_law_248 rfl ?_
  refine j_iconst (v := 1) d_L_law_249 (by decide) ?_
  refine j_iadd d_L_law_250 ?_
  refine j_eqi (nI_add i 1) ?_
  refine j_sld d_L_law_251 (aIx.n (by omega) (by omega)) ?_
  refine j_aload_nS d_L_law_252 rfl ?_
  refine j_iload_n d_L_law_253 rfl ?_
  refine j_iconst (v := 2) d_L_law_254 (by decide) ?_
  refine j_iadd d_L_law_255 ?_
  refine j_eqi (nI_add i 2) ?_
  refine j_sld d_L_law_256 (aIx.n (by omega) (by omega)) ?_
  refine j_aload_nS d_L_law_257 rfl ?_
  refine j_iload_n d_L_law_258 rfl ?_
  refine j_iconst (v := 3) d_L_law_259 (by decide) ?_
  refine j_iadd d_L_law_260 ?_
  refine j_eqi (nI_add i 3) ?_
  refine j_sld d_L_law_261 (aIx.n (by omega) (by omega)) ?_
  refine j_aload_nS d_L_law_262 rfl ?_
  refine j_iload_n d_L_law_263 rfl ?_
  refine j_iconst (v := 4) d_L_law_264 (by decide) ?_
  refine j_iadd d_L_law_265 ?_
  refine j_eqi (nI_add i 4) ?_
  refine j_sld d_L_law_266 (aIx.n (by omega) (by omega)) ?_
  refine j_callV (vs := [_, _, _, _]) d_L_law_267 hm1.1.1 (by decide) rfl w722 w723 w7 w725 w724 y_M_change (by decide) (by decide) (m_change M1 S t (xs (i + 1)) (xs (i + 2)) (xs (i + 3)) (xs (i + 4)) hm1 hi) rfl (Nat.le_of_ble_eq_true rfl) (by omega) (by omega) (fun M2 r2 hq2 => ?_)
  obtain ⟨rfl, h2, f2⟩ := hq2
  refine j_icmp_eq (tgt := 756) d_L_law_270 (by decide) (fun h270 => ?_) (fun h270 => False.elim (h270 rfl))
  -- at 756
  exact j_widen (by omega) (by omega) (kk M2 _ (cR_fY h1 f2) h2 (sInv_oChange (xs (i + 1)) (xs (i + 2)) (xs (i + 3)) (xs (i + 4)) hi ht))
set_option maxRecDepth 20000 in
set_option maxHeartbeats 1000000 in
theorem l_request (L : Nat) (xs : Nat → Int32) (M : aM) (S : aS) (t i uc us : Nat) (h : cR M S) (hm : mRep M S) (hi : sInv S t) (ht : t < 300000) (hi7 : i + 7 ≤ L) (hL : L ≤ 3584) (hu : uc + 640 ≤ 600000) (hv : us + 3040 ≤ 7302250) (kk : ∀ (M1 : aM) (S1 : aS), cR M1 S1 → mRep M1 S1 → sInv S1 (t + 1) → aJ (aXl L xs) m_L_law 7 600000 7302250 QL (uc + 640) (us + 3040) 756 [some (.float 0), some (.ref 0), some (.ref 332), some (.int (nI i))] [] M1) : aJ (aXl L xs) m_L_law 7 600000 7302250 QL uc us 275 [some (.float 0), some (.ref 0), some (.ref 332), some (.int (nI i))] [] M := by
  refine j_aload_n d_L_law_275 rfl ?_
  refine j_aload_nS d_L_law_276 rfl ?_
  refine j_iload_n d_L_law_277 rfl ?_
  refine j_iconst (v := 1) d_L_law_278 (by decide) ?_
  refine j_iadd d_L_law_279 ?_
  refine j_eqi (nI_add i 1) ?_
  refine j_sld d_L_law_280 (aIx.n (by omega) (by omega)) ?_
  refine j_aload_nS d_L_law_281 rfl ?_
  refine j_iload_n d_L_law_282 rfl ?_
  refine j_iconst (v := 2) d_L_law_283 (by decide) ?_
  refine j_iadd d_L_law_284 ?_
  refine j_eqi (nI_add i 2) ?_
  refine j_sld d_L_law_285 (aIx.n (by omega) (by omega)) ?_
  refine j_aload_nS d_L_law_286 rfl ?_
  refine j_iload_n d_L_law_287 rfl ?_
  refine j_iconst (v := 3) d_L_law_288 (by decide) ?_
  refine j_iadd d_L_law_289 ?_
  refine j_eqi (nI_add i 3) ?_
  refine j_sld d_L_law_290 (aIx.n (by omega) (by omega)) ?_
  refine j_aload_nS d_L_law_291 rfl ?_
  refine j_iload_n d_L_law_292 rfl ?_
  refine j_iconst (v := 4) d_L_law_293 (by decide) ?_
  refine j_iadd d_L_law_294 ?_
  refine j_eqi (nI_add i 4) ?_
  refine j_sld d_L_law_295 (aIx.n (by omega) (by omega)) ?_
  refine j_aload_nS d_L_law_296 rfl ?_
  refine j_iload_n d_L_law_297 rfl ?_
  refine j_iconst (v := 5) d_L_law_298 (by decide) ?_
  refine j_iadd d_L_law_299 ?_
  refine j_eqi (nI_add i 5) ?_
  refine j_sld d_L_law_300 (aIx.n (by omega) (by omega)) ?_
  refine j_aload_nS d_L_law_301 rfl ?_
  refine j_iload_n d_L_law_302 rfl ?_
  refine j_bipush (v := 6) d_L_law_303 (by decide) ?_
  refine j_iadd d_L_law_305 ?_
  refine j_eqi (nI_add i 6) ?_
  refine j_sld d_L_law_306 (aIx.n (by omega) (by omega)) ?_
  refine j_callV (vs := [_, _, _, _, _, _]) d_L_law_307 h.1.2.1 (by decide) rfl w459 w460 w1 w462 w461 y_S_request (by decide) (by decide) (c_request M S t (xs (i + 1)) (xs (i + 2)) (xs (i + 3)) (xs (i + 4)) (xs (i + 5)) (xs (i + 6)) h hi) rfl (Nat.le_of_ble_eq_true rfl) (by omega) (by omega) (fun M1 r1 hq1 => ?_)
  obtain ⟨rfl, h1, f1⟩ := hq1
  have hm1 := mRep_fM hm f1
  refine j_aload_n d_L_law_310 rfl ?_
  refine j_aload_nS d_L_law_311 rfl ?_
  refine j_iload_n d_L_law_312 rfl ?_
  refine j_iconst (v := 1) d_L_law_313 (by decide) ?_
  refine j_iadd d_L_law_314 ?_
  refine j_eqi (nI_add i 1) ?_
  refine j_sld d_L_law_315 (aIx.n (by omega) (by omega)) ?_
  refine j_aload_nS d_L_law_316 rfl ?_
  refine j_iload_n d_L_law_317 rfl ?_
  refine j_iconst (v := 2) d_L_law_318 (by decide) ?_
  refine j_iadd d_L_law_319 ?_
  refine j_eqi (nI_add i 2) ?_
  refine j_sld d_L_law_320 (aIx.n (by omega) (by omega)) ?_
  refine j_aload_nS d_L_law_321 rfl ?_
  refine j_iload_n d_L_law_322 rfl ?_
  refine j_iconst (v := 3) d_L_law_323 (by decide) ?_
  refine j_iadd d_L_law_324 ?_
  refine j_eqi (nI_add i 3) ?_
  refine j_sld d_L_law_325 (aIx.n (by omega) (by omega)) ?_
  refine j_aload_nS d_L_law_326 rfl ?_
  refine j_iload_n d_L_law_327 rfl ?_
  refine j_iconst (v := 4) d_L_law_328 (by decide) ?_
  refine j_iadd d_L_law_329 ?_
  refine j_eqi (nI_add i 4) ?_
  refine j_sld d_L_law_330 (aIx.n (by omega) (by omega)) ?_
  refine j_aload_nS d_L_law_331 rfl ?_
  refine j_iload_n d_L_law_332 rfl ?_
  refine j_iconst (v := 5) d_L_law_333 (by decide) ?_
  refine j_iadd d_L_law_334 ?_
  refine j_eqi (nI_add i 5) ?_
  refine j_sld d_L_law_335 (aIx.n (by omega) (by omega)) ?_
  refine j_aload_nS d_L_law_336 rfl ?_
  refine j_iload_n d_L_law_337 rfl ?_
  refine j_bipush (v := 6) d_L_law_338 (by decide) ?_
  refine j_iadd d_L_law_340 ?_
  refine j_eqi (nI_add i 6) ?_
  refine j_sld d_L_law_341 (aIx.n (by omega) (by omega)) ?_
  refine j_callV (vs := [_, _, _, _, _, _]) d_L_law_342 hm1.1.1 (by decide) rfl w730 w731 w7 w733 w732 y_M_request (by decide) (by decide) (m_request M1 S t (xs (i + 1)) (xs (i + 2)) (xs (i + 3)) (xs (i + 4)) (xs (i + 5)) (xs (i + 6)) hm1 hi) rfl (Nat.le_of_ble_eq_true rfl) (by omega) (by omega) (fun M2 r2 hq2 => ?_)
  obtain ⟨rfl, h2, f2⟩ := hq2
  refine j_icmp_eq (tgt := 756) d_L_law_345 (by decide) (fun h345 => ?_) (fun h345 => False.elim (h345 rfl))
  -- at 756
  exact j_widen (by omega) (by omega) (kk M2 _ (cR_fY h1 f2) h2 (sInv_oRequest (xs (i + 1)) (xs (i + 2)) (xs (i + 3)) (xs (i + 4)) (xs (i + 5)) (xs (i + 6)) hi ht))
set_option maxRecDepth 20000 in
set_option maxHeartbeats 1000000 in
theorem l_poll (L : Nat) (xs : Nat → Int32) (M : aM) (S : aS) (t i uc us : Nat) (h : cR M S) (hm : mRep M S) (hi : sInv S t) (ht : t < 300000) (hi7 : i + 7 ≤ L) (hL : L ≤ 3584) (hu : uc + 640 ≤ 600000) (hv : us + 3040 ≤ 7302250) (kk : ∀ (M1 : aM) (S1 : aS), cR M1 S1 → mRep M1 S1 → sInv S1 (t + 1) → aJ (aXl L xs) m_L_law 7 600000 7302250 QL (uc + 640) (us + 3040) 756 [some (.float 0), some (.ref 0), some (.ref 332), some (.int (nI i))] [] M1) : aJ (aXl L xs) m_L_law 7 600000 7302250 QL uc us 350 [some (.float 0), some (.ref 0), some (.ref 332), some (.int (nI i))] [] M := by
  refine j_aload_n d_L_law_350 rfl ?_
  refine j_aload_nS d_L_law_351 rfl ?_
  refine j_iload_n d_L_law_352 rfl ?_
  refine j_iconst (v := 1) d_L_law_353 (by decide) ?_
  refine j_iadd d_L_law_354 ?_
  refine j_eqi (nI_add i 1) ?_
  refine j_sld d_L_law_355 (aIx.n (by omega) (by omega)) ?_
  refine j_aload_nS d_L_law_356 rfl ?_
  refine j_iload_n d_L_law_357 rfl ?_
  refine j_iconst (v := 2) d_L_law_358 (by decide) ?_
  refine j_iadd d_L_law_359 ?_
  refine j_eqi (nI_add i 2) ?_
  refine j_sld d_L_law_360 (aIx.n (by omega) (by omega)) ?_
  refine j_callV (vs := [_, _]) d_L_law_361 h.1.2.1 (by decide) rfl w508 w509 w1 w511 w510 y_S_poll (by decide) (by decide) (c_poll M S t (xs (i + 1)) (xs (i + 2)) h hi) rfl (Nat.le_of_ble_eq_true rfl) (by omega) (by omega) (fun M1 r1 hq1 => ?_)
  obtain ⟨rfl, h1, f1⟩ := hq1
  have hm1 := mRep_fM hm f1
  refine j_aload_n d_L_law_364 rfl ?_
  refine j_aload_nS d_L_law_365 rfl ?_
  refine j_iload_n d_L_law_366 rfl ?_
  refine j_iconst (v := 1) d_L_law_367 (by decide) ?_
  refine j_iadd d_L_law_368 ?_
  refine j_eqi (nI_add i 1) ?_
  refine j_sld d_L_law_369 (aIx.n (by omega) (by omega)) ?_
  refine j_aload_nS d_L_law_370 rfl ?_
  refine j_iload_n d_L_law_371 rfl ?_
  refine j_iconst (v := 2) d_L_law_372 (by decide) ?_
  refine j_iadd d_L_law_373 ?_
  refine j_eqi (nI_add i 2) ?_
  refine j_sld d_L_law_374 (aIx.n (by omega) (by omega)) ?_
  refine j_callV (vs := [_, _]) d_L_law_375 hm1.1.1 (by decide) rfl w738 w739 w7 w741 w740 y_M_poll (by decide) (by decide) (m_poll M1 S t (xs (i + 1)) (xs (i + 2)) hm1 hi) rfl (Nat.le_of_ble_eq_true rfl) (by omega) (by omega) (fun M2 r2 hq2 => ?_)
  obtain ⟨rfl, h2, f2⟩ := hq2
  refine j_icmp_eq (tgt := 756) d_L_law_378 (by decide) (fun h378 => ?_) (fun h378 => False.elim (h378 rfl))
  -- at 756
  exact j_widen (by omega) (by omega) (kk M2 _ (cR_fY h1 f2) h2 (sInv_oPoll (xs (i + 1)) (xs (i + 2)) hi ht))
set_option maxRecDepth 20000 in
set_option maxHeartbeats 1000000 in
theorem l_pull (L : Nat) (xs : Nat → Int32) (M : aM) (S : aS) (t i uc us : Nat) (h : cR M S) (hm : mRep M S) (hi : sInv S t) (ht : t < 300000) (hi7 : i + 7 ≤ L) (hL : L ≤ 3584) (hu : uc + 640 ≤ 600000) (hv : us + 3040 ≤ 7302250) (kk : ∀ (M1 : aM) (S1 : aS), cR M1 S1 → mRep M1 S1 → sInv S1 (t + 1) → aJ (aXl L xs) m_L_law 7 600000 7302250 QL (uc + 640) (us + 3040) 756 [some (.float 0), some (.ref 0), some (.ref 332), some (.int (nI i))] [] M1) : aJ (aXl L xs) m_L_law 7 600000 7302250 QL uc us 383 [some (.float 0), some (.ref 0), some (.ref 332), some (.int (nI i))] [] M := by
  refine j_aload_n d_L_law_383 rfl ?_
  refine j_aload_nS d_L_law_384 rfl ?_
  refine j_iload_n d_L_law_385 rfl ?_
  refine j_iconst (v := 1) d_L_law_386 (by decide) ?_
  refine j_iadd d_L_law_387 ?_
  refine j_eqi (nI_add i 1) ?_
  refine j_sld d_L_law_388 (aIx.n (by omega) (by omega)) ?_
  refine j_aload_nS d_L_law_389 rfl ?_
  refine j_iload_n d_L_law_390 rfl ?_
  refine j_iconst (v := 2) d_L_law_391 (by decide) ?_
  refine j_iadd d_L_law_392 ?_
  refine j_eqi (nI_add i 2) ?_
  refine j_sld d_L_law_393 (aIx.n (by omega) (by omega)) ?_
  refine j_aload_nS d_L_law_394 rfl ?_
  refine j_iload_n d_L_law_395 rfl ?_
  refine j_iconst (v := 3) d_L_law_396 (by decide) ?_
  refine j_iadd d_L_law_397 ?_
  refine j_eqi (nI_add i 3) ?_
  refine j_sld d_L_law_398 (aIx.n (by omega) (by omega)) ?_
  refine j_callV (vs := [_, _, _]) d_L_law_399 h.1.2.1 (by decide) rfl w527 w528 w1 w530 w529 y_S_pull (by decide) (by decide) (c_pull M S t (xs (i + 1)) (xs (i + 2)) (xs (i + 3)) h hi) rfl (Nat.le_of_ble_eq_true rfl) (by omega) (by omega) (fun M1 r1 hq1 => ?_)
  obtain ⟨rfl, h1, f1⟩ := hq1
  have hm1 := mRep_fM hm f1
  refine j_aload_n d_L_law_402 rfl ?_
  refine j_aload_nS d_L_law_403 rfl ?_
  refine j_iload_n d_L_law_404 rfl ?_
  refine j_iconst (v := 1) d_L_law_405 (by decide) ?_
  refine j_iadd d_L_law_406 ?_
  refine j_eqi (nI_add i 1) ?_
  refine j_sld d_L_law_407 (aIx.n (by omega) (by omega)) ?_
  refine j_aload_nS d_L_law_408 rfl ?_
  refine j_iload_n d_L_law_409 rfl ?_
  refine j_iconst (v := 2) d_L_law_410 (by decide) ?_
  refine j_iadd d_L_law_411 ?_
  refine j_eqi (nI_add i 2) ?_
  refine j_sld d_L_law_412 (aIx.n (by omega) (by omega)) ?_
  refine j_aload_nS d_L_law_413 rfl ?_
  refine j_iload_n d_L_law_414 rfl ?_
  refine j_iconst (v := 3) d_L_law_415 (by decide) ?_
  refine j_iadd d_L_law_416 ?_
  refine j_eqi (nI_add i 3) ?_
  refine j_sld d_L_law_417 (aIx.n (by omega) (by omega)) ?_
  refine j_callV (vs := [_, _, _]) d_L_law_418 hm1.1.1 (by decide) rfl w778 w779 w7 w781 w780 y_M_pull (by decide) (by decide) (m_pull M1 S t (xs (i + 1)) (xs (i + 2)) (xs (i + 3)) hm1 hi) rfl (Nat.le_of_ble_eq_true rfl) (by omega) (by omega) (fun M2 r2 hq2 => ?_)
  obtain ⟨rfl, h2, f2⟩ := hq2
  refine j_icmp_eq (tgt := 756) d_L_law_421 (by decide) (fun h421 => ?_) (fun h421 => False.elim (h421 rfl))
  -- at 756
  exact j_widen (by omega) (by omega) (kk M2 _ (cR_fY h1 f2) h2 (sInv_oPull (xs (i + 1)) (xs (i + 2)) (xs (i + 3)) hi ht))
set_option maxRecDepth 20000 in
set_option maxHeartbeats 1000000 in
theorem l_confirm (L : Nat) (xs : Nat → Int32) (M : aM) (S : aS) (t i uc us : Nat) (h : cR M S) (hm : mRep M S) (hi : sInv S t) (ht : t < 300000) (hi7 : i + 7 ≤ L) (hL : L ≤ 3584) (hu : uc + 640 ≤ 600000) (hv : us + 3040 ≤ 7302250) (kk : ∀ (M1 : aM) (S1 : aS), cR M1 S1 → mRep M1 S1 → sInv S1 (t + 1) → aJ (aXl L xs) m_L_law 7 600000 7302250 QL (uc + 640) (us + 3040) 756 [some (.float 0), some (.ref 0), some (.ref 332), some (.int (nI i))] [] M1) : aJ (aXl L xs) m_L_law 7 600000 7302250 QL uc us 426 [some (.float 0), some (.ref 0), some (.ref 332), some (.int (nI i))] [] M := by
  refine j_aload_n d_L_law_426 rfl ?_
  refine j_aload_nS d_L_law_427 rfl ?_
  refine j_iload_n d_L_law_428 rfl ?_
  refine j_iconst (v := 1) d_L_law_429 (by decide) ?_
  refine j_iadd d_L_law_430 ?_
  refine j_eqi (nI_add i 1) ?_
  refine j_sld d_L_law_431 (aIx.n (by omega) (by omega)) ?_
  refine j_aload_nS d_L_law_432 rfl ?_
  refine j_iload_n d_L_law_433 rfl ?_
  refine j_iconst (v := 2) d_L_law_434 (by decide) ?_
  refine j_iadd d_L_law_435 ?_
  refine j_eqi (nI_add i 2) ?_
  refine j_sld d_L_law_436 (aIx.n (by omega) (by omega)) ?_
  refine j_aload_nS d_L_law_437 rfl ?_
  refine j_iload_n d_L_law_438 rfl ?_
  refine j_iconst (v := 3) d_L_law_439 (by decide) ?_
  refine j_iadd d_L_law_440 ?_
  refine j_eqi (nI_add i 3) ?_
  refine j_sld d_L_law_441 (aIx.n (by omega) (by omega)) ?_
  refine j_callV (vs := [_, _, _]) d_L_law_442 h.1.2.1 (by decide) rfl w550 w551 w1 w553 w552 y_S_confirm (by decide) (by decide) (c_confirm M S t (xs (i + 1)) (xs (i + 2)) (xs (i + 3)) h hi) rfl (Nat.le_of_ble_eq_true rfl) (by omega) (by omega) (fun M1 r1 hq1 => ?_)
  obtain ⟨rfl, h1, f1⟩ := hq1
  have hm1 := mRep_fM hm f1
  refine j_aload_n d_L_law_445 rfl ?_
  refine j_aload_nS d_L_law_446 rfl ?_
  refine j_iload_n d_L_law_447 rfl ?_
  refine j_iconst (v := 1) d_L_law_448 (by decide) ?_
  refine j_iadd d_L_law_449 ?_
  refine j_eqi (nI_add i 1) ?_
  refine j_sld d_L_law_450 (aIx.n (by omega) (by omega)) ?_
  refine j_aload_nS d_L_law_451 rfl ?_
  refine j_iload_n d_L_law_452 rfl ?_
  refine j_iconst (v := 2) d_L_law_453 (by decide) ?_
  refine j_iadd d_L_law_454 ?_
  refine j_eqi (nI_add i 2) ?_
  refine j_sld d_L_law_455 (aIx.n (by omega) (by omega)) ?_
  refine j_aload_nS d_L_law_456 rfl ?_
  refine j_iload_n d_L_law_457 rfl ?_
  refine j_iconst (v := 3) d_L_law_458 (by decide) ?_
  refine j_iadd d_L_law_459 ?_
  refine j_eqi (nI_add i 3) ?_
  refine j_sld d_L_law_460 (aIx.n (by omega) (by omega)) ?_
  refine j_callV (vs := [_, _, _]) d_L_law_461 hm1.1.1 (by decide) rfl w782 w783 w7 w785 w784 y_M_confirm (by decide) (by decide) (m_confirm M1 S t (xs (i + 1)) (xs (i + 2)) (xs (i + 3)) hm1 hi) rfl (Nat.le_of_ble_eq_true rfl) (by omega) (by omega) (fun M2 r2 hq2 => ?_)
  obtain ⟨rfl, h2, f2⟩ := hq2
  refine j_icmp_eq (tgt := 756) d_L_law_464 (by decide) (fun h464 => ?_) (fun h464 => False.elim (h464 rfl))
  -- at 756
  exact j_widen (by omega) (by omega) (kk M2 _ (cR_fY h1 f2) h2 (sInv_oConfirm (xs (i + 1)) (xs (i + 2)) (xs (i + 3)) hi ht))
set_option maxRecDepth 20000 in
set_option maxHeartbeats 1000000 in
theorem l_length (L : Nat) (xs : Nat → Int32) (M : aM) (S : aS) (t i uc us : Nat) (h : cR M S) (hm : mRep M S) (hi : sInv S t) (ht : t < 300000) (hi7 : i + 7 ≤ L) (hL : L ≤ 3584) (hu : uc + 640 ≤ 600000) (hv : us + 3040 ≤ 7302250) (kk : ∀ (M1 : aM) (S1 : aS), cR M1 S1 → mRep M1 S1 → sInv S1 (t + 1) → aJ (aXl L xs) m_L_law 7 600000 7302250 QL (uc + 640) (us + 3040) 756 [some (.float 0), some (.ref 0), some (.ref 332), some (.int (nI i))] [] M1) : aJ (aXl L xs) m_L_law 7 600000 7302250 QL uc us 469 [some (.float 0), some (.ref 0), some (.ref 332), some (.int (nI i))] [] M := by
  refine j_aload_n d_L_law_469 rfl ?_
  refine j_aload_nS d_L_law_470 rfl ?_
  refine j_iload_n d_L_law_471 rfl ?_
  refine j_iconst (v := 1) d_L_law_472 (by decide) ?_
  refine j_iadd d_L_law_473 ?_
  refine j_eqi (nI_add i 1) ?_
  refine j_sld d_L_law_474 (aIx.n (by omega) (by omega)) ?_
  refine j_callV (vs := [_]) d_L_law_475 h.1.2.1 (by decide) rfl w572 w573 w1 w575 w574 y_S_length (by decide) (by decide) (c_length M S (xs (i + 1)) h) rfl (Nat.le_of_ble_eq_true rfl) (by omega) (by omega) (fun M1 r1 hq1 => ?_)
  obtain ⟨rfl, h1, f1⟩ := hq1
  have hm1 := mRep_fM hm f1
  refine j_aload_n d_L_law_478 rfl ?_
  refine j_aload_nS d_L_law_479 rfl ?_
  refine j_iload_n d_L_law_480 rfl ?_
  refine j_iconst (v := 1) d_L_law_481 (by decide) ?_
  refine j_iadd d_L_law_482 ?_
  refine j_eqi (nI_add i 1) ?_
  refine j_sld d_L_law_483 (aIx.n (by omega) (by omega)) ?_
  refine j_callV (vs := [_]) d_L_law_484 hm1.1.1 (by decide) rfl w786 w787 w7 w789 w788 y_M_length (by decide) (by decide) (m_length M1 S (xs (i + 1)) hm1) rfl (Nat.le_of_ble_eq_true rfl) (by omega) (by omega) (fun M2 r2 hq2 => ?_)
  obtain ⟨rfl, h2, f2⟩ := hq2
  refine j_icmp_eq (tgt := 756) d_L_law_487 (by decide) (fun h487 => ?_) (fun h487 => False.elim (h487 rfl))
  -- at 756
  exact j_widen (by omega) (by omega) (kk M2 _ (cR_fY h1 f2) h2 ((by rw [oLength_1]; exact hi.up (by omega))))
set_option maxRecDepth 20000 in
set_option maxHeartbeats 1000000 in
theorem l_known (L : Nat) (xs : Nat → Int32) (M : aM) (S : aS) (t i uc us : Nat) (h : cR M S) (hm : mRep M S) (hi : sInv S t) (ht : t < 300000) (hi7 : i + 7 ≤ L) (hL : L ≤ 3584) (hu : uc + 640 ≤ 600000) (hv : us + 3040 ≤ 7302250) (kk : ∀ (M1 : aM) (S1 : aS), cR M1 S1 → mRep M1 S1 → sInv S1 (t + 1) → aJ (aXl L xs) m_L_law 7 600000 7302250 QL (uc + 640) (us + 3040) 756 [some (.float 0), some (.ref 0), some (.ref 332), some (.int (nI i))] [] M1) : aJ (aXl L xs) m_L_law 7 600000 7302250 QL uc us 492 [some (.float 0), some (.ref 0), some (.ref 332), some (.int (nI i))] [] M := by
  refine j_aload_n d_L_law_492 rfl ?_
  refine j_aload_nS d_L_law_493 rfl ?_
  refine j_iload_n d_L_law_494 rfl ?_
  refine j_iconst (v := 1) d_L_law_495 (by decide) ?_
  refine j_iadd d_L_law_496 ?_
  refine j_eqi (nI_add i 1) ?_
  refine j_sld d_L_law_497 (aIx.n (by omega) (by omega)) ?_
  refine j_callV (vs := [_]) d_L_law_498 h.1.2.1 (by decide) rfl w576 w577 w1 w579 w578 y_S_known (by decide) (by decide) (c_known M S (xs (i + 1)) h) rfl (Nat.le_of_ble_eq_true rfl) (by omega) (by omega) (fun M1 r1 hq1 => ?_)
  obtain ⟨rfl, h1, f1⟩ := hq1
  have hm1 := mRep_fM hm f1
  refine j_aload_n d_L_law_501 rfl ?_
  refine j_aload_nS d_L_law_502 rfl ?_
  refine j_iload_n d_L_law_503 rfl ?_
  refine j_iconst (v := 1) d_L_law_504 (by decide) ?_
  refine j_iadd d_L_law_505 ?_
  refine j_eqi (nI_add i 1) ?_
  refine j_sld d_L_law_506 (aIx.n (by omega) (by omega)) ?_
  refine j_callV (vs := [_]) d_L_law_507 hm1.1.1 (by decide) rfl w790 w791 w7 w793 w792 y_M_known (by decide) (by decide) (m_known M1 S (xs (i + 1)) hm1) rfl (Nat.le_of_ble_eq_true rfl) (by omega) (by omega) (fun M2 r2 hq2 => ?_)
  obtain ⟨rfl, h2, f2⟩ := hq2
  refine j_icmp_eq (tgt := 756) d_L_law_510 (by decide) (fun h510 => ?_) (fun h510 => False.elim (h510 rfl))
  -- at 756
  exact j_widen (by omega) (by omega) (kk M2 _ (cR_fY h1 f2) h2 ((by rw [oKnown_1]; exact hi.up (by omega))))
set_option maxRecDepth 20000 in
set_option maxHeartbeats 1000000 in
theorem l_term (L : Nat) (xs : Nat → Int32) (M : aM) (S : aS) (t i uc us : Nat) (h : cR M S) (hm : mRep M S) (hi : sInv S t) (ht : t < 300000) (hi7 : i + 7 ≤ L) (hL : L ≤ 3584) (hu : uc + 640 ≤ 600000) (hv : us + 3040 ≤ 7302250) (kk : ∀ (M1 : aM) (S1 : aS), cR M1 S1 → mRep M1 S1 → sInv S1 (t + 1) → aJ (aXl L xs) m_L_law 7 600000 7302250 QL (uc + 640) (us + 3040) 756 [some (.float 0), some (.ref 0), some (.ref 332), some (.int (nI i))] [] M1) : aJ (aXl L xs) m_L_law 7 600000 7302250 QL uc us 515 [some (.float 0), some (.ref 0), some (.ref 332), some (.int (nI i))] [] M := by
  refine j_aload_n d_L_law_515 rfl ?_
  refine j_aload_nS d_L_law_516 rfl ?_
  refine j_iload_n d_L_law_517 rfl ?_
  refine j_iconst (v := 1) d_L_law_518 (by decide) ?_
  refine j_iadd d_L_law_519 ?_
  refine j_eqi (nI_add i 1) ?_
  refine j_sld d_L_law_520 (aIx.n (by omega) (by omega)) ?_
  refine j_callV (vs := [_]) d_L_law_521 h.1.2.1 (by decide) rfl w580 w581 w1 w583 w582 y_S_term (by decide) (by decide) (c_term M S (xs (i + 1)) h) rfl (Nat.le_of_ble_eq_true rfl) (by omega) (by omega) (fun M1 r1 hq1 => ?_)
  obtain ⟨rfl, h1, f1⟩ := hq1
  have hm1 := mRep_fM hm f1
  refine j_aload_n d_L_law_524 rfl ?_
  refine j_aload_nS d_L_law_525 rfl ?_
  refine j_iload_n d_L_law_526 rfl ?_
  refine j_iconst (v := 1) d_L_law_527 (by decide) ?_
  refine j_iadd d_L_law_528 ?_
  refine j_eqi (nI_add i 1) ?_
  refine j_sld d_L_law_529 (aIx.n (by omega) (by omega)) ?_
  refine j_callV (vs := [_]) d_L_law_530 hm1.1.1 (by decide) rfl w794 w795 w7 w797 w796 y_M_term (by decide) (by decide) (m_term M1 S (xs (i + 1)) hm1) rfl (Nat.le_of_ble_eq_true rfl) (by omega) (by omega) (fun M2 r2 hq2 => ?_)
  obtain ⟨rfl, h2, f2⟩ := hq2
  refine j_icmp_eq (tgt := 756) d_L_law_533 (by decide) (fun h533 => ?_) (fun h533 => False.elim (h533 rfl))
  -- at 756
  exact j_widen (by omega) (by omega) (kk M2 _ (cR_fY h1 f2) h2 ((by rw [oTerm_1]; exact hi.up (by omega))))
set_option maxRecDepth 20000 in
set_option maxHeartbeats 1000000 in
theorem l_configuration (L : Nat) (xs : Nat → Int32) (M : aM) (S : aS) (t i uc us : Nat) (h : cR M S) (hm : mRep M S) (hi : sInv S t) (ht : t < 300000) (hi7 : i + 7 ≤ L) (hL : L ≤ 3584) (hu : uc + 640 ≤ 600000) (hv : us + 3040 ≤ 7302250) (kk : ∀ (M1 : aM) (S1 : aS), cR M1 S1 → mRep M1 S1 → sInv S1 (t + 1) → aJ (aXl L xs) m_L_law 7 600000 7302250 QL (uc + 640) (us + 3040) 756 [some (.float 0), some (.ref 0), some (.ref 332), some (.int (nI i))] [] M1) : aJ (aXl L xs) m_L_law 7 600000 7302250 QL uc us 538 [some (.float 0), some (.ref 0), some (.ref 332), some (.int (nI i))] [] M := by
  refine j_aload_n d_L_law_538 rfl ?_
  refine j_aload_nS d_L_law_539 rfl ?_
  refine j_iload_n d_L_law_540 rfl ?_
  refine j_iconst (v := 1) d_L_law_541 (by decide) ?_
  refine j_iadd d_L_law_542 ?_
  refine j_eqi (nI_add i 1) ?_
  refine j_sld d_L_law_543 (aIx.n (by omega) (by omega)) ?_
  refine j_callV (vs := [_]) d_L_law_544 h.1.2.1 (by decide) rfl w584 w585 w1 w587 w586 y_S_configuration (by decide) (by decide) (c_configuration M S (xs (i + 1)) h) rfl (Nat.le_of_ble_eq_true rfl) (by omega) (by omega) (fun M1 r1 hq1 => ?_)
  obtain ⟨rfl, h1, f1⟩ := hq1
  have hm1 := mRep_fM hm f1
  refine j_aload_n d_L_law_547 rfl ?_
  refine j_aload_nS d_L_law_548 rfl ?_
  refine j_iload_n d_L_law_549 rfl ?_
  refine j_iconst (v := 1) d_L_law_550 (by decide) ?_
  refine j_iadd d_L_law_551 ?_
  refine j_eqi (nI_add i 1) ?_
  refine j_sld d_L_law_552 (aIx.n (by omega) (by omega)) ?_
  refine j_callV (vs := [_]) d_L_law_553 hm1.1.1 (by decide) rfl w798 w799 w7 w801 w800 y_M_configuration (by decide) (by decide) (m_configuration M1 S t (xs (i + 1)) hm1 hi) rfl (Nat.le_of_ble_eq_true rfl) (by omega) (by omega) (fun M2 r2 hq2 => ?_)
  obtain ⟨rfl, h2, f2⟩ := hq2
  refine j_icmp_eq (tgt := 756) d_L_law_556 (by decide) (fun h556 => ?_) (fun h556 => False.elim (h556 rfl))
  -- at 756
  exact j_widen (by omega) (by omega) (kk M2 _ (cR_fY h1 f2) h2 ((by rw [oConfiguration_1]; exact hi.up (by omega))))
set_option maxRecDepth 20000 in
set_option maxHeartbeats 1000000 in
theorem l_owner (L : Nat) (xs : Nat → Int32) (M : aM) (S : aS) (t i uc us : Nat) (h : cR M S) (hm : mRep M S) (hi : sInv S t) (ht : t < 300000) (hi7 : i + 7 ≤ L) (hL : L ≤ 3584) (hu : uc + 640 ≤ 600000) (hv : us + 3040 ≤ 7302250) (kk : ∀ (M1 : aM) (S1 : aS), cR M1 S1 → mRep M1 S1 → sInv S1 (t + 1) → aJ (aXl L xs) m_L_law 7 600000 7302250 QL (uc + 640) (us + 3040) 756 [some (.float 0), some (.ref 0), some (.ref 332), some (.int (nI i))] [] M1) : aJ (aXl L xs) m_L_law 7 600000 7302250 QL uc us 561 [some (.float 0), some (.ref 0), some (.ref 332), some (.int (nI i))] [] M := by
  refine j_aload_n d_L_law_561 rfl ?_
  refine j_aload_nS d_L_law_562 rfl ?_
  refine j_iload_n d_L_law_563 rfl ?_
  refine j_iconst (v := 1) d_L_law_564 (by decide) ?_
  refine j_iadd d_L_law_565 ?_
  refine j_eqi (nI_add i 1) ?_
  refine j_sld d_L_law_566 (aIx.n (by omega) (by omega)) ?_
  refine j_aload_nS d_L_law_567 rfl ?_
  refine j_iload_n d_L_law_568 rfl ?_
  refine j_iconst (v := 2) d_L_law_569 (by decide) ?_
  refine j_iadd d_L_law_570 ?_
  refine j_eqi (nI_add i 2) ?_
  refine j_sld d_L_law_571 (aIx.n (by omega) (by omega)) ?_
  refine j_aload_nS d_L_law_572 rfl ?_
  refine j_iload_n d_L_law_573 rfl ?_
  refine j_iconst (v := 3) d_L_law_574 (by decide) ?_
  refine j_iadd d_L_law_575 ?_
  refine j_eqi (nI_add i 3) ?_
  refine j_sld d_L_law_576 (aIx.n (by omega) (by omega)) ?_
  refine j_callV (vs := [_, _, _]) d_L_law_577 h.1.2.1 (by decide) rfl w597 w598 w1 w600 w599 y_S_owner (by decide) (by decide) (c_owner M S t (xs (i + 1)) (xs (i + 2)) (xs (i + 3)) h hi) rfl (Nat.le_of_ble_eq_true rfl) (by omega) (by omega) (fun M1 r1 hq1 => ?_)
  obtain ⟨rfl, h1, f1⟩ := hq1
  have hm1 := mRep_fM hm f1
  refine j_aload_n d_L_law_580 rfl ?_
  refine j_aload_nS d_L_law_581 rfl ?_
  refine j_iload_n d_L_law_582 rfl ?_
  refine j_iconst (v := 1) d_L_law_583 (by decide) ?_
  refine j_iadd d_L_law_584 ?_
  refine j_eqi (nI_add i 1) ?_
  refine j_sld d_L_law_585 (aIx.n (by omega) (by omega)) ?_
  refine j_aload_nS d_L_law_586 rfl ?_
  refine j_iload_n d_L_law_587 rfl ?_
  refine j_iconst (v := 2) d_L_law_588 (by decide) ?_
  refine j_iadd d_L_law_589 ?_
  refine j_eqi (nI_add i 2) ?_
  refine j_sld d_L_law_590 (aIx.n (by omega) (by omega)) ?_
  refine j_aload_nS d_L_law_591 rfl ?_
  refine j_iload_n d_L_law_592 rfl ?_
  refine j_iconst (v := 3) d_L_law_593 (by decide) ?_
  refine j_iadd d_L_law_594 ?_
  refine j_eqi (nI_add i 3) ?_
  refine j_sld d_L_law_595 (aIx.n (by omega) (by omega)) ?_
  refine j_callV (vs := [_, _, _]) d_L_law_596 hm1.1.1 (by decide) rfl w802 w803 w7 w805 w804 y_M_owner (by decide) (by decide) (m_owner M1 S t (xs (i + 1)) (xs (i + 2)) (xs (i + 3)) hm1 hi) rfl (Nat.le_of_ble_eq_true rfl) (by omega) (by omega) (fun M2 r2 hq2 => ?_)
  obtain ⟨rfl, h2, f2⟩ := hq2
  refine j_icmp_eq (tgt := 756) d_L_law_599 (by decide) (fun h599 => ?_) (fun h599 => False.elim (h599 rfl))
  -- at 756
  exact j_widen (by omega) (by omega) (kk M2 _ (cR_fY h1 f2) h2 ((by rw [oOwner_1]; exact hi.up (by omega))))
set_option maxRecDepth 20000 in
set_option maxHeartbeats 1000000 in
theorem l_condition (L : Nat) (xs : Nat → Int32) (M : aM) (S : aS) (t i uc us : Nat) (h : cR M S) (hm : mRep M S) (hi : sInv S t) (ht : t < 300000) (hi7 : i + 7 ≤ L) (hL : L ≤ 3584) (hu : uc + 640 ≤ 600000) (hv : us + 3040 ≤ 7302250) (kk : ∀ (M1 : aM) (S1 : aS), cR M1 S1 → mRep M1 S1 → sInv S1 (t + 1) → aJ (aXl L xs) m_L_law 7 600000 7302250 QL (uc + 640) (us + 3040) 756 [some (.float 0), some (.ref 0), some (.ref 332), some (.int (nI i))] [] M1) : aJ (aXl L xs) m_L_law 7 600000 7302250 QL uc us 604 [some (.float 0), some (.ref 0), some (.ref 332), some (.int (nI i))] [] M := by
  refine j_aload_n d_L_law_604 rfl ?_
  refine j_aload_nS d_L_law_605 rfl ?_
  refine j_iload_n d_L_law_606 rfl ?_
  refine j_iconst (v := 1) d_L_law_607 (by decide) ?_
  refine j_iadd d_L_law_608 ?_
  refine j_eqi (nI_add i 1) ?_
  refine j_sld d_L_law_609 (aIx.n (by omega) (by omega)) ?_
  refine j_aload_nS d_L_law_610 rfl ?_
  refine j_iload_n d_L_law_611 rfl ?_
  refine j_iconst (v := 2) d_L_law_612 (by decide) ?_
  refine j_iadd d_L_law_613 ?_
  refine j_eqi (nI_add i 2) ?_
  refine j_sld d_L_law_614 (aIx.n (by omega) (by omega)) ?_
  refine j_callV (vs := [_, _]) d_L_law_615 h.1.2.1 (by decide) rfl w601 w602 w1 w604 w603 y_S_condition (by decide) (by decide) (c_condition M S (xs (i + 1)) (xs (i + 2)) h) rfl (Nat.le_of_ble_eq_true rfl) (by omega) (by omega) (fun M1 r1 hq1 => ?_)
  obtain ⟨rfl, h1, f1⟩ := hq1
  have hm1 := mRep_fM hm f1
  refine j_aload_n d_L_law_618 rfl ?_
  refine j_aload_nS d_L_law_619 rfl ?_
  refine j_iload_n d_L_law_620 rfl ?_
  refine j_iconst (v := 1) d_L_law_621 (by decide) ?_
  refine j_iadd d_L_law_622 ?_
  refine j_eqi (nI_add i 1) ?_
  refine j_sld d_L_law_623 (aIx.n (by omega) (by omega)) ?_
  refine j_aload_nS d_L_law_624 rfl ?_
  refine j_iload_n d_L_law_625 rfl ?_
  refine j_iconst (v := 2) d_L_law_626 (by decide) ?_
  refine j_iadd d_L_law_627 ?_
  refine j_eqi (nI_add i 2) ?_
  refine j_sld d_L_law_628 (aIx.n (by omega) (by omega)) ?_
  refine j_callV (vs := [_, _]) d_L_law_629 hm1.1.1 (by decide) rfl w806 w807 w7 w809 w808 y_M_condition (by decide) (by decide) (m_condition M1 S t (xs (i + 1)) (xs (i + 2)) hm1 hi) rfl (Nat.le_of_ble_eq_true rfl) (by omega) (by omega) (fun M2 r2 hq2 => ?_)
  obtain ⟨rfl, h2, f2⟩ := hq2
  refine j_icmp_eq (tgt := 756) d_L_law_632 (by decide) (fun h632 => ?_) (fun h632 => False.elim (h632 rfl))
  -- at 756
  exact j_widen (by omega) (by omega) (kk M2 _ (cR_fY h1 f2) h2 ((by rw [oCondition_1]; exact hi.up (by omega))))
set_option maxRecDepth 20000 in
set_option maxHeartbeats 1000000 in
theorem l_value (L : Nat) (xs : Nat → Int32) (M : aM) (S : aS) (t i uc us : Nat) (h : cR M S) (hm : mRep M S) (hi : sInv S t) (ht : t < 300000) (hi7 : i + 7 ≤ L) (hL : L ≤ 3584) (hu : uc + 640 ≤ 600000) (hv : us + 3040 ≤ 7302250) (kk : ∀ (M1 : aM) (S1 : aS), cR M1 S1 → mRep M1 S1 → sInv S1 (t + 1) → aJ (aXl L xs) m_L_law 7 600000 7302250 QL (uc + 640) (us + 3040) 756 [some (.float 0), some (.ref 0), some (.ref 332), some (.int (nI i))] [] M1) : aJ (aXl L xs) m_L_law 7 600000 7302250 QL uc us 637 [some (.float 0), some (.ref 0), some (.ref 332), some (.int (nI i))] [] M := by
  refine j_aload_n d_L_law_637 rfl ?_
  refine j_aload_nS d_L_law_638 rfl ?_
  refine j_iload_n d_L_law_639 rfl ?_
  refine j_iconst (v := 1) d_L_law_640 (by decide) ?_
  refine j_iadd d_L_law_641 ?_
  refine j_eqi (nI_add i 1) ?_
  refine j_sld d_L_law_642 (aIx.n (by omega) (by omega)) ?_
  refine j_aload_nS d_L_law_643 rfl ?_
  refine j_iload_n d_L_law_644 rfl ?_
  refine j_iconst (v := 2) d_L_law_645 (by decide) ?_
  refine j_iadd d_L_law_646 ?_
  refine j_eqi (nI_add i 2) ?_
  refine j_sld d_L_law_647 (aIx.n (by omega) (by omega)) ?_
  refine j_callV (vs := [_, _]) d_L_law_648 h.1.2.1 (by decide) rfl w605 w606 w1 w608 w607 y_S_value (by decide) (by decide) (c_value M S t (xs (i + 1)) (xs (i + 2)) h hi) rfl (Nat.le_of_ble_eq_true rfl) (by omega) (by omega) (fun M1 r1 hq1 => ?_)
  obtain ⟨rfl, h1, f1⟩ := hq1
  have hm1 := mRep_fM hm f1
  refine j_aload_n d_L_law_651 rfl ?_
  refine j_aload_nS d_L_law_652 rfl ?_
  refine j_iload_n d_L_law_653 rfl ?_
  refine j_iconst (v := 1) d_L_law_654 (by decide) ?_
  refine j_iadd d_L_law_655 ?_
  refine j_eqi (nI_add i 1) ?_
  refine j_sld d_L_law_656 (aIx.n (by omega) (by omega)) ?_
  refine j_aload_nS d_L_law_657 rfl ?_
  refine j_iload_n d_L_law_658 rfl ?_
  refine j_iconst (v := 2) d_L_law_659 (by decide) ?_
  refine j_iadd d_L_law_660 ?_
  refine j_eqi (nI_add i 2) ?_
  refine j_sld d_L_law_661 (aIx.n (by omega) (by omega)) ?_
  refine j_callV (vs := [_, _]) d_L_law_662 hm1.1.1 (by decide) rfl w810 w811 w7 w813 w812 y_M_value (by decide) (by decide) (m_value M1 S t (xs (i + 1)) (xs (i + 2)) hm1 hi) rfl (Nat.le_of_ble_eq_true rfl) (by omega) (by omega) (fun M2 r2 hq2 => ?_)
  obtain ⟨rfl, h2, f2⟩ := hq2
  refine j_icmp_eq (tgt := 756) d_L_law_665 (by decide) (fun h665 => ?_) (fun h665 => False.elim (h665 rfl))
  -- at 756
  exact j_widen (by omega) (by omega) (kk M2 _ (cR_fY h1 f2) h2 ((by rw [oValue_1]; exact hi.up (by omega))))
set_option maxRecDepth 20000 in
set_option maxHeartbeats 1000000 in
theorem l_latest (L : Nat) (xs : Nat → Int32) (M : aM) (S : aS) (t i uc us : Nat) (h : cR M S) (hm : mRep M S) (hi : sInv S t) (ht : t < 300000) (hi7 : i + 7 ≤ L) (hL : L ≤ 3584) (hu : uc + 640 ≤ 600000) (hv : us + 3040 ≤ 7302250) (kk : ∀ (M1 : aM) (S1 : aS), cR M1 S1 → mRep M1 S1 → sInv S1 (t + 1) → aJ (aXl L xs) m_L_law 7 600000 7302250 QL (uc + 640) (us + 3040) 756 [some (.float 0), some (.ref 0), some (.ref 332), some (.int (nI i))] [] M1) : aJ (aXl L xs) m_L_law 7 600000 7302250 QL uc us 670 [some (.float 0), some (.ref 0), some (.ref 332), some (.int (nI i))] [] M := by
  refine j_aload_n d_L_law_670 rfl ?_
  refine j_aload_nS d_L_law_671 rfl ?_
  refine j_iload_n d_L_law_672 rfl ?_
  refine j_iconst (v := 1) d_L_law_673 (by decide) ?_
  refine j_iadd d_L_law_674 ?_
  refine j_eqi (nI_add i 1) ?_
  refine j_sld d_L_law_675 (aIx.n (by omega) (by omega)) ?_
  refine j_aload_nS d_L_law_676 rfl ?_
  refine j_iload_n d_L_law_677 rfl ?_
  refine j_iconst (v := 2) d_L_law_678 (by decide) ?_
  refine j_iadd d_L_law_679 ?_
  refine j_eqi (nI_add i 2) ?_
  refine j_sld d_L_law_680 (aIx.n (by omega) (by omega)) ?_
  refine j_aload_nS d_L_law_681 rfl ?_
  refine j_iload_n d_L_law_682 rfl ?_
  refine j_iconst (v := 3) d_L_law_683 (by decide) ?_
  refine j_iadd d_L_law_684 ?_
  refine j_eqi (nI_add i 3) ?_
  refine j_sld d_L_law_685 (aIx.n (by omega) (by omega)) ?_
  refine j_callV (vs := [_, _, _]) d_L_law_686 h.1.2.1 (by decide) rfl w619 w620 w1 w622 w621 y_S_latest (by decide) (by decide) (c_latest M S t (xs (i + 1)) (xs (i + 2)) (xs (i + 3)) h hi) rfl (Nat.le_of_ble_eq_true rfl) (by omega) (by omega) (fun M1 r1 hq1 => ?_)
  obtain ⟨rfl, h1, f1⟩ := hq1
  have hm1 := mRep_fM hm f1
  refine j_aload_n d_L_law_689 rfl ?_
  refine j_aload_nS d_L_law_690 rfl ?_
  refine j_iload_n d_L_law_691 rfl ?_
  refine j_iconst (v := 1) d_L_law_692 (by decide) ?_
  refine j_iadd d_L_law_693 ?_
  refine j_eqi (nI_add i 1) ?_
  refine j_sld d_L_law_694 (aIx.n (by omega) (by omega)) ?_
  refine j_aload_nS d_L_law_695 rfl ?_
  refine j_iload_n d_L_law_696 rfl ?_
  refine j_iconst (v := 2) d_L_law_697 (by decide) ?_
  refine j_iadd d_L_law_698 ?_
  refine j_eqi (nI_add i 2) ?_
  refine j_sld d_L_law_699 (aIx.n (by omega) (by omega)) ?_
  refine j_aload_nS d_L_law_700 rfl ?_
  refine j_iload_n d_L_law_701 rfl ?_
  refine j_iconst (v := 3) d_L_law_702 (by decide) ?_
  refine j_iadd d_L_law_703 ?_
  refine j_eqi (nI_add i 3) ?_
  refine j_sld d_L_law_704 (aIx.n (by omega) (by omega)) ?_
  refine j_callV (vs := [_, _, _]) d_L_law_705 hm1.1.1 (by decide) rfl w818 w819 w7 w821 w820 y_M_latest (by decide) (by decide) (m_latest M1 S t (xs (i + 1)) (xs (i + 2)) (xs (i + 3)) hm1 hi) rfl (Nat.le_of_ble_eq_true rfl) (by omega) (by omega) (fun M2 r2 hq2 => ?_)
  obtain ⟨rfl, h2, f2⟩ := hq2
  refine j_icmp_eq (tgt := 756) d_L_law_708 (by decide) (fun h708 => ?_) (fun h708 => False.elim (h708 rfl))
  -- at 756
  exact j_widen (by omega) (by omega) (kk M2 _ (cR_fY h1 f2) h2 ((by rw [oHeld_1]; exact hi.up (by omega))))
set_option maxRecDepth 20000 in
set_option maxHeartbeats 1000000 in
theorem l_answer (L : Nat) (xs : Nat → Int32) (M : aM) (S : aS) (t i uc us : Nat) (h : cR M S) (hm : mRep M S) (hi : sInv S t) (ht : t < 300000) (hi7 : i + 7 ≤ L) (hL : L ≤ 3584) (hu : uc + 640 ≤ 600000) (hv : us + 3040 ≤ 7302250) (kk : ∀ (M1 : aM) (S1 : aS), cR M1 S1 → mRep M1 S1 → sInv S1 (t + 1) → aJ (aXl L xs) m_L_law 7 600000 7302250 QL (uc + 640) (us + 3040) 756 [some (.float 0), some (.ref 0), some (.ref 332), some (.int (nI i))] [] M1) : aJ (aXl L xs) m_L_law 7 600000 7302250 QL uc us 713 [some (.float 0), some (.ref 0), some (.ref 332), some (.int (nI i))] [] M := by
  refine j_aload_n d_L_law_713 rfl ?_
  refine j_aload_nS d_L_law_714 rfl ?_
  refine j_iload_n d_L_law_715 rfl ?_
  refine j_iconst (v := 1) d_L_law_716 (by decide) ?_
  refine j_iadd d_L_law_717 ?_
  refine j_eqi (nI_add i 1) ?_
  refine j_sld d_L_law_718 (aIx.n (by omega) (by omega)) ?_
  refine j_aload_nS d_L_law_719 rfl ?_
  refine j_iload_n d_L_law_720 rfl ?_
  refine j_iconst (v := 2) d_L_law_721 (by decide) ?_
  refine j_iadd d_L_law_722 ?_
  refine j_eqi (nI_add i 2) ?_
  refine j_sld d_L_law_723 (aIx.n (by omega) (by omega)) ?_
  refine j_aload_nS d_L_law_724 rfl ?_
  refine j_iload_n d_L_law_725 rfl ?_
  refine j_iconst (v := 3) d_L_law_726 (by decide) ?_
  refine j_iadd d_L_law_727 ?_
  refine j_eqi (nI_add i 3) ?_
  refine j_sld d_L_law_728 (aIx.n (by omega) (by omega)) ?_
  refine j_callV (vs := [_, _, _]) d_L_law_729 h.1.2.1 (by decide) rfl w623 w624 w1 w626 w625 y_S_answer (by decide) (by decide) (c_answer M S t (xs (i + 1)) (xs (i + 2)) (xs (i + 3)) h hi) rfl (Nat.le_of_ble_eq_true rfl) (by omega) (by omega) (fun M1 r1 hq1 => ?_)
  obtain ⟨rfl, h1, f1⟩ := hq1
  have hm1 := mRep_fM hm f1
  refine j_aload_n d_L_law_732 rfl ?_
  refine j_aload_nS d_L_law_733 rfl ?_
  refine j_iload_n d_L_law_734 rfl ?_
  refine j_iconst (v := 1) d_L_law_735 (by decide) ?_
  refine j_iadd d_L_law_736 ?_
  refine j_eqi (nI_add i 1) ?_
  refine j_sld d_L_law_737 (aIx.n (by omega) (by omega)) ?_
  refine j_aload_nS d_L_law_738 rfl ?_
  refine j_iload_n d_L_law_739 rfl ?_
  refine j_iconst (v := 2) d_L_law_740 (by decide) ?_
  refine j_iadd d_L_law_741 ?_
  refine j_eqi (nI_add i 2) ?_
  refine j_sld d_L_law_742 (aIx.n (by omega) (by omega)) ?_
  refine j_aload_nS d_L_law_743 rfl ?_
  refine j_iload_n d_L_law_744 rfl ?_
  refine j_iconst (v := 3) d_L_law_745 (by decide) ?_
  refine j_iadd d_L_law_746 ?_
  refine j_eqi (nI_add i 3) ?_
  refine j_sld d_L_law_747 (aIx.n (by omega) (by omega)) ?_
  refine j_callV (vs := [_, _, _]) d_L_law_748 hm1.1.1 (by decide) rfl w822 w823 w7 w825 w824 y_M_answer (by decide) (by decide) (m_answer M1 S t (xs (i + 1)) (xs (i + 2)) (xs (i + 3)) hm1 hi) rfl (Nat.le_of_ble_eq_true rfl) (by omega) (by omega) (fun M2 r2 hq2 => ?_)
  obtain ⟨rfl, h2, f2⟩ := hq2
  refine j_icmp_eq (tgt := 756) d_L_law_751 (by decide) (fun h751 => ?_) (fun h751 => False.elim (h751 rfl))
  -- at 756
  exact j_widen (by omega) (by omega) (kk M2 _ (cR_fY h1 f2) h2 ((by rw [oHeld_1]; exact hi.up (by omega))))
