theorem aAt.kept {D : va_G} {cA : Nat → ClassId} {b a : Nat} {M M' : aM} {H H' : Heap} (hk : mKd M' a = mKd M a) (hl : mLn M' a = mLn M a) (hI : ∀ j, mI M' a j = mI M a j) (hR : ∀ j, mR M' a j = mR M a j) (hH : H'[b + a]? = H[b + a]?) (h : aAt D cA b M H a) : aAt D cA b M' H' a := by
  unfold aAt at h ⊢
  rw [hk, hl, hH]
  split
  · rename_i h1
    rw [if_pos h1] at h
    obtain ⟨r, h2, h3⟩ := h
    exact ⟨r, h2, (h3.kept hH).to (fun k _ => by simp only [aF, hk, hI, hR])⟩
  · rename_i h1
    rw [if_neg h1] at h
    split
    · rename_i h2
      rw [if_pos h2] at h
      rw [h]
      simp only [hI]
    · rename_i h2
      rw [if_neg h2] at h
      rw [h]
      simp only [hR]
theorem aAt.obj {D : va_G} {cA : Nat → ClassId} {b a ci : Nat} {M : aM} {H : Heap} (hk : mKd M a = ci) (hc : ci < 100) (h : aAt D cA b M H a) : ∃ r : vw_C, aCl[ci]? = some r ∧ t_OB (b + a) (D.1 ci) r.2.2 (D.2 ci) H (aF b M a) := by
  unfold aAt at h
  rw [hk, if_pos hc] at h
  exact h
theorem aAt.ints {D : va_G} {cA : Nat → ClassId} {b a kd n : Nat} {M : aM} {H : Heap} (hk : mKd M a = kd) (hn : mLn M a = n) (h1 : 100 ≤ kd) (h2 : kd < 102) (h : aAt D cA b M H a) : H[b + a]? = some (arrV (cA kd) n (fun j => .int (mI M a j))) := by
  unfold aAt at h
  rw [hk, hn, if_neg (by omega), if_pos h2] at h
  exact h
theorem aAt.refs {D : va_G} {cA : Nat → ClassId} {b a kd n : Nat} {M : aM} {H : Heap} (hk : mKd M a = kd) (hn : mLn M a = n) (h2 : 102 ≤ kd) (h : aAt D cA b M H a) : H[b + a]? = some (arrV (cA kd) n (fun j => va_rf ((mR M a j).map (b + ·)))) := by
  unfold aAt at h
  rw [hk, hn, if_neg (by omega), if_neg (by omega)] at h
  exact h
/-- one cell has changed -/
theorem aOK.set {D : va_G} {cA : Nat → ClassId} {b o : Nat} {M M' : aM} {H H' : Heap} (h : aOK D cA b M H) (hz : mSz M' = mSz M) (hH : H'.size = H.size) (hq : ∀ q, q ≠ b + o → H'[q]? = H[q]?) (hsame : ∀ a, a ≠ o → mKd M' a = mKd M a ∧ mLn M' a = mLn M a ∧ (∀ j, mI M' a j = mI M a j) ∧ ∀ j, mR M' a j = mR M a j) (hat : aAt D cA b M' H' o) : aOK D cA b M' H' := by
  refine ⟨by rw [hH, hz]; exact h.1, fun a ha => ?_⟩
  by_cases e : a = o
  · subst e; exact hat
  · obtain ⟨g1, g2, g3, g4⟩ := hsame a e
    exact aAt.kept g1 g2 g3 g4 (hq _ (by omega)) (h.2 a (by rw [← hz]; exact ha))
/-- one cell is new -/
theorem aOK.new {D : va_G} {cA : Nat → ClassId} {b kd ln : Nat} {M : aM} {H H' : Heap} (h : aOK D cA b M H) (hH : H'.size = H.size + 1) (hq : ∀ q, q < H.size → H'[q]? = H[q]?) (hat : aAt D cA b (mN M kd ln) H' (mSz M)) : aOK D cA b (mN M kd ln) H' := by
  refine ⟨by rw [hH, mm_sz_mN, h.1]; omega, fun a ha => ?_⟩
  rw [mm_sz_mN] at ha
  by_cases e : a = mSz M
  · subst e; exact hat
  · have h1 := h.1
    exact aAt.kept (by rw [mm_kd_mN, if_neg e]) (by rw [mm_ln_mN, if_neg e]) (fun j => by rw [mm_I_mN, if_neg e]) (fun j => by rw [mm_R_mN, if_neg e]) (hq _ (by omega)) (h.2 a (by omega))
def aFl (own : String) (ix ci k : Nat) : Prop := ∃ (C : String) (T : u_T) (N : Nat) (ref : String), aCl[ci]? = some (C, T, N) ∧ k < N ∧ (∀ w ∈ u_ws C T N, w ∈ aWS) ∧ Cond.fieldLink own ix ref (T k).2.1 (T k).2.2.1 ∈ aWS ∧ (ref = (T k).1 ∨ Cond.sameField ref (T k).1 (T k).2.1 (T k).2.2.1 ∈ aWS)
def aPl (own : String) (ix ci k : Nat) (ty : FieldType) (fin : Bool) : Prop := ∃ (C : String) (T : u_T) (N : Nat) (ref : String) (ty0 : Nat → FieldType), aCl[ci]? = some (C, T, N) ∧ k < N ∧ (∀ w ∈ u_ws C T N, w ∈ aWS) ∧ Cond.fieldLink own ix ref (T k).2.1 (T k).2.2.1 ∈ aWS ∧ (ref = (T k).1 ∨ Cond.sameField ref (T k).1 (T k).2.1 (T k).2.2.1 ∈ aWS) ∧ (∀ j, j < N → parseFieldDescriptor (T j).2.2.1 = some (ty0 j)) ∧ (∀ a, a < N → ∀ b, b < N → a ≠ b → (T a).2.1 ≠ (T b).2.1) ∧ ty0 k = ty ∧ (T k).2.2.2 = fin ∧ (fin = true → (T k).1 = own)

section JM
variable {X : Nat → Nat → State → Prop} {μ : aMd} {d mc ms : Nat} {Q : aM → Option Value → Prop} {uc us pc : Nat} {ls : List (Option Value)} {st : List Value} {M : aM}
theorem j_geti {ix o k ci : Nat} (hd : decode μ.2.1 pc = .ok (.getfield ix, 3)) (ht : tO M o ci) (hf : aFl μ.1.cls ix ci k) (hr : aRf ci k = false) (hc : ci < 100) (kk : aJ X μ d mc ms Q uc us (pc + 3) ls (.int (mI M o k) :: st) M) : aJ X μ d mc ms Q uc us pc ls (.ref o :: st) M := by
  intro D cA b scr p l e R s m args below meth c Qf H locs a C hX hO hS hL
  obtain ⟨C1, T, N, ref, hc1, hk, hin, hlk, hsm⟩ := hf
  obtain ⟨r, hr1, cell, q1, q2, q3, q4⟩ := aAt.obj ht.2 hc (hO.2 o ht.1)
  have hre : r = (C1, T, N) := Option.some.inj (hr1.symm.trans hc1)
  subst hre
  have hts := C.2.2.2.2.1
  obtain ⟨hSl, hfc, kC, hkC, hkind⟩ := C.2.2.2.2.2.1.1.1 ci _ hc1
  obtain ⟨cf, kf, fi, f, hi, hsl⟩ := hSl k hk
  have hsame : s.fieldFound? ref (T k).2.1 (T k).2.2.1 = some (cf, kf, fi, f) := by
    rcases hsm with e9 | h9
    · rw [e9]; exact hi
    · exact u_same (hts _ h9) _ hi
  refine W.getf C.1 C.2.1 C.2.2.2.1 (hts _ hlk) hsame (u_facts hfc hkC (u_lays hts hin hk) hi).1 q1 (by rw [q3]; exact fun h => by cases h) (v := .int (mI M o k)) ?_ rfl rfl hd (kk D cA b scr p l e R s m args below meth c Qf H locs a C hX hO hS hL)
  rw [hsl, q4 k hk]
  simp [aF, ht.2, hr]
theorem j_getr {ix o k ci : Nat} (hd : decode μ.2.1 pc = .ok (.getfield ix, 3)) (ht : tO M o ci) (hf : aFl μ.1.cls ix ci k) (hr : aRf ci k = true) (hc : ci < 100) (kk : aJ X μ d mc ms Q uc us (pc + 3) ls (va_rf (mR M o k) :: st) M) : aJ X μ d mc ms Q uc us pc ls (.ref o :: st) M := by
  intro D cA b scr p l e R s m args below meth c Qf H locs a C hX hO hS hL
  obtain ⟨C1, T, N, ref, hc1, hk, hin, hlk, hsm⟩ := hf
  obtain ⟨r, hr1, cell, q1, q2, q3, q4⟩ := aAt.obj ht.2 hc (hO.2 o ht.1)
  have hre : r = (C1, T, N) := Option.some.inj (hr1.symm.trans hc1)
  subst hre
  have hts := C.2.2.2.2.1
  obtain ⟨hSl, hfc, kC, hkC, hkind⟩ := C.2.2.2.2.2.1.1.1 ci _ hc1
  obtain ⟨cf, kf, fi, f, hi, hsl⟩ := hSl k hk
  have hsame : s.fieldFound? ref (T k).2.1 (T k).2.2.1 = some (cf, kf, fi, f) := by
    rcases hsm with e9 | h9
    · rw [e9]; exact hi
    · exact u_same (hts _ h9) _ hi
  refine W.getf C.1 C.2.1 C.2.2.2.1 (hts _ hlk) hsame (u_facts hfc hkC (u_lays hts hin hk) hi).1 q1 (by rw [q3]; exact fun h => by cases h) (v := aV b scr (va_rf (mR M o k))) ?_ rfl rfl hd (kk D cA b scr p l e R s m args below meth c Qf H locs a C hX hO hS hL)
  rw [hsl, q4 k hk]
  rw [aV_rf]
  simp [aF, ht.2, hr]
theorem j_puti {ix o k ci : Nat} {x : Int32} {ty : FieldType} (hd : decode μ.2.1 pc = .ok (.putfield ix, 3)) (ht : tO M o ci) (hf : aPl μ.1.cls ix ci k ty false) (hr : aRf ci k = false) (hc : ci < 100) (hn : narrow ty (.int x) = .int x) (hfit : fits ty (.int x) = true) (kk : aJ X μ d mc ms Q uc us (pc + 3) ls st (sI M o k x)) : aJ X μ d mc ms Q uc us pc ls (.int x :: .ref o :: st) M := by
  intro D cA b scr p l e R s m args below meth c Qf H locs a C hX hO hS hL
  obtain ⟨C1, T, N, ref, ty0, hc1, hk, hin, hlk, hsm, hty, hnm, hty1, hfin, hdecl⟩ := hf
  obtain ⟨r, hr1, cell, q1, q2, q3, q4⟩ := aAt.obj ht.2 hc (hO.2 o ht.1)
  have hre : r = (C1, T, N) := Option.some.inj (hr1.symm.trans hc1)
  subst hre
  have hts := C.2.2.2.2.1
  have hap := va_apart (own := C1) hts hin ty0 hty hnm C.2.2.2.2.2.1.1 hc1
  obtain ⟨hSl, hfc, kC, hkC, hkind⟩ := C.2.2.2.2.2.1.1.1 ci _ hc1
  obtain ⟨cf, kf, fi, f, hi, hsl⟩ := hSl k hk
  have hsame : s.fieldFound? ref (T k).2.1 (T k).2.2.1 = some (cf, kf, fi, f) := by
    rcases hsm with e9 | h9
    · rw [e9]; exact hi
    · exact u_same (hts _ h9) _ hi
  have hlay := hts _ (hin _ (u_in_lay hk))
  unfold u_lay at hlay
  have hst := (u_facts hfc hkC (u_lays hts hin hk) hi).1
  have hpd : parseFieldDescriptor (T k).2.2.1 = some ty := by rw [hty k hk, hty1]
  rw [if_neg (by rw [hfin]; decide)] at hlay
  have h6 := u_store hfc hkC hkind hlay hi hpd (v := .int x) hn hfit
  refine W.putK C.1 C.2.1 (f := f) (v := .int x) ⟨C.2.2.2.1, hts _ hlk, ⟨_, _, _, hsame⟩, hst⟩ (by rw [q2]; exact h6) q1 q3 (by rw [hsl]; exact k2_hasslot (q4 k hk)) rfl rfl hd fun H' e1 e2 e3 => ?_
  rw [hsl] at e1 ⊢
  refine kk D cA b scr p l e R s m args below meth c Qf H' _ a C hX (hO.set (o := o) (mm_sz_sI M o k x) e2 e3 (fun a' h9 => ⟨rfl, rfl, fun j => by rw [mm_I_sI, if_neg (fun h8 => h9 h8.1)], fun j => rfl⟩) ?_) (hS.put e2 e3 (Nat.le_add_right b o)) hL
  unfold aAt
  rw [show mKd (sI M o k x) o = ci from ht.2, if_pos hc]
  refine ⟨_, hc1, t_OB.to (V := updV (aF b M o) k (.int x)) ⟨_, e1, q2, q3, t_set q4 hap hk _⟩ (fun j _ => ?_)⟩
  by_cases hj : j = k
  · subst hj
    simp [updV, aF, mm_kd_sI, ht.2, hr, mm_I_sI]
  · simp [updV, aF, mm_kd_sI, ht.2, hj, mm_I_sI, mm_R_sI]
theorem j_putiF {ix o k ci : Nat} {x : Int32} {ty : FieldType} (hd : decode μ.2.1 pc = .ok (.putfield ix, 3)) (ht : tO M o ci) (hf : aPl μ.1.cls ix ci k ty true) (hr : aRf ci k = false) (hc : ci < 100) (hn : narrow ty (.int x) = .int x) (hfit : fits ty (.int x) = true) (hin2 : μ.1.name = "<init>") (kk : aJ X μ d mc ms Q uc us (pc + 3) ls st (sI M o k x)) : aJ X μ d mc ms Q uc us pc ls (.int x :: .ref o :: st) M := by
  intro D cA b scr p l e R s m args below meth c Qf H locs a C hX hO hS hL
  obtain ⟨C1, T, N, ref, ty0, hc1, hk, hin, hlk, hsm, hty, hnm, hty1, hfin, hdecl⟩ := hf
  obtain ⟨r, hr1, cell, q1, q2, q3, q4⟩ := aAt.obj ht.2 hc (hO.2 o ht.1)
  have hre : r = (C1, T, N) := Option.some.inj (hr1.symm.trans hc1)
  subst hre
  have hts := C.2.2.2.2.1
  have hap := va_apart (own := C1) hts hin ty0 hty hnm C.2.2.2.2.2.1.1 hc1
  obtain ⟨hSl, hfc, kC, hkC, hkind⟩ := C.2.2.2.2.2.1.1.1 ci _ hc1
  obtain ⟨cf, kf, fi, f, hi, hsl⟩ := hSl k hk
  have hsame : s.fieldFound? ref (T k).2.1 (T k).2.2.1 = some (cf, kf, fi, f) := by
    rcases hsm with e9 | h9
    · rw [e9]; exact hi
    · exact u_same (hts _ h9) _ hi
  have hlay := hts _ (hin _ (u_in_lay hk))
  unfold u_lay at hlay
  have hst := (u_facts hfc hkC (u_lays hts hin hk) hi).1
  have hpd : parseFieldDescriptor (T k).2.2.1 = some ty := by rw [hty k hk, hty1]
  rw [if_pos hfin] at hlay
  have hcf : m.cls = cf := by
    obtain ⟨_, _, c', _, _, _, -, -, hf', -, -, -, hown2, -⟩ := Cond.laysFinal_spec hlay
    have e1 : c' = cf := by have := hi.symm.trans hf'; simp at this; exact this.1.symm
    rw [hdecl rfl] at hown2
    rw [← e1]; exact Option.some.inj (C.2.2.2.1.symm.trans hown2)
  have h6 := u_fits hfc hkC hkind (Or.inr hlay) hi hpd (v := .int x) hn hfit
  refine W.putFinK C.1 C.2.1 C.2.2.2.1 (hts _ hlk) hsame hst hcf (C.2.2.2.2.2.2.2.2.2.2.2.1.trans hin2) (v := .int x) (by rw [q2]; exact h6) q1 q3 (by rw [hsl]; exact k2_hasslot (q4 k hk)) rfl rfl hd fun H' e1 e2 e3 => ?_
  rw [hsl] at e1 ⊢
  refine kk D cA b scr p l e R s m args below meth c Qf H' _ a C hX (hO.set (o := o) (mm_sz_sI M o k x) e2 e3 (fun a' h9 => ⟨rfl, rfl, fun j => by rw [mm_I_sI, if_neg (fun h8 => h9 h8.1)], fun j => rfl⟩) ?_) (hS.put e2 e3 (Nat.le_add_right b o)) hL
  unfold aAt
  rw [show mKd (sI M o k x) o = ci from ht.2, if_pos hc]
  refine ⟨_, hc1, t_OB.to (V := updV (aF b M o) k (.int x)) ⟨_, e1, q2, q3, t_set q4 hap hk _⟩ (fun j _ => ?_)⟩
  by_cases hj : j = k
  · subst hj
    simp [updV, aF, mm_kd_sI, ht.2, hr, mm_I_sI]
  · simp [updV, aF, mm_kd_sI, ht.2, hj, mm_I_sI, mm_R_sI]
theorem j_putr {ix o k ci : Nat} {x : Option Nat} {ty : FieldType} (hd : decode μ.2.1 pc = .ok (.putfield ix, 3)) (ht : tO M o ci) (hf : aPl μ.1.cls ix ci k ty false) (hr : aRf ci k = true) (hc : ci < 100) (hn : ∀ z : Option Nat, narrow ty (va_rf z) = va_rf z) (hfit : ∀ z : Option Nat, fits ty (va_rf z) = true) (kk : aJ X μ d mc ms Q uc us (pc + 3) ls st (sR M o k x)) : aJ X μ d mc ms Q uc us pc ls (va_rf x :: .ref o :: st) M := by
  intro D cA b scr p l e R s m args below meth c Qf H locs a C hX hO hS hL
  obtain ⟨C1, T, N, ref, ty0, hc1, hk, hin, hlk, hsm, hty, hnm, hty1, hfin, hdecl⟩ := hf
  obtain ⟨r, hr1, cell, q1, q2, q3, q4⟩ := aAt.obj ht.2 hc (hO.2 o ht.1)
  have hre : r = (C1, T, N) := Option.some.inj (hr1.symm.trans hc1)
  subst hre
  have hts := C.2.2.2.2.1
  have hap := va_apart (own := C1) hts hin ty0 hty hnm C.2.2.2.2.2.1.1 hc1
  obtain ⟨hSl, hfc, kC, hkC, hkind⟩ := C.2.2.2.2.2.1.1.1 ci _ hc1
  obtain ⟨cf, kf, fi, f, hi, hsl⟩ := hSl k hk
  have hsame : s.fieldFound? ref (T k).2.1 (T k).2.2.1 = some (cf, kf, fi, f) := by
    rcases hsm with e9 | h9
    · rw [e9]; exact hi
    · exact u_same (hts _ h9) _ hi
  have hlay := hts _ (hin _ (u_in_lay hk))
  unfold u_lay at hlay
  have hst := (u_facts hfc hkC (u_lays hts hin hk) hi).1
  have hpd : parseFieldDescriptor (T k).2.2.1 = some ty := by rw [hty k hk, hty1]
  rw [if_neg (by rw [hfin]; decide)] at hlay
  have h6 := u_store hfc hkC hkind hlay hi hpd (v := aV b scr (va_rf x)) (by rw [aV_rf]; exact hn _) (by rw [aV_rf]; exact hfit _)
  refine W.putK C.1 C.2.1 (f := f) (v := aV b scr (va_rf x)) ⟨C.2.2.2.1, hts _ hlk, ⟨_, _, _, hsame⟩, hst⟩ (by rw [q2]; exact h6) q1 q3 (by rw [hsl]; exact k2_hasslot (q4 k hk)) rfl rfl hd fun H' e1 e2 e3 => ?_
  rw [hsl] at e1 ⊢
  refine kk D cA b scr p l e R s m args below meth c Qf H' _ a C hX (hO.set (o := o) (mm_sz_sR M o k x) e2 e3 (fun a' h9 => ⟨rfl, rfl, fun j => rfl, fun j => by rw [mm_R_sR, if_neg (fun h8 => h9 h8.1)]⟩) ?_) (hS.put e2 e3 (Nat.le_add_right b o)) hL
  unfold aAt
  rw [show mKd (sR M o k x) o = ci from ht.2, if_pos hc]
  refine ⟨_, hc1, t_OB.to (V := updV (aF b M o) k (aV b scr (va_rf x))) ⟨_, e1, q2, q3, t_set q4 hap hk _⟩ (fun j _ => ?_)⟩
  by_cases hj : j = k
  · subst hj
    simp [updV, aF, mm_kd_sR, ht.2, hr, mm_R_sR, aV_rf]
  · simp [updV, aF, mm_kd_sR, ht.2, hj, mm_R_sR, mm_I_sR]
theorem j_putrF {ix o k ci : Nat} {x : Option Nat} {ty : FieldType} (hd : decode μ.2.1 pc = .ok (.putfield ix, 3)) (ht : tO M o ci) (hf : aPl μ.1.cls ix ci k ty true) (hr : aRf ci k = true) (hc : ci < 100) (hn : ∀ z : Option Nat, narrow ty (va_rf z) = va_rf z) (hfit : ∀ z : Option Nat, fits ty (va_rf z) = true) (hin2 : μ.1.name = "<init>") (kk : aJ X μ d mc ms Q uc us (pc + 3) ls st (sR M o k x)) : aJ X μ d mc ms Q uc us pc ls (va_rf x :: .ref o :: st) M := by
  intro D cA b scr p l e R s m args below meth c Qf H locs a C hX hO hS hL
  obtain ⟨C1, T, N, ref, ty0, hc1, hk, hin, hlk, hsm, hty, hnm, hty1, hfin, hdecl⟩ := hf
  obtain ⟨r, hr1, cell, q1, q2, q3, q4⟩ := aAt.obj ht.2 hc (hO.2 o ht.1)
  have hre : r = (C1, T, N) := Option.some.inj (hr1.symm.trans hc1)
  subst hre
  have hts := C.2.2.2.2.1
  have hap := va_apart (own := C1) hts hin ty0 hty hnm C.2.2.2.2.2.1.1 hc1
  obtain ⟨hSl, hfc, kC, hkC, hkind⟩ := C.2.2.2.2.2.1.1.1 ci _ hc1
  obtain ⟨cf, kf, fi, f, hi, hsl⟩ := hSl k hk
  have hsame : s.fieldFound? ref (T k).2.1 (T k).2.2.1 = some (cf, kf, fi, f) := by
    rcases hsm with e9 | h9
    · rw [e9]; exact hi
    · exact u_same (hts _ h9) _ hi
  have hlay := hts _ (hin _ (u_in_lay hk))
  unfold u_lay at hlay
  have hst := (u_facts hfc hkC (u_lays hts hin hk) hi).1
  have hpd : parseFieldDescriptor (T k).2.2.1 = some ty := by rw [hty k hk, hty1]
  rw [if_pos hfin] at hlay
  have hcf : m.cls = cf := by
    obtain ⟨_, _, c', _, _, _, -, -, hf', -, -, -, hown2, -⟩ := Cond.laysFinal_spec hlay
    have e1 : c' = cf := by have := hi.symm.trans hf'; simp at this; exact this.1.symm
    rw [hdecl rfl] at hown2
    rw [← e1]; exact Option.some.inj (C.2.2.2.1.symm.trans hown2)
  have h6 := u_fits hfc hkC hkind (Or.inr hlay) hi hpd (v := aV b scr (va_rf x)) (by rw [aV_rf]; exact hn _) (by rw [aV_rf]; exact hfit _)
  refine W.putFinK C.1 C.2.1 C.2.2.2.1 (hts _ hlk) hsame hst hcf (C.2.2.2.2.2.2.2.2.2.2.2.1.trans hin2) (v := aV b scr (va_rf x)) (by rw [q2]; exact h6) q1 q3 (by rw [hsl]; exact k2_hasslot (q4 k hk)) rfl rfl hd fun H' e1 e2 e3 => ?_
  rw [hsl] at e1 ⊢
  refine kk D cA b scr p l e R s m args below meth c Qf H' _ a C hX (hO.set (o := o) (mm_sz_sR M o k x) e2 e3 (fun a' h9 => ⟨rfl, rfl, fun j => rfl, fun j => by rw [mm_R_sR, if_neg (fun h8 => h9 h8.1)]⟩) ?_) (hS.put e2 e3 (Nat.le_add_right b o)) hL
  unfold aAt
  rw [show mKd (sR M o k x) o = ci from ht.2, if_pos hc]
  refine ⟨_, hc1, t_OB.to (V := updV (aF b M o) k (aV b scr (va_rf x))) ⟨_, e1, q2, q3, t_set q4 hap hk _⟩ (fun j _ => ?_)⟩
  by_cases hj : j = k
  · subst hj
    simp [updV, aF, mm_kd_sR, ht.2, hr, mm_R_sR, aV_rf]
  · simp [updV, aF, mm_kd_sR, ht.2, hj, mm_R_sR, mm_I_sR]
/-- a place in a row -/
def aIx (i : Int32) (n j : Nat) : Prop := vp_in i n ∧ i.toNatClampNeg = j
theorem aIx.lt {i : Int32} {n j : Nat} (h : aIx i n j) : j < n := by
  obtain ⟨h1, h2⟩ := h
  rw [← h2]
  exact Nat.not_le.mp fun q => h1 (Or.inr q)
theorem aIx.n {n j : Nat} (h : j < n) (hn : n < 2 ^ 31) : aIx (nI j) n j := ⟨vp_in_nI h hn, nI_clamp (by omega)⟩
theorem aIx.of {i : Int32} {n j : Nat} (e : i = nI j) (h : j < n) (hn : n < 2 ^ 31) : aIx i n j := by subst e; exact aIx.n h hn
/-- the array class of this kind is one of the tables' -/
def aTs (kd : Nat) : Prop := ∀ cA : Nat → ClassId, ∃ (t0 : Nat) (E : String), (aT cA)[t0]? = some (cA kd, .object E)
theorem j_iald {i : Int32} {o n j : Nat} (hd : decode μ.2.1 pc = .ok (.iaload, 1)) (ht : tA M o 100 n) (hj : aIx i n j) (kk : aJ X μ d mc ms Q uc us (pc + 1) ls (.int (mI M o j) :: st) M) : aJ X μ d mc ms Q uc us pc ls (.int i :: .ref o :: st) M := by
  intro D cA b scr p l e R s m args below meth c Qf H locs a C hX hO hS hL
  have hat := aAt.ints ht.2.1 ht.2.2 (by omega) (by omega) (hO.2 o ht.1)
  refine W.iald (v := .int (mI M o j)) C.1 C.2.1 hat ((C.2.2.2.2.2.1.1.2 0 _ rfl).1 n (fun j => .int (mI M o j))) (fun q => by cases q) (by show ¬ (i < 0 ∨ (arrV _ _ _).slots.size ≤ _); rw [arrV_size]; exact hj.1) (by show (arrV _ _ _).slots[_]? = _; rw [hj.2, arrV_read _ _ hj.lt]) rfl rfl hd (kk D cA b scr p l e R s m args below meth c Qf H locs a C hX hO hS hL)
theorem j_zald {i : Int32} {o n j : Nat} (hd : decode μ.2.1 pc = .ok (.baload, 1)) (ht : tA M o 101 n) (hj : aIx i n j) (kk : aJ X μ d mc ms Q uc us (pc + 1) ls (.int (mI M o j) :: st) M) : aJ X μ d mc ms Q uc us pc ls (.int i :: .ref o :: st) M := by
  intro D cA b scr p l e R s m args below meth c Qf H locs a C hX hO hS hL
  have hat := aAt.ints ht.2.1 ht.2.2 (by omega) (by omega) (hO.2 o ht.1)
  refine W.zald (v := .int (mI M o j)) C.1 C.2.1 hat ((C.2.2.2.2.2.1.1.2 1 _ rfl).1 n (fun j => .int (mI M o j))) (fun q => by cases q) (by show ¬ (i < 0 ∨ (arrV _ _ _).slots.size ≤ _); rw [arrV_size]; exact hj.1) (by show (arrV _ _ _).slots[_]? = _; rw [hj.2, arrV_read _ _ hj.lt]) rfl rfl hd (kk D cA b scr p l e R s m args below meth c Qf H locs a C hX hO hS hL)
theorem j_aald {i : Int32} {o n j kd : Nat} (hd : decode μ.2.1 pc = .ok (.aaload, 1)) (ht : tA M o kd n) (h2 : 102 ≤ kd) (hty : aTs kd) (hj : aIx i n j) (kk : aJ X μ d mc ms Q uc us (pc + 1) ls (va_rf (mR M o j) :: st) M) : aJ X μ d mc ms Q uc us pc ls (.int i :: .ref o :: st) M := by
  intro D cA b scr p l e R s m args below meth c Qf H locs a C hX hO hS hL
  have hat := aAt.refs ht.2.1 ht.2.2 h2 (hO.2 o ht.1)
  obtain ⟨t0, E, ht0⟩ := hty cA
  refine W.aald (v := aV b scr (va_rf (mR M o j))) (ty := .object E) C.1 C.2.1 hat ((C.2.2.2.2.2.1.1.2 t0 _ ht0).1 n (fun j => va_rf ((mR M o j).map (b + ·)))) rfl (fun q => by cases q) (by show ¬ (i < 0 ∨ (arrV _ _ _).slots.size ≤ _); rw [arrV_size]; exact hj.1) (by show (arrV _ _ _).slots[_]? = _; rw [hj.2, arrV_read _ _ hj.lt, aV_rf]) rfl rfl hd (kk D cA b scr p l e R s m args below meth c Qf H locs a C hX hO hS hL)
theorem j_alen {o kd n : Nat} {v : Int32} (hd : decode μ.2.1 pc = .ok (.arraylength, 1)) (ht : tA M o kd n) (hk : 100 ≤ kd) (hty : kd = 100 ∨ kd = 101 ∨ (102 ≤ kd ∧ aTs kd)) (hv : Int32.ofNat n = v) (kk : aJ X μ d mc ms Q uc us (pc + 1) ls (.int v :: st) M) : aJ X μ d mc ms Q uc us pc ls (.ref o :: st) M := by
  intro D cA b scr p l e R s m args below meth c Qf H locs a C hX hO hS hL
  rcases hty with h9 | h9 | ⟨h9, hty⟩
  · subst h9
    have hat := aAt.ints ht.2.1 ht.2.2 (by omega) (by omega) (hO.2 o ht.1)
    exact W.alen (n := v) C.1 C.2.1 hat ((C.2.2.2.2.2.1.1.2 0 _ rfl).1 n (fun j => .int (mI M o j))) (by rw [arrV_size]; exact hv) rfl rfl hd (kk D cA b scr p l e R s m args below meth c Qf H locs a C hX hO hS hL)
  · subst h9
    have hat := aAt.ints ht.2.1 ht.2.2 (by omega) (by omega) (hO.2 o ht.1)
    exact W.alen (n := v) C.1 C.2.1 hat ((C.2.2.2.2.2.1.1.2 1 _ rfl).1 n (fun j => .int (mI M o j))) (by rw [arrV_size]; exact hv) rfl rfl hd (kk D cA b scr p l e R s m args below meth c Qf H locs a C hX hO hS hL)
  · have hat := aAt.refs ht.2.1 ht.2.2 h9 (hO.2 o ht.1)
    obtain ⟨t0, E, ht0⟩ := hty cA
    exact W.alen (n := v) C.1 C.2.1 hat ((C.2.2.2.2.2.1.1.2 t0 _ ht0).1 n (fun j => va_rf ((mR M o j).map (b + ·)))) (by rw [arrV_size]; exact hv) rfl rfl hd (kk D cA b scr p l e R s m args below meth c Qf H locs a C hX hO hS hL)
theorem j_iast {i x : Int32} {o n j : Nat} (hd : decode μ.2.1 pc = .ok (.iastore, 1)) (ht : tA M o 100 n) (hj : aIx i n j) (kk : aJ X μ d mc ms Q uc us (pc + 1) ls st (sI M o j x)) : aJ X μ d mc ms Q uc us pc ls (.int x :: .int i :: .ref o :: st) M := by
  intro D cA b scr p l e R s m args below meth c Qf H locs a C hX hO hS hL
  have hat := aAt.ints ht.2.1 ht.2.2 (by omega) (by omega) (hO.2 o ht.1)
  refine W.iast C.1 C.2.1 hat ((C.2.2.2.2.2.1.1.2 0 _ rfl).1 n (fun j => .int (mI M o j))) (fun q => by cases q) (by show ¬ (i < 0 ∨ (arrV _ _ _).slots.size ≤ _); rw [arrV_size]; exact hj.1) rfl rfl hd fun H' e1 e2 e3 => ?_
  refine kk D cA b scr p l e R s m args below meth c Qf H' _ a C hX (hO.set (o := o) (mm_sz_sI M o j x) e2 e3 (fun a' h9 => ⟨rfl, rfl, fun j => by rw [mm_I_sI, if_neg (fun h8 => h9 h8.1)], fun j => rfl⟩) ?_) (hS.put e2 e3 (Nat.le_add_right b o)) hL
  unfold aAt
  rw [show mKd (sI M o j x) o = 100 from ht.2.1, show mLn (sI M o j x) o = n from ht.2.2, if_neg (by omega), if_pos (by omega), e1, arrV_store, hj.2]
  congr 2
  funext q
  by_cases hq : q = j
  · subst hq; simp [updV, mm_I_sI]
  · simp [updV, mm_I_sI, hq]
theorem j_zast {i x : Int32} {o n j : Nat} (hd : decode μ.2.1 pc = .ok (.bastore, 1)) (ht : tA M o 101 n) (hj : aIx i n j) (hx : narrow .boolean (.int x) = .int x) (kk : aJ X μ d mc ms Q uc us (pc + 1) ls st (sI M o j x)) : aJ X μ d mc ms Q uc us pc ls (.int x :: .int i :: .ref o :: st) M := by
  intro D cA b scr p l e R s m args below meth c Qf H locs a C hX hO hS hL
  have hat := aAt.ints ht.2.1 ht.2.2 (by omega) (by omega) (hO.2 o ht.1)
  refine W.zast C.1 C.2.1 hat ((C.2.2.2.2.2.1.1.2 1 _ rfl).1 n (fun j => .int (mI M o j))) (fun q => by cases q) (by show ¬ (i < 0 ∨ (arrV _ _ _).slots.size ≤ _); rw [arrV_size]; exact hj.1) rfl rfl hd fun H' e1 e2 e3 => ?_
  refine kk D cA b scr p l e R s m args below meth c Qf H' _ a C hX (hO.set (o := o) (mm_sz_sI M o j x) e2 e3 (fun a' h9 => ⟨rfl, rfl, fun j => by rw [mm_I_sI, if_neg (fun h8 => h9 h8.1)], fun j => rfl⟩) ?_) (hS.put e2 e3 (Nat.le_add_right b o)) hL
  unfold aAt
  rw [show mKd (sI M o j x) o = 101 from ht.2.1, show mLn (sI M o j x) o = n from ht.2.2, if_neg (by omega), if_pos (by omega), e1, arrV_store, hx, hj.2]
  congr 2
  funext q
  by_cases hq : q = j
  · subst hq; simp [updV, mm_I_sI]
  · simp [updV, mm_I_sI, hq]
/-- an object of class ci may lie in a row of kind kd -/
def aCa (ci kd : Nat) : Prop := ∃ (r : vw_C) (E : String), aCl[ci]? = some r ∧ (∀ cA : Nat → ClassId, ∃ t0 : Nat, (aT cA)[t0]? = some (cA kd, FieldType.object E)) ∧ (r.1 = E ∨ Cond.castable r.1 E ∈ aNW)
theorem j_aast {i : Int32} {o n j kd x ci : Nat} (hd : decode μ.2.1 pc = .ok (.aastore, 1)) (ht : tA M o kd n) (h2 : 102 ≤ kd) (hj : aIx i n j) (hx : tO M x ci) (hc : ci < 100) (hca : aCa ci kd) (kk : aJ X μ d mc ms Q uc us (pc + 1) ls st (sR M o j (some x))) : aJ X μ d mc ms Q uc us pc ls (.ref x :: .int i :: .ref o :: st) M := by
  intro D cA b scr p l e R s m args below meth c Qf H locs a C hX hO hS hL
  have hat := aAt.refs ht.2.1 ht.2.2 h2 (hO.2 o ht.1)
  obtain ⟨r, E, hr1, hE, hcs⟩ := hca
  obtain ⟨t0, ht0⟩ := hE cA
  obtain ⟨r', hr', cellV, g1, g2, g3, -⟩ := aAt.obj hx.2 hc (hO.2 x hx.1)
  have hcls := (C.2.2.2.2.2.1.1.1 ci r hr1).2
  obtain ⟨kA, comp, k1, k2, k3, -⟩ := (C.2.2.2.2.2.1.1.2 t0 _ ht0).2
  obtain ⟨kE, hkE, -⟩ := Vm.findClass_spec k3
  have f3 : s.vm.assignable (D.1 ci) comp = true := by
    rcases hcs with e9 | h9
    · rw [← e9] at k3
      cases hcls.1.symm.trans k3
      exact va_assign hcls
    · obtain ⟨c0, t1, f1, f2, f3⟩ := Cond.castable_spec (va_Nw.use (A := args) rfl (C.2.2.2.2.2.1.2 _ h9))
      cases hcls.1.symm.trans f1
      cases k3.symm.trans f2
      exact f3
  obtain ⟨kC, hkC, -⟩ := hcls.2
  refine W.aast C.1 C.2.1 hat (fun q h => by cases h) (fun h => by cases h) k1 k2 rfl hkE ⟨fun q => hj.1 (Or.inl q), by show _ < (arrV _ _ _).slots.size; rw [arrV_size, hj.2]; exact hj.lt⟩ g1 (fun q h => by rw [g3] at h; cases h) (by rw [g2]; exact hkC) (by rw [g2]; exact f3) rfl rfl hd fun H' e1 e2 e3 => ?_
  refine kk D cA b scr p l e R s m args below meth c Qf H' _ a C hX (hO.set (o := o) (mm_sz_sR M o j (some x)) e2 e3 (fun a' h9 => ⟨rfl, rfl, fun j => rfl, fun j => by rw [mm_R_sR, if_neg (fun h8 => h9 h8.1)]⟩) ?_) (hS.put e2 e3 (Nat.le_add_right b o)) hL
  unfold aAt
  rw [show mKd (sR M o j (some x)) o = kd from ht.2.1, show mLn (sR M o j (some x)) o = n from ht.2.2, if_neg (by omega), if_neg (by omega), e1, arrV_store, hj.2]
  congr 2
  funext q
  by_cases hq : q = j
  · subst hq; simp [updV, mm_R_sR, va_rf]
  · simp [updV, mm_R_sR, hq]
/-- a class that can be made -/
def aNl (own : String) (ix ci N : Nat) : Prop := ∃ (C : String) (T : u_T) (ty : Nat → FieldType), aCl[ci]? = some (C, T, N) ∧ (∀ w ∈ u_ws C T N, w ∈ aWS) ∧ (∀ k, k < N → parseFieldDescriptor (T k).2.2.1 = some (ty k)) ∧ Cond.classLink own ix C ∈ aWS ∧ Cond.instantiable C N ∈ aWS ∧ Cond.initialized C ∈ aWS ∧ ∀ k, k < N → defaultValue (ty k) = if aRf ci k = true then .null else .int 0
theorem aS.new {A : Nat → Prop} {H0 H H1 : Heap} {locs : List Loc} (hS : va_S A H0 H locs) (hz : H1.size = H.size + 1) (hq : ∀ q, q < H.size → H1[q]? = H[q]?) : va_S A H0 H1 locs :=
  ⟨Nat.le_trans hS.1 (by omega), fun x h1 h2 => (hq x (Nat.lt_of_lt_of_le h1 hS.1)).trans (hS.2.1 x h1 h2), hS.2.2⟩
theorem j_new {ix ci N : Nat} (hd : decode μ.2.1 pc = .ok (.new ix, 3)) (hf : aNl μ.1.cls ix ci N) (hc : ci < 100) (hu : uc + 1 ≤ mc) (hv : us + N ≤ ms) (kk : aJ X μ d mc ms Q (uc + 1) (us + N) (pc + 3) ls (.ref (mSz M) :: st) (mN M ci 0)) : aJ X μ d mc ms Q uc us pc ls st M := by
  intro D cA b scr p l e R s m args below meth c Qf H locs a C hX hO hS hL
  obtain ⟨C1, T, ty, hc1, hin, hty, w1, w2, w3, hdf⟩ := hf
  have hts := C.2.2.2.2.1
  have hKn := C.2.2.2.2.2.1.1.1 ci _ hc1
  have hR1 := C.2.2.2.2.2.2.2.2.1
  have hR2 := C.2.2.2.2.2.2.2.2.2.1
  refine W.newcK C.1 C.2.1 C.2.2.2.1 (hts _ w1) (hts _ w2) (hts _ w3) rfl hd (by omega) (by omega) hKn.2.1 hO.1 fun H1 kC hkC e1 z1 o1 => ?_
  have hz : H1.size = H.size + 1 := by rw [z1, hO.1]
  have hq : ∀ q, q < H.size → H1[q]? = H[q]? := fun q h => o1 q (by rw [← hO.1]; exact h)
  refine kk D cA b scr p l e R s m args below meth c Qf H1 locs a C hX (hO.new hz hq ?_) (aS.new hS hz hq) hL
  unfold aAt
  rw [show mKd (mN M ci 0) (mSz M) = ci from (tO.new M ci 0).2, if_pos hc]
  refine ⟨_, hc1, (u_born ty hts hin hKn hkC e1 hty).to (fun k hk => ?_)⟩
  show defaultValue (ty k) = _
  rw [hdf k hk]
  simp only [aF, (tO.new M ci 0).2, mm_R_mN, mm_I_mN, if_true, Option.map_none, va_rf]
theorem j_newa {at_ : ArrayType} {n : Int32} {N kd tix : Nat} (hd : decode μ.2.1 pc = .ok (.newarray at_, 2)) (h1 : 100 ≤ kd) (h2 : kd < 102) (htx : ∀ cA : Nat → ClassId, (aT cA)[tix]? = some (cA kd, newarray.typeOf at_)) (hdv : defaultValue (newarray.typeOf at_) = .int 0) (hra : ∀ (U : State) (c : ClassId), va_RA U c (newarray.typeOf at_) → U.vm.findClass ("[" ++ (newarray.typeOf at_).toString) = some c) (hw : Cond.arrayClass (newarray.typeOf at_) ∈ aWS) (hn : n = nI N) (hN : N ≤ 100000) (hcb : componentBytes (newarray.typeOf at_) ≤ 8) (hu : uc + 1 ≤ mc) (hv : us + N ≤ ms) (kk : aJ X μ d mc ms Q (uc + 1) (us + N) (pc + 2) ls (.ref (mSz M) :: st) (mN M kd N)) : aJ X μ d mc ms Q uc us pc ls (.int n :: st) M := by
  intro D cA b scr p l e R s m args below meth c Qf H locs a C hX hO hS hL
  have hts := C.2.2.2.2.1
  have hR1 := C.2.2.2.2.2.2.2.2.1
  have hR2 := C.2.2.2.2.2.2.2.2.2.1
  subst hn
  refine va_newaK C.1 C.2.1 (hts _ hw) rfl hd rfl (nI_pos (by omega)) (nI_clamp (by omega)) (by have := Nat.mul_le_mul hN hcb; omega) (by omega) (by omega) hO.1 fun H1 cA' e1 z1 o1 hAr hNm => ?_
  have hcA : cA' = cA kd := Option.some.inj (hNm.symm.trans (hra _ _ (C.2.2.2.2.2.1.1.2 tix _ (htx cA)).2))
  subst hcA
  have hz : H1.size = H.size + 1 := by rw [z1, hO.1]
  have hq : ∀ q, q < H.size → H1[q]? = H[q]? := fun q h => o1 q (by rw [← hO.1]; exact h)
  refine kk D cA b scr p l e R s m args below meth c Qf H1 locs a C hX (hO.new hz hq ?_) (aS.new hS hz hq) hL
  unfold aAt
  rw [show mKd (mN M kd N) (mSz M) = kd from (tA.new M kd N).2.1, show mLn (mN M kd N) (mSz M) = N from (tA.new M kd N).2.2, if_neg (by omega), if_pos h2, e1, hdv]
  simp only [mm_I_mN, if_true]
theorem j_anew {ix : Nat} {n : Int32} {N kd tix : Nat} {E : String} (hd : decode μ.2.1 pc = .ok (.anewarray ix, 3)) (h2 : 102 ≤ kd) (htx : ∀ cA : Nat → ClassId, (aT cA)[tix]? = some (cA kd, .object E)) (hw : Cond.classLink μ.1.cls ix E ∈ aWS) (hw2 : Cond.arrayOver (.object E) ∈ aNW) (hn : n = nI N) (hN : N ≤ 100000) (hu : uc + 1 ≤ mc) (hv : us + N ≤ ms) (kk : aJ X μ d mc ms Q (uc + 1) (us + N) (pc + 3) ls (.ref (mSz M) :: st) (mN M kd N)) : aJ X μ d mc ms Q uc us pc ls (.int n :: st) M := by
  intro D cA b scr p l e R s m args below meth c Qf H locs a C hX hO hS hL
  have hts := C.2.2.2.2.1
  have hR1 := C.2.2.2.2.2.2.2.2.1
  have hR2 := C.2.2.2.2.2.2.2.2.2.1
  subst hn
  have hcl : (nI N).toNatClampNeg = N := nI_clamp (by omega)
  refine W.anew C.1 C.2.1 C.2.2.2.1 (hts _ hw) (C.2.2.2.2.2.1.2 _ hw2) rfl hd rfl (nI_pos (by omega)) (by rw [hcl]; omega) (by omega) (by rw [hcl]; omega) fun cA' kA comp f1 f2 f3 f4 => ?_
  obtain ⟨_, _, _, _, _, hNm⟩ := (C.2.2.2.2.2.1.1.2 tix _ (htx cA)).2
  have hcA : cA' = cA kd := Option.some.inj (f1.symm.trans hNm)
  subst hcA
  generalize hH1 : H.push ({ cls := cA kd, slots := Array.replicate (nI N).toNatClampNeg .null, vm := .none } : Cell) = H1
  have hz : H1.size = H.size + 1 := by rw [← hH1, Array.size_push]
  have e1 : H1[H.size]? = some (arrV (cA kd) (nI N).toNatClampNeg (fun _ => .null)) := by rw [← hH1, Array.getElem?_push_size, ← arrV_new]
  have hq : ∀ q : Nat, q < H.size → H1[q]? = H[q]? := fun q hq => by rw [← hH1, Array.getElem?_push, if_neg (Nat.ne_of_lt hq)]
  rw [hcl] at e1 ⊢
  rw [hO.1] at e1 ⊢
  refine kk D cA b scr p l e R s m args below meth c Qf H1 locs a C hX (hO.new hz hq ?_) (aS.new hS hz hq) hL
  unfold aAt
  rw [show mKd (mN M kd N) (mSz M) = kd from (tA.new M kd N).2.1, show mLn (mN M kd N) (mSz M) = N from (tA.new M kd N).2.2, if_neg (by omega), if_neg (by omega), e1]
  simp only [mm_R_mN, if_true, Option.map_none, va_rf]
end JM
