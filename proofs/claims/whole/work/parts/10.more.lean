section JMore
variable {X : Nat → Nat → State → Prop} {μ : aMd} {d mc ms : Nat} {Q : aM → Option Value → Prop} {uc us pc : Nat} {ls : List (Option Value)} {st : List Value} {M : aM}
theorem j_ixor {x y : Int32} (hd : decode μ.2.1 pc = .ok (.ixor, 1)) (kk : aJ X μ d mc ms Q uc us (pc + 1) ls (.int (x ^^^ y) :: st) M) : aJ X μ d mc ms Q uc us pc ls (.int y :: .int x :: st) M := by
  intro D cA b scr p l e R s m args below meth c Qf H locs a C hX hO hS hL
  exact lv_ixor C.1 C.2.1 hd (kk D cA b scr p l e R s m args below meth c Qf H locs a C hX hO hS hL)
theorem j_getR {ix o k ci r : Nat} (hd : decode μ.2.1 pc = .ok (.getfield ix, 3)) (ht : tO M o ci) (hf : aFl μ.1.cls ix ci k) (hr : aRf ci k = true) (hc : ci < 100) (hv : mR M o k = some r) (kk : aJ X μ d mc ms Q uc us (pc + 3) ls (.ref r :: st) M) : aJ X μ d mc ms Q uc us pc ls (.ref o :: st) M :=
  j_getr hd ht hf hr hc (j_eqv (by rw [hv]; rfl) kk)
theorem j_getN {ix o k ci : Nat} (hd : decode μ.2.1 pc = .ok (.getfield ix, 3)) (ht : tO M o ci) (hf : aFl μ.1.cls ix ci k) (hr : aRf ci k = true) (hc : ci < 100) (hv : mR M o k = none) (kk : aJ X μ d mc ms Q uc us (pc + 3) ls (.null :: st) M) : aJ X μ d mc ms Q uc us pc ls (.ref o :: st) M :=
  j_getr hd ht hf hr hc (j_eqv (by rw [hv]; rfl) kk)
theorem j_putR {ix o k ci r : Nat} {ty : FieldType} (hd : decode μ.2.1 pc = .ok (.putfield ix, 3)) (ht : tO M o ci) (hf : aPl μ.1.cls ix ci k ty false) (hr : aRf ci k = true) (hc : ci < 100) (hn : ∀ z : Option Nat, narrow ty (va_rf z) = va_rf z) (hfit : ∀ z : Option Nat, fits ty (va_rf z) = true) (kk : aJ X μ d mc ms Q uc us (pc + 3) ls st (sR M o k (some r))) : aJ X μ d mc ms Q uc us pc ls (.ref r :: .ref o :: st) M :=
  j_putr (x := some r) hd ht hf hr hc hn hfit kk
theorem j_putRF {ix o k ci r : Nat} {ty : FieldType} (hd : decode μ.2.1 pc = .ok (.putfield ix, 3)) (ht : tO M o ci) (hf : aPl μ.1.cls ix ci k ty true) (hr : aRf ci k = true) (hc : ci < 100) (hn : ∀ z : Option Nat, narrow ty (va_rf z) = va_rf z) (hfit : ∀ z : Option Nat, fits ty (va_rf z) = true) (hin2 : μ.1.name = "<init>") (kk : aJ X μ d mc ms Q uc us (pc + 3) ls st (sR M o k (some r))) : aJ X μ d mc ms Q uc us pc ls (.ref r :: .ref o :: st) M :=
  j_putrF (x := some r) hd ht hf hr hc hn hfit hin2 kk
theorem j_aaldR {i : Int32} {o n j kd r : Nat} (hd : decode μ.2.1 pc = .ok (.aaload, 1)) (ht : tA M o kd n) (h2 : 102 ≤ kd) (hty : aTs kd) (hj : aIx i n j) (hv : mR M o j = some r) (kk : aJ X μ d mc ms Q uc us (pc + 1) ls (.ref r :: st) M) : aJ X μ d mc ms Q uc us pc ls (.int i :: .ref o :: st) M :=
  j_aald hd ht h2 hty hj (j_eqv (by rw [hv]; rfl) kk)
theorem j_aaldN {i : Int32} {o n j kd : Nat} (hd : decode μ.2.1 pc = .ok (.aaload, 1)) (ht : tA M o kd n) (h2 : 102 ≤ kd) (hty : aTs kd) (hj : aIx i n j) (hv : mR M o j = none) (kk : aJ X μ d mc ms Q uc us (pc + 1) ls (.null :: st) M) : aJ X μ d mc ms Q uc us pc ls (.int i :: .ref o :: st) M :=
  j_aald hd ht h2 hty hj (j_eqv (by rw [hv]; rfl) kk)
theorem tx_100 : ∀ cA : Nat → ClassId, (aT cA)[0]? = some (cA 100, .int) := fun _ => rfl
theorem tx_101 : ∀ cA : Nat → ClassId, (aT cA)[1]? = some (cA 101, .boolean) := fun _ => rfl
theorem tx_102 : ∀ cA : Nat → ClassId, (aT cA)[2]? = some (cA 102, .object "ShardGroups$Node") := fun _ => rfl
theorem tx_103 : ∀ cA : Nat → ClassId, (aT cA)[3]? = some (cA 103, .object "ShardGroups$ServiceNode") := fun _ => rfl
theorem tx_104 : ∀ cA : Nat → ClassId, (aT cA)[4]? = some (cA 104, .object "ShardGroups$StoreNode") := fun _ => rfl
theorem tx_105 : ∀ cA : Nat → ClassId, (aT cA)[5]? = some (cA 105, .object "ShardGroups$Configuration") := fun _ => rfl
theorem tx_106 : ∀ cA : Nat → ClassId, (aT cA)[6]? = some (cA 106, .object "ShardGroups$Entry") := fun _ => rfl
theorem tx_107 : ∀ cA : Nat → ClassId, (aT cA)[7]? = some (cA 107, .object "ShardGroups$Shard") := fun _ => rfl
theorem ts_102 : aTs 102 := fun cA => ⟨2, _, tx_102 cA⟩
theorem ts_103 : aTs 103 := fun cA => ⟨3, _, tx_103 cA⟩
theorem ts_104 : aTs 104 := fun cA => ⟨4, _, tx_104 cA⟩
theorem ts_105 : aTs 105 := fun cA => ⟨5, _, tx_105 cA⟩
theorem ts_106 : aTs 106 := fun cA => ⟨6, _, tx_106 cA⟩
theorem ts_107 : aTs 107 := fun cA => ⟨7, _, tx_107 cA⟩
theorem ty_100 : (100 : Nat) = 100 ∨ (100 : Nat) = 101 ∨ (102 ≤ 100 ∧ aTs 100) := Or.inl rfl
theorem ty_101 : (101 : Nat) = 100 ∨ (101 : Nat) = 101 ∨ (102 ≤ 101 ∧ aTs 101) := Or.inr (Or.inl rfl)
theorem ty_103 : (103 : Nat) = 100 ∨ (103 : Nat) = 101 ∨ (102 ≤ 103 ∧ aTs 103) := Or.inr (Or.inr ⟨by decide, ts_103⟩)
theorem ty_104 : (104 : Nat) = 100 ∨ (104 : Nat) = 101 ∨ (102 ≤ 104 ∧ aTs 104) := Or.inr (Or.inr ⟨by decide, ts_104⟩)
theorem ty_107 : (107 : Nat) = 100 ∨ (107 : Nat) = 101 ∨ (102 ≤ 107 ∧ aTs 107) := Or.inr (Or.inr ⟨by decide, ts_107⟩)
theorem j_newi {n : Int32} {N : Nat} (hd : decode μ.2.1 pc = .ok (.newarray .int, 2)) (hn : n = nI N) (hN : N ≤ 100000) (hu : uc + 1 ≤ mc) (hv : us + N ≤ ms) (kk : aJ X μ d mc ms Q (uc + 1) (us + N) (pc + 2) ls (.ref (mSz M) :: st) (mN M 100 N)) : aJ X μ d mc ms Q uc us pc ls (.int n :: st) M :=
  j_newa hd (by decide) (by decide) tx_100 rfl (fun _ _ h => h) w50 hn hN (by decide) hu hv kk
theorem j_newz {n : Int32} {N : Nat} (hd : decode μ.2.1 pc = .ok (.newarray .boolean, 2)) (hn : n = nI N) (hN : N ≤ 100000) (hu : uc + 1 ≤ mc) (hv : us + N ≤ ms) (kk : aJ X μ d mc ms Q (uc + 1) (us + N) (pc + 2) ls (.ref (mSz M) :: st) (mN M 101 N)) : aJ X μ d mc ms Q uc us pc ls (.int n :: st) M :=
  j_newa hd (by decide) (by decide) tx_101 rfl (fun _ _ h => h) w49 hn hN (by decide) hu hv kk
theorem j_min {ix : Nat} {x y : Int32} (hd : decode μ.2.1 pc = .ok (.invokestatic ix, 3)) (w1 : Cond.methodLink μ.1.cls ix Lib.Math.min.name ∈ aWS) (w2 : Cond.static Lib.Math.min.name ∈ aWS) (w3 : Cond.initialized "java/lang/Math" ∈ aWS) (w4 : Cond.code Lib.Math.min.name Lib.Math.min.code 2 (some .int) ∈ aWS) (hdep : 1 ≤ d) (hlen : st.length ≤ 8) (hc : uc ≤ mc) (hs : us ≤ ms) (kk : aJ X μ d mc ms Q uc us (pc + 3) ls (.int (if y < x then y else x) :: st) M) : aJ X μ d mc ms Q uc us pc ls (.int y :: .int x :: st) M := by
  intro D cA b scr p l e R s m args below meth c Qf H locs a C hX hO hS hL
  have hts := C.2.2.2.2.1
  have hR1 := C.2.2.2.2.2.2.1
  have hR2 := C.2.2.2.2.2.2.2.1
  have hR3 := C.2.2.2.2.2.2.2.2.1
  have hR4 := C.2.2.2.2.2.2.2.2.2.1
  exact va_mmin C.1 C.2.1 (C.2.2.1.trans hL.1.1.symm) C.2.2.2.1 (hts _ w1) (hts _ w2) (hts _ w3) (hts _ w4) (by omega) (by rw [aSum]; omega) (by omega) (by omega) hd (kk D cA b scr p l e R s m args below meth c Qf H locs a C hX hO hS hL)
theorem j_max {ix : Nat} {x y : Int32} (hd : decode μ.2.1 pc = .ok (.invokestatic ix, 3)) (w1 : Cond.methodLink μ.1.cls ix Lib.Math.max.name ∈ aWS) (w2 : Cond.static Lib.Math.max.name ∈ aWS) (w3 : Cond.initialized "java/lang/Math" ∈ aWS) (w4 : Cond.code Lib.Math.max.name Lib.Math.max.code 2 (some .int) ∈ aWS) (hdep : 1 ≤ d) (hlen : st.length ≤ 8) (hc : uc ≤ mc) (hs : us ≤ ms) (kk : aJ X μ d mc ms Q uc us (pc + 3) ls (.int (if x < y then y else x) :: st) M) : aJ X μ d mc ms Q uc us pc ls (.int y :: .int x :: st) M := by
  intro D cA b scr p l e R s m args below meth c Qf H locs a C hX hO hS hL
  have hts := C.2.2.2.2.1
  have hR1 := C.2.2.2.2.2.2.1
  have hR2 := C.2.2.2.2.2.2.2.1
  have hR3 := C.2.2.2.2.2.2.2.2.1
  have hR4 := C.2.2.2.2.2.2.2.2.2.1
  exact va_mmax C.1 C.2.1 (C.2.2.1.trans hL.1.1.symm) C.2.2.2.1 (hts _ w1) (hts _ w2) (hts _ w3) (hts _ w4) (by omega) (by rw [aSum]; omega) (by omega) (by omega) hd (kk D cA b scr p l e R s m args below meth c Qf H locs a C hX hO hS hL)
end JMore
theorem ca_V_103 : aCa 2 103 := ⟨_, _, rfl, fun cA => ⟨3, rfl⟩, Or.inl rfl⟩
theorem ca_T_104 : aCa 3 104 := ⟨_, _, rfl, fun cA => ⟨4, rfl⟩, Or.inl rfl⟩
theorem ca_V_102 : aCa 2 102 := ⟨_, _, rfl, fun cA => ⟨2, rfl⟩, Or.inr (by decide +kernel)⟩
theorem ca_T_102 : aCa 3 102 := ⟨_, _, rfl, fun cA => ⟨2, rfl⟩, Or.inr (by decide +kernel)⟩
theorem ca_C_105 : aCa 1 105 := ⟨_, _, rfl, fun cA => ⟨5, rfl⟩, Or.inl rfl⟩
theorem ca_H_107 : aCa 4 107 := ⟨_, _, rfl, fun cA => ⟨7, rfl⟩, Or.inl rfl⟩
theorem ca_E_106 : aCa 5 106 := ⟨_, _, rfl, fun cA => ⟨6, rfl⟩, Or.inl rfl⟩
theorem ca_G_106 : aCa 6 106 := ⟨_, _, rfl, fun cA => ⟨6, rfl⟩, Or.inr (by decide +kernel)⟩
theorem ca_F_106 : aCa 7 106 := ⟨_, _, rfl, fun cA => ⟨6, rfl⟩, Or.inr (by decide +kernel)⟩
theorem ca_R_106 : aCa 8 106 := ⟨_, _, rfl, fun cA => ⟨6, rfl⟩, Or.inr (by decide +kernel)⟩
theorem ca_I_106 : aCa 9 106 := ⟨_, _, rfl, fun cA => ⟨6, rfl⟩, Or.inr (by decide +kernel)⟩
theorem ca_D_106 : aCa 10 106 := ⟨_, _, rfl, fun cA => ⟨6, rfl⟩, Or.inr (by decide +kernel)⟩
theorem aK.ofF {μ : aMd} {d mc ms : Nat} {M : aM} {vs : List Value} {Q : aM → Option Value → Prop} (hy : plainFor μ.1 = true) (hn : vs.length ≤ μ.2.2.1) (h : aJ aX0 μ d mc ms Q 0 0 0 (vs.map some ++ List.replicate (μ.2.2.1 - vs.length) none) [] M) : aK μ d mc ms M vs Q := by
  intro l D cA b scr
  refine va_MetF (cc := μ.2.1) (maxL := μ.2.2.1) (ret := μ.2.2.2) hy rfl ?_
  intro p e s m args below meth c s₁ B hml hv
  obtain ⟨rfl, hO, hG⟩ := hv
  obtain ⟨a, ha, hL⟩ := aL.entry (b := b) (scr := scr) (nL := μ.2.2.1) (vs := vs) hn
  rw [ha]
  have hts := atoms_spec (ws := aws μ) B.pre
  have hlocks := B.notSynchronized
  have hL' : aL b scr μ.2.2.1 (vs.map some ++ List.replicate (μ.2.2.1 - vs.length) none) a := by
    refine ⟨hL.1, fun i v hi => ?_⟩
    by_cases h9 : i < (vs.map some).length
    · rw [List.getElem?_append_left h9] at hi
      exact hL.2 i v hi
    · rw [List.getElem?_append_right (by omega)] at hi
      have := List.mem_of_getElem? hi
      rw [List.mem_replicate] at this
      cases this.2
  refine h D cA b scr p l e _ s m _ below meth c _ s.heap [] a ⟨B.exec, B.bytes, hml, findClass_of_methodNamed B.named, fun w hw => hts w (List.mem_cons_of_mem _ hw), hG, Nat.le_refl _, Nat.le_refl _, Nat.le_refl _, Nat.le_refl _, by have := hO.1; omega, (name_of_methodNamed B.named B.method).1, ?_⟩ trivial hO va_S.rf hL'
  intro H locs uc us pc ls M' r hr hq hO' hS' hu hv'
  refine W.widen hu hv' ?_
  have hend : ∀ (v : Option Value), v = r.map (aV b scr) → ∀ t : State, t.heap = H → s.WarmedH t.vm → aQ D cA b scr Q (vs.map (aV b scr)).toArray s (.returned v) t := by
    intro v hv9 t ht hW
    subst hv9
    exact ⟨⟨M', r, rfl, hq, by rw [ht]; exact hO', aG.warm hW hG⟩, hS'.F ht⟩
  cases r with
  | none => exact W.vret B.exec B.bytes (B.returns.trans hr.1) (hend none rfl) hS'.2.2 hr.2
  | some v =>
    cases v with
    | int x =>
      obtain ⟨⟨ty, h1, h2⟩, h3⟩ := hr
      exact W.zret B.exec B.bytes (B.returns.trans h1) h2 (hend _ rfl) hS'.2.2 h3
    | ref x =>
      obtain ⟨⟨n, h1⟩, h3⟩ := hr
      exact W.aret B.exec B.bytes (B.returns.trans h1) (Or.inl ⟨n, rfl⟩) (Or.inr ⟨_, rfl⟩) (hend _ rfl) hS'.2.2 h3
    | null =>
      obtain ⟨⟨n, h1⟩, h3⟩ := hr
      exact W.aret B.exec B.bytes (B.returns.trans h1) (Or.inl ⟨n, rfl⟩) (Or.inl rfl) (hend _ rfl) hS'.2.2 h3
    | _ => exact hr.elim
