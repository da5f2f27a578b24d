theorem aG.warm {D : va_G} {cA : Nat → ClassId} {s U : State} (hW : s.WarmedH U.vm) (h : aG D cA s) : aG D cA U := ⟨va_K.moved hW.alike h.1, fun w hw => aNW_warm hW w hw (h.2 w hw)⟩
theorem aG.same {D : va_G} {cA : Nat → ClassId} {s U : State} (hv : s.vm = U.vm) (h : aG D cA s) : aG D cA U := ⟨va_K.moved (by rw [hv]; exact Vm.Alike.refl _) h.1, fun w hw => aNW_same hv w hw (h.2 w hw)⟩
theorem aPc.blind (D : va_G) (cA : Nat → ClassId) (b scr : Nat) (M : aM) (vs : List Value) : FrameBlind (aPc D cA b scr M vs) := by
  intro a U g mk h
  obtain ⟨h1, h2, h3⟩ := h
  exact ⟨h1, h2, aG.same (s := U) (U := U.calling g mk a) rfl h3⟩
theorem aGood (μ : aMd) (hc : Cond.code μ.1 μ.2.1 μ.2.2.1 μ.2.2.2 ∈ aWS) : GoodIn aWS (aws μ) := by
  intro w hw
  rcases List.mem_cons.mp hw with h | h
  · subst h; exact ⟨hc, aWS_good _ hc⟩
  · exact ⟨h, aWS_good _ h⟩
theorem aSum (b scr : Nat) : ∀ st : List Value, ((st.map (aV b scr)).map fun v => v.category).sum = st.length
  | [] => rfl
  | v :: st => by
    simp only [List.map_cons, List.sum_cons, List.length_cons, aV_cat]
    have := aSum b scr st
    omega
/-- a method out of its walk -/
theorem aK.of {μ : aMd} {d mc ms : Nat} {M : aM} {vs : List Value} {Q : aM → Option Value → Prop} (hy : plainName μ.1.cls = true) (hn : vs.length ≤ μ.2.2.1) (h : aJ aX0 μ d mc ms Q 0 0 0 (vs.map some ++ List.replicate (μ.2.2.1 - vs.length) none) [] M) : aK μ d mc ms M vs Q := by
  intro l D cA b scr
  refine Met.ofW (cc := μ.2.1) (maxL := μ.2.2.1) (ret := μ.2.2.2) hy rfl ?_
  intro p e s m args below meth c s₁ B hml hv
  obtain ⟨rfl, hO, hG⟩ := hv
  obtain ⟨a, ha, hL⟩ := aL.entry (b := b) (scr := scr) (nL := μ.2.2.1) (vs := vs) hn
  rw [ha]
  have hts := atoms_spec (ws := aws μ) B.pre
  have hlocks := B.notSynchronized
  have hL' : aL b scr μ.2.2.1 (vs.map some ++ List.replicate (μ.2.2.1 - vs.length) none) a := by
    refine ⟨hL.1, fun i v hi => ?_⟩
    by_cases h9 : i < (vs.map some).length
    · rw [List.getElem?_append_left h9] at hi
      exact hL.2 i v hi
    · rw [List.getElem?_append_right (by omega)] at hi
      have := List.mem_of_getElem? hi
      rw [List.mem_replicate] at this
      cases this.2
  refine h D cA b scr p l e _ s m _ below meth c _ s.heap [] a ⟨B.exec, B.bytes, hml, findClass_of_methodNamed B.named, fun w hw => hts w (List.mem_cons_of_mem _ hw), hG, Nat.le_refl _, Nat.le_refl _, Nat.le_refl _, Nat.le_refl _, by have := hO.1; omega, (name_of_methodNamed B.named B.method).1, ?_⟩ trivial hO va_S.rf hL'
  intro H locs uc us pc ls M' r hr hq hO' hS' hu hv'
  refine W.widen hu hv' ?_
  have hend : ∀ (v : Option Value), v = r.map (aV b scr) → ∀ t : State, t.heap = H → s.WarmedH t.vm → aQ D cA b scr Q (vs.map (aV b scr)).toArray s (.returned v) t := by
    intro v hv9 t ht hW
    subst hv9
    exact ⟨⟨M', r, rfl, hq, by rw [ht]; exact hO', aG.warm hW hG⟩, hS'.F ht⟩
  cases r with
  | none => exact W.vret B.exec B.bytes (B.returns.trans hr.1) (hend none rfl) hS'.2.2 hr.2
  | some v =>
    cases v with
    | int x =>
      obtain ⟨⟨ty, h1, h2⟩, h3⟩ := hr
      exact W.zret B.exec B.bytes (B.returns.trans h1) h2 (hend _ rfl) hS'.2.2 h3
    | ref x =>
      obtain ⟨⟨n, h1⟩, h3⟩ := hr
      exact W.aret B.exec B.bytes (B.returns.trans h1) (Or.inl ⟨n, rfl⟩) (Or.inr ⟨_, rfl⟩) (hend _ rfl) hS'.2.2 h3
    | null =>
      obtain ⟨⟨n, h1⟩, h3⟩ := hr
      exact W.aret B.exec B.bytes (B.returns.trans h1) (Or.inl ⟨n, rfl⟩) (Or.inl rfl) (hend _ rfl) hS'.2.2 h3
    | _ => exact hr.elim
theorem aK.weaken {μ : aMd} {d mc ms : Nat} {M : aM} {vs : List Value} {Q Q' : aM → Option Value → Prop} (h : aK μ d mc ms M vs Q) (hq : ∀ M' r, Q M' r → Q' M' r) : aK μ d mc ms M vs Q' := by
  intro l D cA b scr
  refine MetFree.mono (h l D cA b scr) (fun _ _ h => h) (fun _ _ _ _ _ h => h) ?_
  rintro a st oc t - ⟨⟨⟨M', r, h1, h2, h3⟩, h4⟩, h5⟩
  exact ⟨⟨⟨M', r, h1, hq _ _ h2, h3⟩, h4⟩, h5⟩
section JC

variable {X : Nat → Nat → State → Prop} {μ : aMd} {d mc ms : Nat} {Q : aM → Option Value → Prop} {uc us pc : Nat} {ls : List (Option Value)} {st : List Value} {M : aM}
theorem j_after {D : va_G} {cA : Nat → ClassId} {b scr : Nat} {p : Program} {l : Launch} {e : Env} {R : Room} {s : State} {m : MethodId} {args : Array Value} {below : List Frame} {meth : Method} {c : Code} {Qf : State → Prop} {H : Heap} {locs : List Loc} {a : Array Slot} {mc1 ms1 : Nat} {Q1 : aM → Option Value → Prop} {st0 rest : List Value} {va : Array Value}
    (hr : va_Run p l e R s m args below meth c H locs uc us mc1 ms1 (F0 m pc a st0) rest (aQ D cA b scr Q1 va) (aA b)) (hb : b ≤ s.heap.size) (hS : va_S (aA b) s.heap H locs)
    (kk : ∀ (M1 : aM) (r : Option Value) (H1 : Heap) (locs1 : List Loc), Q1 M1 r → aOK D cA b M1 H1 → va_S (aA b) s.heap H1 locs1 → W p l e R s m args below meth c H1 locs1 (uc + mc1) (us + ms1) Qf (F0 m (pc + 3) a (r.toList.map (aV b scr) ++ rest))) : W p l e R s m args below meth c H locs uc us Qf (F0 m pc a st0) := by
  intro T hT X
  obtain ⟨v, st₀, t, T', L, h0, X', hL, e1, e2, ⟨⟨M1, r, hv, hp, hO, hG⟩, hz, hk⟩, st⟩ := hr T hT X
  have hv' : v = r.map (aV b scr) := Outcome.returned.inj hv
  subst hv'
  rw [h0] at hz hk
  obtain ⟨t2, a1, b1⟩ := kk M1 r T'.heap (locs ++ L) hp (by rw [e1]; exact hO)
    ⟨Nat.le_trans hS.1 (by rw [e1]; exact hz), fun q h1 h2 => by rw [e1, hk q (Nat.lt_of_lt_of_le h1 hS.1) h2]; exact hS.2.1 q h1 h2, fun q hq => by
      rcases List.mem_append.mp hq with h | h
      · exact hS.2.2 q h
      · exact hL q h⟩ T' rfl X'
  have e3 : (r.map (aV b scr)).toList ++ rest = r.toList.map (aV b scr) ++ rest := by cases r <;> rfl
  refine ⟨t2, st t2 ?_, b1⟩
  rw [show ({ (F0 m pc a st0) with pc := (F0 m pc a st0).pc + 3, stack := (r.map (aV b scr)).toList ++ rest } : JFrame) = F0 m (pc + 3) a (r.toList.map (aV b scr) ++ rest) by rw [e3]]
  exact a1
def aNm (y : MethodName) (n : Nat) : Prop := y.cls ≠ "java/lang/invoke/MethodHandle" ∧ y.cls ≠ "java/lang/invoke/VarHandle" ∧ (parseMethodDescriptor y.desc).map (fun d => d.parameters.length) = some n

theorem j_callS {μ1 : aMd} {d1 mc1 ms1 ix : Nat} {vs : List Value} {Q1 : aM → Option Value → Prop} {st0 : List Value} (hd : decode μ.2.1 pc = .ok (.invokestatic ix, 3)) (w1 : Cond.methodLink μ.1.cls ix μ1.1 ∈ aWS) (w2 : Cond.static μ1.1 ∈ aWS) (w3 : Cond.initialized μ1.1.cls ∈ aWS) (w4 : Cond.code μ1.1 μ1.2.1 μ1.2.2.1 μ1.2.2.2 ∈ aWS) (hy : aNm μ1.1 vs.length) (hl : μ1.2.2.1 ≤ 21) (hdp : d1 + 1 ≤ d) (hK : aK μ1 d1 mc1 ms1 M vs Q1) (hst : st0 = vs.reverse ++ st) (hlen : st.length ≤ 8) (hu : uc + mc1 ≤ mc) (hv : us + ms1 ≤ ms) (kk : ∀ M1 r, Q1 M1 r → aJ X μ d mc ms Q (uc + mc1) (us + ms1) (pc + 3) ls (r.toList ++ st) M1) : aJ X μ d mc ms Q uc us pc ls st0 M := by
  intro D cA b scr p l e R s m args below meth c Qf H locs a C hX hO hS hL
  subst hst
  have hts := C.2.2.2.2.1
  have hR1 := C.2.2.2.2.2.2.1
  have hR2 := C.2.2.2.2.2.2.2.1
  have hR3 := C.2.2.2.2.2.2.2.2.1
  have hR4 := C.2.2.2.2.2.2.2.2.2.1
  have hR : d1 + 1 ≤ R.frames ∧ 8 + (μ1.2.2.1 + 11) + 40 * d1 ≤ R.locals := ⟨by omega, by omega⟩
  refine j_after (va_runS (As := vs.map (aV b scr)) (rest := st.map (aV b scr)) ⟨C.1, C.2.1, C.2.2.1, C.2.2.2.1, hts⟩ (hK l D cA b scr) ⟨callB_of (ws' := aWS) vs.length hts (aGood μ1 w4) rfl rfl rfl (hts _ w3) (hts _ w1) hy hR, hts _ w2⟩ ⟨aPc.blind D cA b scr M vs, fun U hU hW => ⟨rfl, by rw [hU]; exact hO, aG.warm hW C.2.2.2.2.2.1⟩⟩ rfl (by simp) hL.1.1 (by simp) (by show 2 * 0 + _ ≤ 8; rw [aSum]; omega) hd ⟨by omega, by omega⟩) C.2.2.2.2.2.2.2.2.2.2.1 hS ?_
  refine fun M1 r H1 locs1 hq1 hO1 hS1 => ?_
  have := kk M1 r hq1 D cA b scr p l e R s m args below meth c Qf H1 locs1 a C hX hO1 hS1 hL
  rw [List.map_append] at this
  exact this
theorem j_callSN {μ1 : aMd} {d1 mc1 ms1 ix : Nat} {vs : List Value} {Q1 : aM → Option Value → Prop} {st0 : List Value} {host : String} (hd : decode μ.2.1 pc = .ok (.invokestatic ix, 3)) (w1 : Cond.methodLinkNest μ.1.cls ix μ1.1 host ∈ aNW) (w2 : Cond.static μ1.1 ∈ aWS) (w3 : Cond.initialized μ1.1.cls ∈ aWS) (w4 : Cond.code μ1.1 μ1.2.1 μ1.2.2.1 μ1.2.2.2 ∈ aWS) (hy : aNm μ1.1 vs.length) (hl : μ1.2.2.1 ≤ 21) (hdp : d1 + 1 ≤ d) (hK : aK μ1 d1 mc1 ms1 M vs Q1) (hst : st0 = vs.reverse ++ st) (hlen : st.length ≤ 8) (hu : uc + mc1 ≤ mc) (hv : us + ms1 ≤ ms) (kk : ∀ M1 r, Q1 M1 r → aJ X μ d mc ms Q (uc + mc1) (us + ms1) (pc + 3) ls (r.toList ++ st) M1) : aJ X μ d mc ms Q uc us pc ls st0 M := by
  intro D cA b scr p l e R s m args below meth c Qf H locs a C hX hO hS hL
  subst hst
  have hts := C.2.2.2.2.1
  have hR1 := C.2.2.2.2.2.2.1
  have hR2 := C.2.2.2.2.2.2.2.1
  have hR3 := C.2.2.2.2.2.2.2.2.1
  have hR4 := C.2.2.2.2.2.2.2.2.2.1
  have hR : d1 + 1 ≤ R.frames ∧ 8 + (μ1.2.2.1 + 11) + 40 * d1 ≤ R.locals := ⟨by omega, by omega⟩
  refine j_after (va_runSN (As := vs.map (aV b scr)) (rest := st.map (aV b scr)) ⟨C.1, C.2.1, C.2.2.1, C.2.2.2.1, hts⟩ (hK l D cA b scr) ⟨va_cnB (ws' := aWS) vs.length hts (aGood μ1 w4) rfl rfl rfl (C.2.2.2.2.2.1.2 _ w1) (hts _ w3) hy hR, hts _ w2, trivial⟩ ⟨aPc.blind D cA b scr M vs, fun U hU hW => ⟨rfl, by rw [hU]; exact hO, aG.warm hW C.2.2.2.2.2.1⟩⟩ rfl (by simp) hL.1.1 (by simp) (by show 2 * 0 + _ ≤ 8; rw [aSum]; omega) hd ⟨by omega, by omega⟩) C.2.2.2.2.2.2.2.2.2.2.1 hS ?_
  refine fun M1 r H1 locs1 hq1 hO1 hS1 => ?_
  have := kk M1 r hq1 D cA b scr p l e R s m args below meth c Qf H1 locs1 a C hX hO1 hS1 hL
  rw [List.map_append] at this
  exact this
theorem j_callI {μ1 : aMd} {d1 mc1 ms1 ix o : Nat} {vs : List Value} {Q1 : aM → Option Value → Prop} {st0 : List Value} (hd : decode μ.2.1 pc = .ok (.invokespecial ix, 3)) (w1 : Cond.methodLink μ.1.cls ix μ1.1 ∈ aWS) (w2 : Cond.instanceMethod μ1.1 ∈ aWS) (w3 : Cond.initialized μ1.1.cls ∈ aWS) (w4 : Cond.code μ1.1 μ1.2.1 μ1.2.2.1 μ1.2.2.2 ∈ aWS) (hret : μ1.2.2.2 = none) (hin : μ1.1.name = "<init>") (hy : aNm μ1.1 vs.length) (hl : μ1.2.2.1 ≤ 21) (hdp : d1 + 1 ≤ d) (hK : aK μ1 d1 mc1 ms1 M (.ref o :: vs) Q1) (hst : st0 = vs.reverse ++ .ref o :: st) (hlen : st.length ≤ 8) (hu : uc + mc1 ≤ mc) (hv : us + ms1 ≤ ms) (kk : ∀ M1 r, Q1 M1 r → aJ X μ d mc ms Q (uc + mc1) (us + ms1) (pc + 3) ls (r.toList ++ st) M1) : aJ X μ d mc ms Q uc us pc ls st0 M := by
  intro D cA b scr p l e R s m args below meth c Qf H locs a C hX hO hS hL
  subst hst
  have hts := C.2.2.2.2.1
  have hR1 := C.2.2.2.2.2.2.1
  have hR2 := C.2.2.2.2.2.2.2.1
  have hR3 := C.2.2.2.2.2.2.2.2.1
  have hR4 := C.2.2.2.2.2.2.2.2.2.1
  have hR : d1 + 1 ≤ R.frames ∧ 8 + (μ1.2.2.1 + 11) + 40 * d1 ≤ R.locals := ⟨by omega, by omega⟩
  rw [hret] at w4
  have hG : GoodIn aWS (aws μ1) := aGood μ1 (by rw [hret]; exact w4)
  refine j_after (va_runI (As := vs.map (aV b scr)) (rest := st.map (aV b scr)) (b := b + o) ⟨C.1, C.2.1, C.2.2.1, C.2.2.2.1, hts⟩ (hK l D cA b scr) ⟨callB_of (ws' := aWS) vs.length hts hG (by unfold aws; rw [hret]) rfl rfl (hts _ w3) (hts _ w1) hy hR, hin, hts _ w2⟩ ⟨aPc.blind D cA b scr M (.ref o :: vs), fun U hU hW => ⟨rfl, by rw [hU]; exact hO, aG.warm hW C.2.2.2.2.2.1⟩⟩ rfl (by simp) hL.1.1 (by simp [aV]) (by show 2 * 0 + _ ≤ 8; rw [aSum]; omega) hd ⟨by omega, by omega⟩) C.2.2.2.2.2.2.2.2.2.2.1 hS ?_
  refine fun M1 r H1 locs1 hq1 hO1 hS1 => ?_
  have := kk M1 r hq1 D cA b scr p l e R s m args below meth c Qf H1 locs1 a C hX hO1 hS1 hL
  rw [List.map_append] at this
  exact this
theorem j_callIN {μ1 : aMd} {d1 mc1 ms1 ix o : Nat} {vs : List Value} {Q1 : aM → Option Value → Prop} {st0 : List Value} {host : String} (hd : decode μ.2.1 pc = .ok (.invokespecial ix, 3)) (w1 : Cond.methodLinkNest μ.1.cls ix μ1.1 host ∈ aNW) (w2 : Cond.instanceMethod μ1.1 ∈ aWS) (w3 : Cond.initialized μ1.1.cls ∈ aWS) (w4 : Cond.code μ1.1 μ1.2.1 μ1.2.2.1 μ1.2.2.2 ∈ aWS) (hret : μ1.2.2.2 = none) (hin : μ1.1.name = "<init>") (hy : aNm μ1.1 vs.length) (hl : μ1.2.2.1 ≤ 21) (hdp : d1 + 1 ≤ d) (hK : aK μ1 d1 mc1 ms1 M (.ref o :: vs) Q1) (hst : st0 = vs.reverse ++ .ref o :: st) (hlen : st.length ≤ 8) (hu : uc + mc1 ≤ mc) (hv : us + ms1 ≤ ms) (kk : ∀ M1 r, Q1 M1 r → aJ X μ d mc ms Q (uc + mc1) (us + ms1) (pc + 3) ls (r.toList ++ st) M1) : aJ X μ d mc ms Q uc us pc ls st0 M := by
  intro D cA b scr p l e R s m args below meth c Qf H locs a C hX hO hS hL
  subst hst
  have hts := C.2.2.2.2.1
  have hR1 := C.2.2.2.2.2.2.1
  have hR2 := C.2.2.2.2.2.2.2.1
  have hR3 := C.2.2.2.2.2.2.2.2.1
  have hR4 := C.2.2.2.2.2.2.2.2.2.1
  have hR : d1 + 1 ≤ R.frames ∧ 8 + (μ1.2.2.1 + 11) + 40 * d1 ≤ R.locals := ⟨by omega, by omega⟩
  rw [hret] at w4
  have hG : GoodIn aWS (aws μ1) := aGood μ1 (by rw [hret]; exact w4)
  refine j_after (va_runIN (As := vs.map (aV b scr)) (rest := st.map (aV b scr)) (b := b + o) ⟨C.1, C.2.1, C.2.2.1, C.2.2.2.1, hts⟩ (hK l D cA b scr) ⟨va_cnB (ws' := aWS) vs.length hts hG (by unfold aws; rw [hret]) rfl rfl (C.2.2.2.2.2.1.2 _ w1) (hts _ w3) hy hR, hin, hts _ w2⟩ ⟨aPc.blind D cA b scr M (.ref o :: vs), fun U hU hW => ⟨rfl, by rw [hU]; exact hO, aG.warm hW C.2.2.2.2.2.1⟩⟩ rfl (by simp) hL.1.1 (by simp [aV]) (by show 2 * 0 + _ ≤ 8; rw [aSum]; omega) hd ⟨by omega, by omega⟩) C.2.2.2.2.2.2.2.2.2.2.1 hS ?_
  refine fun M1 r H1 locs1 hq1 hO1 hS1 => ?_
  have := kk M1 r hq1 D cA b scr p l e R s m args below meth c Qf H1 locs1 a C hX hO1 hS1 hL
  rw [List.map_append] at this
  exact this
theorem j_callV {μ1 : aMd} {d1 mc1 ms1 ix o : Nat} {vs : List Value} {Q1 : aM → Option Value → Prop} {st0 : List Value} {ci : Nat} {T : u_T} {N : Nat} (hd : decode μ.2.1 pc = .ok (.invokevirtual ix, 3)) (ht : tO M o ci) (hci : ci < 100) (hcn : aCl[ci]? = some (μ1.1.cls, T, N)) (w1 : Cond.methodLink μ.1.cls ix μ1.1 ∈ aWS) (w2 : Cond.instanceMethod μ1.1 ∈ aWS) (w3 : Cond.initialized μ1.1.cls ∈ aWS) (w4 : Cond.code μ1.1 μ1.2.1 μ1.2.2.1 μ1.2.2.2 ∈ aWS) (w5 : Cond.selects μ1.1.cls μ1.1 μ1.1 ∈ aWS) (hy : aNm μ1.1 vs.length) (hl : μ1.2.2.1 ≤ 21) (hdp : d1 + 1 ≤ d) (hK : aK μ1 d1 mc1 ms1 M (.ref o :: vs) Q1) (hst : st0 = vs.reverse ++ .ref o :: st) (hlen : st.length ≤ 8) (hu : uc + mc1 ≤ mc) (hv : us + ms1 ≤ ms) (kk : ∀ M1 r, Q1 M1 r → aJ X μ d mc ms Q (uc + mc1) (us + ms1) (pc + 3) ls (r.toList ++ st) M1) : aJ X μ d mc ms Q uc us pc ls st0 M := by
  intro D cA b scr p l e R s m args below meth c Qf H locs a C hX hO hS hL
  subst hst
  have hts := C.2.2.2.2.1
  have hR1 := C.2.2.2.2.2.2.1
  have hR2 := C.2.2.2.2.2.2.2.1
  have hR3 := C.2.2.2.2.2.2.2.2.1
  have hR4 := C.2.2.2.2.2.2.2.2.2.1
  have hR : d1 + 1 ≤ R.frames ∧ 8 + (μ1.2.2.1 + 11) + 40 * d1 ≤ R.locals := ⟨by omega, by omega⟩
  obtain ⟨r9, hr9, cellB, g1, g2, g3, -⟩ := aAt.obj ht.2 hci (hO.2 o ht.1)
  have hcl := (C.2.2.2.2.2.1.1.1 ci r9 hr9).2
  have e9 : r9 = (μ1.1.cls, T, N) := Option.some.inj (hr9.symm.trans hcn)
  subst e9
  refine j_after (va_runV (C := μ1.1.cls) (As := vs.map (aV b scr)) (rest := st.map (aV b scr)) (b := b + o) ⟨C.1, C.2.1, C.2.2.1, C.2.2.2.1, hts⟩ (hK l D cA b scr) ⟨callB_of (ws' := aWS) vs.length hts (aGood μ1 w4) rfl rfl rfl (hts _ w3) (hts _ w1) hy hR, hts _ w2, hts _ w5⟩ ⟨aPc.blind D cA b scr M (.ref o :: vs), ⟨cellB, g1, by rw [g3]; rfl, by rw [g2]; exact hcl.1⟩, fun U hU hW => ⟨rfl, by rw [hU]; exact hO, aG.warm hW C.2.2.2.2.2.1⟩⟩ rfl (by simp) hL.1.1 (by simp [aV]) (by show 2 * 0 + _ ≤ 8; rw [aSum]; omega) hd ⟨by omega, by omega⟩) C.2.2.2.2.2.2.2.2.2.2.1 hS ?_
  refine fun M1 r H1 locs1 hq1 hO1 hS1 => ?_
  have := kk M1 r hq1 D cA b scr p l e R s m args below meth c Qf H1 locs1 a C hX hO1 hS1 hL
  rw [List.map_append] at this
  exact this
theorem j_callU {μ1 : aMd} {d1 mc1 ms1 ix o : Nat} {vs : List Value} {Q1 : aM → Option Value → Prop} {st0 : List Value} {ci : Nat} {T : u_T} {N : Nat} {x : MethodName} {owner cn : String} (hd : decode μ.2.1 pc = .ok (.invokevirtual ix, 3)) (ht : tO M o ci) (hci : ci < 100) (hcn : aCl[ci]? = some (cn, T, N)) (w1 : Cond.methodLink μ.1.cls ix x ∈ aWS) (w2 : Cond.instanceMethod μ1.1 ∈ aWS) (w3 : Cond.initialized μ1.1.cls ∈ aWS) (w4 : Cond.code μ1.1 μ1.2.1 μ1.2.2.1 μ1.2.2.2 ∈ aWS) (w5 : Cond.selects cn x μ1.1 ∈ aWS) (w6 : Cond.sameMethod x.cls owner x.name x.desc ∈ aWS) (hdc : μ1.1 = ⟨owner, x.name, x.desc⟩ ∨ (Cond.instanceMethod ⟨owner, x.name, x.desc⟩ ∈ aWS ∧ ∃ b0 m0 r0, Cond.code ⟨owner, x.name, x.desc⟩ b0 m0 r0 ∈ aWS) ∨ Cond.declares ⟨owner, x.name, x.desc⟩ ∈ aNW) (hy : aNm ⟨owner, x.name, x.desc⟩ vs.length) (hl : μ1.2.2.1 ≤ 21) (hdp : d1 + 1 ≤ d) (hK : aK μ1 d1 mc1 ms1 M (.ref o :: vs) Q1) (hst : st0 = vs.reverse ++ .ref o :: st) (hlen : st.length ≤ 8) (hu : uc + mc1 ≤ mc) (hv : us + ms1 ≤ ms) (kk : ∀ M1 r, Q1 M1 r → aJ X μ d mc ms Q (uc + mc1) (us + ms1) (pc + 3) ls (r.toList ++ st) M1) : aJ X μ d mc ms Q uc us pc ls st0 M := by
  intro D cA b scr p l e R s m args below meth c Qf H locs a C hX hO hS hL
  subst hst
  have hts := C.2.2.2.2.1
  have hR1 := C.2.2.2.2.2.2.1
  have hR2 := C.2.2.2.2.2.2.2.1
  have hR3 := C.2.2.2.2.2.2.2.2.1
  have hR4 := C.2.2.2.2.2.2.2.2.2.1
  have hR : d1 + 1 ≤ R.frames ∧ 8 + (μ1.2.2.1 + 11) + 40 * d1 ≤ R.locals := ⟨by omega, by omega⟩
  obtain ⟨r9, hr9, cellB, g1, g2, g3, -⟩ := aAt.obj ht.2 hci (hO.2 o ht.1)
  have hcl := (C.2.2.2.2.2.1.1.1 ci r9 hr9).2
  have e9 : r9 = (cn, T, N) := Option.some.inj (hr9.symm.trans hcn)
  subst e9
  have hG := aGood μ1 w4
  have hdecl : va_Decl s ⟨owner, x.name, x.desc⟩ := by
    rcases hdc with h9 | ⟨h9, b0, m0, r0, h8⟩ | h9
    · rw [← h9]; exact va_Decl.of (hts _ w2) (hts _ w4)
    · exact va_Decl.of (hts _ h9) (hts _ h8)
    · exact va_Decl.abs (C.2.2.2.2.2.1.2 _ h9)
  have hcw : va_CU R s args μ.1.cls cn owner ix x μ1.1 μ1.2.1 μ1.2.2.1 μ1.2.2.2 (aws μ1) { frames := d1, cells := mc1, slots := ms1, locals := 40 * d1 } mc1 ms1 vs.length := by
    refine ⟨⟨rfl, rfl, hR.1, hR.2, pay_in hts hG, List.mem_cons_self⟩, hts _ w4, hts _ w3, ⟨hy.1, hy.2.1⟩, fun sig h => ?_, hts _ w1, hts _ w6, hdecl, hts _ w5, hts _ w2⟩
    have h2 := hy.2.2
    rw [h] at h2
    exact (Option.some.inj h2).symm
  refine j_after (va_runU (As := vs.map (aV b scr)) (rest := st.map (aV b scr)) (b := b + o) ⟨C.1, C.2.1, C.2.2.1, C.2.2.2.1, hts⟩ (hK l D cA b scr) hcw ⟨aPc.blind D cA b scr M (.ref o :: vs), ⟨cellB, g1, by rw [g3]; rfl, by rw [g2]; exact hcl.1⟩, fun U hU hW => ⟨rfl, by rw [hU]; exact hO, aG.warm hW C.2.2.2.2.2.1⟩⟩ rfl (by simp) hL.1.1 (by simp [aV]) (by show 2 * 0 + _ ≤ 8; rw [aSum]; omega) hd ⟨by omega, by omega⟩) C.2.2.2.2.2.2.2.2.2.2.1 hS ?_
  refine fun M1 r H1 locs1 hq1 hO1 hS1 => ?_
  have := kk M1 r hq1 D cA b scr p l e R s m args below meth c Qf H1 locs1 a C hX hO1 hS1 hL
  rw [List.map_append] at this
  exact this
theorem j_objInit {ix o : Nat} (hd : decode μ.2.1 pc = .ok (.invokespecial ix, 3)) (w1 : Cond.methodLink μ.1.cls ix objectInit ∈ aWS) (w2 : Cond.instanceMethod objectInit ∈ aWS) (w3 : Cond.code objectInit ⟨#[0xb1]⟩ 1 none ∈ aWS) (hdp : 1 ≤ d) (hlen : st.length ≤ 8) (kk : aJ X μ d mc ms Q uc us (pc + 3) ls st M) : aJ X μ d mc ms Q uc us pc ls (.ref o :: st) M := by
  intro D cA b scr p l e R s m args below meth c Qf H locs a C hX hO hS hL
  have hts := C.2.2.2.2.1
  have hR1 := C.2.2.2.2.2.2.1
  have hR2 := C.2.2.2.2.2.2.2.1
  refine W.objInit C.1 C.2.1 C.2.2.2.1 (hts _ w1) (hts _ w2) (hts _ w3) rfl (by rw [C.2.2.1]; exact hL.1.1) rfl hd (by omega) (by show 2 * 0 + _ + 12 ≤ _; rw [aSum]; omega) ?_
  exact (kk D cA b scr p l e R s m args below meth c Qf H locs a C hX hO hS hL)
theorem j_copy {ix a0 a1 n0 n1 kd tix i j k : Nat} {sp dp n : Int32} {ty : FieldType} (hd : decode μ.2.1 pc = .ok (.invokestatic ix, 3)) (w1 : Cond.methodLink μ.1.cls ix arraycopyName ∈ aWS) (w2 : Cond.native arraycopyName ∈ aWS) (w3 : Cond.static arraycopyName ∈ aWS) (w4 : Cond.initialized "java/lang/System" ∈ aWS) (h0 : tA M a0 kd n0) (h1 : tA M a1 kd n1) (hk1 : 100 ≤ kd) (hk2 : kd < 102) (htx : ∀ cA : Nat → ClassId, (aT cA)[tix]? = some (cA kd, ty)) (hprim : refKind ty = false) (hsp : sp = nI i) (hdp : dp = nI j) (hn : n = nI k) (hi : i + k ≤ n0) (hj : j + k ≤ n1) (hb0 : n0 < 2 ^ 31) (hb1 : n1 < 2 ^ 31) (hfit : ∀ q, q < k → fits ty (.int (mI M a0 (i + q))) = true) (hdep : 1 ≤ d) (hlen : st.length ≤ 8) (kk : aJ X μ d mc ms Q uc us (pc + 3) ls st (sC M a0 i a1 j k)) : aJ X μ d mc ms Q uc us pc ls (.int n :: .int dp :: .ref a1 :: .int sp :: .ref a0 :: st) M := by
  intro D cA b scr p l e R s m args below meth c Qf H locs a C hX hO hS hL
  have hts := C.2.2.2.2.1
  have hR1 := C.2.2.2.2.2.2.1
  have hR2 := C.2.2.2.2.2.2.2.1
  have hnf : nativeFrameWords "java/lang/System" "arraycopy" 5 ≤ 20 := by decide
  subst hsp; subst hdp; subst hn
  have ci : (nI i).toNatClampNeg = i := nI_clamp (by omega)
  have cj : (nI j).toNatClampNeg = j := nI_clamp (by omega)
  have ck : (nI k).toNatClampNeg = k := nI_clamp (by omega)
  have ti : (nI i).toInt = (i : Int) := nI_toInt (by omega)
  have tj : (nI j).toInt = (j : Int) := nI_toInt (by omega)
  have tk : (nI k).toInt = (k : Int) := nI_toInt (by omega)
  have hc0 := aAt.ints h0.2.1 h0.2.2 hk1 hk2 (hO.2 a0 h0.1)
  have hc1 := aAt.ints h1.2.1 h1.2.2 hk1 hk2 (hO.2 a1 h1.1)
  have hAr := (C.2.2.2.2.2.1.1.2 tix _ (htx cA)).1
  intro T hT X
  obtain ⟨-, k0, hk0, cm0, hkk0⟩ := hAr n0 (fun j => .int (mI M a0 j))
  obtain ⟨-, k1, hk1', cm1, hkk1⟩ := hAr n1 (fun j => .int (mI M a1 j))
  obtain ⟨vm', X', step⟩ := X.arraycopy C.1 C.2.2.2.1 (hts _ w1) (hts _ w2) (hts _ w3) (hts _ w4) (src := b + a0) (dst := b + a1) (cs := arrV (cA kd) n0 (fun j => .int (mI M a0 j))) (cd := arrV (cA kd) n1 (fun j => .int (mI M a1 j))) (srcPos := nI i) (destPos := nI j) (n := nI k) (by rw [hT]; exact hc0) (by rw [hT]; exact hc1)
    (fun _ h => by cases h) (fun _ h => by cases h) (fun h => by cases h) (fun h => by cases h) hk0 hk1' hkk0 hkk1 (by simp [hprim]) (nI_pos (by omega)) (nI_pos (by omega)) (nI_pos (by omega))
    (by rw [ti, tk, arrV_size]; omega)
    (by rw [tj, tk, arrV_size]; omega)
    (fun vm₁ _ q hq => by
      rw [ck] at hq
      have e : (arrV (cA kd) n0 (fun j => .int (mI M a0 j))).slots.getD ((nI i).toNatClampNeg + q) .null = .int (mI M a0 (i + q)) := by
        rw [ci, Array.getD_eq_getD_getElem?, arrV_read _ _ (by omega)]
        rfl
      refine ⟨?_, ?_⟩
      · rw [e]
        exact hfit q hq
      · rw [e]
        exact trivial)
    (g := F0 m pc a (.int (nI k) :: .int (nI j) :: .ref (b + a1) :: .int (nI i) :: .ref (b + a0) :: st.map (aV b scr))) rfl (by rw [C.2.2.1]; exact hL.1.1) (rest := st.map (aV b scr)) rfl (by rw [C.2.1]; exact hd) (by omega) (by show 2 * 0 + _ + _ ≤ _; rw [aSum]; omega)
  have e1 : copied (arrV (cA kd) n0 (fun j => .int (mI M a0 j))) (arrV (cA kd) n1 (fun j => .int (mI M a1 j))) (nI i) (nI j) (nI k) = arrV (cA kd) n1 (fun q => .int (mI (sC M a0 i a1 j k) a1 q)) := by
    have := va_copied (fun z => Value.int z) (cA kd) (cA kd) (n1 := n1) (dp := j) (mI M a0) (mI M a1) (show i + k ≤ n0 from hi)
    show (arrV _ _ _).storeRun (nI j).toNatClampNeg ((arrV _ _ _).stretch (nI i).toNatClampNeg (nI k).toNatClampNeg) = _
    rw [ci, cj, ck, this]
    congr 1
    funext q
    rw [mm_I_sC]
    simp only [va_cpy, true_and]
  rw [e1] at X' step
  have hl1 : b + a1 < H.size := (Array.getElem?_eq_some_iff.mp hc1).1
  have oq : ∀ q : Nat, q ≠ b + a1 → (H.setIfInBounds (b + a1) (arrV (cA kd) n1 (fun q => .int (mI (sC M a0 i a1 j k) a1 q))))[q]? = H[q]? := fun q hq => by simp [Array.getElem?_setIfInBounds, Ne.symm hq]
  have hat : aAt D cA b (sC M a0 i a1 j k) (H.setIfInBounds (b + a1) (arrV (cA kd) n1 (fun q => .int (mI (sC M a0 i a1 j k) a1 q)))) a1 := by
    unfold aAt
    rw [show mKd (sC M a0 i a1 j k) a1 = kd from h1.2.1, show mLn (sC M a0 i a1 j k) a1 = n1 from h1.2.2, if_neg (by omega), if_pos hk2]
    simp [Array.getElem?_setIfInBounds, hl1]
  obtain ⟨t, t1, t2⟩ := kk D cA b scr p l e R s m args below meth c Qf (H.setIfInBounds (b + a1) (arrV (cA kd) n1 (fun q => .int (mI (sC M a0 i a1 j k) a1 q)))) _ a C hX (hO.set (o := a1) (mm_sz_sC M a0 i a1 j k) (by simp) oq (fun a' h9 => ⟨rfl, rfl, fun q => by rw [mm_I_sC, if_neg (fun h8 => h9 h8.1)], fun q => rfl⟩) hat) ⟨by simp; exact hS.1, fun q g1 g2 => by
      rw [oq q (fun e => g2 (by rw [e]; exact Nat.le_add_right b a1))]
      exact hS.2.1 q g1 g2, fun q hq => by
      rcases List.mem_append.mp hq with h | h
      · exact hS.2.2 q h
      · obtain ⟨z, -, hz⟩ := List.mem_map.mp h
        rw [← hz]
        exact Nat.le_add_right b a1⟩ hL _ (by rw [← hT]; rfl) X'
  exact ⟨t, step t t1, t2⟩
end JC
