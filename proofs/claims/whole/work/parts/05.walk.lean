/-- the locals -/
def aL (b scr nL : Nat) (ls : List (Option Value)) (a : Array Slot) : Prop := lv_has a nL [] ∧ ∀ (i : Nat) (v : Value), ls[i]? = some (some v) → a[i]? = some (Slot.val (aV b scr v))
def aPs (b scr : Nat) : Nat → List (Option Value) → List (Nat × Value)
  | _, [] => []
  | i, none :: l => aPs b scr (i + 1) l
  | i, some v :: l => (i, aV b scr v) :: aPs b scr (i + 1) l
theorem aPs_mem (b scr : Nat) : ∀ (l : List (Option Value)) (i j : Nat) (v : Value), l[j]? = some (some v) → (i + j, aV b scr v) ∈ aPs b scr i l
  | [], i, j, v, h => by simp at h
  | none :: l, i, 0, v, h => by simp at h
  | none :: l, i, j + 1, v, h => by
    have := aPs_mem b scr l (i + 1) j v (by simpa using h)
    rw [show i + (j + 1) = i + 1 + j by omega]
    exact this
  | some w :: l, i, 0, v, h => by
    simp at h
    subst h
    exact List.mem_cons_self
  | some w :: l, i, j + 1, v, h => by
    have := aPs_mem b scr l (i + 1) j v (by simpa using h)
    rw [show i + (j + 1) = i + 1 + j by omega]
    exact List.mem_cons_of_mem _ this
theorem aPs_of (b scr : Nat) : ∀ (l : List (Option Value)) (i : Nat) (q : Nat × Value), q ∈ aPs b scr i l → ∃ j v, q = (i + j, aV b scr v) ∧ l[j]? = some (some v)
  | [], i, q, h => by cases h
  | none :: l, i, q, h => by
    obtain ⟨j, v, e, h2⟩ := aPs_of b scr l (i + 1) q h
    exact ⟨j + 1, v, by rw [e, show i + (j + 1) = i + 1 + j by omega], by simpa using h2⟩
  | some w :: l, i, q, h => by
    rcases List.mem_cons.mp h with h | h
    · exact ⟨0, w, h, rfl⟩
    · obtain ⟨j, v, e, h2⟩ := aPs_of b scr l (i + 1) q h
      exact ⟨j + 1, v, by rw [e, show i + (j + 1) = i + 1 + j by omega], by simpa using h2⟩
theorem aL.has {b scr nL : Nat} {ls : List (Option Value)} {a : Array Slot} (h : aL b scr nL ls a) : lv_has a nL (aPs b scr 0 ls) := by
  refine ⟨h.1.1, h.1.2.1, fun q hq => ?_⟩
  obtain ⟨j, v, e, h2⟩ := aPs_of b scr ls 0 q hq
  rw [e, show 0 + j = j by omega]
  exact h.2 j v h2
theorem aL.st {b scr nL : Nat} {ls : List (Option Value)} {a : Array Slot} {i : Nat} {v : Value} (h : lv_has a nL ((i, aV b scr v) :: (aPs b scr 0 ls).filter (fun q => !(q.1 == i) && !(q.1 + 1 == i && q.2.category == 2)))) : aL b scr nL (ls.set i (some v)) a := by
  refine ⟨⟨h.1, h.2.1, fun q hq => by cases hq⟩, fun j w hj => ?_⟩
  by_cases hij : j = i
  · subst hij
    have hlt : j < ls.length := by
      have := (List.getElem?_eq_some_iff.mp hj).1
      simpa using this
    rw [List.getElem?_set_self hlt] at hj
    cases hj
    exact h.2.2 _ List.mem_cons_self
  · rw [List.getElem?_set_ne (fun e => hij e.symm)] at hj
    have hm := aPs_mem b scr ls 0 j w hj
    rw [show 0 + j = j by omega] at hm
    refine h.2.2 (j, aV b scr w) (List.mem_cons_of_mem _ (List.mem_filter.mpr ⟨hm, ?_⟩))
    simp [hij, aV_cat]
theorem aL.entry {b scr nL : Nat} {vs : List Value} (hn : vs.length ≤ nL) : ∃ a, (∀ m : MethodId, entryFrame m (vs.map (aV b scr)).toArray nL = F0 m 0 a []) ∧ aL b scr nL (vs.map some) a := by
  have hlen : ∀ ws : List Value, (lg_sl (ws.map (aV b scr))).length = ws.length := by
    intro ws
    induction ws with
    | nil => rfl
    | cons w ws ih =>
      simp only [lg_sl, List.map_cons, List.flatMap_cons, aV_cat, List.length_append] at ih ⊢
      simp [ih]
      omega
  have he := lv_entry (vs.map (aV b scr)) (n := nL) (by rw [hlen]; exact hn)
  refine ⟨_, fun m => lg_entry_eq m _ nL, ⟨he.1, he.2.1, fun q hq => by cases hq⟩, fun i v hi => ?_⟩
  have hargs : ∀ (ws : List Value) (k j : Nat) (w : Value), ws[j]? = some w → (k + j, aV b scr w) ∈ lv_args k (ws.map (aV b scr)) := by
    intro ws
    induction ws with
    | nil => intro k j w h; simp at h
    | cons x ws ih =>
      intro k j w h
      simp only [List.map_cons, lv_args, aV_cat]
      cases j with
      | zero =>
        simp at h
        subst h
        simp
      | succ j =>
        have := ih (k + 1) j w (by simpa using h)
        rw [show k + (j + 1) = k + 1 + j by omega]
        simp
        exact Or.inr this
  have hi' : vs[i]? = some v := by
    rw [List.getElem?_map] at hi
    cases h9 : vs[i]? with
    | none => rw [h9] at hi; cases hi
    | some w => rw [h9] at hi; simp at hi; rw [hi]
  have := he.2.2 _ (hargs vs 0 i v hi')
  rw [show 0 + i = i by omega] at this
  exact this
/-- an answer, and the instruction that gives it -/
def aRt (μ : aMd) (r : Option Value) (pc : Nat) : Prop := match r with
  | none => μ.2.2.2 = none ∧ decode μ.2.1 pc = .ok (.return_, 1)
  | some (.int x) => (∃ ty, μ.2.2.2 = some ty ∧ narrow ty (.int x) = .int x) ∧ decode μ.2.1 pc = .ok (.ireturn, 1)
  | some (.ref _) => (∃ n, μ.2.2.2 = some (.object n)) ∧ decode μ.2.1 pc = .ok (.areturn, 1)
  | some .null => (∃ n, μ.2.2.2 = some (.object n)) ∧ decode μ.2.1 pc = .ok (.areturn, 1)
  | _ => False
def aCx (μ : aMd) (d mc ms : Nat) (Q : aM → Option Value → Prop) (D : va_G) (cA : Nat → ClassId) (b scr : Nat) (p : Program) (l : Launch) (e : Env) (R : Room) (s : State) (m : MethodId) (args : Array Value) (below : List Frame) (meth : Method) (c : Code) (Qf : State → Prop) : Prop :=
  p.tables.exec = Jvm.exec ∧ c.code = μ.2.1 ∧ c.maxLocals = μ.2.2.1 ∧ s.vm.findClass μ.1.cls = some m.cls ∧ (∀ w ∈ aWS, w.before args s = true) ∧ aG D cA s ∧ d ≤ R.frames ∧ 40 * d ≤ R.locals ∧ mc ≤ R.cells ∧ ms ≤ R.slots ∧ b ≤ s.heap.size ∧ meth.name = μ.1.name ∧
  ∀ (H : Heap) (locs : List Loc) (uc us pc : Nat) (ls : Array Slot) (M : aM) (r : Option Value), aRt μ r pc → Q M r → aOK D cA b M H → va_S (aA b) s.heap H locs → uc ≤ mc → us ≤ ms → W p l e R s m args below meth c H locs uc us Qf (F0 m pc ls (r.toList.map (aV b scr)))
/-- the walk's judgement: from pc, with these locals, stack and memory, the method comes to an answer with Q -/
def aJ (X : Nat → Nat → State → Prop) (μ : aMd) (d mc ms : Nat) (Q : aM → Option Value → Prop) (uc us pc : Nat) (ls : List (Option Value)) (st : List Value) (M : aM) : Prop :=
  ∀ (D : va_G) (cA : Nat → ClassId) (b scr : Nat) (p : Program) (l : Launch) (e : Env) (R : Room) (s : State) (m : MethodId) (args : Array Value) (below : List Frame) (meth : Method) (c : Code) (Qf : State → Prop) (H : Heap) (locs : List Loc) (a : Array Slot),
    aCx μ d mc ms Q D cA b scr p l e R s m args below meth c Qf → X b scr s → aOK D cA b M H → va_S (aA b) s.heap H locs → aL b scr μ.2.2.1 ls a →
    W p l e R s m args below meth c H locs uc us Qf (F0 m pc a (st.map (aV b scr)))
/-- a method's contract -/
def aQ (D : va_G) (cA : Nat → ClassId) (b scr : Nat) (Q : aM → Option Value → Prop) : Array Value → State → Outcome → State → Prop := fun _ st oc t =>
  (∃ (M : aM) (r : Option Value), oc = .returned (r.map (aV b scr)) ∧ Q M r ∧ aOK D cA b M t.heap ∧ aG D cA t) ∧ va_F (aA b) st t
def aws (μ : aMd) : List Cond := Cond.code μ.1 μ.2.1 μ.2.2.1 μ.2.2.2 :: aWS
def aPc (D : va_G) (cA : Nat → ClassId) (b scr : Nat) (M : aM) (vs : List Value) : Array Value → State → Prop := va_Pc (vs.map (aV b scr)) (fun U => aOK D cA b M U.heap ∧ aG D cA U)
def aK (μ : aMd) (d mc ms : Nat) (M : aM) (vs : List Value) (Q : aM → Option Value → Prop) : Prop :=
  ∀ (l : Launch) (D : va_G) (cA : Nat → ClassId) (b scr : Nat), Met l μ.1 (aws μ) { frames := d, cells := mc, slots := ms, locals := 40 * d } (aPc D cA b scr M vs) (aQ D cA b scr Q) mc ms (aA b)
abbrev aX0 : Nat → Nat → State → Prop := fun _ _ _ => True

section JJ
variable {X : Nat → Nat → State → Prop} {μ : aMd} {d mc ms : Nat} {Q : aM → Option Value → Prop} {uc us pc : Nat} {ls : List (Option Value)} {st : List Value} {M : aM}
theorem j_iconst {n : Int} {v : Int32} (hd : decode μ.2.1 pc = .ok (.iconst n, 1)) (hv : Int32.ofInt n = v) (kk : aJ X μ d mc ms Q uc us (pc + 1) ls (.int v :: st) M) : aJ X μ d mc ms Q uc us pc ls st M := by
  intro D cA b scr p l e R s m args below meth c Qf H locs a C hX hO hS hL
  exact lv_iconst C.1 C.2.1 hd hv (kk D cA b scr p l e R s m args below meth c Qf H locs a C hX hO hS hL)
theorem j_bipush {n : Int} {v : Int32} (hd : decode μ.2.1 pc = .ok (.bipush n, 2)) (hv : (Int8.ofInt n).toInt32 = v) (kk : aJ X μ d mc ms Q uc us (pc + 2) ls (.int v :: st) M) : aJ X μ d mc ms Q uc us pc ls st M := by
  intro D cA b scr p l e R s m args below meth c Qf H locs a C hX hO hS hL
  exact lv_bipush C.1 C.2.1 hd hv (kk D cA b scr p l e R s m args below meth c Qf H locs a C hX hO hS hL)
theorem j_sipush {n : Int} {v : Int32} (hd : decode μ.2.1 pc = .ok (.sipush n, 3)) (hv : (Int16.ofInt n).toInt32 = v) (kk : aJ X μ d mc ms Q uc us (pc + 3) ls (.int v :: st) M) : aJ X μ d mc ms Q uc us pc ls st M := by
  intro D cA b scr p l e R s m args below meth c Qf H locs a C hX hO hS hL
  exact lv_sipush C.1 C.2.1 hd hv (kk D cA b scr p l e R s m args below meth c Qf H locs a C hX hO hS hL)
theorem j_null (hd : decode μ.2.1 pc = .ok (.aconst_null, 1)) (kk : aJ X μ d mc ms Q uc us (pc + 1) ls (.null :: st) M) : aJ X μ d mc ms Q uc us pc ls st M := by
  intro D cA b scr p l e R s m args below meth c Qf H locs a C hX hO hS hL
  exact lv_null C.1 C.2.1 hd (kk D cA b scr p l e R s m args below meth c Qf H locs a C hX hO hS hL)
theorem j_iload_n {k : Fin 4} {x : Int32} (hd : decode μ.2.1 pc = .ok (.iload_n k, 1)) (hl : ls[(k : Nat)]? = some (some (.int x))) (kk : aJ X μ d mc ms Q uc us (pc + 1) ls (.int x :: st) M) : aJ X μ d mc ms Q uc us pc ls st M := by
  intro D cA b scr p l e R s m args below meth c Qf H locs a C hX hO hS hL
  exact lv_iload_n C.1 C.2.1 hd rfl (hL.2 _ _ hl) (kk D cA b scr p l e R s m args below meth c Qf H locs a C hX hO hS hL)
theorem j_iload {k : Nat} {x : Int32} (hd : decode μ.2.1 pc = .ok (.iload k, 2)) (hl : ls[k]? = some (some (.int x))) (kk : aJ X μ d mc ms Q uc us (pc + 2) ls (.int x :: st) M) : aJ X μ d mc ms Q uc us pc ls st M := by
  intro D cA b scr p l e R s m args below meth c Qf H locs a C hX hO hS hL
  exact lv_iload C.1 C.2.1 hd (hL.2 _ _ hl) (kk D cA b scr p l e R s m args below meth c Qf H locs a C hX hO hS hL)
theorem j_aload_n {k : Fin 4} {x : Nat} (hd : decode μ.2.1 pc = .ok (.aload_n k, 1)) (hl : ls[(k : Nat)]? = some (some (.ref x))) (kk : aJ X μ d mc ms Q uc us (pc + 1) ls (.ref x :: st) M) : aJ X μ d mc ms Q uc us pc ls st M := by
  intro D cA b scr p l e R s m args below meth c Qf H locs a C hX hO hS hL
  exact lv_aload_n C.1 C.2.1 hd rfl (hL.2 _ _ hl) (kk D cA b scr p l e R s m args below meth c Qf H locs a C hX hO hS hL)
theorem j_aload {k : Nat} {x : Nat} (hd : decode μ.2.1 pc = .ok (.aload k, 2)) (hl : ls[k]? = some (some (.ref x))) (kk : aJ X μ d mc ms Q uc us (pc + 2) ls (.ref x :: st) M) : aJ X μ d mc ms Q uc us pc ls st M := by
  intro D cA b scr p l e R s m args below meth c Qf H locs a C hX hO hS hL
  exact lv_aload C.1 C.2.1 hd (hL.2 _ _ hl) (kk D cA b scr p l e R s m args below meth c Qf H locs a C hX hO hS hL)
theorem j_aload_nN {k : Fin 4} (hd : decode μ.2.1 pc = .ok (.aload_n k, 1)) (hl : ls[(k : Nat)]? = some (some .null)) (kk : aJ X μ d mc ms Q uc us (pc + 1) ls (.null :: st) M) : aJ X μ d mc ms Q uc us pc ls st M := by
  intro D cA b scr p l e R s m args below meth c Qf H locs a C hX hO hS hL
  exact lv_aload_nN C.1 C.2.1 hd rfl (hL.2 _ _ hl) (kk D cA b scr p l e R s m args below meth c Qf H locs a C hX hO hS hL)
theorem j_aloadN {k : Nat} (hd : decode μ.2.1 pc = .ok (.aload k, 2)) (hl : ls[k]? = some (some .null)) (kk : aJ X μ d mc ms Q uc us (pc + 2) ls (.null :: st) M) : aJ X μ d mc ms Q uc us pc ls st M := by
  intro D cA b scr p l e R s m args below meth c Qf H locs a C hX hO hS hL
  exact lv_aloadN C.1 C.2.1 hd (hL.2 _ _ hl) (kk D cA b scr p l e R s m args below meth c Qf H locs a C hX hO hS hL)
theorem j_aload_nS {k : Fin 4} {x : UInt32} (hd : decode μ.2.1 pc = .ok (.aload_n k, 1)) (hl : ls[(k : Nat)]? = some (some (.float x))) (kk : aJ X μ d mc ms Q uc us (pc + 1) ls (.float x :: st) M) : aJ X μ d mc ms Q uc us pc ls st M := by
  intro D cA b scr p l e R s m args below meth c Qf H locs a C hX hO hS hL
  exact lv_aload_n C.1 C.2.1 hd rfl (hL.2 _ _ hl) (kk D cA b scr p l e R s m args below meth c Qf H locs a C hX hO hS hL)
theorem j_istore_n {k : Fin 4} {x : Int32} (hd : decode μ.2.1 pc = .ok (.istore_n k, 1)) (hn : (k : Nat) < μ.2.2.1) (kk : aJ X μ d mc ms Q uc us (pc + 1) (ls.set (k : Nat) (some (.int x))) st M) : aJ X μ d mc ms Q uc us pc ls (.int x :: st) M := by
  intro D cA b scr p l e R s m args below meth c Qf H locs a C hX hO hS hL
  exact lv_istore_n C.1 C.2.1 hd rfl hL.has hn rfl (fun a' h' => kk D cA b scr p l e R s m args below meth c Qf H locs a' C hX hO hS (aL.st h'))
theorem j_istore {k : Nat} {x : Int32} (hd : decode μ.2.1 pc = .ok (.istore k, 2)) (hn : k < μ.2.2.1) (kk : aJ X μ d mc ms Q uc us (pc + 2) (ls.set k (some (.int x))) st M) : aJ X μ d mc ms Q uc us pc ls (.int x :: st) M := by
  intro D cA b scr p l e R s m args below meth c Qf H locs a C hX hO hS hL
  exact lv_istore C.1 C.2.1 hd hL.has hn rfl (fun a' h' => kk D cA b scr p l e R s m args below meth c Qf H locs a' C hX hO hS (aL.st h'))
theorem j_astore_n {k : Fin 4} {x : Nat} (hd : decode μ.2.1 pc = .ok (.astore_n k, 1)) (hn : (k : Nat) < μ.2.2.1) (kk : aJ X μ d mc ms Q uc us (pc + 1) (ls.set (k : Nat) (some (.ref x))) st M) : aJ X μ d mc ms Q uc us pc ls (.ref x :: st) M := by
  intro D cA b scr p l e R s m args below meth c Qf H locs a C hX hO hS hL
  exact lv_astore_n C.1 C.2.1 hd rfl hL.has hn rfl (fun a' h' => kk D cA b scr p l e R s m args below meth c Qf H locs a' C hX hO hS (aL.st h'))
theorem j_astore {k : Nat} {x : Nat} (hd : decode μ.2.1 pc = .ok (.astore k, 2)) (hn : k < μ.2.2.1) (kk : aJ X μ d mc ms Q uc us (pc + 2) (ls.set k (some (.ref x))) st M) : aJ X μ d mc ms Q uc us pc ls (.ref x :: st) M := by
  intro D cA b scr p l e R s m args below meth c Qf H locs a C hX hO hS hL
  exact lv_astore C.1 C.2.1 hd hL.has hn rfl (fun a' h' => kk D cA b scr p l e R s m args below meth c Qf H locs a' C hX hO hS (aL.st h'))
theorem j_astore_nN {k : Fin 4} (hd : decode μ.2.1 pc = .ok (.astore_n k, 1)) (hn : (k : Nat) < μ.2.2.1) (kk : aJ X μ d mc ms Q uc us (pc + 1) (ls.set (k : Nat) (some .null)) st M) : aJ X μ d mc ms Q uc us pc ls (.null :: st) M := by
  intro D cA b scr p l e R s m args below meth c Qf H locs a C hX hO hS hL
  exact lv_astore_nN C.1 C.2.1 hd rfl hL.has hn rfl (fun a' h' => kk D cA b scr p l e R s m args below meth c Qf H locs a' C hX hO hS (aL.st (v := .null) h'))
theorem j_astoreN {k : Nat} (hd : decode μ.2.1 pc = .ok (.astore k, 2)) (hn : k < μ.2.2.1) (kk : aJ X μ d mc ms Q uc us (pc + 2) (ls.set k (some .null)) st M) : aJ X μ d mc ms Q uc us pc ls (.null :: st) M := by
  intro D cA b scr p l e R s m args below meth c Qf H locs a C hX hO hS hL
  exact lv_astoreN C.1 C.2.1 hd hL.has hn rfl (fun a' h' => kk D cA b scr p l e R s m args below meth c Qf H locs a' C hX hO hS (aL.st (v := .null) h'))
theorem j_iinc {k : Nat} {n : Int} {x : Int32} (v : Int32) (hd : decode μ.2.1 pc = .ok (.iinc k n, 3)) (hl : ls[k]? = some (some (.int x))) (hv : x + Int32.ofInt n = v) (hn : k < μ.2.2.1) (kk : aJ X μ d mc ms Q uc us (pc + 3) (ls.set k (some (.int v))) st M) : aJ X μ d mc ms Q uc us pc ls st M := by
  intro D cA b scr p l e R s m args below meth c Qf H locs a C hX hO hS hL
  obtain ⟨k0, hk0⟩ := List.getElem?_of_mem (aPs_mem b scr ls 0 k _ hl)
  rw [show 0 + k = k by omega] at hk0
  exact lv_iinc C.1 C.2.1 hd hL.has hk0 hv hn rfl (fun a' h' => kk D cA b scr p l e R s m args below meth c Qf H locs a' C hX hO hS (aL.st (v := .int v) h'))
theorem j_iadd {x y : Int32} (hd : decode μ.2.1 pc = .ok (.iadd, 1)) (kk : aJ X μ d mc ms Q uc us (pc + 1) ls (.int (x + y) :: st) M) : aJ X μ d mc ms Q uc us pc ls (.int y :: .int x :: st) M := by
  intro D cA b scr p l e R s m args below meth c Qf H locs a C hX hO hS hL
  exact lv_iadd C.1 C.2.1 hd (kk D cA b scr p l e R s m args below meth c Qf H locs a C hX hO hS hL)
theorem j_isub {x y : Int32} (hd : decode μ.2.1 pc = .ok (.isub, 1)) (kk : aJ X μ d mc ms Q uc us (pc + 1) ls (.int (x - y) :: st) M) : aJ X μ d mc ms Q uc us pc ls (.int y :: .int x :: st) M := by
  intro D cA b scr p l e R s m args below meth c Qf H locs a C hX hO hS hL
  exact lv_isub C.1 C.2.1 hd (kk D cA b scr p l e R s m args below meth c Qf H locs a C hX hO hS hL)
theorem j_imul {x y : Int32} (hd : decode μ.2.1 pc = .ok (.imul, 1)) (kk : aJ X μ d mc ms Q uc us (pc + 1) ls (.int (x * y) :: st) M) : aJ X μ d mc ms Q uc us pc ls (.int y :: .int x :: st) M := by
  intro D cA b scr p l e R s m args below meth c Qf H locs a C hX hO hS hL
  exact lv_imul C.1 C.2.1 hd (kk D cA b scr p l e R s m args below meth c Qf H locs a C hX hO hS hL)
theorem j_iand {x y : Int32} (hd : decode μ.2.1 pc = .ok (.iand, 1)) (kk : aJ X μ d mc ms Q uc us (pc + 1) ls (.int (x &&& y) :: st) M) : aJ X μ d mc ms Q uc us pc ls (.int y :: .int x :: st) M := by
  intro D cA b scr p l e R s m args below meth c Qf H locs a C hX hO hS hL
  exact lv_iand C.1 C.2.1 hd (kk D cA b scr p l e R s m args below meth c Qf H locs a C hX hO hS hL)
theorem j_ior {x y : Int32} (hd : decode μ.2.1 pc = .ok (.ior, 1)) (kk : aJ X μ d mc ms Q uc us (pc + 1) ls (.int (x ||| y) :: st) M) : aJ X μ d mc ms Q uc us pc ls (.int y :: .int x :: st) M := by
  intro D cA b scr p l e R s m args below meth c Qf H locs a C hX hO hS hL
  exact lv_ior C.1 C.2.1 hd (kk D cA b scr p l e R s m args below meth c Qf H locs a C hX hO hS hL)
theorem j_ishl {x y : Int32} (hd : decode μ.2.1 pc = .ok (.ishl, 1)) (kk : aJ X μ d mc ms Q uc us (pc + 1) ls (.int (x <<< (y &&& 31)) :: st) M) : aJ X μ d mc ms Q uc us pc ls (.int y :: .int x :: st) M := by
  intro D cA b scr p l e R s m args below meth c Qf H locs a C hX hO hS hL
  exact lv_ishl C.1 C.2.1 hd (kk D cA b scr p l e R s m args below meth c Qf H locs a C hX hO hS hL)
theorem j_ishr {x y : Int32} (hd : decode μ.2.1 pc = .ok (.ishr, 1)) (kk : aJ X μ d mc ms Q uc us (pc + 1) ls (.int (x >>> (y &&& 31)) :: st) M) : aJ X μ d mc ms Q uc us pc ls (.int y :: .int x :: st) M := by
  intro D cA b scr p l e R s m args below meth c Qf H locs a C hX hO hS hL
  exact lv_ishr C.1 C.2.1 hd (kk D cA b scr p l e R s m args below meth c Qf H locs a C hX hO hS hL)
theorem j_idiv {x y : Int32} (hd : decode μ.2.1 pc = .ok (.idiv, 1)) (hne : ¬ y = 0) (kk : aJ X μ d mc ms Q uc us (pc + 1) ls (.int (x / y) :: st) M) : aJ X μ d mc ms Q uc us pc ls (.int y :: .int x :: st) M := by
  intro D cA b scr p l e R s m args below meth c Qf H locs a C hX hO hS hL
  exact lv_idiv C.1 C.2.1 hd hne (kk D cA b scr p l e R s m args below meth c Qf H locs a C hX hO hS hL)
theorem j_irem {x y : Int32} (hd : decode μ.2.1 pc = .ok (.irem, 1)) (hne : ¬ y = 0) (kk : aJ X μ d mc ms Q uc us (pc + 1) ls (.int (x - x / y * y) :: st) M) : aJ X μ d mc ms Q uc us pc ls (.int y :: .int x :: st) M := by
  intro D cA b scr p l e R s m args below meth c Qf H locs a C hX hO hS hL
  exact lv_irem C.1 C.2.1 hd hne (kk D cA b scr p l e R s m args below meth c Qf H locs a C hX hO hS hL)
theorem j_dup {v : Value} (hd : decode μ.2.1 pc = .ok (.dup, 1)) (kk : aJ X μ d mc ms Q uc us (pc + 1) ls (v :: v :: st) M) : aJ X μ d mc ms Q uc us pc ls (v :: st) M := by
  intro D cA b scr p l e R s m args below meth c Qf H locs a C hX hO hS hL
  exact lv_dup C.1 C.2.1 hd (aV_cat b scr v) (kk D cA b scr p l e R s m args below meth c Qf H locs a C hX hO hS hL)
theorem j_pop {v : Value} (hd : decode μ.2.1 pc = .ok (.pop, 1)) (kk : aJ X μ d mc ms Q uc us (pc + 1) ls st M) : aJ X μ d mc ms Q uc us pc ls (v :: st) M := by
  intro D cA b scr p l e R s m args below meth c Qf H locs a C hX hO hS hL
  exact lv_pop C.1 C.2.1 hd (aV_cat b scr v) (kk D cA b scr p l e R s m args below meth c Qf H locs a C hX hO hS hL)
theorem j_dup_x1 {v w : Value} (hd : decode μ.2.1 pc = .ok (.dup_x1, 1)) (kk : aJ X μ d mc ms Q uc us (pc + 1) ls (v :: w :: v :: st) M) : aJ X μ d mc ms Q uc us pc ls (v :: w :: st) M := by
  intro D cA b scr p l e R s m args below meth c Qf H locs a C hX hO hS hL
  exact lv_dup_x1 C.1 C.2.1 hd (aV_cat b scr v) (aV_cat b scr w) (kk D cA b scr p l e R s m args below meth c Qf H locs a C hX hO hS hL)
theorem j_dup2 {v w : Value} (hd : decode μ.2.1 pc = .ok (.dup2, 1)) (kk : aJ X μ d mc ms Q uc us (pc + 1) ls (v :: w :: v :: w :: st) M) : aJ X μ d mc ms Q uc us pc ls (v :: w :: st) M := by
  intro D cA b scr p l e R s m args below meth c Qf H locs a C hX hO hS hL
  exact lv_dup2_11 C.1 C.2.1 hd (aV_cat b scr v) (aV_cat b scr w) (kk D cA b scr p l e R s m args below meth c Qf H locs a C hX hO hS hL)
theorem j_topi {x : Int32} (kk : ∀ y : Int32, y = x → aJ X μ d mc ms Q uc us pc ls (.int y :: st) M) : aJ X μ d mc ms Q uc us pc ls (.int x :: st) M := kk x rfl
theorem j_eqi {x y : Int32} (h : x = y) (kk : aJ X μ d mc ms Q uc us pc ls (.int y :: st) M) : aJ X μ d mc ms Q uc us pc ls (.int x :: st) M := h ▸ kk
theorem j_eqv {x y : Value} (h : x = y) (kk : aJ X μ d mc ms Q uc us pc ls (y :: st) M) : aJ X μ d mc ms Q uc us pc ls (x :: st) M := h ▸ kk
theorem j_eqM {M' : aM} (h : M = M') (kk : aJ X μ d mc ms Q uc us pc ls st M') : aJ X μ d mc ms Q uc us pc ls st M := h ▸ kk
theorem j_if_eq {off : Int} {tgt : Nat} {x : Int32} (hd : decode μ.2.1 pc = .ok (.ifCond .eq off, 3)) (ht : (pc : Int) + off = (tgt : Int)) (kt : x = 0 → aJ X μ d mc ms Q uc us tgt ls st M) (kf : ¬ x = 0 → aJ X μ d mc ms Q uc us (pc + 3) ls st M) : aJ X μ d mc ms Q uc us pc ls (.int x :: st) M := by
  intro D cA b scr p l e R s m args below meth c Qf H locs a C hX hO hS hL
  exact lv_if_eq C.1 C.2.1 hd ht (fun h => (kt h D cA b scr p l e R s m args below meth c Qf H locs a C hX hO hS hL)) (fun h => (kf h D cA b scr p l e R s m args below meth c Qf H locs a C hX hO hS hL))
theorem j_if_ne {off : Int} {tgt : Nat} {x : Int32} (hd : decode μ.2.1 pc = .ok (.ifCond .ne off, 3)) (ht : (pc : Int) + off = (tgt : Int)) (kt : ¬ x = 0 → aJ X μ d mc ms Q uc us tgt ls st M) (kf : x = 0 → aJ X μ d mc ms Q uc us (pc + 3) ls st M) : aJ X μ d mc ms Q uc us pc ls (.int x :: st) M := by
  intro D cA b scr p l e R s m args below meth c Qf H locs a C hX hO hS hL
  exact lv_if_ne C.1 C.2.1 hd ht (fun h => (kt h D cA b scr p l e R s m args below meth c Qf H locs a C hX hO hS hL)) (fun h => (kf h D cA b scr p l e R s m args below meth c Qf H locs a C hX hO hS hL))
theorem j_if_lt {off : Int} {tgt : Nat} {x : Int32} (hd : decode μ.2.1 pc = .ok (.ifCond .lt off, 3)) (ht : (pc : Int) + off = (tgt : Int)) (kt : x < 0 → aJ X μ d mc ms Q uc us tgt ls st M) (kf : ¬ x < 0 → aJ X μ d mc ms Q uc us (pc + 3) ls st M) : aJ X μ d mc ms Q uc us pc ls (.int x :: st) M := by
  intro D cA b scr p l e R s m args below meth c Qf H locs a C hX hO hS hL
  exact lv_if_lt C.1 C.2.1 hd ht (fun h => (kt h D cA b scr p l e R s m args below meth c Qf H locs a C hX hO hS hL)) (fun h => (kf h D cA b scr p l e R s m args below meth c Qf H locs a C hX hO hS hL))
theorem j_if_ge {off : Int} {tgt : Nat} {x : Int32} (hd : decode μ.2.1 pc = .ok (.ifCond .ge off, 3)) (ht : (pc : Int) + off = (tgt : Int)) (kt : 0 ≤ x → aJ X μ d mc ms Q uc us tgt ls st M) (kf : ¬ 0 ≤ x → aJ X μ d mc ms Q uc us (pc + 3) ls st M) : aJ X μ d mc ms Q uc us pc ls (.int x :: st) M := by
  intro D cA b scr p l e R s m args below meth c Qf H locs a C hX hO hS hL
  exact lv_if_ge C.1 C.2.1 hd ht (fun h => (kt h D cA b scr p l e R s m args below meth c Qf H locs a C hX hO hS hL)) (fun h => (kf h D cA b scr p l e R s m args below meth c Qf H locs a C hX hO hS hL))
theorem j_if_gt {off : Int} {tgt : Nat} {x : Int32} (hd : decode μ.2.1 pc = .ok (.ifCond .gt off, 3)) (ht : (pc : Int) + off = (tgt : Int)) (kt : 0 < x → aJ X μ d mc ms Q uc us tgt ls st M) (kf : ¬ 0 < x → aJ X μ d mc ms Q uc us (pc + 3) ls st M) : aJ X μ d mc ms Q uc us pc ls (.int x :: st) M := by
  intro D cA b scr p l e R s m args below meth c Qf H locs a C hX hO hS hL
  exact lv_if_gt C.1 C.2.1 hd ht (fun h => (kt h D cA b scr p l e R s m args below meth c Qf H locs a C hX hO hS hL)) (fun h => (kf h D cA b scr p l e R s m args below meth c Qf H locs a C hX hO hS hL))
theorem j_if_le {off : Int} {tgt : Nat} {x : Int32} (hd : decode μ.2.1 pc = .ok (.ifCond .le off, 3)) (ht : (pc : Int) + off = (tgt : Int)) (kt : x ≤ 0 → aJ X μ d mc ms Q uc us tgt ls st M) (kf : ¬ x ≤ 0 → aJ X μ d mc ms Q uc us (pc + 3) ls st M) : aJ X μ d mc ms Q uc us pc ls (.int x :: st) M := by
  intro D cA b scr p l e R s m args below meth c Qf H locs a C hX hO hS hL
  exact lv_if_le C.1 C.2.1 hd ht (fun h => (kt h D cA b scr p l e R s m args below meth c Qf H locs a C hX hO hS hL)) (fun h => (kf h D cA b scr p l e R s m args below meth c Qf H locs a C hX hO hS hL))
theorem j_icmp_eq {off : Int} {tgt : Nat} {x y : Int32} (hd : decode μ.2.1 pc = .ok (.if_icmp .eq off, 3)) (ht : (pc : Int) + off = (tgt : Int)) (kt : x = y → aJ X μ d mc ms Q uc us tgt ls st M) (kf : ¬ x = y → aJ X μ d mc ms Q uc us (pc + 3) ls st M) : aJ X μ d mc ms Q uc us pc ls (.int y :: .int x :: st) M := by
  intro D cA b scr p l e R s m args below meth c Qf H locs a C hX hO hS hL
  exact lv_icmp_eq C.1 C.2.1 hd ht (fun h => (kt h D cA b scr p l e R s m args below meth c Qf H locs a C hX hO hS hL)) (fun h => (kf h D cA b scr p l e R s m args below meth c Qf H locs a C hX hO hS hL))
theorem j_icmp_ne {off : Int} {tgt : Nat} {x y : Int32} (hd : decode μ.2.1 pc = .ok (.if_icmp .ne off, 3)) (ht : (pc : Int) + off = (tgt : Int)) (kt : ¬ x = y → aJ X μ d mc ms Q uc us tgt ls st M) (kf : x = y → aJ X μ d mc ms Q uc us (pc + 3) ls st M) : aJ X μ d mc ms Q uc us pc ls (.int y :: .int x :: st) M := by
  intro D cA b scr p l e R s m args below meth c Qf H locs a C hX hO hS hL
  exact lv_icmp_ne C.1 C.2.1 hd ht (fun h => (kt h D cA b scr p l e R s m args below meth c Qf H locs a C hX hO hS hL)) (fun h => (kf h D cA b scr p l e R s m args below meth c Qf H locs a C hX hO hS hL))
theorem j_icmp_lt {off : Int} {tgt : Nat} {x y : Int32} (hd : decode μ.2.1 pc = .ok (.if_icmp .lt off, 3)) (ht : (pc : Int) + off = (tgt : Int)) (kt : x < y → aJ X μ d mc ms Q uc us tgt ls st M) (kf : ¬ x < y → aJ X μ d mc ms Q uc us (pc + 3) ls st M) : aJ X μ d mc ms Q uc us pc ls (.int y :: .int x :: st) M := by
  intro D cA b scr p l e R s m args below meth c Qf H locs a C hX hO hS hL
  exact lv_icmp_lt C.1 C.2.1 hd ht (fun h => (kt h D cA b scr p l e R s m args below meth c Qf H locs a C hX hO hS hL)) (fun h => (kf h D cA b scr p l e R s m args below meth c Qf H locs a C hX hO hS hL))
theorem j_icmp_ge {off : Int} {tgt : Nat} {x y : Int32} (hd : decode μ.2.1 pc = .ok (.if_icmp .ge off, 3)) (ht : (pc : Int) + off = (tgt : Int)) (kt : y ≤ x → aJ X μ d mc ms Q uc us tgt ls st M) (kf : ¬ y ≤ x → aJ X μ d mc ms Q uc us (pc + 3) ls st M) : aJ X μ d mc ms Q uc us pc ls (.int y :: .int x :: st) M := by
  intro D cA b scr p l e R s m args below meth c Qf H locs a C hX hO hS hL
  exact lv_icmp_ge C.1 C.2.1 hd ht (fun h => (kt h D cA b scr p l e R s m args below meth c Qf H locs a C hX hO hS hL)) (fun h => (kf h D cA b scr p l e R s m args below meth c Qf H locs a C hX hO hS hL))
theorem j_icmp_gt {off : Int} {tgt : Nat} {x y : Int32} (hd : decode μ.2.1 pc = .ok (.if_icmp .gt off, 3)) (ht : (pc : Int) + off = (tgt : Int)) (kt : y < x → aJ X μ d mc ms Q uc us tgt ls st M) (kf : ¬ y < x → aJ X μ d mc ms Q uc us (pc + 3) ls st M) : aJ X μ d mc ms Q uc us pc ls (.int y :: .int x :: st) M := by
  intro D cA b scr p l e R s m args below meth c Qf H locs a C hX hO hS hL
  exact lv_icmp_gt C.1 C.2.1 hd ht (fun h => (kt h D cA b scr p l e R s m args below meth c Qf H locs a C hX hO hS hL)) (fun h => (kf h D cA b scr p l e R s m args below meth c Qf H locs a C hX hO hS hL))
theorem j_icmp_le {off : Int} {tgt : Nat} {x y : Int32} (hd : decode μ.2.1 pc = .ok (.if_icmp .le off, 3)) (ht : (pc : Int) + off = (tgt : Int)) (kt : x ≤ y → aJ X μ d mc ms Q uc us tgt ls st M) (kf : ¬ x ≤ y → aJ X μ d mc ms Q uc us (pc + 3) ls st M) : aJ X μ d mc ms Q uc us pc ls (.int y :: .int x :: st) M := by
  intro D cA b scr p l e R s m args below meth c Qf H locs a C hX hO hS hL
  exact lv_icmp_le C.1 C.2.1 hd ht (fun h => (kt h D cA b scr p l e R s m args below meth c Qf H locs a C hX hO hS hL)) (fun h => (kf h D cA b scr p l e R s m args below meth c Qf H locs a C hX hO hS hL))
theorem j_goto {off : Int} (tgt : Nat) (hd : decode μ.2.1 pc = .ok (.goto off, 3)) (ht : (pc : Int) + off = (tgt : Int)) (kk : aJ X μ d mc ms Q uc us tgt ls st M) : aJ X μ d mc ms Q uc us pc ls st M := by
  intro D cA b scr p l e R s m args below meth c Qf H locs a C hX hO hS hL
  exact lv_goto C.1 C.2.1 hd ht (kk D cA b scr p l e R s m args below meth c Qf H locs a C hX hO hS hL)
theorem j_ifnull {off : Int} {x : Nat} (hd : decode μ.2.1 pc = .ok (.ifnull off, 3)) (kk : aJ X μ d mc ms Q uc us (pc + 3) ls st M) : aJ X μ d mc ms Q uc us pc ls (.ref x :: st) M := by
  intro D cA b scr p l e R s m args below meth c Qf H locs a C hX hO hS hL
  exact lv_ifnull C.1 C.2.1 hd (kk D cA b scr p l e R s m args below meth c Qf H locs a C hX hO hS hL)
theorem j_ifnullN {off : Int} (tgt : Nat) (hd : decode μ.2.1 pc = .ok (.ifnull off, 3)) (ht : (pc : Int) + off = (tgt : Int)) (kk : aJ X μ d mc ms Q uc us tgt ls st M) : aJ X μ d mc ms Q uc us pc ls (.null :: st) M := by
  intro D cA b scr p l e R s m args below meth c Qf H locs a C hX hO hS hL
  exact lv_ifnullN C.1 C.2.1 hd ht (kk D cA b scr p l e R s m args below meth c Qf H locs a C hX hO hS hL)
theorem j_ifnonnull {off : Int} {x : Nat} (tgt : Nat) (hd : decode μ.2.1 pc = .ok (.ifnonnull off, 3)) (ht : (pc : Int) + off = (tgt : Int)) (kk : aJ X μ d mc ms Q uc us tgt ls st M) : aJ X μ d mc ms Q uc us pc ls (.ref x :: st) M := by
  intro D cA b scr p l e R s m args below meth c Qf H locs a C hX hO hS hL
  exact lv_ifnonnull C.1 C.2.1 hd ht (kk D cA b scr p l e R s m args below meth c Qf H locs a C hX hO hS hL)
theorem j_ifnonnullN {off : Int} (hd : decode μ.2.1 pc = .ok (.ifnonnull off, 3)) (kk : aJ X μ d mc ms Q uc us (pc + 3) ls st M) : aJ X μ d mc ms Q uc us pc ls (.null :: st) M := by
  intro D cA b scr p l e R s m args below meth c Qf H locs a C hX hO hS hL
  exact lv_ifnonnullN C.1 C.2.1 hd (kk D cA b scr p l e R s m args below meth c Qf H locs a C hX hO hS hL)
theorem j_ireturn {x : Int32} {ty : FieldType} (hd : decode μ.2.1 pc = .ok (.ireturn, 1)) (hr : μ.2.2.2 = some ty) (hn : narrow ty (.int x) = .int x) (hq : Q M (some (.int x))) (hc : uc ≤ mc) (hs : us ≤ ms) : aJ X μ d mc ms Q uc us pc ls [.int x] M := by
  intro D cA b scr p l e R s m args below meth c Qf H locs a C hX hO hS hL
  exact C.2.2.2.2.2.2.2.2.2.2.2.2 H locs uc us pc a M (some (.int x)) ⟨⟨ty, hr, hn⟩, hd⟩ hq hO hS hc hs
theorem j_areturn {x : Nat} {n : String} (hd : decode μ.2.1 pc = .ok (.areturn, 1)) (hr : μ.2.2.2 = some (.object n)) (hq : Q M (some (.ref x))) (hc : uc ≤ mc) (hs : us ≤ ms) : aJ X μ d mc ms Q uc us pc ls [.ref x] M := by
  intro D cA b scr p l e R s m args below meth c Qf H locs a C hX hO hS hL
  exact C.2.2.2.2.2.2.2.2.2.2.2.2 H locs uc us pc a M (some (.ref x)) ⟨⟨n, hr⟩, hd⟩ hq hO hS hc hs
theorem j_areturnN {n : String} (hd : decode μ.2.1 pc = .ok (.areturn, 1)) (hr : μ.2.2.2 = some (.object n)) (hq : Q M (some .null)) (hc : uc ≤ mc) (hs : us ≤ ms) : aJ X μ d mc ms Q uc us pc ls [.null] M := by
  intro D cA b scr p l e R s m args below meth c Qf H locs a C hX hO hS hL
  exact C.2.2.2.2.2.2.2.2.2.2.2.2 H locs uc us pc a M (some .null) ⟨⟨n, hr⟩, hd⟩ hq hO hS hc hs
theorem j_return (hd : decode μ.2.1 pc = .ok (.return_, 1)) (hr : μ.2.2.2 = none) (hq : Q M none) (hc : uc ≤ mc) (hs : us ≤ ms) : aJ X μ d mc ms Q uc us pc ls [] M := by
  intro D cA b scr p l e R s m args below meth c Qf H locs a C hX hO hS hL
  exact C.2.2.2.2.2.2.2.2.2.2.2.2 H locs uc us pc a M none ⟨hr, hd⟩ hq hO hS hc hs
theorem j_widen {uc1 us1 : Nat} (h1 : uc ≤ uc1) (h2 : us ≤ us1) (kk : aJ X μ d mc ms Q uc1 us1 pc ls st M) : aJ X μ d mc ms Q uc us pc ls st M := by
  intro D cA b scr p l e R s m args below meth c Qf H locs a C hX hO hS hL
  exact W.widen h1 h2 (kk D cA b scr p l e R s m args below meth c Qf H locs a C hX hO hS hL)
end JJ
