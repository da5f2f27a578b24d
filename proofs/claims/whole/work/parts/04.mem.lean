/-! the memory of the walk: how many cells there are; each one's kind and length; the ints and the references in them. A cell of number a lies at the address b + a. -/
def aM : Type := Nat × (Nat → Nat × Nat) × (Nat → Nat → Int32) × (Nat → Nat → Option Nat)
def mSz (M : aM) : Nat := M.1
def mKd (M : aM) (a : Nat) : Nat := (M.2.1 a).1
def mLn (M : aM) (a : Nat) : Nat := (M.2.1 a).2
def mI (M : aM) (a k : Nat) : Int32 := M.2.2.1 a k
def mR (M : aM) (a k : Nat) : Option Nat := M.2.2.2 a k
def sI (M : aM) (a k : Nat) (x : Int32) : aM := (M.1, M.2.1, fun c j => if c = a ∧ j = k then x else M.2.2.1 c j, M.2.2.2)
def sR (M : aM) (a k : Nat) (x : Option Nat) : aM := (M.1, M.2.1, M.2.2.1, fun c j => if c = a ∧ j = k then x else M.2.2.2 c j)
def mN (M : aM) (kd ln : Nat) : aM := (M.1 + 1, (fun c => if c = M.1 then (kd, ln) else M.2.1 c), (fun c j => if c = M.1 then 0 else M.2.2.1 c j), (fun c j => if c = M.1 then none else M.2.2.2 c j))
def sC (M : aM) (a sp b dp n : Nat) : aM := (M.1, M.2.1, (fun c j => if c = b ∧ dp ≤ j ∧ j < dp + n then M.2.2.1 a (sp + (j - dp)) else M.2.2.1 c j), M.2.2.2)
/-- an object of class ci; an array of kind kd with n places -/
def tO (M : aM) (a ci : Nat) : Prop := a < mSz M ∧ mKd M a = ci
def tA (M : aM) (a kd n : Nat) : Prop := a < mSz M ∧ mKd M a = kd ∧ mLn M a = n

theorem mm_sz_sI (M : aM) (a k : Nat) (x : Int32) : mSz (sI M a k x) = mSz M := rfl
theorem mm_kd_sI (M : aM) (a k : Nat) (x : Int32) (c : Nat) : mKd (sI M a k x) c = mKd M c := rfl
theorem mm_ln_sI (M : aM) (a k : Nat) (x : Int32) (c : Nat) : mLn (sI M a k x) c = mLn M c := rfl
theorem mm_tO_sI (M : aM) (a k : Nat) (x : Int32) (c i : Nat) : tO (sI M a k x) c i = tO M c i := rfl
theorem mm_tA_sI (M : aM) (a k : Nat) (x : Int32) (c i n1 : Nat) : tA (sI M a k x) c i n1 = tA M c i n1 := rfl
theorem mm_sz_sR (M : aM) (a k : Nat) (x : Option Nat) : mSz (sR M a k x) = mSz M := rfl
theorem mm_kd_sR (M : aM) (a k : Nat) (x : Option Nat) (c : Nat) : mKd (sR M a k x) c = mKd M c := rfl
theorem mm_ln_sR (M : aM) (a k : Nat) (x : Option Nat) (c : Nat) : mLn (sR M a k x) c = mLn M c := rfl
theorem mm_tO_sR (M : aM) (a k : Nat) (x : Option Nat) (c i : Nat) : tO (sR M a k x) c i = tO M c i := rfl
theorem mm_tA_sR (M : aM) (a k : Nat) (x : Option Nat) (c i n1 : Nat) : tA (sR M a k x) c i n1 = tA M c i n1 := rfl
theorem mm_sz_sC (M : aM) (a sp b dp n : Nat) : mSz (sC M a sp b dp n) = mSz M := rfl
theorem mm_kd_sC (M : aM) (a sp b dp n : Nat) (c : Nat) : mKd (sC M a sp b dp n) c = mKd M c := rfl
theorem mm_ln_sC (M : aM) (a sp b dp n : Nat) (c : Nat) : mLn (sC M a sp b dp n) c = mLn M c := rfl
theorem mm_tO_sC (M : aM) (a sp b dp n : Nat) (c i : Nat) : tO (sC M a sp b dp n) c i = tO M c i := rfl
theorem mm_tA_sC (M : aM) (a sp b dp n : Nat) (c i n1 : Nat) : tA (sC M a sp b dp n) c i n1 = tA M c i n1 := rfl
theorem mm_I_sI (M : aM) (a k : Nat) (x : Int32) (c j : Nat) : mI (sI M a k x) c j = if c = a ∧ j = k then x else mI M c j := rfl
theorem mm_R_sI (M : aM) (a k : Nat) (x : Int32) (c j : Nat) : mR (sI M a k x) c j = mR M c j := rfl
theorem mm_I_sR (M : aM) (a k : Nat) (x : Option Nat) (c j : Nat) : mI (sR M a k x) c j = mI M c j := rfl
theorem mm_R_sR (M : aM) (a k : Nat) (x : Option Nat) (c j : Nat) : mR (sR M a k x) c j = if c = a ∧ j = k then x else mR M c j := rfl
theorem mm_I_sC (M : aM) (a sp b dp n c j : Nat) : mI (sC M a sp b dp n) c j = if c = b ∧ dp ≤ j ∧ j < dp + n then mI M a (sp + (j - dp)) else mI M c j := rfl
theorem mm_R_sC (M : aM) (a sp b dp n c j : Nat) : mR (sC M a sp b dp n) c j = mR M c j := rfl
theorem mm_sz_mN (M : aM) (kd ln : Nat) : mSz (mN M kd ln) = mSz M + 1 := rfl
theorem mm_kd_mN (M : aM) (kd ln c : Nat) : mKd (mN M kd ln) c = if c = mSz M then kd else mKd M c := by
  show ((if c = M.1 then (kd, ln) else M.2.1 c) : Nat × Nat).1 = _
  by_cases h : c = M.1
  · rw [if_pos h, if_pos (show c = mSz M from h)]
  · rw [if_neg h, if_neg (show ¬ c = mSz M from h)]; rfl
theorem mm_ln_mN (M : aM) (kd ln c : Nat) : mLn (mN M kd ln) c = if c = mSz M then ln else mLn M c := by
  show ((if c = M.1 then (kd, ln) else M.2.1 c) : Nat × Nat).2 = _
  by_cases h : c = M.1
  · rw [if_pos h, if_pos (show c = mSz M from h)]
  · rw [if_neg h, if_neg (show ¬ c = mSz M from h)]; rfl
theorem mm_I_mN (M : aM) (kd ln c j : Nat) : mI (mN M kd ln) c j = if c = mSz M then 0 else mI M c j := rfl
theorem mm_R_mN (M : aM) (kd ln c j : Nat) : mR (mN M kd ln) c j = if c = mSz M then none else mR M c j := rfl
theorem tO.up {M : aM} {a ci : Nat} (h : tO M a ci) (kd ln : Nat) : tO (mN M kd ln) a ci := ⟨by rw [mm_sz_mN]; exact Nat.lt_succ_of_lt h.1, by rw [mm_kd_mN, if_neg (Nat.ne_of_lt h.1)]; exact h.2⟩
theorem tA.up {M : aM} {a ci n : Nat} (h : tA M a ci n) (kd ln : Nat) : tA (mN M kd ln) a ci n := ⟨by rw [mm_sz_mN]; exact Nat.lt_succ_of_lt h.1, by rw [mm_kd_mN, if_neg (Nat.ne_of_lt h.1)]; exact h.2.1, by rw [mm_ln_mN, if_neg (Nat.ne_of_lt h.1)]; exact h.2.2⟩
theorem tO.new (M : aM) (kd ln : Nat) : tO (mN M kd ln) (mSz M) kd := ⟨by rw [mm_sz_mN]; exact Nat.lt_succ_self _, by rw [mm_kd_mN, if_pos rfl]⟩
theorem tA.new (M : aM) (kd ln : Nat) : tA (mN M kd ln) (mSz M) kd ln := ⟨by rw [mm_sz_mN]; exact Nat.lt_succ_self _, by rw [mm_kd_mN, if_pos rfl], by rw [mm_ln_mN, if_pos rfl]⟩
/-- a method: its name, code, locals, answer -/
abbrev aMd : Type := MethodName × ByteArray × Nat × Option FieldType
def aV (b scr : Nat) (v : Value) : Value := match v with
  | .int x => .int x
  | .ref a => .ref (b + a)
  | .float _ => .ref scr
  | _ => .null
theorem aV_cat (b scr : Nat) (v : Value) : (aV b scr v).category = 1 := by cases v <;> rfl
theorem aV_rf (b scr : Nat) (r : Option Nat) : aV b scr (va_rf r) = va_rf (r.map (b + ·)) := by cases r <;> rfl
def aA (b : Nat) : Nat → Prop := fun q => b ≤ q
/-- the value of a field -/
def aF (b : Nat) (M : aM) (a k : Nat) : Value := if aRf (mKd M a) k = true then va_rf ((mR M a k).map (b + ·)) else .int (mI M a k)
def aAt (D : va_G) (cA : Nat → ClassId) (b : Nat) (M : aM) (H : Heap) (a : Nat) : Prop :=
  if mKd M a < 100 then ∃ r : vw_C, aCl[mKd M a]? = some r ∧ t_OB (b + a) (D.1 (mKd M a)) r.2.2 (D.2 (mKd M a)) H (aF b M a)
  else if mKd M a < 102 then H[b + a]? = some (arrV (cA (mKd M a)) (mLn M a) (fun j => .int (mI M a j)))
  else H[b + a]? = some (arrV (cA (mKd M a)) (mLn M a) (fun j => va_rf ((mR M a j).map (b + ·))))
def aOK (D : va_G) (cA : Nat → ClassId) (b : Nat) (M : aM) (H : Heap) : Prop := H.size = b + mSz M ∧ ∀ a, a < mSz M → aAt D cA b M H a
def aG (D : va_G) (cA : Nat → ClassId) (U : State) : Prop := va_K D aCl (aT cA) U ∧ ∀ w ∈ aNW, va_Nw w U

