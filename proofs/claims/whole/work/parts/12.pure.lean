/-! the mathematical state: who is up, who leads, terms, lengths, what is known, the logs (node, place, one of 15 numbers) -/
def fu {α : Type} (f : Nat → α) (n : Nat) (v : α) : Nat → α := fun i => if i = n then v else f i
theorem fu_s {α : Type} (f : Nat → α) (n : Nat) (v : α) : fu f n v n = v := if_pos rfl
theorem fu_n {α : Type} (f : Nat → α) {n i : Nat} (v : α) (h : i ≠ n) : fu f n v i = f i := if_neg h
def bI (b : Bool) : Int32 := if b then 1 else 0
abbrev aLg : Type := Nat → Nat → Nat
def aS : Type := (Nat → Bool) × (Nat → Bool) × (Nat → Nat) × (Nat → Nat) × (Nat → Nat) × (Nat → aLg)
def sUp (S : aS) : Nat → Bool := S.1
def sLd (S : aS) : Nat → Bool := S.2.1
def sT (S : aS) : Nat → Nat := S.2.2.1
def sLn (S : aS) : Nat → Nat := S.2.2.2.1
def sKn (S : aS) : Nat → Nat := S.2.2.2.2.1
def sLg (S : aS) : Nat → aLg := S.2.2.2.2.2
/-- the service's state: how many configurations, their members and owners -/
abbrev aCf : Type := (Nat → Bool) × (Nat → Nat)
abbrev aSv : Type := Nat × (Nat → aCf)
def cn (own : Nat → Nat) (g : Nat) : Nat → Nat
  | 0 => 0
  | n + 1 => cn own g n + if own n = g then 1 else 0
/-- the member with most (fewest) shards, the least of these; 0: no member -/
def ex (b : Bool) (mem : Nat → Bool) (c : Nat → Nat) : Nat → Nat
  | 0 => 0
  | g + 1 => if mem (g + 1) = true ∧ (ex b mem c g = 0 ∨ (if b then c (ex b mem c g) < c (g + 1) else c (g + 1) < c (ex b mem c g))) then g + 1 else ex b mem c g
/-- the least shard that g owns, below n; n: none -/
def ls (own : Nat → Nat) (g : Nat) : Nat → Nat
  | 0 => 0
  | n + 1 => if ls own g n < n then ls own g n else if own n = g then n else n + 1
def bal1 (mem : Nat → Bool) (own : Nat → Nat) : Nat → Nat :=
  if cn own (ex true mem (fun g => cn own g 8) 3) 8 < cn own (ex false mem (fun g => cn own g 8) 3) 8 + 2 then own
  else fu own (ls own (ex true mem (fun g => cn own g 8) 3) 8) (ex false mem (fun g => cn own g 8) 3)
def bal (mem : Nat → Bool) : Nat → (Nat → Nat) → (Nat → Nat)
  | 0, own => own
  | n + 1, own => bal1 mem (bal mem n own)
/-- the shards of a go, one after the other, each to the member with the fewest -/
def lv (mem : Nat → Bool) (a : Nat) : Nat → (Nat → Nat) → (Nat → Nat)
  | 0, own => own
  | n + 1, own => if lv mem a n own n = a then fu (lv mem a n own) n (ex false mem (fun g => cn (lv mem a n own) g 8) 3) else lv mem a n own
def cf0 : aCf := (fun _ => false, fun _ => 0)
def nomem (mem : Nat → Bool) : Prop := mem 1 = false ∧ mem 2 = false ∧ mem 3 = false
def nM (mem : Nat → Bool) : Nat := (if mem 1 then 1 else 0) + (if mem 2 then 1 else 0) + (if mem 3 then 1 else 0)
def cfJ (c : aCf) (a : Nat) : aCf := (fu c.1 a true, bal (fu c.1 a true) 8 (if nM c.1 = 0 then fun _ => a else c.2))
def cfL (c : aCf) (a : Nat) : aCf := (fu c.1 a false, bal (fu c.1 a false) 8 (lv (fu c.1 a false) a 8 c.2))
def cfM (c : aCf) (s g : Nat) : aCf := (c.1, fu c.2 s g)
def cfStep (c : aCf) (E : Nat → Nat) : aCf := if E 1 = 1 then cfJ c (E 2) else if E 1 = 2 then cfL c (E 2) else cfM c (E 2) (E 3)
def svOk (V : aSv) (E : Nat → Nat) : Bool := decide (1 ≤ E 1 ∧ E 1 ≤ 3) && decide (V.1 < 16) && (if E 1 = 1 then !(V.2 (V.1 - 1)).1 (E 2) else if E 1 = 2 then (V.2 (V.1 - 1)).1 (E 2) && decide (1 < nM (V.2 (V.1 - 1)).1) else (V.2 (V.1 - 1)).1 (E 3))
def svStep (V : aSv) (E : Nat → Nat) : aSv := if svOk V E = true then (V.1 + 1, fu V.2 V.1 (cfStep (V.2 (V.1 - 1)) E)) else V
def svc (lg : aLg) : Nat → aSv
  | 0 => (1, fun _ => cf0)
  | k + 1 => svStep (svc lg k) (lg k)
/-- a group's state: number, owners, conditions, what the shards hold -/
abbrev aGp : Type := Nat × (Nat → Nat) × (Nat → Nat) × (Nat → Nat → Nat)
def gSet (G : aGp) : Prop := ∀ s, s < 8 → G.2.2.1 s < 2
def gpCf (g : Nat) (G : aGp) (E : Nat → Nat) : aGp :=
  (G.1 + 1, (fun s => if s < 8 then E (7 + s) else G.2.1 s), (fun s => if s < 8 then (if E (7 + s) = g ∧ G.2.1 s ≠ g then (if G.2.1 s = 0 then 1 else 2) else if E (7 + s) ≠ g ∧ G.2.1 s = g then 3 else G.2.2.1 s) else G.2.2.1 s), (fun s => if s < 8 ∧ E (7 + s) = g ∧ G.2.1 s ≠ g then fun _ => 0 else G.2.2.2 s))
def gpRq (G : aGp) (E : Nat → Nat) : aGp :=
  (G.1, G.2.1, G.2.2.1, fu G.2.2.2 (E 5 % 8) (fu (fu (fu (G.2.2.2 (E 5 % 8)) (E 5 / 8) (if E 4 = 0 then G.2.2.2 (E 5 % 8) (E 5 / 8) else if E 4 = 1 then E 6 else (G.2.2.2 (E 5 % 8) (E 5 / 8) + E 6) % 1000)) (2 + E 2) (E 3)) (5 + E 2) (if E 4 = 0 then G.2.2.2 (E 5 % 8) (E 5 / 8) else if E 4 = 1 then E 6 else (G.2.2.2 (E 5 % 8) (E 5 / 8) + E 6) % 1000)))
def gpIn (G : aGp) (E : Nat → Nat) : aGp := (G.1, G.2.1, fu G.2.2.1 (E 2) 1, fu G.2.2.2 (E 2) (fun i => if i < 8 then E (7 + i) else G.2.2.2 (E 2) i))
def gpDl (G : aGp) (E : Nat → Nat) : aGp := (G.1, G.2.1, fu G.2.2.1 (E 2) 0, G.2.2.2)
noncomputable def gpStep (g : Nat) (G : aGp) (E : Nat → Nat) : aGp := by
  classical
  exact if E 1 = 4 then (if gSet G ∧ E 2 = G.1 + 1 then gpCf g G E else G)
    else if E 1 = 5 then (if G.2.2.1 (E 5 % 8) = 1 ∧ G.2.2.2 (E 5 % 8) (2 + E 2) < E 3 then gpRq G E else G)
    else if E 1 = 6 then (if E 3 = G.1 ∧ G.2.2.1 (E 2) = 2 then gpIn G E else G)
    else if E 1 = 7 then (if E 3 = G.1 ∧ G.2.2.1 (E 2) = 3 then gpDl G E else G)
    else G
noncomputable def grp (g : Nat) (lg : aLg) : Nat → aGp
  | 0 => (0, fun _ => 0, fun _ => 0, fun _ _ => 0)
  | k + 1 => gpStep g (grp g lg k) (lg k)
theorem gpStep_def (g : Nat) (G : aGp) (E : Nat → Nat) [Decidable (gSet G ∧ E 2 = G.1 + 1)] : gpStep g G E = if E 1 = 4 then (if gSet G ∧ E 2 = G.1 + 1 then gpCf g G E else G)
    else if E 1 = 5 then (if G.2.2.1 (E 5 % 8) = 1 ∧ G.2.2.2 (E 5 % 8) (2 + E 2) < E 3 then gpRq G E else G)
    else if E 1 = 6 then (if E 3 = G.1 ∧ G.2.2.1 (E 2) = 2 then gpIn G E else G)
    else if E 1 = 7 then (if E 3 = G.1 ∧ G.2.2.1 (E 2) = 3 then gpDl G E else G)
    else G := by
  unfold gpStep
  congr
/-- the state of a node follows from what it knows -/
def sSv (S : aS) (n : Nat) : aSv := svc (sLg S n) (sKn S n)
noncomputable def sGp (S : aS) (n : Nat) : aGp := grp (n / 3) (sLg S n) (sKn S n)
/-- an entry is as a call writes it -/
def eV (E : Nat → Nat) : Prop := E 0 < 1000000 ∧ E 1 ≤ 7 ∧ (E 1 = 1 ∨ E 1 = 2 → 1 ≤ E 2 ∧ E 2 ≤ 3) ∧ (E 1 = 3 → E 2 < 8 ∧ 1 ≤ E 3 ∧ E 3 ≤ 3) ∧ (E 1 = 4 → E 2 < 16 ∧ ∀ s, s < 8 → E (7 + s) ≤ 3) ∧ (E 1 = 5 → E 2 < 3 ∧ 1 ≤ E 3 ∧ E 3 ≤ 999 ∧ E 4 < 3 ∧ E 5 < 16 ∧ E 6 < 1000) ∧ (E 1 = 6 → E 2 < 8 ∧ E 3 < 16 ∧ ∀ i, i < 8 → E (7 + i) < 1000) ∧ (E 1 = 7 → E 2 < 8 ∧ E 3 < 16)
/-- the terms of a log, of a group's node -/
def sTm (S : aS) (n k : Nat) : Nat := sLg S n k 0
def sInv (S : aS) (t : Nat) : Prop := (∀ n, n < 12 → sLn S n ≤ 80 ∧ sKn S n ≤ sLn S n ∧ sT S n ≤ 3 * t ∧ ∀ k, k < sLn S n → eV (sLg S n k)) ∧
  ∀ g, g < 4 → ∃ P pt, rInv (fun i => sT S (3 * g + i)) (fun i => sLd S (3 * g + i) = true) (fun i => sLn S (3 * g + i)) (fun i => sTm S (3 * g + i)) (fun i => sKn S (3 * g + i)) P pt
