/-! how the class's cells hold the state -/
def nd (n : Nat) : Nat := if n < 3 then 8 + 3 * n else 17 + 35 * (n - 3)
def nc (n : Nat) : Nat := if n < 3 then 2 else 3
/-- cells that are never changed again: the first configuration's, and what calls make -/
def im (a : Nat) : Prop := (4 ≤ a ∧ a < 8) ∨ 345 ≤ a
def cfO (M : aM) (q : Nat) (own : Nat → Nat) : Prop := im q ∧ tO M q 1 ∧ ∃ o, im o ∧ mR M q 1 = some o ∧ tA M o 100 8 ∧ ∀ s, s < 8 → mI M o s = nI (own s)
def cfR (M : aM) (q : Nat) (c : aCf) : Prop := im q ∧ tO M q 1 ∧ ∃ m o w, im m ∧ im o ∧ im w ∧ mR M q 0 = some m ∧ mR M q 1 = some o ∧ mR M q 2 = some w ∧ tA M m 101 4 ∧ tA M o 100 8 ∧ tA M w 100 4 ∧ (∀ g, g < 4 → mI M m g = bI (c.1 g)) ∧ (∀ s, s < 8 → mI M o s = nI (c.2 s)) ∧ ∀ g, g < 4 → mI M w g = nI (cn c.2 g 8)
theorem cfR.o {M : aM} {q : Nat} {c : aCf} (h : cfR M q c) : cfO M q c.2 := by
  obtain ⟨h1, h2, m, o, w, h3, h4, h5, h6, h7, h8, h9, ha, hb, hc, hd, he⟩ := h
  exact ⟨h1, h2, o, h4, h7, ha, hd⟩
/-- the cells of a shard at h, with its rows behind it -/
def shT (M : aM) (h : Nat) : Prop := tO M h 4 ∧ mR M h 1 = some (h + 1) ∧ mR M h 2 = some (h + 2) ∧ mR M h 3 = some (h + 3) ∧ tA M (h + 1) 100 2 ∧ tA M (h + 2) 100 3 ∧ tA M (h + 3) 100 3
def shV (M : aM) (h : Nat) (v : Nat → Nat) : Prop := (∀ i, i < 2 → mI M (h + 1) i = nI (v i)) ∧ (∀ i, i < 3 → mI M (h + 2) i = nI (v (2 + i))) ∧ ∀ i, i < 3 → mI M (h + 3) i = nI (v (5 + i))
/-- an entry -/
def eR (M : aM) (e : Nat) (E : Nat → Nat) : Prop := 345 ≤ e ∧ mI M e 0 = nI (E 0) ∧
  ((E 1 = 0 ∧ tO M e 5) ∨
   ((1 ≤ E 1 ∧ E 1 ≤ 3) ∧ tO M e 6 ∧ mI M e 1 = nI (E 1 - 1) ∧ mI M e 2 = nI (E 2) ∧ (E 1 = 3 → mI M e 3 = nI (E 3))) ∨
   (E 1 = 4 ∧ tO M e 7 ∧ mI M e 1 = nI (E 2) ∧ ∃ q, mR M e 2 = some q ∧ cfO M q (fun s => E (7 + s))) ∨
   (E 1 = 5 ∧ tO M e 8 ∧ mI M e 1 = nI (E 2) ∧ mI M e 2 = nI (E 3) ∧ mI M e 3 = nI (E 4) ∧ mI M e 4 = nI (E 5) ∧ mI M e 5 = nI (E 6)) ∨
   (E 1 = 6 ∧ tO M e 9 ∧ mI M e 1 = nI (E 2) ∧ mI M e 2 = nI (E 3) ∧ ∃ h, 345 ≤ h ∧ mR M e 3 = some h ∧ shT M h ∧ shV M h (fun i => E (7 + i))) ∨
   (E 1 = 7 ∧ tO M e 10 ∧ mI M e 1 = nI (E 2) ∧ mI M e 2 = nI (E 3)))
theorem eR.cls {M : aM} {e : Nat} {E : Nat → Nat} (h : eR M e E) : ∃ ci, tO M e ci ∧ 5 ≤ ci ∧ ci ≤ 10 := by
  obtain ⟨-, -, h | h | h | h | h | h⟩ := h
  · exact ⟨5, h.2, by decide, by decide⟩
  · exact ⟨6, h.2.1, by decide, by decide⟩
  · exact ⟨7, h.2.1, by decide, by decide⟩
  · exact ⟨8, h.2.1, by decide, by decide⟩
  · exact ⟨9, h.2.1, by decide, by decide⟩
  · exact ⟨10, h.2.1, by decide, by decide⟩
/-- what was made once stays -/
def stb (M M1 : aM) : Prop := mSz M ≤ mSz M1 ∧ ∀ a, im a → a < mSz M → sm M M1 a
theorem stb.rf (M : aM) : stb M M := ⟨Nat.le_refl _, fun a _ _ => sm.rf M a⟩
theorem stb.tr {M M1 M2 : aM} (h : stb M M1) (g : stb M1 M2) : stb M M2 := ⟨Nat.le_trans h.1 g.1, fun a h1 h2 => (h.2 a h1 h2).tr (g.2 a h1 (Nat.lt_of_lt_of_le h2 h.1))⟩
theorem stb.sI {M M1 : aM} {o k : Nat} {x : Int32} (h : stb M M1) (hn : ¬ im o ∨ mSz M ≤ o) : stb M (sI M1 o k x) := ⟨h.1, fun a h1 h2 => (h.2 a h1 h2).sI (fun e => by subst e; rcases hn with q | q; exact q h1; omega)⟩
theorem stb.sR {M M1 : aM} {o k : Nat} {x : Option Nat} (h : stb M M1) (hn : ¬ im o ∨ mSz M ≤ o) : stb M (sR M1 o k x) := ⟨h.1, fun a h1 h2 => (h.2 a h1 h2).sR (fun e => by subst e; rcases hn with q | q; exact q h1; omega)⟩
theorem stb.sC {M M1 : aM} {o sp q dp n : Nat} (h : stb M M1) (hn : ¬ im q ∨ mSz M ≤ q) : stb M (sC M1 o sp q dp n) := ⟨h.1, fun a h1 h2 => (h.2 a h1 h2).sC (fun e => by subst e; rcases hn with z | z; exact z h1; omega)⟩
theorem stb.mN {M M1 : aM} {kd ln : Nat} (h : stb M M1) : stb M (mN M1 kd ln) := ⟨Nat.le_succ_of_le h.1, fun a h1 h2 => (h.2 a h1 h2).mN (Nat.ne_of_lt (Nat.lt_of_lt_of_le h2 h.1))⟩
theorem cfO.st {M M1 : aM} {q : Nat} {own : Nat → Nat} (s : stb M M1) (h : cfO M q own) : cfO M1 q own := by
  obtain ⟨h1, h2, o, h4, h7, ha, hd⟩ := h
  have s1 := s.2 q h1 h2.1
  have s2 := s.2 o h4 ha.1
  exact ⟨h1, s1.tO s.1 h2, o, h4, s1.R h7, s2.tA s.1 ha, fun i hi => s2.I (hd i hi)⟩
theorem cfR.st {M M1 : aM} {q : Nat} {c : aCf} (s : stb M M1) (h : cfR M q c) : cfR M1 q c := by
  obtain ⟨h1, h2, m, o, w, h3, h4, h5, h6, h7, h8, h9, ha, hb, hc, hd, he⟩ := h
  have s1 := s.2 q h1 h2.1
  have s2 := s.2 m h3 h9.1
  have s3 := s.2 o h4 ha.1
  have s4 := s.2 w h5 hb.1
  exact ⟨h1, s1.tO s.1 h2, m, o, w, h3, h4, h5, s1.R h6, s1.R h7, s1.R h8, s2.tA s.1 h9, s3.tA s.1 ha, s4.tA s.1 hb, fun i hi => s2.I (hc i hi), fun i hi => s3.I (hd i hi), fun i hi => s4.I (he i hi)⟩
theorem shT.st {M M1 : aM} {h : Nat} (s : stb M M1) (hh : 345 ≤ h) (t : shT M h) : shT M1 h := by
  obtain ⟨t1, t2, t3, t4, t5, t6, t7⟩ := t
  have s0 := s.2 h (Or.inr hh) t1.1
  have s1 := s.2 (h + 1) (Or.inr (by omega)) t5.1
  have s2 := s.2 (h + 2) (Or.inr (by omega)) t6.1
  have s3 := s.2 (h + 3) (Or.inr (by omega)) t7.1
  exact ⟨s0.tO s.1 t1, s0.R t2, s0.R t3, s0.R t4, s1.tA s.1 t5, s2.tA s.1 t6, s3.tA s.1 t7⟩
theorem shV.st {M M1 : aM} {h : Nat} {v : Nat → Nat} (s : stb M M1) (hh : 345 ≤ h) (t : shT M h) (g : shV M h v) : shV M1 h v := by
  obtain ⟨t1, t2, t3, t4, t5, t6, t7⟩ := t
  have s1 := s.2 (h + 1) (Or.inr (by omega)) t5.1
  have s2 := s.2 (h + 2) (Or.inr (by omega)) t6.1
  have s3 := s.2 (h + 3) (Or.inr (by omega)) t7.1
  exact ⟨fun i hi => s1.I (g.1 i hi), fun i hi => s2.I (g.2.1 i hi), fun i hi => s3.I (g.2.2 i hi)⟩
theorem eR.st {M M1 : aM} {e : Nat} {E : Nat → Nat} (s : stb M M1) (h : eR M e E) : eR M1 e E := by
  obtain ⟨ci, hci, -, -⟩ := h.cls
  obtain ⟨h0, ht, h⟩ := h
  have s0 := s.2 e (Or.inr h0) hci.1
  refine ⟨h0, s0.I ht, ?_⟩
  rcases h with ⟨h1, h2⟩ | ⟨h1, h2, h3, h4, h5⟩ | ⟨h1, h2, h3, q, h4, h5⟩ | ⟨h1, h2, h3, h4, h5, h6, h7⟩ | ⟨h1, h2, h3, h4, q, h5, h6, h7, h8⟩ | ⟨h1, h2, h3, h4⟩
  · exact Or.inl ⟨h1, s0.tO s.1 h2⟩
  · exact Or.inr (Or.inl ⟨h1, s0.tO s.1 h2, s0.I h3, s0.I h4, fun q => s0.I (h5 q)⟩)
  · exact Or.inr (Or.inr (Or.inl ⟨h1, s0.tO s.1 h2, s0.I h3, q, s0.R h4, h5.st s⟩))
  · exact Or.inr (Or.inr (Or.inr (Or.inl ⟨h1, s0.tO s.1 h2, s0.I h3, s0.I h4, s0.I h5, s0.I h6, s0.I h7⟩)))
  · exact Or.inr (Or.inr (Or.inr (Or.inr (Or.inl ⟨h1, s0.tO s.1 h2, s0.I h3, s0.I h4, q, h5, s0.R h6, h7.st s h5, h8.st s h5 h7⟩))))
  · exact Or.inr (Or.inr (Or.inr (Or.inr (Or.inr ⟨h1, s0.tO s.1 h2, s0.I h3, s0.I h4⟩))))
/-- the shape: what never changes of the class's cells -/
def cSh (M : aM) : Prop := 345 ≤ mSz M ∧ tO M 0 0 ∧ mR M 0 0 = some 1 ∧ mR M 0 1 = some 2 ∧ mR M 0 2 = some 3 ∧ tA M 1 102 12 ∧ tA M 2 103 3 ∧ tA M 3 104 9 ∧
  (∀ n, n < 12 → mR M 1 n = some (nd n) ∧ ndS M (nd n) (nc n)) ∧
  (∀ n, n < 3 → mR M 2 n = some (nd n) ∧ mR M (nd n) 6 = some (nd n + 2) ∧ tA M (nd n + 2) 105 16) ∧
  (∀ n, n < 9 → mR M 3 n = some (nd (3 + n))) ∧
  ∀ n, 3 ≤ n → n < 12 → mI M (nd n) 6 = nI (n / 3) ∧ mR M (nd n) 9 = some (nd n + 2) ∧ tA M (nd n + 2) 107 8 ∧ ∀ s, s < 8 → mR M (nd n + 2) s = some (nd n + 3 + 4 * s) ∧ shT M (nd n + 3 + 4 * s)
def lgR (M : aM) (n : Nat) (S : aS) : Prop := mI M (nd n) 3 = nI (sLn S n) ∧ ∀ k, k < sLn S n → ∃ e, mR M (nd n + 1) k = some e ∧ eR M e (sLg S n k)
def svR (M : aM) (n : Nat) (V : aSv) : Prop := mI M (nd n) 7 = nI (V.1 - 1) ∧ ∀ c, c < V.1 → ∃ q, mR M (nd n + 2) c = some q ∧ cfR M q (V.2 c)
def gpR (M : aM) (n : Nat) (G : aGp) : Prop := mI M (nd n) 7 = nI G.1 ∧ (∃ q, mR M (nd n) 8 = some q ∧ cfO M q G.2.1) ∧ ∀ s, s < 8 → mI M (nd n + 3 + 4 * s) 0 = nI (G.2.2.1 s) ∧ (G.2.2.1 s = 1 ∨ G.2.2.1 s = 3 → shV M (nd n + 3 + 4 * s) (G.2.2.2 s))
def ndR (M : aM) (n : Nat) (S : aS) : Prop := mI M (nd n) 0 = bI (sUp S n) ∧ mI M (nd n) 1 = bI (sLd S n) ∧ mI M (nd n) 2 = nI (sT S n) ∧ mI M (nd n) 4 = nI (sKn S n) ∧ lgR M n S ∧ (n < 3 → svR M n (sSv S n)) ∧ (3 ≤ n → gpR M n (sGp S n))
def cR (M : aM) (S : aS) : Prop := cSh M ∧ ∀ n, n < 12 → ndR M n S
