theorem bI_0 {b : Bool} (h : bI b = 0) : b = false := by cases b; rfl; exact absurd h (by decide)
theorem bI_1 {b : Bool} (h : bI b ≠ 0) : b = true := by cases b; exact absurd rfl h; rfl
theorem bI_t {b : Bool} (h : b = true) : bI b ≠ 0 := by subst h; decide
theorem bI_f {b : Bool} (h : b = false) : bI b = 0 := by subst h; rfl
/-- what a call of the class does: its answer, the state behind it; the model's cells stay -/
def cQ (M : aM) (o : aS × Int32) : aM → Option Value → Prop := fun M1 r => r = some (.int o.2) ∧ cR M1 o.1 ∧ fM M M1
theorem fM.rf (M : aM) : fM M M := ⟨Nat.le_refl _, fun a _ _ => sm.rf M a⟩
def oCrash (S : aS) (x : Int32) : aS × Int32 := match dN x 12 with
  | none => (S, 0)
  | some n => if sUp S n = true then ((fu (sUp S) n false, fu (sLd S) n false, sT S, sLn S, sKn S, sLg S), 1) else (S, 0)
def oRecover (S : aS) (x : Int32) : aS × Int32 := match dN x 12 with
  | none => (S, 0)
  | some n => if sUp S n = true then (S, 0) else ((fu (sUp S) n true, sLd S, sT S, sLn S, sKn S, sLg S), 1)
def oLength (S : aS) (x : Int32) : aS × Int32 := match dN x 12 with
  | none => (S, -1)
  | some n => (S, nI (sLn S n))
def oKnown (S : aS) (x : Int32) : aS × Int32 := match dN x 12 with
  | none => (S, -1)
  | some n => (S, nI (sKn S n))
def oTerm (S : aS) (x : Int32) : aS × Int32 := match dN x 12 with
  | none => (S, -1)
  | some n => (S, if sLd S n = true then nI (sT S n) + 1000 else nI (sT S n))
theorem stb_nd {M : aM} {n k : Nat} {x : Int32} {M1 : aM} (hn : n < 12) (h : stb M M1) : stb M (sI M1 (nd n) k x) := h.sI (Or.inl (nd_im (i := 0) hn (by have := wd_3 n; omega)))
theorem fM_nd {M M1 : aM} {n i k : Nat} {x : Int32} (hn : n < 12) (hi : i < wd n) (h : fM M M1) : fM M (sI M1 (nd n + i) k x) := ⟨h.1, fun a h1 h2 => (h.2 a h1 h2).sI (by have := nd_in hn hi; omega)⟩
theorem fM_ndR {M M1 : aM} {n i k : Nat} {x : Option Nat} (hn : n < 12) (hi : i < wd n) (h : fM M M1) : fM M (sR M1 (nd n + i) k x) := ⟨h.1, fun a h1 h2 => (h.2 a h1 h2).sR (by have := nd_in hn hi; omega)⟩
theorem fM_mN {M M1 : aM} {kd ln : Nat} (hz : 345 ≤ mSz M) (h : fM M M1) : fM M (mN M1 kd ln) := ⟨Nat.le_succ_of_le h.1, fun a h1 h2 => (h.2 a h1 h2).mN (by have := h.1; omega)⟩
theorem fM.tr {M M1 M2 : aM} (h : fM M M1) (g : fM M1 M2) : fM M M2 := ⟨Nat.le_trans h.1 g.1, fun a h1 h2 => (h.2 a h1 h2).tr (g.2 a h1 h2)⟩
/-- of other nodes nothing changes where only node n's own cells are written -/
theorem sm_other {M M1 : aM} {m n i k : Nat} {x : Int32} (hm : m < 12) (hn : n < 12) (hmn : m ≠ n) (hi : i < wd n) (h : ∀ j, j < wd m → sm M M1 (nd m + j)) : ∀ j, j < wd m → sm M (sI M1 (nd n + i) k x) (nd m + j) := fun j hj => (h j hj).sI (nd_apart hm hn hmn hj hi)
theorem sm_otherR {M M1 : aM} {m n i k : Nat} {x : Option Nat} (hm : m < 12) (hn : n < 12) (hmn : m ≠ n) (hi : i < wd n) (h : ∀ j, j < wd m → sm M M1 (nd m + j)) : ∀ j, j < wd m → sm M (sR M1 (nd n + i) k x) (nd m + j) := fun j hj => (h j hj).sR (nd_apart hm hn hmn hj hi)
theorem cR.n {M : aM} {S : aS} (h : cR M S) {x : Int32} (hx : dN x 12 = none ∨ ∃ n, n < 12 ∧ x = nI n ∧ sUp S n = false) : nUp M x := by
  rcases hx with hx | ⟨n, hn, e, hu⟩
  · rcases dN_cases x (N := 12) (by decide) with ⟨-, h1⟩ | ⟨n, -, -, h2⟩
    · exact Or.inl h1
    · rw [hx] at h2; cases h2
  · exact Or.inr ⟨n, hn, e, by rw [(h.2 n hn).1]; exact bI_f hu⟩
theorem wd0 (n : Nat) : 0 < wd n := by have := wd_3 n; omega
theorem c_crash (M : aM) (S : aS) (x : Int32) (h : cR M S) : aK m_S_crash 2 0 0 M [.ref 0, .int x] (cQ M (oCrash S x)) := by
  rcases dN_cases x (N := 12) (by decide) with ⟨e, hx⟩ | ⟨n, hn, rfl, e⟩
  · refine (k_crash_n M x h.1 (Or.inl hx)).weaken ?_
    rintro M1 r ⟨rfl, rfl⟩
    unfold oCrash; rw [e]
    exact ⟨rfl, h, fM.rf _⟩
  · by_cases hu : sUp S n = true
    · have hu1 : mI M (nd n) 0 ≠ 0 := by rw [(h.2 n hn).1]; exact bI_t hu
      have key : aK m_S_crash 2 0 0 M [.ref 0, .int (nI n)] (fun M1 r => M1 = sI (sI M (nd n) 0 0) (nd n) 1 0 ∧ r = some (.int 1)) := by
        by_cases h3 : n < 3
        · exact k_crash_V M n h.1 h3 hu1
        · exact k_crash_T M n h.1 (by omega) hn hu1
      refine key.weaken ?_
      rintro M1 r ⟨rfl, rfl⟩
      unfold oCrash; rw [e]; simp only [hu, if_true]
      refine ⟨rfl, ⟨cSh_sI (cSh_sI h.1 (Or.inl (by decide))) (Or.inl (by decide)), fun m hm => ?_⟩, fM_nd (i := 0) hn (wd0 n) (fM_nd (i := 0) hn (wd0 n) (fM.rf M))⟩
      have st : stb M (sI (sI M (nd n) 0 0) (nd n) 1 0) := stb_nd hn (stb_nd hn (stb.rf M))
      by_cases hmn : m = n
      · subst hmn
        refine (h.2 m hm).flags st (fun i h1 h2 => ((sm.rf M _).sI (by omega)).sI (by omega)) (fun k => rfl) (fun k hk => by simp only [mm_I_sI]; rw [if_neg (by omega), if_neg (by omega)]) rfl rfl rfl ?_ ?_ ?_
        · simp only [mm_I_sI]; show _ = bI (fu (sUp S) m false m); rw [fu_s]; rfl
        · simp only [mm_I_sI]; show _ = bI (fu (sLd S) m false m); rw [fu_s]; rfl
        · simp only [mm_I_sI]; exact (h.2 m hm).2.2.1
      · exact (h.2 m hm).keep st (sm_other (i := 0) hm hn hmn (wd0 n) (sm_other (i := 0) hm hn hmn (wd0 n) (fun j _ => sm.rf M _))) (fu_n _ _ hmn) (fu_n _ _ hmn) rfl rfl rfl rfl
    · have hu0 : sUp S n = false := by cases q : sUp S n; rfl; exact absurd q hu
      refine (k_crash_n M (nI n) h.1 (h.n (Or.inr ⟨n, hn, rfl, hu0⟩))).weaken ?_
      rintro M1 r ⟨rfl, rfl⟩
      unfold oCrash; rw [e]; simp only [hu0]
      exact ⟨rfl, h, fM.rf _⟩
theorem c_recover (M : aM) (S : aS) (x : Int32) (h : cR M S) : aK m_S_recover 1 0 0 M [.ref 0, .int x] (cQ M (oRecover S x)) := by
  rcases dN_cases x (N := 12) (by decide) with ⟨e, hx⟩ | ⟨n, hn, rfl, e⟩
  · refine (k_recover_n M x h.1 hx).weaken ?_
    rintro M1 r ⟨rfl, rfl⟩
    unfold oRecover; rw [e]
    exact ⟨rfl, h, fM.rf _⟩
  · by_cases hu : sUp S n = true
    · have hu1 : mI M (nd n) 0 ≠ 0 := by rw [(h.2 n hn).1]; exact bI_t hu
      have key : aK m_S_recover 1 0 0 M [.ref 0, .int (nI n)] (fun M1 r => M1 = M ∧ r = some (.int 0)) := by
        by_cases h3 : n < 3
        · exact k_recover_Vn M n h.1 h3 hu1
        · exact k_recover_Tn M n h.1 (by omega) hn hu1
      refine key.weaken ?_
      rintro M1 r ⟨rfl, rfl⟩
      unfold oRecover; rw [e]; simp only [hu, if_true]
      exact ⟨rfl, h, fM.rf _⟩
    · have hu0 : sUp S n = false := by cases q : sUp S n; rfl; exact absurd q hu
      have hu1 : mI M (nd n) 0 = 0 := by rw [(h.2 n hn).1]; exact bI_f hu0
      have key : aK m_S_recover 1 0 0 M [.ref 0, .int (nI n)] (fun M1 r => M1 = sI M (nd n) 0 1 ∧ r = some (.int 1)) := by
        by_cases h3 : n < 3
        · exact k_recover_V M n h.1 h3 hu1
        · exact k_recover_T M n h.1 (by omega) hn hu1
      refine key.weaken ?_
      rintro M1 r ⟨rfl, rfl⟩
      unfold oRecover; rw [e]; simp only [hu0]
      refine ⟨rfl, ⟨cSh_sI h.1 (Or.inl (by decide)), fun m hm => ?_⟩, fM_nd (i := 0) hn (wd0 n) (fM.rf M)⟩
      have st : stb M (sI M (nd n) 0 1) := stb_nd hn (stb.rf M)
      by_cases hmn : m = n
      · subst hmn
        refine (h.2 m hm).flags st (fun i h1 h2 => (sm.rf M _).sI (by omega)) (fun k => rfl) (fun k hk => by simp only [mm_I_sI]; rw [if_neg (by omega)]) rfl rfl rfl ?_ ?_ ?_
        · simp only [mm_I_sI]; show _ = bI (fu (sUp S) m true m); rw [fu_s]; rfl
        · simp only [mm_I_sI]; exact (h.2 m hm).2.1
        · simp only [mm_I_sI]; exact (h.2 m hm).2.2.1
      · exact (h.2 m hm).keep st (sm_other (i := 0) hm hn hmn (wd0 n) (fun j _ => sm.rf M _)) (fu_n _ _ hmn) rfl rfl rfl rfl rfl
theorem c_length (M : aM) (S : aS) (x : Int32) (h : cR M S) : aK m_S_length 1 0 0 M [.ref 0, .int x] (cQ M (oLength S x)) := by
  rcases dN_cases x (N := 12) (by decide) with ⟨e, hx⟩ | ⟨n, hn, rfl, e⟩
  · refine (k_length_n M x h.1 hx).weaken ?_
    rintro M1 r ⟨rfl, rfl⟩
    unfold oLength; rw [e]
    exact ⟨rfl, h, fM.rf _⟩
  · have key : aK m_S_length 1 0 0 M [.ref 0, .int (nI n)] (fun M1 r => M1 = M ∧ r = some (.int (mI M (nd n) 3))) := by
      by_cases h3 : n < 3
      · exact k_length_V M n h.1 h3
      · exact k_length_T M n h.1 (by omega) hn
    refine key.weaken ?_
    rintro M1 r ⟨rfl, rfl⟩
    unfold oLength; rw [e]
    exact ⟨by rw [(h.2 n hn).2.2.2.2.1.1], h, fM.rf _⟩
theorem c_known (M : aM) (S : aS) (x : Int32) (h : cR M S) : aK m_S_known 1 0 0 M [.ref 0, .int x] (cQ M (oKnown S x)) := by
  rcases dN_cases x (N := 12) (by decide) with ⟨e, hx⟩ | ⟨n, hn, rfl, e⟩
  · refine (k_known_n M x h.1 hx).weaken ?_
    rintro M1 r ⟨rfl, rfl⟩
    unfold oKnown; rw [e]
    exact ⟨rfl, h, fM.rf _⟩
  · have key : aK m_S_known 1 0 0 M [.ref 0, .int (nI n)] (fun M1 r => M1 = M ∧ r = some (.int (mI M (nd n) 4))) := by
      by_cases h3 : n < 3
      · exact k_known_V M n h.1 h3
      · exact k_known_T M n h.1 (by omega) hn
    refine key.weaken ?_
    rintro M1 r ⟨rfl, rfl⟩
    unfold oKnown; rw [e]
    exact ⟨by rw [(h.2 n hn).2.2.2.1], h, fM.rf _⟩
theorem c_term (M : aM) (S : aS) (x : Int32) (h : cR M S) : aK m_S_term 1 0 0 M [.ref 0, .int x] (cQ M (oTerm S x)) := by
  rcases dN_cases x (N := 12) (by decide) with ⟨e, hx⟩ | ⟨n, hn, rfl, e⟩
  · refine (k_term_n M x h.1 hx).weaken ?_
    rintro M1 r ⟨rfl, rfl⟩
    unfold oTerm; rw [e]
    exact ⟨rfl, h, fM.rf _⟩
  · have key : aK m_S_term 1 0 0 M [.ref 0, .int (nI n)] (fun M1 r => M1 = M ∧ r = some (.int (if mI M (nd n) 1 = 0 then mI M (nd n) 2 else mI M (nd n) 2 + 1000))) := by
      by_cases h3 : n < 3
      · exact k_term_V M n h.1 h3
      · exact k_term_T M n h.1 (by omega) hn
    refine key.weaken ?_
    rintro M1 r ⟨rfl, rfl⟩
    unfold oTerm; rw [e]
    refine ⟨?_, h, fM.rf _⟩
    rw [(h.2 n hn).2.1, (h.2 n hn).2.2.1]
    show _ = some (Value.int (if sLd S n = true then nI (sT S n) + 1000 else nI (sT S n)))
    cases q : sLd S n
    · simp [bI]
    · simp [bI]
