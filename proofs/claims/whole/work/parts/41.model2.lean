theorem m_crash (M : aM) (S : aS) (x : Int32) (h : mRep M S) : aK m_M_crash 1 0 0 M [.ref 332, .int x] (mQ M (oCrash S x)) := by
  rcases dN_cases x (N := 12) (by decide) with ⟨e, hx⟩ | ⟨n, hn, rfl, e⟩
  · refine (q_crash_n M x h.1 hx).weaken ?_
    rintro M1 r ⟨rfl, rfl⟩
    unfold oCrash; rw [e]
    exact ⟨rfl, h, fY.rf _⟩
  · have hu0 := (h.2 n hn).1
    cases hu : sUp S n
    · rw [hu] at hu0
      refine (q_crash_0 M n h.1 hn (by rw [hu0]; decide)).weaken ?_
      rintro M1 r ⟨rfl, rfl⟩
      unfold oCrash; rw [e]; simp only [hu]
      exact ⟨rfl, h, fY.rf _⟩
    · rw [hu] at hu0
      refine (q_crash_1 M n h.1 hn (by rw [hu0]; rfl)).weaken ?_
      rintro M1 r ⟨rfl, rfl⟩
      unfold oCrash; rw [e]; simp only [hu, if_true]
      refine ⟨rfl, ⟨h.1, fun m hm => ?_⟩, ((fY.rf M).sI (by omega)).sI (by omega)⟩
      obtain ⟨a1, a2, a3, a4, a5, a6⟩ := h.2 m hm
      refine ⟨?_, ?_, a3, a4, a5, a6⟩
      · show mI _ _ _ = bI (!fu (sUp S) n false m)
        rw [mm_I_sI, if_neg (by omega), mm_I_sI]
        by_cases q : m = n
        · subst q; rw [if_pos ⟨rfl, rfl⟩, fu_s]; rfl
        · rw [if_neg (fun z => q z.2), fu_n _ _ q]; exact a1
      · show mI _ _ _ = bI (fu (sLd S) n false m)
        rw [mm_I_sI]
        by_cases q : m = n
        · subst q; rw [if_pos ⟨rfl, rfl⟩, fu_s]; rfl
        · rw [if_neg (fun z => q z.2), fu_n _ _ q, mm_I_sI, if_neg (by omega)]; exact a2
theorem m_recover (M : aM) (S : aS) (x : Int32) (h : mRep M S) : aK m_M_recover 1 0 0 M [.ref 332, .int x] (mQ M (oRecover S x)) := by
  rcases dN_cases x (N := 12) (by decide) with ⟨e, hx⟩ | ⟨n, hn, rfl, e⟩
  · refine (q_recover_n M x h.1 hx).weaken ?_
    rintro M1 r ⟨rfl, rfl⟩
    unfold oRecover; rw [e]
    exact ⟨rfl, h, fY.rf _⟩
  · have hu0 := (h.2 n hn).1
    cases hu : sUp S n
    · rw [hu] at hu0
      refine (q_recover_1 M n h.1 hn (by rw [hu0]; decide)).weaken ?_
      rintro M1 r ⟨rfl, rfl⟩
      unfold oRecover; rw [e]; simp only [hu]
      refine ⟨rfl, ⟨h.1, fun m hm => ?_⟩, (fY.rf M).sI (by omega)⟩
      obtain ⟨a1, a2, a3, a4, a5, a6⟩ := h.2 m hm
      refine ⟨?_, a2, a3, a4, a5, a6⟩
      show mI _ _ _ = bI (!fu (sUp S) n true m)
      rw [mm_I_sI]
      by_cases q : m = n
      · subst q; rw [if_pos ⟨rfl, rfl⟩, fu_s]; rfl
      · rw [if_neg (fun z => q z.2), fu_n _ _ q]; exact a1
    · rw [hu] at hu0
      refine (q_recover_0 M n h.1 hn (by rw [hu0]; rfl)).weaken ?_
      rintro M1 r ⟨rfl, rfl⟩
      unfold oRecover; rw [e]; simp only [hu, if_true]
      exact ⟨rfl, h, fY.rf _⟩
theorem m_length (M : aM) (S : aS) (x : Int32) (h : mRep M S) : aK m_M_length 1 0 0 M [.ref 332, .int x] (mQ M (oLength S x)) := by
  rcases dN_cases x (N := 12) (by decide) with ⟨e, hx⟩ | ⟨n, hn, rfl, e⟩
  · refine (q_length_n M x h.1 hx).weaken ?_
    rintro M1 r ⟨rfl, rfl⟩
    unfold oLength; rw [e]
    exact ⟨rfl, h, fY.rf _⟩
  · refine (q_length_1 M n h.1 hn).weaken ?_
    rintro M1 r ⟨rfl, rfl⟩
    unfold oLength; rw [e]
    exact ⟨by rw [(h.2 n hn).2.2.2.1], h, fY.rf _⟩
theorem m_known (M : aM) (S : aS) (x : Int32) (h : mRep M S) : aK m_M_known 1 0 0 M [.ref 332, .int x] (mQ M (oKnown S x)) := by
  rcases dN_cases x (N := 12) (by decide) with ⟨e, hx⟩ | ⟨n, hn, rfl, e⟩
  · refine (q_known_n M x h.1 hx).weaken ?_
    rintro M1 r ⟨rfl, rfl⟩
    unfold oKnown; rw [e]
    exact ⟨rfl, h, fY.rf _⟩
  · refine (q_known_1 M n h.1 hn).weaken ?_
    rintro M1 r ⟨rfl, rfl⟩
    unfold oKnown; rw [e]
    exact ⟨by rw [(h.2 n hn).2.2.2.2.1], h, fY.rf _⟩
theorem m_term (M : aM) (S : aS) (x : Int32) (h : mRep M S) : aK m_M_term 1 0 0 M [.ref 332, .int x] (mQ M (oTerm S x)) := by
  rcases dN_cases x (N := 12) (by decide) with ⟨e, hx⟩ | ⟨n, hn, rfl, e⟩
  · refine (q_term_n M x h.1 hx).weaken ?_
    rintro M1 r ⟨rfl, rfl⟩
    unfold oTerm; rw [e]
    exact ⟨rfl, h, fY.rf _⟩
  · refine (q_term_1 M n h.1 hn).weaken ?_
    rintro M1 r ⟨rfl, rfl⟩
    unfold oTerm; rw [e]
    refine ⟨?_, h, fY.rf _⟩
    rw [(h.2 n hn).2.1, (h.2 n hn).2.2.1]
    show _ = some (Value.int (if sLd S n = true then nI (sT S n) + 1000 else nI (sT S n)))
    cases q : sLd S n
    · simp [bI]
    · simp [bI]
