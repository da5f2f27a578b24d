/-! every call keeps the invariant -/
theorem sInv.raise {S S' : aS} {t t' : Nat} (h : sInv S t) (e1 : sLn S' = sLn S) (e2 : sKn S' = sKn S) (e3 : sLg S' = sLg S) (hT : ∀ n, n < 12 → sT S n ≤ sT S' n ∧ sT S' n ≤ 3 * t') (hl : ∀ n, n < 12 → sLd S' n = true → sLd S n = true ∧ sT S' n = sT S n) : sInv S' t' := by
  refine ⟨fun n hn => ?_, fun g hg => ?_⟩
  · obtain ⟨p1, p2, p3, p4⟩ := h.1 n hn
    rw [e1, e2, e3]
    exact ⟨p1, p2, (hT n hn).2, p4⟩
  · obtain ⟨P, pt, hp⟩ := h.2 g hg
    refine ⟨P, pt, ?_⟩
    have q := rInv.raise (T' := fun i => sT S' (3 * g + i)) (ld' := fun i => sLd S' (3 * g + i) = true) hp (fun i hi => (hT _ (by omega)).1) (fun i hi => hl _ (by omega))
    refine q.congr (fun i _ => rfl) (fun i _ => Iff.rfl) (fun i _ => by rw [e1]) (fun i k _ _ => ?_) (fun i _ => by rw [e2])
    show sLg S' (3 * g + i) k 0 = sLg S (3 * g + i) k 0
    rw [e3]
theorem sInv_wr {S : aS} {t n : Nat} {E : Nat → Nat} (h : sInv S t) (hn : n < 12) (hl : sLd S n = true) (hE : eV E) (e0 : E 0 = sT S n) : sInv (oWr S n E).1 t := by
  by_cases e80 : sLn S n = 80
  · have ow : oWr S n E = (S, -3) := if_pos e80
    rw [ow]; exact h
  · have ow : oWr S n E = ((sUp S, sLd S, sT S, fu (sLn S) n (sLn S n + 1), sKn S, fu (sLg S) n (fu (sLg S n) (sLn S n) E)), nI (sLn S n + 1)) := if_neg e80
    rw [ow]
    have en : 3 * (n / 3) + n % 3 = n := by omega
    refine h.upd (g := n / 3) (Nat.le_refl _) (fun m hm e => ⟨rfl, rfl, fu_n _ _ (by omega), rfl, fu_n _ _ (by omega)⟩) (fun m hm _ => ?_) ?_
    · obtain ⟨p1, p2, p3, p4⟩ := h.1 m hm
      refine ⟨?_, ?_, p3, fun k hk => ?_⟩
      · show fu (sLn S) n (sLn S n + 1) m ≤ 80
        by_cases z : m = n
        · rw [z, fu_s]; rw [z] at p1; omega
        · rw [fu_n _ _ z]; exact p1
      · show sKn S m ≤ fu (sLn S) n (sLn S n + 1) m
        by_cases z : m = n
        · rw [z, fu_s]; rw [z] at p2; omega
        · rw [fu_n _ _ z]; exact p2
      · have hk' : k < fu (sLn S) n (sLn S n + 1) m := hk
        show eV (fu (sLg S) n (fu (sLg S n) (sLn S n) E) m k)
        by_cases z : m = n
        · subst z
          rw [fu_s] at hk' ⊢
          by_cases y : k = sLn S m
          · rw [y, fu_s]; exact hE
          · rw [fu_n _ _ y]; exact p4 k (by omega)
        · rw [fu_n _ _ z] at hk' ⊢; exact p4 k hk'
    · obtain ⟨P, pt, hp⟩ := h.2 (n / 3) (by omega)
      refine ⟨P, pt, hp.write (c := n % 3) (by omega) (by show sLd S (3 * (n / 3) + n % 3) = true; rw [en]; exact hl) (fun i hi => ?_) (fun i k hi hk => ?_)⟩
      · show fu (sLn S) n (sLn S n + 1) (3 * (n / 3) + i) = _
        by_cases z : i = n % 3
        · rw [if_pos z, z, en, fu_s]
        · rw [if_neg z, fu_n _ _ (by omega)]
      · show fu (sLg S) n (fu (sLg S n) (sLn S n) E) (3 * (n / 3) + i) k 0 = _
        by_cases z : i = n % 3
        · subst z
          rw [en, fu_s]
          by_cases y : k = sLn S n
          · rw [y, fu_s, if_pos ⟨rfl, rfl⟩]; exact e0
          · rw [fu_n _ _ y, if_neg (fun q => y q.2)]
            show _ = sLg S n k 0
            rfl
        · rw [fu_n _ _ (by omega), if_neg (fun q => z q.1)]
          rfl
theorem sInv_oCrash {S : aS} {t : Nat} (x : Int32) (h : sInv S t) : sInv (oCrash S x).1 (t + 1) := by
  unfold oCrash
  cases dN x 12 with
  | none => exact h.up (by omega)
  | some n =>
    simp only []
    split
    · refine h.raise rfl rfl rfl (fun m hm => ⟨Nat.le_refl _, ?_⟩) (fun m hm q => ?_)
      · have := (h.1 m hm).2.2.1
        show sT S m ≤ _
        omega
      · have q' : fu (sLd S) n false m = true := q
        by_cases z : m = n
        · rw [z, fu_s] at q'; cases q'
        · rw [fu_n _ _ z] at q'; exact ⟨q', rfl⟩
    · exact h.up (by omega)
theorem sInv_oRecover {S : aS} {t : Nat} (x : Int32) (h : sInv S t) : sInv (oRecover S x).1 (t + 1) := by
  unfold oRecover
  cases dN x 12 with
  | none => exact h.up (by omega)
  | some n =>
    simp only []
    split
    · exact h.up (by omega)
    · exact h.up (t' := t + 1) (by omega)
theorem gC_r2 {S : aS} {n e : Nat} (h : ¬ gC S n e 3 < 2) : r2 (fun i => gr S n e (3 * (n / 3) + i)) := by
  have g3 : gC S n e 3 = (((0 + if gr S n e (3 * (n / 3) + 0) then 1 else 0) + if gr S n e (3 * (n / 3) + 1) then 1 else 0) + if gr S n e (3 * (n / 3) + 2) then 1 else 0) := rfl
  rw [g3] at h
  by_cases a : gr S n e (3 * (n / 3) + 0)
  · by_cases b : gr S n e (3 * (n / 3) + 1)
    · exact ⟨0, 1, by omega, by omega, by omega, a, b⟩
    · by_cases c : gr S n e (3 * (n / 3) + 2)
      · exact ⟨0, 2, by omega, by omega, by omega, a, c⟩
      · rw [if_pos a, if_neg b, if_neg c] at h; omega
  · by_cases b : gr S n e (3 * (n / 3) + 1)
    · by_cases c : gr S n e (3 * (n / 3) + 2)
      · exact ⟨1, 2, by omega, by omega, by omega, b, c⟩
      · rw [if_neg a, if_pos b, if_neg c] at h; omega
    · rw [if_neg a, if_neg b] at h
      split at h <;> omega
theorem elT_mod (n t : Nat) : elT n t % 3 = n % 3 := by unfold elT; omega
theorem elT_b (n t : Nat) : t < elT n t ∧ elT n t ≤ t + 3 := by unfold elT; omega
theorem sInv_gS {S : aS} {t n e : Nat} (h : sInv S t) (he : e ≤ 3 * (t + 1)) : sInv (gS S n e 3) (t + 1) := by
  refine h.raise rfl rfl rfl (fun m hm => ?_) (fun m hm q => ?_)
  · have := (h.1 m hm).2.2.1
    show sT S m ≤ (if m / 3 = n / 3 ∧ m % 3 < 3 ∧ gr S n e m then e else sT S m) ∧ (if m / 3 = n / 3 ∧ m % 3 < 3 ∧ gr S n e m then e else sT S m) ≤ 3 * (t + 1)
    split
    · rename_i q; exact ⟨Nat.le_of_lt q.2.2.2.1, he⟩
    · exact ⟨Nat.le_refl _, by omega⟩
  · have q' : (if m / 3 = n / 3 ∧ m % 3 < 3 ∧ gr S n e m then false else sLd S m) = true := q
    show sLd S m = true ∧ (if m / 3 = n / 3 ∧ m % 3 < 3 ∧ gr S n e m then e else sT S m) = sT S m
    split at q'
    · cases q'
    · rename_i z; rw [if_neg z]; exact ⟨q', rfl⟩
theorem sInv_eS {S : aS} {t n e : Nat} (h : sInv S t) (hn : n < 12) (hu : sUp S n = true) (he : e ≤ 3 * (t + 1)) (h1 : sT S n < e) (hm : e % 3 = n % 3) (hc : ¬ gC S n e 3 < 2) : sInv (eS S n e) (t + 1) ∧ sT (eS S n e) n = e := by
  have hg := sInv_gS (n := n) h he
  have en : 3 * (n / 3) + n % 3 = n := by omega
  have gn : gr S n e n := ⟨hu, h1, by omega⟩
  have Te : ∀ i, i < 3 → gr S n e (3 * (n / 3) + i) → sT (gS S n e 3) (3 * (n / 3) + i) = e := fun i hi q => if_pos ⟨by omega, by omega, q⟩
  have Tn : sT (gS S n e 3) n = e := if_pos ⟨rfl, by omega, gn⟩
  refine ⟨hg.upd (g := n / 3) (Nat.le_refl _) (fun m hm9 z => ⟨rfl, fu_n _ _ (by omega), rfl, rfl, rfl⟩) (fun m hm9 _ => hg.1 m hm9) ?_, Tn⟩
  obtain ⟨P, pt, hp⟩ := hg.2 (n / 3) (by omega)
  obtain ⟨P0, pt0, hp0⟩ := h.2 (n / 3) (by omega)
  refine ⟨P, pt, hp.elect (c := n % 3) (by omega) ?_ (fun j k hj hk => ?_) ?_ (fun i hi q => ?_)⟩
  · show sT (gS S n e 3) (3 * (n / 3) + n % 3) % 3 = n % 3
    rw [en, Tn]; exact hm
  · show sTm S (3 * (n / 3) + j) k ≠ sT (gS S n e 3) (3 * (n / 3) + n % 3)
    rw [en, Tn]
    intro q
    have hk' : k < sLn S (3 * (n / 3) + j) := hk
    have c0 : sTm S (3 * (n / 3) + j) k ≤ sT S (3 * (n / 3) + n % 3) := hp0.2.2.2.2.2.1 (n % 3) j k (by omega) hj hk' (by show sTm S (3 * (n / 3) + j) k % 3 = n % 3; rw [q]; exact hm)
    rw [en] at c0
    omega
  · refine (gC_r2 hc).mono (fun a ha q => ?_)
    refine ⟨?_, ?_⟩
    · show sT (gS S n e 3) (3 * (n / 3) + n % 3) ≤ sT (gS S n e 3) (3 * (n / 3) + a)
      rw [en, Tn, Te a ha q]
      exact Nat.le_refl _
    · have z := q.2.2
      show ¬ (lT (sLn S (3 * (n / 3) + n % 3)) (sTm S (3 * (n / 3) + n % 3)) < lT (sLn S (3 * (n / 3) + a)) (sTm S (3 * (n / 3) + a)) ∨ (lT (sLn S (3 * (n / 3) + n % 3)) (sTm S (3 * (n / 3) + n % 3)) = lT (sLn S (3 * (n / 3) + a)) (sTm S (3 * (n / 3) + a)) ∧ sLn S (3 * (n / 3) + n % 3) < sLn S (3 * (n / 3) + a)))
      rw [en]; exact z
  · have q' : fu (sLd (gS S n e 3)) n true (3 * (n / 3) + i) = true := q
    by_cases z : i = n % 3
    · exact Or.inr z
    · rw [fu_n _ _ (by omega)] at q'; exact Or.inl q'
theorem sInv_oElect {S : aS} {t : Nat} (x : Int32) (h : sInv S t) (ht : t < 300000) : sInv (oElect S x).1 (t + 1) := by
  unfold oElect
  rcases dN_cases x (N := 12) (by decide) with ⟨e, hx⟩ | ⟨n, hn, rfl, e⟩
  · rw [e]; exact h.up (by omega)
  · rw [e]
    simp only []
    have Tn := (h.1 n hn).2.2.1
    obtain ⟨b1, b2⟩ := elT_b n (sT S n)
    by_cases hu : sUp S n = true
    · rw [if_pos hu]
      by_cases hc : gC S n (elT n (sT S n)) 3 < 2
      · rw [if_pos hc]
        exact sInv_gS h (by omega)
      · rw [if_neg hc]
        obtain ⟨i1, i2⟩ := sInv_eS h hn hu (by omega) b1 (elT_mod n _) hc
        refine sInv_wr i1 hn (fu_s _ _ _) ?_ i2.symm
        refine ⟨show elT n (sT S n) < 1000000 by omega, Nat.zero_le _, fun q => ?_, fun q => ?_, fun q => ?_, fun q => ?_, fun q => ?_, fun q => ?_⟩
        · have q' : (0 : Nat) = 1 ∨ (0 : Nat) = 2 := q
          omega
        · have q' : (0 : Nat) = 3 := q
          omega
        · have q' : (0 : Nat) = 4 := q
          omega
        · have q' : (0 : Nat) = 5 := q
          omega
        · have q' : (0 : Nat) = 6 := q
          omega
        · have q' : (0 : Nat) = 7 := q
          omega
    · rw [if_neg hu]; exact h.up (by omega)
theorem sInv_shS {S : aS} {t a b : Nat} (hi : sInv S t) (ha : a < 12) (hb : b < 12) (hab : a ≠ b) (hg : a / 3 = b / 3) (hl : sLd S a = true) (hT : sT S b ≤ sT S a) : sInv (shS S a b) t := by
  have i1 := sInv_shR hi ha hb hT
  have hl1 : sLd (shR S a b) a = true := (fu_n (sLd S) _ hab).trans hl
  have tAe : sT (shR S a b) a = sT S a := fu_n (sT S) _ hab
  have hT1 : sT (shR S a b) b = sT (shR S a b) a := (fu_s (sT S) b (sT S a)).trans tAe.symm
  have hk : rCS (sLn (shR S a b) a) (sLn (shR S a b) b) (sTm (shR S a b) a) (sTm (shR S a b) b) (csF (sLn S a) (sLn S b) (sTm S a) (sTm S b) 80) := csF_rCS (hi.1 a ha).1
  have i2 := sInv_shC i1 ha hb hab hg hl1 hT1 hk
  have hpre := shC_pre hab hk
  obtain ⟨o1, o2, o3, o4⟩ := shC_o (shR S a b) a b (csF (sLn S a) (sLn S b) (sTm S a) (sTm S b) 80)
  have i3 := sInv_shK i2 ha hb hab hg (by rw [o2]; exact hl1) (by rw [o3]; exact hT1)
  exact sInv_shL i3 ha hb hab hg hpre
theorem sInv_oShip {S : aS} {t : Nat} (x y : Int32) (h : sInv S t) : sInv (oShip S x y).1 (t + 1) := by
  unfold oShip
  rcases dN_cases x (N := 12) (by decide) with ⟨e, hx⟩ | ⟨a, ha, rfl, e⟩
  · rw [e]; exact h.up (by omega)
  · rcases dN_cases y (N := 12) (by decide) with ⟨e2, hy⟩ | ⟨b, hb, rfl, e2⟩
    · rw [e, e2]; exact h.up (by omega)
    · rw [e, e2]
      simp only []
      by_cases c1 : (a ≠ b ∧ a / 3 = b / 3) ∧ sUp S a = true ∧ sUp S b = true
      · rw [if_pos c1]
        by_cases hl : sLd S a = true
        · rw [if_pos hl]
          by_cases hT : sT S a < sT S b
          · rw [if_pos hT]
            refine h.raise rfl rfl rfl (fun m hm => ⟨Nat.le_refl _, ?_⟩) (fun m hm q => ?_)
            · have := (h.1 m hm).2.2.1
              show sT S m ≤ _
              omega
            · have q' : fu (sLd S) a false m = true := q
              by_cases z : m = a
              · rw [z, fu_s] at q'; cases q'
              · rw [fu_n _ _ z] at q'; exact ⟨q', rfl⟩
          · rw [if_neg hT]
            exact (sInv_shS h ha hb c1.1.1 c1.1.2 hl (by omega)).up (by omega)
        · rw [if_neg hl]; exact h.up (by omega)
      · rw [if_neg c1]; exact h.up (by omega)
theorem iNq_lt {x : Int32} {N : Nat} (hN : N < 2 ^ 31) (h0 : 0 ≤ x) (h : x < nI N) : iN x < N := by
  rw [← iN_nI h0] at h
  exact i_lt (by have := Int32.toNatClampNeg_lt x; exact this) hN h
theorem iNq_ge {x : Int32} {N : Nat} (h0 : 0 ≤ x) (hN : N < 2 ^ 31) (h : nI N ≤ x) : N ≤ iN x := by
  rw [← iN_nI h0] at h
  exact i_le hN (by have := Int32.toNatClampNeg_lt x; exact this) h
theorem sInv_oChange {S : aS} {t : Nat} (x k a b : Int32) (h : sInv S t) (ht : t < 300000) : sInv (oChange S x k a b).1 (t + 1) := by
  unfold oChange
  rcases dN_cases x (N := 3) (by decide) with ⟨e, hx⟩ | ⟨n, hn, rfl, e⟩
  · rw [e]; exact h.up (by omega)
  · rw [e]
    simp only []
    by_cases c1 : sUp S n = true ∧ chOk k a b
    · rw [if_pos c1]
      by_cases hl : sLd S n = true
      · rw [if_pos hl]
        have T := (h.1 n (by omega)).2.2.1
        refine (sInv_wr h (by omega) hl ?_ rfl).up (by omega)
        have hk : (iN k = 2 ∧ iN a < 8 ∧ 1 ≤ iN b ∧ iN b < 4) ∨ (iN k < 2 ∧ 1 ≤ iN a ∧ iN a < 4) := by
          rcases c1.2 with ⟨rfl, ⟨a1, a2⟩, b1, b2⟩ | ⟨q, a1, a2⟩
          · exact Or.inl ⟨rfl, iNq_lt (N := 8) (by decide) a1 a2, iNq_ge (N := 1) (Int32.le_trans (by decide) b1) (by decide) b1, iNq_lt (N := 4) (by decide) (Int32.le_trans (by decide) b1) b2⟩
          · refine Or.inr ⟨?_, iNq_ge (N := 1) (Int32.le_trans (by decide) a1) (by decide) a1, iNq_lt (N := 4) (by decide) (Int32.le_trans (by decide) a1) a2⟩
            rcases q with rfl | rfl <;> decide
        generalize iN k = k' at *
        generalize iN a = a' at *
        generalize iN b = b' at *
        refine ⟨show sT S n < 1000000 by omega, show 1 + k' ≤ 7 by omega, fun q => ?_, fun q => ?_, fun q => ?_, fun q => ?_, fun q => ?_, fun q => ?_⟩
        · have q' : 1 + k' = 1 ∨ 1 + k' = 2 := q
          show 1 ≤ a' ∧ a' ≤ 3
          omega
        · have q' : 1 + k' = 3 := q
          show a' < 8 ∧ 1 ≤ (if k' = 2 then b' else 0) ∧ (if k' = 2 then b' else 0) ≤ 3
          rw [if_pos (by omega)]
          omega
        · have q' : 1 + k' = 4 := q
          omega
        · have q' : 1 + k' = 5 := q
          omega
        · have q' : 1 + k' = 6 := q
          omega
        · have q' : 1 + k' = 7 := q
          omega
      · rw [if_neg hl]; exact h.up (by omega)
    · rw [if_neg c1]; exact h.up (by omega)
theorem sInv_oRequest {S : aS} {t : Nat} (x c n k y v : Int32) (h : sInv S t) (ht : t < 300000) : sInv (oRequest S x c n k y v).1 (t + 1) := by
  unfold oRequest
  rcases dG_cases x with ⟨e, hx⟩ | ⟨m, h3, hm, rfl, e⟩
  · rw [e]; exact h.up (by omega)
  · rw [e]
    simp only []
    by_cases c1 : sUp S m = true ∧ rqOk c n k y v
    · rw [if_pos c1]
      by_cases hl : sLd S m = true
      · rw [if_pos hl]
        have T := (h.1 m hm).2.2.1
        refine (sInv_wr h hm hl ?_ rfl).up (by omega)
        obtain ⟨-, ⟨c0, c3⟩, ⟨y0, y16⟩, n1, n9, k0, k2, v0, v9⟩ := c1
        have n0 : 0 ≤ n := Int32.le_trans (by decide) n1
        have f1 := iNq_lt (N := 3) (by decide) c0 c3
        have f2 := iNq_lt (N := 16) (by decide) y0 y16
        have f3 := iNq_ge (N := 1) n0 (by decide) n1
        have f4 := iNq_lt (N := 1000) (by decide) n0 (Int32.lt_of_le_of_lt n9 (by decide))
        have f5 := iNq_lt (N := 3) (by decide) k0 (Int32.lt_of_le_of_lt k2 (by decide))
        have f6 := iNq_lt (N := 1000) (by decide) v0 v9
        refine ⟨show sT S m < 1000000 by omega, show 5 ≤ 7 by omega, fun q => ?_, fun q => ?_, fun q => ?_, fun q => ?_, fun q => ?_, fun q => ?_⟩
        · have q' : (5 : Nat) = 1 ∨ (5 : Nat) = 2 := q
          omega
        · have q' : (5 : Nat) = 3 := q
          omega
        · have q' : (5 : Nat) = 4 := q
          omega
        · show iN c < 3 ∧ 1 ≤ iN n ∧ iN n ≤ 999 ∧ iN k < 3 ∧ iN y < 16 ∧ iN v < 1000
          omega
        · have q' : (5 : Nat) = 6 := q
          omega
        · have q' : (5 : Nat) = 7 := q
          omega
      · rw [if_neg hl]; exact h.up (by omega)
    · rw [if_neg c1]; exact h.up (by omega)
theorem eV_Cf {T c : Nat} {own : Nat → Nat} (hT : T < 1000000) (hc : c < 16) (ho : ∀ s, s < 8 → own s ≤ 3) : eV (eCf T c own) := by
  refine ⟨hT, show 4 ≤ 7 by omega, fun q => ?_, fun q => ?_, fun q => ?_, fun q => ?_, fun q => ?_, fun q => ?_⟩
  · have q' : (4 : Nat) = 1 ∨ (4 : Nat) = 2 := q
    omega
  · have q' : (4 : Nat) = 3 := q
    omega
  · refine ⟨hc, fun s hs => ?_⟩
    rw [eCf_o _ _ _ hs]; exact ho s hs
  · have q' : (4 : Nat) = 5 := q
    omega
  · have q' : (4 : Nat) = 6 := q
    omega
  · have q' : (4 : Nat) = 7 := q
    omega
theorem eV_In {T s c : Nat} {v : Nat → Nat} (hT : T < 1000000) (hs : s < 8) (hc : c < 16) (hv : ∀ i, i < 8 → v i < 1000) : eV (eIn T s c v) := by
  refine ⟨hT, show 6 ≤ 7 by omega, fun q => ?_, fun q => ?_, fun q => ?_, fun q => ?_, fun q => ?_, fun q => ?_⟩
  · have q' : (6 : Nat) = 1 ∨ (6 : Nat) = 2 := q
    omega
  · have q' : (6 : Nat) = 3 := q
    omega
  · have q' : (6 : Nat) = 4 := q
    omega
  · have q' : (6 : Nat) = 5 := q
    omega
  · refine ⟨hs, hc, fun i hi => ?_⟩
    rw [eIn_o _ _ _ _ hi]; exact hv i hi
  · have q' : (6 : Nat) = 7 := q
    omega
theorem eV_Dl {T s c : Nat} (hT : T < 1000000) (hs : s < 8) (hc : c < 16) : eV (eDl T s c) := by
  refine ⟨hT, show 7 ≤ 7 by omega, fun q => ?_, fun q => ?_, fun q => ?_, fun q => ?_, fun q => ?_, fun q => ⟨hs, hc⟩⟩
  · have q' : (7 : Nat) = 1 ∨ (7 : Nat) = 2 := q
    omega
  · have q' : (7 : Nat) = 3 := q
    omega
  · have q' : (7 : Nat) = 4 := q
    omega
  · have q' : (7 : Nat) = 5 := q
    omega
  · have q' : (7 : Nat) = 6 := q
    omega
theorem sInv_oPoll {S : aS} {t : Nat} (x y : Int32) (h : sInv S t) (ht : t < 300000) : sInv (oPoll S x y).1 (t + 1) := by
  unfold oPoll
  rcases dG_cases x with ⟨e, hx⟩ | ⟨n, h3, hn, rfl, e⟩
  · rw [e]; exact h.up (by omega)
  · rcases dN_cases y (N := 3) (by decide) with ⟨e2, hy⟩ | ⟨m, hm, rfl, e2⟩
    · rw [e, e2]; exact h.up (by omega)
    · rw [e, e2]
      simp only []
      by_cases c1 : sUp S n = true ∧ sUp S m = true
      · rw [if_pos c1]
        by_cases hl : sLd S n = true
        · rw [if_pos hl]
          by_cases c2 : gSet (sGp S n) ∧ (sGp S n).1 + 1 < (sSv S m).1
          · rw [if_pos c2]
            have T := (h.1 n hn).2.2.1
            obtain ⟨v1, v2, v3⟩ := h.sv (n := m) (by omega)
            refine (sInv_wr h hn hl (eV_Cf (show sT S n < 1000000 by omega) (by omega) (fun s hs => ?_)) rfl).up (by omega)
            have := (v3 _ c2.2).lt hs
            omega
          · rw [if_neg c2]; exact h.up (by omega)
        · rw [if_neg hl]; exact h.up (by omega)
      · rw [if_neg c1]; exact h.up (by omega)
theorem sInv_oPull {S : aS} {t : Nat} (x z y : Int32) (h : sInv S t) (ht : t < 300000) : sInv (oPull S x z y).1 (t + 1) := by
  unfold oPull
  rcases dG_cases x with ⟨e, hx⟩ | ⟨n, h3, hn, rfl, e⟩
  · rw [e]; exact h.up (by omega)
  · rcases dG_cases y with ⟨e2, hy⟩ | ⟨m, m3, hm, rfl, e2⟩
    · rw [e, e2]; exact h.up (by omega)
    · rcases dN_cases z (N := 8) (by decide) with ⟨e3, hz⟩ | ⟨s, hs, rfl, e3⟩
      · rw [e, e2, e3]; exact h.up (by omega)
      · rw [e, e2, e3]
        simp only []
        by_cases c1 : sUp S n = true ∧ sUp S m = true
        · rw [if_pos c1]
          by_cases hl : sLd S n = true
          · rw [if_pos hl]
            by_cases c2 : plOk S n s m
            · rw [if_pos c2]
              have T := (h.1 n hn).2.2.1
              have gn := h.gp h3 hn
              have gm := h.gp m3 hm
              exact (sInv_wr h hn hl (eV_In (show sT S n < 1000000 by omega) hs gn.1 (gm.2 s hs).2.2.2) rfl).up (by omega)
            · rw [if_neg c2]; exact h.up (by omega)
          · rw [if_neg hl]; exact h.up (by omega)
        · rw [if_neg c1]; exact h.up (by omega)
theorem sInv_oConfirm {S : aS} {t : Nat} (x z y : Int32) (h : sInv S t) (ht : t < 300000) : sInv (oConfirm S x z y).1 (t + 1) := by
  unfold oConfirm
  rcases dG_cases x with ⟨e, hx⟩ | ⟨n, h3, hn, rfl, e⟩
  · rw [e]; exact h.up (by omega)
  · rcases dG_cases y with ⟨e2, hy⟩ | ⟨m, m3, hm, rfl, e2⟩
    · rw [e, e2]; exact h.up (by omega)
    · rcases dN_cases z (N := 8) (by decide) with ⟨e3, hz⟩ | ⟨s, hs, rfl, e3⟩
      · rw [e, e2, e3]; exact h.up (by omega)
      · rw [e, e2, e3]
        simp only []
        by_cases c1 : sUp S n = true ∧ sUp S m = true
        · rw [if_pos c1]
          by_cases hl : sLd S n = true
          · rw [if_pos hl]
            by_cases c2 : cnOk S n s m
            · rw [if_pos c2]
              have T := (h.1 n hn).2.2.1
              have gn := h.gp h3 hn
              exact (sInv_wr h hn hl (eV_Dl (show sT S n < 1000000 by omega) hs gn.1) rfl).up (by omega)
            · rw [if_neg c2]; exact h.up (by omega)
          · rw [if_neg hl]; exact h.up (by omega)
        · rw [if_neg c1]; exact h.up (by omega)
/-- the questions change nothing -/
theorem oLength_1 (S : aS) (x : Int32) : (oLength S x).1 = S := by unfold oLength; cases dN x 12 <;> rfl
theorem oKnown_1 (S : aS) (x : Int32) : (oKnown S x).1 = S := by unfold oKnown; cases dN x 12 <;> rfl
theorem oTerm_1 (S : aS) (x : Int32) : (oTerm S x).1 = S := by unfold oTerm; cases dN x 12 <;> rfl
theorem oConfiguration_1 (S : aS) (x : Int32) : (oConfiguration S x).1 = S := by unfold oConfiguration; cases dN x 12 <;> rfl
theorem oOwner_1 (S : aS) (x c z : Int32) : (oOwner S x c z).1 = S := by
  unfold oOwner
  cases dN x 3 with
  | none => rfl
  | some n =>
    cases dN z 8 with
    | none => rfl
    | some s => simp only []; cases dN c (sSv S n).1 <;> rfl
theorem oCondition_1 (S : aS) (x z : Int32) : (oCondition S x z).1 = S := by
  unfold oCondition
  cases dG x with
  | none => rfl
  | some n => cases dN z 8 <;> rfl
theorem oValue_1 (S : aS) (x z : Int32) : (oValue S x z).1 = S := by
  unfold oValue
  cases dG x with
  | none => rfl
  | some n =>
    cases dN z 16 with
    | none => rfl
    | some k => simp only []; split <;> rfl
theorem oHeld_1 (d : Nat) (S : aS) (x c z : Int32) : (oHeld d S x c z).1 = S := by
  unfold oHeld
  cases dG x with
  | none => rfl
  | some n =>
    cases dN z 16 with
    | none => rfl
    | some k =>
      cases dN c 3 with
      | none => rfl
      | some j => simp only []; split <;> rfl
/-- the start -/
def S0 : aS := (fun _ => true, fun _ => false, fun _ => 0, fun _ => 0, fun _ => 0, fun _ _ _ => 0)
theorem sInv_0 : sInv S0 0 := by
  refine ⟨fun n _ => ⟨Nat.zero_le _, Nat.le_refl _, Nat.le_refl _, fun k hk => absurd hk (Nat.not_lt_zero k)⟩, fun g _ => ⟨0, fun _ => 0, ?_⟩⟩
  refine rInv.start.congr (fun i _ => rfl) (fun i _ => ⟨fun q => ?_, fun q => q.elim⟩) (fun i _ => rfl) (fun i k _ _ => rfl) (fun i _ => rfl)
  have q' : false = true := q
  cases q'
