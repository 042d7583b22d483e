section InvT
variable {σ : Sg} {nW nV nE j : Nat}
/-- fields that the bounds don't speak of -/
theorem inv_irr {k i : Nat} {v : Int32} (h : Inv σ nW nV nE) (hk : k = 0 ∨ k = 8 ∨ k = 15 ∨ k = 19 ∨ k = 20 ∨ k = 21) : Inv (u2 σ k i v) nW nV nE := by
  have K : ∀ (k' : Nat), k' ≠ 0 → k' ≠ 8 → k' ≠ 15 → k' ≠ 19 → k' ≠ 20 → k' ≠ 21 → u2 σ k i v k' = σ k' := fun k' a b c d e f => u2_k σ v (by omega)
  unfold Inv WI at h ⊢
  rw [K 1 (by decide) (by decide) (by decide) (by decide) (by decide) (by decide), K 2 (by decide) (by decide) (by decide) (by decide) (by decide) (by decide), K 3 (by decide) (by decide) (by decide) (by decide) (by decide) (by decide), K 16 (by decide) (by decide) (by decide) (by decide) (by decide) (by decide)]
  simp only [K 4 (by decide) (by decide) (by decide) (by decide) (by decide) (by decide), K 5 (by decide) (by decide) (by decide) (by decide) (by decide) (by decide), K 6 (by decide) (by decide) (by decide) (by decide) (by decide) (by decide), K 7 (by decide) (by decide) (by decide) (by decide) (by decide) (by decide), K 9 (by decide) (by decide) (by decide) (by decide) (by decide) (by decide), K 10 (by decide) (by decide) (by decide) (by decide) (by decide) (by decide), K 11 (by decide) (by decide) (by decide) (by decide) (by decide) (by decide), K 12 (by decide) (by decide) (by decide) (by decide) (by decide) (by decide), K 13 (by decide) (by decide) (by decide) (by decide) (by decide) (by decide), K 14 (by decide) (by decide) (by decide) (by decide) (by decide) (by decide), K 17 (by decide) (by decide) (by decide) (by decide) (by decide) (by decide), K 18 (by decide) (by decide) (by decide) (by decide) (by decide) (by decide)]
  exact h
theorem inv_stpfin (h : Inv σ nW nV nE) (hj : j < nW) (h0 : σ 12 j = 0) (hq : stp σ nV j 4 j = 0) : Inv (fin (stp σ nV j) nE j 2) nW nV (nE + 1) := by
  have hk : σ 4 j = 0 := (stp_k j (by decide) (by decide) (by decide) (by decide) (by decide)).symm.trans hq
  have K : ∀ (k i : Nat), k ≠ 14 → k ≠ 15 → k ≠ 11 → k ≠ 10 → k ≠ 9 → stp σ nV j k i = σ k i := fun k i a b c d e => stp_k i a b c d e
  have F : ∀ (k i : Nat), k ≠ 14 → k ≠ 15 → k ≠ 11 → k ≠ 10 → k ≠ 9 → k ≠ 12 → k ≠ 17 → k ≠ 18 → k ≠ 19 → k ≠ 16 → fin (stp σ nV j) nE j 2 k i = σ k i := fun k i a b c d e a' b' c' d' e' => (fin_k i a' b' c' d' e').trans (stp_k i a b c d e)
  obtain ⟨i1, i2, i3, i4, i5, i6, i7, i8, i9, i10, i11, i12⟩ := h
  have hE : nE < nW := by
    have := cntF_lt (f := fun i => decide (0 < σ 12 i)) (j := j) (by simp [h0]) nW hj
    omega
  have hp : (0 : Int32) < 2 := by decide
  have E12 : ∀ i, fin (stp σ nV j) nE j 2 12 i = if i = j then 2 else σ 12 i := fun i => by rw [fin_12, K 12 i (by decide) (by decide) (by decide) (by decide) (by decide)]
  refine ⟨?_, ?_, ?_, i4, i5, by omega, ?_, ?_, ?_, ?_, ?_, ?_⟩
  · rw [F 3 0 (by decide) (by decide) (by decide) (by decide) (by decide) (by decide) (by decide) (by decide) (by decide) (by decide)]; exact i1
  · rw [F 1 0 (by decide) (by decide) (by decide) (by decide) (by decide) (by decide) (by decide) (by decide) (by decide) (by decide)]; exact i2
  · rw [fin_16, K 16 0 (by decide) (by decide) (by decide) (by decide) (by decide), i3, nI_1]
  · rw [cntF_add (f := fun i => decide (0 < σ 12 i)) (j := j) (by simp [h0]) (by simp [E12, hp]) (fun i hi => by simp [E12, hi]) hj, ← i7]
  · rw [F 2 0 (by decide) (by decide) (by decide) (by decide) (by decide) (by decide) (by decide) (by decide) (by decide) (by decide)]; exact i8
  · intro i hi
    have hw := i9 i hi
    have e4 := F 4 i (by decide) (by decide) (by decide) (by decide) (by decide) (by decide) (by decide) (by decide) (by decide) (by decide)
    have e5 := F 5 i (by decide) (by decide) (by decide) (by decide) (by decide) (by decide) (by decide) (by decide) (by decide) (by decide)
    have e6 := F 6 i (by decide) (by decide) (by decide) (by decide) (by decide) (by decide) (by decide) (by decide) (by decide) (by decide)
    have e7 := F 7 i (by decide) (by decide) (by decide) (by decide) (by decide) (by decide) (by decide) (by decide) (by decide) (by decide)
    have e13 := F 13 i (by decide) (by decide) (by decide) (by decide) (by decide) (by decide) (by decide) (by decide) (by decide) (by decide)
    by_cases e : i = j
    · subst e
      have e12 : fin (stp σ nV i) nE i 2 12 i = 2 := by rw [E12, if_pos rfl]
      have e9 : fin (stp σ nV i) nE i 2 9 i = σ 9 i + 1 := by rw [fin_k _ (by decide) (by decide) (by decide) (by decide) (by decide), stp_9, if_pos rfl]
      have e11 : fin (stp σ nV i) nE i 2 11 i = σ 11 i := by rw [fin_k _ (by decide) (by decide) (by decide) (by decide) (by decide), stp_11, if_neg (fun q => q.2.1 hk)]
      unfold WI at hw ⊢
      rw [e4, e5, e6, e7, e9, e11, e12, e13]
      obtain ⟨st, fa, a, dn, a5, a6, a7, a9, b1, b2, b3, b4, hc⟩ := hw
      rcases hc with ⟨c1, c2, c3, c4, c5, v, c6, c7⟩ | ⟨c1, c2, c3, c4, c5, c6⟩ | ⟨c1, c2, c3, c4, c5, c6⟩ | ⟨c1, c2, c3, v, c4, c5, c6⟩
      · exact ⟨st, fa, a, dn + 1, a5, a6, a7, by rw [a9, nI_1], b1, b2, Or.inr (Or.inl rfl), b4, Or.inl ⟨c1, c2, c3, by have := c5 h0; omega, fun q => absurd q (by decide), v, c6, c7⟩⟩
      · exact absurd (hk.symm.trans c1) (by decide)
      · exact absurd (hk.symm.trans c1) (by decide)
      · exact absurd (hk.symm.trans c1) (by decide)
    · exact hw.mono (Nat.le_refl _) e4 e5 e6 e7 (by rw [fin_k _ (by decide) (by decide) (by decide) (by decide) (by decide), stp_9, if_neg e]) (by rw [fin_k _ (by decide) (by decide) (by decide) (by decide) (by decide), stp_11, if_neg (fun q => e q.1)]) (by rw [E12, if_neg e]) e13
  · intro i hi
    have q := i10 i hi
    have hne : i ≠ j := by omega
    rw [fin_k _ (by decide) (by decide) (by decide) (by decide) (by decide), stp_9, if_neg hne, fin_k _ (by decide) (by decide) (by decide) (by decide) (by decide), stp_10 hne, E12, if_neg hne, F 13 i (by decide) (by decide) (by decide) (by decide) (by decide) (by decide) (by decide) (by decide) (by decide) (by decide)]
    exact q
  · intro i hi
    rw [fin_k _ (by decide) (by decide) (by decide) (by decide) (by decide), stp_14o (by omega)]
    exact i11 i hi
  · intro i hi
    rw [fin_17, fin_18, K 17 i (by decide) (by decide) (by decide) (by decide) (by decide), K 18 i (by decide) (by decide) (by decide) (by decide) (by decide)]
    by_cases e : i = nE
    · rw [if_pos e, if_pos e]
      exact ⟨j, hj, rfl, by rw [fin_12, if_pos rfl], by rw [fin_12, if_pos rfl]; exact hp⟩
    · rw [if_neg e, if_neg e]
      obtain ⟨w, w1, w2, w3, w4⟩ := i12 i (by omega)
      have hne : w ≠ j := by intro q; subst q; rw [h0] at w4; exact absurd w4 (by decide)
      exact ⟨w, w1, w2, by rw [E12, if_neg hne]; exact w3, by rw [E12, if_neg hne]; exact w4⟩
theorem wt_f (hwt : wt σ j = false) : ¬ 0 < σ 12 j ∧ (σ 13 j = 0 → σ 4 j = 3 → ¬ σ 11 j = σ 1 0 - 1) := by
  refine ⟨fun q => by simp [wt, q] at hwt, fun h13 h4 h11 => ?_⟩
  unfold wt at hwt
  rw [h4, h11, h13] at hwt
  simp at hwt
/-- what a turn leaves: its answer's cases, the bounds, how the counts grow -/
theorem inv_tn (h : Inv σ nW nV nE) (hj : j < nW) : ∃ nV' nE', Inv (tn σ nV nE j).2 nW nV' nE' ∧ nE ≤ nE' ∧ nE' ≤ nE + 1 ∧ nV ≤ nV' := by
  unfold tn
  cases hwt : wt σ j with
  | true => exact ⟨nV, nE, inv_irr h (by omega), by omega, by omega, by omega⟩
  | false =>
    have h1 := inv_irr (k := 20) (i := 0) (v := σ 20 0 + 1) h (by omega)
    obtain ⟨w1, w2⟩ := wt_f hwt
    have hw := h.wi hj
    have h0 : σ 12 j = 0 := by
      obtain ⟨st, fa, a, dn, a5, a6, a7, a9, b1, b2, b3, b4, hc⟩ := hw
      rcases b3 with q | q
      · exact q
      · exact absurd (pos_of q) w1
    rw [cond_false]
    have g0 : u2 σ 20 0 (σ 20 0 + 1) 12 j = 0 := h0
    unfold tnD
    split
    · exact ⟨nV, nE + 1, inv_fin h1 hj g0 (by simp) (fun _ q => absurd q (by decide)), by omega, by omega, by omega⟩
    · rename_i h13
      split
      · rename_i hd
        refine ⟨nV + 1, nE + 1, inv_cmtfin h1 hj g0 ?_ hd.1, by omega, by omega, by omega⟩
        obtain ⟨st, fa, a, dn, a5, a6, a7, a9, b1, b2, b3, b4, hc⟩ := h1.wi hj
        rcases hc with ⟨c1, c2, c3, c4, c5, v, c6, c7⟩ | ⟨c1, c2, c3, c4, c5, c6⟩ | ⟨c1, c2, c3, c4, c5, c6⟩ | ⟨c1, c2, c3, v, c4, c5, c6⟩
        · have := c5 g0
          have hds : dn = st := (nI_eq (by omega) (by omega)).mp (a9.symm.trans (hd.1.trans a5))
          omega
        · exact Or.inl c1
        · exact Or.inr c1
        · exact absurd c1 hd.2
      · rename_i hd
        split
        · refine ⟨nV, nE + 1, inv_fin h1 hj g0 (by simp) (fun _ q => absurd q (by decide)), by omega, by omega, by omega⟩
        · split
          · rename_i hq
            exact ⟨nV, nE + 1, inv_stpfin h1 hj g0 hq.1, by omega, by omega, by omega⟩
          · rename_i hq
            refine ⟨nV, nE, inv_stp h1 hj g0 hd hq (fun q => ?_), by omega, by omega, by omega⟩
            exact w2 (Decidable.byContradiction h13) q
theorem tnS_eq (h : Inv σ nW nV nE) : tnS σ j = tn σ nV nE j := by
  unfold tnS
  have := h.n30
  have := h.eW
  have := h.2.2.2.2.2.1
  rw [h.2.1, h.2.2.1, nat_nI (by omega), nat_nI (by omega)]
end InvT
theorem inv_row {σ : Sg} {nW nV nE most a : Nat} {b : Bool} (h : Inv σ nW nV nE) : ∀ w, w ≤ nW → ∃ nV' nE', Inv (rowF most w (a, b, σ)).2.2 nW nV' nE' ∧ nE ≤ nE'
  | 0, _ => ⟨nV, nE, h, Nat.le_refl _⟩
  | w + 1, hw => by
    obtain ⟨v1, e1, h1, l1⟩ := inv_row (most := most) (a := a) (b := b) h w (by omega)
    rw [rowF]
    split
    · obtain ⟨v2, e2, h2, l2, -, -⟩ := inv_tn h1 (show w < nW by omega)
      rw [← tnS_eq h1] at h2
      split
      · exact ⟨v2, e2, h2, by omega⟩
      · exact ⟨v2, e2, h2, by omega⟩
    · exact ⟨v1, e1, h1, l1⟩
theorem row_ge {most : Nat} (x : Nat × Bool × Sg) : ∀ w, x.1 ≤ (rowF most w x).1 ∧ ((rowF most w x).2.1 = true → x.2.1 = true ∨ x.1 + 1 ≤ (rowF most w x).1) ∧ (x.1 ≤ most → (rowF most w x).1 ≤ most)
  | 0 => ⟨Nat.le_refl _, fun h => Or.inl h, fun h => h⟩
  | w + 1 => by
    obtain ⟨h1, h2, h3⟩ := row_ge (most := most) x w
    rw [rowF]
    split
    · split
      · exact ⟨by show x.1 ≤ (rowF most w x).1 + 1; omega, fun _ => Or.inr (by show x.1 + 1 ≤ (rowF most w x).1 + 1; omega), fun _ => by show (rowF most w x).1 + 1 ≤ most; omega⟩
      · exact ⟨h1, h2, h3⟩
    · exact ⟨h1, h2, h3⟩
theorem row_stop {most : Nat} {x : Nat × Bool × Sg} {w : Nat} (h : ¬ (rowF most w x).1 < most) : ∀ d, rowF most (w + d) x = rowF most w x
  | 0 => rfl
  | d + 1 => by
    have ih := row_stop h d
    rw [← Nat.add_assoc, rowF, ih, if_neg h]
theorem row_end {most : Nat} {x : Nat × Bool × Sg} {w n : Nat} (hw : w ≤ n) (h : ¬ (rowF most w x).1 < most) : rowF most n x = rowF most w x := by
  have := row_stop h (n - w)
  rwa [show w + (n - w) = n by omega] at this
theorem inv_cls {σ : Sg} {nW nV nE : Nat} (h : Inv σ nW nV nE) : ∀ w, w ≤ nW → ∃ nE', Inv (clsF w σ).2 nW nV nE' ∧ nE' = nE + (clsF w σ).1 ∧ ∀ i, w ≤ i → (clsF w σ).2 12 i = σ 12 i
  | 0, _ => ⟨nE, h, rfl, fun _ _ => rfl⟩
  | w + 1, hw => by
    obtain ⟨e1, h1, l1, l2⟩ := inv_cls h w (by omega)
    rw [clsF]
    split
    · rename_i h0
      have h2 := inv_fin (how := 4) h1 (show w < nW by omega) h0 (by simp) (fun _ q => absurd q (by decide))
      have := h1.n30
      have := h1.eW
      rw [h1.2.2.1, nat_nI (by omega)]
      exact ⟨e1 + 1, h2, by show e1 + 1 = nE + ((clsF w σ).1 + 1); omega, fun i hi => by show fin (clsF w σ).2 e1 w 4 12 i = _; rw [fin_12, if_neg (by omega)]; exact l2 i (by omega)⟩
    · exact ⟨e1, h1, l1, fun i hi => l2 i (by omega)⟩
