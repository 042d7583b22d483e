/-! the bounds are kept by a turn -/
section Rd
variable {σ : Sg} {e j nv : Nat} {how : Int32}
theorem fin_k {k : Nat} (i : Nat) (h12 : k ≠ 12) (h17 : k ≠ 17) (h18 : k ≠ 18) (h19 : k ≠ 19) (h16 : k ≠ 16) : fin σ e j how k i = σ k i := by
  unfold fin
  rw [u2_ne _ _ (fun q => h16 q.1), u2_ne _ _ (fun q => h19 q.1), u2_ne _ _ (fun q => h18 q.1), u2_ne _ _ (fun q => h17 q.1), u2_ne _ _ (fun q => h12 q.1)]
theorem fin_12 (i : Nat) : fin σ e j how 12 i = if i = j then how else σ 12 i := by
  unfold fin
  rw [u2_ne _ _ (fun q => by omega), u2_ne _ _ (fun q => by omega), u2_ne _ _ (fun q => by omega), u2_ne _ _ (fun q => by omega), u2_if]
  simp
theorem fin_17 (i : Nat) : fin σ e j how 17 i = if i = e then nI j else σ 17 i := by
  unfold fin
  rw [u2_ne _ _ (fun q => by omega), u2_ne _ _ (fun q => by omega), u2_ne _ _ (fun q => by omega), u2_if, u2_ne _ _ (fun q => by omega)]
  simp
theorem fin_18 (i : Nat) : fin σ e j how 18 i = if i = e then how else σ 18 i := by
  unfold fin
  rw [u2_ne _ _ (fun q => by omega), u2_ne _ _ (fun q => by omega), u2_if, u2_ne _ _ (fun q => by omega), u2_ne _ _ (fun q => by omega)]
  simp
theorem fin_19 (i : Nat) : fin σ e j how 19 i = if i = e then σ 20 0 else σ 19 i := by
  unfold fin
  rw [u2_ne _ _ (fun q => by omega), u2_if, u2_ne _ _ (fun q => by omega), u2_ne _ _ (fun q => by omega), u2_ne _ _ (fun q => by omega)]
  simp
theorem fin_16 : fin σ e j how 16 0 = σ 16 0 + 1 := by unfold fin; rw [u2_same]
theorem cmt_k {k : Nat} (i : Nat) (h0 : k ≠ 0) (h1 : k ≠ 1) (h11 : k ≠ 11) : cmt σ nv j k i = σ k i := by
  unfold cmt
  rw [u2_ne _ _ (fun q => h1 q.1), u2_ne _ _ (fun q => h11 q.1), blk_k _ _ _ _ h0]
theorem cmt_11 (i : Nat) : cmt σ nv j 11 i = if i = j then σ 1 0 else σ 11 i := by
  unfold cmt
  rw [u2_ne _ _ (fun q => by omega), u2_if, blk_k _ _ _ _ (by decide)]
  simp
theorem cmt_1 : cmt σ nv j 1 0 = σ 1 0 + 1 := by unfold cmt; rw [u2_same]
theorem cmt_0 (i : Nat) : cmt σ nv j 0 i = blk σ nv j 16 0 i := by
  unfold cmt
  rw [u2_ne _ _ (fun q => by omega), u2_ne _ _ (fun q => by omega)]
theorem rd_11 (i : Nat) : rd σ nv j 11 i = if σ 9 j = 0 ∧ i = j then σ 1 0 - 1 else σ 11 i := by
  unfold rd rdT
  rw [spr_k _ _ _ (by decide), bfr_k _ _ _ (by decide)]
  by_cases h : σ 9 j = 0
  · rw [if_pos h, tk_k _ _ _ _ (by decide), u2_if]
    simp [h]
  · rw [if_neg h]
    simp [h]
theorem rd_14o {i : Nat} (h : i < 16 * j ∨ 16 * j + 16 ≤ i) : rd σ nv j 14 i = σ 14 i := by
  unfold rd rdT spr
  rw [if_neg (fun q => by omega), bfr_k _ _ _ (by decide)]
  split
  · unfold tk
    rw [if_neg (fun q => by omega), u2_ne _ _ (fun q => by omega)]
  · rfl
theorem stp_9 (i : Nat) : stp σ nv j 9 i = if i = j then σ 9 j + 1 else σ 9 i := by
  unfold stp
  rw [u2_if, stB_k _ (by decide) (by decide) (by decide) (by decide), stB_k _ (by decide) (by decide) (by decide) (by decide)]
  simp
theorem stp_10 {i : Nat} (h : i ≠ j) : stp σ nv j 10 i = σ 10 i := by
  unfold stp
  rw [u2_ne _ _ (fun q => by omega)]
  unfold stB
  split
  · rw [u2_ne _ _ (fun q => h q.2)]
  · split
    · rw [u2_ne _ _ (fun q => by omega)]
    · split
      · exact rd_k i (by decide) (by decide) (by decide)
      · rw [u2_ne _ _ (fun q => h q.2), u2_ne _ _ (fun q => by omega)]
theorem stp_11 (i : Nat) : stp σ nv j 11 i = if i = j ∧ ¬ σ 4 j = 0 ∧ ¬ σ 4 j = 1 then (if σ 4 j = 2 then (if σ 9 j = 0 then σ 1 0 - 1 else σ 11 j) else σ 11 j + 1) else σ 11 i := by
  unfold stp
  rw [u2_ne _ _ (fun q => by omega)]
  unfold stB
  by_cases h0 : σ 4 j = 0
  · rw [if_pos h0, u2_ne _ _ (fun q => by omega), if_neg (fun q => q.2.1 h0)]
  · rw [if_neg h0]
    by_cases h1 : σ 4 j = 1
    · rw [if_pos h1, u2_ne _ _ (fun q => by omega), if_neg (fun q => q.2.2 h1)]
    · rw [if_neg h1]
      by_cases h2 : σ 4 j = 2
      · rw [if_pos h2, rd_11]
        by_cases hi : i = j
        · subst hi
          simp [h0, h1, h2]
        · rw [if_neg (fun q => hi q.2), if_neg (fun q => hi q.1)]
      · rw [if_neg h2, u2_ne _ _ (fun q => by omega), u2_if]
        by_cases hi : i = j
        · subst hi
          simp [h0, h1, h2]
        · rw [if_neg (fun q => hi q.2), if_neg (fun q => hi q.1)]
theorem stp_14o {i : Nat} (h : i < 16 * j ∨ 16 * j + 16 ≤ i) : stp σ nv j 14 i = σ 14 i := by
  unfold stp
  rw [u2_ne _ _ (fun q => by omega)]
  have ha : aN σ j < 16 := Nat.mod_lt _ (by decide)
  unfold stB
  split
  · rw [u2_ne _ _ (fun q => by omega)]
  · split
    · rw [u2_ne _ _ (fun q => by omega)]
    · split
      · exact rd_14o h
      · rw [u2_ne _ _ (fun q => by omega), u2_ne _ _ (fun q => by omega)]
end Rd
theorem cntF_cong {f g : Nat → Bool} : ∀ {n : Nat}, (∀ i, i < n → g i = f i) → cntF g n = cntF f n
  | 0, _ => rfl
  | n + 1, h => by rw [cntF, cntF, cntF_cong (fun i hi => h i (by omega)), h n (by omega)]
theorem cntF_add {f g : Nat → Bool} {j : Nat} (hf : f j = false) (hg : g j = true) (h : ∀ i, i ≠ j → g i = f i) : ∀ {n : Nat}, j < n → cntF g n = cntF f n + 1
  | 0, q => absurd q (Nat.not_lt_zero j)
  | n + 1, q => by
    rw [cntF, cntF]
    by_cases e : j = n
    · subst e
      rw [hf, hg, cntF_cong (fun i hi => h i (by omega))]
      rfl
    · rw [cntF_add hf hg h (by omega), h n (by omega)]
      omega
theorem WI.mono {σ τ : Sg} {nV nV' i : Nat} (h : WI σ nV i) (hv : nV ≤ nV') (e4 : τ 4 i = σ 4 i) (e5 : τ 5 i = σ 5 i) (e6 : τ 6 i = σ 6 i) (e7 : τ 7 i = σ 7 i) (e9 : τ 9 i = σ 9 i) (e11 : τ 11 i = σ 11 i) (e12 : τ 12 i = σ 12 i) (e13 : τ 13 i = σ 13 i) : WI τ nV' i := by
  unfold WI at h ⊢
  rw [e4, e5, e6, e7, e9, e11, e12, e13]
  obtain ⟨st, fa, a, dn, a5, a6, a7, a9, b1, b2, b3, b4, hc⟩ := h
  refine ⟨st, fa, a, dn, a5, a6, a7, a9, b1, b2, b3, b4, ?_⟩
  rcases hc with ⟨c1, c2, c3, c4, c5, v, c6, c7⟩ | ⟨c1, c2, c3, c4, c5, c6⟩ | ⟨c1, c2, c3, c4, c5, c6⟩ | ⟨c1, c2, c3, v, c4, c5, c6⟩
  · exact Or.inl ⟨c1, c2, c3, c4, c5, v, by omega, c7⟩
  · exact Or.inr (Or.inl ⟨c1, c2, c3, c4, c5, fun q => by obtain ⟨v, d1, d2, d3⟩ := c6 q; exact ⟨v, d1, by omega, d3⟩⟩)
  · exact Or.inr (Or.inr (Or.inl ⟨c1, c2, c3, c4, c5, fun q => by obtain ⟨v, d1, d2⟩ := c6 q; exact ⟨v, by omega, d2⟩⟩))
  · exact Or.inr (Or.inr (Or.inr ⟨c1, c2, c3, v, by omega, c5, c6⟩))
theorem pos_of {x : Int32} (h : x = 2 ∨ x = 3 ∨ x = 4) : 0 < x := by rcases h with h | h | h <;> subst h <;> decide
theorem end_pos {x : Int32} (h : x = 0 ∨ x = 2 ∨ x = 3 ∨ x = 4) : 0 < x ↔ ¬ x = 0 := by rcases h with h | h | h | h <;> subst h <;> decide
section InvS
variable {σ : Sg} {nW nV nE j : Nat}
theorem Inv.W (h : Inv σ nW nV nE) : σ 3 0 = nI nW := h.1
theorem Inv.n30 (h : Inv σ nW nV nE) : nW ≤ 30 := h.2.2.2.1
theorem Inv.wi (h : Inv σ nW nV nE) {i : Nat} (hi : i < nW) : WI σ nV i := h.2.2.2.2.2.2.2.2.1 i hi
theorem inv_fin {how : Int32} (h : Inv σ nW nV nE) (hj : j < nW) (h0 : σ 12 j = 0) (hh : how = 2 ∨ how = 3 ∨ how = 4) (h1 : σ 4 j = 1 → how = 2 → False) : Inv (fin σ nE j how) nW nV (nE + 1) := by
  obtain ⟨i1, i2, i3, i4, i5, i6, i7, i8, i9, i10, i11, i12⟩ := h
  have hp := pos_of hh
  have hE : nE < nW := by
    have := cntF_lt (f := fun i => decide (0 < σ 12 i)) (j := j) (by simp [h0]) nW hj
    omega
  refine ⟨?_, ?_, ?_, i4, i5, by omega, ?_, ?_, ?_, ?_, ?_, ?_⟩
  · rw [fin_k _ (by decide) (by decide) (by decide) (by decide) (by decide)]; exact i1
  · rw [fin_k _ (by decide) (by decide) (by decide) (by decide) (by decide)]; exact i2
  · rw [fin_16, i3, nI_1]
  · rw [cntF_add (f := fun i => decide (0 < σ 12 i)) (j := j) (by simp [h0]) (by simp [fin_12, hp]) (fun i hi => by simp [fin_12, hi]) hj, ← i7]
  · rw [fin_k _ (by decide) (by decide) (by decide) (by decide) (by decide)]; exact i8
  · intro i hi
    have hw := i9 i hi
    by_cases e : i = j
    · subst e
      unfold WI at hw ⊢
      have e4 : fin σ nE i how 4 i = σ 4 i := fin_k _ (by decide) (by decide) (by decide) (by decide) (by decide)
      have e5 : fin σ nE i how 5 i = σ 5 i := fin_k _ (by decide) (by decide) (by decide) (by decide) (by decide)
      have e6 : fin σ nE i how 6 i = σ 6 i := fin_k _ (by decide) (by decide) (by decide) (by decide) (by decide)
      have e7 : fin σ nE i how 7 i = σ 7 i := fin_k _ (by decide) (by decide) (by decide) (by decide) (by decide)
      have e9 : fin σ nE i how 9 i = σ 9 i := fin_k _ (by decide) (by decide) (by decide) (by decide) (by decide)
      have e11 : fin σ nE i how 11 i = σ 11 i := fin_k _ (by decide) (by decide) (by decide) (by decide) (by decide)
      have e13 : fin σ nE i how 13 i = σ 13 i := fin_k _ (by decide) (by decide) (by decide) (by decide) (by decide)
      have e12 : fin σ nE i how 12 i = how := by rw [fin_12, if_pos rfl]
      rw [e4, e5, e6, e7, e9, e11, e12, e13]
      obtain ⟨st, fa, a, dn, a5, a6, a7, a9, b1, b2, b3, b4, hc⟩ := hw
      refine ⟨st, fa, a, dn, a5, a6, a7, a9, b1, b2, Or.inr hh, b4, ?_⟩
      rcases hc with ⟨c1, c2, c3, c4, c5, v, c6, c7⟩ | ⟨c1, c2, c3, c4, c5, c6⟩ | ⟨c1, c2, c3, c4, c5, c6⟩ | ⟨c1, c2, c3, v, c4, c5, c6⟩
      · exact Or.inl ⟨c1, c2, c3, c4, fun q => absurd q (by rcases hh with q2 | q2 | q2 <;> subst q2 <;> decide), v, c6, c7⟩
      · exact Or.inr (Or.inl ⟨c1, c2, c3, c4, fun _ => c5 (by rw [h0]; decide), fun q => (h1 c1 q).elim⟩)
      · exact Or.inr (Or.inr (Or.inl ⟨c1, c2, c3, c4, c5, c6⟩))
      · exact Or.inr (Or.inr (Or.inr ⟨c1, c2, c3, v, c4, c5, c6⟩))
    · refine hw.mono (Nat.le_refl _) ?_ ?_ ?_ ?_ ?_ ?_ ?_ ?_
      all_goals first | exact fin_k _ (by decide) (by decide) (by decide) (by decide) (by decide) | (rw [fin_12, if_neg e])
  · intro i hi
    have q := i10 i hi
    rw [fin_k _ (by decide) (by decide) (by decide) (by decide) (by decide), fin_k _ (by decide) (by decide) (by decide) (by decide) (by decide), fin_12, if_neg (by omega), fin_k _ (by decide) (by decide) (by decide) (by decide) (by decide)]
    exact q
  · intro i hi
    rw [fin_k _ (by decide) (by decide) (by decide) (by decide) (by decide)]
    exact i11 i hi
  · intro i hi
    rw [fin_17, fin_18]
    by_cases e : i = nE
    · rw [if_pos e, if_pos e]
      exact ⟨j, hj, rfl, by rw [fin_12, if_pos rfl], by rw [fin_12, if_pos rfl]; exact hp⟩
    · rw [if_neg e, if_neg e]
      obtain ⟨w, w1, w2, w3, w4⟩ := i12 i (by omega)
      have hne : w ≠ j := by intro q; subst q; rw [h0] at w4; exact absurd w4 (by decide)
      exact ⟨w, w1, w2, by rw [fin_12, if_neg hne]; exact w3, by rw [fin_12, if_neg hne]; exact w4⟩
theorem fc_k {k : Nat} {how : Int32} (i : Nat) (h12 : k ≠ 12) (h17 : k ≠ 17) (h18 : k ≠ 18) (h19 : k ≠ 19) (h16 : k ≠ 16) (h0 : k ≠ 0) (h1 : k ≠ 1) (h11 : k ≠ 11) : fin (cmt σ nV j) nE j how k i = σ k i := (fin_k i h12 h17 h18 h19 h16).trans (cmt_k i h0 h1 h11)
theorem fc_12 {how : Int32} (i : Nat) : fin (cmt σ nV j) nE j how 12 i = if i = j then how else σ 12 i := by rw [fin_12, cmt_k _ (by decide) (by decide) (by decide)]
theorem fc_11 {how : Int32} (i : Nat) : fin (cmt σ nV j) nE j how 11 i = if i = j then σ 1 0 else σ 11 i := by rw [fin_k _ (by decide) (by decide) (by decide) (by decide) (by decide), cmt_11]
theorem inv_cmtfin (h : Inv σ nW nV nE) (hj : j < nW) (h0 : σ 12 j = 0) (hk : σ 4 j = 1 ∨ σ 4 j = 2) (hd : σ 9 j = σ 5 j) : Inv (fin (cmt σ nV j) nE j 2) nW (nV + 1) (nE + 1) := by
  obtain ⟨i1, i2, i3, i4, i5, i6, i7, i8, i9, i10, i11, i12⟩ := h
  have hE : nE < nW := by
    have := cntF_lt (f := fun i => decide (0 < σ 12 i)) (j := j) (by simp [h0]) nW hj
    omega
  have hp : (0 : Int32) < 2 := by decide
  have K : ∀ (k i : Nat), k ≠ 12 → k ≠ 17 → k ≠ 18 → k ≠ 19 → k ≠ 16 → k ≠ 0 → k ≠ 1 → k ≠ 11 → fin (cmt σ nV j) nE j 2 k i = σ k i := fun k i a b c d e f g h => fc_k i a b c d e f g h
  refine ⟨?_, ?_, ?_, i4, by omega, by omega, ?_, ?_, ?_, ?_, ?_, ?_⟩
  · rw [K 3 0 (by decide) (by decide) (by decide) (by decide) (by decide) (by decide) (by decide) (by decide)]; exact i1
  · rw [fin_k _ (by decide) (by decide) (by decide) (by decide) (by decide), cmt_1, i2, nI_1]
  · rw [fin_16, cmt_k _ (by decide) (by decide) (by decide), i3, nI_1]
  · rw [cntF_add (f := fun i => decide (0 < σ 12 i)) (j := j) (by simp [h0]) (by simp [fc_12, hp]) (fun i hi => by simp [fc_12, hi]) hj, ← i7]
  · rw [K 2 0 (by decide) (by decide) (by decide) (by decide) (by decide) (by decide) (by decide) (by decide)]; exact i8
  · intro i hi
    have hw := i9 i hi
    have e4 := K 4 i (by decide) (by decide) (by decide) (by decide) (by decide) (by decide) (by decide) (by decide)
    have e5 := K 5 i (by decide) (by decide) (by decide) (by decide) (by decide) (by decide) (by decide) (by decide)
    have e6 := K 6 i (by decide) (by decide) (by decide) (by decide) (by decide) (by decide) (by decide) (by decide)
    have e7 := K 7 i (by decide) (by decide) (by decide) (by decide) (by decide) (by decide) (by decide) (by decide)
    have e9 := K 9 i (by decide) (by decide) (by decide) (by decide) (by decide) (by decide) (by decide) (by decide)
    have e13 := K 13 i (by decide) (by decide) (by decide) (by decide) (by decide) (by decide) (by decide) (by decide)
    by_cases e : i = j
    · subst e
      have e11 : fin (cmt σ nV i) nE i 2 11 i = nI nV := by rw [fc_11, if_pos rfl, i2]
      have e12 : fin (cmt σ nV i) nE i 2 12 i = 2 := by rw [fc_12, if_pos rfl]
      unfold WI at hw ⊢
      rw [e4, e5, e6, e7, e9, e11, e12, e13]
      obtain ⟨st, fa, a, dn, a5, a6, a7, a9, b1, b2, b3, b4, hc⟩ := hw
      refine ⟨st, fa, a, dn, a5, a6, a7, a9, b1, b2, Or.inr (Or.inl rfl), b4, ?_⟩
      rcases hc with ⟨c1, c2, c3, c4, c5, v, c6, c7⟩ | ⟨c1, c2, c3, c4, c5, c6⟩ | ⟨c1, c2, c3, c4, c5, c6⟩ | ⟨c1, c2, c3, v, c4, c5, c6⟩
      · exact absurd c1 (by rcases hk with q | q <;> rw [q] <;> decide)
      · exact Or.inr (Or.inl ⟨c1, c2, c3, c4, fun q => absurd rfl q, fun _ => ⟨nV, i5, by omega, rfl⟩⟩)
      · have hds : dn = st := (nI_eq (by omega) (by omega)).mp (a9.symm.trans (hd.trans a5))
        exact Or.inr (Or.inr (Or.inl ⟨c1, c2, c3, c4, fun q => by omega, fun _ => ⟨nV, by omega, rfl⟩⟩))
      · exact absurd c1 (by rcases hk with q | q <;> rw [q] <;> decide)
    · exact hw.mono (by omega) e4 e5 e6 e7 e9 (by rw [fc_11, if_neg e]) (by rw [fc_12, if_neg e]) e13
  · intro i hi
    have q := i10 i hi
    rw [K 9 i (by decide) (by decide) (by decide) (by decide) (by decide) (by decide) (by decide) (by decide), K 10 i (by decide) (by decide) (by decide) (by decide) (by decide) (by decide) (by decide) (by decide), fc_12, if_neg (by omega), K 13 i (by decide) (by decide) (by decide) (by decide) (by decide) (by decide) (by decide) (by decide)]
    exact q
  · intro i hi
    rw [K 14 i (by decide) (by decide) (by decide) (by decide) (by decide) (by decide) (by decide) (by decide)]
    exact i11 i hi
  · intro i hi
    rw [fin_17, fin_18]
    by_cases e : i = nE
    · rw [if_pos e, if_pos e]
      exact ⟨j, hj, rfl, by rw [fin_12, if_pos rfl], by rw [fin_12, if_pos rfl]; exact hp⟩
    · rw [if_neg e, if_neg e]
      obtain ⟨w, w1, w2, w3, w4⟩ := i12 i (by omega)
      have hne : w ≠ j := by intro q; subst q; rw [h0] at w4; exact absurd w4 (by decide)
      exact ⟨w, w1, by rw [cmt_k _ (by decide) (by decide) (by decide)]; exact w2, by rw [fc_12, if_neg hne, cmt_k _ (by decide) (by decide) (by decide)]; exact w3, by rw [fc_12, if_neg hne]; exact w4⟩
/-- a step of one that goes on -/
theorem inv_stp (h : Inv σ nW nV nE) (hj : j < nW) (h0 : σ 12 j = 0) (hn : ¬ (σ 9 j = σ 5 j ∧ ¬ σ 4 j = 3)) (hq : ¬ (stp σ nV j 4 j = 0 ∧ stp σ nV j 9 j = stp σ nV j 5 j)) (hs : σ 4 j = 3 → ¬ σ 11 j = σ 1 0 - 1) : Inv (stp σ nV j) nW nV nE := by
  obtain ⟨i1, i2, i3, i4, i5, i6, i7, i8, i9, i10, i11, i12⟩ := h
  have K : ∀ (k i : Nat), k ≠ 14 → k ≠ 15 → k ≠ 11 → k ≠ 10 → k ≠ 9 → stp σ nV j k i = σ k i := fun k i a b c d e => stp_k i a b c d e
  refine ⟨?_, ?_, ?_, i4, i5, i6, ?_, ?_, ?_, ?_, ?_, ?_⟩
  · rw [K 3 0 (by decide) (by decide) (by decide) (by decide) (by decide)]; exact i1
  · rw [K 1 0 (by decide) (by decide) (by decide) (by decide) (by decide)]; exact i2
  · rw [K 16 0 (by decide) (by decide) (by decide) (by decide) (by decide)]; exact i3
  · rw [i7]
    exact (cntF_cong (fun i _ => by rw [K 12 i (by decide) (by decide) (by decide) (by decide) (by decide)])).symm
  · rw [K 2 0 (by decide) (by decide) (by decide) (by decide) (by decide)]; exact i8
  · intro i hi
    have hw := i9 i hi
    have e4 := K 4 i (by decide) (by decide) (by decide) (by decide) (by decide)
    have e5 := K 5 i (by decide) (by decide) (by decide) (by decide) (by decide)
    have e6 := K 6 i (by decide) (by decide) (by decide) (by decide) (by decide)
    have e7 := K 7 i (by decide) (by decide) (by decide) (by decide) (by decide)
    have e12 := K 12 i (by decide) (by decide) (by decide) (by decide) (by decide)
    have e13 := K 13 i (by decide) (by decide) (by decide) (by decide) (by decide)
    by_cases e : i = j
    · subst e
      rw [e4, e5] at hq
      have e9 : stp σ nV i 9 i = σ 9 i + 1 := by rw [stp_9, if_pos rfl]
      rw [e9] at hq
      unfold WI at hw ⊢
      rw [e4, e5, e6, e7, e9, e12, e13, stp_11]
      obtain ⟨st, fa, a, dn, a5, a6, a7, a9, b1, b2, b3, b4, hc⟩ := hw
      rcases hc with ⟨c1, c2, c3, c4, c5, v, c6, c7⟩ | ⟨c1, c2, c3, c4, c5, c6⟩ | ⟨c1, c2, c3, c4, c5, c6⟩ | ⟨c1, c2, c3, v, c4, c5, c6⟩
      · refine ⟨st, fa, a, dn + 1, a5, a6, a7, by rw [a9, nI_1], b1, b2, b3, b4, Or.inl ⟨c1, c2, c3, ?_, ?_, v, c6, ?_⟩⟩
        · have := c5 h0; omega
        · intro _
          have := c5 h0
          rcases Nat.lt_or_ge (dn + 1) st with q | q
          · exact q
          · exact absurd ⟨c1, by rw [a9, a5, nI_1, show dn + 1 = st by omega]⟩ hq
        · rw [if_neg (fun q => q.2.1 c1)]; exact c7
      · have hlt : dn < st := by
          rcases Nat.lt_or_ge dn st with q | q
          · exact q
          · exact absurd ⟨by rw [a9, a5, show dn = st by omega], by rw [c1]; decide⟩ hn
        refine ⟨st, fa, a, dn + 1, a5, a6, a7, by rw [a9, nI_1], b1, b2, b3, b4, Or.inr (Or.inl ⟨c1, c2, c3, by omega, ?_, ?_⟩)⟩
        · rw [if_neg (fun q => q.2.2 c1)]; exact c5
        · rw [if_neg (fun q => q.2.2 c1)]; exact c6
      · have hlt : dn < st := by
          rcases Nat.lt_or_ge dn st with q | q
          · exact q
          · exact absurd ⟨by rw [a9, a5, show dn = st by omega], by rw [c1]; decide⟩ hn
        refine ⟨st, fa, a, dn + 1, a5, a6, a7, by rw [a9, nI_1], b1, b2, b3, b4, Or.inr (Or.inr (Or.inl ⟨c1, c2, c3, by omega, fun q => by omega, fun _ => ?_⟩))⟩
        rw [if_pos ⟨rfl, by rw [c1]; decide, by rw [c1]; decide⟩, if_pos c1]
        by_cases hd : dn = 0
        · rw [if_pos (by rw [a9, hd]; rfl), i2]
          exact ⟨nV - 1, by omega, pk_sub (b := 1) i5⟩
        · rw [if_neg (by rw [a9]; exact nI_ne0 (by omega) (by omega))]
          exact c6 hd
      · refine ⟨st, fa, a, dn + 1, a5, a6, a7, by rw [a9, nI_1], b1, b2, b3, b4, Or.inr (Or.inr (Or.inr ⟨c1, c2, c3, v + 1, ?_, by omega, ?_⟩))⟩
        · have hx := hs c1
          rw [c6, i2] at hx
          rcases Nat.lt_or_ge (v + 1) nV with q | q
          · exact q
          · exact absurd (by rw [show v = nV - 1 by omega]; exact (pk_sub (b := 1) i5).symm) hx
        · rw [if_pos ⟨rfl, by rw [c1]; decide, by rw [c1]; decide⟩, if_neg (by rw [c1]; decide), c6, nI_1]
    · exact hw.mono (Nat.le_refl _) e4 e5 e6 e7 (by rw [stp_9, if_neg e]) (by rw [stp_11, if_neg (fun q => e q.1)]) e12 e13
  · intro i hi
    have q := i10 i hi
    have hne : i ≠ j := by omega
    rw [stp_9, if_neg hne, stp_10 hne, K 12 i (by decide) (by decide) (by decide) (by decide) (by decide), K 13 i (by decide) (by decide) (by decide) (by decide) (by decide)]
    exact q
  · intro i hi
    rw [stp_14o (by omega)]
    exact i11 i hi
  · intro i hi
    rw [K 17 i (by decide) (by decide) (by decide) (by decide) (by decide), K 18 i (by decide) (by decide) (by decide) (by decide) (by decide)]
    obtain ⟨w, w1, w2, w3, w4⟩ := i12 i hi
    exact ⟨w, w1, w2, by rw [K 12 w (by decide) (by decide) (by decide) (by decide) (by decide)]; exact w3, by rw [K 12 w (by decide) (by decide) (by decide) (by decide) (by decide)]; exact w4⟩
end InvS
