/-! what stays of the house when some of its cells change -/
def WKx (va da : Nat → Nat) (σ : Sg) (nV i ci : Nat) (ex : List Value) : Prop := (σ 4 i = 0 ∧ ci = 2 ∧ ∃ v, v < nV ∧ σ 11 i = nI v ∧ ex = [.int (σ 7 i), .ref (va v)]) ∨ (σ 4 i = 1 ∧ ci = 6 ∧ ex = [.int (σ 7 i), .int (σ 8 i), .ref (da i)]) ∨ (σ 4 i = 2 ∧ ci = 3 ∧ ex = [.ref (da i)]) ∨ (σ 4 i = 3 ∧ ci = 5 ∧ ex = [])
theorem WKx.vc {va da : Nat → Nat} {σ : Sg} {nV i ci : Nat} {ex : List Value} (h : WKx va da σ nV i ci ex) : VC ci ex (σ 4 i) := by
  rcases h with ⟨q, e, v, -, -, e2⟩ | ⟨q, e, e2⟩ | ⟨q, e, e2⟩ | ⟨q, e, e2⟩
  · exact Or.inl ⟨e, q, _, _, e2⟩
  · exact Or.inr (Or.inr (Or.inr ⟨e, q, _, _, _, e2⟩))
  · exact Or.inr (Or.inl ⟨e, q, _, e2⟩)
  · exact Or.inr (Or.inr (Or.inl ⟨e, q, e2⟩))
theorem WK.ob2 {D : va_G} {va da : Nat → Nat} {te pn : Nat → Int32} {σ : Sg} {nV i a : Nat} {H : Heap} (h : WK D va da te pn σ nV i a H) : ∃ ci ex, WKx va da σ nV i ci ex ∧ Ob D a ci (WFs (wx σ te pn i) ex) H := by
  rcases h with ⟨q, v, q1, q2, q3⟩ | ⟨q, q1⟩ | ⟨q, q1⟩ | ⟨q, q1⟩
  · exact ⟨2, _, Or.inl ⟨q, rfl, v, q1, q2, rfl⟩, q3⟩
  · exact ⟨6, _, Or.inr (Or.inl ⟨q, rfl, rfl⟩), q1⟩
  · exact ⟨3, _, Or.inr (Or.inr (Or.inl ⟨q, rfl, rfl⟩)), q1⟩
  · exact ⟨5, _, Or.inr (Or.inr (Or.inr ⟨q, rfl, rfl⟩)), q1⟩
theorem WKx.mk {D : va_G} {va da : Nat → Nat} {te pn : Nat → Int32} {σ : Sg} {nV i a ci : Nat} {ex : List Value} {H : Heap} (h : WKx va da σ nV i ci ex) (ho : Ob D a ci (WFs (wx σ te pn i) ex) H) : WK D va da te pn σ nV i a H := by
  rcases h with ⟨q, e, v, h1, h2, e2⟩ | ⟨q, e, e2⟩ | ⟨q, e, e2⟩ | ⟨q, e, e2⟩
  · subst e e2; exact Or.inl ⟨q, v, h1, h2, ho⟩
  · subst e e2; exact Or.inr (Or.inl ⟨q, ho⟩)
  · subst e e2; exact Or.inr (Or.inr (Or.inl ⟨q, ho⟩))
  · subst e e2; exact Or.inr (Or.inr (Or.inr ⟨q, ho⟩))
theorem WKx.cg {va va' da da' : Nat → Nat} {σ τ : Sg} {nV nV' i ci : Nat} {ex : List Value} (h : WKx va da σ nV i ci ex) (e4 : τ 4 i = σ 4 i) (e7 : τ 7 i = σ 7 i) (e8 : τ 8 i = σ 8 i) (e11 : σ 4 i = 0 → τ 11 i = σ 11 i) (hv : nV ≤ nV') (ev : ∀ v, v < nV → va' v = va v) (ed : da' i = da i) : WKx va' da' τ nV' i ci ex := by
  rcases h with ⟨q, e, v, h1, h2, e2⟩ | ⟨q, e, e2⟩ | ⟨q, e, e2⟩ | ⟨q, e, e2⟩
  · exact Or.inl ⟨e4.trans q, e, v, by omega, (e11 q).trans h2, by rw [e7, ev v h1]; exact e2⟩
  · exact Or.inr (Or.inl ⟨e4.trans q, e, by rw [e7, e8, ed]; exact e2⟩)
  · exact Or.inr (Or.inr (Or.inl ⟨e4.trans q, e, by rw [ed]; exact e2⟩))
  · exact Or.inr (Or.inr (Or.inr ⟨e4.trans q, e, e2⟩))
theorem WFs_cg {x y : Nat → Int32} {ex : List Value} (h : ∀ k, k < 11 → x k = y k) : WFs x ex = WFs y ex := by
  unfold WFs
  rw [h 0 (by omega), h 1 (by omega), h 2 (by omega), h 3 (by omega), h 4 (by omega), h 5 (by omega), h 6 (by omega), h 7 (by omega), h 8 (by omega), h 9 (by omega), h 10 (by omega)]
/-- a worker whose numbers are the same stays what it was -/
theorem WK.cg {D : va_G} {va va' da da' : Nat → Nat} {te te' pn pn' : Nat → Int32} {σ τ : Sg} {nV nV' i a : Nat} {H : Heap} (h : WK D va da te pn σ nV i a H) (e : ∀ k, k ≠ 0 → k ≠ 1 → k ≠ 2 → k ≠ 3 → k ≠ 14 → k ≠ 15 → k ≠ 16 → k ≠ 17 → k ≠ 18 → k ≠ 19 → k ≠ 20 → k ≠ 21 → τ k i = σ k i) (et : te' i = te i) (ep : pn' i = pn i) (hv : nV ≤ nV') (ev : ∀ v, v < nV → va' v = va v) (ed : da' i = da i) : WK D va' da' te' pn' τ nV' i a H := by
  obtain ⟨ci, ex, h1, h2⟩ := h.ob2
  have D12 : ∀ k, 4 ≤ k → k ≤ 13 → τ k i = σ k i := fun k a b => e k (by omega) (by omega) (by omega) (by omega) (by omega) (by omega) (by omega) (by omega) (by omega) (by omega) (by omega) (by omega)
  refine (h1.cg (D12 4 (by omega) (by omega)) (D12 7 (by omega) (by omega)) (D12 8 (by omega) (by omega)) (fun _ => D12 11 (by omega) (by omega)) hv ev ed).mk ?_
  rw [WFs_cg (y := wx σ te pn i) (fun k hk => ?_)]
  · exact h2
  · match k, hk with
    | 0, _ => rfl
    | 1, _ => exact D12 4 (by omega) (by omega)
    | 2, _ => exact D12 5 (by omega) (by omega)
    | 3, _ => exact D12 6 (by omega) (by omega)
    | 4, _ => exact D12 9 (by omega) (by omega)
    | 5, _ => exact D12 10 (by omega) (by omega)
    | 6, _ => show hvr τ i = hvr σ i; unfold hvr; rw [D12 4 (by omega) (by omega), D12 12 (by omega) (by omega), D12 11 (by omega) (by omega)]
    | 7, _ => exact ep
    | 8, _ => exact D12 13 (by omega) (by omega)
    | 9, _ => exact D12 12 (by omega) (by omega)
    | 10, _ => exact et
    | k + 11, h => exact absurd h (by omega)
theorem WK.kept {D : va_G} {va da : Nat → Nat} {te pn : Nat → Int32} {σ : Sg} {nV i a : Nat} {H H1 : Heap} (h : WK D va da te pn σ nV i a H) (hq : H1[a]? = H[a]?) : WK D va da te pn σ nV i a H1 := by
  obtain ⟨ci, ex, h1, h2⟩ := h.ob2
  exact h1.mk (va_at.kept h2 hq)
theorem WK.lt {D : va_G} {va da : Nat → Nat} {te pn : Nat → Int32} {σ : Sg} {nV i a : Nat} {H : Heap} (h : WK D va da te pn σ nV i a H) : a < H.size := by
  obtain ⟨ci, ex, h1, h2⟩ := h.ob2
  exact va_at.lt h2
theorem CLs.kept {D : va_G} {cI : ClassId} {ra : Nat → Nat} {c : Nat} {f : Nat → Int32} {H H1 : Heap} (h : CLs D cI ra c f H) (h1 : H1[c]? = H[c]?) (h2 : H1[ra c]? = H[ra c]?) : CLs D cI ra c f H1 := ⟨va_at.kept h.1 h1, va_at.kept h.2 h2⟩
/-- the tags of a version's cells -/
theorem va_tag {h0 hs hc hw he ec ew ee : Nat} {va wa da ra rl : Nat → Nat} {σ : Sg} {nW nV nE : Nat} (RT : Tg h0 hs hc hw he ec ew ee va wa da ra rl σ nW nV nE) (R9 : ∀ v, 1 ≤ v → v < nV → ∃ i, i < nW ∧ va v = da i ∧ (σ 4 i = 1 ∨ σ 4 i = 2) ∧ σ 12 i = 2) {v : Nat} (hv : v < nV) : (v = 0 ∧ rl (va v) = 8 ∧ rl (ra (va v)) = 9) ∨ ∃ i, i < nW ∧ (σ 4 i = 1 ∨ σ 4 i = 2) ∧ σ 12 i = 2 ∧ va v = da i ∧ rl (va v) = 17 + 4 * i ∧ rl (ra (va v)) = 18 + 4 * i := by
  obtain ⟨t0, t1, t2, t3, t4, t5, t6, t7, t8, t9, tw, td⟩ := RT
  rcases Nat.eq_zero_or_pos v with q | q
  · subst q
    exact Or.inl ⟨rfl, t8, t9⟩
  · obtain ⟨i, i1, i2, i3, i4⟩ := R9 v q hv
    obtain ⟨d1, d2⟩ := td i i1 i3
    exact Or.inr ⟨i, i1, i3, i4, i2, by rw [i2]; exact d1, by rw [i2]; exact d2⟩
theorem HR_keep {D : va_G} {cI cO : ClassId} {eA h0 : Nat} {wa : Nat → Nat} {σ : Sg} {nW nV nE : Nat} {H H1 : Heap} {hs hc hw he ec ew ee pc pw pe : Nat} {gc gw ge : Nat → Option Nat} {va da ra : Nat → Nat} {te pn : Nat → Int32} {rl : Nat → Nat} {f0 f1 : List Value} (ch : Nat → Prop)
  (R1 : Ob D h0 7 f0 H) (R2 : Ob D hs 4 f1 H) (R3 : AL D cO eA hc ec (nV - 1) pc gc H) (R4 : AL D cO eA hw ew nW pw gw H) (R5 : AL D cO eA he ee nE pe ge H) (R6 : ∀ v, v < nV → CLs D cI ra (va v) (fun c => σ 0 (16 * v + c)) H) (R7 : ∀ i, i < nW → WK D va da te pn σ nV i (wa i) H) (R9 : ∀ v, 1 ≤ v → v < nV → ∃ i, i < nW ∧ va v = da i ∧ (σ 4 i = 1 ∨ σ 4 i = 2) ∧ σ 12 i = 2) (RT : Tg h0 hs hc hw he ec ew ee va wa da ra rl σ nW nV nE)
  (hnc : ∀ p, ¬ ch (rl p) → p < H.size → H1[p]? = H[p]?) :
  (¬ ch 0 → Ob D h0 7 f0 H1) ∧ (¬ ch 1 → Ob D hs 4 f1 H1) ∧ (¬ ch 2 → ¬ ch 5 → AL D cO eA hc ec (nV - 1) pc gc H1) ∧ (¬ ch 3 → ¬ ch 6 → AL D cO eA hw ew nW pw gw H1) ∧ (¬ ch 4 → ¬ ch 7 → AL D cO eA he ee nE pe ge H1) ∧ (¬ ch 8 → ¬ ch 9 → (∀ i, i < nW → σ 12 i = 2 → ¬ ch (17 + 4 * i) ∧ ¬ ch (18 + 4 * i)) → ∀ v, v < nV → CLs D cI ra (va v) (fun c => σ 0 (16 * v + c)) H1) ∧ (∀ i, i < nW → ¬ ch (16 + 4 * i) → WK D va da te pn σ nV i (wa i) H1) ∧ ∀ i, i < nW → (σ 4 i = 1 ∨ σ 4 i = 2) → ¬ ch (17 + 4 * i) → ¬ ch (18 + 4 * i) → ∀ f, CLs D cI ra (da i) f H → CLs D cI ra (da i) f H1 := by
  obtain ⟨t0, t1, t2, t3, t4, t5, t6, t7, t8, t9, tw, td⟩ := id RT
  refine ⟨fun h => va_at.kept R1 (hnc _ (by rw [t0]; exact h) (va_at.lt R1)), fun h => va_at.kept R2 (hnc _ (by rw [t1]; exact h) (va_at.lt R2)), fun h h' => R3.kept (hnc _ (by rw [t2]; exact h) R3.lt) (fun q => hnc _ (by rw [t5 (by omega)]; exact h') (R3.lte q)), fun h h' => R4.kept (hnc _ (by rw [t3]; exact h) R4.lt) (fun q => hnc _ (by rw [t6 q]; exact h') (R4.lte q)), fun h h' => R5.kept (hnc _ (by rw [t4]; exact h) R5.lt) (fun q => hnc _ (by rw [t7 q]; exact h') (R5.lte q)), fun h h' hi v hv => ?_, fun i hi h => (R7 i hi).kept (hnc _ (by rw [tw i hi]; exact h) (R7 i hi).lt), fun i hi hk h h' f hf => ?_⟩
  · have hc6 := R6 v hv
    rcases va_tag RT R9 hv with ⟨-, q1, q2⟩ | ⟨i, i1, i2, i3, -, q1, q2⟩
    · exact hc6.kept (hnc _ (by rw [q1]; exact h) (va_at.lt hc6.1)) (hnc _ (by rw [q2]; exact h') (va_at.lt hc6.2))
    · exact hc6.kept (hnc _ (by rw [q1]; exact (hi i i1 i3).1) (va_at.lt hc6.1)) (hnc _ (by rw [q2]; exact (hi i i1 i3).2) (va_at.lt hc6.2))
  · obtain ⟨d1, d2⟩ := td i hi hk
    exact hf.kept (hnc _ (by rw [d1]; exact h) (va_at.lt hf.1)) (hnc _ (by rw [d2]; exact h') (va_at.lt hf.2))
