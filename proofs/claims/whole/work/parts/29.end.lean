/-- .. worker j's end stands in the state already, not yet in its object, nor in the list of ends -/
def HRE (D : va_G) (cI cO : ClassId) (eA : Nat) (B : Nat → Prop) (h0 : Nat) (wa : Nat → Nat) (j : Nat) (σ : Sg) (nW nV nE : Nat) (H : Heap) : Prop := ∃ (hs hc hw he ec ew ee pc pw pe : Nat) (gc gw ge : Nat → Option Nat) (va da ra : Nat → Nat) (te pn : Nat → Int32) (rl : Nat → Nat),
  Ob D h0 7 [.ref hs, .ref hw, .ref he, .int (σ 2 0), .int (σ 20 0), .int (σ 21 0)] H ∧
  Ob D hs 4 [.ref (va 0), .ref hc, .ref (va (nV - 1))] H ∧
  (AL D cO eA hc ec (nV - 1) pc gc H ∧ ∀ i, i < nV - 1 → gc i = some (va (i + 1))) ∧
  (AL D cO eA hw ew nW pw gw H ∧ ∀ i, i < nW → gw i = some (wa i)) ∧
  (AL D cO eA he ee nE pe ge H ∧ ∀ i, i < nE → ge i = some (wa (nat (σ 17 i)))) ∧
  (∀ v, v < nV → CLs D cI ra (va v) (fun c => σ 0 (16 * v + c)) H) ∧
  (∀ i, i < nW → i ≠ j → WK D va da te pn σ nV i (wa i) H) ∧
  (∃ ci ex, WKx va da σ nV j ci ex ∧ Ob D (wa j) ci (WFs (upd (wx σ te pn j) 9 0) ex) H) ∧
  (∀ i, i < nW → (σ 4 i = 1 ∨ σ 4 i = 2) → ∃ f, CLs D cI ra (da i) f H ∧ (¬ σ 12 i = 2 → ∀ c, c < 16 → f c = σ 14 (16 * i + c))) ∧
  (∀ v, 1 ≤ v → v < nV → ∃ i, i < nW ∧ va v = da i ∧ (σ 4 i = 1 ∨ σ 4 i = 2) ∧ σ 12 i = 2) ∧
  Tg h0 hs hc hw he ec ew ee va wa da ra rl σ nW nV nE ∧ (∀ q, rl q < 1000 → B q) ∧ (∀ q, H.size ≤ q → B q) ∧ (∀ q, H.size ≤ q → rl q = 1000) ∧
  (∀ i, i < nE → σ 19 i = te (nat (σ 17 i)) ∧ nat (σ 17 i) ≠ j ∧ nat (σ 17 i) < nW) ∧
  ∀ i, i < nW → σ 12 i = 0 → pn i = pin σ i
theorem HR_E {D : va_G} {cI cO : ClassId} {eA h0 : Nat} {B : Nat → Prop} {wa : Nat → Nat} {σ : Sg} {nW nV nE j : Nat} {how : Int32} {H : Heap} (h : HR D cI cO eA B h0 wa σ nW nV nE H) (hj : j < nW) (h12 : σ 12 j = 0) (hh : how = 2 ∨ how = 3 ∨ how = 4) (hk : how = 2 → σ 4 j = 0) (hn : ∀ i, i < nE → nat (σ 17 i) ≠ j ∧ nat (σ 17 i) < nW) : HRE D cI cO eA B h0 wa j (u2 σ 12 j how) nW nV nE H := by
  obtain ⟨hs, hc, hw, he, ec, ew, ee, pc, pw, pe, gc, gw, ge, va, da, ra, te, pn, rl, R1, R2, R3, R4, R5, R6, R7, R8, R9, RT, RB, RN, RL, R12, R13⟩ := h
  have hh0 : ¬ how = 0 := by rcases hh with q | q | q <;> rw [q] <;> decide
  have e12 : ∀ i, i ≠ j → u2 σ 12 j how 12 i = σ 12 i := fun i hi => u2_ne σ how (fun q => hi q.2)
  refine ⟨hs, hc, hw, he, ec, ew, ee, pc, pw, pe, gc, gw, ge, va, da, ra, te, pn, rl, R1, R2, R3, R4, R5, R6, ?_, ?_, ?_, ?_, RT, RB, RN, RL, ?_, ?_⟩
  · intro i hi hne
    exact (R7 i hi).cg (fun k a1 a2 a3 a4 a5 a6 a7 a8 a9 a10 a11 a12 => u2_ne σ how (fun q => hne q.2)) rfl rfl (Nat.le_refl _) (fun _ _ => rfl) rfl
  · obtain ⟨ci, ex, h1, h2⟩ := (R7 j hj).ob2
    refine ⟨ci, ex, h1.cg rfl rfl rfl (fun _ => rfl) (Nat.le_refl _) (fun _ _ => rfl) rfl, ?_⟩
    rw [WFs_cg (y := wx σ te pn j) (fun k hk' => ?_)]
    · exact h2
    · match k, hk' with
      | 0, _ => rfl
      | 1, _ => rfl
      | 2, _ => rfl
      | 3, _ => rfl
      | 4, _ => rfl
      | 5, _ => rfl
      | 6, _ =>
        show hvr (u2 σ 12 j how) j = hvr σ j
        unfold hvr
        rw [u2_same]
        show (if σ 4 j = 2 ∧ ¬ how = 2 then (-1) else σ 11 j) = _
        by_cases q : σ 4 j = 2
        · have q2 : ¬ how = 2 := fun q3 => absurd (q.symm.trans (hk q3)) (by decide)
          rw [if_pos ⟨q, q2⟩, if_pos ⟨q, by rw [h12]; decide⟩]
        · rw [if_neg (fun z => q z.1), if_neg (fun z => q z.1)]
      | 7, _ => rfl
      | 8, _ => rfl
      | 9, _ => exact h12.symm
      | 10, _ => rfl
      | k + 11, h => exact absurd h (by omega)
  · intro i hi hk4
    obtain ⟨f, f1, f2⟩ := R8 i hi hk4
    refine ⟨f, f1, fun q => f2 ?_⟩
    by_cases e : i = j
    · rw [e, h12]; decide
    · rw [e12 i e] at q; exact q
  · intro v v1 v2
    obtain ⟨i, i1, i2, i3, i4⟩ := R9 v v1 v2
    have hne : i ≠ j := by intro q; rw [q, h12] at i4; exact absurd i4 (by decide)
    exact ⟨i, i1, i2, i3, by rw [e12 i hne]; exact i4⟩
  · intro i hi
    exact ⟨R12 i hi, hn i hi⟩
  · intro i hi q
    by_cases e : i = j
    · rw [e, u2_same] at q; exact absurd q hh0
    · rw [e12 i e] at q
      rw [R13 i hi q]
      unfold pin
      rw [e12 i e]
      rfl
theorem tag_up {rl : Nat → Nat} {q t p : Nat} (h : p ≠ q) : va_up rl q t p = rl p := by unfold va_up; rw [if_neg h]
theorem tag_at {rl : Nat → Nat} {q t : Nat} : va_up rl q t q = t := by unfold va_up; rw [if_pos rfl]
theorem tag_ne {rl : Nat → Nat} {p q t u : Nat} (hp : rl p = t) (hq : rl q = u) (h : t ≠ u) : p ≠ q := fun e => h (by rw [← hp, ← hq, e])
