/-! the state that both sides are tied to: sg k i is place i of the reference's k-th field (a number's place is 0) -/
abbrev Sg : Type := Nat → Nat → Int32
def u2 (σ : Sg) (k i : Nat) (v : Int32) : Sg := fun k' i' => bif (Nat.beq k' k && Nat.beq i' i) then v else σ k' i'
theorem u2_same (σ : Sg) (k i : Nat) (v : Int32) : u2 σ k i v k i = v := by simp [u2]
theorem u2_ne (σ : Sg) {k i k' i' : Nat} (v : Int32) (h : ¬ (k' = k ∧ i' = i)) : u2 σ k i v k' i' = σ k' i' := by
  unfold u2
  cases h1 : (Nat.beq k' k && Nat.beq i' i) with
  | false => rfl
  | true =>
    rw [Bool.and_eq_true] at h1
    exact absurd ⟨Nat.eq_of_beq_eq_true h1.1, Nat.eq_of_beq_eq_true h1.2⟩ h
theorem u2_k (σ : Sg) {k i k' : Nat} (v : Int32) (h : k' ≠ k) : u2 σ k i v k' = σ k' := funext fun _ => u2_ne σ v (fun q => h q.1)
theorem u2_upd (σ : Sg) (k i : Nat) (v : Int32) : upd (σ k) i v = u2 σ k i v k := by
  funext j
  by_cases h : j = i
  · subst h
    rw [u2_same]
    simp [upd]
  · rw [u2_ne σ v (fun q => h q.2)]
    simp [upd, h]
theorem u2_if (σ : Sg) (k i k' i' : Nat) (v : Int32) : u2 σ k i v k' i' = if k' = k ∧ i' = i then v else σ k' i' := by
  by_cases h : k' = k ∧ i' = i
  · rw [if_pos h, h.1, h.2, u2_same]
  · rw [if_neg h, u2_ne σ v h]
def mlen : Nat → Nat
  | 0 => 640
  | 14 => 480
  | 15 => 16
  | _ => 30
def mI (k : Nat) : Bool := k == 0 || (4 ≤ k && k ≤ 12) || k == 14 || k == 15 || k == 17 || k == 18 || k == 19
def mA (k : Nat) : Bool := mI k || k == 13
def MF (ad : Nat → Nat) (σ : Sg) : List Value := [.ref (ad 0), .int (σ 1 0), .int (σ 2 0), .int (σ 3 0), .ref (ad 4), .ref (ad 5), .ref (ad 6), .ref (ad 7), .ref (ad 8), .ref (ad 9), .ref (ad 10), .ref (ad 11), .ref (ad 12), .ref (ad 13), .ref (ad 14), .ref (ad 15), .int (σ 16 0), .ref (ad 17), .ref (ad 18), .ref (ad 19), .int (σ 20 0), .int (σ 21 0)]
/-- the heap holds the reference, at m0, in the state sg -/
def MD (D : va_G) (cI cZ : ClassId) (m0 : Nat) (ad : Nat → Nat) (σ : Sg) (H : Heap) : Prop :=
  Ob D m0 8 (MF ad σ) H ∧ (∀ k, mI k = true → Ai D cI (ad k) (mlen k) (σ k) H) ∧ Ai D cZ (ad 13) 30 (σ 13) H ∧ (∀ j k, mA j = true → mA k = true → ad j = ad k → j = k) ∧ ∀ k, mA k = true → ad k ≠ m0
def Am (m0 : Nat) (ad : Nat → Nat) (q : Nat) : Prop := q = m0 ∨ ∃ k, mA k = true ∧ q = ad k
theorem mA_sc {k : Nat} (h : mA k = true) : k ≠ 1 ∧ k ≠ 2 ∧ k ≠ 3 ∧ k ≠ 16 ∧ k ≠ 20 ∧ k ≠ 21 := by
  refine ⟨?_, ?_, ?_, ?_, ?_, ?_⟩ <;> (intro e; subst e; exact absurd h (by decide))
theorem MF_arr (ad : Nat → Nat) (σ : Sg) {k : Nat} (i : Nat) (v : Int32) (h : mA k = true) : MF ad (u2 σ k i v) = MF ad σ := by
  obtain ⟨h1, h2, h3, h4, h5, h6⟩ := mA_sc h
  unfold MF
  rw [u2_ne σ v (fun q => h1 q.1.symm), u2_ne σ v (fun q => h2 q.1.symm), u2_ne σ v (fun q => h3 q.1.symm), u2_ne σ v (fun q => h4 q.1.symm), u2_ne σ v (fun q => h5 q.1.symm), u2_ne σ v (fun q => h6 q.1.symm)]
section MDs
variable {D : va_G} {cI cZ : ClassId} {m0 : Nat} {ad : Nat → Nat} {σ : Sg} {H H1 : Heap}
theorem MD.arr (k : Nat) {i : Nat} {v : Int32} (h : MD D cI cZ m0 ad σ H) (hk : mI k = true) (h1 : Ai D cI (ad k) (mlen k) (upd (σ k) i v) H1) (oq : ∀ q : Nat, q ≠ ad k → H1[q]? = H[q]?) : MD D cI cZ m0 ad (u2 σ k i v) H1 := by
  have hA : mA k = true := by unfold mA; rw [hk]; rfl
  obtain ⟨a1, a2, a3, a4, a5⟩ := h
  refine ⟨?_, ?_, ?_, a4, a5⟩
  · rw [MF_arr ad σ i v hA]
    exact va_at.kept a1 (oq _ (fun q => a5 k hA q.symm))
  · intro k' hk'
    by_cases e : k' = k
    · subst e
      rw [← u2_upd]
      exact h1
    · rw [u2_k σ v e]
      exact va_at.kept (a2 k' hk') (oq _ (fun q => e (a4 k' k (by unfold mA; rw [hk']; rfl) hA q)))
  · have e : (13 : Nat) ≠ k := by intro e; subst e; exact absurd hk (by decide)
    rw [u2_k σ v e]
    exact va_at.kept a3 (oq _ (fun q => e (a4 13 k rfl hA q)))
theorem MD.told {i : Nat} {v : Int32} (h : MD D cI cZ m0 ad σ H) (h1 : Ai D cZ (ad 13) 30 (upd (σ 13) i v) H1) (oq : ∀ q : Nat, q ≠ ad 13 → H1[q]? = H[q]?) : MD D cI cZ m0 ad (u2 σ 13 i v) H1 := by
  obtain ⟨a1, a2, a3, a4, a5⟩ := h
  refine ⟨?_, ?_, ?_, a4, a5⟩
  · rw [MF_arr ad σ i v rfl]
    exact va_at.kept a1 (oq _ (fun q => a5 13 rfl q.symm))
  · intro k' hk'
    have e : k' ≠ 13 := by intro e; subst e; exact absurd hk' (by decide)
    rw [u2_k σ v e]
    exact va_at.kept (a2 k' hk') (oq _ (fun q => e (a4 k' 13 (by unfold mA; rw [hk']; rfl) rfl q)))
  · rw [← u2_upd]
    exact h1
theorem MD.fld (k : Nat) {v : Int32} (h : MD D cI cZ m0 ad σ H) (hk : mA k = false) (h1 : Ob D m0 8 (MF ad (u2 σ k 0 v)) H1) (oq : ∀ q : Nat, q ≠ m0 → H1[q]? = H[q]?) : MD D cI cZ m0 ad (u2 σ k 0 v) H1 := by
  obtain ⟨a1, a2, a3, a4, a5⟩ := h
  have e : ∀ k', mA k' = true → k' ≠ k := by intro k' h' e; subst e; rw [hk] at h'; cases h'
  refine ⟨h1, ?_, ?_, a4, a5⟩
  · intro k' hk'
    have hA : mA k' = true := by unfold mA; rw [hk']; rfl
    rw [u2_k σ v (e k' hA)]
    exact va_at.kept (a2 k' hk') (oq _ (a5 k' hA))
  · rw [u2_k σ v (e 13 rfl)]
    exact va_at.kept a3 (oq _ (a5 13 rfl))
theorem MD.kept (h : MD D cI cZ m0 ad σ H) (oq : ∀ q : Nat, Am m0 ad q → H1[q]? = H[q]?) : MD D cI cZ m0 ad σ H1 := by
  obtain ⟨a1, a2, a3, a4, a5⟩ := h
  exact ⟨va_at.kept a1 (oq _ (Or.inl rfl)), fun k hk => va_at.kept (a2 k hk) (oq _ (Or.inr ⟨k, by unfold mA; rw [hk]; rfl, rfl⟩)), va_at.kept a3 (oq _ (Or.inr ⟨13, rfl, rfl⟩)), a4, a5⟩
theorem MD.eq {τ : Sg} (h : MD D cI cZ m0 ad σ H) (e : σ = τ) : MD D cI cZ m0 ad τ H := e ▸ h
theorem Am.arr (k : Nat) (hk : mA k = true) : Am m0 ad (ad k) := Or.inr ⟨k, hk, rfl⟩
theorem Am.ob : Am m0 ad m0 := Or.inl rfl
end MDs
