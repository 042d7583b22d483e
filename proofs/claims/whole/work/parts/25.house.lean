/-! the heap holds the house in the state sg -/
def hvr (σ : Sg) (i : Nat) : Int32 := if σ 4 i = 2 ∧ ¬ σ 12 i = 2 then (-1) else σ 11 i
def wx (σ : Sg) (te pn : Nat → Int32) (i : Nat) : Nat → Int32 := fun k => match k with
  | 0 => nI i
  | 1 => σ 4 i
  | 2 => σ 5 i
  | 3 => σ 6 i
  | 4 => σ 9 i
  | 5 => σ 10 i
  | 6 => hvr σ i
  | 7 => pn i
  | 8 => σ 13 i
  | 9 => σ 12 i
  | _ => te i
def WK (D : va_G) (va da : Nat → Nat) (te pn : Nat → Int32) (σ : Sg) (nV i a : Nat) (H : Heap) : Prop := (σ 4 i = 0 ∧ ∃ v, v < nV ∧ σ 11 i = nI v ∧ Ob D a 2 (WFs (wx σ te pn i) [.int (σ 7 i), .ref (va v)]) H) ∨ (σ 4 i = 1 ∧ Ob D a 6 (WFs (wx σ te pn i) [.int (σ 7 i), .int (σ 8 i), .ref (da i)]) H) ∨ (σ 4 i = 2 ∧ Ob D a 3 (WFs (wx σ te pn i) [.ref (da i)]) H) ∨ (σ 4 i = 3 ∧ Ob D a 5 (WFs (wx σ te pn i) []) H)
theorem WK.ob {D : va_G} {va da : Nat → Nat} {te pn : Nat → Int32} {σ : Sg} {nV i a : Nat} {H : Heap} (h : WK D va da te pn σ nV i a H) : ∃ ci ex, VC ci ex (wx σ te pn i 1) ∧ Ob D a ci (WFs (wx σ te pn i) ex) H := by
  rcases h with ⟨q, v, q1, q2, q3⟩ | ⟨q, q1⟩ | ⟨q, q1⟩ | ⟨q, q1⟩
  · exact ⟨2, _, Or.inl ⟨rfl, q, _, _, rfl⟩, q3⟩
  · exact ⟨6, _, Or.inr (Or.inr (Or.inr ⟨rfl, q, _, _, _, rfl⟩)), q1⟩
  · exact ⟨3, _, Or.inr (Or.inl ⟨rfl, q, _, rfl⟩), q1⟩
  · exact ⟨5, _, Or.inr (Or.inr (Or.inl ⟨rfl, q, rfl⟩)), q1⟩
def CLs (D : va_G) (cI : ClassId) (ra : Nat → Nat) (c : Nat) (f : Nat → Int32) (H : Heap) : Prop := Ob D c 1 [.ref (ra c)] H ∧ Ai D cI (ra c) 16 f H
def Tg (h0 hs hc hw he ec ew ee : Nat) (va wa da ra rl : Nat → Nat) (σ : Sg) (nW nV nE : Nat) : Prop := rl h0 = 0 ∧ rl hs = 1 ∧ rl hc = 2 ∧ rl hw = 3 ∧ rl he = 4 ∧ (1 < nV → rl ec = 5) ∧ (0 < nW → rl ew = 6) ∧ (0 < nE → rl ee = 7) ∧ rl (va 0) = 8 ∧ rl (ra (va 0)) = 9 ∧ (∀ i, i < nW → rl (wa i) = 16 + 4 * i) ∧ ∀ i, i < nW → (σ 4 i = 1 ∨ σ 4 i = 2) → rl (da i) = 17 + 4 * i ∧ rl (ra (da i)) = 18 + 4 * i
def HR (D : va_G) (cI cO : ClassId) (eA : Nat) (B : Nat → Prop) (h0 : Nat) (wa : Nat → Nat) (σ : Sg) (nW nV nE : Nat) (H : Heap) : Prop := ∃ (hs hc hw he ec ew ee pc pw pe : Nat) (gc gw ge : Nat → Option Nat) (va da ra : Nat → Nat) (te pn : Nat → Int32) (rl : Nat → Nat),
  Ob D h0 7 [.ref hs, .ref hw, .ref he, .int (σ 2 0), .int (σ 20 0), .int (σ 21 0)] H ∧
  Ob D hs 4 [.ref (va 0), .ref hc, .ref (va (nV - 1))] H ∧
  (AL D cO eA hc ec (nV - 1) pc gc H ∧ ∀ i, i < nV - 1 → gc i = some (va (i + 1))) ∧
  (AL D cO eA hw ew nW pw gw H ∧ ∀ i, i < nW → gw i = some (wa i)) ∧
  (AL D cO eA he ee nE pe ge H ∧ ∀ i, i < nE → ge i = some (wa (nat (σ 17 i)))) ∧
  (∀ v, v < nV → CLs D cI ra (va v) (fun c => σ 0 (16 * v + c)) H) ∧
  (∀ i, i < nW → WK D va da te pn σ nV i (wa i) H) ∧
  (∀ i, i < nW → (σ 4 i = 1 ∨ σ 4 i = 2) → ∃ f, CLs D cI ra (da i) f H ∧ (¬ σ 12 i = 2 → ∀ c, c < 16 → f c = σ 14 (16 * i + c))) ∧
  (∀ v, 1 ≤ v → v < nV → ∃ i, i < nW ∧ va v = da i ∧ (σ 4 i = 1 ∨ σ 4 i = 2) ∧ σ 12 i = 2) ∧
  Tg h0 hs hc hw he ec ew ee va wa da ra rl σ nW nV nE ∧ (∀ q, rl q < 1000 → B q) ∧ (∀ q, H.size ≤ q → B q) ∧ (∀ q, H.size ≤ q → rl q = 1000) ∧
  (∀ i, i < nE → σ 19 i = te (nat (σ 17 i))) ∧
  ∀ i, i < nW → σ 12 i = 0 → pn i = pin σ i
theorem nxA_mf {σ : Sg} {i : Nat} (h : nxA σ i = false) : ∀ {j : Nat}, i ≤ j → nxA σ j = false
  | 0, hj => by rw [show i = 0 by omega] at h; exact h
  | j + 1, hj => by
    by_cases e : i = j + 1
    · rw [← e]; exact h
    · exact nxA_0 (nxA_mf h (by omega))
theorem ipF_mt {σ : Sg} {v : Int32} {i : Nat} (h : ipF σ v i = true) : ∀ {j : Nat}, i ≤ j → ipF σ v j = true
  | 0, hj => by rw [show i = 0 by omega] at h; exact h
  | j + 1, hj => by
    by_cases e : i = j + 1
    · rw [← e]; exact h
    · exact ipF_1 (ipF_mt h (by omega))
theorem kpF_mt {σ : Sg} {v : Int32} {n i : Nat} (h : kpF σ v n i = true) : ∀ {j : Nat}, i ≤ j → kpF σ v n j = true
  | 0, hj => by rw [show i = 0 by omega] at h; exact h
  | j + 1, hj => by
    by_cases e : i = j + 1
    · rw [← e]; exact h
    · exact kpF_1 (kpF_mt h (by omega))
theorem WI.kd {σ : Sg} {nV j : Nat} (h : WI σ nV j) : σ 4 j = 0 ∨ σ 4 j = 1 ∨ σ 4 j = 2 ∨ σ 4 j = 3 := by
  obtain ⟨st, fa, a, dn, a5, a6, a7, a9, b1, b2, b3, b4, hc⟩ := h
  rcases hc with q | q | q | q
  · exact Or.inl q.1
  · exact Or.inr (Or.inl q.1)
  · exact Or.inr (Or.inr (Or.inl q.1))
  · exact Or.inr (Or.inr (Or.inr q.1))
theorem WI.en {σ : Sg} {nV j : Nat} (h : WI σ nV j) : 0 < σ 12 j ↔ ¬ σ 12 j = 0 := by
  obtain ⟨st, fa, a, dn, a5, a6, a7, a9, b1, b2, b3, b4, hc⟩ := h
  exact end_pos b3
/-- the house's own word on who waits is the reference's -/
theorem st_eq {σ : Sg} {te pn : Nat → Int32} {nW nV nE j : Nat} (hI : Inv σ nW nV nE) (hj : j < nW) (h12 : σ 12 j = 0) (h13 : σ 13 j = 0) : hwt (wx σ te pn j) (b2 (nxA σ j)) (nV - 1) = wt σ j := by
  have hv1 := hI.2.2.2.2.1
  have hw := hI.wi hj
  have hn30 := hI.n30
  have heW := hI.eW
  have hvE := hI.2.2.2.2.2.1
  have e1 : decide (b2 (nxA σ j) = 0) = !nxA σ j := by cases nxA σ j <;> decide
  have h21 : σ 1 0 - 1 = nI (nV - 1) := by rw [hI.2.1]; exact pk_sub (b := 1) hv1
  obtain ⟨st, fa, a, dn, a5, a6, a7, a9, y1, y2, y3, y4, hc⟩ := hw
  have ed : dn ≤ st → st ≤ 100 → decide (¬ σ 9 j < σ 5 j) = decide (σ 9 j = σ 5 j) := fun q1 q2 => by
    rw [a9, a5]
    apply decide_eq_decide.mpr
    rw [nI_ltI (by omega) (by omega), nI_eq (by omega) (by omega)]
    omega
  unfold hwt wt
  show (if σ 4 j = 1 then decide (¬ σ 9 j < σ 5 j) && decide (b2 (nxA σ j) = 0) else if σ 4 j = 2 then decide (σ 9 j = 0) && decide (b2 (nxA σ j) = 0) else if σ 4 j = 3 then decide (¬ hvr σ j < nI (nV - 1)) else false) = _
  rw [h12, h13, e1, h21]
  rcases hc with ⟨c1, c2, c3, c4, c5, v, c6, c7⟩ | ⟨c1, c2, c3, c4, c5, c6⟩ | ⟨c1, c2, c3, c4, c5, c6⟩ | ⟨c1, c2, c3, v, c4, c5, c6⟩
  · rw [c1]; rfl
  · rw [ed c4 (by omega), c1]; rfl
  · rw [c1]; rfl
  · have e3 : hvr σ j = σ 11 j := by unfold hvr; rw [if_neg (fun q => absurd (c1.symm.trans q.1) (by decide))]
    rw [e3, c1, c6]
    have e4 : decide (¬ nI v < nI (nV - 1)) = decide (nI v = nI (nV - 1)) := by
      apply decide_eq_decide.mpr
      rw [nI_ltI (by omega) (by omega), nI_eq (by omega) (by omega)]
      omega
    rw [e4]
    rfl
theorem fnd_eq {va : Nat → Nat} {gc : Nat → Option Nat} {nV : Nat} {v : Int32} (hv1 : 1 ≤ nV) (hv2 : nV ≤ 100) (hg : ∀ i, i < nV - 1 → gc i = some (va (i + 1))) : fnd (va 0) gc (nV - 1) v = if inB v 0 (nI nV - 1) = true then some (va (nat v)) else none := by
  have h21 : nI nV - 1 = nI (nV - 1) := pk_sub (b := 1) hv1
  unfold fnd
  by_cases h0 : v = 0
  · subst h0
    rw [if_pos rfl, if_pos (show inB 0 0 (nI nV - 1) = true from inB_not (j := 0) (by omega) (by omega))]
    rfl
  · rw [if_neg h0]
    by_cases h1 : v < 0
    · rw [if_pos h1, if_neg (by unfold inB; simp [h1])]
    · rw [if_neg h1]
      obtain ⟨k, hk, rfl⟩ := nI_of h1
      by_cases h2 : nI (nV - 1) < nI k
      · rw [if_pos h2, if_neg (by unfold inB; rw [h21]; simp [h2])]
      · have hkn : k ≤ nV - 1 := Nat.le_of_not_lt (fun q => h2 (nI_lt q hk))
        have hk0 : 0 < k := Nat.pos_of_ne_zero (fun q => h0 (by rw [q]; rfl))
        rw [if_neg h2, if_pos (inB_not (by omega) (by omega)), nat_nI hk, hg (k - 1) (by omega), show k - 1 + 1 = k by omega]
