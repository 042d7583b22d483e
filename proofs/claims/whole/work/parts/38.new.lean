section Beg
variable {σ : Sg} {nW : Nat} {kd many fails frm more : Int32}
theorem beg_o {k : Nat} (i : Nat) (hi : i ≠ nW) (hk : k ≠ 3) : begS σ nW kd many fails frm more k i = σ k i := by
  unfold begS
  rw [u2_ne _ _ (fun q => hk q.1), u2_ne _ _ (fun q => hi q.2), u2_ne _ _ (fun q => hi q.2), u2_ne _ _ (fun q => hi q.2), u2_ne _ _ (fun q => hi q.2), u2_ne _ _ (fun q => hi q.2), u2_ne _ _ (fun q => hi q.2)]
theorem beg_k {k : Nat} (i : Nat) (h3 : k ≠ 3) (h4 : k ≠ 4) (h5 : k ≠ 5) (h6 : k ≠ 6) (h7 : k ≠ 7) (h8 : k ≠ 8) (h11 : k ≠ 11) : begS σ nW kd many fails frm more k i = σ k i := by
  unfold begS
  rw [u2_ne _ _ (fun q => h3 q.1), u2_ne _ _ (fun q => h11 q.1), u2_ne _ _ (fun q => h8 q.1), u2_ne _ _ (fun q => h7 q.1), u2_ne _ _ (fun q => h6 q.1), u2_ne _ _ (fun q => h5 q.1), u2_ne _ _ (fun q => h4 q.1)]
theorem beg_3 : begS σ nW kd many fails frm more 3 0 = σ 3 0 + 1 := u2_same _ _ _ _
theorem beg_11 : begS σ nW kd many fails frm more 11 nW = if kd = 0 ∨ kd = 3 then σ 1 0 - 1 else (-1) := by unfold begS; rw [u2_ne _ _ (fun q => absurd q.1 (by decide)), u2_same]
theorem beg_8 : begS σ nW kd many fails frm more 8 nW = more := by unfold begS; rw [u2_ne _ _ (fun q => absurd q.1 (by decide)), u2_ne _ _ (fun q => absurd q.1 (by decide)), u2_same]
theorem beg_7 : begS σ nW kd many fails frm more 7 nW = frm := by unfold begS; rw [u2_ne _ _ (fun q => absurd q.1 (by decide)), u2_ne _ _ (fun q => absurd q.1 (by decide)), u2_ne _ _ (fun q => absurd q.1 (by decide)), u2_same]
theorem beg_6 : begS σ nW kd many fails frm more 6 nW = fails := by unfold begS; rw [u2_ne _ _ (fun q => absurd q.1 (by decide)), u2_ne _ _ (fun q => absurd q.1 (by decide)), u2_ne _ _ (fun q => absurd q.1 (by decide)), u2_ne _ _ (fun q => absurd q.1 (by decide)), u2_same]
theorem beg_5 : begS σ nW kd many fails frm more 5 nW = many := by unfold begS; rw [u2_ne _ _ (fun q => absurd q.1 (by decide)), u2_ne _ _ (fun q => absurd q.1 (by decide)), u2_ne _ _ (fun q => absurd q.1 (by decide)), u2_ne _ _ (fun q => absurd q.1 (by decide)), u2_ne _ _ (fun q => absurd q.1 (by decide)), u2_same]
theorem beg_4 : begS σ nW kd many fails frm more 4 nW = kd := by unfold begS; rw [u2_ne _ _ (fun q => absurd q.1 (by decide)), u2_ne _ _ (fun q => absurd q.1 (by decide)), u2_ne _ _ (fun q => absurd q.1 (by decide)), u2_ne _ _ (fun q => absurd q.1 (by decide)), u2_ne _ _ (fun q => absurd q.1 (by decide)), u2_ne _ _ (fun q => absurd q.1 (by decide)), u2_same]
theorem inv_beg {nV nE st fa a : Nat} (h : Inv σ nW nV nE) (hW : nW < 30) (hm : many = nI st) (hf : fails = nI fa) (ha : frm = nI a) (h1 : fa ≤ 30) (h2 : a ≤ 15) (hk : ((kd = 0 ∨ kd = 1 ∨ kd = 2) ∧ 1 ≤ st ∧ st ≤ 20) ∨ (kd = 3 ∧ st = 0 ∧ fa = 0)) : Inv (begS σ nW kd many fails frm more) (nW + 1) nV nE := by
  obtain ⟨i1, i2, i3, i4, i5, i6, i7, i8, i9, i10, i11, i12⟩ := h
  obtain ⟨z1, z2, z3, z4⟩ := i10 nW (Nat.le_refl _)
  have K : ∀ k i, k ≠ 3 → k ≠ 4 → k ≠ 5 → k ≠ 6 → k ≠ 7 → k ≠ 8 → k ≠ 11 → begS σ nW kd many fails frm more k i = σ k i := fun k i a b c d e f g => beg_k i a b c d e f g
  have e12 : begS σ nW kd many fails frm more 12 = σ 12 := funext fun i => K 12 i (by decide) (by decide) (by decide) (by decide) (by decide) (by decide) (by decide)
  have e1 : begS σ nW kd many fails frm more 1 0 = σ 1 0 := K 1 0 (by decide) (by decide) (by decide) (by decide) (by decide) (by decide) (by decide)
  have e11 : (kd = 0 ∨ kd = 3) → begS σ nW kd many fails frm more 11 nW = nI (nV - 1) := fun q => by rw [beg_11, if_pos q, i2]; exact pk_sub (b := 1) i5
  have e11n : ¬ (kd = 0 ∨ kd = 3) → begS σ nW kd many fails frm more 11 nW = (-1) := fun q => by rw [beg_11, if_neg q]
  refine ⟨by rw [beg_3, i1, nI_1], by rw [e1]; exact i2, by rw [K 16 0 (by decide) (by decide) (by decide) (by decide) (by decide) (by decide) (by decide)]; exact i3, by omega, i5, i6, ?_, by rw [K 2 0 (by decide) (by decide) (by decide) (by decide) (by decide) (by decide) (by decide)]; exact i8, ?_, ?_, ?_, ?_⟩
  · rw [e12, cntF, ← i7, z3]; rfl
  · intro j hj
    by_cases q : j = nW
    · rw [q]
      refine ⟨st, fa, a, 0, by rw [beg_5]; exact hm, by rw [beg_6]; exact hf, by rw [beg_7]; exact ha, by rw [K 9 _ (by decide) (by decide) (by decide) (by decide) (by decide) (by decide) (by decide)]; exact z1, h1, h2, Or.inl (by rw [e12]; exact z3), Or.inl (by rw [K 13 _ (by decide) (by decide) (by decide) (by decide) (by decide) (by decide) (by decide)]; exact z4), ?_⟩
      rw [beg_4, e12]
      rcases hk with ⟨q0 | q0 | q0, s1, s2⟩ | ⟨q0, s1, s2⟩
      · exact Or.inl ⟨q0, s1, s2, by omega, fun _ => by omega, nV - 1, by omega, e11 (Or.inl q0)⟩
      · refine Or.inr (Or.inl ⟨q0, s1, s2, by omega, fun _ => e11n (fun z => by rw [q0] at z; exact absurd z (by decide)), fun z => by rw [z3] at z; exact absurd z (by decide)⟩)
      · refine Or.inr (Or.inr (Or.inl ⟨q0, s1, s2, by omega, fun _ => e11n (fun z => by rw [q0] at z; exact absurd z (by decide)), fun z => absurd rfl z⟩))
      · exact Or.inr (Or.inr (Or.inr ⟨q0, s1, s2, nV - 1, by omega, by omega, e11 (Or.inr q0)⟩))
    · exact (i9 j (by omega)).mono (Nat.le_refl _) (beg_o j q (by decide)) (beg_o j q (by decide)) (beg_o j q (by decide)) (beg_o j q (by decide)) (beg_o j q (by decide)) (beg_o j q (by decide)) (beg_o j q (by decide)) (beg_o j q (by decide))
  · intro j hj
    obtain ⟨y1, y2, y3, y4⟩ := i10 j (by omega)
    exact ⟨by rw [beg_o j (by omega) (by decide)]; exact y1, by rw [beg_o j (by omega) (by decide)]; exact y2, by rw [beg_o j (by omega) (by decide)]; exact y3, by rw [beg_o j (by omega) (by decide)]; exact y4⟩
  · intro i hi
    rw [K 14 i (by decide) (by decide) (by decide) (by decide) (by decide) (by decide) (by decide)]
    exact i11 i (by omega)
  · intro i hi
    obtain ⟨w, w1, w2, w3, w4⟩ := i12 i hi
    exact ⟨w, by omega, by rw [K 17 i (by decide) (by decide) (by decide) (by decide) (by decide) (by decide) (by decide)]; exact w2, by rw [K 18 i (by decide) (by decide) (by decide) (by decide) (by decide) (by decide) (by decide), e12]; exact w3, by rw [e12]; exact w4⟩
end Beg
theorem up_at {f : Nat → Nat} {i v : Nat} : va_up f i v i = v := by unfold va_up; rw [if_pos rfl]
theorem up_ne {f : Nat → Nat} {i v j : Nat} (h : j ≠ i) : va_up f i v j = f j := by unfold va_up; rw [if_neg h]
theorem upd_at {f : Nat → Int32} {i : Nat} {v : Int32} : upd f i v i = v := by unfold upd; rw [if_pos rfl]
theorem upd_ne {f : Nat → Int32} {i j : Nat} {v : Int32} (h : j ≠ i) : upd f i v j = f j := by unfold upd; rw [if_neg h]
theorem HR_new {D : va_G} {cI cO : ClassId} {eA h0 : Nat} {B : Nat → Prop} {wa : Nat → Nat} {σ τ : Sg} {nW nV nE e1 p1 : Nat} {g1 : Nat → Option Nat} {pv : Int32} {H H2 : Heap} {hs hc hw he ec ew ee pc pw pe : Nat} {gc gw ge : Nat → Option Nat} {va da ra : Nat → Nat} {te pn : Nat → Int32} {rl : Nat → Nat}
  (R1 : Ob D h0 7 [.ref hs, .ref hw, .ref he, .int (σ 2 0), .int (σ 20 0), .int (σ 21 0)] H) (R2 : Ob D hs 4 [.ref (va 0), .ref hc, .ref (va (nV - 1))] H) (R3 : AL D cO eA hc ec (nV - 1) pc gc H) (R3g : ∀ i, i < nV - 1 → gc i = some (va (i + 1))) (R4 : AL D cO eA hw ew nW pw gw H) (R4g : ∀ i, i < nW → gw i = some (wa i)) (R5 : AL D cO eA he ee nE pe ge H) (R5g : ∀ i, i < nE → ge i = some (wa (nat (σ 17 i)))) (R6 : ∀ v, v < nV → CLs D cI ra (va v) (fun c => σ 0 (16 * v + c)) H) (R7 : ∀ i, i < nW → WK D va da te pn σ nV i (wa i) H) (R8 : ∀ i, i < nW → (σ 4 i = 1 ∨ σ 4 i = 2) → ∃ f, CLs D cI ra (da i) f H ∧ (¬ σ 12 i = 2 → ∀ c, c < 16 → f c = σ 14 (16 * i + c))) (R9 : ∀ v, 1 ≤ v → v < nV → ∃ i, i < nW ∧ va v = da i ∧ (σ 4 i = 1 ∨ σ 4 i = 2) ∧ σ 12 i = 2) (RT : Tg h0 hs hc hw he ec ew ee va wa da ra rl σ nW nV nE) (RB : ∀ q, rl q < 1000 → B q) (RN : ∀ q, H.size ≤ q → B q) (RL : ∀ q, H.size ≤ q → rl q = 1000) (R12 : ∀ i, i < nE → σ 19 i = te (nat (σ 17 i))) (R13 : ∀ i, i < nW → σ 12 i = 0 → pn i = pin σ i)
  (hW : nW < 30) (hn17 : ∀ i, i < nE → nat (σ 17 i) < nW) (eJ : ∀ k i, i ≠ nW → k ≠ 3 → τ k i = σ k i) (eK : ∀ k i, k ≠ 3 → k ≠ 4 → k ≠ 5 → k ≠ 6 → k ≠ 7 → k ≠ 8 → k ≠ 11 → τ k i = σ k i) (cz : Bool) (hcz : (τ 4 nW = 1 ∨ τ 4 nW = 2) → cz = true)
  (hag : ∀ p, rl p ≠ 3 → rl p ≠ 6 → p < H.size → H2[p]? = H[p]?) (hsz : H.size + (if cz = true then 3 else 1) ≤ H2.size) (hAL : AL D cO eA hw e1 (nW + 1) p1 g1 H2) (hg1 : ∀ i, i < nW → g1 i = gw i) (hg2 : g1 nW = some H.size) (he1 : (e1 = ew ∧ 0 < nW) ∨ H.size + (if cz = true then 3 else 1) ≤ e1)
  (hwk : WK D va (va_up da nW (H.size + 1)) (upd te nW 0) (upd pn nW pv) τ nV nW H.size H2) (hpv : pv = pin τ nW) (hdr : cz = true → CLs D cI (va_up ra (H.size + 1) (H.size + 2)) (H.size + 1) (fun _ => 0) H2) (h14 : ∀ c, σ 14 (16 * nW + c) = 0) (h12 : σ 12 nW = 0) : HR D cI cO eA B h0 (va_up wa nW H.size) τ (nW + 1) nV nE H2 := by
  obtain ⟨t0, t1, t2, t3, t4, t5, t6, t7, t8, t9, tw, td⟩ := id RT
  have hlt1 : e1 < H2.size := hAL.lte (by omega)
  have q0 : τ 0 = σ 0 := funext fun i => eK 0 i (by decide) (by decide) (by decide) (by decide) (by decide) (by decide) (by decide)
  have q12 : τ 12 = σ 12 := funext fun i => eK 12 i (by decide) (by decide) (by decide) (by decide) (by decide) (by decide) (by decide)
  have q14 : τ 14 = σ 14 := funext fun i => eK 14 i (by decide) (by decide) (by decide) (by decide) (by decide) (by decide) (by decide)
  have q17 : τ 17 = σ 17 := funext fun i => eK 17 i (by decide) (by decide) (by decide) (by decide) (by decide) (by decide) (by decide)
  have q19 : τ 19 = σ 19 := funext fun i => eK 19 i (by decide) (by decide) (by decide) (by decide) (by decide) (by decide) (by decide)
  have q2 : τ 2 = σ 2 := funext fun i => eK 2 i (by decide) (by decide) (by decide) (by decide) (by decide) (by decide) (by decide)
  have q20 : τ 20 = σ 20 := funext fun i => eK 20 i (by decide) (by decide) (by decide) (by decide) (by decide) (by decide) (by decide)
  have q21 : τ 21 = σ 21 := funext fun i => eK 21 i (by decide) (by decide) (by decide) (by decide) (by decide) (by decide) (by decide)
  have e4 : ∀ i, i < nW → τ 4 i = σ 4 i := fun i hi => eJ 4 i (by omega) (by decide)
  have hd : ∀ i, i < nW → va_up da nW (H.size + 1) i = da i := fun i hi => up_ne (by omega)
  have hwa : ∀ i, i < nW → va_up wa nW H.size i = wa i := fun i hi => up_ne (by omega)
  have hra : ∀ p, p < H.size → va_up ra (H.size + 1) (H.size + 2) p = ra p := fun p hp => up_ne (by omega)
  have hC : ∀ c f, CLs D cI ra c f H → CLs D cI ra c f H2 → CLs D cI (va_up ra (H.size + 1) (H.size + 2)) c f H2 := fun c f h h2 => by
    unfold CLs
    rw [hra c (va_at.lt h.1)]
    exact h2
  obtain ⟨rl', hrl⟩ : ∃ r : Nat → Nat, r = fun p => if p = e1 then 6 else if p < H.size then rl p else if p = H.size then 16 + 4 * nW else if cz = true ∧ p = H.size + 1 then 17 + 4 * nW else if cz = true ∧ p = H.size + 2 then 18 + 4 * nW else 1000 := ⟨_, rfl⟩
  have rE : rl' e1 = 6 := by rw [hrl]; exact if_pos rfl
  have ht1 : rl e1 = 6 ∨ H.size ≤ e1 := he1.elim (fun q => Or.inl (by rw [q.1]; exact t6 q.2)) (fun q => Or.inr (by omega))
  have N : ∀ p t, rl p = t → t ≠ 6 → t ≠ 1000 → rl' p = t := fun p t hp a b => by
    have hp1 : p < H.size := Nat.lt_of_not_le (fun q => b (by rw [← hp]; exact RL p q))
    have hp2 : p ≠ e1 := fun q => by rcases ht1 with z | z; (rw [q] at hp; exact a (hp.symm.trans z)); omega
    rw [hrl]
    show (if p = e1 then 6 else if p < H.size then rl p else _) = t
    rw [if_neg hp2, if_pos hp1]
    exact hp
  have hne1 : ∀ d, d < (if cz = true then 3 else 1) → H.size + d ≠ e1 := fun d hd q => by
    rcases he1 with z | z
    · have := R4.lte z.2
      omega
    · omega
  have rQ : rl' H.size = 16 + 4 * nW := by
    have this : H.size ≠ e1 := hne1 0 (by split <;> omega)
    rw [hrl]
    show (if H.size = e1 then 6 else if H.size < H.size then rl H.size else if H.size = H.size then 16 + 4 * nW else _) = _
    rw [if_neg this, if_neg (by omega), if_pos rfl]
  have rQ1 : cz = true → rl' (H.size + 1) = 17 + 4 * nW := fun hc => by
    have := hne1 1 (by rw [if_pos hc]; omega)
    rw [hrl]
    show (if H.size + 1 = e1 then 6 else if H.size + 1 < H.size then _ else if H.size + 1 = H.size then 16 + 4 * nW else if cz = true ∧ H.size + 1 = H.size + 1 then _ else _) = _
    rw [if_neg this, if_neg (by omega), if_neg (by omega), if_pos ⟨hc, rfl⟩]
  have rQ2 : cz = true → rl' (H.size + 2) = 18 + 4 * nW := fun hc => by
    have := hne1 2 (by rw [if_pos hc]; omega)
    rw [hrl]
    show (if H.size + 2 = e1 then 6 else if H.size + 2 < H.size then _ else if H.size + 2 = H.size then 16 + 4 * nW else if cz = true ∧ H.size + 2 = H.size + 1 then _ else if cz = true ∧ H.size + 2 = H.size + 2 then _ else _) = _
    rw [if_neg this, if_neg (by omega), if_neg (by omega), if_neg (fun q => by have := q.2; omega), if_pos ⟨hc, rfl⟩]
  have rB : ∀ q, rl' q < 1000 → B q := fun q hq => by
    by_cases z : H.size ≤ q
    · exact RN q z
    · by_cases z1 : q = e1
      · rcases he1 with y | y
        · rw [z1, y.1]; exact RB _ (by rw [t6 y.2]; omega)
        · omega
      · refine RB q ?_
        rw [hrl] at hq
        have hq : (if q = e1 then 6 else if q < H.size then rl q else if q = H.size then 16 + 4 * nW else if cz = true ∧ q = H.size + 1 then 17 + 4 * nW else if cz = true ∧ q = H.size + 2 then 18 + 4 * nW else 1000) < 1000 := hq
        rw [if_neg z1, if_pos (by omega)] at hq
        exact hq
  have rL : ∀ q, H2.size ≤ q → rl' q = 1000 := fun q hq => by
    have hz : H.size + 1 ≤ H2.size := by split at hsz <;> omega
    rw [hrl]
    show (if q = e1 then 6 else if q < H.size then rl q else if q = H.size then 16 + 4 * nW else if cz = true ∧ q = H.size + 1 then 17 + 4 * nW else if cz = true ∧ q = H.size + 2 then 18 + 4 * nW else 1000) = 1000
    rw [if_neg (by omega), if_neg (by omega), if_neg (by omega), if_neg (fun z => by rw [if_pos z.1] at hsz; omega), if_neg (fun z => by rw [if_pos z.1] at hsz; omega)]
  have hK : ∀ p t, rl p = t → t ≠ 3 → t ≠ 6 → p < H.size → H2[p]? = H[p]? := fun p t hp a b c => hag p (by rw [hp]; exact a) (by rw [hp]; exact b) c
  refine ⟨hs, hc, hw, he, ec, e1, ee, pc, p1, pe, gc, g1, ge, va, va_up da nW (H.size + 1), va_up ra (H.size + 1) (H.size + 2), upd te nW 0, upd pn nW pv, rl', ?_, ?_, ⟨?_, R3g⟩, ⟨hAL, ?_⟩, ⟨?_, ?_⟩, ?_, ?_, ?_, ?_, ?_, rB, fun q h => RN q (by split at hsz <;> omega), rL, ?_, ?_⟩
  · rw [q2, q20, q21]; exact va_at.kept R1 (hK h0 0 t0 (by decide) (by decide) (va_at.lt R1))
  · exact va_at.kept R2 (hK hs 1 t1 (by decide) (by decide) (va_at.lt R2))
  · exact R3.kept (hK _ 2 t2 (by decide) (by decide) R3.lt) (fun q => hK _ 5 (t5 (by omega)) (by decide) (by decide) (R3.lte q))
  · intro i hi
    by_cases q : i = nW
    · rw [q, up_at]; exact hg2
    · rw [up_ne q, hg1 i (by omega)]; exact R4g i (by omega)
  · exact R5.kept (hK _ 4 t4 (by decide) (by decide) R5.lt) (fun q => hK _ 7 (t7 q) (by decide) (by decide) (R5.lte q))
  · intro i hi
    rw [q17, hwa _ (hn17 i hi)]
    exact R5g i hi
  · intro u hu
    rw [q0]
    have hc6 := R6 u hu
    refine hC _ _ hc6 ?_
    rcases va_tag RT R9 hu with ⟨-, z1, z2⟩ | ⟨i, i1, i2, i3, -, z1, z2⟩
    · exact hc6.kept (hK _ _ z1 (by decide) (by decide) (va_at.lt hc6.1)) (hK _ _ z2 (by decide) (by decide) (va_at.lt hc6.2))
    · exact hc6.kept (hK _ _ z1 (by omega) (by omega) (va_at.lt hc6.1)) (hK _ _ z2 (by omega) (by omega) (va_at.lt hc6.2))
  · intro i hi
    by_cases q : i = nW
    · rw [q, up_at]; exact hwk
    · have hk7 := R7 i (by omega)
      rw [hwa i (by omega)]
      exact (hk7.kept (hK _ _ (tw i (by omega)) (by omega) (by omega) hk7.lt)).cg (fun k a1 a2 a3 a4 a5 a6 a7 a8 a9 a10 a11 a12 => eJ k i q a4) (upd_ne q) (upd_ne q) (Nat.le_refl _) (fun _ _ => rfl) (hd i (by omega))
  · intro i hi hk4
    by_cases q : i = nW
    · rw [q] at hk4 ⊢
      refine ⟨fun _ => 0, ?_, fun _ c hc => ?_⟩
      · rw [up_at]; exact hdr (hcz hk4)
      · rw [q14]; exact (h14 c).symm
    · rw [e4 i (by omega)] at hk4
      obtain ⟨f, f1, f2⟩ := R8 i (by omega) hk4
      obtain ⟨d1, d2⟩ := td i (by omega) hk4
      refine ⟨f, ?_, by rw [q12, q14]; exact f2⟩
      rw [hd i (by omega)]
      exact hC _ _ f1 (f1.kept (hK _ _ d1 (by omega) (by omega) (va_at.lt f1.1)) (hK _ _ d2 (by omega) (by omega) (va_at.lt f1.2)))
  · intro v v1 v2
    obtain ⟨i, i1, i2, i3, i4⟩ := R9 v v1 v2
    exact ⟨i, by omega, by rw [hd i i1]; exact i2, by rw [e4 i i1]; exact i3, by rw [q12]; exact i4⟩
  · have hv0 : va 0 < H.size := Nat.lt_of_not_le (fun q => by have := RL _ q; omega)
    refine ⟨N _ _ t0 (by decide) (by decide), N _ _ t1 (by decide) (by decide), N _ _ t2 (by decide) (by decide), N _ _ t3 (by decide) (by decide), N _ _ t4 (by decide) (by decide), fun q => N _ _ (t5 q) (by decide) (by decide), fun _ => rE, fun q => N _ _ (t7 q) (by decide) (by decide), N _ _ t8 (by decide) (by decide), by rw [hra _ hv0]; exact N _ _ t9 (by decide) (by decide), ?_, ?_⟩
    · intro i hi
      by_cases q : i = nW
      · rw [q, up_at]; exact rQ
      · rw [hwa i (by omega)]; exact N _ _ (tw i (by omega)) (by omega) (by omega)
    · intro i hi hk4
      by_cases q : i = nW
      · rw [q] at hk4 ⊢
        rw [up_at, up_at]
        exact ⟨rQ1 (hcz hk4), rQ2 (hcz hk4)⟩
      · rw [e4 i (by omega)] at hk4
        obtain ⟨d1, d2⟩ := td i (by omega) hk4
        have hdl : da i < H.size := Nat.lt_of_not_le (fun q => by have := RL _ q; omega)
        rw [hd i (by omega), hra _ hdl]
        exact ⟨N _ _ d1 (by omega) (by omega), N _ _ d2 (by omega) (by omega)⟩
  · intro i hi
    rw [q19, q17, upd_ne (by have := hn17 i hi; omega)]
    exact R12 i hi
  · intro i hi z
    rw [q12] at z
    by_cases q : i = nW
    · rw [q, upd_at]; exact hpv
    · rw [upd_ne q, R13 i (by omega) z]
      unfold pin
      rw [q12, e4 i (by omega), eJ 11 i q (by decide)]
