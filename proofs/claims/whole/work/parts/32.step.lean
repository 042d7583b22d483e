/-! a step, a commit: what the house holds then -/
def hrArgs : Unit := ()
theorem HR_stp {D : va_G} {cI cO : ClassId} {eA h0 : Nat} {B : Nat → Prop} {wa : Nat → Nat} {σ τ : Sg} {nW nV nE j ci : Nat} {ex : List Value} {H H1 : Heap} {hs hc hw he ec ew ee pc pw pe : Nat} {gc gw ge : Nat → Option Nat} {va da ra : Nat → Nat} {te pn pn' : Nat → Int32} {rl : Nat → Nat}
  (R1 : Ob D h0 7 [.ref hs, .ref hw, .ref he, .int (σ 2 0), .int (σ 20 0), .int (σ 21 0)] H) (R2 : Ob D hs 4 [.ref (va 0), .ref hc, .ref (va (nV - 1))] H) (R3 : AL D cO eA hc ec (nV - 1) pc gc H) (R3g : ∀ i, i < nV - 1 → gc i = some (va (i + 1))) (R4 : AL D cO eA hw ew nW pw gw H) (R4g : ∀ i, i < nW → gw i = some (wa i)) (R5 : AL D cO eA he ee nE pe ge H) (R5g : ∀ i, i < nE → ge i = some (wa (nat (σ 17 i)))) (R6 : ∀ v, v < nV → CLs D cI ra (va v) (fun c => σ 0 (16 * v + c)) H) (R7 : ∀ i, i < nW → WK D va da te pn σ nV i (wa i) H) (R8 : ∀ i, i < nW → (σ 4 i = 1 ∨ σ 4 i = 2) → ∃ f, CLs D cI ra (da i) f H ∧ (¬ σ 12 i = 2 → ∀ c, c < 16 → f c = σ 14 (16 * i + c))) (R9 : ∀ v, 1 ≤ v → v < nV → ∃ i, i < nW ∧ va v = da i ∧ (σ 4 i = 1 ∨ σ 4 i = 2) ∧ σ 12 i = 2) (RT : Tg h0 hs hc hw he ec ew ee va wa da ra rl σ nW nV nE) (RB : ∀ q, rl q < 1000 → B q) (RN : ∀ q, H.size ≤ q → B q) (RL : ∀ q, H.size ≤ q → rl q = 1000) (R12 : ∀ i, i < nE → σ 19 i = te (nat (σ 17 i))) (R13 : ∀ i, i < nW → σ 12 i = 0 → pn i = pin σ i)
  (hj : j < nW) (h12 : σ 12 j = 0) (hag : ∀ p, ¬ (rl p = 16 + 4 * j ∨ rl p = 18 + 4 * j) → p < H.size → H1[p]? = H[p]?) (hsz : H.size ≤ H1.size)
  (eK : ∀ k i, k ≠ 9 → k ≠ 10 → k ≠ 11 → k ≠ 14 → k ≠ 15 → τ k i = σ k i) (eJ : ∀ k i, i ≠ j → k ≠ 14 → k ≠ 15 → τ k i = σ k i) (e14 : ∀ i c, i ≠ j → c < 16 → τ 14 (16 * i + c) = σ 14 (16 * i + c))
  (hkx : WKx va da σ nV j ci ex) (e11 : σ 4 j = 0 → τ 11 j = σ 11 j) (hob : Ob D (wa j) ci (WFs (wx τ te pn' j) ex) H1) (hpn : ∀ i, i ≠ j → pn' i = pn i) (hpj : pn' j = pin τ j)
  (hdr : (σ 4 j = 1 ∨ σ 4 j = 2) → ∃ f, CLs D cI ra (da j) f H1 ∧ ∀ c, c < 16 → f c = τ 14 (16 * j + c)) : HR D cI cO eA B h0 wa τ nW nV nE H1 := by
  obtain ⟨t0, t1, t2, t3, t4, t5, t6, t7, t8, t9, tw, td⟩ := id RT
  have E : ∀ k i, k ≠ 9 → k ≠ 10 → k ≠ 11 → k ≠ 14 → k ≠ 15 → τ k i = σ k i := eK
  have q5 : ∀ {k : Nat}, k ≠ 9 ∧ k ≠ 10 ∧ k ≠ 11 ∧ k ≠ 14 ∧ k ≠ 15 → τ k = σ k := fun h => funext fun i => eK _ i h.1 h.2.1 h.2.2.1 h.2.2.2.1 h.2.2.2.2
  have q0 : τ 0 = σ 0 := q5 (by decide)
  have q2 : τ 2 = σ 2 := q5 (by decide)
  have q4 : τ 4 = σ 4 := q5 (by decide)
  have q12 : τ 12 = σ 12 := q5 (by decide)
  have q17 : τ 17 = σ 17 := q5 (by decide)
  have q19 : τ 19 = σ 19 := q5 (by decide)
  have q20 : τ 20 = σ 20 := q5 (by decide)
  have q21 : τ 21 = σ 21 := q5 (by decide)
  refine ⟨hs, hc, hw, he, ec, ew, ee, pc, pw, pe, gc, gw, ge, va, da, ra, te, pn', rl, ?_, ?_, ⟨?_, R3g⟩, ⟨?_, R4g⟩, ⟨?_, ?_⟩, ?_, ?_, ?_, ?_, ?_, RB, fun q h => RN q (by omega), fun q h => RL q (by omega), ?_, ?_⟩
  · rw [q2, q20, q21]; exact va_at.kept R1 (hag h0 (by omega) (va_at.lt R1))
  · exact va_at.kept R2 (hag hs (by omega) (va_at.lt R2))
  · exact R3.kept (hag _ (by omega) R3.lt) (fun q => hag _ (by rw [t5 (by omega)]; omega) (R3.lte q))
  · exact R4.kept (hag _ (by omega) R4.lt) (fun q => hag _ (by rw [t6 q]; omega) (R4.lte q))
  · exact R5.kept (hag _ (by omega) R5.lt) (fun q => hag _ (by rw [t7 q]; omega) (R5.lte q))
  · rw [q17]; exact R5g
  · intro u hu
    rw [q0]
    have hc6 := R6 u hu
    rcases va_tag RT R9 hu with ⟨-, z1, z2⟩ | ⟨i, i1, i2, i3, -, z1, z2⟩
    · exact hc6.kept (hag _ (by omega) (va_at.lt hc6.1)) (hag _ (by omega) (va_at.lt hc6.2))
    · have hne : i ≠ j := fun q => by rw [q, h12] at i3; exact absurd i3 (by decide)
      exact hc6.kept (hag _ (by omega) (va_at.lt hc6.1)) (hag _ (by omega) (va_at.lt hc6.2))
  · intro i hi
    by_cases e : i = j
    · subst e
      exact (hkx.cg (τ := τ) (by rw [q4]) (eK 7 i (by decide) (by decide) (by decide) (by decide) (by decide)) (eK 8 i (by decide) (by decide) (by decide) (by decide) (by decide)) e11 (Nat.le_refl _) (fun _ _ => rfl) rfl).mk hob
    · have hk7 := R7 i hi
      exact (hk7.kept (hag _ (by rw [tw i hi]; omega) hk7.lt)).cg (fun k a1 a2 a3 a4 a5 a6 a7 a8 a9 a10 a11 a12 => eJ k i e a5 a6) rfl (hpn i e) (Nat.le_refl _) (fun _ _ => rfl) rfl
  · intro i hi hk4
    rw [q4] at hk4
    by_cases e : i = j
    · rw [e] at hk4 ⊢
      obtain ⟨f, f1, f2⟩ := hdr hk4
      exact ⟨f, f1, fun _ => f2⟩
    · obtain ⟨f, f1, f2⟩ := R8 i hi hk4
      obtain ⟨d1, d2⟩ := td i hi hk4
      exact ⟨f, f1.kept (hag _ (by omega) (va_at.lt f1.1)) (hag _ (by omega) (va_at.lt f1.2)), fun q c hc => by rw [e14 i c e hc]; exact f2 (by rw [← q12]; exact q) c hc⟩
  · rw [q4, q12]; exact R9
  · unfold Tg; rw [q4]; exact RT
  · rw [q19, q17]; exact R12
  · intro i hi q
    rw [q12] at q
    by_cases e : i = j
    · rw [e]; exact hpj
    · rw [hpn i e, R13 i hi q]
      unfold pin
      rw [q12, q4, eJ 11 i e (by decide) (by decide)]
theorem Tg_ec {h0 hs hc hw he ec ew ee e1 : Nat} {va va' wa da ra rl : Nat → Nat} {σ : Sg} {nW nV nE : Nat} (RT : Tg h0 hs hc hw he ec ew ee va wa da ra rl σ nW nV nE) (h1 : rl e1 = 5 ∨ rl e1 = 1000) (hW : nW ≤ 30) (hv : va' 0 = va 0) (hv1 : 1 ≤ nV) : Tg h0 hs hc hw he e1 ew ee va' wa da ra (va_up rl e1 5) σ nW (nV + 1) nE := by
  obtain ⟨t0, t1, t2, t3, t4, t5, t6, t7, t8, t9, tw, td⟩ := RT
  have N : ∀ p t, rl p = t → t ≠ 5 → t ≠ 1000 → va_up rl e1 5 p = t := fun p t hp a b => by
    rw [tag_up (fun e => by rw [e] at hp; rcases h1 with q | q <;> omega)]; exact hp
  exact ⟨N _ _ t0 (by omega) (by omega), N _ _ t1 (by omega) (by omega), N _ _ t2 (by omega) (by omega), N _ _ t3 (by omega) (by omega), N _ _ t4 (by omega) (by omega), fun q => tag_at, fun q => N _ _ (t6 q) (by omega) (by omega), fun q => N _ _ (t7 q) (by omega) (by omega), by rw [hv]; exact N _ _ t8 (by omega) (by omega), by rw [hv]; exact N _ _ t9 (by omega) (by omega), fun i hi => N _ _ (tw i hi) (by omega) (by omega), fun i hi hk => by
    obtain ⟨d1, d2⟩ := td i hi hk
    exact ⟨N _ _ d1 (by omega) (by omega), N _ _ d2 (by omega) (by omega)⟩⟩
theorem HR_cm {D : va_G} {cI cO : ClassId} {eA h0 : Nat} {B : Nat → Prop} {wa : Nat → Nat} {σ : Sg} {nW nV nE j ci : Nat} {ex : List Value} {res : Nat → Int32} {H H1 : Heap} {hs hc hw he ec ew ee pc pw pe e1 p1 : Nat} {gc gw ge g1 : Nat → Option Nat} {va da ra : Nat → Nat} {te pn : Nat → Int32} {rl : Nat → Nat}
  (R1 : Ob D h0 7 [.ref hs, .ref hw, .ref he, .int (σ 2 0), .int (σ 20 0), .int (σ 21 0)] H) (R3g : ∀ i, i < nV - 1 → gc i = some (va (i + 1))) (R4 : AL D cO eA hw ew nW pw gw H) (R4g : ∀ i, i < nW → gw i = some (wa i)) (R5 : AL D cO eA he ee nE pe ge H) (R5g : ∀ i, i < nE → ge i = some (wa (nat (σ 17 i)))) (R6 : ∀ v, v < nV → CLs D cI ra (va v) (fun c => σ 0 (16 * v + c)) H) (R7 : ∀ i, i < nW → WK D va da te pn σ nV i (wa i) H) (R8 : ∀ i, i < nW → (σ 4 i = 1 ∨ σ 4 i = 2) → ∃ f, CLs D cI ra (da i) f H ∧ (¬ σ 12 i = 2 → ∀ c, c < 16 → f c = σ 14 (16 * i + c))) (R9 : ∀ v, 1 ≤ v → v < nV → ∃ i, i < nW ∧ va v = da i ∧ (σ 4 i = 1 ∨ σ 4 i = 2) ∧ σ 12 i = 2) (RT : Tg h0 hs hc hw he ec ew ee va wa da ra rl σ nW nV nE) (RB : ∀ q, rl q < 1000 → B q) (RN : ∀ q, H.size ≤ q → B q) (RL : ∀ q, H.size ≤ q → rl q = 1000) (R12 : ∀ i, i < nE → σ 19 i = te (nat (σ 17 i))) (R13 : ∀ i, i < nW → σ 12 i = 0 → pn i = pin σ i)
  (hj : j < nW) (hW : nW ≤ 30) (hv1 : 1 ≤ nV) (hV : σ 1 0 = nI nV) (h12 : σ 12 j = 0) (hk : σ 4 j = 1 ∨ σ 4 j = 2) (hag : ∀ p, ¬ (rl p = 16 + 4 * j ∨ rl p = 18 + 4 * j ∨ rl p = 1 ∨ rl p = 2 ∨ rl p = 5) → p < H.size → H1[p]? = H[p]?) (hsz : H.size ≤ H1.size)
  (hkx : WKx va da σ nV j ci ex) (hob : Ob D (wa j) ci (WFs (upd (wx σ te pn j) 6 (nI nV)) ex) H1) (hdr : CLs D cI ra (da j) res H1) (hres : ∀ c, c < 16 → res c = cmt σ nV j 0 (16 * nV + c)) (hst : Ob D hs 4 [.ref (va 0), .ref hc, .ref (da j)] H1) (hAL : AL D cO eA hc e1 nV p1 g1 H1) (hg1 : ∀ i, i < nV - 1 → g1 i = gc i) (hg2 : g1 (nV - 1) = some (da j)) (he1 : (e1 = ec ∧ 1 < nV) ∨ H.size ≤ e1) (hn : ∀ i, i < nE → nat (σ 17 i) ≠ j ∧ nat (σ 17 i) < nW) : HRE D cI cO eA B h0 wa j (u2 (cmt σ nV j) 12 j 2) nW (nV + 1) nE H1 := by
  obtain ⟨t0, t1, t2, t3, t4, t5, t6, t7, t8, t9, tw, td⟩ := id RT
  obtain ⟨dj1, dj2⟩ := td j hj hk
  have eK : ∀ k i, k ≠ 0 → k ≠ 1 → k ≠ 11 → k ≠ 12 → u2 (cmt σ nV j) 12 j 2 k i = σ k i := fun k i a b c d => by rw [u2_ne _ _ (fun q => d q.1), cmt_k i a b c]
  have e12 : ∀ i, i ≠ j → u2 (cmt σ nV j) 12 j 2 12 i = σ 12 i := fun i hi => by rw [u2_ne _ _ (fun q => hi q.2), cmt_k i (by decide) (by decide) (by decide)]
  have e11 : ∀ i, i ≠ j → u2 (cmt σ nV j) 12 j 2 11 i = σ 11 i := fun i hi => by rw [u2_ne _ _ (fun q => by omega), cmt_11, if_neg hi]
  have e0 : ∀ i, u2 (cmt σ nV j) 12 j 2 0 i = cmt σ nV j 0 i := fun i => u2_ne _ _ (fun q => by omega)
  obtain ⟨τ, hτ⟩ : ∃ z : Sg, z = u2 (cmt σ nV j) 12 j 2 := ⟨_, rfl⟩
  rw [← hτ] at eK e12 e11 e0 ⊢
  have e12j : τ 12 j = 2 := by rw [hτ, u2_same]
  have e11j : τ 11 j = nI nV := by rw [hτ, u2_ne _ _ (fun q => by omega), cmt_11, if_pos rfl, hV]
  have q4 : τ 4 = σ 4 := funext fun i => eK 4 i (by decide) (by decide) (by decide) (by decide)
  have q17 : τ 17 = σ 17 := funext fun i => eK 17 i (by decide) (by decide) (by decide) (by decide)
  have q19 : τ 19 = σ 19 := funext fun i => eK 19 i (by decide) (by decide) (by decide) (by decide)
  have hvn : ∀ v, v < nV → va_up va nV (da j) v = va v := fun v hv => by unfold va_up; rw [if_neg (by omega)]
  have hvN : va_up va nV (da j) nV = da j := by unfold va_up; rw [if_pos rfl]
  have hse1 : e1 < H1.size := hAL.lte hv1
  have ht1 : rl e1 = 5 ∨ rl e1 = 1000 := he1.elim (fun q => Or.inl (by rw [q.1]; exact t5 q.2)) (fun q => Or.inr (RL e1 q))
  refine ⟨hs, hc, hw, he, e1, ew, ee, p1, pw, pe, g1, gw, ge, va_up va nV (da j), da, ra, te, pn, va_up rl e1 5, ?_, ?_, ⟨?_, ?_⟩, ⟨?_, R4g⟩, ⟨?_, ?_⟩, ?_, ?_, ⟨ci, ex, ?_, ?_⟩, ?_, ?_, ?_, ?_, fun q h => RN q (by omega), ?_, ?_, ?_⟩
  · rw [eK 2 0 (by decide) (by decide) (by decide) (by decide), eK 20 0 (by decide) (by decide) (by decide) (by decide), eK 21 0 (by decide) (by decide) (by decide) (by decide)]; exact va_at.kept R1 (hag h0 (by omega) (va_at.lt R1))
  · rw [Nat.add_sub_cancel, hvN, hvn 0 (by omega)]; exact hst
  · rw [Nat.add_sub_cancel]; exact hAL
  · intro i hi
    by_cases q : i = nV - 1
    · rw [q, hg2, show nV - 1 + 1 = nV by omega, hvN]
    · rw [hg1 i (by omega), R3g i (by omega), hvn _ (by omega)]
  · exact R4.kept (hag _ (by omega) R4.lt) (fun q => hag _ (by rw [t6 q]; omega) (R4.lte q))
  · exact R5.kept (hag _ (by omega) R5.lt) (fun q => hag _ (by rw [t7 q]; omega) (R5.lte q))
  · rw [q17]; exact R5g
  · intro u hu
    by_cases q : u = nV
    · rw [q, hvN]
      exact ⟨hdr.1, Ai.congr hdr.2 (fun c hc => by rw [e0]; exact hres c hc)⟩
    · rw [hvn u (by omega)]
      have hc6 := R6 u (by omega)
      have hc7 : CLs D cI ra (va u) (fun c => σ 0 (16 * u + c)) H1 := by
        rcases va_tag RT R9 (show u < nV by omega) with ⟨-, z1, z2⟩ | ⟨i, i1, i2, i3, -, z1, z2⟩
        · exact hc6.kept (hag _ (by omega) (va_at.lt hc6.1)) (hag _ (by omega) (va_at.lt hc6.2))
        · have hne : i ≠ j := fun q => by rw [q, h12] at i3; exact absurd i3 (by decide)
          exact hc6.kept (hag _ (by omega) (va_at.lt hc6.1)) (hag _ (by omega) (va_at.lt hc6.2))
      exact ⟨hc7.1, Ai.congr hc7.2 (fun c hc => by rw [e0, cmt_0, blk_i _ _ _ _ (by omega)])⟩
  · intro i hi e
    have hk7 := R7 i hi
    exact (hk7.kept (hag _ (by rw [tw i hi]; omega) hk7.lt)).cg (fun k a1 a2 a3 a4 a5 a6 a7 a8 a9 a10 a11 a12 => by by_cases z : k = 11; (rw [z]; exact e11 i e); (by_cases z2 : k = 12; (rw [z2]; exact e12 i e); (exact eK k i a1 a2 z z2))) rfl rfl (by omega) hvn rfl
  · exact hkx.cg (τ := τ) (by rw [q4]) (eK 7 j (by decide) (by decide) (by decide) (by decide)) (eK 8 j (by decide) (by decide) (by decide) (by decide)) (fun q => by rcases hk with z | z <;> exact absurd (q.symm.trans z) (by decide)) (by omega) hvn rfl
  · rw [WFs_cg (y := upd (wx σ te pn j) 6 (nI nV)) (fun k hk' => ?_)]
    · exact hob
    · match k, hk' with
      | 0, _ => rfl
      | 1, _ => exact eK 4 j (by decide) (by decide) (by decide) (by decide)
      | 2, _ => exact eK 5 j (by decide) (by decide) (by decide) (by decide)
      | 3, _ => exact eK 6 j (by decide) (by decide) (by decide) (by decide)
      | 4, _ => exact eK 9 j (by decide) (by decide) (by decide) (by decide)
      | 5, _ => exact eK 10 j (by decide) (by decide) (by decide) (by decide)
      | 6, _ => show hvr τ j = nI nV; unfold hvr; rw [if_neg (fun q => q.2 e12j), e11j]
      | 7, _ => rfl
      | 8, _ => exact eK 13 j (by decide) (by decide) (by decide) (by decide)
      | 9, _ => exact h12.symm
      | 10, _ => rfl
      | k + 11, h => exact absurd h (by omega)
  · intro i hi hk4
    rw [q4] at hk4
    by_cases e : i = j
    · rw [e]; exact ⟨res, hdr, fun q => absurd e12j q⟩
    · obtain ⟨f, f1, f2⟩ := R8 i hi hk4
      obtain ⟨d1, d2⟩ := td i hi hk4
      exact ⟨f, f1.kept (hag _ (by omega) (va_at.lt f1.1)) (hag _ (by omega) (va_at.lt f1.2)), fun q c hc => by rw [eK 14 _ (by decide) (by decide) (by decide) (by decide)]; exact f2 (by rw [← e12 i e]; exact q) c hc⟩
  · intro u u1 u2
    by_cases q : u = nV
    · rw [q, hvN]; exact ⟨j, hj, rfl, by rw [q4]; exact hk, e12j⟩
    · obtain ⟨i, i1, i2, i3, i4⟩ := R9 u u1 (by omega)
      have hne : i ≠ j := fun q => by rw [q, h12] at i4; exact absurd i4 (by decide)
      exact ⟨i, i1, by rw [hvn u (by omega)]; exact i2, by rw [q4]; exact i3, by rw [e12 i hne]; exact i4⟩
  · have hT := Tg_ec (va' := va_up va nV (da j)) RT ht1 hW (hvn 0 (by omega)) hv1
    unfold Tg at hT ⊢
    rw [q4]
    exact hT
  · intro q hq
    by_cases e : q = e1
    · rw [e]; exact he1.elim (fun z => by rw [z.1]; exact RB _ (by rw [t5 z.2]; omega)) (fun z => RN _ z)
    · rw [tag_up e] at hq; exact RB q hq
  · intro q hq; rw [tag_up (by omega)]; exact RL q (by omega)
  · intro i hi; rw [q19, q17]; exact ⟨R12 i hi, hn i hi⟩
  · intro i hi q
    have hne : i ≠ j := fun z => by rw [z, e12j] at q; exact absurd q (by decide)
    rw [e12 i hne] at q
    rw [R13 i hi q]
    unfold pin
    rw [e12 i hne, q4, e11 i hne]
section St10
variable {σ : Sg} {nv j : Nat}
theorem stp_10a (h : σ 4 j = 0) : stp σ nv j 10 j = 31 * σ 10 j + σ 0 (16 * nat (σ 11 j) + aN σ j) := by
  unfold stp stB
  rw [if_pos h, u2_ne _ _ (fun q => by omega), u2_same]
theorem stp_10b (h : σ 4 j = 1 ∨ σ 4 j = 2) : stp σ nv j 10 j = σ 10 j := by
  unfold stp stB
  rcases h with h | h
  · rw [if_neg (by rw [h]; decide), if_pos h, u2_ne _ _ (fun q => by omega), u2_ne _ _ (fun q => by omega)]
  · rw [if_neg (by rw [h]; decide), if_neg (by rw [h]; decide), if_pos h, u2_ne _ _ (fun q => by omega), rd_k _ (by decide) (by decide) (by decide)]
theorem stp_10c (h : σ 4 j = 3) : stp σ nv j 10 j = 31 * σ 10 j + isum (fun c => σ 0 (16 * nat (σ 11 j + 1) + c)) 16 := by
  unfold stp stB
  rw [if_neg (by rw [h]; decide), if_neg (by rw [h]; decide), if_neg (by rw [h]; decide), u2_ne _ _ (fun q => by omega), u2_same]
theorem stp_14b {c : Nat} (h : σ 4 j = 1) : stp σ nv j 14 (16 * j + c) = upd (fun c => σ 14 (16 * j + c)) (aN σ j) (σ 14 (16 * j + aN σ j) + σ 8 j) c := by
  unfold stp stB
  rw [if_neg (by rw [h]; decide), if_pos h, u2_ne _ _ (fun q => by omega), u2_if]
  unfold upd
  by_cases q : c = aN σ j
  · rw [if_pos ⟨rfl, by omega⟩, if_pos q]
  · rw [if_neg (fun z => q (by omega)), if_neg q]
theorem stp_14c {c : Nat} (h : σ 4 j = 2) (hc : c < 16) : stp σ nv j 14 (16 * j + c) = rnd (fun c => if σ 9 j = 0 then σ 0 (16 * (nv - 1) + c) else σ 14 (16 * j + c)) c := by
  unfold stp stB
  rw [if_neg (by rw [h]; decide), if_neg (by rw [h]; decide), if_pos h, u2_ne _ _ (fun q => by omega)]
  have e : ∀ c, c < 16 → bfr (rdT σ nv j) j 16 15 c = if σ 9 j = 0 then σ 0 (16 * (nv - 1) + c) else σ 14 (16 * j + c) := fun c hc => by
    unfold bfr rdT
    rw [if_pos ⟨rfl, hc⟩]
    by_cases q : σ 9 j = 0
    · rw [if_pos q, if_pos q]
      unfold tk
      rw [if_pos ⟨rfl, by omega, by omega⟩, u2_ne _ _ (fun z => by omega), show 16 * j + c - 16 * j = c by omega]
    · rw [if_neg q, if_neg q]
  unfold rd spr
  rw [if_pos ⟨rfl, by omega, by omega⟩, show 16 * j + c - 16 * j = c by omega]
  unfold rnd
  rw [e c hc, e _ (Nat.mod_lt _ (by decide))]
theorem cmt_new {c : Nat} (hc : c < 16) : cmt σ nv j 0 (16 * nv + c) = (if σ 4 j = 1 then σ 0 (16 * nv + c - 16) else 0) + σ 14 (16 * j + c) := by
  rw [cmt_0]
  unfold blk
  rw [if_pos ⟨rfl, by omega, by omega⟩, show 16 * nv + c - 16 * nv = c by omega]
end St10
