theorem u2_id (σ : Sg) (k i : Nat) : u2 σ k i (σ k i) = σ := by
  funext k' i'
  rw [u2_if]
  by_cases h : k' = k ∧ i' = i
  · rw [if_pos h, h.1, h.2]
  · rw [if_neg h]
theorem HR.o {D : va_G} {cI cO : ClassId} {eA h0 : Nat} {B : Nat → Prop} {wa : Nat → Nat} {σ : Sg} {nW nV nE : Nat} {H : Heap} (h : HR D cI cO eA B h0 wa σ nW nV nE H) : ∃ fs, Ob D h0 7 fs H := by
  obtain ⟨hs, hc, hw, he, ec, ew, ee, pc, pw, pe, gc, gw, ge, va, da, ra, te, pn, rl, R1, R2⟩ := h
  exact ⟨_, R1⟩
theorem HRE.o {D : va_G} {cI cO : ClassId} {eA h0 : Nat} {B : Nat → Prop} {wa : Nat → Nat} {σ : Sg} {nW nV nE j : Nat} {H : Heap} (h : HRE D cI cO eA B h0 wa j σ nW nV nE H) : ∃ fs, Ob D h0 7 fs H := by
  obtain ⟨hs, hc, hw, he, ec, ew, ee, pc, pw, pe, gc, gw, ge, va, da, ra, te, pn, rl, R1, R2⟩ := h
  exact ⟨_, R1⟩
theorem HR_f {D : va_G} {cI cO : ClassId} {eA h0 : Nat} {B : Nat → Prop} {wa : Nat → Nat} {σ : Sg} {nW nV nE k : Nat} {v : Int32} {H H1 : Heap} {hs hc hw he ec ew ee pc pw pe : Nat} {gc gw ge : Nat → Option Nat} {va da ra : Nat → Nat} {te pn : Nat → Int32} {rl : Nat → Nat}
  (R1 : Ob D h0 7 [.ref hs, .ref hw, .ref he, .int (σ 2 0), .int (σ 20 0), .int (σ 21 0)] H) (R2 : Ob D hs 4 [.ref (va 0), .ref hc, .ref (va (nV - 1))] H) (R3 : AL D cO eA hc ec (nV - 1) pc gc H) (R3g : ∀ i, i < nV - 1 → gc i = some (va (i + 1))) (R4 : AL D cO eA hw ew nW pw gw H) (R4g : ∀ i, i < nW → gw i = some (wa i)) (R5 : AL D cO eA he ee nE pe ge H) (R5g : ∀ i, i < nE → ge i = some (wa (nat (σ 17 i)))) (R6 : ∀ v, v < nV → CLs D cI ra (va v) (fun c => σ 0 (16 * v + c)) H) (R7 : ∀ i, i < nW → WK D va da te pn σ nV i (wa i) H) (R8 : ∀ i, i < nW → (σ 4 i = 1 ∨ σ 4 i = 2) → ∃ f, CLs D cI ra (da i) f H ∧ (¬ σ 12 i = 2 → ∀ c, c < 16 → f c = σ 14 (16 * i + c))) (R9 : ∀ v, 1 ≤ v → v < nV → ∃ i, i < nW ∧ va v = da i ∧ (σ 4 i = 1 ∨ σ 4 i = 2) ∧ σ 12 i = 2) (RT : Tg h0 hs hc hw he ec ew ee va wa da ra rl σ nW nV nE) (RB : ∀ q, rl q < 1000 → B q) (RN : ∀ q, H.size ≤ q → B q) (RL : ∀ q, H.size ≤ q → rl q = 1000) (R12 : ∀ i, i < nE → σ 19 i = te (nat (σ 17 i))) (R13 : ∀ i, i < nW → σ 12 i = 0 → pn i = pin σ i)
  (hk : k = 2 ∨ k = 20 ∨ k = 21) (h1 : Ob D h0 7 [.ref hs, .ref hw, .ref he, .int (u2 σ k 0 v 2 0), .int (u2 σ k 0 v 20 0), .int (u2 σ k 0 v 21 0)] H1) (oq : ∀ q : Nat, q ≠ h0 → H1[q]? = H[q]?) (hz : H1.size = H.size) : HR D cI cO eA B h0 wa (u2 σ k 0 v) nW nV nE H1 := by
  obtain ⟨t0, t1, t2, t3, t4, t5, t6, t7, t8, t9, tw, td⟩ := id RT
  obtain ⟨k1, k2, k3, k4, k5, k6, k7, k8⟩ := HR_keep (H1 := H1) (fun t => t = 0) R1 R2 R3 R4 R5 R6 R7 R9 RT (fun p h1 h2 => oq p (fun e => h1 (by rw [e]; exact t0)))
  have eK : ∀ k', k' ≠ 2 → k' ≠ 20 → k' ≠ 21 → u2 σ k 0 v k' = σ k' := fun k' a b c => u2_k σ v (by omega)
  have q0 := eK 0 (by decide) (by decide) (by decide)
  have q4 := eK 4 (by decide) (by decide) (by decide)
  have q11 := eK 11 (by decide) (by decide) (by decide)
  have q12 := eK 12 (by decide) (by decide) (by decide)
  have q14 := eK 14 (by decide) (by decide) (by decide)
  have q17 := eK 17 (by decide) (by decide) (by decide)
  have q19 := eK 19 (by decide) (by decide) (by decide)
  refine ⟨hs, hc, hw, he, ec, ew, ee, pc, pw, pe, gc, gw, ge, va, da, ra, te, pn, rl, h1, k2 (by omega), ⟨k3 (by omega) (by omega), R3g⟩, ⟨k4 (by omega) (by omega), R4g⟩, ⟨k5 (by omega) (by omega), by rw [q17]; exact R5g⟩, ?_, ?_, ?_, ?_, ?_, RB, fun q h => RN q (by omega), fun q h => RL q (by omega), ?_, ?_⟩
  · rw [q0]; exact k6 (by omega) (by omega) (fun i _ _ => ⟨by omega, by omega⟩)
  · intro i hi
    exact (k7 i hi (by omega)).cg (fun k' a1 a2 a3 a4 a5 a6 a7 a8 a9 a10 a11 a12 => by rw [eK k' a3 a11 a12]) rfl rfl (Nat.le_refl _) (fun _ _ => rfl) rfl
  · rw [q4, q12, q14]
    intro i hi hk4
    obtain ⟨f, f1, f2⟩ := R8 i hi hk4
    exact ⟨f, k8 i hi hk4 (by omega) (by omega) f f1, f2⟩
  · rw [q4, q12]; exact R9
  · unfold Tg; rw [q4]; exact RT
  · rw [q19, q17]; exact R12
  · intro i hi q
    unfold pin
    rw [q12] at q
    rw [q12, q4, q11]
    exact R13 i hi q
theorem fail_lt {σ : Sg} {nV j : Nat} (h : WI σ nV j) (hv : nV ≤ 100) (hf : σ 6 j = σ 9 j + 1) (hns : ¬ (σ 9 j = σ 5 j ∧ ¬ σ 4 j = 3)) : σ 9 j < σ 5 j := by
  obtain ⟨st, fa, a, dn, a5, a6, a7, a9, b1, b2, b3, b4, hc⟩ := h
  have A : dn ≤ st → st ≤ 20 → ¬ σ 4 j = 3 → σ 9 j < σ 5 j := fun h1 h2 h3 => by
    rw [a9, a5]
    exact nI_lt (Nat.lt_of_le_of_ne h1 (fun q => hns ⟨by rw [a9, a5, q], h3⟩)) (by omega)
  rcases hc with ⟨c1, c2, c3, c4, c5, v, c6, c7⟩ | ⟨c1, c2, c3, c4, c5, c6⟩ | ⟨c1, c2, c3, c4, c5, c6⟩ | ⟨c1, c2, c3, v, c4, c5, c6⟩
  · exact A c4 c3 (by rw [c1]; decide)
  · exact A c4 c3 (by rw [c1]; decide)
  · exact A c4 c3 (by rw [c1]; decide)
  · rw [a6, a9, c3, nI_1] at hf
    have := (nI_eq (by omega) (by omega)).mp hf
    omega
theorem Inv.e17 {σ : Sg} {nW nV nE j : Nat} (h : Inv σ nW nV nE) (h12 : σ 12 j = 0) : ∀ i, i < nE → nat (σ 17 i) ≠ j ∧ nat (σ 17 i) < nW := by
  intro i hi
  obtain ⟨w, w1, w2, w3, w4⟩ := h.2.2.2.2.2.2.2.2.2.2.2 i hi
  have h30 := h.n30
  rw [w2, nat_nI (by omega)]
  exact ⟨fun q => by rw [q, h12] at w4; exact absurd w4 (by decide), w1⟩
set_option maxHeartbeats 4000000 in
set_option maxRecDepth 100000 in
theorem c_giveTurn (l : Launch) {D : va_G} {cI cZ cO : ClassId} {mi eA : Nat} {B : Nat → Prop} (H : Heap) (h0 : Nat) (wa : Nat → Nat) (σ : Sg) (nW nV nE : Nat) (j d : Nat) (hR : HR D cI cO eA B h0 wa σ nW nV nE H) (hI : Inv σ nW nV nE) (hj : j < nW) (hd : d = if 1 < (tn σ nV nE j).1 then 1 else 0) : Met l yX7_giveTurn wsX7_giveTurn ({ frames := 10, cells := 2 * d, slots := 66 * d, locals := 254 }) (Pz D cI cZ cO mi eA B [.ref h0, .ref (wa j)] H) (Qki (fun r H1 => r = (tn σ nV nE j).1 ∧ ∃ nV', HR D cI cO eA B h0 wa (tn σ nV nE j).2 nW nV' (nE + d) H1 ∧ Inv (tn σ nV nE j).2 nW nV' (nE + d)) B) (2 * d) (66 * d) B := by
  refine Met.ofW (cc := cX7_giveTurn) (maxL := 3) (ret := (some .int)) (by decide) rfl ?_
  intro p e s m args below meth c s₁ Bd hml hv
  obtain ⟨rfl, rfl, hK, hZ⟩ := hv
  have hx := Bd.exec
  have hb := Bd.bytes
  have hr := Bd.returns
  have hts := atoms_spec (ws := wsX7_giveTurn) Bd.pre
  have hown : s.vm.findClass RX7 = some m.cls := findClass_of_methodNamed Bd.named
  have hlocks := Bd.notSynchronized
  have hS : va_S B s.heap s.heap [] := va_S.rf
  have hl := lv_entry ([.ref h0, .ref (wa j)]) (n := 3) (Nat.le_of_ble_eq_true rfl)
  rw [lg_entry_eq]
  generalize (lg_sl ([.ref h0, .ref (wa j)]) ++ List.replicate (3 - (lg_sl ([.ref h0, .ref (wa j)])).length) Slot.unset).toArray = ls at hl ⊢
  have hl : lv_has ls 3 [(0, .ref h0), (1, .ref (wa j))] := hl
  have hiX7 : ∀ w ∈ wsX70, w ∈ wsX7_giveTurn := by decide +kernel
  have hR0 := hR
  obtain ⟨hs, hc, hw, he, ec, ew, ee, pc, pw, pe, gc, gw, ge, va, da, ra, te, pn, rl, R1, R2, ⟨R3, R3g⟩, ⟨R4, R4g⟩, ⟨R5, R5g⟩, R6, R7, R8, R9, RT, RB, RN, RL, R12, R13⟩ := hR
  have hn30 := hI.n30
  have heW := hI.eW
  have hvE := hI.2.2.2.2.2.1
  have hv1 := hI.2.2.2.2.1
  have hiX1 : ∀ w ∈ wsX10, w ∈ wsX7_giveTurn := by decide +kernel
  have hiX2 : ∀ w ∈ wsX20, w ∈ wsX7_giveTurn := by decide +kernel
  have hiX4 : ∀ w ∈ wsX40, w ∈ wsX7_giveTurn := by decide +kernel
  have hiX6 : ∀ w ∈ wsX60, w ∈ wsX7_giveTurn := by decide +kernel
  obtain ⟨t0, t1, t2, t3, t4, t5, t6, t7, t8, t9, tw, td⟩ := id RT
  obtain ⟨ci, ex, hkx, hob⟩ := (R7 j hj).ob2
  have hvc := hkx.vc
  have hwi := hI.wi hj
  have hBh : B h0 := RB _ (by omega)
  have hnV : nV ≤ 31 := by omega
  refine lv_aload_n hx hb dX7_giveTurn_0 rfl (lv_at hl 1 rfl) ?_
  refine w_hasEnded (x := wx σ te pn j) (rest := [])  ⟨hx, hb, hml, hown, hts⟩ gX7_giveTurn_X5_hasEnded_u90X1 gX7_giveTurn_X5_hasEnded_u90X2 gX7_giveTurn_X5_hasEnded_u90X4 gX7_giveTurn_X5_hasEnded_u90X6 hK hob hvc  ⟨Nat.le_of_ble_eq_true rfl, Nat.le_of_ble_eq_true rfl⟩ ⟨Nat.le_of_ble_eq_true rfl, Nat.le_of_ble_eq_true rfl⟩ ⟨Nat.le_of_ble_eq_true rfl, Nat.le_of_ble_eq_true rfl⟩ ⟨Nat.le_of_ble_eq_true rfl, Nat.le_of_ble_eq_true rfl⟩ (Nat.le_of_ble_eq_true rfl) hl.1 ⟨(Nat.zero_le _), (Nat.zero_le _)⟩ hS dX7_giveTurn_1 (fun locs hS => ?_)
  refine W.eq (g2 := F0 m 4 ls [.int (b2 (decide (¬ σ 12 j = 0)))]) rfl ?_
  refine lv_if_eq (tgt := 9) hx hb dX7_giveTurn_4 (by decide) (fun c4 => ?_) (fun c4 => ?_)
  · have c4 : σ 12 j = 0 := Decidable.byContradiction (of_decide_eq_false (b2_0 c4))
    refine lv_aload_n hx hb dX7_giveTurn_9 rfl (lv_at hl 0 rfl) ?_
    refine lv_aload_n hx hb dX7_giveTurn_10 rfl (lv_at hl 1 rfl) ?_
    refine k_callpi (v := b2 (wt σ j)) (va_runV (As := [.ref (wa j)]) (rest := []) ⟨hx, hb, hml, hown, hts⟩ (c_stands l _ h0 wa σ nW nV nE j hR0 hI hj) (cwV 1 hts gX7_giveTurn_X7_standsStill rfl rfl rfl (by decide +kernel) ⟨Nat.le_of_ble_eq_true rfl, Nat.le_of_ble_eq_true rfl⟩) (k_preV hK (k_recv hK.1 R1 rfl)) rfl rfl hl.1 rfl (lv_room (Nat.le_of_ble_eq_true rfl)) dX7_giveTurn_11 ⟨(Nat.zero_le _), (Nat.zero_le _)⟩) hS (fun locs hS => ?_)
    refine lv_if_eq (tgt := 29) hx hb dX7_giveTurn_14 (by decide) (fun c14 => ?_) (fun c14 => ?_)
    · have hwt := b2_0 c14
      refine lv_aload_n hx hb dX7_giveTurn_29 rfl (lv_at hl 0 rfl) ?_
      refine lv_dup hx hb dX7_giveTurn_30 rfl ?_
      refine k_get (C := RX7) (T := TX7) (N := 6) (v := .int (σ 20 0)) hx hb hts hiX7 hown hK.1 R1 rfl 4 (by decide) (hts (.fieldLink RX7 155 "HouseWorkers" "turnsThatDid" "I") (by decide +kernel)) (fun _ h9 => h9) rfl dX7_giveTurn_31 ?_
      refine lv_iconst (v := 1) hx hb dX7_giveTurn_34 (by decide) ?_
      refine lv_iadd hx hb dX7_giveTurn_35 ?_
      refine k_put (A := B) (C := RX7) (T := TX7) (N := 6) (ty := .int) (v := .int ((σ 20 0) + 1)) hx hb hts hiX7 tyX7 tyX7_ok nmX7 hown hK.1 R1 hBh hS rfl 4 (by decide) (hts (.fieldLink RX7 155 "HouseWorkers" "turnsThatDid" "I") (by decide +kernel)) (fun _ h9 => h9) rfl (by decide +kernel) rfl rfl (Nat.le_of_ble_eq_true rfl) dX7_giveTurn_36 (fun H1 locs hO2 hz3 hq4 hS => ?_)
      have hRk : HR D cI cO eA B h0 wa (u2 σ 20 0 (σ 20 0 + 1)) nW nV nE H1 := HR_f R1 R2 R3 R3g R4 R4g R5 R5g R6 R7 R8 R9 RT RB RN RL R12 R13 (by omega) hO2 hq4 hz3
      refine lv_aload_n hx hb dX7_giveTurn_39 rfl (lv_at hl 0 rfl) ?_
      refine lv_aload_n hx hb dX7_giveTurn_40 rfl (lv_at hl 1 rfl) ?_
      have htn : tn σ nV nE j = tnD (u2 σ 20 0 (σ 20 0 + 1)) nV nE j := by unfold tn; rw [hwt]; rfl
      have hI1 : Inv (u2 σ 20 0 (σ 20 0 + 1)) nW nV nE := inv_irr hI (by omega)
      have h12 : u2 σ 20 0 (σ 20 0 + 1) 12 j = 0 := c4
      have hst : u2 σ 20 0 (σ 20 0 + 1) 13 j = 0 → u2 σ 20 0 (σ 20 0 + 1) 4 j = 3 → ¬ u2 σ 20 0 (σ 20 0 + 1) 11 j = u2 σ 20 0 (σ 20 0 + 1) 1 0 - 1 := (wt_f hwt).2
      rw [htn] at hd ⊢
      generalize u2 σ 20 0 (σ 20 0 + 1) = τ at hd hRk hI1 h12 hst ⊢
      obtain ⟨fs0, hO⟩ := hRk.o
      have h17 := hI1.e17 h12
      have hwi1 := hI1.wi hj
      have hZc : ZZ eA B s H1 := hZ.S (fun q h => h) hS
      by_cases h13 : τ 13 j = 0
      · by_cases hns : τ 9 j = τ 5 j ∧ ¬ τ 4 j = 3
        · have hk12 : τ 4 j = 1 ∨ τ 4 j = 2 := by obtain ⟨st, fa, a, dn, a5, a6, a7, a9, b1, b2, b3, b4, hc⟩ := hwi1; rcases hc with ⟨c1, c2, c3, c4, c5, v, c6, c7⟩ | ⟨c1, c2, c3, c4, c5, c6⟩ | ⟨c1, c2, c3, c4, c5, c6⟩ | ⟨c1, c2, c3, v, c4, c5, c6⟩; (have := c5 h12; have hds : dn = st := (nI_eq (by omega) (by omega)).mp (a9.symm.trans (hns.1.trans a5)); omega); (exact Or.inl c1); (exact Or.inr c1); exact absurd c1 hns.2
          have hX : tnD τ nV nE j = (2, fin (cmt τ nV j) nE j 2) := by unfold tnD; rw [if_neg (fun q => q h13), if_pos hns]
          have hd1 : d = 1 := by rw [hd, hX]; rfl
          subst hd1
          refine k_calli (va_runV (As := [.ref (wa j)]) (rest := []) ⟨hx, hb, hml, hown, hts⟩ (c_act_k l _ h0 wa τ nW nV nE j hRk hI1 hj h12 h13 hns.1 hk12 h17) (cwV 1 hts gX7_giveTurn_X7_act rfl rfl rfl (by decide +kernel) ⟨Nat.le_of_ble_eq_true rfl, Nat.le_of_ble_eq_true rfl⟩) (z_preV hK hZc (k_recv hK.1 hO rfl)) rfl rfl hl.1 rfl (lv_room (Nat.le_of_ble_eq_true rfl)) dX7_giveTurn_41 ⟨Nat.le_of_ble_eq_true rfl, Nat.le_of_ble_eq_true rfl⟩) hS (fun q h => h) (fun r9 Ha locs hp9 hza hka hS => ?_)
          obtain ⟨hr9, hRa⟩ := hp9
          have hr9 : r9 = 2 := hr9
          subst hr9
          refine lv_istore_n (lv' := [(2, .int 2), (0, .ref h0), (1, .ref (wa j))]) hx hb dX7_giveTurn_44 rfl hl (by decide) rfl (fun ls hl => ?_)
          refine lv_iload_n hx hb dX7_giveTurn_45 rfl (lv_at hl 0 rfl) ?_
          refine lv_iconst (v := 1) hx hb dX7_giveTurn_46 (by decide) ?_
          refine lv_icmp_eq (tgt := 56) hx hb dX7_giveTurn_47 (by decide) (fun c47 => ?_) (fun c47 => ?_)
          · exact absurd c47 (by decide)
          · refine lv_aload_n hx hb dX7_giveTurn_50 rfl (lv_at hl 1 rfl) ?_
            refine lv_aload_n hx hb dX7_giveTurn_51 rfl (lv_at hl 2 rfl) ?_
            refine lv_iload_n hx hb dX7_giveTurn_52 rfl (lv_at hl 0 rfl) ?_
            have hEe := hRa
            obtain ⟨fs1, hO1⟩ := hEe.o
            have hZe : ZZ eA B s Ha := hZ.S (fun q h => h) hS
            refine k_callv (va_runV (As := [.ref (wa j), .int 2]) (rest := []) ⟨hx, hb, hml, hown, hts⟩ (c_endWork l _ h0 wa (cmt τ nV j) nW (nV + 1) nE j 2 hEe hj hn30 (by omega)) (cwV 2 hts gX7_giveTurn_X7_endWork rfl rfl rfl (by decide +kernel) ⟨Nat.le_of_ble_eq_true rfl, Nat.le_of_ble_eq_true rfl⟩) (z_preV hK hZe (k_recv hK.1 hO1 rfl)) rfl rfl hl.1 rfl (lv_room (Nat.le_of_ble_eq_true rfl)) dX7_giveTurn_53 ⟨Nat.le_of_ble_eq_true rfl, Nat.le_of_ble_eq_true rfl⟩) hS (fun q h => h) (fun Hb locs hRb hzb hkb hS => ?_)
            refine lv_iload_n hx hb dX7_giveTurn_56 rfl (lv_at hl 0 rfl) ?_
            refine W.widen (k := 2 * 1) (n := 66 * 1) (Nat.le_of_ble_eq_true rfl) (Nat.le_of_ble_eq_true rfl) ?_
            exact k_reti hx hb hr hlocks ⟨by rw [hX], (nV + 1), by rw [hX]; exact hRb, by rw [hX]; exact inv_cmtfin hI1 hj h12 hk12 hns.1⟩ hS dX7_giveTurn_57
        · by_cases hf : τ 6 j = τ 9 j + 1
          · have hlt := fail_lt hwi1 (by omega) hf hns
            have hX : tnD τ nV nE j = (3, fin τ nE j 3) := by unfold tnD; rw [if_neg (fun q => q h13), if_neg hns, if_pos hf]
            have hd1 : d = 1 := by rw [hd, hX]; rfl
            subst hd1
            refine k_callpi (v := 3) (va_runV (As := [.ref (wa j)]) (rest := []) ⟨hx, hb, hml, hown, hts⟩ (c_act_f l _ h0 wa τ nW nV nE j hRk hI1 hj h12 h13 hf hlt) (cwV 1 hts gX7_giveTurn_X7_act rfl rfl rfl (by decide +kernel) ⟨Nat.le_of_ble_eq_true rfl, Nat.le_of_ble_eq_true rfl⟩) (k_preV hK (k_recv hK.1 hO rfl)) rfl rfl hl.1 rfl (lv_room (Nat.le_of_ble_eq_true rfl)) dX7_giveTurn_41 ⟨(Nat.zero_le _), (Nat.zero_le _)⟩) hS (fun locs hS => ?_)
            refine lv_istore_n (lv' := [(2, .int 3), (0, .ref h0), (1, .ref (wa j))]) hx hb dX7_giveTurn_44 rfl hl (by decide) rfl (fun ls hl => ?_)
            refine lv_iload_n hx hb dX7_giveTurn_45 rfl (lv_at hl 0 rfl) ?_
            refine lv_iconst (v := 1) hx hb dX7_giveTurn_46 (by decide) ?_
            refine lv_icmp_eq (tgt := 56) hx hb dX7_giveTurn_47 (by decide) (fun c47 => ?_) (fun c47 => ?_)
            · exact absurd c47 (by decide)
            · refine lv_aload_n hx hb dX7_giveTurn_50 rfl (lv_at hl 1 rfl) ?_
              refine lv_aload_n hx hb dX7_giveTurn_51 rfl (lv_at hl 2 rfl) ?_
              refine lv_iload_n hx hb dX7_giveTurn_52 rfl (lv_at hl 0 rfl) ?_
              have hEe := (HR_E hRk hj h12 (Or.inr (Or.inl rfl)) (fun q => absurd q (by decide)) h17)
              obtain ⟨fs1, hO1⟩ := hEe.o
              have hZe : ZZ eA B s H1 := hZ.S (fun q h => h) hS
              refine k_callv (va_runV (As := [.ref (wa j), .int 3]) (rest := []) ⟨hx, hb, hml, hown, hts⟩ (c_endWork l _ h0 wa τ nW nV nE j 3 hEe hj hn30 (by omega)) (cwV 2 hts gX7_giveTurn_X7_endWork rfl rfl rfl (by decide +kernel) ⟨Nat.le_of_ble_eq_true rfl, Nat.le_of_ble_eq_true rfl⟩) (z_preV hK hZe (k_recv hK.1 hO1 rfl)) rfl rfl hl.1 rfl (lv_room (Nat.le_of_ble_eq_true rfl)) dX7_giveTurn_53 ⟨Nat.le_of_ble_eq_true rfl, Nat.le_of_ble_eq_true rfl⟩) hS (fun q h => h) (fun Hb locs hRb hzb hkb hS => ?_)
              refine lv_iload_n hx hb dX7_giveTurn_56 rfl (lv_at hl 0 rfl) ?_
              refine W.widen (k := 2 * 1) (n := 66 * 1) (Nat.le_of_ble_eq_true rfl) (Nat.le_of_ble_eq_true rfl) ?_
              exact k_reti hx hb hr hlocks ⟨by rw [hX], nV, by rw [hX]; exact hRb, by rw [hX]; exact inv_fin hI1 hj h12 (by simp) (fun _ q => absurd q (by decide))⟩ hS dX7_giveTurn_57
          · by_cases hq : stp τ nV j 4 j = 0 ∧ stp τ nV j 9 j = stp τ nV j 5 j
            · have hq12 : stp τ nV j 12 j = 0 := (stp_k j (by decide) (by decide) (by decide) (by decide) (by decide)).trans h12
              have hs17 : ∀ i, i < nE → nat (stp τ nV j 17 i) ≠ j ∧ nat (stp τ nV j 17 i) < nW := fun i hi => by rw [stp_k i (by decide) (by decide) (by decide) (by decide) (by decide)]; exact h17 i hi
              have hX : tnD τ nV nE j = (2, fin (stp τ nV j) nE j 2) := by unfold tnD; rw [if_neg (fun q => q h13), if_neg hns, if_neg hf, if_pos hq]
              have hd1 : d = 1 := by rw [hd, hX]; rfl
              subst hd1
              refine k_calli (va_runV (As := [.ref (wa j)]) (rest := []) ⟨hx, hb, hml, hown, hts⟩ (c_act_s l _ h0 wa τ nW nV nE j hRk hI1 hj h12 h13 hf hns (hst h13)) (cwV 1 hts gX7_giveTurn_X7_act rfl rfl rfl (by decide +kernel) ⟨Nat.le_of_ble_eq_true rfl, Nat.le_of_ble_eq_true rfl⟩) (k_preV hK (k_recv hK.1 hO rfl)) rfl rfl hl.1 rfl (lv_room (Nat.le_of_ble_eq_true rfl)) dX7_giveTurn_41 ⟨(Nat.zero_le _), (Nat.zero_le _)⟩) hS (fun q h => h) (fun r9 Ha locs hp9 hza hka hS => ?_)
              obtain ⟨hr9, hRa⟩ := hp9
              have hr9 : r9 = 2 := hr9.trans (if_pos hq)
              subst hr9
              refine lv_istore_n (lv' := [(2, .int 2), (0, .ref h0), (1, .ref (wa j))]) hx hb dX7_giveTurn_44 rfl hl (by decide) rfl (fun ls hl => ?_)
              refine lv_iload_n hx hb dX7_giveTurn_45 rfl (lv_at hl 0 rfl) ?_
              refine lv_iconst (v := 1) hx hb dX7_giveTurn_46 (by decide) ?_
              refine lv_icmp_eq (tgt := 56) hx hb dX7_giveTurn_47 (by decide) (fun c47 => ?_) (fun c47 => ?_)
              · exact absurd c47 (by decide)
              · refine lv_aload_n hx hb dX7_giveTurn_50 rfl (lv_at hl 1 rfl) ?_
                refine lv_aload_n hx hb dX7_giveTurn_51 rfl (lv_at hl 2 rfl) ?_
                refine lv_iload_n hx hb dX7_giveTurn_52 rfl (lv_at hl 0 rfl) ?_
                have hEe := (HR_E hRa hj hq12 (Or.inl rfl) (fun _ => hq.1) hs17)
                obtain ⟨fs1, hO1⟩ := hEe.o
                have hZe : ZZ eA B s Ha := hZ.S (fun q h => h) hS
                refine k_callv (va_runV (As := [.ref (wa j), .int 2]) (rest := []) ⟨hx, hb, hml, hown, hts⟩ (c_endWork l _ h0 wa (stp τ nV j) nW nV nE j 2 hEe hj hn30 (by omega)) (cwV 2 hts gX7_giveTurn_X7_endWork rfl rfl rfl (by decide +kernel) ⟨Nat.le_of_ble_eq_true rfl, Nat.le_of_ble_eq_true rfl⟩) (z_preV hK hZe (k_recv hK.1 hO1 rfl)) rfl rfl hl.1 rfl (lv_room (Nat.le_of_ble_eq_true rfl)) dX7_giveTurn_53 ⟨Nat.le_of_ble_eq_true rfl, Nat.le_of_ble_eq_true rfl⟩) hS (fun q h => h) (fun Hb locs hRb hzb hkb hS => ?_)
                refine lv_iload_n hx hb dX7_giveTurn_56 rfl (lv_at hl 0 rfl) ?_
                refine W.widen (k := 2 * 1) (n := 66 * 1) (Nat.le_of_ble_eq_true rfl) (Nat.le_of_ble_eq_true rfl) ?_
                exact k_reti hx hb hr hlocks ⟨by rw [hX], nV, by rw [hX]; exact hRb, by rw [hX]; exact inv_stpfin hI1 hj h12 hq.1⟩ hS dX7_giveTurn_57
            · have hX : tnD τ nV nE j = (1, stp τ nV j) := by unfold tnD; rw [if_neg (fun q => q h13), if_neg hns, if_neg hf, if_neg hq]
              have hd1 : d = 0 := by rw [hd, hX]; rfl
              subst hd1
              refine k_calli (va_runV (As := [.ref (wa j)]) (rest := []) ⟨hx, hb, hml, hown, hts⟩ (c_act_s l _ h0 wa τ nW nV nE j hRk hI1 hj h12 h13 hf hns (hst h13)) (cwV 1 hts gX7_giveTurn_X7_act rfl rfl rfl (by decide +kernel) ⟨Nat.le_of_ble_eq_true rfl, Nat.le_of_ble_eq_true rfl⟩) (k_preV hK (k_recv hK.1 hO rfl)) rfl rfl hl.1 rfl (lv_room (Nat.le_of_ble_eq_true rfl)) dX7_giveTurn_41 ⟨(Nat.zero_le _), (Nat.zero_le _)⟩) hS (fun q h => h) (fun r9 Ha locs hp9 hza hka hS => ?_)
              obtain ⟨hr9, hRa⟩ := hp9
              have hr9 : r9 = 1 := hr9.trans (if_neg hq)
              subst hr9
              refine lv_istore_n (lv' := [(2, .int 1), (0, .ref h0), (1, .ref (wa j))]) hx hb dX7_giveTurn_44 rfl hl (by decide) rfl (fun ls hl => ?_)
              refine lv_iload_n hx hb dX7_giveTurn_45 rfl (lv_at hl 0 rfl) ?_
              refine lv_iconst (v := 1) hx hb dX7_giveTurn_46 (by decide) ?_
              refine lv_icmp_eq (tgt := 56) hx hb dX7_giveTurn_47 (by decide) (fun c47 => ?_) (fun c47 => ?_)
              · refine lv_iload_n hx hb dX7_giveTurn_56 rfl (lv_at hl 0 rfl) ?_
                refine W.widen (k := 2 * 0) (n := 66 * 0) (Nat.le_of_ble_eq_true rfl) (Nat.le_of_ble_eq_true rfl) ?_
                exact k_reti hx hb hr hlocks ⟨by rw [hX], nV, by rw [hX]; exact hRa, by rw [hX]; exact inv_stp hI1 hj h12 hns hq (hst h13)⟩ hS dX7_giveTurn_57
              · exact absurd c47 (by decide)
      · have hX : tnD τ nV nE j = (4, fin τ nE j 4) := by unfold tnD; rw [if_pos h13]
        have hd1 : d = 1 := by rw [hd, hX]; rfl
        subst hd1
        refine k_callpi (v := 4) (va_runV (As := [.ref (wa j)]) (rest := []) ⟨hx, hb, hml, hown, hts⟩ (c_act_x l _ h0 wa τ nW nV nE j hRk hI1 hj h12 h13) (cwV 1 hts gX7_giveTurn_X7_act rfl rfl rfl (by decide +kernel) ⟨Nat.le_of_ble_eq_true rfl, Nat.le_of_ble_eq_true rfl⟩) (k_preV hK (k_recv hK.1 hO rfl)) rfl rfl hl.1 rfl (lv_room (Nat.le_of_ble_eq_true rfl)) dX7_giveTurn_41 ⟨(Nat.zero_le _), (Nat.zero_le _)⟩) hS (fun locs hS => ?_)
        refine lv_istore_n (lv' := [(2, .int 4), (0, .ref h0), (1, .ref (wa j))]) hx hb dX7_giveTurn_44 rfl hl (by decide) rfl (fun ls hl => ?_)
        refine lv_iload_n hx hb dX7_giveTurn_45 rfl (lv_at hl 0 rfl) ?_
        refine lv_iconst (v := 1) hx hb dX7_giveTurn_46 (by decide) ?_
        refine lv_icmp_eq (tgt := 56) hx hb dX7_giveTurn_47 (by decide) (fun c47 => ?_) (fun c47 => ?_)
        · exact absurd c47 (by decide)
        · refine lv_aload_n hx hb dX7_giveTurn_50 rfl (lv_at hl 1 rfl) ?_
          refine lv_aload_n hx hb dX7_giveTurn_51 rfl (lv_at hl 2 rfl) ?_
          refine lv_iload_n hx hb dX7_giveTurn_52 rfl (lv_at hl 0 rfl) ?_
          have hEe := (HR_E hRk hj h12 (Or.inr (Or.inr rfl)) (fun q => absurd q (by decide)) h17)
          obtain ⟨fs1, hO1⟩ := hEe.o
          have hZe : ZZ eA B s H1 := hZ.S (fun q h => h) hS
          refine k_callv (va_runV (As := [.ref (wa j), .int 4]) (rest := []) ⟨hx, hb, hml, hown, hts⟩ (c_endWork l _ h0 wa τ nW nV nE j 4 hEe hj hn30 (by omega)) (cwV 2 hts gX7_giveTurn_X7_endWork rfl rfl rfl (by decide +kernel) ⟨Nat.le_of_ble_eq_true rfl, Nat.le_of_ble_eq_true rfl⟩) (z_preV hK hZe (k_recv hK.1 hO1 rfl)) rfl rfl hl.1 rfl (lv_room (Nat.le_of_ble_eq_true rfl)) dX7_giveTurn_53 ⟨Nat.le_of_ble_eq_true rfl, Nat.le_of_ble_eq_true rfl⟩) hS (fun q h => h) (fun Hb locs hRb hzb hkb hS => ?_)
          refine lv_iload_n hx hb dX7_giveTurn_56 rfl (lv_at hl 0 rfl) ?_
          refine W.widen (k := 2 * 1) (n := 66 * 1) (Nat.le_of_ble_eq_true rfl) (Nat.le_of_ble_eq_true rfl) ?_
          exact k_reti hx hb hr hlocks ⟨by rw [hX], nV, by rw [hX]; exact hRb, by rw [hX]; exact inv_fin hI1 hj h12 (by simp) (fun _ q => absurd q (by decide))⟩ hS dX7_giveTurn_57
    · have hwt := b2_n c14
      refine lv_aload_n hx hb dX7_giveTurn_17 rfl (lv_at hl 0 rfl) ?_
      refine lv_dup hx hb dX7_giveTurn_18 rfl ?_
      refine k_get (C := RX7) (T := TX7) (N := 6) (v := .int (σ 21 0)) hx hb hts hiX7 hown hK.1 R1 rfl 5 (by decide) (hts (.fieldLink RX7 158 "HouseWorkers" "turnsThatWaited" "I") (by decide +kernel)) (fun _ h9 => h9) rfl dX7_giveTurn_19 ?_
      refine lv_iconst (v := 1) hx hb dX7_giveTurn_22 (by decide) ?_
      refine lv_iadd hx hb dX7_giveTurn_23 ?_
      refine k_put (A := B) (C := RX7) (T := TX7) (N := 6) (ty := .int) (v := .int ((σ 21 0) + 1)) hx hb hts hiX7 tyX7 tyX7_ok nmX7 hown hK.1 R1 hBh hS rfl 5 (by decide) (hts (.fieldLink RX7 158 "HouseWorkers" "turnsThatWaited" "I") (by decide +kernel)) (fun _ h9 => h9) rfl (by decide +kernel) rfl rfl (Nat.le_of_ble_eq_true rfl) dX7_giveTurn_24 (fun H5 locs hO6 hz7 hq8 hS => ?_)
      have hRk : HR D cI cO eA B h0 wa (u2 σ 21 0 (σ 21 0 + 1)) nW nV nE H5 := HR_f R1 R2 R3 R3g R4 R4g R5 R5g R6 R7 R8 R9 RT RB RN RL R12 R13 (by omega) hO6 hq8 hz7
      refine lv_iconst (v := 0) hx hb dX7_giveTurn_27 (by decide) ?_
      refine W.widen (k := 2 * d) (n := 66 * d) (by omega) (by omega) ?_
      have hX : tn σ nV nE j = (0, u2 σ 21 0 (σ 21 0 + 1)) := by unfold tn; rw [hwt, cond_true, if_neg (fun q => hwi.en.mp q c4)]
      have hd0 : d = 0 := by rw [hd, hX]; rfl
      subst hd0
      exact k_reti hx hb hr hlocks ⟨by rw [hX], nV, by rw [hX]; exact hRk, by rw [hX]; exact inv_irr hI (by omega)⟩ hS dX7_giveTurn_28
  · have c4 : ¬ σ 12 j = 0 := of_decide_eq_true (b2_n c4)
    refine lv_iconst (v := 0) hx hb dX7_giveTurn_7 (by decide) ?_
    refine W.widen (k := 2 * d) (n := 66 * d) (by omega) (by omega) ?_
    have hX : tn σ nV nE j = (0, σ) := by unfold tn; rw [show wt σ j = true by unfold wt; rw [decide_eq_true (hwi.en.mpr c4)]; rfl, cond_true, if_pos (hwi.en.mpr c4), Int32.add_zero, u2_id]
    have hd0 : d = 0 := by rw [hd, hX]; rfl
    subst hd0
    exact k_reti hx hb hr hlocks ⟨by rw [hX], nV, by rw [hX]; exact hR0, by rw [hX]; exact hI⟩ hS dX7_giveTurn_8
