theorem tn_r (σ : Sg) (nV nE j : Nat) : (tn σ nV nE j).1 = 0 ∨ (tn σ nV nE j).1 = 1 ∨ (tn σ nV nE j).1 = 2 ∨ (tn σ nV nE j).1 = 3 ∨ (tn σ nV nE j).1 = 4 := by
  unfold tn
  cases wt σ j with
  | true => exact Or.inl rfl
  | false =>
    rw [cond_false]
    unfold tnD
    split
    · exact Or.inr (Or.inr (Or.inr (Or.inr rfl)))
    · split
      · exact Or.inr (Or.inr (Or.inl rfl))
      · split
        · exact Or.inr (Or.inr (Or.inr (Or.inl rfl)))
        · split
          · exact Or.inr (Or.inr (Or.inl rfl))
          · exact Or.inr (Or.inl rfl)
theorem tn_pos (σ : Sg) (nV nE j : Nat) : 0 < (tn σ nV nE j).1 ↔ ¬ (tn σ nV nE j).1 = 0 := by
  rcases tn_r σ nV nE j with h | h | h | h | h <;> rw [h] <;> decide
theorem tn_16 (σ : Sg) (nV nE j : Nat) : (tn σ nV nE j).2 16 0 = if 1 < (tn σ nV nE j).1 then σ 16 0 + 1 else σ 16 0 := by
  have key : ∀ p : Int32 × Sg, (1 < p.1 → p.2 16 0 = σ 16 0 + 1) → (¬ 1 < p.1 → p.2 16 0 = σ 16 0) → p.2 16 0 = if 1 < p.1 then σ 16 0 + 1 else σ 16 0 := fun p h1 h2 => by
    by_cases q : 1 < p.1
    · rw [if_pos q]; exact h1 q
    · rw [if_neg q]; exact h2 q
  apply key
  · intro h
    unfold tn at h ⊢
    cases hw : wt σ j with
    | true => rw [hw, cond_true] at h; exact absurd h (show ¬ (1 : Int32) < 0 by decide)
    | false =>
      rw [hw, cond_false] at h
      rw [cond_false]
      have e : u2 σ 20 0 (σ 20 0 + 1) 16 0 = σ 16 0 := u2_ne σ _ (fun q => absurd q.1 (by decide))
      generalize u2 σ 20 0 (σ 20 0 + 1) = τ at h e ⊢
      rw [← e]
      unfold tnD at h ⊢
      split
      · exact fin_16 (σ := τ) (e := nE) (j := j) (how := 4)
      · rename_i h1
        rw [if_neg h1] at h
        split
        · refine (fin_16 (σ := cmt τ nV j) (e := nE) (j := j) (how := 2)).trans ?_
          rw [cmt_k 0 (by decide) (by decide) (by decide)]
        · rename_i h2
          rw [if_neg h2] at h
          split
          · exact fin_16 (σ := τ) (e := nE) (j := j) (how := 3)
          · rename_i h3
            rw [if_neg h3] at h
            split
            · refine (fin_16 (σ := stp τ nV j) (e := nE) (j := j) (how := 2)).trans ?_
              rw [stp_k 0 (by decide) (by decide) (by decide) (by decide) (by decide)]
            · rename_i h4
              rw [if_neg h4] at h
              exact absurd h (show ¬ (1 : Int32) < 1 by decide)
  · intro h
    unfold tn at h ⊢
    cases hw : wt σ j with
    | true => rw [cond_true]; exact u2_ne σ (k := 21) (i := 0) (k' := 16) (i' := 0) (σ 21 0 + if 0 < σ 12 j then 0 else 1) (fun q => absurd q.1 (by decide))
    | false =>
      rw [hw, cond_false] at h
      rw [cond_false]
      have e : u2 σ 20 0 (σ 20 0 + 1) 16 0 = σ 16 0 := u2_ne σ _ (fun q => absurd q.1 (by decide))
      generalize u2 σ 20 0 (σ 20 0 + 1) = τ at h e ⊢
      rw [← e]
      unfold tnD at h ⊢
      split
      · rename_i h1
        rw [if_pos h1] at h
        exact absurd (show (1 : Int32) < 4 by decide) h
      · rename_i h1
        rw [if_neg h1] at h
        split
        · rename_i h2
          rw [if_pos h2] at h
          exact absurd (show (1 : Int32) < 2 by decide) h
        · rename_i h2
          rw [if_neg h2] at h
          split
          · rename_i h3
            rw [if_pos h3] at h
            exact absurd (show (1 : Int32) < 3 by decide) h
          · rename_i h3
            rw [if_neg h3] at h
            split
            · rename_i h4
              rw [if_pos h4] at h
              exact absurd (show (1 : Int32) < 2 by decide) h
            · exact stp_k (k := 16) 0 (by decide) (by decide) (by decide) (by decide) (by decide)
theorem Inv.le {σ : Sg} {nW nV nE : Nat} (h : Inv σ nW nV nE) : nE ≤ 30 := by
  have := h.n30
  have := h.eW
  omega
theorem row_up {m nW : Nat} {x : Nat × Bool × Sg} {i v e : Nat} (h : Inv (rowF m i x).2.2 nW v e) : ∀ k, i + k ≤ nW → ∃ v' e', Inv (rowF m (i + k) x).2.2 nW v' e' ∧ e ≤ e'
  | 0, _ => ⟨v, e, h, Nat.le_refl _⟩
  | k + 1, hw => by
    obtain ⟨v1, e1, h1, l1⟩ := row_up h k (by omega)
    rw [← Nat.add_assoc, rowF]
    split
    · obtain ⟨v2, e2, h2, l2, -, -⟩ := inv_tn h1 (show i + k < nW by omega)
      rw [← tnS_eq h1] at h2
      split
      · exact ⟨v2, e2, h2, by omega⟩
      · exact ⟨v2, e2, h2, by omega⟩
    · exact ⟨v1, e1, h1, l1⟩
theorem row_bud {m nW : Nat} {x : Nat × Bool × Sg} {i v e d E : Nat} (h : Inv (rowF m i x).2.2 nW v e) (hi : i < nW) (hm : (rowF m i x).1 < m) (hd : d = if 1 < (tn (rowF m i x).2.2 v e i).1 then 1 else 0) (hE : (rowF m nW x).2.2 16 0 = nI E) (hE30 : E ≤ 30) : e + d ≤ E := by
  obtain ⟨v2, e2, h2, l2, l3, -⟩ := inv_tn h hi
  have h16 := tn_16 (rowF m i x).2.2 v e i
  have hle := h.le
  have hle2 := h2.le
  have he2 : e2 = e + d := by
    rw [h2.2.2.1, h.2.2.1] at h16
    rw [hd]
    by_cases q : 1 < (tn (rowF m i x).2.2 v e i).1
    · rw [if_pos q, nI_1] at h16
      rw [if_pos q]
      exact (nI_eq (by omega) (by omega)).mp h16
    · rw [if_neg q] at h16
      rw [if_neg q]
      exact (nI_eq (by omega) (by omega)).mp h16
  have h3 : Inv (rowF m (i + 1) x).2.2 nW v2 e2 := by
    rw [← tnS_eq h] at h2
    by_cases q : 0 < (tnS (rowF m i x).2.2 i).1
    · rw [row_y hm q]; exact h2
    · rw [row_n hm q]; exact h2
  obtain ⟨v4, e4, h4, l4⟩ := row_up h3 (nW - (i + 1)) (by omega)
  rw [show i + 1 + (nW - (i + 1)) = nW by omega] at h4
  have hle4 := h4.le
  have : e4 = E := (nI_eq (by omega) (by omega)).mp (h4.2.2.1.symm.trans hE)
  omega
theorem row_sh {m nW a : Nat} {b : Bool} {σ : Sg} (ha : a ≤ m) : ∀ w, (rowF m w (a, b, σ)).1 = a + (rowF (m - a) w (0, false, σ)).1 ∧ (rowF m w (a, b, σ)).2.2 = (rowF (m - a) w (0, false, σ)).2.2 ∧ (rowF m w (a, b, σ)).2.1 = (b || decide (0 < (rowF (m - a) w (0, false, σ)).1))
  | 0 => ⟨rfl, rfl, by show b = (b || decide (0 < 0)); simp⟩
  | w + 1 => by
    obtain ⟨h1, h2, h3⟩ := row_sh (m := m) (nW := nW) (b := b) (σ := σ) ha w
    by_cases q : (rowF (m - a) w (0, false, σ)).1 < m - a
    · have q1 : (rowF m w (a, b, σ)).1 < m := by omega
      by_cases t : 0 < (tnS (rowF (m - a) w (0, false, σ)).2.2 w).1
      · have t1 : 0 < (tnS (rowF m w (a, b, σ)).2.2 w).1 := by rw [h2]; exact t
        rw [row_y q t, row_y q1 t1]
        exact ⟨by show (rowF m w (a, b, σ)).1 + 1 = a + ((rowF (m - a) w (0, false, σ)).1 + 1); omega, by show (tnS (rowF m w (a, b, σ)).2.2 w).2 = _; rw [h2], by show true = (b || decide (0 < (rowF (m - a) w (0, false, σ)).1 + 1)); rw [decide_eq_true (by omega), Bool.or_true]⟩
      · have t1 : ¬ 0 < (tnS (rowF m w (a, b, σ)).2.2 w).1 := by rw [h2]; exact t
        rw [row_n q t, row_n q1 t1]
        exact ⟨h1, by show (tnS (rowF m w (a, b, σ)).2.2 w).2 = _; rw [h2], h3⟩
    · have q1 : ¬ (rowF m w (a, b, σ)).1 < m := by omega
      rw [row_end (n := w + 1) (by omega) q, row_end (n := w + 1) (by omega) q1]
      exact ⟨h1, h2, h3⟩
set_option maxHeartbeats 4000000 in
set_option maxRecDepth 100000 in
theorem c_giveRow (l : Launch) {D : va_G} {cI cZ cO : ClassId} {mi eA : Nat} {B : Nat → Prop} (H : Heap) (h0 : Nat) (wa : Nat → Nat) (σ : Sg) (nW nV nE : Nat) (mx d : Nat) (hR : HR D cI cO eA B h0 wa σ nW nV nE H) (hI : Inv σ nW nV nE) (hmx : mx ≤ 1000) (hd : (rowF mx nW (0, false, σ)).2.2 16 0 = nI (nE + d)) (hd30 : nE + d ≤ 30) : Met l yX7_giveRow wsX7_giveRow ({ frames := 11, cells := 2 * d, slots := 66 * d, locals := 276 }) (Pz D cI cZ cO mi eA B [.ref h0, .int (nI mx)] H) (Qki (fun r H1 => r = nI (rowF mx nW (0, false, σ)).1 ∧ ∃ nV', HR D cI cO eA B h0 wa (rowF mx nW (0, false, σ)).2.2 nW nV' (nE + d) H1 ∧ Inv (rowF mx nW (0, false, σ)).2.2 nW nV' (nE + d)) B) (2 * d) (66 * d) B := by
  refine Met.ofW (cc := cX7_giveRow) (maxL := 4) (ret := (some .int)) (by decide) rfl ?_
  intro p e s m args below meth c s₁ Bd hml hv
  obtain ⟨rfl, rfl, hK, hZ⟩ := hv
  have hx := Bd.exec
  have hb := Bd.bytes
  have hr := Bd.returns
  have hts := atoms_spec (ws := wsX7_giveRow) Bd.pre
  have hown : s.vm.findClass RX7 = some m.cls := findClass_of_methodNamed Bd.named
  have hlocks := Bd.notSynchronized
  have hS : va_S B s.heap s.heap [] := va_S.rf
  have hl := lv_entry ([.ref h0, .int (nI mx)]) (n := 4) (Nat.le_of_ble_eq_true rfl)
  rw [lg_entry_eq]
  generalize (lg_sl ([.ref h0, .int (nI mx)]) ++ List.replicate (4 - (lg_sl ([.ref h0, .int (nI mx)])).length) Slot.unset).toArray = ls at hl ⊢
  have hl : lv_has ls 4 [(0, .ref h0), (1, .int (nI mx))] := hl
  have hiX7 : ∀ w ∈ wsX70, w ∈ wsX7_giveRow := by decide +kernel
  have hW30 := hI.n30
  refine lv_iconst (v := 0) hx hb dX7_giveRow_0 (by decide) ?_
  refine lv_istore_n (lv' := [(2, .int 0), (0, .ref h0), (1, .int (nI mx))]) hx hb dX7_giveRow_1 rfl hl (by decide) rfl (fun ls hl => ?_)
  refine lv_iconst (v := 0) hx hb dX7_giveRow_2 (by decide) ?_
  refine lv_istore_n (lv' := [(3, .int 0), (2, .int 0), (0, .ref h0), (1, .int (nI mx))]) hx hb dX7_giveRow_3 rfl hl (by decide) rfl (fun ls hl => ?_)
  have loop : ∀ (n : Nat), ∀ (i : Nat), i ≤ nW → nW + 1 ≤ i + n → ∀ (v1 e1 : Nat), Inv (rowF mx i (0, false, σ)).2.2 nW v1 e1 → nE ≤ e1 → e1 ≤ nE + d → ∀ (H : Heap) (locs : List Loc), HR D cI cO eA B h0 wa (rowF mx i (0, false, σ)).2.2 nW v1 e1 H → va_S B s.heap H locs → ∀ ls : Array Slot, lv_has ls 4 [(3, .int (nI i)), (2, .int (nI (rowF mx i (0, false, σ)).1)), (0, .ref h0), (1, .int (nI mx))] → W p l e (headSpec wsX7_giveRow ({ frames := 11, cells := 2 * d, slots := 66 * d, locals := 276 })).room s m ([.ref h0, .int (nI mx)] : List Value).toArray below meth c H locs (2 * (e1 - nE)) (66 * (e1 - nE)) (MQ below (Qki (fun r H1 => r = nI (rowF mx nW (0, false, σ)).1 ∧ ∃ nV', HR D cI cO eA B h0 wa (rowF mx nW (0, false, σ)).2.2 nW nV' (nE + d) H1 ∧ Inv (rowF mx nW (0, false, σ)).2.2 nW nV' (nE + d)) B) ([.ref h0, .int (nI mx)] : List Value).toArray s (2 * d) (66 * d) B) (F0 m 4 ls []) := by
    intro n
    induction n with
    | zero => intro i h1 h2; exact absurd h2 (by omega)
    | succ n ih =>
      intro i hi hn v1 e1 hI1 hge1 hle1 H locs hR1 hS ls hl
      obtain ⟨g1, g2, g3⟩ := row_ge (most := mx) (0, false, σ) i
      have g3 : (rowF mx i (0, false, σ)).1 ≤ mx := g3 (Nat.zero_le _)
      have hR0 := hR1
      obtain ⟨hs, hc, hw, he, ec, ew, ee, pc, pw, pe, gc, gw, ge, va, da, ra, te, pn, rl, R1, R2, ⟨R3, R3g⟩, ⟨R4, R4g⟩, ⟨R5, R5g⟩, R6, R7, R8, R9, RT, RB, RN, RL, R12, R13⟩ := hR1
      have hn30 := hI1.n30
      have heW := hI1.eW
      have hvE := hI1.2.2.2.2.2.1
      have hv1 := hI1.2.2.2.2.1
      obtain ⟨⟨mw, hwo⟩, hwm⟩ := id R4
      have hcp : 2 * (e1 - nE) ≤ 2 * d := by omega
      have hsp : 66 * (e1 - nE) ≤ 66 * d := by omega
      refine lv_iload_n hx hb dX7_giveRow_4 rfl (lv_at hl 0 rfl) ?_
      refine lv_aload_n hx hb dX7_giveRow_5 rfl (lv_at hl 2 rfl) ?_
      refine k_get (C := RX7) (T := TX7) (N := 6) (v := .ref hw) hx hb hts hiX7 hown hK.1 R1 rfl 1 (by decide) (hts (.fieldLink RX7 19 "HouseWorkers" "works" "Ljava/util/ArrayList;") (by decide +kernel)) (fun _ h9 => h9) rfl dX7_giveRow_6 ?_
      refine k_callpi (v := nI nW) (va_runV (As := []) (rest := [.int (nI i)]) ⟨hx, hb, hml, hown, hts⟩ (c_AL_size l _ hw ew nW mw hwo) (cwV 0 hts gX7_giveRow_Jx4a65c_size_8abf5 rfl rfl rfl (by decide +kernel) ⟨Nat.le_of_ble_eq_true rfl, Nat.le_of_ble_eq_true rfl⟩) (k_preV hK (k_recv hK.1 hwo rfl)) rfl rfl hl.1 rfl (lv_room (Nat.le_of_ble_eq_true rfl)) dX7_giveRow_9 ⟨hcp, hsp⟩) hS (fun locs hS => ?_)
      refine lv_icmp_ge (tgt := 47) hx hb dX7_giveRow_12 (by decide) (fun c12 => ?_) (fun c12 => ?_)
      · have c12 := Int32.not_lt.mpr c12
        have hij : i = nW := Nat.le_antisymm hi (Nat.le_of_not_lt (fun q => c12 (nI_lt q (by omega))))
        have hre : (rowF mx nW (0, false, σ)) = (rowF mx i (0, false, σ)) := by rw [hij]
        refine lv_iload_n hx hb dX7_giveRow_47 rfl (lv_at hl 1 rfl) ?_
        have hee : e1 = nE + d := by rw [hre, hI1.2.2.1] at hd; exact (nI_eq (by omega) (by omega)).mp hd
        subst hee
        refine W.widen (k := 2 * d) (n := 66 * d) (by omega) (by omega) ?_
        exact k_reti hx hb hr hlocks ⟨by rw [hre], v1, by rw [hre]; exact hR0, by rw [hre]; exact hI1⟩ hS dX7_giveRow_48
      · have c12 := Int32.not_le.mp c12
        have hlt : i < nW := (nI_ltI (by omega) (by omega)).mp c12
        refine lv_iload_n hx hb dX7_giveRow_15 rfl (lv_at hl 1 rfl) ?_
        refine lv_iload_n hx hb dX7_giveRow_16 rfl (lv_at hl 3 rfl) ?_
        refine lv_icmp_ge (tgt := 47) hx hb dX7_giveRow_17 (by decide) (fun c17 => ?_) (fun c17 => ?_)
        · have c17 := Int32.not_lt.mpr c17
          have hge : ¬ (rowF mx i (0, false, σ)).1 < mx := fun q => c17 (nI_lt q (by omega))
          have hre : (rowF mx nW (0, false, σ)) = (rowF mx i (0, false, σ)) := row_end (by omega) hge
          refine lv_iload_n hx hb dX7_giveRow_47 rfl (lv_at hl 1 rfl) ?_
          have hee : e1 = nE + d := by rw [hre, hI1.2.2.1] at hd; exact (nI_eq (by omega) (by omega)).mp hd
          subst hee
          refine W.widen (k := 2 * d) (n := 66 * d) (by omega) (by omega) ?_
          exact k_reti hx hb hr hlocks ⟨by rw [hre], v1, by rw [hre]; exact hR0, by rw [hre]; exact hI1⟩ hS dX7_giveRow_48
        · have c17 := Int32.not_le.mp c17
          have hay : (rowF mx i (0, false, σ)).1 < mx := (nI_ltI (by omega) (by omega)).mp c17
          refine lv_aload_n hx hb dX7_giveRow_20 rfl (lv_at hl 2 rfl) ?_
          refine lv_aload_n hx hb dX7_giveRow_21 rfl (lv_at hl 2 rfl) ?_
          refine k_get (C := RX7) (T := TX7) (N := 6) (v := .ref hw) hx hb hts hiX7 hown hK.1 R1 rfl 1 (by decide) (hts (.fieldLink RX7 19 "HouseWorkers" "works" "Ljava/util/ArrayList;") (by decide +kernel)) (fun _ h9 => h9) rfl dX7_giveRow_22 ?_
          refine lv_iload_n hx hb dX7_giveRow_25 rfl (lv_at hl 0 rfl) ?_
          obtain ⟨hnp, hnc, hcs, har, -⟩ : 0 < nW ∧ nW ≤ pw ∧ (pw = 10 ∨ pw = 15 ∨ pw = 22 ∨ pw = 33) ∧ Ar D cO ew pw gw H ∧ ∀ i, nW ≤ i → gw i = none := hwm.elim (fun q => absurd hlt (by omega)) id
          refine k_callpq (v := gw i) (va_runV (As := [.int (nI i)]) (rest := [.ref h0]) ⟨hx, hb, hml, hown, hts⟩ (c_AL_get l _ hw ew nW pw i mw gw hwo har hlt hnc (by omega)) (cwV 1 hts gX7_giveRow_Jx4a65c_get_915e3 rfl rfl rfl (by decide +kernel) ⟨Nat.le_of_ble_eq_true rfl, Nat.le_of_ble_eq_true rfl⟩) (k_preV hK (k_recv hK.1 hwo rfl)) rfl rfl hl.1 rfl (lv_room (Nat.le_of_ble_eq_true rfl)) dX7_giveRow_26 ⟨hcp, hsp⟩) hS (fun locs hS => ?_)
          rw [R4g i hlt]
          refine W.eq (g2 := F0 m 29 ls [.ref (wa i), .ref h0]) rfl ?_
          obtain ⟨ci, ex, hvc, hob⟩ := (R7 i hlt).ob
          refine w_recv hK hob hvc hown hx hb (hts (.classLink RX7 91 "HouseWorkers$Work") (by decide +kernel)) dX7_giveRow_29 ?_
          obtain ⟨d1, hd1⟩ : ∃ z : Nat, z = if 1 < (tn (rowF mx i (0, false, σ)).2.2 v1 e1 i).1 then 1 else 0 := ⟨_, rfl⟩
          have hbud := row_bud hI1 hlt hay hd1 hd hd30
          have hZc : ZZ eA B s H := hZ.S (fun q h => h) hS
          have hcq : 2 * (e1 - nE) + 2 * d1 ≤ 2 * d := by omega
          have hsq : 66 * (e1 - nE) + 66 * d1 ≤ 66 * d := by omega
          refine k_calli (va_runV (As := [.ref (wa i)]) (rest := []) ⟨hx, hb, hml, hown, hts⟩ (c_giveTurn l _ h0 wa (rowF mx i (0, false, σ)).2.2 nW v1 e1 i d1 hR0 hI1 hlt hd1) (cwV 1 hts gX7_giveRow_X7_giveTurn rfl rfl rfl (by decide +kernel) ⟨Nat.le_of_ble_eq_true rfl, Nat.le_of_ble_eq_true rfl⟩) (z_preV hK hZc (k_recv hK.1 R1 rfl)) rfl rfl hl.1 rfl (lv_room (Nat.le_of_ble_eq_true rfl)) dX7_giveRow_32 ⟨hcq, hsq⟩) hS (fun q h => h) (fun r9 H2 locs hp9 hz2 hk2 hS => ?_)
          obtain ⟨hr9, v2, hR2, hI2⟩ := hp9
          rw [← tnS_eq hI1] at hR2 hI2
          have hps := tn_pos (rowF mx i (0, false, σ)).2.2 v1 e1 i
          rw [← hr9] at hps
          rw [← tnS_eq hI1] at hr9
          refine lv_if_eq (tgt := 41) hx hb dX7_giveRow_35 (by decide) (fun c35 => ?_) (fun c35 => ?_)
          · refine lv_iinc (v := nI (i + 1)) (lv' := [(3, .int (nI (i + 1))), (2, .int (nI (rowF mx i (0, false, σ)).1)), (0, .ref h0), (1, .int (nI mx))]) hx hb dX7_giveRow_41 hl (k := 0) rfl (by rw [← nI_1]; rfl) (by decide) rfl (fun ls hl => ?_)
            refine lv_goto (tgt := 4) hx hb dX7_giveRow_44 (by decide) ?_
            have hru := row_n hay (fun q => hps.mp (by rw [hr9]; exact q) c35)
            refine W.widen (k := 2 * (e1 + d1 - nE)) (n := 66 * (e1 + d1 - nE)) (by omega) (by omega) ?_
            exact ih (i + 1) (by omega) (by omega) v2 (e1 + d1) (by rw [hru]; exact hI2) (by omega) (by omega) _ locs (by rw [hru]; exact hR2) hS ls (by rw [hru]; exact lv_sub hl [0, 1, 2, 3] rfl)
          · refine lv_iinc (v := nI ((rowF mx i (0, false, σ)).1 + 1)) (lv' := [(2, .int (nI ((rowF mx i (0, false, σ)).1 + 1))), (3, .int (nI i)), (0, .ref h0), (1, .int (nI mx))]) hx hb dX7_giveRow_38 hl (k := 1) rfl (by rw [← nI_1]; rfl) (by decide) rfl (fun ls hl => ?_)
            refine lv_iinc (v := nI (i + 1)) (lv' := [(3, .int (nI (i + 1))), (2, .int (nI ((rowF mx i (0, false, σ)).1 + 1))), (0, .ref h0), (1, .int (nI mx))]) hx hb dX7_giveRow_41 hl (k := 1) rfl (by rw [← nI_1]; rfl) (by decide) rfl (fun ls hl => ?_)
            refine lv_goto (tgt := 4) hx hb dX7_giveRow_44 (by decide) ?_
            have hru := row_y hay (by rw [← hr9]; exact hps.mpr c35)
            refine W.widen (k := 2 * (e1 + d1 - nE)) (n := 66 * (e1 + d1 - nE)) (by omega) (by omega) ?_
            exact ih (i + 1) (by omega) (by omega) v2 (e1 + d1) (by rw [hru]; exact hI2) (by omega) (by omega) _ locs (by rw [hru]; exact hR2) hS ls (by rw [hru]; exact lv_sub hl [0, 1, 2, 3] rfl)
  exact W.widen (k := 2 * (nE - nE)) (n := 66 * (nE - nE)) (by omega) (by omega) (loop (nW + 1) 0 (Nat.zero_le _) (by omega) nV nE hI (Nat.le_refl _) (by omega) _ _ hR hS ls (lv_sub hl [0, 1, 2, 3] rfl))
set_option maxHeartbeats 4000000 in
set_option maxRecDepth 100000 in
theorem c_turn (l : Launch) {D : va_G} {cI cZ cO : ClassId} {mi eA : Nat} {B : Nat → Prop} (H : Heap) (h0 : Nat) (wa : Nat → Nat) (σ : Sg) (nW nV nE : Nat) (x : Int32) (hR : HR D cI cO eA B h0 wa σ nW nV nE H) (hI : Inv σ nW nV nE) : Met l yX7_turn wsX7_turn ({ frames := 11, cells := 2, slots := 66, locals := 276 }) (Pz D cI cZ cO mi eA B [.ref h0, .int x] H) (Qki (fun r H1 => r = (if inB x 0 (σ 3 0 - 1) = true then (tn σ nV nE (nat x)).1 else -1) ∧ ∃ nV' nE', HR D cI cO eA B h0 wa (if inB x 0 (σ 3 0 - 1) = true then (tn σ nV nE (nat x)).2 else σ) nW nV' nE' H1 ∧ Inv (if inB x 0 (σ 3 0 - 1) = true then (tn σ nV nE (nat x)).2 else σ) nW nV' nE') B) 2 66 B := by
  refine Met.ofW (cc := cX7_turn) (maxL := 3) (ret := (some .int)) (by decide) rfl ?_
  intro p e s m args below meth c s₁ Bd hml hv
  obtain ⟨rfl, rfl, hK, hZ⟩ := hv
  have hx := Bd.exec
  have hb := Bd.bytes
  have hr := Bd.returns
  have hts := atoms_spec (ws := wsX7_turn) Bd.pre
  have hown : s.vm.findClass RX7 = some m.cls := findClass_of_methodNamed Bd.named
  have hlocks := Bd.notSynchronized
  have hS : va_S B s.heap s.heap [] := va_S.rf
  have hl := lv_entry ([.ref h0, .int x]) (n := 3) (Nat.le_of_ble_eq_true rfl)
  rw [lg_entry_eq]
  generalize (lg_sl ([.ref h0, .int x]) ++ List.replicate (3 - (lg_sl ([.ref h0, .int x])).length) Slot.unset).toArray = ls at hl ⊢
  have hl : lv_has ls 3 [(0, .ref h0), (1, .int x)] := hl
  have hiX7 : ∀ w ∈ wsX70, w ∈ wsX7_turn := by decide +kernel
  have hR0 := hR
  obtain ⟨hs, hc, hw, he, ec, ew, ee, pc, pw, pe, gc, gw, ge, va, da, ra, te, pn, rl, R1, R2, ⟨R3, R3g⟩, ⟨R4, R4g⟩, ⟨R5, R5g⟩, R6, R7, R8, R9, RT, RB, RN, RL, R12, R13⟩ := hR
  have hn30 := hI.n30
  have heW := hI.eW
  have hvE := hI.2.2.2.2.2.1
  have hv1 := hI.2.2.2.2.1
  refine lv_aload_n hx hb dX7_turn_0 rfl (lv_at hl 0 rfl) ?_
  refine lv_iload_n hx hb dX7_turn_1 rfl (lv_at hl 1 rfl) ?_
  refine k_callpq (va_runV (As := [.int x]) (rest := []) ⟨hx, hb, hml, hown, hts⟩ (c_find l _ h0 wa σ nW nV nE x hR0 hI) (cwV 1 hts gX7_turn_X7_find rfl rfl rfl (by decide +kernel) ⟨Nat.le_of_ble_eq_true rfl, Nat.le_of_ble_eq_true rfl⟩) (k_preV hK (k_recv hK.1 R1 rfl)) rfl rfl hl.1 rfl (lv_room (Nat.le_of_ble_eq_true rfl)) dX7_turn_2 ⟨(Nat.zero_le _), (Nat.zero_le _)⟩) hS (fun locs hS => ?_)
  by_cases hin : inB x 0 (σ 3 0 - 1) = true
  · rw [show (if inB x 0 (σ 3 0 - 1) = true then some (wa (nat x)) else none) = some (wa (nat x)) from if_pos hin]
    have hin2 := hin
    rw [hI.1] at hin2
    obtain ⟨j, hj, hxj⟩ := inB_idx (by omega) hin2
    have hnx : nat x = j := by rw [hxj]; exact nat_nI (by omega)
    rw [hnx]
    refine W.eq (g2 := F0 m 5 ls [.ref (wa j)]) rfl ?_
    refine lv_astore_n (lv' := [(2, .ref (wa j)), (0, .ref h0), (1, .int x)]) hx hb dX7_turn_5 rfl hl (by decide) rfl (fun ls hl => ?_)
    refine lv_aload_n hx hb dX7_turn_6 rfl (lv_at hl 0 rfl) ?_
    refine lv_ifnonnull (tgt := 12) hx hb dX7_turn_7 (by decide) ?_
    refine lv_aload_n hx hb dX7_turn_12 rfl (lv_at hl 1 rfl) ?_
    refine lv_aload_n hx hb dX7_turn_13 rfl (lv_at hl 0 rfl) ?_
    obtain ⟨d1, hd1⟩ : ∃ z : Nat, z = if 1 < (tn σ nV nE j).1 then 1 else 0 := ⟨_, rfl⟩
    have hd2 : d1 ≤ 1 := by rw [hd1]; split <;> omega
    have hZc := hZ
    have hcq : 0 + 2 * d1 ≤ 2 := by omega
    have hsq : 0 + 66 * d1 ≤ 66 := by omega
    refine k_calli (va_runV (As := [.ref (wa j)]) (rest := []) ⟨hx, hb, hml, hown, hts⟩ (c_giveTurn l _ h0 wa σ nW nV nE j d1 hR0 hI hj hd1) (cwV 1 hts gX7_turn_X7_giveTurn rfl rfl rfl (by decide +kernel) ⟨Nat.le_of_ble_eq_true rfl, Nat.le_of_ble_eq_true rfl⟩) (z_preV hK hZc (k_recv hK.1 R1 rfl)) rfl rfl hl.1 rfl (lv_room (Nat.le_of_ble_eq_true rfl)) dX7_turn_14 ⟨hcq, hsq⟩) hS (fun q h => h) (fun r9 H2 locs hp9 hz2 hk2 hS => ?_)
    obtain ⟨hr9, v2, hR2, hI2⟩ := hp9
    refine W.widen (k := 2) (n := 66) (by omega) (by omega) ?_
    exact k_reti hx hb hr hlocks ⟨by rw [if_pos hin]; exact hr9, v2, nE + d1, by rw [if_pos hin]; exact hR2, by rw [if_pos hin]; exact hI2⟩ hS dX7_turn_17
  · rw [show (if inB x 0 (σ 3 0 - 1) = true then some (wa (nat x)) else none) = none from if_neg hin]
    refine W.eq (g2 := F0 m 5 ls [.null]) rfl ?_
    refine lv_astore_nN (lv' := [(2, .null), (0, .ref h0), (1, .int x)]) hx hb dX7_turn_5 rfl hl (by decide) rfl (fun ls hl => ?_)
    refine lv_aload_nN hx hb dX7_turn_6 rfl (lv_at hl 0 rfl) ?_
    refine lv_ifnonnullN hx hb dX7_turn_7 ?_
    refine lv_iconst (v := -1) hx hb dX7_turn_10 (by decide) ?_
    refine W.widen (k := 2) (n := 66) (by omega) (by omega) ?_
    exact k_reti hx hb hr hlocks ⟨by rw [if_neg hin], nV, nE, by rw [if_neg hin]; exact hR0, by rw [if_neg hin]; exact hI⟩ hS dX7_turn_11
