theorem stp_J {σ : Sg} {nv j k : Nat} (i : Nat) (hi : i ≠ j) (h1 : k ≠ 14) (h2 : k ≠ 15) : stp σ nv j k i = σ k i := by
  by_cases q9 : k = 9
  · rw [q9, stp_9, if_neg hi]
  · by_cases q10 : k = 10
    · rw [q10]; exact stp_10 hi
    · by_cases q11 : k = 11
      · rw [q11, stp_11, if_neg (fun q => hi q.1)]
      · exact stp_k i h1 h2 q11 q10 q9
theorem stp_e14 {σ : Sg} {nv j : Nat} (i c : Nat) (hi : i ≠ j) (hc : c < 16) : stp σ nv j 14 (16 * i + c) = σ 14 (16 * i + c) := stp_14o (by omega)
theorem ix_aN {σ : Sg} {nV j : Nat} (h : WI σ nV j) (hk : σ 4 j = 0 ∨ σ 4 j = 1) : ix (σ 7 j + σ 9 j) = aN σ j := by
  obtain ⟨st, fa, a, dn, a5, a6, a7, a9, b1, b2, b3, b4, hc⟩ := h
  have hdn : dn ≤ 20 := by
    rcases hc with ⟨c1, c2, c3, c4, c5, v, c6, c7⟩ | ⟨c1, c2, c3, c4, c5, c6⟩ | ⟨c1, c2, c3, c4, c5, c6⟩ | ⟨c1, c2, c3, v, c4, c5, c6⟩
    · omega
    · omega
    · omega
    · rcases hk with q | q <;> exact absurd (c1.symm.trans q) (by decide)
  unfold aN
  rw [a7, a9, nat_nI (by omega), nat_nI (by omega), nI_add, ix_nI (by omega)]
theorem end_0 {σ : Sg} {nV j : Nat} (h : WI σ nV j) (h2 : ¬ 0 < σ 12 j) : σ 12 j = 0 := Decidable.byContradiction (fun q => h2 (h.en.mpr q))
set_option maxHeartbeats 4000000 in
set_option maxRecDepth 100000 in
theorem c_act_x (l : Launch) {D : va_G} {cI cZ cO : ClassId} {mi : Nat} (H : Heap) {eA : Nat} {B : Nat → Prop} (h0 : Nat) (wa : Nat → Nat) (σ : Sg) (nW nV nE : Nat) (j : Nat) (hR : HR D cI cO eA B h0 wa σ nW nV nE H) (hI : Inv σ nW nV nE) (hj : j < nW) (h12 : σ 12 j = 0) (h13 : ¬ σ 13 j = 0) : Met l yX7_act wsX7_act ({ frames := 2, cells := 0, slots := 0, locals := 40 }) (Pk D cI cZ cO mi [.ref h0, .ref (wa j)] H) (Qpi H 4) 0 0 (fun _ => False) := by
  refine Met.ofW (cc := cX7_act) (maxL := 2) (ret := (some .int)) (by decide) rfl ?_
  intro p e s m args below meth c s₁ Bd hml hv
  obtain ⟨rfl, rfl, hK⟩ := hv
  have hx := Bd.exec
  have hb := Bd.bytes
  have hr := Bd.returns
  have hts := atoms_spec (ws := wsX7_act) Bd.pre
  have hown : s.vm.findClass RX7 = some m.cls := findClass_of_methodNamed Bd.named
  have hlocks := Bd.notSynchronized
  have hS : va_S (fun _ => False) s.heap s.heap [] := va_S.rf
  have hl := lv_entry ([.ref h0, .ref (wa j)]) (n := 2) (Nat.le_of_ble_eq_true rfl)
  rw [lg_entry_eq]
  generalize (lg_sl ([.ref h0, .ref (wa j)]) ++ List.replicate (2 - (lg_sl ([.ref h0, .ref (wa j)])).length) Slot.unset).toArray = ls at hl ⊢
  have hl : lv_has ls 2 [(0, .ref h0), (1, .ref (wa j))] := hl
  have hiX7 : ∀ w ∈ wsX70, w ∈ wsX7_act := by decide +kernel
  have hR0 := hR
  obtain ⟨hs, hc, hw, he, ec, ew, ee, pc, pw, pe, gc, gw, ge, va, da, ra, te, pn, rl, R1, R2, ⟨R3, R3g⟩, ⟨R4, R4g⟩, ⟨R5, R5g⟩, R6, R7, R8, R9, RT, RB, RN, RL, R12, R13⟩ := hR
  have hn30 := hI.n30
  have heW := hI.eW
  have hvE := hI.2.2.2.2.2.1
  have hv1 := hI.2.2.2.2.1
  have hiX1 : ∀ w ∈ wsX10, w ∈ wsX7_act := by decide +kernel
  have hiX2 : ∀ w ∈ wsX20, w ∈ wsX7_act := by decide +kernel
  have hiX4 : ∀ w ∈ wsX40, w ∈ wsX7_act := by decide +kernel
  have hiX6 : ∀ w ∈ wsX60, w ∈ wsX7_act := by decide +kernel
  obtain ⟨t0, t1, t2, t3, t4, t5, t6, t7, t8, t9, tw, td⟩ := id RT
  obtain ⟨ci, ex, hkx, hob⟩ := (R7 j hj).ob2
  have hvc := hkx.vc
  have hbw : B (wa j) := RB _ (by rw [tw j hj]; omega)
  have hwi := hI.wi hj
  refine lv_aload_n hx hb dX7_act_0 rfl (lv_at hl 1 rfl) ?_
  refine w_get (x := wx σ te pn j) hx hb hts hiX1 hiX2 hiX4 hiX6 hown hK hob hvc 8 (by decide) rfl rfl rfl rfl (hts (.fieldLink RX7 95 "HouseWorkers$Work" "toBeCancelled" "Z") (by decide +kernel)) (fun _ => rfl) dX7_act_1 ?_
  refine W.eq (g2 := F0 m 4 ls [.int (σ 13 j)]) rfl ?_
  refine lv_if_eq (tgt := 9) hx hb dX7_act_4 (by decide) (fun c4 => ?_) (fun c4 => ?_)
  · exact absurd c4 h13
  · refine lv_iconst (v := 4) hx hb dX7_act_7 (by decide) ?_
    exact k_reti hx hb hr hlocks ⟨rfl, rfl⟩ hS dX7_act_8
set_option maxHeartbeats 4000000 in
set_option maxRecDepth 100000 in
theorem c_act_f (l : Launch) {D : va_G} {cI cZ cO : ClassId} {mi : Nat} (H : Heap) {eA : Nat} {B : Nat → Prop} (h0 : Nat) (wa : Nat → Nat) (σ : Sg) (nW nV nE : Nat) (j : Nat) (hR : HR D cI cO eA B h0 wa σ nW nV nE H) (hI : Inv σ nW nV nE) (hj : j < nW) (h12 : σ 12 j = 0) (h13 : σ 13 j = 0) (hf : σ 6 j = σ 9 j + 1) (hlt : σ 9 j < σ 5 j) : Met l yX7_act wsX7_act ({ frames := 2, cells := 0, slots := 0, locals := 40 }) (Pk D cI cZ cO mi [.ref h0, .ref (wa j)] H) (Qpi H 3) 0 0 (fun _ => False) := by
  refine Met.ofW (cc := cX7_act) (maxL := 2) (ret := (some .int)) (by decide) rfl ?_
  intro p e s m args below meth c s₁ Bd hml hv
  obtain ⟨rfl, rfl, hK⟩ := hv
  have hx := Bd.exec
  have hb := Bd.bytes
  have hr := Bd.returns
  have hts := atoms_spec (ws := wsX7_act) Bd.pre
  have hown : s.vm.findClass RX7 = some m.cls := findClass_of_methodNamed Bd.named
  have hlocks := Bd.notSynchronized
  have hS : va_S (fun _ => False) s.heap s.heap [] := va_S.rf
  have hl := lv_entry ([.ref h0, .ref (wa j)]) (n := 2) (Nat.le_of_ble_eq_true rfl)
  rw [lg_entry_eq]
  generalize (lg_sl ([.ref h0, .ref (wa j)]) ++ List.replicate (2 - (lg_sl ([.ref h0, .ref (wa j)])).length) Slot.unset).toArray = ls at hl ⊢
  have hl : lv_has ls 2 [(0, .ref h0), (1, .ref (wa j))] := hl
  have hiX7 : ∀ w ∈ wsX70, w ∈ wsX7_act := by decide +kernel
  have hR0 := hR
  obtain ⟨hs, hc, hw, he, ec, ew, ee, pc, pw, pe, gc, gw, ge, va, da, ra, te, pn, rl, R1, R2, ⟨R3, R3g⟩, ⟨R4, R4g⟩, ⟨R5, R5g⟩, R6, R7, R8, R9, RT, RB, RN, RL, R12, R13⟩ := hR
  have hn30 := hI.n30
  have heW := hI.eW
  have hvE := hI.2.2.2.2.2.1
  have hv1 := hI.2.2.2.2.1
  have hiX1 : ∀ w ∈ wsX10, w ∈ wsX7_act := by decide +kernel
  have hiX2 : ∀ w ∈ wsX20, w ∈ wsX7_act := by decide +kernel
  have hiX4 : ∀ w ∈ wsX40, w ∈ wsX7_act := by decide +kernel
  have hiX6 : ∀ w ∈ wsX60, w ∈ wsX7_act := by decide +kernel
  obtain ⟨t0, t1, t2, t3, t4, t5, t6, t7, t8, t9, tw, td⟩ := id RT
  obtain ⟨ci, ex, hkx, hob⟩ := (R7 j hj).ob2
  have hvc := hkx.vc
  have hbw : B (wa j) := RB _ (by rw [tw j hj]; omega)
  have hwi := hI.wi hj
  refine lv_aload_n hx hb dX7_act_0 rfl (lv_at hl 1 rfl) ?_
  refine w_get (x := wx σ te pn j) hx hb hts hiX1 hiX2 hiX4 hiX6 hown hK hob hvc 8 (by decide) rfl rfl rfl rfl (hts (.fieldLink RX7 95 "HouseWorkers$Work" "toBeCancelled" "Z") (by decide +kernel)) (fun _ => rfl) dX7_act_1 ?_
  refine W.eq (g2 := F0 m 4 ls [.int (σ 13 j)]) rfl ?_
  refine lv_if_eq (tgt := 9) hx hb dX7_act_4 (by decide) (fun c4 => ?_) (fun c4 => ?_)
  · refine lv_aload_n hx hb dX7_act_9 rfl (lv_at hl 1 rfl) ?_
    refine w_failsNow (x := wx σ te pn j) (rest := [])  ⟨hx, hb, hml, hown, hts⟩ gX7_act_X5_failsNow_u164X1 gX7_act_X5_failsNow_u164X2 gX7_act_X5_failsNow_u164X4 gX7_act_X5_failsNow_u164X6 hK hob hvc  ⟨Nat.le_of_ble_eq_true rfl, Nat.le_of_ble_eq_true rfl⟩ ⟨Nat.le_of_ble_eq_true rfl, Nat.le_of_ble_eq_true rfl⟩ ⟨Nat.le_of_ble_eq_true rfl, Nat.le_of_ble_eq_true rfl⟩ ⟨Nat.le_of_ble_eq_true rfl, Nat.le_of_ble_eq_true rfl⟩ (Nat.le_of_ble_eq_true rfl) hl.1 ⟨(Nat.zero_le _), (Nat.zero_le _)⟩ hS dX7_act_10 (fun locs hS => ?_)
    refine W.eq (g2 := F0 m 13 ls [.int (b2 (decide (σ 6 j = σ 9 j + 1) && decide (σ 9 j < σ 5 j)))]) rfl ?_
    refine lv_if_eq (tgt := 20) hx hb dX7_act_13 (by decide) (fun c13 => ?_) (fun c13 => ?_)
    · exact absurd (b2_0 c13) (by rw [decide_eq_true hf, decide_eq_true hlt]; decide)
    · refine lv_iconst (v := 3) hx hb dX7_act_16 (by decide) ?_
      refine lv_goto (tgt := 28) hx hb dX7_act_17 (by decide) ?_
      exact k_reti hx hb hr hlocks ⟨rfl, rfl⟩ hS dX7_act_28
  · exact absurd h13 c4
set_option maxHeartbeats 4000000 in
set_option maxRecDepth 100000 in
theorem c_act_s (l : Launch) {D : va_G} {cI cZ cO : ClassId} {mi : Nat} (H : Heap) {eA : Nat} {B : Nat → Prop} (h0 : Nat) (wa : Nat → Nat) (σ : Sg) (nW nV nE : Nat) (j : Nat) (hR : HR D cI cO eA B h0 wa σ nW nV nE H) (hI : Inv σ nW nV nE) (hj : j < nW) (h12 : σ 12 j = 0) (h13 : σ 13 j = 0) (hnf : ¬ σ 6 j = σ 9 j + 1) (hns : ¬ (σ 9 j = σ 5 j ∧ ¬ σ 4 j = 3)) (hst : σ 4 j = 3 → ¬ σ 11 j = σ 1 0 - 1) : Met l yX7_act wsX7_act ({ frames := 5, cells := 0, slots := 0, locals := 107 }) (Pk D cI cZ cO mi [.ref h0, .ref (wa j)] H) (Qki (fun r H1 => r = (if stp σ nV j 4 j = 0 ∧ stp σ nV j 9 j = stp σ nV j 5 j then 2 else 1) ∧ HR D cI cO eA B h0 wa (stp σ nV j) nW nV nE H1) B) 0 0 B := by
  refine Met.ofW (cc := cX7_act) (maxL := 2) (ret := (some .int)) (by decide) rfl ?_
  intro p e s m args below meth c s₁ Bd hml hv
  obtain ⟨rfl, rfl, hK⟩ := hv
  have hx := Bd.exec
  have hb := Bd.bytes
  have hr := Bd.returns
  have hts := atoms_spec (ws := wsX7_act) Bd.pre
  have hown : s.vm.findClass RX7 = some m.cls := findClass_of_methodNamed Bd.named
  have hlocks := Bd.notSynchronized
  have hS : va_S B s.heap s.heap [] := va_S.rf
  have hl := lv_entry ([.ref h0, .ref (wa j)]) (n := 2) (Nat.le_of_ble_eq_true rfl)
  rw [lg_entry_eq]
  generalize (lg_sl ([.ref h0, .ref (wa j)]) ++ List.replicate (2 - (lg_sl ([.ref h0, .ref (wa j)])).length) Slot.unset).toArray = ls at hl ⊢
  have hl : lv_has ls 2 [(0, .ref h0), (1, .ref (wa j))] := hl
  have hiX7 : ∀ w ∈ wsX70, w ∈ wsX7_act := by decide +kernel
  have hR0 := hR
  obtain ⟨hs, hc, hw, he, ec, ew, ee, pc, pw, pe, gc, gw, ge, va, da, ra, te, pn, rl, R1, R2, ⟨R3, R3g⟩, ⟨R4, R4g⟩, ⟨R5, R5g⟩, R6, R7, R8, R9, RT, RB, RN, RL, R12, R13⟩ := hR
  have hn30 := hI.n30
  have heW := hI.eW
  have hvE := hI.2.2.2.2.2.1
  have hv1 := hI.2.2.2.2.1
  obtain ⟨⟨mcv, hco⟩, hcm⟩ := id R3
  have hiX1 : ∀ w ∈ wsX10, w ∈ wsX7_act := by decide +kernel
  have hiX2 : ∀ w ∈ wsX20, w ∈ wsX7_act := by decide +kernel
  have hiX4 : ∀ w ∈ wsX40, w ∈ wsX7_act := by decide +kernel
  have hiX6 : ∀ w ∈ wsX60, w ∈ wsX7_act := by decide +kernel
  obtain ⟨t0, t1, t2, t3, t4, t5, t6, t7, t8, t9, tw, td⟩ := id RT
  obtain ⟨ci, ex, hkx, hob⟩ := (R7 j hj).ob2
  have hvc := hkx.vc
  have hbw : B (wa j) := RB _ (by rw [tw j hj]; omega)
  have hwi := hI.wi hj
  have hq4 : stp σ nV j 4 j = σ 4 j := stp_k j (by decide) (by decide) (by decide) (by decide) (by decide)
  have hq5 : stp σ nV j 5 j = σ 5 j := stp_k j (by decide) (by decide) (by decide) (by decide) (by decide)
  have hq9 : stp σ nV j 9 j = σ 9 j + 1 := by rw [stp_9, if_pos rfl]
  have hq12 : stp σ nV j 12 j = σ 12 j := stp_k j (by decide) (by decide) (by decide) (by decide) (by decide)
  have hn0 : ¬ σ 12 j = 2 := by rw [h12]; decide
  obtain ⟨sp, fa, a, dn, a5, a6, a7, a9, bb1, bb2, bb3, bb4, hcs⟩ := id hwi
  have hu := va_tag RT R9 (show nV - 1 < nV by omega)
  have hvt : rl (va (nV - 1)) ≠ 18 + 4 * j ∧ rl (ra (va (nV - 1))) ≠ 18 + 4 * j := by
    rcases hu with ⟨-, q1, q2⟩ | ⟨i, i1, i2, i3, -, q1, q2⟩
    · omega
    · have hne : i ≠ j := fun q => by rw [q, h12] at i3; exact absurd i3 (by decide)
      omega
  refine lv_aload_n hx hb dX7_act_0 rfl (lv_at hl 1 rfl) ?_
  refine w_get (x := wx σ te pn j) hx hb hts hiX1 hiX2 hiX4 hiX6 hown hK hob hvc 8 (by decide) rfl rfl rfl rfl (hts (.fieldLink RX7 95 "HouseWorkers$Work" "toBeCancelled" "Z") (by decide +kernel)) (fun _ => rfl) dX7_act_1 ?_
  refine W.eq (g2 := F0 m 4 ls [.int (σ 13 j)]) rfl ?_
  refine lv_if_eq (tgt := 9) hx hb dX7_act_4 (by decide) (fun c4 => ?_) (fun c4 => ?_)
  · refine lv_aload_n hx hb dX7_act_9 rfl (lv_at hl 1 rfl) ?_
    refine w_failsNow (x := wx σ te pn j) (rest := [])  ⟨hx, hb, hml, hown, hts⟩ gX7_act_X5_failsNow_u164X1 gX7_act_X5_failsNow_u164X2 gX7_act_X5_failsNow_u164X4 gX7_act_X5_failsNow_u164X6 hK hob hvc  ⟨Nat.le_of_ble_eq_true rfl, Nat.le_of_ble_eq_true rfl⟩ ⟨Nat.le_of_ble_eq_true rfl, Nat.le_of_ble_eq_true rfl⟩ ⟨Nat.le_of_ble_eq_true rfl, Nat.le_of_ble_eq_true rfl⟩ ⟨Nat.le_of_ble_eq_true rfl, Nat.le_of_ble_eq_true rfl⟩ (Nat.le_of_ble_eq_true rfl) hl.1 ⟨(Nat.zero_le _), (Nat.zero_le _)⟩ hS dX7_act_10 (fun locs hS => ?_)
    refine W.eq (g2 := F0 m 13 ls [.int (b2 (decide (σ 6 j = σ 9 j + 1) && decide (σ 9 j < σ 5 j)))]) rfl ?_
    refine lv_if_eq (tgt := 20) hx hb dX7_act_13 (by decide) (fun c13 => ?_) (fun c13 => ?_)
    · refine lv_aload_n hx hb dX7_act_20 rfl (lv_at hl 1 rfl) ?_
      refine lv_aload_n hx hb dX7_act_21 rfl (lv_at hl 0 rfl) ?_
      refine k_get (C := RX7) (T := TX7) (N := 6) (v := .ref hs) hx hb hts hiX7 hown hK.1 R1 rfl 0 (by decide) (hts (.fieldLink RX7 12 "HouseWorkers" "store" "LHouseWorkers$Store;") (by decide +kernel)) (fun _ h9 => h9) rfl dX7_act_22 ?_
      rcases id hkx with ⟨k4, rfl, v, hv, h11, rfl⟩ | ⟨k4, rfl, rfl⟩ | ⟨k4, rfl, rfl⟩ | ⟨k4, rfl, rfl⟩
      · have k4n := k4
        refine k_calli (va_runU (As := [.ref hs]) (rest := []) ⟨hx, hb, hml, hown, hts⟩ (c_goOn_X1 l _ (wa j) (wx σ te pn j) (σ 7 j) (va v) hs (ra (va v)) (fun c => σ 0 (16 * v + c)) hob (R6 v hv).1 (R6 v hv).2) (va_cwA 1 hts gX7_act_X1_goOn_u167X1 rfl rfl rfl (hK.2.2.1 ⟨"HouseWorkers$Work", "goOn", "(LHouseWorkers$Store;)I"⟩ (by decide +kernel)) (by decide +kernel) ⟨Nat.le_of_ble_eq_true rfl, Nat.le_of_ble_eq_true rfl⟩) (k_preV hK (k_recv hK.1 hob rfl)) rfl rfl hl.1 rfl (lv_room (Nat.le_of_ble_eq_true rfl)) dX7_act_25 ⟨(Nat.zero_le _), (Nat.zero_le _)⟩) hS (fun q h => by rw [h]; exact hbw) (fun r9 H2 locs hp9 hz2 hk2 hS => ?_)
        obtain ⟨rfl, hp2⟩ := hp9
        have hvn : nat (σ 11 j) = v := by rw [h11]; exact nat_nI (by omega)
        have hobn : Ob D (wa j) 2 (WFs (wx (stp σ nV j) te pn j) [.int (σ 7 j), .ref (va v)]) H2 := by
          rw [WFs_cg (y := (upd (upd (wx σ te pn j) 5 (31 * (wx σ te pn j) 5 + σ 0 (16 * v + ix (σ 7 j + (wx σ te pn j) 4)))) 4 ((wx σ te pn j) 4 + 1))) (fun k hk => ?_)]
          · exact hp2
          · match k, hk with
            | 0, _ => rfl
            | 1, _ => exact stp_k j (by decide) (by decide) (by decide) (by decide) (by decide)
            | 2, _ => exact stp_k j (by decide) (by decide) (by decide) (by decide) (by decide)
            | 3, _ => exact stp_k j (by decide) (by decide) (by decide) (by decide) (by decide)
            | 4, _ => show stp σ nV j 9 j = σ 9 j + 1; rw [stp_9, if_pos rfl]
            | 5, _ => show stp σ nV j 10 j = 31 * σ 10 j + σ 0 (16 * v + ix (σ 7 j + σ 9 j)); rw [stp_10a k4n, hvn, ix_aN hwi (Or.inl k4n)]
            | 6, _ => show hvr (stp σ nV j) j = hvr σ j; unfold hvr; rw [hq4, if_neg (fun q => by rw [k4n] at q; exact absurd q.1 (by decide)), if_neg (fun q => by rw [k4n] at q; exact absurd q.1 (by decide)), stp_11, if_neg (fun q => q.2.1 k4n)]
            | 7, _ => rfl
            | 8, _ => exact stp_k j (by decide) (by decide) (by decide) (by decide) (by decide)
            | 9, _ => exact stp_k j (by decide) (by decide) (by decide) (by decide) (by decide)
            | 10, _ => rfl
            | k + 11, h => exact absurd h (by omega)
        have hst : dn < sp ∧ sp ≤ 20 := by rcases hcs with ⟨c1, c2, c3, c4, c5, v, c6, c7⟩ | ⟨c1, c2, c3, c4, c5, c6⟩ | ⟨c1, c2, c3, c4, c5, c6⟩ | ⟨c1, c2, c3, v, c4, c5, c6⟩; (exact ⟨c5 h12, c3⟩); (exact absurd (c1.symm.trans k4n) (by decide)); (exact absurd (c1.symm.trans k4n) (by decide)); exact absurd (c1.symm.trans k4n) (by decide)
        have hrv : (if σ 9 j + 1 < σ 5 j then (1 : Int32) else 2) = (if stp σ nV j 4 j = 0 ∧ stp σ nV j 9 j = stp σ nV j 5 j then 2 else 1) := by
          rw [hq4, hq5, hq9, a9, a5, nI_1]
          by_cases z : dn + 1 < sp
          · rw [if_pos (nI_lt z (by omega)), if_neg (fun q => by have := (nI_eq (by omega) (by omega)).mp q.2; omega)]
          · rw [if_neg (fun q => z ((nI_ltI (by omega) (by omega)).mp q)), if_pos ⟨k4n, by rw [show dn + 1 = sp by omega]⟩]
        exact k_reti hx hb hr hlocks ⟨hrv, HR_stp (τ := stp σ nV j) (pn' := pn) R1 R2 R3 R3g R4 R4g R5 R5g R6 R7 R8 R9 RT RB RN RL R12 R13 hj h12 (fun p z1 z2 => hk2 p z2 (fun e => z1 (Or.inl (by rw [e]; exact tw j hj)))) hz2 (fun k i a b c d e => stp_k i d e c b a) (fun k i a b c => stp_J i a b c) (fun i c a b => stp_e14 i c a b) hkx (fun _ => by rw [stp_11, if_neg (fun q => q.2.1 k4n)]) hobn (fun _ _ => rfl) (by rw [R13 j hj h12]; unfold pin; rw [hq12, hq4, stp_11, if_neg (fun q => q.2.1 k4n)]) (fun q => by rcases q with q | q <;> exact absurd (k4n.symm.trans q) (by decide))⟩ hS dX7_act_28
      · have k4n := k4
        obtain ⟨dj1, dj2⟩ := td j hj (Or.inl k4)
        obtain ⟨f, f1, f2⟩ := R8 j hj (Or.inl k4)
        have f3 := f2 hn0
        have hlt : σ 9 j < σ 5 j := by rcases hcs with ⟨c1, c2, c3, c4, c5, v, c6, c7⟩ | ⟨c1, c2, c3, c4, c5, c6⟩ | ⟨c1, c2, c3, c4, c5, c6⟩ | ⟨c1, c2, c3, v, c4, c5, c6⟩; (exact absurd (c1.symm.trans k4n) (by decide)); (rw [a9, a5]; exact nI_lt (Nat.lt_of_le_of_ne c4 (fun q => hns ⟨by rw [a9, a5, q], by rw [k4n]; decide⟩)) (by omega)); (exact absurd (c1.symm.trans k4n) (by decide)); exact absurd (c1.symm.trans k4n) (by decide)
        refine k_calli (va_runU (As := [.ref hs]) (rest := []) ⟨hx, hb, hml, hown, hts⟩ (c_goOn_X6s l _ (wa j) (wx σ te pn j) (σ 7 j) (σ 8 j) (da j) hs (ra (da j)) f hob f1.1 f1.2 hlt (tag_ne (tw j hj) dj2 (by omega))) (va_cwA 1 hts gX7_act_X6_goOn_u167X6 rfl rfl rfl (hK.2.2.1 ⟨"HouseWorkers$Work", "goOn", "(LHouseWorkers$Store;)I"⟩ (by decide +kernel)) (by decide +kernel) ⟨Nat.le_of_ble_eq_true rfl, Nat.le_of_ble_eq_true rfl⟩) (k_preV hK (k_recv hK.1 hob rfl)) rfl rfl hl.1 rfl (lv_room (Nat.le_of_ble_eq_true rfl)) dX7_act_25 ⟨(Nat.zero_le _), (Nat.zero_le _)⟩) hS (fun q h => h.elim (fun h => by rw [h]; exact hbw) (fun h => by rw [h]; exact RB _ (by omega))) (fun r9 H2 locs hp9 hz2 hk2 hS => ?_)
        obtain ⟨rfl, hp2, hp3⟩ := hp9
        have hobn : Ob D (wa j) 6 (WFs (wx (stp σ nV j) te pn j) [.int (σ 7 j), .int (σ 8 j), .ref (da j)]) H2 := by
          rw [WFs_cg (y := (upd (wx σ te pn j) 4 ((wx σ te pn j) 4 + 1))) (fun k hk => ?_)]
          · exact hp2
          · match k, hk with
            | 0, _ => rfl
            | 1, _ => exact stp_k j (by decide) (by decide) (by decide) (by decide) (by decide)
            | 2, _ => exact stp_k j (by decide) (by decide) (by decide) (by decide) (by decide)
            | 3, _ => exact stp_k j (by decide) (by decide) (by decide) (by decide) (by decide)
            | 4, _ => show stp σ nV j 9 j = σ 9 j + 1; rw [stp_9, if_pos rfl]
            | 5, _ => exact stp_10b (Or.inl k4n)
            | 6, _ => show hvr (stp σ nV j) j = hvr σ j; unfold hvr; rw [hq4, if_neg (fun q => by rw [k4n] at q; exact absurd q.1 (by decide)), if_neg (fun q => by rw [k4n] at q; exact absurd q.1 (by decide)), stp_11, if_neg (fun q => q.2.2 k4n)]
            | 7, _ => rfl
            | 8, _ => exact stp_k j (by decide) (by decide) (by decide) (by decide) (by decide)
            | 9, _ => exact stp_k j (by decide) (by decide) (by decide) (by decide) (by decide)
            | 10, _ => rfl
            | k + 11, h => exact absurd h (by omega)
        have hrv : (1 : Int32) = (if stp σ nV j 4 j = 0 ∧ stp σ nV j 9 j = stp σ nV j 5 j then 2 else 1) := by rw [hq4, if_neg (fun q => by rw [k4n] at q; exact absurd q.1 (by decide))]
        have hd2 := va_at.kept f1.1 (hk2 (da j) (va_at.lt f1.1) (fun e => e.elim (tag_ne dj1 (tw j hj) (by omega)) (tag_ne dj1 dj2 (by omega))))
        have hix : ix (σ 7 j + σ 9 j) = aN σ j := ix_aN hwi (Or.inr k4n)
        have haN : aN σ j < 16 := Nat.mod_lt _ (by decide)
        have hp4 : Ai D cI (ra (da j)) 16 (upd f (ix (σ 7 j + σ 9 j)) (f (ix (σ 7 j + σ 9 j)) + σ 8 j)) H2 := hp3
        rw [hix] at hp4
        have hp5 : ∀ c, c < 16 → upd f (aN σ j) (f (aN σ j) + σ 8 j) c = stp σ nV j 14 (16 * j + c) := fun c hc => by rw [stp_14b k4n, f3 _ haN]; unfold upd; by_cases z : c = aN σ j; (rw [if_pos z, if_pos z]); (rw [if_neg z, if_neg z]; exact f3 c hc)
        exact k_reti hx hb hr hlocks ⟨hrv, HR_stp (τ := stp σ nV j) (pn' := pn) R1 R2 R3 R3g R4 R4g R5 R5g R6 R7 R8 R9 RT RB RN RL R12 R13 hj h12 (fun p z1 z2 => hk2 p z2 (fun e => e.elim (fun e => z1 (Or.inl (by rw [e]; exact tw j hj))) (fun e => z1 (Or.inr (by rw [e]; exact dj2))))) hz2 (fun k i a b c d e => stp_k i d e c b a) (fun k i a b c => stp_J i a b c) (fun i c a b => stp_e14 i c a b) hkx (fun z => absurd (k4n.symm.trans z) (by decide)) hobn (fun _ _ => rfl) (by rw [R13 j hj h12]; unfold pin; rw [hq12, hq4, stp_11, if_neg (fun q => q.2.2 k4n)]) (fun _ => ⟨_, ⟨hd2, hp4⟩, hp5⟩)⟩ hS dX7_act_28
      · by_cases h90 : σ 9 j = 0
        · have k4n := k4
          obtain ⟨dj1, dj2⟩ := td j hj (Or.inr k4)
          obtain ⟨f, f1, f2⟩ := R8 j hj (Or.inr k4)
          have f3 := f2 hn0
          have hlt : σ 9 j < σ 5 j := by rcases hcs with ⟨c1, c2, c3, c4, c5, v, c6, c7⟩ | ⟨c1, c2, c3, c4, c5, c6⟩ | ⟨c1, c2, c3, c4, c5, c6⟩ | ⟨c1, c2, c3, v, c4, c5, c6⟩; (exact absurd (c1.symm.trans k4n) (by decide)); (exact absurd (c1.symm.trans k4n) (by decide)); (rw [a9, a5]; exact nI_lt (Nat.lt_of_le_of_ne c4 (fun q => hns ⟨by rw [a9, a5, q], by rw [k4n]; decide⟩)) (by omega)); exact absurd (c1.symm.trans k4n) (by decide)
          refine k_calli (va_runU (As := [.ref hs]) (rest := []) ⟨hx, hb, hml, hown, hts⟩ (c_goOn_X2f l _ (wa j) (wx σ te pn j) (da j) hs (ra (da j)) f (va 0) hc (va (nV - 1)) ec (nV - 1) (ra (va (nV - 1))) mcv (fun c => σ 0 (16 * (nV - 1) + c)) hob f1.1 f1.2 hlt (tag_ne (tw j hj) dj2 (by omega)) (tag_ne dj1 dj2 (by omega)) h90 R2 hco (R6 (nV - 1) (by omega)).1 (R6 (nV - 1) (by omega)).2 (fun e => hvt.2 (by rw [e]; exact dj2)) (fun e => hvt.1 (by rw [e]; exact dj2)) (tag_ne t1 dj2 (by omega)) (tag_ne t2 dj2 (by omega)) (tag_ne dj1 (tw j hj) (by omega))) (va_cwA 1 hts gX7_act_X2_goOn_u167X2 rfl rfl rfl (hK.2.2.1 ⟨"HouseWorkers$Work", "goOn", "(LHouseWorkers$Store;)I"⟩ (by decide +kernel)) (by decide +kernel) ⟨Nat.le_of_ble_eq_true rfl, Nat.le_of_ble_eq_true rfl⟩) (k_preV hK (k_recv hK.1 hob rfl)) rfl rfl hl.1 rfl (lv_room (Nat.le_of_ble_eq_true rfl)) dX7_act_25 ⟨(Nat.zero_le _), (Nat.zero_le _)⟩) hS (fun q h => h.elim (fun h => by rw [h]; exact hbw) (fun h => by rw [h]; exact RB _ (by omega))) (fun r9 H2 locs hp9 hz2 hk2 hS => ?_)
          obtain ⟨rfl, hp2, hp3⟩ := hp9
          have hobn : Ob D (wa j) 3 (WFs (wx (stp σ nV j) te (upd pn j (nI (nV - 1))) j) [.ref (da j)]) H2 := by
            rw [WFs_cg (y := (upd (upd (wx σ te pn j) 7 (nI (nV - 1))) 4 ((wx σ te pn j) 4 + 1))) (fun k hk => ?_)]
            · exact hp2
            · match k, hk with
              | 0, _ => rfl
              | 1, _ => exact stp_k j (by decide) (by decide) (by decide) (by decide) (by decide)
              | 2, _ => exact stp_k j (by decide) (by decide) (by decide) (by decide) (by decide)
              | 3, _ => exact stp_k j (by decide) (by decide) (by decide) (by decide) (by decide)
              | 4, _ => show stp σ nV j 9 j = σ 9 j + 1; rw [stp_9, if_pos rfl]
              | 5, _ => exact stp_10b (Or.inr k4n)
              | 6, _ => show hvr (stp σ nV j) j = hvr σ j; unfold hvr; rw [hq4, hq12, if_pos ⟨k4n, hn0⟩, if_pos ⟨k4n, hn0⟩]
              | 7, _ => show upd pn j (nI (nV - 1)) j = nI (nV - 1); unfold upd; rw [if_pos rfl]
              | 8, _ => exact stp_k j (by decide) (by decide) (by decide) (by decide) (by decide)
              | 9, _ => exact stp_k j (by decide) (by decide) (by decide) (by decide) (by decide)
              | 10, _ => rfl
              | k + 11, h => exact absurd h (by omega)
          have hrv : (1 : Int32) = (if stp σ nV j 4 j = 0 ∧ stp σ nV j 9 j = stp σ nV j 5 j then 2 else 1) := by rw [hq4, if_neg (fun q => by rw [k4n] at q; exact absurd q.1 (by decide))]
          have hd2 := va_at.kept f1.1 (hk2 (da j) (va_at.lt f1.1) (fun e => e.elim (tag_ne dj1 (tw j hj) (by omega)) (tag_ne dj1 dj2 (by omega))))
          have hp5 : ∀ c, c < 16 → rnd (fun c => σ 0 (16 * (nV - 1) + c)) c = stp σ nV j 14 (16 * j + c) := fun c hc => by rw [stp_14c k4n hc, show (fun c => if σ 9 j = 0 then σ 0 (16 * (nV - 1) + c) else σ 14 (16 * j + c)) = (fun c => σ 0 (16 * (nV - 1) + c)) from funext fun c => if_pos h90]
          exact k_reti hx hb hr hlocks ⟨hrv, HR_stp (τ := stp σ nV j) (pn' := (upd pn j (nI (nV - 1)))) R1 R2 R3 R3g R4 R4g R5 R5g R6 R7 R8 R9 RT RB RN RL R12 R13 hj h12 (fun p z1 z2 => hk2 p z2 (fun e => e.elim (fun e => z1 (Or.inl (by rw [e]; exact tw j hj))) (fun e => z1 (Or.inr (by rw [e]; exact dj2))))) hz2 (fun k i a b c d e => stp_k i d e c b a) (fun k i a b c => stp_J i a b c) (fun i c a b => stp_e14 i c a b) hkx (fun z => absurd (k4n.symm.trans z) (by decide)) hobn (fun i z => by unfold upd; rw [if_neg z]) (by rw [show upd pn j (nI (nV - 1)) j = nI (nV - 1) by unfold upd; rw [if_pos rfl]]; unfold pin; rw [hq12, hq4, h12, k4n, stp_11, if_pos ⟨rfl, by rw [k4n]; decide, by rw [k4n]; decide⟩, if_pos k4n, if_pos h90, hI.2.1]; exact (pk_sub (b := 1) hv1).symm) (fun _ => ⟨_, ⟨hd2, hp3⟩, hp5⟩)⟩ hS dX7_act_28
        · have k4n := k4
          obtain ⟨dj1, dj2⟩ := td j hj (Or.inr k4)
          obtain ⟨f, f1, f2⟩ := R8 j hj (Or.inr k4)
          have f3 := f2 hn0
          have hlt : σ 9 j < σ 5 j := by rcases hcs with ⟨c1, c2, c3, c4, c5, v, c6, c7⟩ | ⟨c1, c2, c3, c4, c5, c6⟩ | ⟨c1, c2, c3, c4, c5, c6⟩ | ⟨c1, c2, c3, v, c4, c5, c6⟩; (exact absurd (c1.symm.trans k4n) (by decide)); (exact absurd (c1.symm.trans k4n) (by decide)); (rw [a9, a5]; exact nI_lt (Nat.lt_of_le_of_ne c4 (fun q => hns ⟨by rw [a9, a5, q], by rw [k4n]; decide⟩)) (by omega)); exact absurd (c1.symm.trans k4n) (by decide)
          refine k_calli (va_runU (As := [.ref hs]) (rest := []) ⟨hx, hb, hml, hown, hts⟩ (c_goOn_X2n l _ (wa j) (wx σ te pn j) (da j) hs (ra (da j)) f hob f1.1 f1.2 hlt (tag_ne (tw j hj) dj2 (by omega)) (tag_ne dj1 dj2 (by omega)) h90) (va_cwA 1 hts gX7_act_X2_goOn_u167X2 rfl rfl rfl (hK.2.2.1 ⟨"HouseWorkers$Work", "goOn", "(LHouseWorkers$Store;)I"⟩ (by decide +kernel)) (by decide +kernel) ⟨Nat.le_of_ble_eq_true rfl, Nat.le_of_ble_eq_true rfl⟩) (k_preV hK (k_recv hK.1 hob rfl)) rfl rfl hl.1 rfl (lv_room (Nat.le_of_ble_eq_true rfl)) dX7_act_25 ⟨(Nat.zero_le _), (Nat.zero_le _)⟩) hS (fun q h => h.elim (fun h => by rw [h]; exact hbw) (fun h => by rw [h]; exact RB _ (by omega))) (fun r9 H2 locs hp9 hz2 hk2 hS => ?_)
          obtain ⟨rfl, hp2, hp3⟩ := hp9
          have hobn : Ob D (wa j) 3 (WFs (wx (stp σ nV j) te pn j) [.ref (da j)]) H2 := by
            rw [WFs_cg (y := (upd (wx σ te pn j) 4 ((wx σ te pn j) 4 + 1))) (fun k hk => ?_)]
            · exact hp2
            · match k, hk with
              | 0, _ => rfl
              | 1, _ => exact stp_k j (by decide) (by decide) (by decide) (by decide) (by decide)
              | 2, _ => exact stp_k j (by decide) (by decide) (by decide) (by decide) (by decide)
              | 3, _ => exact stp_k j (by decide) (by decide) (by decide) (by decide) (by decide)
              | 4, _ => show stp σ nV j 9 j = σ 9 j + 1; rw [stp_9, if_pos rfl]
              | 5, _ => exact stp_10b (Or.inr k4n)
              | 6, _ => show hvr (stp σ nV j) j = hvr σ j; unfold hvr; rw [hq4, hq12, if_pos ⟨k4n, hn0⟩, if_pos ⟨k4n, hn0⟩]
              | 7, _ => rfl
              | 8, _ => exact stp_k j (by decide) (by decide) (by decide) (by decide) (by decide)
              | 9, _ => exact stp_k j (by decide) (by decide) (by decide) (by decide) (by decide)
              | 10, _ => rfl
              | k + 11, h => exact absurd h (by omega)
          have hrv : (1 : Int32) = (if stp σ nV j 4 j = 0 ∧ stp σ nV j 9 j = stp σ nV j 5 j then 2 else 1) := by rw [hq4, if_neg (fun q => by rw [k4n] at q; exact absurd q.1 (by decide))]
          have hd2 := va_at.kept f1.1 (hk2 (da j) (va_at.lt f1.1) (fun e => e.elim (tag_ne dj1 (tw j hj) (by omega)) (tag_ne dj1 dj2 (by omega))))
          have hp5 : ∀ c, c < 16 → rnd f c = stp σ nV j 14 (16 * j + c) := fun c hc => by rw [stp_14c k4n hc, show (fun c => if σ 9 j = 0 then σ 0 (16 * (nV - 1) + c) else σ 14 (16 * j + c)) = (fun c => σ 14 (16 * j + c)) from funext fun c => if_neg h90]; unfold rnd; rw [f3 c hc, f3 _ (Nat.mod_lt _ (by decide))]
          exact k_reti hx hb hr hlocks ⟨hrv, HR_stp (τ := stp σ nV j) (pn' := pn) R1 R2 R3 R3g R4 R4g R5 R5g R6 R7 R8 R9 RT RB RN RL R12 R13 hj h12 (fun p z1 z2 => hk2 p z2 (fun e => e.elim (fun e => z1 (Or.inl (by rw [e]; exact tw j hj))) (fun e => z1 (Or.inr (by rw [e]; exact dj2))))) hz2 (fun k i a b c d e => stp_k i d e c b a) (fun k i a b c => stp_J i a b c) (fun i c a b => stp_e14 i c a b) hkx (fun z => absurd (k4n.symm.trans z) (by decide)) hobn (fun _ _ => rfl) (by rw [R13 j hj h12]; unfold pin; rw [hq12, hq4, stp_11, if_pos ⟨rfl, by rw [k4n]; decide, by rw [k4n]; decide⟩, if_pos k4n, if_neg h90]) (fun _ => ⟨_, ⟨hd2, hp3⟩, hp5⟩)⟩ hS dX7_act_28
      · have k4n := k4
        have hvs : hvr σ j = σ 11 j := by unfold hvr; rw [if_neg (fun q => by rw [k4n] at q; exact absurd q.1 (by decide))]
        obtain ⟨v, c4, c6⟩ : ∃ v, v < nV ∧ σ 11 j = nI v := by rcases hcs with ⟨c1, c2, c3, c4, c5, v, c6, c7⟩ | ⟨c1, c2, c3, c4, c5, c6⟩ | ⟨c1, c2, c3, c4, c5, c6⟩ | ⟨c1, c2, c3, v, c4, c5, c6⟩; (exact absurd (c1.symm.trans k4n) (by decide)); (exact absurd (c1.symm.trans k4n) (by decide)); (exact absurd (c1.symm.trans k4n) (by decide)); exact ⟨v, c4, c6⟩
        have hvl : v < nV - 1 := by have := hst k4n; rw [c6, hI.2.1, show nI nV - 1 = nI (nV - 1) from pk_sub (b := 1) hv1] at this; exact Nat.lt_of_le_of_ne (by omega) (fun q => this (by rw [q]))
        refine k_calli (va_runU (As := [.ref hs]) (rest := []) ⟨hx, hb, hml, hown, hts⟩ (c_goOn_X4 l _ (wa j) (wx σ te pn j) hs (va 0) hc (va (nV - 1)) ec (nV - 1) pc (va (v + 1)) (ra (va (v + 1))) v gc (fun c => σ 0 (16 * (v + 1) + c)) hob R2 R3 (fun i hi => ⟨va (i + 1), R3g i hi, _, (R6 (i + 1) (by omega)).1⟩) (by omega) hvl (hvs.trans c6) (R3g v hvl) (R6 (v + 1) (by omega)).1 (R6 (v + 1) (by omega)).2) (va_cwA 1 hts gX7_act_X4_goOn_u167X4 rfl rfl rfl (hK.2.2.1 ⟨"HouseWorkers$Work", "goOn", "(LHouseWorkers$Store;)I"⟩ (by decide +kernel)) (by decide +kernel) ⟨Nat.le_of_ble_eq_true rfl, Nat.le_of_ble_eq_true rfl⟩) (k_preV hK (k_recv hK.1 hob rfl)) rfl rfl hl.1 rfl (lv_room (Nat.le_of_ble_eq_true rfl)) dX7_act_25 ⟨(Nat.zero_le _), (Nat.zero_le _)⟩) hS (fun q h => by rw [h]; exact hbw) (fun r9 H2 locs hp9 hz2 hk2 hS => ?_)
        obtain ⟨rfl, hp2⟩ := hp9
        have hvn : nat (σ 11 j + 1) = v + 1 := by rw [c6, nI_1]; exact nat_nI (by omega)
        have hobn : Ob D (wa j) 5 (WFs (wx (stp σ nV j) te pn j) []) H2 := by
          rw [WFs_cg (y := (upd (upd (upd (wx σ te pn j) 5 (31 * (wx σ te pn j) 5 + isum (fun c => σ 0 (16 * (v + 1) + c)) 16)) 6 ((wx σ te pn j) 6 + 1)) 4 ((wx σ te pn j) 4 + 1))) (fun k hk => ?_)]
          · exact hp2
          · match k, hk with
            | 0, _ => rfl
            | 1, _ => exact stp_k j (by decide) (by decide) (by decide) (by decide) (by decide)
            | 2, _ => exact stp_k j (by decide) (by decide) (by decide) (by decide) (by decide)
            | 3, _ => exact stp_k j (by decide) (by decide) (by decide) (by decide) (by decide)
            | 4, _ => show stp σ nV j 9 j = σ 9 j + 1; rw [stp_9, if_pos rfl]
            | 5, _ => show stp σ nV j 10 j = 31 * σ 10 j + isum (fun c => σ 0 (16 * (v + 1) + c)) 16; rw [stp_10c k4n, hvn]
            | 6, _ => show hvr (stp σ nV j) j = hvr σ j + 1; rw [hvs]; unfold hvr; rw [hq4, if_neg (fun q => by rw [k4n] at q; exact absurd q.1 (by decide)), stp_11, if_pos ⟨rfl, by rw [k4n]; decide, by rw [k4n]; decide⟩, if_neg (by rw [k4n]; decide)]
            | 7, _ => rfl
            | 8, _ => exact stp_k j (by decide) (by decide) (by decide) (by decide) (by decide)
            | 9, _ => exact stp_k j (by decide) (by decide) (by decide) (by decide) (by decide)
            | 10, _ => rfl
            | k + 11, h => exact absurd h (by omega)
        have hrv : (1 : Int32) = (if stp σ nV j 4 j = 0 ∧ stp σ nV j 9 j = stp σ nV j 5 j then 2 else 1) := by rw [hq4, if_neg (fun q => by rw [k4n] at q; exact absurd q.1 (by decide))]
        exact k_reti hx hb hr hlocks ⟨hrv, HR_stp (τ := stp σ nV j) (pn' := pn) R1 R2 R3 R3g R4 R4g R5 R5g R6 R7 R8 R9 RT RB RN RL R12 R13 hj h12 (fun p z1 z2 => hk2 p z2 (fun e => z1 (Or.inl (by rw [e]; exact tw j hj)))) hz2 (fun k i a b c d e => stp_k i d e c b a) (fun k i a b c => stp_J i a b c) (fun i c a b => stp_e14 i c a b) hkx (fun z => absurd (k4n.symm.trans z) (by decide)) hobn (fun _ _ => rfl) (by rw [R13 j hj h12]; unfold pin; rw [hq12, hq4, k4n]; cases decide (σ 12 j = 0) <;> rfl) (fun q => by rcases q with q | q <;> exact absurd (k4n.symm.trans q) (by decide))⟩ hS dX7_act_28
    · exact absurd (b2_n c13) (by rw [decide_eq_false hnf, Bool.false_and]; decide)
  · exact absurd h13 c4
