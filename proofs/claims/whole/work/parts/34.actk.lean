set_option maxHeartbeats 4000000 in
set_option maxRecDepth 100000 in
theorem c_act_k (l : Launch) {D : va_G} {cI cZ cO : ClassId} {mi eA : Nat} {B : Nat → Prop} (H : Heap) (h0 : Nat) (wa : Nat → Nat) (σ : Sg) (nW nV nE : Nat) (j : Nat) (hR : HR D cI cO eA B h0 wa σ nW nV nE H) (hI : Inv σ nW nV nE) (hj : j < nW) (h12 : σ 12 j = 0) (h13 : σ 13 j = 0) (hd : σ 9 j = σ 5 j) (hk12 : σ 4 j = 1 ∨ σ 4 j = 2) (hn : ∀ i, i < nE → nat (σ 17 i) ≠ j ∧ nat (σ 17 i) < nW) : Met l yX7_act wsX7_act ({ frames := 9, cells := 1, slots := 33, locals := 233 }) (Pz D cI cZ cO mi eA B [.ref h0, .ref (wa j)] H) (Qki (fun r H1 => r = 2 ∧ HRE D cI cO eA B h0 wa j (u2 (cmt σ nV j) 12 j 2) nW (nV + 1) nE H1) B) 1 33 B := by
  refine Met.ofW (cc := cX7_act) (maxL := 2) (ret := (some .int)) (by decide) rfl ?_
  intro p e s m args below meth c s₁ Bd hml hv
  obtain ⟨rfl, rfl, hK, hZ⟩ := hv
  have hx := Bd.exec
  have hb := Bd.bytes
  have hr := Bd.returns
  have hts := atoms_spec (ws := wsX7_act) Bd.pre
  have hown : s.vm.findClass RX7 = some m.cls := findClass_of_methodNamed Bd.named
  have hlocks := Bd.notSynchronized
  have hS : va_S B s.heap s.heap [] := va_S.rf
  have hl := lv_entry ([.ref h0, .ref (wa j)]) (n := 2) (Nat.le_of_ble_eq_true rfl)
  rw [lg_entry_eq]
  generalize (lg_sl ([.ref h0, .ref (wa j)]) ++ List.replicate (2 - (lg_sl ([.ref h0, .ref (wa j)])).length) Slot.unset).toArray = ls at hl ⊢
  have hl : lv_has ls 2 [(0, .ref h0), (1, .ref (wa j))] := hl
  have hiX7 : ∀ w ∈ wsX70, w ∈ wsX7_act := by decide +kernel
  have hR0 := hR
  obtain ⟨hs, hc, hw, he, ec, ew, ee, pc, pw, pe, gc, gw, ge, va, da, ra, te, pn, rl, R1, R2, ⟨R3, R3g⟩, ⟨R4, R4g⟩, ⟨R5, R5g⟩, R6, R7, R8, R9, RT, RB, RN, RL, R12, R13⟩ := hR
  have hn30 := hI.n30
  have heW := hI.eW
  have hvE := hI.2.2.2.2.2.1
  have hv1 := hI.2.2.2.2.1
  have hiX1 : ∀ w ∈ wsX10, w ∈ wsX7_act := by decide +kernel
  have hiX2 : ∀ w ∈ wsX20, w ∈ wsX7_act := by decide +kernel
  have hiX4 : ∀ w ∈ wsX40, w ∈ wsX7_act := by decide +kernel
  have hiX6 : ∀ w ∈ wsX60, w ∈ wsX7_act := by decide +kernel
  obtain ⟨t0, t1, t2, t3, t4, t5, t6, t7, t8, t9, tw, td⟩ := id RT
  obtain ⟨ci, ex, hkx, hob⟩ := (R7 j hj).ob2
  have hvc := hkx.vc
  have hbw : B (wa j) := RB _ (by rw [tw j hj]; omega)
  have hwi := hI.wi hj
  have hnl : ¬ σ 9 j < σ 5 j := by rw [hd]; exact fun q => Int32.lt_irrefl q
  have hn0 : ¬ σ 12 j = 2 := by rw [h12]; decide
  have hvt : ∀ u, u < nV → rl (va u) ≠ 18 + 4 * j ∧ rl (ra (va u)) ≠ 18 + 4 * j ∧ rl (va u) ≠ 2 := fun u hu => by
    rcases va_tag RT R9 hu with ⟨-, q1, q2⟩ | ⟨i, i1, i2, i3, -, q1, q2⟩
    · omega
    · have hne : i ≠ j := fun q => by rw [q, h12] at i3; exact absurd i3 (by decide)
      omega
  obtain ⟨dj1, dj2⟩ := td j hj hk12
  obtain ⟨f, f1, f2⟩ := R8 j hj hk12
  have f3 := f2 hn0
  refine lv_aload_n hx hb dX7_act_0 rfl (lv_at hl 1 rfl) ?_
  refine w_get (x := wx σ te pn j) hx hb hts hiX1 hiX2 hiX4 hiX6 hown hK hob hvc 8 (by decide) rfl rfl rfl rfl (hts (.fieldLink RX7 95 "HouseWorkers$Work" "toBeCancelled" "Z") (by decide +kernel)) (fun _ => rfl) dX7_act_1 ?_
  refine W.eq (g2 := F0 m 4 ls [.int (σ 13 j)]) rfl ?_
  refine lv_if_eq (tgt := 9) hx hb dX7_act_4 (by decide) (fun c4 => ?_) (fun c4 => ?_)
  · refine lv_aload_n hx hb dX7_act_9 rfl (lv_at hl 1 rfl) ?_
    refine w_failsNow (x := wx σ te pn j) (rest := [])  ⟨hx, hb, hml, hown, hts⟩ gX7_act_X5_failsNow_u164X1 gX7_act_X5_failsNow_u164X2 gX7_act_X5_failsNow_u164X4 gX7_act_X5_failsNow_u164X6 hK hob hvc  ⟨Nat.le_of_ble_eq_true rfl, Nat.le_of_ble_eq_true rfl⟩ ⟨Nat.le_of_ble_eq_true rfl, Nat.le_of_ble_eq_true rfl⟩ ⟨Nat.le_of_ble_eq_true rfl, Nat.le_of_ble_eq_true rfl⟩ ⟨Nat.le_of_ble_eq_true rfl, Nat.le_of_ble_eq_true rfl⟩ (Nat.le_of_ble_eq_true rfl) hl.1 ⟨Nat.le_of_ble_eq_true rfl, Nat.le_of_ble_eq_true rfl⟩ hS dX7_act_10 (fun locs hS => ?_)
    refine W.eq (g2 := F0 m 13 ls [.int (b2 (decide (σ 6 j = σ 9 j + 1) && decide (σ 9 j < σ 5 j)))]) rfl ?_
    refine lv_if_eq (tgt := 20) hx hb dX7_act_13 (by decide) (fun c13 => ?_) (fun c13 => ?_)
    · refine lv_aload_n hx hb dX7_act_20 rfl (lv_at hl 1 rfl) ?_
      refine lv_aload_n hx hb dX7_act_21 rfl (lv_at hl 0 rfl) ?_
      refine k_get (C := RX7) (T := TX7) (N := 6) (v := .ref hs) hx hb hts hiX7 hown hK.1 R1 rfl 0 (by decide) (hts (.fieldLink RX7 12 "HouseWorkers" "store" "LHouseWorkers$Store;") (by decide +kernel)) (fun _ h9 => h9) rfl dX7_act_22 ?_
      have hZc := hZ
      have htl : ∀ {t : Nat}, 0 < nV - 1 → rl ec = 5 := fun q => t5 (by omega)
      rcases id hkx with ⟨k4, rfl, v, hv, h11, rfl⟩ | ⟨k4, rfl, rfl⟩ | ⟨k4, rfl, rfl⟩ | ⟨k4, rfl, rfl⟩
      · rcases hk12 with q | q <;> exact absurd (k4.symm.trans q) (by decide)
      · have k4n := k4
        refine k_calli (va_runU (As := [.ref hs]) (rest := []) ⟨hx, hb, hml, hown, hts⟩ (c_goOn_X6c l _ (wa j) (wx σ te pn j) (σ 7 j) (σ 8 j) (da j) hs (va 0) hc (va (nV - 1)) ec (nV - 1) pc (ra (da j)) (ra (va (nV - 1))) gc f (fun c => σ 0 (16 * (nV - 1) + c)) hob f1.1 f1.2 R2 R3 (R6 (nV - 1) (by omega)).1 (R6 (nV - 1) (by omega)).2 (fun i hi => ⟨va (i + 1), R3g i hi, ⟨1, _, Or.inl rfl, (R6 (i + 1) (by omega)).1⟩, fun e => (hvt (i + 1) (by omega)).2.2 (by rw [e]; exact t2), fun e => (hvt (i + 1) (by omega)).1 (by rw [e]; exact dj2)⟩) (by omega) hnl (RB _ (by omega)) RN (fun e => (hvt (nV - 1) (by omega)).2.1 (by rw [e]; exact dj2)) (tag_ne dj1 dj2 (by omega)) (fun e => (hvt (nV - 1) (by omega)).1 (by rw [e]; exact dj2)) (tag_ne (tw j hj) dj2 (by omega)) (tag_ne t1 dj2 (by omega)) (tag_ne t2 dj2 (by omega)) (fun q => tag_ne (t5 (by omega)) dj2 (by omega)) (tag_ne dj1 t2 (by omega)) (fun q => tag_ne dj1 (t5 (by omega)) (by omega)) (fun q => tag_ne t2 (t5 (by omega)) (by omega)) (tag_ne t1 t2 (by omega)) (fun q => tag_ne t1 (t5 (by omega)) (by omega)) (tag_ne dj1 t1 (by omega)) (tag_ne (tw j hj) t1 (by omega)) (tag_ne (tw j hj) t2 (by omega)) (fun q => tag_ne (tw j hj) (t5 (by omega)) (by omega)) (tag_ne dj2 t1 (by omega)) (tag_ne dj1 (tw j hj) (by omega)) (RB _ (by omega))) (va_cwA 1 hts gX7_act_X6_goOn_u167X6 rfl rfl rfl (hK.2.2.1 ⟨"HouseWorkers$Work", "goOn", "(LHouseWorkers$Store;)I"⟩ (by decide +kernel)) (by decide +kernel) ⟨Nat.le_of_ble_eq_true rfl, Nat.le_of_ble_eq_true rfl⟩) (z_preV hK hZc (k_recv hK.1 hob rfl)) rfl rfl hl.1 rfl (lv_room (Nat.le_of_ble_eq_true rfl)) dX7_act_25 ⟨Nat.le_of_ble_eq_true rfl, Nat.le_of_ble_eq_true rfl⟩) hS (fun q h => h.elim (fun h => by rw [h]; exact hbw) (fun h => h.elim (fun h => by rw [h]; exact RB _ (by omega)) (fun h => h.elim (fun h => by rw [h]; exact RB _ (by omega)) (fun h => h.elim (fun h => by rw [h]; exact RB _ (by omega)) (fun h => h.elim (fun h => by rw [h.1]; exact RB _ (by rw [t5 (by omega)]; omega)) (fun h => RN q h)))))) (fun r9 H2 locs hp9 hz2 hk2 hS => ?_)
        obtain ⟨rfl, hp2, hp3, hp4, hp5, e1, p1, g1, hp6, hg1, hg2, he1⟩ := hp9
        rw [show nV - 1 + 1 = nV by omega] at hp2 hp6
        have hres : ∀ c, c < 16 → f c + σ 0 (16 * (nV - 1) + c) = cmt σ nV j 0 (16 * nV + c) := fun c hc => by rw [cmt_new hc, f3 c hc, if_pos k4n, show 16 * nV + c - 16 = 16 * (nV - 1) + c by omega]; exact Int32.add_comm _ _
        have hag : ∀ p, ¬ (rl p = 16 + 4 * j ∨ rl p = 18 + 4 * j ∨ rl p = 1 ∨ rl p = 2 ∨ rl p = 5) → p < s.heap.size → H2[p]? = s.heap[p]? := fun p z1 z2 => hk2 p z2 (fun h => h.elim (fun h => z1 (Or.inl (by rw [h]; exact tw j hj))) (fun h => h.elim (fun h => z1 (Or.inr (Or.inl (by rw [h]; exact dj2)))) (fun h => h.elim (fun h => z1 (Or.inr (Or.inr (Or.inl (by rw [h]; exact t1))))) (fun h => h.elim (fun h => z1 (Or.inr (Or.inr (Or.inr (Or.inl (by rw [h]; exact t2)))))) (fun h => h.elim (fun h => z1 (Or.inr (Or.inr (Or.inr (Or.inr (by rw [h.1]; exact t5 (by omega))))))) (fun h => by omega))))))
        have hfin := HR_cm (pc := pc) (res := (fun c => f c + σ 0 (16 * (nV - 1) + c))) R1 R3g R4 R4g R5 R5g R6 R7 R8 R9 RT RB RN RL R12 R13 hj hn30 hv1 hI.2.1 h12 hk12 hag hz2 hkx hp2 ⟨hp3, hp4⟩ hres hp5 hp6 hg1 hg2 (he1.elim (fun q => Or.inl ⟨q.1, by omega⟩) Or.inr) hn
        exact k_reti hx hb hr hlocks ⟨rfl, hfin⟩ hS dX7_act_28
      · have k4n := k4
        refine k_calli (va_runU (As := [.ref hs]) (rest := []) ⟨hx, hb, hml, hown, hts⟩ (c_goOn_X2c l _ (wa j) (wx σ te pn j) (da j) hs (va 0) hc (va (nV - 1)) ec (nV - 1) pc (ra (da j)) (ra (va (nV - 1))) gc f (fun c => σ 0 (16 * (nV - 1) + c)) hob f1.1 f1.2 R2 R3 (R6 (nV - 1) (by omega)).1 (R6 (nV - 1) (by omega)).2 (fun i hi => ⟨va (i + 1), R3g i hi, ⟨1, _, Or.inl rfl, (R6 (i + 1) (by omega)).1⟩, fun e => (hvt (i + 1) (by omega)).2.2 (by rw [e]; exact t2), fun e => (hvt (i + 1) (by omega)).1 (by rw [e]; exact dj2)⟩) (by omega) hnl (RB _ (by omega)) RN (fun e => (hvt (nV - 1) (by omega)).2.1 (by rw [e]; exact dj2)) (tag_ne dj1 dj2 (by omega)) (fun e => (hvt (nV - 1) (by omega)).1 (by rw [e]; exact dj2)) (tag_ne (tw j hj) dj2 (by omega)) (tag_ne t1 dj2 (by omega)) (tag_ne t2 dj2 (by omega)) (fun q => tag_ne (t5 (by omega)) dj2 (by omega)) (tag_ne dj1 t2 (by omega)) (fun q => tag_ne dj1 (t5 (by omega)) (by omega)) (fun q => tag_ne t2 (t5 (by omega)) (by omega)) (tag_ne t1 t2 (by omega)) (fun q => tag_ne t1 (t5 (by omega)) (by omega)) (tag_ne dj1 t1 (by omega)) (tag_ne (tw j hj) t1 (by omega)) (tag_ne (tw j hj) t2 (by omega)) (fun q => tag_ne (tw j hj) (t5 (by omega)) (by omega)) (tag_ne dj2 t1 (by omega)) (tag_ne dj1 (tw j hj) (by omega)) (RB _ (by omega))) (va_cwA 1 hts gX7_act_X2_goOn_u167X2 rfl rfl rfl (hK.2.2.1 ⟨"HouseWorkers$Work", "goOn", "(LHouseWorkers$Store;)I"⟩ (by decide +kernel)) (by decide +kernel) ⟨Nat.le_of_ble_eq_true rfl, Nat.le_of_ble_eq_true rfl⟩) (z_preV hK hZc (k_recv hK.1 hob rfl)) rfl rfl hl.1 rfl (lv_room (Nat.le_of_ble_eq_true rfl)) dX7_act_25 ⟨Nat.le_of_ble_eq_true rfl, Nat.le_of_ble_eq_true rfl⟩) hS (fun q h => h.elim (fun h => by rw [h]; exact hbw) (fun h => h.elim (fun h => by rw [h]; exact RB _ (by omega)) (fun h => h.elim (fun h => by rw [h]; exact RB _ (by omega)) (fun h => h.elim (fun h => by rw [h]; exact RB _ (by omega)) (fun h => h.elim (fun h => by rw [h.1]; exact RB _ (by rw [t5 (by omega)]; omega)) (fun h => RN q h)))))) (fun r9 H2 locs hp9 hz2 hk2 hS => ?_)
        obtain ⟨rfl, hp2, hp3, hp4, hp5, e1, p1, g1, hp6, hg1, hg2, he1⟩ := hp9
        rw [show nV - 1 + 1 = nV by omega] at hp2 hp6
        have hres : ∀ c, c < 16 → f c = cmt σ nV j 0 (16 * nV + c) := fun c hc => by rw [cmt_new hc, f3 c hc, if_neg (by rw [k4n]; decide), Int32.zero_add]
        have hag : ∀ p, ¬ (rl p = 16 + 4 * j ∨ rl p = 18 + 4 * j ∨ rl p = 1 ∨ rl p = 2 ∨ rl p = 5) → p < s.heap.size → H2[p]? = s.heap[p]? := fun p z1 z2 => hk2 p z2 (fun h => h.elim (fun h => z1 (Or.inl (by rw [h]; exact tw j hj))) (fun h => h.elim (fun h => z1 (Or.inr (Or.inl (by rw [h]; exact dj2)))) (fun h => h.elim (fun h => z1 (Or.inr (Or.inr (Or.inl (by rw [h]; exact t1))))) (fun h => h.elim (fun h => z1 (Or.inr (Or.inr (Or.inr (Or.inl (by rw [h]; exact t2)))))) (fun h => h.elim (fun h => z1 (Or.inr (Or.inr (Or.inr (Or.inr (by rw [h.1]; exact t5 (by omega))))))) (fun h => by omega))))))
        have hfin := HR_cm (pc := pc) (res := f) R1 R3g R4 R4g R5 R5g R6 R7 R8 R9 RT RB RN RL R12 R13 hj hn30 hv1 hI.2.1 h12 hk12 hag hz2 hkx hp2 ⟨hp3, hp4⟩ hres hp5 hp6 hg1 hg2 (he1.elim (fun q => Or.inl ⟨q.1, by omega⟩) Or.inr) hn
        exact k_reti hx hb hr hlocks ⟨rfl, hfin⟩ hS dX7_act_28
      · rcases hk12 with q | q <;> exact absurd (k4.symm.trans q) (by decide)
    · exact absurd (b2_n c13) (by rw [decide_eq_false hnl, Bool.and_false]; decide)
  · exact absurd h13 c4
