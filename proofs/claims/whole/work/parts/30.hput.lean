set_option maxHeartbeats 4000000 in
set_option maxRecDepth 100000 in
theorem c_put (l : Launch) {D : va_G} {cI cZ cO : ClassId} {mi : Nat} (H : Heap) {eA : Nat} {B : Nat → Prop} (h0 : Nat) (wa : Nat → Nat) (σ : Sg) (nW nV nE : Nat) (cl v : Int32) (hR : HR D cI cO eA B h0 wa σ nW nV nE H) (hI : Inv σ nW nV nE) : Met l yX7_put wsX7_put ({ frames := 1, cells := 0, slots := 0, locals := 22 }) (Pk D cI cZ cO mi [.ref h0, .int cl, .int v] H) (Qki (fun r H1 => r = (mPut σ cl v).1 ∧ HR D cI cO eA B h0 wa (mPut σ cl v).2 nW nV nE H1) B) 0 0 B := by
  refine Met.ofW (cc := cX7_put) (maxL := 3) (ret := (some .int)) (by decide) rfl ?_
  intro p e s m args below meth c s₁ Bd hml hv
  obtain ⟨rfl, rfl, hK⟩ := hv
  have hx := Bd.exec
  have hb := Bd.bytes
  have hr := Bd.returns
  have hts := atoms_spec (ws := wsX7_put) Bd.pre
  have hown : s.vm.findClass RX7 = some m.cls := findClass_of_methodNamed Bd.named
  have hlocks := Bd.notSynchronized
  have hS : va_S B s.heap s.heap [] := va_S.rf
  have hl := lv_entry ([.ref h0, .int cl, .int v]) (n := 3) (Nat.le_of_ble_eq_true rfl)
  rw [lg_entry_eq]
  generalize (lg_sl ([.ref h0, .int cl, .int v]) ++ List.replicate (3 - (lg_sl ([.ref h0, .int cl, .int v])).length) Slot.unset).toArray = ls at hl ⊢
  have hl : lv_has ls 3 [(0, .ref h0), (1, .int cl), (2, .int v)] := hl
  have hiX7 : ∀ w ∈ wsX70, w ∈ wsX7_put := by decide +kernel
  have hR0 := hR
  obtain ⟨hs, hc, hw, he, ec, ew, ee, pc, pw, pe, gc, gw, ge, va, da, ra, te, pn, rl, R1, R2, ⟨R3, R3g⟩, ⟨R4, R4g⟩, ⟨R5, R5g⟩, R6, R7, R8, R9, RT, RB, RN, RL, R12, R13⟩ := hR
  have hn30 := hI.n30
  have heW := hI.eW
  have hvE := hI.2.2.2.2.2.1
  have hv1 := hI.2.2.2.2.1
  obtain ⟨⟨mw, hwo⟩, hwm⟩ := id R4
  obtain ⟨t0, t1, t2, t3, t4, t5, t6, t7, t8, t9, tw, td⟩ := id RT
  refine lv_iload_n hx hb dX7_put_0 rfl (lv_at hl 1 rfl) ?_
  refine k_callpi (v := b2 (inB cl 0 15)) (va_runS (As := [.int cl]) (rest := []) ⟨hx, hb, hml, hown, hts⟩ (c_isCell l _ cl) (va_cwS 1 hts gX7_put_X7_isCell rfl rfl rfl (by decide +kernel) ⟨Nat.le_of_ble_eq_true rfl, Nat.le_of_ble_eq_true rfl⟩) (k_preS hK) rfl rfl hl.1 rfl (lv_room (Nat.le_of_ble_eq_true rfl)) dX7_put_1 ⟨(Nat.zero_le _), (Nat.zero_le _)⟩) hS (fun locs hS => ?_)
  refine lv_if_ne (tgt := 9) hx hb dX7_put_4 (by decide) (fun c4 => ?_) (fun c4 => ?_)
  · have b4 := b2_n c4
    refine lv_aload_n hx hb dX7_put_9 rfl (lv_at hl 0 rfl) ?_
    refine k_get (C := RX7) (T := TX7) (N := 6) (v := .ref hw) hx hb hts hiX7 hown hK.1 R1 rfl 1 (by decide) (hts (.fieldLink RX7 19 "HouseWorkers" "works" "Ljava/util/ArrayList;") (by decide +kernel)) (fun _ h9 => h9) rfl dX7_put_10 ?_
    refine k_callpi (v := b2 (decide (nI nW = 0))) (va_runV (As := []) (rest := []) ⟨hx, hb, hml, hown, hts⟩ (c_AL_isEmpty l _ hw ew nW mw hwo) (cwV 0 hts gX7_put_Jx4a65c_isEmpty_aae02 rfl rfl rfl (by decide +kernel) ⟨Nat.le_of_ble_eq_true rfl, Nat.le_of_ble_eq_true rfl⟩) (k_preV hK (k_recv hK.1 hwo rfl)) rfl rfl hl.1 rfl (lv_room (Nat.le_of_ble_eq_true rfl)) dX7_put_13 ⟨(Nat.zero_le _), (Nat.zero_le _)⟩) hS (fun locs hS => ?_)
    refine lv_if_ne (tgt := 22) hx hb dX7_put_16 (by decide) (fun c16 => ?_) (fun c16 => ?_)
    · have c16 := of_decide_eq_true (b2_n c16)
      have hW0 : nW = 0 := (nI_eq (by omega) (by decide)).mp (c16.trans nI_0.symm)
      have h3 : ¬ 0 < σ 3 0 := by rw [hI.1, hW0]; decide
      refine lv_aload_n hx hb dX7_put_22 rfl (lv_at hl 0 rfl) ?_
      refine k_get (C := RX7) (T := TX7) (N := 6) (v := .ref hs) hx hb hts hiX7 hown hK.1 R1 rfl 0 (by decide) (hts (.fieldLink RX7 12 "HouseWorkers" "store" "LHouseWorkers$Store;") (by decide +kernel)) (fun _ h9 => h9) rfl dX7_put_23 ?_
      refine k_callpq (v := some (va (nV - 1))) (va_runV (As := []) (rest := []) ⟨hx, hb, hml, hown, hts⟩ (c_X3_latest l _ hs (va 0) hc (va (nV - 1)) R2) (cwV 0 hts gX7_put_X3_latest rfl rfl rfl (by decide +kernel) ⟨Nat.le_of_ble_eq_true rfl, Nat.le_of_ble_eq_true rfl⟩) (k_preV hK (k_recv hK.1 R2 rfl)) rfl rfl hl.1 rfl (lv_room (Nat.le_of_ble_eq_true rfl)) dX7_put_26 ⟨(Nat.zero_le _), (Nat.zero_le _)⟩) hS (fun locs hS => ?_)
      rw [show nV - 1 = 0 by omega]
      refine W.eq (g2 := F0 m 29 ls [.ref (va 0)]) rfl ?_
      refine lv_iload_n hx hb dX7_put_29 rfl (lv_at hl 1 rfl) ?_
      refine lv_iload_n hx hb dX7_put_30 rfl (lv_at hl 2 rfl) ?_
      have h60 := R6 0 (by omega)
      refine k_callv (va_runV (As := [.int cl, .int v]) (rest := []) ⟨hx, hb, hml, hown, hts⟩ (c_X0_set l _ (va 0) (ra (va 0)) (fun c => σ 0 (16 * 0 + c)) cl v h60.1 h60.2) (cwV 2 hts gX7_put_X0_set rfl rfl rfl (by decide +kernel) ⟨Nat.le_of_ble_eq_true rfl, Nat.le_of_ble_eq_true rfl⟩) (k_preV hK (k_recv hK.1 h60.1 rfl)) rfl rfl hl.1 rfl (lv_room (Nat.le_of_ble_eq_true rfl)) dX7_put_31 ⟨(Nat.zero_le _), (Nat.zero_le _)⟩) hS (fun q h => by rw [h]; exact RB _ (by omega)) (fun H2 locs hp hz2 hk2 hS => ?_)
      refine lv_iconst (v := 1) hx hb dX7_put_34 (by decide) ?_
      have hX : mPut σ cl v = (1, u2 σ 0 (nat cl) v) := by unfold mPut; rw [if_pos b4, if_neg h3]
      obtain ⟨z, hz, hzc⟩ := inB_c (n := 15) rfl rfl (by decide) b4
      have hix : ix cl = nat cl := by rw [hzc, ix_nI (by omega), nat_nI (by omega), Nat.mod_eq_of_lt (by omega)]
      have hk := HR_keep (H1 := H2) (fun t => t = 9) R1 R2 R3 R4 R5 R6 R7 R9 RT (fun p h1 h2 => hk2 p h2 (fun e => h1 (by rw [e]; exact t9)))
      obtain ⟨k1, k2, k3, k4, k5, k6, k7, k8⟩ := hk
      have hRn : HR D cI cO eA B h0 wa (u2 σ 0 (nat cl) v) nW nV nE H2 := by
        refine ⟨hs, hc, hw, he, ec, ew, ee, pc, pw, pe, gc, gw, ge, va, da, ra, te, pn, rl, k1 (by decide), k2 (by decide), ⟨k3 (by decide) (by decide), R3g⟩, ⟨k4 (by decide) (by decide), R4g⟩, ⟨k5 (by decide) (by decide), R5g⟩, ?_, fun i hi => absurd hi (by omega), fun i hi => absurd hi (by omega), fun v h1 h2 => absurd h2 (by omega), RT, RB, fun q h => RN q (by rw [hp.2] at h; exact h), fun q h => RL q (by rw [hp.2] at h; exact h), fun i hi => absurd hi (by omega), fun i hi => absurd hi (by omega)⟩
        intro u hu
        rw [show u = 0 by omega]
        refine ⟨va_at.kept h60.1 (hk2 _ (va_at.lt h60.1) (tag_ne t8 t9 (by decide))), Ai.congr hp.1 (fun c hc => ?_)⟩
        rw [hix]
        show upd (fun c => σ 0 (16 * 0 + c)) (nat cl) v c = u2 σ 0 (nat cl) v 0 (16 * 0 + c)
        rw [u2_if]; unfold upd; by_cases q : c = nat cl; (rw [if_pos q, if_pos ⟨rfl, by omega⟩]); (rw [if_neg q, if_neg (fun z => q (by omega))])
      exact k_reti hx hb hr hlocks ⟨by rw [hX], by rw [hX]; exact hRn⟩ hS dX7_put_35
    · have c16 := of_decide_eq_false (b2_0 c16)
      have hWp : 0 < nW := Nat.pos_of_ne_zero (fun q => c16 (by rw [q]; rfl))
      have h3 : 0 < σ 3 0 := by rw [hI.1]; exact nI_lt (a := 0) hWp (by omega)
      refine lv_bipush (v := -2) hx hb dX7_put_19 (by decide) ?_
      have hX : mPut σ cl v = (-2, σ) := by unfold mPut; rw [if_pos b4, if_pos h3]
      exact k_reti hx hb hr hlocks ⟨by rw [hX], by rw [hX]; exact hR0⟩ hS dX7_put_21
  · have b4 := b2_0 c4
    refine lv_iconst (v := -1) hx hb dX7_put_7 (by decide) ?_
    have hX : mPut σ cl v = (-1, σ) := by unfold mPut; rw [if_neg (by rw [b4]; decide)]
    exact k_reti hx hb hr hlocks ⟨by rw [hX], by rw [hX]; exact hR0⟩ hS dX7_put_8
set_option maxHeartbeats 4000000 in
set_option maxRecDepth 100000 in
theorem c_cancel (l : Launch) {D : va_G} {cI cZ cO : ClassId} {mi : Nat} (H : Heap) {eA : Nat} {B : Nat → Prop} (h0 : Nat) (wa : Nat → Nat) (σ : Sg) (nW nV nE : Nat) (x : Int32) (hR : HR D cI cO eA B h0 wa σ nW nV nE H) (hI : Inv σ nW nV nE) : Met l yX7_cancel wsX7_cancel ({ frames := 4, cells := 0, slots := 0, locals := 85 }) (Pk D cI cZ cO mi [.ref h0, .int x] H) (Qki (fun r H1 => r = (mCan σ x).1 ∧ HR D cI cO eA B h0 wa (mCan σ x).2 nW nV nE H1) B) 0 0 B := by
  refine Met.ofW (cc := cX7_cancel) (maxL := 3) (ret := (some .int)) (by decide) rfl ?_
  intro p e s m args below meth c s₁ Bd hml hv
  obtain ⟨rfl, rfl, hK⟩ := hv
  have hx := Bd.exec
  have hb := Bd.bytes
  have hr := Bd.returns
  have hts := atoms_spec (ws := wsX7_cancel) Bd.pre
  have hown : s.vm.findClass RX7 = some m.cls := findClass_of_methodNamed Bd.named
  have hlocks := Bd.notSynchronized
  have hS : va_S B s.heap s.heap [] := va_S.rf
  have hl := lv_entry ([.ref h0, .int x]) (n := 3) (Nat.le_of_ble_eq_true rfl)
  rw [lg_entry_eq]
  generalize (lg_sl ([.ref h0, .int x]) ++ List.replicate (3 - (lg_sl ([.ref h0, .int x])).length) Slot.unset).toArray = ls at hl ⊢
  have hl : lv_has ls 3 [(0, .ref h0), (1, .int x)] := hl
  have hiX7 : ∀ w ∈ wsX70, w ∈ wsX7_cancel := by decide +kernel
  have hR0 := hR
  obtain ⟨hs, hc, hw, he, ec, ew, ee, pc, pw, pe, gc, gw, ge, va, da, ra, te, pn, rl, R1, R2, ⟨R3, R3g⟩, ⟨R4, R4g⟩, ⟨R5, R5g⟩, R6, R7, R8, R9, RT, RB, RN, RL, R12, R13⟩ := hR
  have hn30 := hI.n30
  have heW := hI.eW
  have hvE := hI.2.2.2.2.2.1
  have hv1 := hI.2.2.2.2.1
  have hiX1 : ∀ w ∈ wsX10, w ∈ wsX7_cancel := by decide +kernel
  have hiX2 : ∀ w ∈ wsX20, w ∈ wsX7_cancel := by decide +kernel
  have hiX4 : ∀ w ∈ wsX40, w ∈ wsX7_cancel := by decide +kernel
  have hiX6 : ∀ w ∈ wsX60, w ∈ wsX7_cancel := by decide +kernel
  obtain ⟨t0, t1, t2, t3, t4, t5, t6, t7, t8, t9, tw, td⟩ := id RT
  refine lv_aload_n hx hb dX7_cancel_0 rfl (lv_at hl 0 rfl) ?_
  refine lv_iload_n hx hb dX7_cancel_1 rfl (lv_at hl 1 rfl) ?_
  refine k_callpq (va_runV (As := [.int x]) (rest := []) ⟨hx, hb, hml, hown, hts⟩ (c_find l _ h0 wa σ nW nV nE x hR0 hI) (cwV 1 hts gX7_cancel_X7_find rfl rfl rfl (by decide +kernel) ⟨Nat.le_of_ble_eq_true rfl, Nat.le_of_ble_eq_true rfl⟩) (k_preV hK (k_recv hK.1 R1 rfl)) rfl rfl hl.1 rfl (lv_room (Nat.le_of_ble_eq_true rfl)) dX7_cancel_2 ⟨(Nat.zero_le _), (Nat.zero_le _)⟩) hS (fun locs hS => ?_)
  by_cases hin : inB x 0 (σ 3 0 - 1) = true
  · rw [if_pos hin]
    have hin2 := hin
    rw [hI.1] at hin2
    obtain ⟨j, hj, hxj⟩ := inB_idx (by omega) hin2
    have hnx : nat x = j := by rw [hxj]; exact nat_nI (by omega)
    rw [hnx]
    refine W.eq (g2 := F0 m 5 ls [.ref (wa j)]) rfl ?_
    obtain ⟨ci, ex, hkx, hob⟩ := (R7 j hj).ob2
    have hvc := hkx.vc
    have hwi := hI.wi hj
    refine lv_astore_n (lv' := [(2, .ref (wa j)), (0, .ref h0), (1, .int x)]) hx hb dX7_cancel_5 rfl hl (by decide) rfl (fun ls hl => ?_)
    refine lv_aload_n hx hb dX7_cancel_6 rfl (lv_at hl 0 rfl) ?_
    refine lv_ifnonnull (tgt := 12) hx hb dX7_cancel_7 (by decide) ?_
    refine lv_aload_n hx hb dX7_cancel_12 rfl (lv_at hl 0 rfl) ?_
    refine w_hasEnded (x := wx σ te pn j) (rest := [])  ⟨hx, hb, hml, hown, hts⟩ gX7_cancel_X5_hasEnded_u90X1 gX7_cancel_X5_hasEnded_u90X2 gX7_cancel_X5_hasEnded_u90X4 gX7_cancel_X5_hasEnded_u90X6 hK hob hvc  ⟨Nat.le_of_ble_eq_true rfl, Nat.le_of_ble_eq_true rfl⟩ ⟨Nat.le_of_ble_eq_true rfl, Nat.le_of_ble_eq_true rfl⟩ ⟨Nat.le_of_ble_eq_true rfl, Nat.le_of_ble_eq_true rfl⟩ ⟨Nat.le_of_ble_eq_true rfl, Nat.le_of_ble_eq_true rfl⟩ (Nat.le_of_ble_eq_true rfl) hl.1 ⟨(Nat.zero_le _), (Nat.zero_le _)⟩ hS dX7_cancel_13 (fun locs hS => ?_)
    refine W.eq (g2 := F0 m 16 ls [.int (b2 (decide (¬ σ 12 j = 0)))]) rfl ?_
    refine lv_if_ne (tgt := 26) hx hb dX7_cancel_16 (by decide) (fun c16 => ?_) (fun c16 => ?_)
    · have c16 : ¬ σ 12 j = 0 := of_decide_eq_true (b2_n c16)
      refine lv_iconst (v := 0) hx hb dX7_cancel_26 (by decide) ?_
      have hX : mCan σ x = (0, σ) := by unfold mCan; rw [if_pos hin, hnx]; unfold cnc; rw [if_pos (hwi.en.mpr c16)]
      exact k_reti hx hb hr hlocks ⟨by rw [hX], by rw [hX]; exact hR0⟩ hS dX7_cancel_27
    · have c16 : σ 12 j = 0 := Decidable.byContradiction (of_decide_eq_false (b2_0 c16))
      refine lv_aload_n hx hb dX7_cancel_19 rfl (lv_at hl 0 rfl) ?_
      refine w_get (x := wx σ te pn j) hx hb hts hiX1 hiX2 hiX4 hiX6 hown hK hob hvc 8 (by decide) rfl rfl rfl rfl (hts (.fieldLink RX7 95 "HouseWorkers$Work" "toBeCancelled" "Z") (by decide +kernel)) (fun _ => rfl) dX7_cancel_20 ?_
      refine W.eq (g2 := F0 m 23 ls [.int (σ 13 j)]) rfl ?_
      refine lv_if_eq (tgt := 28) hx hb dX7_cancel_23 (by decide) (fun c23 => ?_) (fun c23 => ?_)
      · refine lv_aload_n hx hb dX7_cancel_28 rfl (lv_at hl 0 rfl) ?_
        refine lv_iconst (v := 1) hx hb dX7_cancel_29 (by decide) ?_
        refine w_put (A := B) (x := wx σ te pn j) (ty := .boolean) (v := 1) hx hb hts hiX1 hiX2 hiX4 hiX6 hown hK hob hvc (RB _ (by rw [tw j hj]; omega)) hS 8 (by decide) rfl rfl rfl rfl (hts (.fieldLink RX7 95 "HouseWorkers$Work" "toBeCancelled" "Z") (by decide +kernel)) (by decide +kernel) rfl rfl (fun _ => rfl) dX7_cancel_30 (fun H2 locs hob2 hz2 hq2 hS => ?_)
        refine lv_iconst (v := 1) hx hb dX7_cancel_33 (by decide) ?_
        have hX : mCan σ x = (1, u2 σ 13 j 1) := by unfold mCan; rw [if_pos hin, hnx]; unfold cnc; rw [if_neg (fun q => hwi.en.mp q c16), if_neg (fun q => q c23)]
        obtain ⟨k1, k2, k3, k4, k5, k6, k7, k8⟩ := HR_keep (H1 := H2) (fun t => t = 16 + 4 * j) R1 R2 R3 R4 R5 R6 R7 R9 RT (fun p h1 h2 => hq2 p (fun e => h1 (by rw [e]; exact tw j hj)))
        have hRn : HR D cI cO eA B h0 wa (u2 σ 13 j 1) nW nV nE H2 := by
          refine ⟨hs, hc, hw, he, ec, ew, ee, pc, pw, pe, gc, gw, ge, va, da, ra, te, pn, rl, k1 (by omega), k2 (by omega), ⟨k3 (by omega) (by omega), R3g⟩, ⟨k4 (by omega) (by omega), R4g⟩, ⟨k5 (by omega) (by omega), R5g⟩, k6 (by omega) (by omega) (fun i _ _ => ⟨by omega, by omega⟩), ?_, fun i hi hk4 => by obtain ⟨f, f1, f2⟩ := R8 i hi hk4; exact ⟨f, k8 i hi hk4 (by omega) (by omega) f f1, f2⟩, R9, RT, RB, fun q h => RN q (by rw [hz2] at h; exact h), fun q h => RL q (by rw [hz2] at h; exact h), R12, R13⟩
          intro i hi
          by_cases e : i = j
          · subst e
            refine (hkx.cg (τ := u2 σ 13 i 1) rfl rfl rfl (fun _ => rfl) (Nat.le_refl _) (fun _ _ => rfl) rfl).mk ?_
            rw [WFs_cg (y := upd (wx σ te pn i) 8 1) (fun k hk => ?_)]
            · exact hob2
            · match k, hk with
              | 0, _ => rfl
              | 1, _ => rfl
              | 2, _ => rfl
              | 3, _ => rfl
              | 4, _ => rfl
              | 5, _ => rfl
              | 6, _ => rfl
              | 7, _ => rfl
              | 8, _ => exact u2_same σ 13 i 1
              | 9, _ => rfl
              | 10, _ => rfl
              | k + 11, h => exact absurd h (by omega)
          · exact (k7 i hi (by omega)).cg (fun k a1 a2 a3 a4 a5 a6 a7 a8 a9 a10 a11 a12 => u2_ne σ 1 (fun q => e q.2)) rfl rfl (Nat.le_refl _) (fun _ _ => rfl) rfl
        exact k_reti hx hb hr hlocks ⟨by rw [hX], by rw [hX]; exact hRn⟩ hS dX7_cancel_34
      · refine lv_iconst (v := 0) hx hb dX7_cancel_26 (by decide) ?_
        have hX : mCan σ x = (0, σ) := by unfold mCan; rw [if_pos hin, hnx]; unfold cnc; rw [if_neg (fun q => hwi.en.mp q c16), if_pos c23]
        exact k_reti hx hb hr hlocks ⟨by rw [hX], by rw [hX]; exact hR0⟩ hS dX7_cancel_27
  · rw [if_neg hin]
    refine W.eq (g2 := F0 m 5 ls [.null]) rfl ?_
    refine lv_astore_nN (lv' := [(2, .null), (0, .ref h0), (1, .int x)]) hx hb dX7_cancel_5 rfl hl (by decide) rfl (fun ls hl => ?_)
    refine lv_aload_nN hx hb dX7_cancel_6 rfl (lv_at hl 0 rfl) ?_
    refine lv_ifnonnullN hx hb dX7_cancel_7 ?_
    refine lv_iconst (v := -1) hx hb dX7_cancel_10 (by decide) ?_
    have hX : mCan σ x = (-1, σ) := by unfold mCan; rw [if_neg hin]
    exact k_reti hx hb hr hlocks ⟨by rw [hX], by rw [hX]; exact hR0⟩ hS dX7_cancel_11
