theorem pn_pin {σ : Sg} {nV i k : Nat} {pn : Nat → Int32} (hw : WI σ nV i) (hk : k < 1000) (hp : σ 12 i = 0 → pn i = pin σ i) : (decide (σ 12 i = 0) && decide (pn i = nI k)) = decide (pin σ i = nI k) := by
  by_cases h : σ 12 i = 0
  · rw [hp h, decide_eq_true h]; rfl
  · have e : pin σ i = (-1) := by unfold pin; rw [decide_eq_false h]; rfl
    have e2 : ¬ ((-1 : Int32) = nI k) := fun q => absurd (q ▸ nI_pos (n := k) (by omega)) (by decide)
    rw [decide_eq_false h, e, decide_eq_false e2]; rfl
theorem hvr_3 {σ : Sg} {i : Nat} (h : σ 4 i = 3) : hvr σ i = σ 11 i := by unfold hvr; rw [if_neg (fun q => absurd (h.symm.trans q.1) (by decide))]
theorem kp_eq {σ : Sg} {i : Nat} {v : Int32} : (decide (σ 4 i = 3) && (decide (σ 12 i = 0) && decide (hvr σ i < v))) = kp1 σ v i := by
  unfold kp1
  by_cases h : σ 4 i = 3
  · rw [show decide (hvr σ i < v) = decide (σ 11 i < v) by rw [hvr_3 h]]
  · rw [decide_eq_false h, Bool.false_and, Bool.false_and]
theorem cntF_sm {f : Nat → Bool} {i : Nat} (h : f i = false) : nI (cntF f (i + 1)) = nI (cntF f i) := by rw [cntF, h]; rfl
set_option maxHeartbeats 4000000 in
set_option maxRecDepth 100000 in
theorem c_isPinned (l : Launch) {D : va_G} {cI cZ cO : ClassId} {mi : Nat} (H : Heap) {eA : Nat} {B : Nat → Prop} (h0 : Nat) (wa : Nat → Nat) (σ : Sg) (nW nV nE : Nat) (k : Nat) (hR : HR D cI cO eA B h0 wa σ nW nV nE H) (hI : Inv σ nW nV nE) (hk : k < 1000) : Met l yX7_isPinned wsX7_isPinned ({ frames := 3, cells := 0, slots := 0, locals := 64 }) (Pk D cI cZ cO mi [.ref h0, .int (nI k)] H) (Qpi H (b2 (ipF σ (nI k) nW))) 0 0 (fun _ => False) := by
  refine Met.ofW (cc := cX7_isPinned) (maxL := 3) (ret := (some .boolean)) (by decide) rfl ?_
  intro p e s m args below meth c s₁ Bd hml hv
  obtain ⟨rfl, rfl, hK⟩ := hv
  have hx := Bd.exec
  have hb := Bd.bytes
  have hr := Bd.returns
  have hts := atoms_spec (ws := wsX7_isPinned) Bd.pre
  have hown : s.vm.findClass RX7 = some m.cls := findClass_of_methodNamed Bd.named
  have hlocks := Bd.notSynchronized
  have hS : va_S (fun _ => False) s.heap s.heap [] := va_S.rf
  have hl := lv_entry ([.ref h0, .int (nI k)]) (n := 3) (Nat.le_of_ble_eq_true rfl)
  rw [lg_entry_eq]
  generalize (lg_sl ([.ref h0, .int (nI k)]) ++ List.replicate (3 - (lg_sl ([.ref h0, .int (nI k)])).length) Slot.unset).toArray = ls at hl ⊢
  have hl : lv_has ls 3 [(0, .ref h0), (1, .int (nI k))] := hl
  have hiX7 : ∀ w ∈ wsX70, w ∈ wsX7_isPinned := by decide +kernel
  obtain ⟨hs, hc, hw, he, ec, ew, ee, pc, pw, pe, gc, gw, ge, va, da, ra, te, pn, rl, R1, R2, ⟨R3, R3g⟩, ⟨R4, R4g⟩, ⟨R5, R5g⟩, R6, R7, R8, R9, RT, RB, RN, RL, R12, R13⟩ := hR
  have hn30 := hI.n30
  have heW := hI.eW
  have hvE := hI.2.2.2.2.2.1
  have hv1 := hI.2.2.2.2.1
  obtain ⟨⟨mw, hwo⟩, hwm⟩ := id R4
  have hiX1 : ∀ w ∈ wsX10, w ∈ wsX7_isPinned := by decide +kernel
  have hiX2 : ∀ w ∈ wsX20, w ∈ wsX7_isPinned := by decide +kernel
  have hiX4 : ∀ w ∈ wsX40, w ∈ wsX7_isPinned := by decide +kernel
  have hiX6 : ∀ w ∈ wsX60, w ∈ wsX7_isPinned := by decide +kernel
  refine lv_iconst (v := 0) hx hb dX7_isPinned_0 (by decide) ?_
  refine lv_istore_n (lv' := [(2, .int 0), (0, .ref h0), (1, .int (nI k))]) hx hb dX7_isPinned_1 rfl hl (by decide) rfl (fun ls hl => ?_)
  generalize ([] : List Loc) = locs at hS ⊢
  have loop : ∀ (n : Nat), ∀ (i : Nat), i ≤ nW → nW + 1 ≤ i + n → ipF σ (nI k) i = false → ∀ (locs : List Loc), va_S (fun _ => False) s.heap s.heap locs → ∀ ls : Array Slot, lv_has ls 3 [(2, .int (nI i)), (0, .ref h0), (1, .int (nI k))] → W p l e (headSpec wsX7_isPinned ({ frames := 3, cells := 0, slots := 0, locals := 64 })).room s m ([.ref h0, .int (nI k)] : List Value).toArray below meth c s.heap locs 0 0 (MQ below (Qpi s.heap (b2 (ipF σ (nI k) nW))) ([.ref h0, .int (nI k)] : List Value).toArray s 0 0 (fun _ => False)) (F0 m 2 ls []) := by
    intro n
    induction n with
    | zero => intro i h1 h2; exact absurd h2 (by omega)
    | succ n ih =>
      intro i hi hn hip locs hS ls hl
      refine lv_iload_n hx hb dX7_isPinned_2 rfl (lv_at hl 0 rfl) ?_
      refine lv_aload_n hx hb dX7_isPinned_3 rfl (lv_at hl 1 rfl) ?_
      refine k_get (C := RX7) (T := TX7) (N := 6) (v := .ref hw) hx hb hts hiX7 hown hK.1 R1 rfl 1 (by decide) (hts (.fieldLink RX7 19 "HouseWorkers" "works" "Ljava/util/ArrayList;") (by decide +kernel)) (fun _ h9 => h9) rfl dX7_isPinned_4 ?_
      refine k_callpi (v := nI nW) (va_runV (As := []) (rest := [.int (nI i)]) ⟨hx, hb, hml, hown, hts⟩ (c_AL_size l _ hw ew nW mw hwo) (cwV 0 hts gX7_isPinned_Jx4a65c_size_8abf5 rfl rfl rfl (by decide +kernel) ⟨Nat.le_of_ble_eq_true rfl, Nat.le_of_ble_eq_true rfl⟩) (k_preV hK (k_recv hK.1 hwo rfl)) rfl rfl hl.1 rfl (lv_room (Nat.le_of_ble_eq_true rfl)) dX7_isPinned_7 ⟨(Nat.zero_le _), (Nat.zero_le _)⟩) hS (fun locs hS => ?_)
      refine lv_icmp_ge (tgt := 39) hx hb dX7_isPinned_10 (by decide) (fun c10 => ?_) (fun c10 => ?_)
      · have c10 := Int32.not_lt.mpr c10
        have hij : i = nW := Nat.le_antisymm hi (Nat.le_of_not_lt (fun q => c10 (nI_lt q (by omega))))
        refine lv_iconst (v := 0) hx hb dX7_isPinned_39 (by decide) ?_
        exact k_retz hx hb hr hlocks (by decide) ⟨by rw [← hij]; exact (b2_f hip).symm, rfl⟩ hS dX7_isPinned_40
      · have c10 := Int32.not_le.mp c10
        have hlt : i < nW := (nI_ltI (by omega) (by omega)).mp c10
        refine lv_aload_n hx hb dX7_isPinned_13 rfl (lv_at hl 1 rfl) ?_
        refine k_get (C := RX7) (T := TX7) (N := 6) (v := .ref hw) hx hb hts hiX7 hown hK.1 R1 rfl 1 (by decide) (hts (.fieldLink RX7 19 "HouseWorkers" "works" "Ljava/util/ArrayList;") (by decide +kernel)) (fun _ h9 => h9) rfl dX7_isPinned_14 ?_
        refine lv_iload_n hx hb dX7_isPinned_17 rfl (lv_at hl 0 rfl) ?_
        obtain ⟨hnp, hnc, hcs, har, -⟩ : 0 < nW ∧ nW ≤ pw ∧ (pw = 10 ∨ pw = 15 ∨ pw = 22 ∨ pw = 33) ∧ Ar D cO ew pw gw s.heap ∧ ∀ i, nW ≤ i → gw i = none := hwm.elim (fun q => absurd hlt (by omega)) id
        refine k_callpq (v := gw i) (va_runV (As := [.int (nI i)]) (rest := []) ⟨hx, hb, hml, hown, hts⟩ (c_AL_get l _ hw ew nW pw i mw gw hwo har hlt hnc (by omega)) (cwV 1 hts gX7_isPinned_Jx4a65c_get_915e3 rfl rfl rfl (by decide +kernel) ⟨Nat.le_of_ble_eq_true rfl, Nat.le_of_ble_eq_true rfl⟩) (k_preV hK (k_recv hK.1 hwo rfl)) rfl rfl hl.1 rfl (lv_room (Nat.le_of_ble_eq_true rfl)) dX7_isPinned_18 ⟨(Nat.zero_le _), (Nat.zero_le _)⟩) hS (fun locs hS => ?_)
        rw [R4g i hlt]
        refine W.eq (g2 := F0 m 21 ls [.ref (wa i)]) rfl ?_
        obtain ⟨ci, ex, hvc, hob⟩ := (R7 i hlt).ob
        refine w_recv hK hob hvc hown hx hb (hts (.classLink RX7 91 "HouseWorkers$Work") (by decide +kernel)) dX7_isPinned_21 ?_
        refine lv_iload_n hx hb dX7_isPinned_24 rfl (lv_at hl 2 rfl) ?_
        refine w_pins (x := wx σ te pn i) (rest := []) (v := nI k) ⟨hx, hb, hml, hown, hts⟩ gX7_isPinned_X5_pins_u190X1 gX7_isPinned_X5_pins_u190X2 gX7_isPinned_X5_pins_u190X4 gX7_isPinned_X5_pins_u190X6 hK hob hvc  ⟨Nat.le_of_ble_eq_true rfl, Nat.le_of_ble_eq_true rfl⟩ ⟨Nat.le_of_ble_eq_true rfl, Nat.le_of_ble_eq_true rfl⟩ ⟨Nat.le_of_ble_eq_true rfl, Nat.le_of_ble_eq_true rfl⟩ ⟨Nat.le_of_ble_eq_true rfl, Nat.le_of_ble_eq_true rfl⟩ (Nat.le_of_ble_eq_true rfl) hl.1 ⟨(Nat.zero_le _), (Nat.zero_le _)⟩ hS dX7_isPinned_25 (fun locs hS => ?_)
        refine W.eq (g2 := F0 m 28 ls [.int (b2 (decide (σ 12 i = 0) && decide (pn i = nI k)))]) rfl ?_
        rw [pn_pin (hI.wi hlt) hk (R13 i hlt)]
        refine lv_if_eq (tgt := 33) hx hb dX7_isPinned_28 (by decide) (fun c28 => ?_) (fun c28 => ?_)
        · refine lv_iinc (v := nI (i + 1)) (lv' := [(2, .int (nI (i + 1))), (0, .ref h0), (1, .int (nI k))]) hx hb dX7_isPinned_33 hl (k := 0) rfl (by rw [← nI_1]; rfl) (by decide) rfl (fun ls hl => ?_)
          refine lv_goto (tgt := 2) hx hb dX7_isPinned_36 (by decide) ?_
          exact ih (i + 1) (by omega) (by omega) (ipF_s hip (b2_0 c28)) locs hS ls (lv_sub hl [0, 1, 2] rfl)
        · refine lv_iconst (v := 1) hx hb dX7_isPinned_31 (by decide) ?_
          exact k_retz hx hb hr hlocks (by decide) ⟨(b2_t (ipF_mt (ipF_s hip (b2_n c28)) (by omega))).symm, rfl⟩ hS dX7_isPinned_32
  exact loop (nW + 1) 0 (Nat.zero_le _) (by omega) rfl locs hS ls (lv_sub hl [0, 1, 2] rfl)
set_option maxHeartbeats 4000000 in
set_option maxRecDepth 100000 in
theorem c_isKept (l : Launch) {D : va_G} {cI cZ cO : ClassId} {mi : Nat} (H : Heap) {eA : Nat} {B : Nat → Prop} (h0 : Nat) (wa : Nat → Nat) (σ : Sg) (nW nV nE : Nat) (k : Nat) (hR : HR D cI cO eA B h0 wa σ nW nV nE H) (hI : Inv σ nW nV nE) (hk : k < 1000) : Met l yX7_isKept wsX7_isKept ({ frames := 4, cells := 0, slots := 0, locals := 86 }) (Pk D cI cZ cO mi [.ref h0, .int (nI k)] H) (Qpi H (b2 (kept σ (nI k) nW))) 0 0 (fun _ => False) := by
  refine Met.ofW (cc := cX7_isKept) (maxL := 3) (ret := (some .boolean)) (by decide) rfl ?_
  intro p e s m args below meth c s₁ Bd hml hv
  obtain ⟨rfl, rfl, hK⟩ := hv
  have hx := Bd.exec
  have hb := Bd.bytes
  have hr := Bd.returns
  have hts := atoms_spec (ws := wsX7_isKept) Bd.pre
  have hown : s.vm.findClass RX7 = some m.cls := findClass_of_methodNamed Bd.named
  have hlocks := Bd.notSynchronized
  have hS : va_S (fun _ => False) s.heap s.heap [] := va_S.rf
  have hl := lv_entry ([.ref h0, .int (nI k)]) (n := 3) (Nat.le_of_ble_eq_true rfl)
  rw [lg_entry_eq]
  generalize (lg_sl ([.ref h0, .int (nI k)]) ++ List.replicate (3 - (lg_sl ([.ref h0, .int (nI k)])).length) Slot.unset).toArray = ls at hl ⊢
  have hl : lv_has ls 3 [(0, .ref h0), (1, .int (nI k))] := hl
  have hiX7 : ∀ w ∈ wsX70, w ∈ wsX7_isKept := by decide +kernel
  have hR0 := hR
  obtain ⟨hs, hc, hw, he, ec, ew, ee, pc, pw, pe, gc, gw, ge, va, da, ra, te, pn, rl, R1, R2, ⟨R3, R3g⟩, ⟨R4, R4g⟩, ⟨R5, R5g⟩, R6, R7, R8, R9, RT, RB, RN, RL, R12, R13⟩ := hR
  have hn30 := hI.n30
  have heW := hI.eW
  have hvE := hI.2.2.2.2.2.1
  have hv1 := hI.2.2.2.2.1
  obtain ⟨⟨mw, hwo⟩, hwm⟩ := id R4
  obtain ⟨⟨mcv, hco⟩, hcm⟩ := id R3
  have hiX1 : ∀ w ∈ wsX10, w ∈ wsX7_isKept := by decide +kernel
  have hiX2 : ∀ w ∈ wsX20, w ∈ wsX7_isKept := by decide +kernel
  have hiX4 : ∀ w ∈ wsX40, w ∈ wsX7_isKept := by decide +kernel
  have hiX6 : ∀ w ∈ wsX60, w ∈ wsX7_isKept := by decide +kernel
  have h21 : σ 1 0 - 1 = nI (nV - 1) := by rw [hI.2.1]; exact pk_sub (b := 1) hv1
  refine lv_iload_n hx hb dX7_isKept_0 rfl (lv_at hl 1 rfl) ?_
  refine lv_aload_n hx hb dX7_isKept_1 rfl (lv_at hl 0 rfl) ?_
  refine k_get (C := RX7) (T := TX7) (N := 6) (v := .ref hs) hx hb hts hiX7 hown hK.1 R1 rfl 0 (by decide) (hts (.fieldLink RX7 12 "HouseWorkers" "store" "LHouseWorkers$Store;") (by decide +kernel)) (fun _ h9 => h9) rfl dX7_isKept_2 ?_
  refine k_callpi (v := nI (nV - 1)) (va_runV (As := []) (rest := [.int (nI k)]) ⟨hx, hb, hml, hown, hts⟩ (c_X3_latestNumber l _ hs (va 0) hc (va (nV - 1)) ec (nV - 1) mcv R2 hco) (cwV 0 hts gX7_isKept_X3_latestNumber rfl rfl rfl (by decide +kernel) ⟨Nat.le_of_ble_eq_true rfl, Nat.le_of_ble_eq_true rfl⟩) (k_preV hK (k_recv hK.1 R2 rfl)) rfl rfl hl.1 rfl (lv_room (Nat.le_of_ble_eq_true rfl)) dX7_isKept_5 ⟨(Nat.zero_le _), (Nat.zero_le _)⟩) hS (fun locs hS => ?_)
  refine lv_icmp_eq (tgt := 19) hx hb dX7_isKept_8 (by decide) (fun c8 => ?_) (fun c8 => ?_)
  · refine lv_iconst (v := 1) hx hb dX7_isKept_19 (by decide) ?_
    exact k_retz hx hb hr hlocks (by decide) ⟨(b2_t (kpF_mt (i := 0) (show kpF σ (nI k) nW 0 = true by rw [kpF, h21, c8]; simp) (Nat.zero_le _))).symm, rfl⟩ hS dX7_isKept_20
  · refine lv_aload_n hx hb dX7_isKept_11 rfl (lv_at hl 0 rfl) ?_
    refine lv_iload_n hx hb dX7_isKept_12 rfl (lv_at hl 1 rfl) ?_
    refine k_callpi (v := b2 (ipF σ (nI k) nW)) (va_runV (As := [.int (nI k)]) (rest := []) ⟨hx, hb, hml, hown, hts⟩ (c_isPinned l _ h0 wa σ nW nV nE k hR0 hI hk) (cwV 1 hts gX7_isKept_X7_isPinned rfl rfl rfl (by decide +kernel) ⟨Nat.le_of_ble_eq_true rfl, Nat.le_of_ble_eq_true rfl⟩) (k_preV hK (k_recv hK.1 R1 rfl)) rfl rfl hl.1 rfl (lv_room (Nat.le_of_ble_eq_true rfl)) dX7_isKept_13 ⟨(Nat.zero_le _), (Nat.zero_le _)⟩) hS (fun locs hS => ?_)
    refine lv_if_eq (tgt := 21) hx hb dX7_isKept_16 (by decide) (fun c16 => ?_) (fun c16 => ?_)
    · refine lv_iconst (v := 0) hx hb dX7_isKept_21 (by decide) ?_
      refine lv_istore_n (lv' := [(2, .int 0), (0, .ref h0), (1, .int (nI k))]) hx hb dX7_isKept_22 rfl hl (by decide) rfl (fun ls hl => ?_)
      have hk0 : kpF σ (nI k) nW 0 = false := by rw [kpF, h21, decide_eq_false c8, b2_0 c16]; rfl
      clear c8 c16
      have loop : ∀ (n : Nat), ∀ (i : Nat), i ≤ nW → nW + 1 ≤ i + n → kpF σ (nI k) nW i = false → ∀ (locs : List Loc), va_S (fun _ => False) s.heap s.heap locs → ∀ ls : Array Slot, lv_has ls 3 [(2, .int (nI i)), (0, .ref h0), (1, .int (nI k))] → W p l e (headSpec wsX7_isKept ({ frames := 4, cells := 0, slots := 0, locals := 86 })).room s m ([.ref h0, .int (nI k)] : List Value).toArray below meth c s.heap locs 0 0 (MQ below (Qpi s.heap (b2 (kept σ (nI k) nW))) ([.ref h0, .int (nI k)] : List Value).toArray s 0 0 (fun _ => False)) (F0 m 23 ls []) := by
        intro n
        induction n with
        | zero => intro i h1 h2; exact absurd h2 (by omega)
        | succ n ih =>
          intro i hi hn hip locs hS ls hl
          refine lv_iload_n hx hb dX7_isKept_23 rfl (lv_at hl 0 rfl) ?_
          refine lv_aload_n hx hb dX7_isKept_24 rfl (lv_at hl 1 rfl) ?_
          refine k_get (C := RX7) (T := TX7) (N := 6) (v := .ref hw) hx hb hts hiX7 hown hK.1 R1 rfl 1 (by decide) (hts (.fieldLink RX7 19 "HouseWorkers" "works" "Ljava/util/ArrayList;") (by decide +kernel)) (fun _ h9 => h9) rfl dX7_isKept_25 ?_
          refine k_callpi (v := nI nW) (va_runV (As := []) (rest := [.int (nI i)]) ⟨hx, hb, hml, hown, hts⟩ (c_AL_size l _ hw ew nW mw hwo) (cwV 0 hts gX7_isKept_Jx4a65c_size_8abf5 rfl rfl rfl (by decide +kernel) ⟨Nat.le_of_ble_eq_true rfl, Nat.le_of_ble_eq_true rfl⟩) (k_preV hK (k_recv hK.1 hwo rfl)) rfl rfl hl.1 rfl (lv_room (Nat.le_of_ble_eq_true rfl)) dX7_isKept_28 ⟨(Nat.zero_le _), (Nat.zero_le _)⟩) hS (fun locs hS => ?_)
          refine lv_icmp_ge (tgt := 60) hx hb dX7_isKept_31 (by decide) (fun c31 => ?_) (fun c31 => ?_)
          · have c31 := Int32.not_lt.mpr c31
            have hij : i = nW := Nat.le_antisymm hi (Nat.le_of_not_lt (fun q => c31 (nI_lt q (by omega))))
            refine lv_iconst (v := 0) hx hb dX7_isKept_60 (by decide) ?_
            exact k_retz hx hb hr hlocks (by decide) ⟨by unfold kept; rw [← hij]; rw [← hij] at hip; exact (b2_f hip).symm, rfl⟩ hS dX7_isKept_61
          · have c31 := Int32.not_le.mp c31
            have hlt : i < nW := (nI_ltI (by omega) (by omega)).mp c31
            refine lv_aload_n hx hb dX7_isKept_34 rfl (lv_at hl 1 rfl) ?_
            refine k_get (C := RX7) (T := TX7) (N := 6) (v := .ref hw) hx hb hts hiX7 hown hK.1 R1 rfl 1 (by decide) (hts (.fieldLink RX7 19 "HouseWorkers" "works" "Ljava/util/ArrayList;") (by decide +kernel)) (fun _ h9 => h9) rfl dX7_isKept_35 ?_
            refine lv_iload_n hx hb dX7_isKept_38 rfl (lv_at hl 0 rfl) ?_
            obtain ⟨hnp, hnc, hcs, har, -⟩ : 0 < nW ∧ nW ≤ pw ∧ (pw = 10 ∨ pw = 15 ∨ pw = 22 ∨ pw = 33) ∧ Ar D cO ew pw gw s.heap ∧ ∀ i, nW ≤ i → gw i = none := hwm.elim (fun q => absurd hlt (by omega)) id
            refine k_callpq (v := gw i) (va_runV (As := [.int (nI i)]) (rest := []) ⟨hx, hb, hml, hown, hts⟩ (c_AL_get l _ hw ew nW pw i mw gw hwo har hlt hnc (by omega)) (cwV 1 hts gX7_isKept_Jx4a65c_get_915e3 rfl rfl rfl (by decide +kernel) ⟨Nat.le_of_ble_eq_true rfl, Nat.le_of_ble_eq_true rfl⟩) (k_preV hK (k_recv hK.1 hwo rfl)) rfl rfl hl.1 rfl (lv_room (Nat.le_of_ble_eq_true rfl)) dX7_isKept_39 ⟨(Nat.zero_le _), (Nat.zero_le _)⟩) hS (fun locs hS => ?_)
            rw [R4g i hlt]
            refine W.eq (g2 := F0 m 42 ls [.ref (wa i)]) rfl ?_
            obtain ⟨ci, ex, hvc, hob⟩ := (R7 i hlt).ob
            refine w_recv hK hob hvc hown hx hb (hts (.classLink RX7 91 "HouseWorkers$Work") (by decide +kernel)) dX7_isKept_42 ?_
            refine lv_iload_n hx hb dX7_isKept_45 rfl (lv_at hl 2 rfl) ?_
            refine w_isToGet (x := wx σ te pn i) (rest := []) (v := nI k) ⟨hx, hb, hml, hown, hts⟩ gX7_isKept_X5_isToGet_u187X1 gX7_isKept_X5_isToGet_u187X2 gX7_isKept_X4_isToGet_u187X4 gX7_isKept_X5_isToGet_u187X6 hK hob hvc (by decide +kernel) ⟨Nat.le_of_ble_eq_true rfl, Nat.le_of_ble_eq_true rfl⟩ ⟨Nat.le_of_ble_eq_true rfl, Nat.le_of_ble_eq_true rfl⟩ ⟨Nat.le_of_ble_eq_true rfl, Nat.le_of_ble_eq_true rfl⟩ ⟨Nat.le_of_ble_eq_true rfl, Nat.le_of_ble_eq_true rfl⟩ (Nat.le_of_ble_eq_true rfl) hl.1 ⟨(Nat.zero_le _), (Nat.zero_le _)⟩ hS dX7_isKept_46 (fun locs hS => ?_)
            refine W.eq (g2 := F0 m 49 ls [.int (b2 (decide (σ 4 i = 3) && (decide (σ 12 i = 0) && decide (hvr σ i < nI k))))]) rfl ?_
            rw [kp_eq]
            refine lv_if_eq (tgt := 54) hx hb dX7_isKept_49 (by decide) (fun c49 => ?_) (fun c49 => ?_)
            · refine lv_iinc (v := nI (i + 1)) (lv' := [(2, .int (nI (i + 1))), (0, .ref h0), (1, .int (nI k))]) hx hb dX7_isKept_54 hl (k := 0) rfl (by rw [← nI_1]; rfl) (by decide) rfl (fun ls hl => ?_)
              refine lv_goto (tgt := 23) hx hb dX7_isKept_57 (by decide) ?_
              exact ih (i + 1) (by omega) (by omega) (kpF_s hip (b2_0 c49)) locs hS ls (lv_sub hl [0, 1, 2] rfl)
            · refine lv_iconst (v := 1) hx hb dX7_isKept_52 (by decide) ?_
              exact k_retz hx hb hr hlocks (by decide) ⟨(b2_t (kpF_mt (kpF_s hip (b2_n c49)) (by omega))).symm, rfl⟩ hS dX7_isKept_53
      exact loop (nW + 1) 0 (Nat.zero_le _) (by omega) hk0 _ hS ls (lv_sub hl [0, 1, 2] rfl)
    · refine lv_iconst (v := 1) hx hb dX7_isKept_19 (by decide) ?_
      exact k_retz hx hb hr hlocks (by decide) ⟨(b2_t (kpF_mt (i := 0) (show kpF σ (nI k) nW 0 = true by rw [kpF, b2_n c16]; simp) (Nat.zero_le _))).symm, rfl⟩ hS dX7_isKept_20
set_option maxHeartbeats 4000000 in
set_option maxRecDepth 100000 in
theorem c_countKept (l : Launch) {D : va_G} {cI cZ cO : ClassId} {mi : Nat} (H : Heap) {eA : Nat} {B : Nat → Prop} (h0 : Nat) (wa : Nat → Nat) (σ : Sg) (nW nV nE : Nat) (hR : HR D cI cO eA B h0 wa σ nW nV nE H) (hI : Inv σ nW nV nE) : Met l yX7_countKept wsX7_countKept ({ frames := 5, cells := 0, slots := 0, locals := 108 }) (Pk D cI cZ cO mi [.ref h0] H) (Qpi H (nI (cntF (fun v => kept σ (nI v) nW) nV))) 0 0 (fun _ => False) := by
  refine Met.ofW (cc := cX7_countKept) (maxL := 3) (ret := (some .int)) (by decide) rfl ?_
  intro p e s m args below meth c s₁ Bd hml hv
  obtain ⟨rfl, rfl, hK⟩ := hv
  have hx := Bd.exec
  have hb := Bd.bytes
  have hr := Bd.returns
  have hts := atoms_spec (ws := wsX7_countKept) Bd.pre
  have hown : s.vm.findClass RX7 = some m.cls := findClass_of_methodNamed Bd.named
  have hlocks := Bd.notSynchronized
  have hS : va_S (fun _ => False) s.heap s.heap [] := va_S.rf
  have hl := lv_entry ([.ref h0]) (n := 3) (Nat.le_of_ble_eq_true rfl)
  rw [lg_entry_eq]
  generalize (lg_sl ([.ref h0]) ++ List.replicate (3 - (lg_sl ([.ref h0])).length) Slot.unset).toArray = ls at hl ⊢
  have hl : lv_has ls 3 [(0, .ref h0)] := hl
  have hiX7 : ∀ w ∈ wsX70, w ∈ wsX7_countKept := by decide +kernel
  have hR0 := hR
  obtain ⟨hs, hc, hw, he, ec, ew, ee, pc, pw, pe, gc, gw, ge, va, da, ra, te, pn, rl, R1, R2, ⟨R3, R3g⟩, ⟨R4, R4g⟩, ⟨R5, R5g⟩, R6, R7, R8, R9, RT, RB, RN, RL, R12, R13⟩ := hR
  have hn30 := hI.n30
  have heW := hI.eW
  have hvE := hI.2.2.2.2.2.1
  have hv1 := hI.2.2.2.2.1
  obtain ⟨⟨mcv, hco⟩, hcm⟩ := id R3
  refine lv_iconst (v := 0) hx hb dX7_countKept_0 (by decide) ?_
  refine lv_istore_n (lv' := [(1, .int 0), (0, .ref h0)]) hx hb dX7_countKept_1 rfl hl (by decide) rfl (fun ls hl => ?_)
  refine lv_iconst (v := 0) hx hb dX7_countKept_2 (by decide) ?_
  refine lv_istore_n (lv' := [(2, .int 0), (1, .int 0), (0, .ref h0)]) hx hb dX7_countKept_3 rfl hl (by decide) rfl (fun ls hl => ?_)
  generalize ([] : List Loc) = locs at hS ⊢
  have loop : ∀ (n : Nat), ∀ (i : Nat), i ≤ nV → nV + 1 ≤ i + n → ∀ (locs : List Loc), va_S (fun _ => False) s.heap s.heap locs → ∀ ls : Array Slot, lv_has ls 3 [(2, .int (nI i)), (1, .int (nI (cntF (fun v => kept σ (nI v) nW) i))), (0, .ref h0)] → W p l e (headSpec wsX7_countKept ({ frames := 5, cells := 0, slots := 0, locals := 108 })).room s m ([.ref h0] : List Value).toArray below meth c s.heap locs 0 0 (MQ below (Qpi s.heap (nI (cntF (fun v => kept σ (nI v) nW) nV))) ([.ref h0] : List Value).toArray s 0 0 (fun _ => False)) (F0 m 4 ls []) := by
    intro n
    induction n with
    | zero => intro i h1 h2; exact absurd h2 (by omega)
    | succ n ih =>
      intro i hi hn locs hS ls hl
      refine lv_iload_n hx hb dX7_countKept_4 rfl (lv_at hl 0 rfl) ?_
      refine lv_aload_n hx hb dX7_countKept_5 rfl (lv_at hl 2 rfl) ?_
      refine k_get (C := RX7) (T := TX7) (N := 6) (v := .ref hs) hx hb hts hiX7 hown hK.1 R1 rfl 0 (by decide) (hts (.fieldLink RX7 12 "HouseWorkers" "store" "LHouseWorkers$Store;") (by decide +kernel)) (fun _ h9 => h9) rfl dX7_countKept_6 ?_
      refine k_callpi (v := nI (nV - 1 + 1)) (va_runV (As := []) (rest := [.int (nI i)]) ⟨hx, hb, hml, hown, hts⟩ (c_X3_size l _ hs (va 0) hc (va (nV - 1)) ec (nV - 1) mcv R2 hco) (cwV 0 hts gX7_countKept_X3_size rfl rfl rfl (by decide +kernel) ⟨Nat.le_of_ble_eq_true rfl, Nat.le_of_ble_eq_true rfl⟩) (k_preV hK (k_recv hK.1 R2 rfl)) rfl rfl hl.1 rfl (lv_room (Nat.le_of_ble_eq_true rfl)) dX7_countKept_9 ⟨(Nat.zero_le _), (Nat.zero_le _)⟩) hS (fun locs hS => ?_)
      rw [show nV - 1 + 1 = nV by omega]
      refine lv_icmp_ge (tgt := 32) hx hb dX7_countKept_12 (by decide) (fun c12 => ?_) (fun c12 => ?_)
      · have c12 := Int32.not_lt.mpr c12
        have hij : i = nV := Nat.le_antisymm hi (Nat.le_of_not_lt (fun q => c12 (nI_lt q (by omega))))
        refine lv_iload_n hx hb dX7_countKept_32 rfl (lv_at hl 1 rfl) ?_
        exact k_reti hx hb hr hlocks ⟨by rw [hij], rfl⟩ hS dX7_countKept_33
      · have c12 := Int32.not_le.mp c12
        have hlt : i < nV := (nI_ltI (by omega) (by omega)).mp c12
        refine lv_aload_n hx hb dX7_countKept_15 rfl (lv_at hl 2 rfl) ?_
        refine lv_iload_n hx hb dX7_countKept_16 rfl (lv_at hl 0 rfl) ?_
        refine k_callpi (v := b2 ((fun v => kept σ (nI v) nW) i)) (va_runV (As := [.int (nI i)]) (rest := []) ⟨hx, hb, hml, hown, hts⟩ (c_isKept l _ h0 wa σ nW nV nE i hR0 hI (by omega)) (cwV 1 hts gX7_countKept_X7_isKept rfl rfl rfl (by decide +kernel) ⟨Nat.le_of_ble_eq_true rfl, Nat.le_of_ble_eq_true rfl⟩) (k_preV hK (k_recv hK.1 R1 rfl)) rfl rfl hl.1 rfl (lv_room (Nat.le_of_ble_eq_true rfl)) dX7_countKept_17 ⟨(Nat.zero_le _), (Nat.zero_le _)⟩) hS (fun locs hS => ?_)
        refine lv_if_eq (tgt := 26) hx hb dX7_countKept_20 (by decide) (fun c20 => ?_) (fun c20 => ?_)
        · refine lv_iinc (v := nI (i + 1)) (lv' := [(2, .int (nI (i + 1))), (1, .int (nI (cntF (fun v => kept σ (nI v) nW) i))), (0, .ref h0)]) hx hb dX7_countKept_26 hl (k := 0) rfl (by rw [← nI_1]; rfl) (by decide) rfl (fun ls hl => ?_)
          refine lv_goto (tgt := 4) hx hb dX7_countKept_29 (by decide) ?_
          have e9 : nI (cntF (fun v => kept σ (nI v) nW) (i + 1)) = nI (cntF (fun v => kept σ (nI v) nW) i) := cntF_sm (f := (fun v => kept σ (nI v) nW)) (b2_0 c20)
          exact ih (i + 1) (by omega) (by omega) locs hS ls (by rw [e9]; exact lv_sub hl [0, 1, 2] rfl)
        · refine lv_iinc (v := nI (cntF (fun v => kept σ (nI v) nW) (i + 1))) (lv' := [(1, .int (nI (cntF (fun v => kept σ (nI v) nW) (i + 1)))), (2, .int (nI i)), (0, .ref h0)]) hx hb dX7_countKept_23 hl (k := 1) rfl (cntF_s1 (f := (fun v => kept σ (nI v) nW)) (b2_n c20)) (by decide) rfl (fun ls hl => ?_)
          refine lv_iinc (v := nI (i + 1)) (lv' := [(2, .int (nI (i + 1))), (1, .int (nI (cntF (fun v => kept σ (nI v) nW) (i + 1)))), (0, .ref h0)]) hx hb dX7_countKept_26 hl (k := 1) rfl (by rw [← nI_1]; rfl) (by decide) rfl (fun ls hl => ?_)
          refine lv_goto (tgt := 4) hx hb dX7_countKept_29 (by decide) ?_
          exact ih (i + 1) (by omega) (by omega) locs hS ls (lv_sub hl [0, 1, 2] rfl)
  exact loop (nV + 1) 0 (Nat.zero_le _) (by omega) locs hS ls (lv_sub hl [0, 1, 2] rfl)
set_option maxHeartbeats 4000000 in
set_option maxRecDepth 100000 in
theorem c_countPinned (l : Launch) {D : va_G} {cI cZ cO : ClassId} {mi : Nat} (H : Heap) {eA : Nat} {B : Nat → Prop} (h0 : Nat) (wa : Nat → Nat) (σ : Sg) (nW nV nE : Nat) (hR : HR D cI cO eA B h0 wa σ nW nV nE H) (hI : Inv σ nW nV nE) : Met l yX7_countPinned wsX7_countPinned ({ frames := 4, cells := 0, slots := 0, locals := 86 }) (Pk D cI cZ cO mi [.ref h0] H) (Qpi H (nI (cntF (fun v => ipF σ (nI v) nW) nV))) 0 0 (fun _ => False) := by
  refine Met.ofW (cc := cX7_countPinned) (maxL := 3) (ret := (some .int)) (by decide) rfl ?_
  intro p e s m args below meth c s₁ Bd hml hv
  obtain ⟨rfl, rfl, hK⟩ := hv
  have hx := Bd.exec
  have hb := Bd.bytes
  have hr := Bd.returns
  have hts := atoms_spec (ws := wsX7_countPinned) Bd.pre
  have hown : s.vm.findClass RX7 = some m.cls := findClass_of_methodNamed Bd.named
  have hlocks := Bd.notSynchronized
  have hS : va_S (fun _ => False) s.heap s.heap [] := va_S.rf
  have hl := lv_entry ([.ref h0]) (n := 3) (Nat.le_of_ble_eq_true rfl)
  rw [lg_entry_eq]
  generalize (lg_sl ([.ref h0]) ++ List.replicate (3 - (lg_sl ([.ref h0])).length) Slot.unset).toArray = ls at hl ⊢
  have hl : lv_has ls 3 [(0, .ref h0)] := hl
  have hiX7 : ∀ w ∈ wsX70, w ∈ wsX7_countPinned := by decide +kernel
  have hR0 := hR
  obtain ⟨hs, hc, hw, he, ec, ew, ee, pc, pw, pe, gc, gw, ge, va, da, ra, te, pn, rl, R1, R2, ⟨R3, R3g⟩, ⟨R4, R4g⟩, ⟨R5, R5g⟩, R6, R7, R8, R9, RT, RB, RN, RL, R12, R13⟩ := hR
  have hn30 := hI.n30
  have heW := hI.eW
  have hvE := hI.2.2.2.2.2.1
  have hv1 := hI.2.2.2.2.1
  obtain ⟨⟨mcv, hco⟩, hcm⟩ := id R3
  refine lv_iconst (v := 0) hx hb dX7_countPinned_0 (by decide) ?_
  refine lv_istore_n (lv' := [(1, .int 0), (0, .ref h0)]) hx hb dX7_countPinned_1 rfl hl (by decide) rfl (fun ls hl => ?_)
  refine lv_iconst (v := 0) hx hb dX7_countPinned_2 (by decide) ?_
  refine lv_istore_n (lv' := [(2, .int 0), (1, .int 0), (0, .ref h0)]) hx hb dX7_countPinned_3 rfl hl (by decide) rfl (fun ls hl => ?_)
  generalize ([] : List Loc) = locs at hS ⊢
  have loop : ∀ (n : Nat), ∀ (i : Nat), i ≤ nV → nV + 1 ≤ i + n → ∀ (locs : List Loc), va_S (fun _ => False) s.heap s.heap locs → ∀ ls : Array Slot, lv_has ls 3 [(2, .int (nI i)), (1, .int (nI (cntF (fun v => ipF σ (nI v) nW) i))), (0, .ref h0)] → W p l e (headSpec wsX7_countPinned ({ frames := 4, cells := 0, slots := 0, locals := 86 })).room s m ([.ref h0] : List Value).toArray below meth c s.heap locs 0 0 (MQ below (Qpi s.heap (nI (cntF (fun v => ipF σ (nI v) nW) nV))) ([.ref h0] : List Value).toArray s 0 0 (fun _ => False)) (F0 m 4 ls []) := by
    intro n
    induction n with
    | zero => intro i h1 h2; exact absurd h2 (by omega)
    | succ n ih =>
      intro i hi hn locs hS ls hl
      refine lv_iload_n hx hb dX7_countPinned_4 rfl (lv_at hl 0 rfl) ?_
      refine lv_aload_n hx hb dX7_countPinned_5 rfl (lv_at hl 2 rfl) ?_
      refine k_get (C := RX7) (T := TX7) (N := 6) (v := .ref hs) hx hb hts hiX7 hown hK.1 R1 rfl 0 (by decide) (hts (.fieldLink RX7 12 "HouseWorkers" "store" "LHouseWorkers$Store;") (by decide +kernel)) (fun _ h9 => h9) rfl dX7_countPinned_6 ?_
      refine k_callpi (v := nI (nV - 1 + 1)) (va_runV (As := []) (rest := [.int (nI i)]) ⟨hx, hb, hml, hown, hts⟩ (c_X3_size l _ hs (va 0) hc (va (nV - 1)) ec (nV - 1) mcv R2 hco) (cwV 0 hts gX7_countPinned_X3_size rfl rfl rfl (by decide +kernel) ⟨Nat.le_of_ble_eq_true rfl, Nat.le_of_ble_eq_true rfl⟩) (k_preV hK (k_recv hK.1 R2 rfl)) rfl rfl hl.1 rfl (lv_room (Nat.le_of_ble_eq_true rfl)) dX7_countPinned_9 ⟨(Nat.zero_le _), (Nat.zero_le _)⟩) hS (fun locs hS => ?_)
      rw [show nV - 1 + 1 = nV by omega]
      refine lv_icmp_ge (tgt := 32) hx hb dX7_countPinned_12 (by decide) (fun c12 => ?_) (fun c12 => ?_)
      · have c12 := Int32.not_lt.mpr c12
        have hij : i = nV := Nat.le_antisymm hi (Nat.le_of_not_lt (fun q => c12 (nI_lt q (by omega))))
        refine lv_iload_n hx hb dX7_countPinned_32 rfl (lv_at hl 1 rfl) ?_
        exact k_reti hx hb hr hlocks ⟨by rw [hij], rfl⟩ hS dX7_countPinned_33
      · have c12 := Int32.not_le.mp c12
        have hlt : i < nV := (nI_ltI (by omega) (by omega)).mp c12
        refine lv_aload_n hx hb dX7_countPinned_15 rfl (lv_at hl 2 rfl) ?_
        refine lv_iload_n hx hb dX7_countPinned_16 rfl (lv_at hl 0 rfl) ?_
        refine k_callpi (v := b2 ((fun v => ipF σ (nI v) nW) i)) (va_runV (As := [.int (nI i)]) (rest := []) ⟨hx, hb, hml, hown, hts⟩ (c_isPinned l _ h0 wa σ nW nV nE i hR0 hI (by omega)) (cwV 1 hts gX7_countPinned_X7_isPinned rfl rfl rfl (by decide +kernel) ⟨Nat.le_of_ble_eq_true rfl, Nat.le_of_ble_eq_true rfl⟩) (k_preV hK (k_recv hK.1 R1 rfl)) rfl rfl hl.1 rfl (lv_room (Nat.le_of_ble_eq_true rfl)) dX7_countPinned_17 ⟨(Nat.zero_le _), (Nat.zero_le _)⟩) hS (fun locs hS => ?_)
        refine lv_if_eq (tgt := 26) hx hb dX7_countPinned_20 (by decide) (fun c20 => ?_) (fun c20 => ?_)
        · refine lv_iinc (v := nI (i + 1)) (lv' := [(2, .int (nI (i + 1))), (1, .int (nI (cntF (fun v => ipF σ (nI v) nW) i))), (0, .ref h0)]) hx hb dX7_countPinned_26 hl (k := 0) rfl (by rw [← nI_1]; rfl) (by decide) rfl (fun ls hl => ?_)
          refine lv_goto (tgt := 4) hx hb dX7_countPinned_29 (by decide) ?_
          have e9 : nI (cntF (fun v => ipF σ (nI v) nW) (i + 1)) = nI (cntF (fun v => ipF σ (nI v) nW) i) := cntF_sm (f := (fun v => ipF σ (nI v) nW)) (b2_0 c20)
          exact ih (i + 1) (by omega) (by omega) locs hS ls (by rw [e9]; exact lv_sub hl [0, 1, 2] rfl)
        · refine lv_iinc (v := nI (cntF (fun v => ipF σ (nI v) nW) (i + 1))) (lv' := [(1, .int (nI (cntF (fun v => ipF σ (nI v) nW) (i + 1)))), (2, .int (nI i)), (0, .ref h0)]) hx hb dX7_countPinned_23 hl (k := 1) rfl (cntF_s1 (f := (fun v => ipF σ (nI v) nW)) (b2_n c20)) (by decide) rfl (fun ls hl => ?_)
          refine lv_iinc (v := nI (i + 1)) (lv' := [(2, .int (nI (i + 1))), (1, .int (nI (cntF (fun v => ipF σ (nI v) nW) (i + 1)))), (0, .ref h0)]) hx hb dX7_countPinned_26 hl (k := 1) rfl (by rw [← nI_1]; rfl) (by decide) rfl (fun ls hl => ?_)
          refine lv_goto (tgt := 4) hx hb dX7_countPinned_29 (by decide) ?_
          exact ih (i + 1) (by omega) (by omega) locs hS ls (lv_sub hl [0, 1, 2] rfl)
  exact loop (nV + 1) 0 (Nat.zero_le _) (by omega) locs hS ls (lv_sub hl [0, 1, 2] rfl)
theorem cnt_not {f g : Nat → Bool} (h : ∀ i, g i = !f i) : ∀ n, cntF g n = n - cntF f n
  | 0 => rfl
  | n + 1 => by
    have h1 := cnt_not h n
    have h2 := cntF_le f n
    rw [cntF, cntF, h1, h n]
    cases f n <;> simp <;> omega
set_option maxHeartbeats 4000000 in
set_option maxRecDepth 100000 in
theorem c_count (l : Launch) {D : va_G} {cI cZ cO : ClassId} {mi : Nat} (H : Heap) {eA : Nat} {B : Nat → Prop} (h0 : Nat) (wa : Nat → Nat) (σ : Sg) (nW nV nE : Nat) (what : Int32) (hR : HR D cI cO eA B h0 wa σ nW nV nE H) (hI : Inv σ nW nV nE) : Met l yX7_count wsX7_count ({ frames := 6, cells := 0, slots := 0, locals := 130 }) (Pk D cI cZ cO mi [.ref h0, .int what] H) (Qpi H (mCnt σ nW nV what)) 0 0 (fun _ => False) := by
  refine Met.ofW (cc := cX7_count) (maxL := 2) (ret := (some .int)) (by decide) rfl ?_
  intro p e s m args below meth c s₁ Bd hml hv
  obtain ⟨rfl, rfl, hK⟩ := hv
  have hx := Bd.exec
  have hb := Bd.bytes
  have hr := Bd.returns
  have hts := atoms_spec (ws := wsX7_count) Bd.pre
  have hown : s.vm.findClass RX7 = some m.cls := findClass_of_methodNamed Bd.named
  have hlocks := Bd.notSynchronized
  have hS : va_S (fun _ => False) s.heap s.heap [] := va_S.rf
  have hl := lv_entry ([.ref h0, .int what]) (n := 2) (Nat.le_of_ble_eq_true rfl)
  rw [lg_entry_eq]
  generalize (lg_sl ([.ref h0, .int what]) ++ List.replicate (2 - (lg_sl ([.ref h0, .int what])).length) Slot.unset).toArray = ls at hl ⊢
  have hl : lv_has ls 2 [(0, .ref h0), (1, .int what)] := hl
  have hiX7 : ∀ w ∈ wsX70, w ∈ wsX7_count := by decide +kernel
  have hR0 := hR
  obtain ⟨hs, hc, hw, he, ec, ew, ee, pc, pw, pe, gc, gw, ge, va, da, ra, te, pn, rl, R1, R2, ⟨R3, R3g⟩, ⟨R4, R4g⟩, ⟨R5, R5g⟩, R6, R7, R8, R9, RT, RB, RN, RL, R12, R13⟩ := hR
  have hn30 := hI.n30
  have heW := hI.eW
  have hvE := hI.2.2.2.2.2.1
  have hv1 := hI.2.2.2.2.1
  obtain ⟨⟨mw, hwo⟩, hwm⟩ := id R4
  obtain ⟨⟨mcv, hco⟩, hcm⟩ := id R3
  obtain ⟨⟨me, heo⟩, hem⟩ := id R5
  refine lv_iload_n hx hb dX7_count_0 rfl (lv_at hl 1 rfl) ?_
  by_cases k0 : what = 0
  · refine lv_tableIn (off := 39) (tgt := 40) hx hb dX7_count_1 (by rw [k0]; decide) (by rw [k0]; decide) (by rw [k0]; decide) (by decide) ?_
    refine lv_aload_n hx hb dX7_count_40 rfl (lv_at hl 0 rfl) ?_
    refine k_get (C := RX7) (T := TX7) (N := 6) (v := .ref hs) hx hb hts hiX7 hown hK.1 R1 rfl 0 (by decide) (hts (.fieldLink RX7 12 "HouseWorkers" "store" "LHouseWorkers$Store;") (by decide +kernel)) (fun _ h9 => h9) rfl dX7_count_41 ?_
    refine k_callpi (v := nI (nV - 1 + 1)) (va_runV (As := []) (rest := []) ⟨hx, hb, hml, hown, hts⟩ (c_X3_size l _ hs (va 0) hc (va (nV - 1)) ec (nV - 1) mcv R2 hco) (cwV 0 hts gX7_count_X3_size rfl rfl rfl (by decide +kernel) ⟨Nat.le_of_ble_eq_true rfl, Nat.le_of_ble_eq_true rfl⟩) (k_preV hK (k_recv hK.1 R2 rfl)) rfl rfl hl.1 rfl (lv_room (Nat.le_of_ble_eq_true rfl)) dX7_count_44 ⟨(Nat.zero_le _), (Nat.zero_le _)⟩) hS (fun locs hS => ?_)
    exact k_reti hx hb hr hlocks ⟨by unfold mCnt; rw [if_pos k0]; rw [hI.2.1, show nV - 1 + 1 = nV by omega], rfl⟩ hS dX7_count_47
  by_cases k1 : what = 1
  · refine lv_tableIn (off := 47) (tgt := 48) hx hb dX7_count_1 (by rw [k1]; decide) (by rw [k1]; decide) (by rw [k1]; decide) (by decide) ?_
    refine lv_aload_n hx hb dX7_count_48 rfl (lv_at hl 0 rfl) ?_
    refine k_callpi (v := nI (cntF (fun v => kept σ (nI v) nW) nV)) (va_runV (As := []) (rest := []) ⟨hx, hb, hml, hown, hts⟩ (c_countKept l _ h0 wa σ nW nV nE hR0 hI) (cwV 0 hts gX7_count_X7_countKept rfl rfl rfl (by decide +kernel) ⟨Nat.le_of_ble_eq_true rfl, Nat.le_of_ble_eq_true rfl⟩) (k_preV hK (k_recv hK.1 R1 rfl)) rfl rfl hl.1 rfl (lv_room (Nat.le_of_ble_eq_true rfl)) dX7_count_49 ⟨(Nat.zero_le _), (Nat.zero_le _)⟩) hS (fun locs hS => ?_)
    exact k_reti hx hb hr hlocks ⟨by unfold mCnt; rw [if_neg k0, if_pos k1], rfl⟩ hS dX7_count_52
  by_cases k2 : what = 2
  · refine lv_tableIn (off := 52) (tgt := 53) hx hb dX7_count_1 (by rw [k2]; decide) (by rw [k2]; decide) (by rw [k2]; decide) (by decide) ?_
    refine lv_aload_n hx hb dX7_count_53 rfl (lv_at hl 0 rfl) ?_
    refine k_callpi (v := nI (cntF (fun v => ipF σ (nI v) nW) nV)) (va_runV (As := []) (rest := []) ⟨hx, hb, hml, hown, hts⟩ (c_countPinned l _ h0 wa σ nW nV nE hR0 hI) (cwV 0 hts gX7_count_X7_countPinned rfl rfl rfl (by decide +kernel) ⟨Nat.le_of_ble_eq_true rfl, Nat.le_of_ble_eq_true rfl⟩) (k_preV hK (k_recv hK.1 R1 rfl)) rfl rfl hl.1 rfl (lv_room (Nat.le_of_ble_eq_true rfl)) dX7_count_54 ⟨(Nat.zero_le _), (Nat.zero_le _)⟩) hS (fun locs hS => ?_)
    exact k_reti hx hb hr hlocks ⟨by unfold mCnt; rw [if_neg k0, if_neg k1, if_pos k2], rfl⟩ hS dX7_count_57
  by_cases k3 : what = 3
  · refine lv_tableIn (off := 57) (tgt := 58) hx hb dX7_count_1 (by rw [k3]; decide) (by rw [k3]; decide) (by rw [k3]; decide) (by decide) ?_
    refine lv_aload_n hx hb dX7_count_58 rfl (lv_at hl 0 rfl) ?_
    refine k_get (C := RX7) (T := TX7) (N := 6) (v := .int (σ 20 0)) hx hb hts hiX7 hown hK.1 R1 rfl 4 (by decide) (hts (.fieldLink RX7 155 "HouseWorkers" "turnsThatDid" "I") (by decide +kernel)) (fun _ h9 => h9) rfl dX7_count_59 ?_
    exact k_reti hx hb hr hlocks ⟨by unfold mCnt; rw [if_neg k0, if_neg k1, if_neg k2, if_pos k3], rfl⟩ hS dX7_count_62
  by_cases k4 : what = 4
  · refine lv_tableIn (off := 62) (tgt := 63) hx hb dX7_count_1 (by rw [k4]; decide) (by rw [k4]; decide) (by rw [k4]; decide) (by decide) ?_
    refine lv_aload_n hx hb dX7_count_63 rfl (lv_at hl 0 rfl) ?_
    refine k_get (C := RX7) (T := TX7) (N := 6) (v := .int (σ 21 0)) hx hb hts hiX7 hown hK.1 R1 rfl 5 (by decide) (hts (.fieldLink RX7 158 "HouseWorkers" "turnsThatWaited" "I") (by decide +kernel)) (fun _ h9 => h9) rfl dX7_count_64 ?_
    exact k_reti hx hb hr hlocks ⟨by unfold mCnt; rw [if_neg k0, if_neg k1, if_neg k2, if_neg k3, if_pos k4], rfl⟩ hS dX7_count_67
  by_cases k5 : what = 5
  · refine lv_tableIn (off := 67) (tgt := 68) hx hb dX7_count_1 (by rw [k5]; decide) (by rw [k5]; decide) (by rw [k5]; decide) (by decide) ?_
    refine lv_aload_n hx hb dX7_count_68 rfl (lv_at hl 0 rfl) ?_
    refine k_get (C := RX7) (T := TX7) (N := 6) (v := .ref hw) hx hb hts hiX7 hown hK.1 R1 rfl 1 (by decide) (hts (.fieldLink RX7 19 "HouseWorkers" "works" "Ljava/util/ArrayList;") (by decide +kernel)) (fun _ h9 => h9) rfl dX7_count_69 ?_
    refine k_callpi (v := nI nW) (va_runV (As := []) (rest := []) ⟨hx, hb, hml, hown, hts⟩ (c_AL_size l _ hw ew nW mw hwo) (cwV 0 hts gX7_count_Jx4a65c_size_8abf5 rfl rfl rfl (by decide +kernel) ⟨Nat.le_of_ble_eq_true rfl, Nat.le_of_ble_eq_true rfl⟩) (k_preV hK (k_recv hK.1 hwo rfl)) rfl rfl hl.1 rfl (lv_room (Nat.le_of_ble_eq_true rfl)) dX7_count_72 ⟨(Nat.zero_le _), (Nat.zero_le _)⟩) hS (fun locs hS => ?_)
    refine lv_aload_n hx hb dX7_count_75 rfl (lv_at hl 0 rfl) ?_
    refine k_get (C := RX7) (T := TX7) (N := 6) (v := .ref he) hx hb hts hiX7 hown hK.1 R1 rfl 2 (by decide) (hts (.fieldLink RX7 23 "HouseWorkers" "ends" "Ljava/util/ArrayList;") (by decide +kernel)) (fun _ h9 => h9) rfl dX7_count_76 ?_
    refine k_callpi (v := nI nE) (va_runV (As := []) (rest := [.int (nI nW)]) ⟨hx, hb, hml, hown, hts⟩ (c_AL_size l _ he ee nE me heo) (cwV 0 hts gX7_count_Jx4a65c_size_8abf5 rfl rfl rfl (by decide +kernel) ⟨Nat.le_of_ble_eq_true rfl, Nat.le_of_ble_eq_true rfl⟩) (k_preV hK (k_recv hK.1 heo rfl)) rfl rfl hl.1 rfl (lv_room (Nat.le_of_ble_eq_true rfl)) dX7_count_79 ⟨(Nat.zero_le _), (Nat.zero_le _)⟩) hS (fun locs hS => ?_)
    refine lv_isub hx hb dX7_count_82 ?_
    have hcn : nI nW - nI nE = nI (cntF (fun w => decide (σ 12 w = 0)) nW) := by
      have h1 := cnt_not (f := fun i => decide (0 < σ 12 i)) (g := fun i => !decide (0 < σ 12 i)) (fun i => rfl) nW
      have h2 : cntF (fun w => decide (σ 12 w = 0)) nW = cntF (fun i => !decide (0 < σ 12 i)) nW := cntF_cong (fun i hi => by have hq := (hI.wi hi).en; by_cases q2 : σ 12 i = 0; (simp [q2]); (simp [q2, hq.mpr q2]))
      rw [pk_sub heW, h2, h1, ← hI.2.2.2.2.2.2.1]
    exact k_reti hx hb hr hlocks ⟨by unfold mCnt; rw [if_neg k0, if_neg k1, if_neg k2, if_neg k3, if_neg k4, if_pos k5]; exact hcn, rfl⟩ hS dX7_count_83
  refine lv_tableOut (tgt := 84) hx hb dX7_count_1 (tb5 k0 k1 k2 k3 k4 k5) (by decide) ?_
  refine lv_iconst (v := -1) hx hb dX7_count_84 (by decide) ?_
  exact k_reti hx hb hr hlocks ⟨by unfold mCnt; rw [if_neg k0, if_neg k1, if_neg k2, if_neg k3, if_neg k4, if_neg k5], rfl⟩ hS dX7_count_85
set_option maxHeartbeats 4000000 in
set_option maxRecDepth 100000 in
theorem c_told (l : Launch) {D : va_G} {cI cZ cO : ClassId} {mi : Nat} (H : Heap) {eA : Nat} {B : Nat → Prop} (h0 : Nat) (wa : Nat → Nat) (σ : Sg) (nW nV nE : Nat) (x what : Int32) (hR : HR D cI cO eA B h0 wa σ nW nV nE H) (hI : Inv σ nW nV nE) : Met l yX7_told wsX7_told ({ frames := 5, cells := 0, slots := 0, locals := 108 }) (Pk D cI cZ cO mi [.ref h0, .int x, .int what] H) (Qpi H (mTld σ x what)) 0 0 (fun _ => False) := by
  refine Met.ofW (cc := cX7_told) (maxL := 4) (ret := (some .int)) (by decide) rfl ?_
  intro p e s m args below meth c s₁ Bd hml hv
  obtain ⟨rfl, rfl, hK⟩ := hv
  have hx := Bd.exec
  have hb := Bd.bytes
  have hr := Bd.returns
  have hts := atoms_spec (ws := wsX7_told) Bd.pre
  have hown : s.vm.findClass RX7 = some m.cls := findClass_of_methodNamed Bd.named
  have hlocks := Bd.notSynchronized
  have hS : va_S (fun _ => False) s.heap s.heap [] := va_S.rf
  have hl := lv_entry ([.ref h0, .int x, .int what]) (n := 4) (Nat.le_of_ble_eq_true rfl)
  rw [lg_entry_eq]
  generalize (lg_sl ([.ref h0, .int x, .int what]) ++ List.replicate (4 - (lg_sl ([.ref h0, .int x, .int what])).length) Slot.unset).toArray = ls at hl ⊢
  have hl : lv_has ls 4 [(0, .ref h0), (1, .int x), (2, .int what)] := hl
  have hiX7 : ∀ w ∈ wsX70, w ∈ wsX7_told := by decide +kernel
  have hR0 := hR
  obtain ⟨hs, hc, hw, he, ec, ew, ee, pc, pw, pe, gc, gw, ge, va, da, ra, te, pn, rl, R1, R2, ⟨R3, R3g⟩, ⟨R4, R4g⟩, ⟨R5, R5g⟩, R6, R7, R8, R9, RT, RB, RN, RL, R12, R13⟩ := hR
  have hn30 := hI.n30
  have heW := hI.eW
  have hvE := hI.2.2.2.2.2.1
  have hv1 := hI.2.2.2.2.1
  have hiX1 : ∀ w ∈ wsX10, w ∈ wsX7_told := by decide +kernel
  have hiX2 : ∀ w ∈ wsX20, w ∈ wsX7_told := by decide +kernel
  have hiX4 : ∀ w ∈ wsX40, w ∈ wsX7_told := by decide +kernel
  have hiX6 : ∀ w ∈ wsX60, w ∈ wsX7_told := by decide +kernel
  refine lv_aload_n hx hb dX7_told_0 rfl (lv_at hl 0 rfl) ?_
  refine lv_iload_n hx hb dX7_told_1 rfl (lv_at hl 1 rfl) ?_
  refine k_callpq (va_runV (As := [.int x]) (rest := []) ⟨hx, hb, hml, hown, hts⟩ (c_find l _ h0 wa σ nW nV nE x hR0 hI) (cwV 1 hts gX7_told_X7_find rfl rfl rfl (by decide +kernel) ⟨Nat.le_of_ble_eq_true rfl, Nat.le_of_ble_eq_true rfl⟩) (k_preV hK (k_recv hK.1 R1 rfl)) rfl rfl hl.1 rfl (lv_room (Nat.le_of_ble_eq_true rfl)) dX7_told_2 ⟨(Nat.zero_le _), (Nat.zero_le _)⟩) hS (fun locs hS => ?_)
  by_cases hin : inB x 0 (σ 3 0 - 1) = true
  · rw [if_pos hin]
    have hin2 := hin
    rw [hI.1] at hin2
    obtain ⟨j, hj, hxj⟩ := inB_idx (by omega) hin2
    rw [hxj, nat_nI (by omega), ← hxj]
    refine W.eq (g2 := F0 m 5 ls [.ref (wa j)]) rfl ?_
    obtain ⟨ci, ex, hvc, hob⟩ := (R7 j hj).ob
    refine lv_astore_n (lv' := [(3, .ref (wa j)), (0, .ref h0), (1, .int x), (2, .int what)]) hx hb dX7_told_5 rfl hl (by decide) rfl (fun ls hl => ?_)
    refine lv_aload_n hx hb dX7_told_6 rfl (lv_at hl 0 rfl) ?_
    refine lv_ifnonnull (tgt := 12) hx hb dX7_told_7 (by decide) ?_
    refine lv_iload_n hx hb dX7_told_12 rfl (lv_at hl 3 rfl) ?_
    by_cases k0 : what = 0
    · refine lv_tableIn (off := 39) (tgt := 52) hx hb dX7_told_13 (by rw [k0]; decide) (by rw [k0]; decide) (by rw [k0]; decide) (by decide) ?_
      refine lv_aload_n hx hb dX7_told_52 rfl (lv_at hl 0 rfl) ?_
      refine w_get (x := wx σ te pn j) hx hb hts hiX1 hiX2 hiX4 hiX6 hown hK hob hvc 1 (by decide) rfl rfl rfl rfl (hts (.fieldLink RX7 113 "HouseWorkers$Work" "kind" "I") (by decide +kernel)) (fun _ => rfl) dX7_told_53 ?_
      refine W.eq (g2 := F0 m 56 ls [.int (σ 4 j)]) rfl ?_
      exact k_reti hx hb hr hlocks ⟨by unfold mTld; rw [if_pos ⟨hin, by rw [k0]; decide⟩, hxj, nat_nI (by omega)]; unfold tld; rw [if_pos k0], rfl⟩ hS dX7_told_56
    by_cases k1 : what = 1
    · refine lv_tableIn (off := 44) (tgt := 57) hx hb dX7_told_13 (by rw [k1]; decide) (by rw [k1]; decide) (by rw [k1]; decide) (by decide) ?_
      refine lv_aload_n hx hb dX7_told_57 rfl (lv_at hl 0 rfl) ?_
      refine w_get (x := wx σ te pn j) hx hb hts hiX1 hiX2 hiX4 hiX6 hown hK hob hvc 9 (by decide) rfl rfl rfl rfl (hts (.fieldLink RX7 117 "HouseWorkers$Work" "end" "I") (by decide +kernel)) (fun _ => rfl) dX7_told_58 ?_
      refine W.eq (g2 := F0 m 61 ls [.int (σ 12 j)]) rfl ?_
      exact k_reti hx hb hr hlocks ⟨by unfold mTld; rw [if_pos ⟨hin, by rw [k1]; decide⟩, hxj, nat_nI (by omega)]; unfold tld; rw [if_neg k0, if_pos k1], rfl⟩ hS dX7_told_61
    by_cases k2 : what = 2
    · refine lv_tableIn (off := 49) (tgt := 62) hx hb dX7_told_13 (by rw [k2]; decide) (by rw [k2]; decide) (by rw [k2]; decide) (by decide) ?_
      refine lv_aload_n hx hb dX7_told_62 rfl (lv_at hl 0 rfl) ?_
      refine w_get (x := wx σ te pn j) hx hb hts hiX1 hiX2 hiX4 hiX6 hown hK hob hvc 4 (by decide) rfl rfl rfl rfl (hts (.fieldLink RX7 120 "HouseWorkers$Work" "stepsDone" "I") (by decide +kernel)) (fun _ => rfl) dX7_told_63 ?_
      refine W.eq (g2 := F0 m 66 ls [.int (σ 9 j)]) rfl ?_
      exact k_reti hx hb hr hlocks ⟨by unfold mTld; rw [if_pos ⟨hin, by rw [k2]; decide⟩, hxj, nat_nI (by omega)]; unfold tld; rw [if_neg k0, if_neg k1, if_pos k2], rfl⟩ hS dX7_told_66
    by_cases k3 : what = 3
    · refine lv_tableIn (off := 54) (tgt := 67) hx hb dX7_told_13 (by rw [k3]; decide) (by rw [k3]; decide) (by rw [k3]; decide) (by decide) ?_
      refine lv_aload_n hx hb dX7_told_67 rfl (lv_at hl 0 rfl) ?_
      refine w_get (x := wx σ te pn j) hx hb hts hiX1 hiX2 hiX4 hiX6 hown hK hob hvc 5 (by decide) rfl rfl rfl rfl (hts (.fieldLink RX7 123 "HouseWorkers$Work" "answer" "I") (by decide +kernel)) (fun _ => rfl) dX7_told_68 ?_
      refine W.eq (g2 := F0 m 71 ls [.int (σ 10 j)]) rfl ?_
      exact k_reti hx hb hr hlocks ⟨by unfold mTld; rw [if_pos ⟨hin, by rw [k3]; decide⟩, hxj, nat_nI (by omega)]; unfold tld; rw [if_neg k0, if_neg k1, if_neg k2, if_pos k3], rfl⟩ hS dX7_told_71
    by_cases k4 : what = 4
    · refine lv_tableIn (off := 59) (tgt := 72) hx hb dX7_told_13 (by rw [k4]; decide) (by rw [k4]; decide) (by rw [k4]; decide) (by decide) ?_
      refine lv_aload_n hx hb dX7_told_72 rfl (lv_at hl 0 rfl) ?_
      refine w_get (x := wx σ te pn j) hx hb hts hiX1 hiX2 hiX4 hiX6 hown hK hob hvc 6 (by decide) rfl rfl rfl rfl (hts (.fieldLink RX7 126 "HouseWorkers$Work" "version" "I") (by decide +kernel)) (fun _ => rfl) dX7_told_73 ?_
      refine W.eq (g2 := F0 m 76 ls [.int (hvr σ j)]) rfl ?_
      exact k_reti hx hb hr hlocks ⟨by unfold mTld; rw [if_pos ⟨hin, by rw [k4]; decide⟩, hxj, nat_nI (by omega)]; unfold tld; rw [if_neg k0, if_neg k1, if_neg k2, if_neg k3, if_pos k4]; rfl, rfl⟩ hS dX7_told_76
    by_cases k5 : what = 5
    · refine lv_tableIn (off := 64) (tgt := 77) hx hb dX7_told_13 (by rw [k5]; decide) (by rw [k5]; decide) (by rw [k5]; decide) (by decide) ?_
      refine lv_aload_n hx hb dX7_told_77 rfl (lv_at hl 1 rfl) ?_
      refine lv_aload_n hx hb dX7_told_78 rfl (lv_at hl 0 rfl) ?_
      refine k_callpi (v := b2 (wt σ j)) (va_runV (As := [.ref (wa j)]) (rest := []) ⟨hx, hb, hml, hown, hts⟩ (c_stands l _ h0 wa σ nW nV nE j hR0 hI hj) (cwV 1 hts gX7_told_X7_standsStill rfl rfl rfl (by decide +kernel) ⟨Nat.le_of_ble_eq_true rfl, Nat.le_of_ble_eq_true rfl⟩) (k_preV hK (k_recv hK.1 R1 rfl)) rfl rfl hl.1 rfl (lv_room (Nat.le_of_ble_eq_true rfl)) dX7_told_79 ⟨(Nat.zero_le _), (Nat.zero_le _)⟩) hS (fun locs hS => ?_)
      refine lv_if_eq (tgt := 89) hx hb dX7_told_82 (by decide) (fun c82 => ?_) (fun c82 => ?_)
      · refine lv_iconst (v := 0) hx hb dX7_told_89 (by decide) ?_
        exact k_reti hx hb hr hlocks ⟨by unfold mTld; rw [if_pos ⟨hin, by rw [k5]; decide⟩, hxj, nat_nI (by omega)]; unfold tld; rw [if_neg k0, if_neg k1, if_neg k2, if_neg k3, if_neg k4]; exact (b2_f (b2_0 c82)).symm, rfl⟩ hS dX7_told_90
      · refine lv_iconst (v := 1) hx hb dX7_told_85 (by decide) ?_
        refine lv_goto (tgt := 90) hx hb dX7_told_86 (by decide) ?_
        exact k_reti hx hb hr hlocks ⟨by unfold mTld; rw [if_pos ⟨hin, by rw [k5]; decide⟩, hxj, nat_nI (by omega)]; unfold tld; rw [if_neg k0, if_neg k1, if_neg k2, if_neg k3, if_neg k4]; exact (b2_t (b2_n c82)).symm, rfl⟩ hS dX7_told_90
    refine lv_tableOut (tgt := 91) hx hb dX7_told_13 (tb5 k0 k1 k2 k3 k4 k5) (by decide) ?_
    refine lv_iconst (v := -1) hx hb dX7_told_91 (by decide) ?_
    exact k_reti hx hb hr hlocks ⟨by unfold mTld; rw [if_neg (fun q => by obtain ⟨z, hz, e⟩ := inB_c (n := 5) rfl rfl (by decide) q.2; subst e; rcases (show z = 0 ∨ z = 1 ∨ z = 2 ∨ z = 3 ∨ z = 4 ∨ z = 5 by omega) with h | h | h | h | h | h <;> subst h; (exact k0 rfl); (exact k1 rfl); (exact k2 rfl); (exact k3 rfl); (exact k4 rfl); exact k5 rfl)], rfl⟩ hS dX7_told_92
  · rw [if_neg hin]
    refine W.eq (g2 := F0 m 5 ls [.null]) rfl ?_
    refine lv_astore_nN (lv' := [(3, .null), (0, .ref h0), (1, .int x), (2, .int what)]) hx hb dX7_told_5 rfl hl (by decide) rfl (fun ls hl => ?_)
    refine lv_aload_nN hx hb dX7_told_6 rfl (lv_at hl 0 rfl) ?_
    refine lv_ifnonnullN hx hb dX7_told_7 ?_
    refine lv_iconst (v := -1) hx hb dX7_told_10 (by decide) ?_
    exact k_reti hx hb hr hlocks ⟨by unfold mTld; rw [if_neg (fun q => hin q.1)], rfl⟩ hS dX7_told_11
set_option maxHeartbeats 4000000 in
set_option maxRecDepth 100000 in
theorem c_ended (l : Launch) {D : va_G} {cI cZ cO : ClassId} {mi : Nat} (H : Heap) {eA : Nat} {B : Nat → Prop} (h0 : Nat) (wa : Nat → Nat) (σ : Sg) (nW nV nE : Nat) (x what : Int32) (hR : HR D cI cO eA B h0 wa σ nW nV nE H) (hI : Inv σ nW nV nE) : Met l yX7_ended wsX7_ended ({ frames := 3, cells := 0, slots := 0, locals := 64 }) (Pk D cI cZ cO mi [.ref h0, .int x, .int what] H) (Qpi H (mEnd σ x what)) 0 0 (fun _ => False) := by
  refine Met.ofW (cc := cX7_ended) (maxL := 4) (ret := (some .int)) (by decide) rfl ?_
  intro p e s m args below meth c s₁ Bd hml hv
  obtain ⟨rfl, rfl, hK⟩ := hv
  have hx := Bd.exec
  have hb := Bd.bytes
  have hr := Bd.returns
  have hts := atoms_spec (ws := wsX7_ended) Bd.pre
  have hown : s.vm.findClass RX7 = some m.cls := findClass_of_methodNamed Bd.named
  have hlocks := Bd.notSynchronized
  have hS : va_S (fun _ => False) s.heap s.heap [] := va_S.rf
  have hl := lv_entry ([.ref h0, .int x, .int what]) (n := 4) (Nat.le_of_ble_eq_true rfl)
  rw [lg_entry_eq]
  generalize (lg_sl ([.ref h0, .int x, .int what]) ++ List.replicate (4 - (lg_sl ([.ref h0, .int x, .int what])).length) Slot.unset).toArray = ls at hl ⊢
  have hl : lv_has ls 4 [(0, .ref h0), (1, .int x), (2, .int what)] := hl
  have hiX7 : ∀ w ∈ wsX70, w ∈ wsX7_ended := by decide +kernel
  obtain ⟨hs, hc, hw, he, ec, ew, ee, pc, pw, pe, gc, gw, ge, va, da, ra, te, pn, rl, R1, R2, ⟨R3, R3g⟩, ⟨R4, R4g⟩, ⟨R5, R5g⟩, R6, R7, R8, R9, RT, RB, RN, RL, R12, R13⟩ := hR
  have hn30 := hI.n30
  have heW := hI.eW
  have hvE := hI.2.2.2.2.2.1
  have hv1 := hI.2.2.2.2.1
  obtain ⟨⟨me, heo⟩, hem⟩ := id R5
  have hiX1 : ∀ w ∈ wsX10, w ∈ wsX7_ended := by decide +kernel
  have hiX2 : ∀ w ∈ wsX20, w ∈ wsX7_ended := by decide +kernel
  have hiX4 : ∀ w ∈ wsX40, w ∈ wsX7_ended := by decide +kernel
  have hiX6 : ∀ w ∈ wsX60, w ∈ wsX7_ended := by decide +kernel
  refine lv_iload_n hx hb dX7_ended_0 rfl (lv_at hl 2 rfl) ?_
  refine lv_if_lt (tgt := 9) hx hb dX7_ended_1 (by decide) (fun c1 => ?_) (fun c1 => ?_)
  · refine lv_iconst (v := -1) hx hb dX7_ended_9 (by decide) ?_
    exact k_reti hx hb hr hlocks ⟨by unfold mEnd; rw [if_neg (by unfold inB; simp [c1])], rfl⟩ hS dX7_ended_10
  · refine lv_iload_n hx hb dX7_ended_4 rfl (lv_at hl 2 rfl) ?_
    refine lv_iconst (v := 2) hx hb dX7_ended_5 (by decide) ?_
    refine lv_icmp_le (tgt := 11) hx hb dX7_ended_6 (by decide) (fun c6 => ?_) (fun c6 => ?_)
    · have c6 := Int32.not_lt.mpr c6
      refine lv_iload_n hx hb dX7_ended_11 rfl (lv_at hl 1 rfl) ?_
      refine lv_if_lt (tgt := 26) hx hb dX7_ended_12 (by decide) (fun c12 => ?_) (fun c12 => ?_)
      · refine lv_bipush (v := -2) hx hb dX7_ended_26 (by decide) ?_
        exact k_reti hx hb hr hlocks ⟨by unfold mEnd; rw [if_pos (show inB what 0 2 = true by unfold inB; simp [c1, c6]), if_neg (by unfold inB; simp [c12])], rfl⟩ hS dX7_ended_28
      · refine lv_iload_n hx hb dX7_ended_15 rfl (lv_at hl 1 rfl) ?_
        refine lv_aload_n hx hb dX7_ended_16 rfl (lv_at hl 0 rfl) ?_
        refine k_get (C := RX7) (T := TX7) (N := 6) (v := .ref he) hx hb hts hiX7 hown hK.1 R1 rfl 2 (by decide) (hts (.fieldLink RX7 23 "HouseWorkers" "ends" "Ljava/util/ArrayList;") (by decide +kernel)) (fun _ h9 => h9) rfl dX7_ended_17 ?_
        refine k_callpi (v := nI nE) (va_runV (As := []) (rest := [.int x]) ⟨hx, hb, hml, hown, hts⟩ (c_AL_size l _ he ee nE me heo) (cwV 0 hts gX7_ended_Jx4a65c_size_8abf5 rfl rfl rfl (by decide +kernel) ⟨Nat.le_of_ble_eq_true rfl, Nat.le_of_ble_eq_true rfl⟩) (k_preV hK (k_recv hK.1 heo rfl)) rfl rfl hl.1 rfl (lv_room (Nat.le_of_ble_eq_true rfl)) dX7_ended_20 ⟨(Nat.zero_le _), (Nat.zero_le _)⟩) hS (fun locs hS => ?_)
        refine lv_icmp_lt (tgt := 29) hx hb dX7_ended_23 (by decide) (fun c23 => ?_) (fun c23 => ?_)
        · refine lv_aload_n hx hb dX7_ended_29 rfl (lv_at hl 0 rfl) ?_
          refine k_get (C := RX7) (T := TX7) (N := 6) (v := .ref he) hx hb hts hiX7 hown hK.1 R1 rfl 2 (by decide) (hts (.fieldLink RX7 23 "HouseWorkers" "ends" "Ljava/util/ArrayList;") (by decide +kernel)) (fun _ h9 => h9) rfl dX7_ended_30 ?_
          refine lv_iload_n hx hb dX7_ended_33 rfl (lv_at hl 1 rfl) ?_
          obtain ⟨j, hjb, hxj⟩ := nI_of c12
          subst hxj
          have hjE : j < nE := (nI_ltI hjb (by omega)).mp c23
          have hin : inB (nI j) 0 (σ 16 0 - 1) = true := by rw [hI.2.2.1]; exact inB_not hjE (by omega)
          obtain ⟨u, huW, hu17, hu18, hu12⟩ := hI.2.2.2.2.2.2.2.2.2.2.2 j hjE
          have hun : nat (σ 17 j) = u := by rw [hu17]; exact nat_nI (by omega)
          obtain ⟨hnp, hnc, hcs, har, -⟩ : 0 < nE ∧ nE ≤ pe ∧ (pe = 10 ∨ pe = 15 ∨ pe = 22 ∨ pe = 33) ∧ Ar D cO ee pe ge s.heap ∧ ∀ i, nE ≤ i → ge i = none := hem.elim (fun q => absurd hjE (by omega)) id
          refine k_callpq (v := ge j) (va_runV (As := [.int (nI j)]) (rest := []) ⟨hx, hb, hml, hown, hts⟩ (c_AL_get l _ he ee nE pe j me ge heo har hjE hnc (by omega)) (cwV 1 hts gX7_ended_Jx4a65c_get_915e3 rfl rfl rfl (by decide +kernel) ⟨Nat.le_of_ble_eq_true rfl, Nat.le_of_ble_eq_true rfl⟩) (k_preV hK (k_recv hK.1 heo rfl)) rfl rfl hl.1 rfl (lv_room (Nat.le_of_ble_eq_true rfl)) dX7_ended_34 ⟨(Nat.zero_le _), (Nat.zero_le _)⟩) hS (fun locs hS => ?_)
          rw [R5g j hjE, hun]
          refine W.eq (g2 := F0 m 37 ls [.ref (wa u)]) rfl ?_
          obtain ⟨ci, ex, hvc, hob⟩ := (R7 u huW).ob
          refine w_recv hK hob hvc hown hx hb (hts (.classLink RX7 91 "HouseWorkers$Work") (by decide +kernel)) dX7_ended_37 ?_
          refine lv_astore_n (lv' := [(3, .ref (wa u)), (0, .ref h0), (1, .int (nI j)), (2, .int what)]) hx hb dX7_ended_40 rfl hl (by decide) rfl (fun ls hl => ?_)
          refine lv_iload_n hx hb dX7_ended_41 rfl (lv_at hl 3 rfl) ?_
          refine lv_if_ne (tgt := 50) hx hb dX7_ended_42 (by decide) (fun c42 => ?_) (fun c42 => ?_)
          · refine lv_iload_n hx hb dX7_ended_50 rfl (lv_at hl 3 rfl) ?_
            refine lv_iconst (v := 1) hx hb dX7_ended_51 (by decide) ?_
            refine lv_icmp_ne (tgt := 62) hx hb dX7_ended_52 (by decide) (fun c52 => ?_) (fun c52 => ?_)
            · refine lv_aload_n hx hb dX7_ended_62 rfl (lv_at hl 0 rfl) ?_
              refine w_get (x := wx σ te pn u) hx hb hts hiX1 hiX2 hiX4 hiX6 hown hK hob hvc 10 (by decide) rfl rfl rfl rfl (hts (.fieldLink RX7 136 "HouseWorkers$Work" "turnsAtEnd" "I") (by decide +kernel)) (fun _ => rfl) dX7_ended_63 ?_
              refine W.eq (g2 := F0 m 66 ls [.int (te u)]) rfl ?_
              exact k_reti hx hb hr hlocks ⟨by unfold mEnd; rw [if_pos (show inB what 0 2 = true by unfold inB; simp [c1, c6]), if_pos hin, nat_nI (by omega), if_neg c42, if_neg c52, R12 j hjE, hun], rfl⟩ hS dX7_ended_66
            · refine lv_aload_n hx hb dX7_ended_55 rfl (lv_at hl 0 rfl) ?_
              refine w_get (x := wx σ te pn u) hx hb hts hiX1 hiX2 hiX4 hiX6 hown hK hob hvc 9 (by decide) rfl rfl rfl rfl (hts (.fieldLink RX7 117 "HouseWorkers$Work" "end" "I") (by decide +kernel)) (fun _ => rfl) dX7_ended_56 ?_
              refine W.eq (g2 := F0 m 59 ls [.int (σ 12 u)]) rfl ?_
              refine lv_goto (tgt := 66) hx hb dX7_ended_59 (by decide) ?_
              exact k_reti hx hb hr hlocks ⟨by unfold mEnd; rw [if_pos (show inB what 0 2 = true by unfold inB; simp [c1, c6]), if_pos hin, nat_nI (by omega), if_neg c42, if_pos c52, hu18], rfl⟩ hS dX7_ended_66
          · refine lv_aload_n hx hb dX7_ended_45 rfl (lv_at hl 0 rfl) ?_
            refine w_get (x := wx σ te pn u) hx hb hts hiX1 hiX2 hiX4 hiX6 hown hK hob hvc 0 (by decide) rfl rfl rfl rfl (hts (.fieldLink RX7 133 "HouseWorkers$Work" "number" "I") (by decide +kernel)) (fun _ => rfl) dX7_ended_46 ?_
            refine W.eq (g2 := F0 m 49 ls [.int (nI u)]) rfl ?_
            exact k_reti hx hb hr hlocks ⟨by unfold mEnd; rw [if_pos (show inB what 0 2 = true by unfold inB; simp [c1, c6]), if_pos hin, nat_nI (by omega), if_pos c42, hu17], rfl⟩ hS dX7_ended_49
        · refine lv_bipush (v := -2) hx hb dX7_ended_26 (by decide) ?_
          exact k_reti hx hb hr hlocks ⟨by unfold mEnd; rw [if_pos (show inB what 0 2 = true by unfold inB; simp [c1, c6]), if_neg (fun q => by rw [hI.2.2.1] at q; obtain ⟨z, hz, e⟩ := inB_idx (by omega) q; exact c23 (by rw [e]; exact nI_lt hz (by omega)))], rfl⟩ hS dX7_ended_28
    · have c6 := Int32.not_le.mp c6
      refine lv_iconst (v := -1) hx hb dX7_ended_9 (by decide) ?_
      exact k_reti hx hb hr hlocks ⟨by unfold mEnd; rw [if_neg (by unfold inB; simp [c6])], rfl⟩ hS dX7_ended_10
set_option maxHeartbeats 4000000 in
set_option maxRecDepth 100000 in
theorem c_cell (l : Launch) {D : va_G} {cI cZ cO : ClassId} {mi : Nat} (H : Heap) {eA : Nat} {B : Nat → Prop} (h0 : Nat) (wa : Nat → Nat) (σ : Sg) (nW nV nE : Nat) (v cl : Int32) (hR : HR D cI cO eA B h0 wa σ nW nV nE H) (hI : Inv σ nW nV nE) : Met l yX7_cell wsX7_cell ({ frames := 5, cells := 0, slots := 0, locals := 108 }) (Pk D cI cZ cO mi [.ref h0, .int v, .int cl] H) (Qpi H (mCel σ nW v cl)) 0 0 (fun _ => False) := by
  refine Met.ofW (cc := cX7_cell) (maxL := 4) (ret := (some .int)) (by decide) rfl ?_
  intro p e s m args below meth c s₁ Bd hml hv
  obtain ⟨rfl, rfl, hK⟩ := hv
  have hx := Bd.exec
  have hb := Bd.bytes
  have hr := Bd.returns
  have hts := atoms_spec (ws := wsX7_cell) Bd.pre
  have hown : s.vm.findClass RX7 = some m.cls := findClass_of_methodNamed Bd.named
  have hlocks := Bd.notSynchronized
  have hS : va_S (fun _ => False) s.heap s.heap [] := va_S.rf
  have hl := lv_entry ([.ref h0, .int v, .int cl]) (n := 4) (Nat.le_of_ble_eq_true rfl)
  rw [lg_entry_eq]
  generalize (lg_sl ([.ref h0, .int v, .int cl]) ++ List.replicate (4 - (lg_sl ([.ref h0, .int v, .int cl])).length) Slot.unset).toArray = ls at hl ⊢
  have hl : lv_has ls 4 [(0, .ref h0), (1, .int v), (2, .int cl)] := hl
  have hiX7 : ∀ w ∈ wsX70, w ∈ wsX7_cell := by decide +kernel
  have hR0 := hR
  obtain ⟨hs, hc, hw, he, ec, ew, ee, pc, pw, pe, gc, gw, ge, va, da, ra, te, pn, rl, R1, R2, ⟨R3, R3g⟩, ⟨R4, R4g⟩, ⟨R5, R5g⟩, R6, R7, R8, R9, RT, RB, RN, RL, R12, R13⟩ := hR
  have hn30 := hI.n30
  have heW := hI.eW
  have hvE := hI.2.2.2.2.2.1
  have hv1 := hI.2.2.2.2.1
  obtain ⟨⟨mcv, hco⟩, hcm⟩ := id R3
  refine lv_aload_n hx hb dX7_cell_0 rfl (lv_at hl 0 rfl) ?_
  refine k_get (C := RX7) (T := TX7) (N := 6) (v := .ref hs) hx hb hts hiX7 hown hK.1 R1 rfl 0 (by decide) (hts (.fieldLink RX7 12 "HouseWorkers" "store" "LHouseWorkers$Store;") (by decide +kernel)) (fun _ h9 => h9) rfl dX7_cell_1 ?_
  refine lv_iload_n hx hb dX7_cell_4 rfl (lv_at hl 1 rfl) ?_
  refine k_callpq (va_runV (As := [.int v]) (rest := []) ⟨hx, hb, hml, hown, hts⟩ (c_X3_find l _ hs (va 0) hc (va (nV - 1)) ec (nV - 1) pc gc v R2 R3 (fun i hi => ⟨_, R3g i hi, _, (R6 (i + 1) (by omega)).1⟩) (by omega)) (cwV 1 hts gX7_cell_X3_find rfl rfl rfl (by decide +kernel) ⟨Nat.le_of_ble_eq_true rfl, Nat.le_of_ble_eq_true rfl⟩) (k_preV hK (k_recv hK.1 R2 rfl)) rfl rfl hl.1 rfl (lv_room (Nat.le_of_ble_eq_true rfl)) dX7_cell_5 ⟨(Nat.zero_le _), (Nat.zero_le _)⟩) hS (fun locs hS => ?_)
  rw [fnd_eq hv1 (by omega) R3g]
  by_cases hin : inB v 0 (nI nV - 1) = true
  · rw [if_pos hin]
    obtain ⟨j, hj, hxj⟩ := inB_idx (by omega) hin
    rw [hxj, nat_nI (by omega), ← hxj]
    refine W.eq (g2 := F0 m 8 ls [.ref (va j)]) rfl ?_
    refine lv_astore_n (lv' := [(3, .ref (va j)), (0, .ref h0), (1, .int v), (2, .int cl)]) hx hb dX7_cell_8 rfl hl (by decide) rfl (fun ls hl => ?_)
    refine lv_aload_n hx hb dX7_cell_9 rfl (lv_at hl 0 rfl) ?_
    refine lv_ifnull hx hb dX7_cell_10 ?_
    refine lv_iload_n hx hb dX7_cell_13 rfl (lv_at hl 3 rfl) ?_
    refine k_callpi (v := b2 (inB cl 0 15)) (va_runS (As := [.int cl]) (rest := []) ⟨hx, hb, hml, hown, hts⟩ (c_isCell l _ cl) (va_cwS 1 hts gX7_cell_X7_isCell rfl rfl rfl (by decide +kernel) ⟨Nat.le_of_ble_eq_true rfl, Nat.le_of_ble_eq_true rfl⟩) (k_preS hK) rfl rfl hl.1 rfl (lv_room (Nat.le_of_ble_eq_true rfl)) dX7_cell_14 ⟨(Nat.zero_le _), (Nat.zero_le _)⟩) hS (fun locs hS => ?_)
    refine lv_if_ne (tgt := 22) hx hb dX7_cell_17 (by decide) (fun c17 => ?_) (fun c17 => ?_)
    · have b17 := b2_n c17
      refine lv_aload_n hx hb dX7_cell_22 rfl (lv_at hl 1 rfl) ?_
      refine lv_iload_n hx hb dX7_cell_23 rfl (lv_at hl 2 rfl) ?_
      have hck := c_isKept (cZ := cZ) (mi := mi) l s.heap h0 wa σ nW nV nE j hR0 hI (by omega)
      rw [← hxj] at hck
      refine k_callpi (v := b2 (kept σ v nW)) (va_runV (As := [.int v]) (rest := []) ⟨hx, hb, hml, hown, hts⟩ (hck) (cwV 1 hts gX7_cell_X7_isKept rfl rfl rfl (by decide +kernel) ⟨Nat.le_of_ble_eq_true rfl, Nat.le_of_ble_eq_true rfl⟩) (k_preV hK (k_recv hK.1 R1 rfl)) rfl rfl hl.1 rfl (lv_room (Nat.le_of_ble_eq_true rfl)) dX7_cell_24 ⟨(Nat.zero_le _), (Nat.zero_le _)⟩) hS (fun locs hS => ?_)
      refine lv_if_ne (tgt := 33) hx hb dX7_cell_27 (by decide) (fun c27 => ?_) (fun c27 => ?_)
      · have b27 := b2_n c27
        refine lv_aload_n hx hb dX7_cell_33 rfl (lv_at hl 0 rfl) ?_
        refine lv_iload_n hx hb dX7_cell_34 rfl (lv_at hl 3 rfl) ?_
        refine k_callpi (v := σ 0 (16 * j + ix cl)) (va_runV (As := [.int cl]) (rest := []) ⟨hx, hb, hml, hown, hts⟩ (c_X0_at l _ (va j) (ra (va j)) (fun c => σ 0 (16 * j + c)) cl (R6 j hj).1 (R6 j hj).2) (cwV 1 hts gX7_cell_X0_at rfl rfl rfl (by decide +kernel) ⟨Nat.le_of_ble_eq_true rfl, Nat.le_of_ble_eq_true rfl⟩) (k_preV hK (k_recv hK.1 (R6 j hj).1 rfl)) rfl rfl hl.1 rfl (lv_room (Nat.le_of_ble_eq_true rfl)) dX7_cell_35 ⟨(Nat.zero_le _), (Nat.zero_le _)⟩) hS (fun locs hS => ?_)
        exact k_reti hx hb hr hlocks ⟨by unfold mCel; rw [hI.2.1, if_pos ⟨b17, hin⟩, if_pos b27, hxj, nat_nI (by omega)]; obtain ⟨z, hz, e⟩ := inB_c (n := 15) rfl rfl (by decide) b17; rw [e, ix_nI (by omega), nat_nI (by omega), Nat.mod_eq_of_lt (by omega)], rfl⟩ hS dX7_cell_38
      · have b27 := b2_0 c27
        refine lv_bipush (v := -2) hx hb dX7_cell_30 (by decide) ?_
        exact k_reti hx hb hr hlocks ⟨by unfold mCel; rw [hI.2.1, if_pos ⟨b17, hin⟩, if_neg (by rw [b27]; decide)], rfl⟩ hS dX7_cell_32
    · have b17 := b2_0 c17
      refine lv_iconst (v := -1) hx hb dX7_cell_20 (by decide) ?_
      exact k_reti hx hb hr hlocks ⟨by unfold mCel; rw [if_neg (fun q => absurd (q.1.symm.trans b17) (by decide))], rfl⟩ hS dX7_cell_21
  · rw [if_neg hin]
    refine W.eq (g2 := F0 m 8 ls [.null]) rfl ?_
    refine lv_astore_nN (lv' := [(3, .null), (0, .ref h0), (1, .int v), (2, .int cl)]) hx hb dX7_cell_8 rfl hl (by decide) rfl (fun ls hl => ?_)
    refine lv_aload_nN hx hb dX7_cell_9 rfl (lv_at hl 0 rfl) ?_
    refine lv_ifnullN (tgt := 20) hx hb dX7_cell_10 (by decide) ?_
    refine lv_iconst (v := -1) hx hb dX7_cell_20 (by decide) ?_
    exact k_reti hx hb hr hlocks ⟨by unfold mCel; rw [hI.2.1, if_neg (fun q => hin q.2)], rfl⟩ hS dX7_cell_21
