set_option maxHeartbeats 4000000 in
set_option maxRecDepth 100000 in
theorem c_goOn_X1 (l : Launch) {D : va_G} {cI cZ cO : ClassId} {mi : Nat} (H : Heap) (a : Nat) (x : Nat → Int32) (fi : Int32) (rd : Nat) (hs r : Nat) (f : Nat → Int32) (ho : Ob D a 2 (WFs x [.int fi, .ref rd]) H) (hrd : Ob D rd 1 [.ref r] H) (hrw : Ai D cI r 16 f H) : Met l yX1_goOn wsX1_goOn ({ frames := 1, cells := 0, slots := 0, locals := 21 }) (Pk D cI cZ cO mi [.ref a, .ref hs] H) (Qki (fun rr H1 => rr = (if x 4 + 1 < x 2 then 1 else 2) ∧ Ob D a 2 (WFs (upd (upd x 5 (31 * x 5 + f (ix (fi + x 4)))) 4 (x 4 + 1)) [.int fi, .ref rd]) H1) (fun q => q = a)) 0 0 (fun q => q = a) := by
  refine Met.ofW (cc := cX1_goOn) (maxL := 2) (ret := (some .int)) (by decide) rfl ?_
  intro p e s m args below meth c s₁ Bd hml hv
  obtain ⟨rfl, rfl, hK⟩ := hv
  have hx := Bd.exec
  have hb := Bd.bytes
  have hr := Bd.returns
  have hts := atoms_spec (ws := wsX1_goOn) Bd.pre
  have hown : s.vm.findClass RX1 = some m.cls := findClass_of_methodNamed Bd.named
  have hlocks := Bd.notSynchronized
  have hS : va_S (fun q => q = a) s.heap s.heap [] := va_S.rf
  have hl := lv_entry ([.ref a, .ref hs]) (n := 2) (Nat.le_of_ble_eq_true rfl)
  rw [lg_entry_eq]
  generalize (lg_sl ([.ref a, .ref hs]) ++ List.replicate (2 - (lg_sl ([.ref a, .ref hs])).length) Slot.unset).toArray = ls at hl ⊢
  have hl : lv_has ls 2 [(0, .ref a), (1, .ref hs)] := hl
  have hiX1 : ∀ w ∈ wsX10, w ∈ wsX1_goOn := by decide +kernel
  refine lv_aload_n hx hb dX1_goOn_0 rfl (lv_at hl 0 rfl) ?_
  refine lv_bipush (v := 31) hx hb dX1_goOn_1 (by decide) ?_
  refine lv_aload_n hx hb dX1_goOn_3 rfl (lv_at hl 0 rfl) ?_
  refine k_get (C := RX1) (T := TX1) (N := 13) (v := .int (x 5)) hx hb hts hiX1 hown hK.1 ho rfl 5 (by decide) (hts (.fieldLink RX1 35 "HouseWorkers$QuestionWork" "answer" "I") (by decide +kernel)) (fun x9 h9 => u_same (hts (.sameField "HouseWorkers$QuestionWork" "HouseWorkers$Work" "answer" "I") (by decide +kernel)) x9 h9) rfl dX1_goOn_4 ?_
  refine lv_imul hx hb dX1_goOn_7 ?_
  refine lv_aload_n hx hb dX1_goOn_8 rfl (lv_at hl 0 rfl) ?_
  refine k_get (C := RX1) (T := TX1) (N := 13) (v := .ref rd) hx hb hts hiX1 hown hK.1 ho rfl 12 (by decide) (hts (.fieldLink RX1 21 "HouseWorkers$QuestionWork" "read" "LHouseWorkers$Cells;") (by decide +kernel)) (fun _ h9 => h9) rfl dX1_goOn_9 ?_
  refine lv_aload_n hx hb dX1_goOn_12 rfl (lv_at hl 0 rfl) ?_
  refine k_get (C := RX1) (T := TX1) (N := 13) (v := .int fi) hx hb hts hiX1 hown hK.1 ho rfl 11 (by decide) (hts (.fieldLink RX1 9 "HouseWorkers$QuestionWork" "first" "I") (by decide +kernel)) (fun _ h9 => h9) rfl dX1_goOn_13 ?_
  refine lv_aload_n hx hb dX1_goOn_16 rfl (lv_at hl 0 rfl) ?_
  refine k_get (C := RX1) (T := TX1) (N := 13) (v := .int (x 4)) hx hb hts hiX1 hown hK.1 ho rfl 4 (by decide) (hts (.fieldLink RX1 38 "HouseWorkers$QuestionWork" "stepsDone" "I") (by decide +kernel)) (fun x9 h9 => u_same (hts (.sameField "HouseWorkers$QuestionWork" "HouseWorkers$Work" "stepsDone" "I") (by decide +kernel)) x9 h9) rfl dX1_goOn_17 ?_
  refine lv_iadd hx hb dX1_goOn_20 ?_
  refine k_callpi (v := f (ix (fi + x 4))) (va_runV (As := [.int (fi + (x 4))]) (rest := [.int (31 * (x 5)), .ref a]) ⟨hx, hb, hml, hown, hts⟩ (c_X0_at l _ rd r f (fi + x 4) hrd hrw) (cwV 1 hts gX1_goOn_X0_at rfl rfl rfl (by decide +kernel) ⟨Nat.le_of_ble_eq_true rfl, Nat.le_of_ble_eq_true rfl⟩) (k_preV hK (k_recv hK.1 hrd rfl)) rfl rfl hl.1 rfl (lv_room (Nat.le_of_ble_eq_true rfl)) dX1_goOn_21 ⟨(Nat.zero_le _), (Nat.zero_le _)⟩) hS (fun locs hS => ?_)
  refine lv_iadd hx hb dX1_goOn_24 ?_
  refine k_put (A := (fun q => q = a)) (C := RX1) (T := TX1) (N := 13) (ty := .int) (v := .int ((31 * (x 5)) + (f (ix (fi + x 4))))) hx hb hts hiX1 tyX1 tyX1_ok nmX1 hown hK.1 ho rfl hS rfl 5 (by decide) (hts (.fieldLink RX1 35 "HouseWorkers$QuestionWork" "answer" "I") (by decide +kernel)) (fun x9 h9 => u_same (hts (.sameField "HouseWorkers$QuestionWork" "HouseWorkers$Work" "answer" "I") (by decide +kernel)) x9 h9) rfl (by decide +kernel) rfl rfl (Nat.le_of_ble_eq_true rfl) dX1_goOn_25 (fun H1 locs hO2 hz3 hq4 hS => ?_)
  refine lv_aload_n hx hb dX1_goOn_28 rfl (lv_at hl 0 rfl) ?_
  refine lv_dup hx hb dX1_goOn_29 rfl ?_
  refine k_get (C := RX1) (T := TX1) (N := 13) (v := .int (x 4)) hx hb hts hiX1 hown hK.1 hO2 rfl 4 (by decide) (hts (.fieldLink RX1 38 "HouseWorkers$QuestionWork" "stepsDone" "I") (by decide +kernel)) (fun x9 h9 => u_same (hts (.sameField "HouseWorkers$QuestionWork" "HouseWorkers$Work" "stepsDone" "I") (by decide +kernel)) x9 h9) rfl dX1_goOn_30 ?_
  refine lv_iconst (v := 1) hx hb dX1_goOn_33 (by decide) ?_
  refine lv_iadd hx hb dX1_goOn_34 ?_
  refine k_put (A := (fun q => q = a)) (C := RX1) (T := TX1) (N := 13) (ty := .int) (v := .int ((x 4) + 1)) hx hb hts hiX1 tyX1 tyX1_ok nmX1 hown hK.1 hO2 rfl hS rfl 4 (by decide) (hts (.fieldLink RX1 38 "HouseWorkers$QuestionWork" "stepsDone" "I") (by decide +kernel)) (fun x9 h9 => u_same (hts (.sameField "HouseWorkers$QuestionWork" "HouseWorkers$Work" "stepsDone" "I") (by decide +kernel)) x9 h9) rfl (by decide +kernel) rfl rfl (Nat.le_of_ble_eq_true rfl) dX1_goOn_35 (fun H5 locs hO6 hz7 hq8 hS => ?_)
  refine lv_aload_n hx hb dX1_goOn_38 rfl (lv_at hl 0 rfl) ?_
  have hOx : Ob D a 2 (WFs (upd (upd x 5 (31 * x 5 + f (ix (fi + x 4)))) 4 (x 4 + 1)) [.int fi, .ref rd]) H5 := hO6
  refine k_callpi (v := b2 (decide (¬ (upd (upd x 5 (31 * x 5 + f (ix (fi + x 4)))) 4 (x 4 + 1)) 4 < (upd (upd x 5 (31 * x 5 + f (ix (fi + x 4)))) 4 (x 4 + 1)) 2))) (va_runU (As := []) (rest := []) ⟨hx, hb, hml, hown, hts⟩ (c_doneAll_X1 l _ a (upd (upd x 5 (31 * x 5 + f (ix (fi + x 4)))) 4 (x 4 + 1)) fi rd hOx) (va_cwU 0 hts gX1_goOn_X5_hasDoneAllSteps_u47X1 rfl rfl rfl rfl (by decide +kernel) ⟨Nat.le_of_ble_eq_true rfl, Nat.le_of_ble_eq_true rfl⟩) (k_preV hK (k_recv hK.1 hOx rfl)) rfl rfl hl.1 rfl (lv_room (Nat.le_of_ble_eq_true rfl)) dX1_goOn_39 ⟨(Nat.zero_le _), (Nat.zero_le _)⟩) hS (fun locs hS => ?_)
  refine lv_if_eq (tgt := 49) hx hb dX1_goOn_42 (by decide) (fun c42 => ?_) (fun c42 => ?_)
  · have c42 : x 4 + 1 < x 2 := Decidable.byContradiction (of_decide_eq_false (b2_0 c42))
    refine lv_iconst (v := 1) hx hb dX1_goOn_49 (by decide) ?_
    exact k_reti hx hb hr hlocks ⟨by rw [if_pos c42], hOx⟩ hS dX1_goOn_50
  · have c42 : ¬ x 4 + 1 < x 2 := of_decide_eq_true (b2_n c42)
    refine lv_iconst (v := 2) hx hb dX1_goOn_45 (by decide) ?_
    refine lv_goto (tgt := 50) hx hb dX1_goOn_46 (by decide) ?_
    exact k_reti hx hb hr hlocks ⟨by rw [if_neg c42], hOx⟩ hS dX1_goOn_50
set_option maxHeartbeats 4000000 in
set_option maxRecDepth 100000 in
theorem c_goOn_X4 (l : Launch) {D : va_G} {cI cZ cO : ClassId} {mi : Nat} (H : Heap) {eA : Nat} (a : Nat) (x : Nat → Int32)  (hs st0 hc lt e0 n cap y r k : Nat) (g : Nat → Option Nat) (f : Nat → Int32) (ho : Ob D a 5 (WFs x []) H) (hso : Ob D hs 4 [.ref st0, .ref hc, .ref lt] H) (hal : AL D cO eA hc e0 n cap g H) (hel : ∀ i, i < n → ∃ y, g i = some y ∧ ∃ fs, Ob D y 1 fs H) (hn : n ≤ 33) (hk : k < n) (h6 : x 6 = nI k) (hy : g k = some y) (hyo : Ob D y 1 [.ref r] H) (hrw : Ai D cI r 16 f H) : Met l yX4_goOn wsX4_goOn ({ frames := 4, cells := 0, slots := 0, locals := 85 }) (Pk D cI cZ cO mi [.ref a, .ref hs] H) (Qki (fun rr H1 => rr = 1 ∧ Ob D a 5 (WFs (upd (upd (upd x 5 (31 * x 5 + isum f 16)) 6 (x 6 + 1)) 4 (x 4 + 1)) []) H1) (fun q => q = a)) 0 0 (fun q => q = a) := by
  refine Met.ofW (cc := cX4_goOn) (maxL := 3) (ret := (some .int)) (by decide) rfl ?_
  intro p e s m args below meth c s₁ Bd hml hv
  obtain ⟨rfl, rfl, hK⟩ := hv
  have hx := Bd.exec
  have hb := Bd.bytes
  have hr := Bd.returns
  have hts := atoms_spec (ws := wsX4_goOn) Bd.pre
  have hown : s.vm.findClass RX4 = some m.cls := findClass_of_methodNamed Bd.named
  have hlocks := Bd.notSynchronized
  have hS : va_S (fun q => q = a) s.heap s.heap [] := va_S.rf
  have hl := lv_entry ([.ref a, .ref hs]) (n := 3) (Nat.le_of_ble_eq_true rfl)
  rw [lg_entry_eq]
  generalize (lg_sl ([.ref a, .ref hs]) ++ List.replicate (3 - (lg_sl ([.ref a, .ref hs])).length) Slot.unset).toArray = ls at hl ⊢
  have hl : lv_has ls 3 [(0, .ref a), (1, .ref hs)] := hl
  have hiX4 : ∀ w ∈ wsX40, w ∈ wsX4_goOn := by decide +kernel
  refine lv_aload_n hx hb dX4_goOn_0 rfl (lv_at hl 1 rfl) ?_
  refine lv_aload_n hx hb dX4_goOn_1 rfl (lv_at hl 0 rfl) ?_
  refine k_get (C := RX4) (T := TX4) (N := 11) (v := .int (x 6)) hx hb hts hiX4 hown hK.1 ho rfl 6 (by decide) (hts (.fieldLink RX4 15 "HouseWorkers$StreamWork" "version" "I") (by decide +kernel)) (fun x9 h9 => u_same (hts (.sameField "HouseWorkers$StreamWork" "HouseWorkers$Work" "version" "I") (by decide +kernel)) x9 h9) rfl dX4_goOn_2 ?_
  refine lv_iconst (v := 1) hx hb dX4_goOn_5 (by decide) ?_
  refine lv_iadd hx hb dX4_goOn_6 ?_
  refine k_callpq (v := fnd st0 g n (x 6 + 1)) (va_runV (As := [.int ((x 6) + 1)]) (rest := []) ⟨hx, hb, hml, hown, hts⟩ (c_X3_find l _ hs st0 hc lt e0 n cap g (x 6 + 1) hso hal hel hn) (cwV 1 hts gX4_goOn_X3_find rfl rfl rfl (by decide +kernel) ⟨Nat.le_of_ble_eq_true rfl, Nat.le_of_ble_eq_true rfl⟩) (k_preV hK (k_recv hK.1 hso rfl)) rfl rfl hl.1 rfl (lv_room (Nat.le_of_ble_eq_true rfl)) dX4_goOn_7 ⟨(Nat.zero_le _), (Nat.zero_le _)⟩) hS (fun locs hS => ?_)
  have hfn : fnd st0 g n (x 6 + 1) = some y := by unfold fnd; rw [h6, nI_1, if_neg (nI_ne0 (by omega) (by omega)), if_neg (nI_pos (by omega)), if_neg (nI_nlt (by omega) (by omega)), nat_nI (by omega)]; exact hy
  rw [hfn]
  refine W.eq (g2 := F0 m 10 ls [.ref y]) rfl ?_
  refine lv_astore_n (lv' := [(2, .ref y), (0, .ref a), (1, .ref hs)]) hx hb dX4_goOn_10 rfl hl (by decide) rfl (fun ls hl => ?_)
  refine lv_aload_n hx hb dX4_goOn_11 rfl (lv_at hl 0 rfl) ?_
  refine lv_ifnull hx hb dX4_goOn_12 ?_
  refine lv_aload_n hx hb dX4_goOn_15 rfl (lv_at hl 1 rfl) ?_
  refine lv_bipush (v := 31) hx hb dX4_goOn_16 (by decide) ?_
  refine lv_aload_n hx hb dX4_goOn_18 rfl (lv_at hl 1 rfl) ?_
  refine k_get (C := RX4) (T := TX4) (N := 11) (v := .int (x 5)) hx hb hts hiX4 hown hK.1 ho rfl 5 (by decide) (hts (.fieldLink RX4 25 "HouseWorkers$StreamWork" "answer" "I") (by decide +kernel)) (fun x9 h9 => u_same (hts (.sameField "HouseWorkers$StreamWork" "HouseWorkers$Work" "answer" "I") (by decide +kernel)) x9 h9) rfl dX4_goOn_19 ?_
  refine lv_imul hx hb dX4_goOn_22 ?_
  refine lv_aload_n hx hb dX4_goOn_23 rfl (lv_at hl 0 rfl) ?_
  refine k_callpi (v := isum f 16) (va_runV (As := []) (rest := [.int (31 * (x 5)), .ref a]) ⟨hx, hb, hml, hown, hts⟩ (c_X0_sum l _ y r f hyo hrw) (cwV 0 hts gX4_goOn_X0_sum rfl rfl rfl (by decide +kernel) ⟨Nat.le_of_ble_eq_true rfl, Nat.le_of_ble_eq_true rfl⟩) (k_preV hK (k_recv hK.1 hyo rfl)) rfl rfl hl.1 rfl (lv_room (Nat.le_of_ble_eq_true rfl)) dX4_goOn_24 ⟨(Nat.zero_le _), (Nat.zero_le _)⟩) hS (fun locs hS => ?_)
  refine lv_iadd hx hb dX4_goOn_27 ?_
  refine k_put (A := (fun q => q = a)) (C := RX4) (T := TX4) (N := 11) (ty := .int) (v := .int ((31 * (x 5)) + (isum f 16))) hx hb hts hiX4 tyX4 tyX4_ok nmX4 hown hK.1 ho rfl hS rfl 5 (by decide) (hts (.fieldLink RX4 25 "HouseWorkers$StreamWork" "answer" "I") (by decide +kernel)) (fun x9 h9 => u_same (hts (.sameField "HouseWorkers$StreamWork" "HouseWorkers$Work" "answer" "I") (by decide +kernel)) x9 h9) rfl (by decide +kernel) rfl rfl (Nat.le_of_ble_eq_true rfl) dX4_goOn_28 (fun H1 locs hO2 hz3 hq4 hS => ?_)
  refine lv_aload_n hx hb dX4_goOn_31 rfl (lv_at hl 1 rfl) ?_
  refine lv_dup hx hb dX4_goOn_32 rfl ?_
  refine k_get (C := RX4) (T := TX4) (N := 11) (v := .int (x 6)) hx hb hts hiX4 hown hK.1 hO2 rfl 6 (by decide) (hts (.fieldLink RX4 15 "HouseWorkers$StreamWork" "version" "I") (by decide +kernel)) (fun x9 h9 => u_same (hts (.sameField "HouseWorkers$StreamWork" "HouseWorkers$Work" "version" "I") (by decide +kernel)) x9 h9) rfl dX4_goOn_33 ?_
  refine lv_iconst (v := 1) hx hb dX4_goOn_36 (by decide) ?_
  refine lv_iadd hx hb dX4_goOn_37 ?_
  refine k_put (A := (fun q => q = a)) (C := RX4) (T := TX4) (N := 11) (ty := .int) (v := .int ((x 6) + 1)) hx hb hts hiX4 tyX4 tyX4_ok nmX4 hown hK.1 hO2 rfl hS rfl 6 (by decide) (hts (.fieldLink RX4 15 "HouseWorkers$StreamWork" "version" "I") (by decide +kernel)) (fun x9 h9 => u_same (hts (.sameField "HouseWorkers$StreamWork" "HouseWorkers$Work" "version" "I") (by decide +kernel)) x9 h9) rfl (by decide +kernel) rfl rfl (Nat.le_of_ble_eq_true rfl) dX4_goOn_38 (fun H5 locs hO6 hz7 hq8 hS => ?_)
  refine lv_aload_n hx hb dX4_goOn_41 rfl (lv_at hl 1 rfl) ?_
  refine lv_dup hx hb dX4_goOn_42 rfl ?_
  refine k_get (C := RX4) (T := TX4) (N := 11) (v := .int (x 4)) hx hb hts hiX4 hown hK.1 hO6 rfl 4 (by decide) (hts (.fieldLink RX4 33 "HouseWorkers$StreamWork" "stepsDone" "I") (by decide +kernel)) (fun x9 h9 => u_same (hts (.sameField "HouseWorkers$StreamWork" "HouseWorkers$Work" "stepsDone" "I") (by decide +kernel)) x9 h9) rfl dX4_goOn_43 ?_
  refine lv_iconst (v := 1) hx hb dX4_goOn_46 (by decide) ?_
  refine lv_iadd hx hb dX4_goOn_47 ?_
  refine k_put (A := (fun q => q = a)) (C := RX4) (T := TX4) (N := 11) (ty := .int) (v := .int ((x 4) + 1)) hx hb hts hiX4 tyX4 tyX4_ok nmX4 hown hK.1 hO6 rfl hS rfl 4 (by decide) (hts (.fieldLink RX4 33 "HouseWorkers$StreamWork" "stepsDone" "I") (by decide +kernel)) (fun x9 h9 => u_same (hts (.sameField "HouseWorkers$StreamWork" "HouseWorkers$Work" "stepsDone" "I") (by decide +kernel)) x9 h9) rfl (by decide +kernel) rfl rfl (Nat.le_of_ble_eq_true rfl) dX4_goOn_48 (fun H9 locs hO10 hz11 hq12 hS => ?_)
  refine lv_iconst (v := 1) hx hb dX4_goOn_51 (by decide) ?_
  exact k_reti hx hb hr hlocks ⟨rfl, hO10⟩ hS dX4_goOn_52
set_option maxHeartbeats 4000000 in
set_option maxRecDepth 100000 in
theorem c_goOn_X6s (l : Launch) {D : va_G} {cI cZ cO : ClassId} {mi : Nat} (H : Heap) (a : Nat) (x : Nat → Int32) (fi by0 : Int32) (dr : Nat) (hs r : Nat) (f : Nat → Int32) (ho : Ob D a 6 (WFs x [.int fi, .int by0, .ref dr]) H) (hdr : Ob D dr 1 [.ref r] H) (hrw : Ai D cI r 16 f H) (hlt : x 4 < x 2) (har : a ≠ r) : Met l yX6_goOn wsX6_goOn ({ frames := 1, cells := 0, slots := 0, locals := 22 }) (Pk D cI cZ cO mi [.ref a, .ref hs] H) (Qki (fun rr H1 => rr = 1 ∧ Ob D a 6 (WFs (upd x 4 (x 4 + 1)) [.int fi, .int by0, .ref dr]) H1 ∧ Ai D cI r 16 (upd f (ix (fi + x 4)) (f (ix (fi + x 4)) + by0)) H1) (fun q => q = a ∨ q = r)) 0 0 (fun q => q = a ∨ q = r) := by
  refine Met.ofW (cc := cX6_goOn) (maxL := 2) (ret := (some .int)) (by decide) rfl ?_
  intro p e s m args below meth c s₁ Bd hml hv
  obtain ⟨rfl, rfl, hK⟩ := hv
  have hx := Bd.exec
  have hb := Bd.bytes
  have hr := Bd.returns
  have hts := atoms_spec (ws := wsX6_goOn) Bd.pre
  have hown : s.vm.findClass RX6 = some m.cls := findClass_of_methodNamed Bd.named
  have hlocks := Bd.notSynchronized
  have hS : va_S (fun q => q = a ∨ q = r) s.heap s.heap [] := va_S.rf
  have hl := lv_entry ([.ref a, .ref hs]) (n := 2) (Nat.le_of_ble_eq_true rfl)
  rw [lg_entry_eq]
  generalize (lg_sl ([.ref a, .ref hs]) ++ List.replicate (2 - (lg_sl ([.ref a, .ref hs])).length) Slot.unset).toArray = ls at hl ⊢
  have hl : lv_has ls 2 [(0, .ref a), (1, .ref hs)] := hl
  have hiX6 : ∀ w ∈ wsX60, w ∈ wsX6_goOn := by decide +kernel
  refine lv_aload_n hx hb dX6_goOn_0 rfl (lv_at hl 0 rfl) ?_
  refine k_callpi (v := b2 (decide (¬ x 4 < x 2))) (va_runU (As := []) (rest := []) ⟨hx, hb, hml, hown, hts⟩ (c_doneAll_X6 l _ a x fi by0 dr ho) (va_cwU 0 hts gX6_goOn_X5_hasDoneAllSteps_u27X6 rfl rfl rfl rfl (by decide +kernel) ⟨Nat.le_of_ble_eq_true rfl, Nat.le_of_ble_eq_true rfl⟩) (k_preV hK (k_recv hK.1 ho rfl)) rfl rfl hl.1 rfl (lv_room (Nat.le_of_ble_eq_true rfl)) dX6_goOn_1 ⟨(Nat.zero_le _), (Nat.zero_le _)⟩) hS (fun locs hS => ?_)
  refine lv_if_eq (tgt := 32) hx hb dX6_goOn_4 (by decide) (fun c4 => ?_) (fun c4 => ?_)
  · refine lv_aload_n hx hb dX6_goOn_32 rfl (lv_at hl 0 rfl) ?_
    refine k_get (C := RX6) (T := TX6) (N := 14) (v := .ref dr) hx hb hts hiX6 hown hK.1 ho rfl 13 (by decide) (hts (.fieldLink RX6 14 "HouseWorkers$WriterWork" "draft" "LHouseWorkers$Cells;") (by decide +kernel)) (fun _ h9 => h9) rfl dX6_goOn_33 ?_
    refine lv_aload_n hx hb dX6_goOn_36 rfl (lv_at hl 0 rfl) ?_
    refine k_get (C := RX6) (T := TX6) (N := 14) (v := .int fi) hx hb hts hiX6 hown hK.1 ho rfl 11 (by decide) (hts (.fieldLink RX6 20 "HouseWorkers$WriterWork" "first" "I") (by decide +kernel)) (fun _ h9 => h9) rfl dX6_goOn_37 ?_
    refine lv_aload_n hx hb dX6_goOn_40 rfl (lv_at hl 0 rfl) ?_
    refine k_get (C := RX6) (T := TX6) (N := 14) (v := .int (x 4)) hx hb hts hiX6 hown hK.1 ho rfl 4 (by decide) (hts (.fieldLink RX6 48 "HouseWorkers$WriterWork" "stepsDone" "I") (by decide +kernel)) (fun x9 h9 => u_same (hts (.sameField "HouseWorkers$WriterWork" "HouseWorkers$Work" "stepsDone" "I") (by decide +kernel)) x9 h9) rfl dX6_goOn_41 ?_
    refine lv_iadd hx hb dX6_goOn_44 ?_
    refine lv_aload_n hx hb dX6_goOn_45 rfl (lv_at hl 0 rfl) ?_
    refine k_get (C := RX6) (T := TX6) (N := 14) (v := .int by0) hx hb hts hiX6 hown hK.1 ho rfl 12 (by decide) (hts (.fieldLink RX6 24 "HouseWorkers$WriterWork" "by" "I") (by decide +kernel)) (fun _ h9 => h9) rfl dX6_goOn_46 ?_
    refine k_callv (va_runV (As := [.int (fi + (x 4)), .int by0]) (rest := []) ⟨hx, hb, hml, hown, hts⟩ (c_X0_add l _ dr r f (fi + x 4) by0 hdr hrw) (cwV 2 hts gX6_goOn_X0_add rfl rfl rfl (by decide +kernel) ⟨Nat.le_of_ble_eq_true rfl, Nat.le_of_ble_eq_true rfl⟩) (k_preV hK (k_recv hK.1 hdr rfl)) rfl rfl hl.1 rfl (lv_room (Nat.le_of_ble_eq_true rfl)) dX6_goOn_49 ⟨(Nat.zero_le _), (Nat.zero_le _)⟩) hS (fun q h => Or.inr h) (fun H2 locs hp hz2 hk2 hS => ?_)
    have ho2 := va_at.kept ho (hk2 a (va_at.lt ho) har)
    refine lv_aload_n hx hb dX6_goOn_52 rfl (lv_at hl 0 rfl) ?_
    refine lv_dup hx hb dX6_goOn_53 rfl ?_
    refine k_get (C := RX6) (T := TX6) (N := 14) (v := .int (x 4)) hx hb hts hiX6 hown hK.1 ho2 rfl 4 (by decide) (hts (.fieldLink RX6 48 "HouseWorkers$WriterWork" "stepsDone" "I") (by decide +kernel)) (fun x9 h9 => u_same (hts (.sameField "HouseWorkers$WriterWork" "HouseWorkers$Work" "stepsDone" "I") (by decide +kernel)) x9 h9) rfl dX6_goOn_54 ?_
    refine lv_iconst (v := 1) hx hb dX6_goOn_57 (by decide) ?_
    refine lv_iadd hx hb dX6_goOn_58 ?_
    refine k_put (A := (fun q => q = a ∨ q = r)) (C := RX6) (T := TX6) (N := 14) (ty := .int) (v := .int ((x 4) + 1)) hx hb hts hiX6 tyX6 tyX6_ok nmX6 hown hK.1 ho2 (Or.inl rfl) hS rfl 4 (by decide) (hts (.fieldLink RX6 48 "HouseWorkers$WriterWork" "stepsDone" "I") (by decide +kernel)) (fun x9 h9 => u_same (hts (.sameField "HouseWorkers$WriterWork" "HouseWorkers$Work" "stepsDone" "I") (by decide +kernel)) x9 h9) rfl (by decide +kernel) rfl rfl (Nat.le_of_ble_eq_true rfl) dX6_goOn_59 (fun H1 locs hO2 hz3 hq4 hS => ?_)
    have hp3 := va_at.kept hp.1 (hq4 r har.symm)
    refine lv_iconst (v := 1) hx hb dX6_goOn_62 (by decide) ?_
    exact k_reti hx hb hr hlocks ⟨rfl, hO2, hp3⟩ hS dX6_goOn_63
  · exact absurd hlt (of_decide_eq_true (b2_n c4))
set_option maxHeartbeats 4000000 in
set_option maxRecDepth 100000 in
theorem c_goOn_X6c (l : Launch) {D : va_G} {cI cZ cO : ClassId} {mi eA : Nat} {B : Nat → Prop} (H : Heap) (a : Nat) (x : Nat → Int32) (fi by0 : Int32) (dr : Nat) (hs st0 hc lt e0 n cap r r2 : Nat) (g : Nat → Option Nat) (f f2 : Nat → Int32) (ho : Ob D a 6 (WFs x [.int fi, .int by0, .ref dr]) H) (hdr : Ob D dr 1 [.ref r] H) (hrw : Ai D cI r 16 f H) (hso : Ob D hs 4 [.ref st0, .ref hc, .ref lt] H) (hAL : AL D cO eA hc e0 n cap g H) (hlo : Ob D lt 1 [.ref r2] H) (hrw2 : Ai D cI r2 16 f2 H) (hel : ∀ i, i < n → ∃ y, g i = some y ∧ ElO D y H ∧ y ≠ hc ∧ y ≠ r) (hn : n ≤ 32) (hlt : ¬ x 4 < x 2) (hBa : B hc) (hBn : ∀ q, H.size ≤ q → B q) (d1 : r2 ≠ r) (d2 : dr ≠ r) (d3 : lt ≠ r) (d4 : a ≠ r) (d5 : hs ≠ r) (d6 : hc ≠ r) (d7 : 0 < n → e0 ≠ r) (d8 : dr ≠ hc) (d9 : 0 < n → dr ≠ e0) (d10 : 0 < n → hc ≠ e0) (d11 : hs ≠ hc) (d12 : 0 < n → hs ≠ e0) (d13 : dr ≠ hs) (d14 : a ≠ hs) (d15 : a ≠ hc) (d16 : 0 < n → a ≠ e0) (d17 : r ≠ hs) (d18 : dr ≠ a) (hBr : B r) : Met l yX6_goOn wsX6_goOn ({ frames := 8, cells := 1, slots := 33, locals := 212 }) (Pz D cI cZ cO mi eA B [.ref a, .ref hs] H) (Qki (fun rr H1 => rr = 2 ∧ Ob D a 6 (WFs (upd x 6 (nI (n + 1))) [.int fi, .int by0, .ref dr]) H1 ∧ Ob D dr 1 [.ref r] H1 ∧ Ai D cI r 16 (fun c => f c + f2 c) H1 ∧ Ob D hs 4 [.ref st0, .ref hc, .ref dr] H1 ∧ ∃ e1 cap1 g1, AL D cO eA hc e1 (n + 1) cap1 g1 H1 ∧ (∀ i, i < n → g1 i = g i) ∧ g1 n = some dr ∧ ((e1 = e0 ∧ 0 < n) ∨ H.size ≤ e1)) (fun q => q = a ∨ q = r ∨ q = hs ∨ q = hc ∨ (q = e0 ∧ 0 < n) ∨ H.size ≤ q)) 1 33 (fun q => q = a ∨ q = r ∨ q = hs ∨ q = hc ∨ (q = e0 ∧ 0 < n) ∨ H.size ≤ q) := by
  refine Met.ofW (cc := cX6_goOn) (maxL := 2) (ret := (some .int)) (by decide) rfl ?_
  intro p e s m args below meth c s₁ Bd hml hv
  obtain ⟨rfl, rfl, hK, hZ⟩ := hv
  have hx := Bd.exec
  have hb := Bd.bytes
  have hr := Bd.returns
  have hts := atoms_spec (ws := wsX6_goOn) Bd.pre
  have hown : s.vm.findClass RX6 = some m.cls := findClass_of_methodNamed Bd.named
  have hlocks := Bd.notSynchronized
  have hS : va_S (fun q => q = a ∨ q = r ∨ q = hs ∨ q = hc ∨ (q = e0 ∧ 0 < n) ∨ s.heap.size ≤ q) s.heap s.heap [] := va_S.rf
  have hl := lv_entry ([.ref a, .ref hs]) (n := 2) (Nat.le_of_ble_eq_true rfl)
  rw [lg_entry_eq]
  generalize (lg_sl ([.ref a, .ref hs]) ++ List.replicate (2 - (lg_sl ([.ref a, .ref hs])).length) Slot.unset).toArray = ls at hl ⊢
  have hl : lv_has ls 2 [(0, .ref a), (1, .ref hs)] := hl
  have hiX6 : ∀ w ∈ wsX60, w ∈ wsX6_goOn := by decide +kernel
  refine lv_aload_n hx hb dX6_goOn_0 rfl (lv_at hl 0 rfl) ?_
  refine k_callpi (v := b2 (decide (¬ x 4 < x 2))) (va_runU (As := []) (rest := []) ⟨hx, hb, hml, hown, hts⟩ (c_doneAll_X6 l _ a x fi by0 dr ho) (va_cwU 0 hts gX6_goOn_X5_hasDoneAllSteps_u27X6 rfl rfl rfl rfl (by decide +kernel) ⟨Nat.le_of_ble_eq_true rfl, Nat.le_of_ble_eq_true rfl⟩) (k_preV hK (k_recv hK.1 ho rfl)) rfl rfl hl.1 rfl (lv_room (Nat.le_of_ble_eq_true rfl)) dX6_goOn_1 ⟨(Nat.zero_le _), (Nat.zero_le _)⟩) hS (fun locs hS => ?_)
  refine lv_if_eq (tgt := 32) hx hb dX6_goOn_4 (by decide) (fun c4 => ?_) (fun c4 => ?_)
  · exact absurd (b2_0 c4) (by rw [decide_eq_true hlt]; decide)
  · refine lv_aload_n hx hb dX6_goOn_7 rfl (lv_at hl 0 rfl) ?_
    refine k_get (C := RX6) (T := TX6) (N := 14) (v := .ref dr) hx hb hts hiX6 hown hK.1 ho rfl 13 (by decide) (hts (.fieldLink RX6 14 "HouseWorkers$WriterWork" "draft" "LHouseWorkers$Cells;") (by decide +kernel)) (fun _ h9 => h9) rfl dX6_goOn_8 ?_
    refine lv_aload_n hx hb dX6_goOn_11 rfl (lv_at hl 1 rfl) ?_
    refine k_callpq (v := some lt) (va_runV (As := []) (rest := [.ref dr]) ⟨hx, hb, hml, hown, hts⟩ (c_X3_latest l _ hs st0 hc lt hso) (cwV 0 hts gX6_goOn_X3_latest rfl rfl rfl (by decide +kernel) ⟨Nat.le_of_ble_eq_true rfl, Nat.le_of_ble_eq_true rfl⟩) (k_preV hK (k_recv hK.1 hso rfl)) rfl rfl hl.1 rfl (lv_room (Nat.le_of_ble_eq_true rfl)) dX6_goOn_12 ⟨(Nat.zero_le _), (Nat.zero_le _)⟩) hS (fun locs hS => ?_)
    refine W.eq (g2 := F0 m 15 ls [.ref lt, .ref dr]) rfl ?_
    refine k_callv (va_runV (As := [.ref lt]) (rest := []) ⟨hx, hb, hml, hown, hts⟩ (c_X0_addAll l _ dr r lt r2 f f2 hdr hrw hlo hrw2 d1 d2 d3) (cwV 1 hts gX6_goOn_X0_addAll rfl rfl rfl (by decide +kernel) ⟨Nat.le_of_ble_eq_true rfl, Nat.le_of_ble_eq_true rfl⟩) (k_preV hK (k_recv hK.1 hdr rfl)) rfl rfl hl.1 rfl (lv_room (Nat.le_of_ble_eq_true rfl)) dX6_goOn_15 ⟨(Nat.zero_le _), (Nat.zero_le _)⟩) hS (fun q h => Or.inr (Or.inl h)) (fun H2 locs hp2 hz2 hk2 hS => ?_)
    have ho_2 := va_at.kept ho (hk2 a (va_at.lt ho) d4)
    have hso_2 := va_at.kept hso (hk2 hs (va_at.lt hso) d5)
    have hdr_2 := va_at.kept hdr (hk2 dr (va_at.lt hdr) d2)
    have hAL_2 := hAL.kept (hk2 hc hAL.lt d6) (fun q => hk2 e0 (hAL.lte q) (d7 q))
    have hrw_2 := hp2.1
    have hz_2 := hp2.2
    have hel_2 : ∀ i, i < n → ∃ y, g i = some y ∧ ElO D y H2 ∧ y ≠ hc := fun i hi => by obtain ⟨y, y1, y2, y3, y4⟩ := hel i hi; exact ⟨y, y1, y2.kept (hk2 y y2.lt y4), y3⟩
    refine lv_aload_n hx hb dX6_goOn_18 rfl (lv_at hl 0 rfl) ?_
    refine lv_aload_n hx hb dX6_goOn_19 rfl (lv_at hl 1 rfl) ?_
    refine lv_aload_n hx hb dX6_goOn_20 rfl (lv_at hl 0 rfl) ?_
    refine k_get (C := RX6) (T := TX6) (N := 14) (v := .ref dr) hx hb hts hiX6 hown hK.1 ho_2 rfl 13 (by decide) (hts (.fieldLink RX6 14 "HouseWorkers$WriterWork" "draft" "LHouseWorkers$Cells;") (by decide +kernel)) (fun _ h9 => h9) rfl dX6_goOn_21 ?_
    have hsz0 : H2.size = s.heap.size := hz_2
    have hZc : ZZ eA B s H2 := hZ.kept (fun q q1 q2 => hk2 q q1 (fun h => q2 (by rw [h]; exact hBr)))
    refine k_calli (va_runV (As := [.ref dr]) (rest := [.ref a]) ⟨hx, hb, hml, hown, hts⟩ (c_X3_commit l _ hs st0 hc lt e0 n cap dr g hso_2 hAL_2 hn ⟨1, _, Or.inl rfl, hdr_2⟩ hel_2 d10 d8 d9 hBa (fun q h => hBn q (by omega)) d11 d12) (cwV 1 hts gX6_goOn_X3_commit rfl rfl rfl (by decide +kernel) ⟨Nat.le_of_ble_eq_true rfl, Nat.le_of_ble_eq_true rfl⟩) (z_preV hK hZc (k_recv hK.1 hso_2 rfl)) rfl rfl hl.1 rfl (lv_room (Nat.le_of_ble_eq_true rfl)) dX6_goOn_24 ⟨Nat.le_of_ble_eq_true rfl, Nat.le_of_ble_eq_true rfl⟩) hS (fun q h => h.elim (fun h => Or.inr (Or.inr (Or.inl h))) (fun h => h.elim (fun h => Or.inr (Or.inr (Or.inr (Or.inl h)))) (fun h => h.elim (fun h => Or.inr (Or.inr (Or.inr (Or.inr (Or.inl h))))) (fun h => Or.inr (Or.inr (Or.inr (Or.inr (Or.inr (by omega))))))))) (fun r9 H3 locs hp3 hz3 hk3 hS => ?_)
    obtain ⟨rfl, hso3, e1, cap1, g1, hAL3, hg1, hg2, he1⟩ := hp3
    have ho3 := va_at.kept ho_2 (hk3 a (va_at.lt ho_2) (fun q => q.elim d14 (fun q => q.elim d15 (fun q => q.elim (fun q => d16 q.2 q.1) (fun q => absurd (va_at.lt ho_2) (Nat.not_lt.mpr q))))))
    have hdr3 := va_at.kept hdr_2 (hk3 dr (va_at.lt hdr_2) (fun q => q.elim d13 (fun q => q.elim d8 (fun q => q.elim (fun q => d9 q.2 q.1) (fun q => absurd (va_at.lt hdr_2) (Nat.not_lt.mpr q))))))
    have hrw3 := va_at.kept hrw_2 (hk3 r (va_at.lt hrw_2) (fun q => q.elim d17 (fun q => q.elim d6.symm (fun q => q.elim (fun q => (fun q z => d7 q z.symm) q.2 q.1) (fun q => absurd (va_at.lt hrw_2) (Nat.not_lt.mpr q))))))
    refine k_put (A := (fun q => q = a ∨ q = r ∨ q = hs ∨ q = hc ∨ (q = e0 ∧ 0 < n) ∨ s.heap.size ≤ q)) (C := RX6) (T := TX6) (N := 14) (ty := .int) (v := .int (nI (n + 1))) hx hb hts hiX6 tyX6 tyX6_ok nmX6 hown hK.1 ho3 (Or.inl rfl) hS rfl 6 (by decide) (hts (.fieldLink RX6 45 "HouseWorkers$WriterWork" "version" "I") (by decide +kernel)) (fun x9 h9 => u_same (hts (.sameField "HouseWorkers$WriterWork" "HouseWorkers$Work" "version" "I") (by decide +kernel)) x9 h9) rfl (by decide +kernel) rfl rfl (Nat.le_of_ble_eq_true rfl) dX6_goOn_27 (fun H1 locs hO2 hz3 hq4 hS => ?_)
    have hdr4 := va_at.kept hdr3 (hq4 dr d18)
    have hrw4 := va_at.kept hrw3 (hq4 r d4.symm)
    have hso4 := va_at.kept hso3 (hq4 hs d14.symm)
    have hAL4 := hAL3.kept (hq4 hc d15.symm) (fun _ => hq4 e1 (he1.elim (fun h => by rw [h.1]; exact (d16 h.2).symm) (fun h => fun q => absurd (va_at.lt ho) (by rw [← q]; omega))))
    refine lv_iconst (v := 2) hx hb dX6_goOn_30 (by decide) ?_
    exact k_reti hx hb hr hlocks ⟨rfl, hO2, hdr4, hrw4, hso4, e1, cap1, g1, hAL4, hg1, hg2, by rw [hsz0] at he1; exact he1⟩ hS dX6_goOn_31
set_option maxHeartbeats 4000000 in
set_option maxRecDepth 100000 in
theorem c_goOn_X2c (l : Launch) {D : va_G} {cI cZ cO : ClassId} {mi eA : Nat} {B : Nat → Prop} (H : Heap) (a : Nat) (x : Nat → Int32) (dr : Nat) (hs st0 hc lt e0 n cap r r2 : Nat) (g : Nat → Option Nat) (f f2 : Nat → Int32) (ho : Ob D a 3 (WFs x [.ref dr]) H) (hdr : Ob D dr 1 [.ref r] H) (hrw : Ai D cI r 16 f H) (hso : Ob D hs 4 [.ref st0, .ref hc, .ref lt] H) (hAL : AL D cO eA hc e0 n cap g H) (hlo : Ob D lt 1 [.ref r2] H) (hrw2 : Ai D cI r2 16 f2 H) (hel : ∀ i, i < n → ∃ y, g i = some y ∧ ElO D y H ∧ y ≠ hc ∧ y ≠ r) (hn : n ≤ 32) (hlt : ¬ x 4 < x 2) (hBa : B hc) (hBn : ∀ q, H.size ≤ q → B q) (d1 : r2 ≠ r) (d2 : dr ≠ r) (d3 : lt ≠ r) (d4 : a ≠ r) (d5 : hs ≠ r) (d6 : hc ≠ r) (d7 : 0 < n → e0 ≠ r) (d8 : dr ≠ hc) (d9 : 0 < n → dr ≠ e0) (d10 : 0 < n → hc ≠ e0) (d11 : hs ≠ hc) (d12 : 0 < n → hs ≠ e0) (d13 : dr ≠ hs) (d14 : a ≠ hs) (d15 : a ≠ hc) (d16 : 0 < n → a ≠ e0) (d17 : r ≠ hs) (d18 : dr ≠ a) (hBr : B r) : Met l yX2_goOn wsX2_goOn ({ frames := 8, cells := 1, slots := 33, locals := 212 }) (Pz D cI cZ cO mi eA B [.ref a, .ref hs] H) (Qki (fun rr H1 => rr = 2 ∧ Ob D a 3 (WFs (upd x 6 (nI (n + 1))) [.ref dr]) H1 ∧ Ob D dr 1 [.ref r] H1 ∧ Ai D cI r 16 f H1 ∧ Ob D hs 4 [.ref st0, .ref hc, .ref dr] H1 ∧ ∃ e1 cap1 g1, AL D cO eA hc e1 (n + 1) cap1 g1 H1 ∧ (∀ i, i < n → g1 i = g i) ∧ g1 n = some dr ∧ ((e1 = e0 ∧ 0 < n) ∨ H.size ≤ e1)) (fun q => q = a ∨ q = r ∨ q = hs ∨ q = hc ∨ (q = e0 ∧ 0 < n) ∨ H.size ≤ q)) 1 33 (fun q => q = a ∨ q = r ∨ q = hs ∨ q = hc ∨ (q = e0 ∧ 0 < n) ∨ H.size ≤ q) := by
  refine Met.ofW (cc := cX2_goOn) (maxL := 2) (ret := (some .int)) (by decide) rfl ?_
  intro p e s m args below meth c s₁ Bd hml hv
  obtain ⟨rfl, rfl, hK, hZ⟩ := hv
  have hx := Bd.exec
  have hb := Bd.bytes
  have hr := Bd.returns
  have hts := atoms_spec (ws := wsX2_goOn) Bd.pre
  have hown : s.vm.findClass RX2 = some m.cls := findClass_of_methodNamed Bd.named
  have hlocks := Bd.notSynchronized
  have hS : va_S (fun q => q = a ∨ q = r ∨ q = hs ∨ q = hc ∨ (q = e0 ∧ 0 < n) ∨ s.heap.size ≤ q) s.heap s.heap [] := va_S.rf
  have hl := lv_entry ([.ref a, .ref hs]) (n := 2) (Nat.le_of_ble_eq_true rfl)
  rw [lg_entry_eq]
  generalize (lg_sl ([.ref a, .ref hs]) ++ List.replicate (2 - (lg_sl ([.ref a, .ref hs])).length) Slot.unset).toArray = ls at hl ⊢
  have hl : lv_has ls 2 [(0, .ref a), (1, .ref hs)] := hl
  have hiX2 : ∀ w ∈ wsX20, w ∈ wsX2_goOn := by decide +kernel
  refine lv_aload_n hx hb dX2_goOn_0 rfl (lv_at hl 0 rfl) ?_
  refine k_callpi (v := b2 (decide (¬ x 4 < x 2))) (va_runU (As := []) (rest := []) ⟨hx, hb, hml, hown, hts⟩ (c_doneAll_X2 l _ a x dr ho) (va_cwU 0 hts gX2_goOn_X5_hasDoneAllSteps_u24X2 rfl rfl rfl rfl (by decide +kernel) ⟨Nat.le_of_ble_eq_true rfl, Nat.le_of_ble_eq_true rfl⟩) (k_preV hK (k_recv hK.1 ho rfl)) rfl rfl hl.1 rfl (lv_room (Nat.le_of_ble_eq_true rfl)) dX2_goOn_1 ⟨(Nat.zero_le _), (Nat.zero_le _)⟩) hS (fun locs hS => ?_)
  refine lv_if_eq (tgt := 21) hx hb dX2_goOn_4 (by decide) (fun c4 => ?_) (fun c4 => ?_)
  · exact absurd (b2_0 c4) (by rw [decide_eq_true hlt]; decide)
  · refine lv_aload_n hx hb dX2_goOn_7 rfl (lv_at hl 0 rfl) ?_
    refine lv_aload_n hx hb dX2_goOn_8 rfl (lv_at hl 1 rfl) ?_
    refine lv_aload_n hx hb dX2_goOn_9 rfl (lv_at hl 0 rfl) ?_
    refine k_get (C := RX2) (T := TX2) (N := 12) (v := .ref dr) hx hb hts hiX2 hown hK.1 ho rfl 11 (by decide) (hts (.fieldLink RX2 14 "HouseWorkers$ReasoningWork" "cells" "LHouseWorkers$Cells;") (by decide +kernel)) (fun _ h9 => h9) rfl dX2_goOn_10 ?_
    have hel_2 : ∀ i, i < n → ∃ y, g i = some y ∧ ElO D y s.heap ∧ y ≠ hc := fun i hi => by obtain ⟨y, y1, y2, y3, y4⟩ := hel i hi; exact ⟨y, y1, y2, y3⟩
    have hsz0 : s.heap.size = s.heap.size := (rfl : s.heap.size = s.heap.size)
    have hZc := hZ
    refine k_calli (va_runV (As := [.ref dr]) (rest := [.ref a]) ⟨hx, hb, hml, hown, hts⟩ (c_X3_commit l _ hs st0 hc lt e0 n cap dr g hso hAL hn ⟨1, _, Or.inl rfl, hdr⟩ hel_2 d10 d8 d9 hBa (fun q h => hBn q (by omega)) d11 d12) (cwV 1 hts gX2_goOn_X3_commit rfl rfl rfl (by decide +kernel) ⟨Nat.le_of_ble_eq_true rfl, Nat.le_of_ble_eq_true rfl⟩) (z_preV hK hZc (k_recv hK.1 hso rfl)) rfl rfl hl.1 rfl (lv_room (Nat.le_of_ble_eq_true rfl)) dX2_goOn_13 ⟨Nat.le_of_ble_eq_true rfl, Nat.le_of_ble_eq_true rfl⟩) hS (fun q h => h.elim (fun h => Or.inr (Or.inr (Or.inl h))) (fun h => h.elim (fun h => Or.inr (Or.inr (Or.inr (Or.inl h)))) (fun h => h.elim (fun h => Or.inr (Or.inr (Or.inr (Or.inr (Or.inl h))))) (fun h => Or.inr (Or.inr (Or.inr (Or.inr (Or.inr (by omega))))))))) (fun r9 H3 locs hp3 hz3 hk3 hS => ?_)
    obtain ⟨rfl, hso3, e1, cap1, g1, hAL3, hg1, hg2, he1⟩ := hp3
    have ho3 := va_at.kept ho (hk3 a (va_at.lt ho) (fun q => q.elim d14 (fun q => q.elim d15 (fun q => q.elim (fun q => d16 q.2 q.1) (fun q => absurd (va_at.lt ho) (Nat.not_lt.mpr q))))))
    have hdr3 := va_at.kept hdr (hk3 dr (va_at.lt hdr) (fun q => q.elim d13 (fun q => q.elim d8 (fun q => q.elim (fun q => d9 q.2 q.1) (fun q => absurd (va_at.lt hdr) (Nat.not_lt.mpr q))))))
    have hrw3 := va_at.kept hrw (hk3 r (va_at.lt hrw) (fun q => q.elim d17 (fun q => q.elim d6.symm (fun q => q.elim (fun q => (fun q z => d7 q z.symm) q.2 q.1) (fun q => absurd (va_at.lt hrw) (Nat.not_lt.mpr q))))))
    refine k_put (A := (fun q => q = a ∨ q = r ∨ q = hs ∨ q = hc ∨ (q = e0 ∧ 0 < n) ∨ s.heap.size ≤ q)) (C := RX2) (T := TX2) (N := 12) (ty := .int) (v := .int (nI (n + 1))) hx hb hts hiX2 tyX2 tyX2_ok nmX2 hown hK.1 ho3 (Or.inl rfl) hS rfl 6 (by decide) (hts (.fieldLink RX2 34 "HouseWorkers$ReasoningWork" "version" "I") (by decide +kernel)) (fun x9 h9 => u_same (hts (.sameField "HouseWorkers$ReasoningWork" "HouseWorkers$Work" "version" "I") (by decide +kernel)) x9 h9) rfl (by decide +kernel) rfl rfl (Nat.le_of_ble_eq_true rfl) dX2_goOn_16 (fun H1 locs hO2 hz3 hq4 hS => ?_)
    have hdr4 := va_at.kept hdr3 (hq4 dr d18)
    have hrw4 := va_at.kept hrw3 (hq4 r d4.symm)
    have hso4 := va_at.kept hso3 (hq4 hs d14.symm)
    have hAL4 := hAL3.kept (hq4 hc d15.symm) (fun _ => hq4 e1 (he1.elim (fun h => by rw [h.1]; exact (d16 h.2).symm) (fun h => fun q => absurd (va_at.lt ho) (by rw [← q]; omega))))
    refine lv_iconst (v := 2) hx hb dX2_goOn_19 (by decide) ?_
    exact k_reti hx hb hr hlocks ⟨rfl, hO2, hdr4, hrw4, hso4, e1, cap1, g1, hAL4, hg1, hg2, by rw [hsz0] at he1; exact he1⟩ hS dX2_goOn_20
set_option maxHeartbeats 4000000 in
set_option maxRecDepth 100000 in
theorem c_goOn_X2f (l : Launch) {D : va_G} {cI cZ cO : ClassId} {mi : Nat} (H : Heap) (a : Nat) (x : Nat → Int32) (dr : Nat) (hs r : Nat) (f : Nat → Int32) (st0 hc lt e0 n r2 : Nat) (mv : Int32) (f2 : Nat → Int32) (ho : Ob D a 3 (WFs x [.ref dr]) H) (hdr : Ob D dr 1 [.ref r] H) (hrw : Ai D cI r 16 f H) (hlt : x 4 < x 2) (d4 : a ≠ r) (d2 : dr ≠ r) (h0 : x 4 = 0) (hso : Ob D hs 4 [.ref st0, .ref hc, .ref lt] H) (hcm : Ob D hc 0 [.int mv, .ref e0, .int (nI n)] H) (hlo : Ob D lt 1 [.ref r2] H) (hrw2 : Ai D cI r2 16 f2 H) (d1 : r2 ≠ r) (d3 : lt ≠ r) (d5 : hs ≠ r) (d6 : hc ≠ r) (d18 : dr ≠ a) : Met l yX2_goOn wsX2_goOn ({ frames := 2, cells := 0, slots := 0, locals := 53 }) (Pk D cI cZ cO mi [.ref a, .ref hs] H) (Qki (fun rr H1 => rr = 1 ∧ Ob D a 3 (WFs (upd (upd x 7 (nI n)) 4 (x 4 + 1)) [.ref dr]) H1 ∧ Ai D cI r 16 (rnd f2) H1) (fun q => q = a ∨ q = r)) 0 0 (fun q => q = a ∨ q = r) := by
  refine Met.ofW (cc := cX2_goOn) (maxL := 2) (ret := (some .int)) (by decide) rfl ?_
  intro p e s m args below meth c s₁ Bd hml hv
  obtain ⟨rfl, rfl, hK⟩ := hv
  have hx := Bd.exec
  have hb := Bd.bytes
  have hr := Bd.returns
  have hts := atoms_spec (ws := wsX2_goOn) Bd.pre
  have hown : s.vm.findClass RX2 = some m.cls := findClass_of_methodNamed Bd.named
  have hlocks := Bd.notSynchronized
  have hS : va_S (fun q => q = a ∨ q = r) s.heap s.heap [] := va_S.rf
  have hl := lv_entry ([.ref a, .ref hs]) (n := 2) (Nat.le_of_ble_eq_true rfl)
  rw [lg_entry_eq]
  generalize (lg_sl ([.ref a, .ref hs]) ++ List.replicate (2 - (lg_sl ([.ref a, .ref hs])).length) Slot.unset).toArray = ls at hl ⊢
  have hl : lv_has ls 2 [(0, .ref a), (1, .ref hs)] := hl
  have hiX2 : ∀ w ∈ wsX20, w ∈ wsX2_goOn := by decide +kernel
  refine lv_aload_n hx hb dX2_goOn_0 rfl (lv_at hl 0 rfl) ?_
  refine k_callpi (v := b2 (decide (¬ x 4 < x 2))) (va_runU (As := []) (rest := []) ⟨hx, hb, hml, hown, hts⟩ (c_doneAll_X2 l _ a x dr ho) (va_cwU 0 hts gX2_goOn_X5_hasDoneAllSteps_u24X2 rfl rfl rfl rfl (by decide +kernel) ⟨Nat.le_of_ble_eq_true rfl, Nat.le_of_ble_eq_true rfl⟩) (k_preV hK (k_recv hK.1 ho rfl)) rfl rfl hl.1 rfl (lv_room (Nat.le_of_ble_eq_true rfl)) dX2_goOn_1 ⟨(Nat.zero_le _), (Nat.zero_le _)⟩) hS (fun locs hS => ?_)
  refine lv_if_eq (tgt := 21) hx hb dX2_goOn_4 (by decide) (fun c4 => ?_) (fun c4 => ?_)
  · refine lv_aload_n hx hb dX2_goOn_21 rfl (lv_at hl 0 rfl) ?_
    refine k_get (C := RX2) (T := TX2) (N := 12) (v := .int (x 4)) hx hb hts hiX2 hown hK.1 ho rfl 4 (by decide) (hts (.fieldLink RX2 20 "HouseWorkers$ReasoningWork" "stepsDone" "I") (by decide +kernel)) (fun x9 h9 => u_same (hts (.sameField "HouseWorkers$ReasoningWork" "HouseWorkers$Work" "stepsDone" "I") (by decide +kernel)) x9 h9) rfl dX2_goOn_22 ?_
    refine lv_if_ne (tgt := 47) hx hb dX2_goOn_25 (by decide) (fun c25 => ?_) (fun c25 => ?_)
    · exact absurd h0 c25
    · refine lv_aload_n hx hb dX2_goOn_28 rfl (lv_at hl 0 rfl) ?_
      refine k_get (C := RX2) (T := TX2) (N := 12) (v := .ref dr) hx hb hts hiX2 hown hK.1 ho rfl 11 (by decide) (hts (.fieldLink RX2 14 "HouseWorkers$ReasoningWork" "cells" "LHouseWorkers$Cells;") (by decide +kernel)) (fun _ h9 => h9) rfl dX2_goOn_29 ?_
      refine lv_aload_n hx hb dX2_goOn_32 rfl (lv_at hl 1 rfl) ?_
      refine k_callpq (v := some lt) (va_runV (As := []) (rest := [.ref dr]) ⟨hx, hb, hml, hown, hts⟩ (c_X3_latest l _ hs st0 hc lt hso) (cwV 0 hts gX2_goOn_X3_latest rfl rfl rfl (by decide +kernel) ⟨Nat.le_of_ble_eq_true rfl, Nat.le_of_ble_eq_true rfl⟩) (k_preV hK (k_recv hK.1 hso rfl)) rfl rfl hl.1 rfl (lv_room (Nat.le_of_ble_eq_true rfl)) dX2_goOn_33 ⟨(Nat.zero_le _), (Nat.zero_le _)⟩) hS (fun locs hS => ?_)
      refine W.eq (g2 := F0 m 36 ls [.ref lt, .ref dr]) rfl ?_
      refine k_callv (va_runV (As := [.ref lt]) (rest := []) ⟨hx, hb, hml, hown, hts⟩ (c_X0_takeAll l _ dr r lt r2 f f2 hdr hrw hlo hrw2 d1 d2 d3) (cwV 1 hts gX2_goOn_X0_takeAll rfl rfl rfl (by decide +kernel) ⟨Nat.le_of_ble_eq_true rfl, Nat.le_of_ble_eq_true rfl⟩) (k_preV hK (k_recv hK.1 hdr rfl)) rfl rfl hl.1 rfl (lv_room (Nat.le_of_ble_eq_true rfl)) dX2_goOn_36 ⟨(Nat.zero_le _), (Nat.zero_le _)⟩) hS (fun q h => Or.inr h) (fun H2 locs hp2 hz2 hk2 hS => ?_)
      have ho2 := va_at.kept ho (hk2 a (va_at.lt ho) d4)
      have hso2 := va_at.kept hso (hk2 hs (va_at.lt hso) d5)
      have hdr2 := va_at.kept hdr (hk2 dr (va_at.lt hdr) d2)
      have hcm2 := va_at.kept hcm (hk2 hc (va_at.lt hcm) d6)
      have hrw2b := hp2.1
      refine lv_aload_n hx hb dX2_goOn_39 rfl (lv_at hl 0 rfl) ?_
      refine lv_aload_n hx hb dX2_goOn_40 rfl (lv_at hl 1 rfl) ?_
      refine k_callpi (v := nI n) (va_runV (As := []) (rest := [.ref a]) ⟨hx, hb, hml, hown, hts⟩ (c_X3_latestNumber l _ hs st0 hc lt e0 n mv hso2 hcm2) (cwV 0 hts gX2_goOn_X3_latestNumber rfl rfl rfl (by decide +kernel) ⟨Nat.le_of_ble_eq_true rfl, Nat.le_of_ble_eq_true rfl⟩) (k_preV hK (k_recv hK.1 hso2 rfl)) rfl rfl hl.1 rfl (lv_room (Nat.le_of_ble_eq_true rfl)) dX2_goOn_41 ⟨(Nat.zero_le _), (Nat.zero_le _)⟩) hS (fun locs hS => ?_)
      refine k_put (A := (fun q => q = a ∨ q = r)) (C := RX2) (T := TX2) (N := 12) (ty := .int) (v := .int (nI n)) hx hb hts hiX2 tyX2 tyX2_ok nmX2 hown hK.1 ho2 (Or.inl rfl) hS rfl 7 (by decide) (hts (.fieldLink RX2 49 "HouseWorkers$ReasoningWork" "pinned" "I") (by decide +kernel)) (fun x9 h9 => u_same (hts (.sameField "HouseWorkers$ReasoningWork" "HouseWorkers$Work" "pinned" "I") (by decide +kernel)) x9 h9) rfl (by decide +kernel) rfl rfl (Nat.le_of_ble_eq_true rfl) dX2_goOn_44 (fun H1 locs hO2 hz3 hq4 hS => ?_)
      have hr5 := va_at.kept hrw2b (hq4 r d4.symm)
      have hd6 := va_at.kept hdr2 (hq4 dr d18)
      refine lv_aload_n hx hb dX2_goOn_47 rfl (lv_at hl 0 rfl) ?_
      refine k_get (C := RX2) (T := TX2) (N := 12) (v := .ref dr) hx hb hts hiX2 hown hK.1 hO2 rfl 11 (by decide) (hts (.fieldLink RX2 14 "HouseWorkers$ReasoningWork" "cells" "LHouseWorkers$Cells;") (by decide +kernel)) (fun _ h9 => h9) rfl dX2_goOn_48 ?_
      refine k_callv (va_runV (As := []) (rest := []) ⟨hx, hb, hml, hown, hts⟩ (c_X0_spread l _ dr r f2 hd6 hr5 d2) (cwV 0 hts gX2_goOn_X0_spread rfl rfl rfl (by decide +kernel) ⟨Nat.le_of_ble_eq_true rfl, Nat.le_of_ble_eq_true rfl⟩) (k_preV hK (k_recv hK.1 hd6 rfl)) rfl rfl hl.1 rfl (lv_room (Nat.le_of_ble_eq_true rfl)) dX2_goOn_51 ⟨(Nat.zero_le _), (Nat.zero_le _)⟩) hS (fun q h => Or.inr h) (fun H5 locs hp5 hz5 hk5 hS => ?_)
      have ho5 := va_at.kept hO2 (hk5 a (va_at.lt hO2) d4)
      have hrw5 := hp5.1
      refine lv_aload_n hx hb dX2_goOn_54 rfl (lv_at hl 0 rfl) ?_
      refine lv_dup hx hb dX2_goOn_55 rfl ?_
      refine k_get (C := RX2) (T := TX2) (N := 12) (v := .int (x 4)) hx hb hts hiX2 hown hK.1 ho5 rfl 4 (by decide) (hts (.fieldLink RX2 20 "HouseWorkers$ReasoningWork" "stepsDone" "I") (by decide +kernel)) (fun x9 h9 => u_same (hts (.sameField "HouseWorkers$ReasoningWork" "HouseWorkers$Work" "stepsDone" "I") (by decide +kernel)) x9 h9) rfl dX2_goOn_56 ?_
      refine lv_iconst (v := 1) hx hb dX2_goOn_59 (by decide) ?_
      refine lv_iadd hx hb dX2_goOn_60 ?_
      refine k_put (A := (fun q => q = a ∨ q = r)) (C := RX2) (T := TX2) (N := 12) (ty := .int) (v := .int ((x 4) + 1)) hx hb hts hiX2 tyX2 tyX2_ok nmX2 hown hK.1 ho5 (Or.inl rfl) hS rfl 4 (by decide) (hts (.fieldLink RX2 20 "HouseWorkers$ReasoningWork" "stepsDone" "I") (by decide +kernel)) (fun x9 h9 => u_same (hts (.sameField "HouseWorkers$ReasoningWork" "HouseWorkers$Work" "stepsDone" "I") (by decide +kernel)) x9 h9) rfl (by decide +kernel) rfl rfl (Nat.le_of_ble_eq_true rfl) dX2_goOn_61 (fun H7 locs hO8 hz9 hq10 hS => ?_)
      have hr11 := va_at.kept hrw5 (hq10 r d4.symm)
      refine lv_iconst (v := 1) hx hb dX2_goOn_64 (by decide) ?_
      exact k_reti hx hb hr hlocks ⟨rfl, hO8, hr11⟩ hS dX2_goOn_65
  · exact absurd hlt (of_decide_eq_true (b2_n c4))
set_option maxHeartbeats 4000000 in
set_option maxRecDepth 100000 in
theorem c_goOn_X2n (l : Launch) {D : va_G} {cI cZ cO : ClassId} {mi : Nat} (H : Heap) (a : Nat) (x : Nat → Int32) (dr : Nat) (hs r : Nat) (f : Nat → Int32) (ho : Ob D a 3 (WFs x [.ref dr]) H) (hdr : Ob D dr 1 [.ref r] H) (hrw : Ai D cI r 16 f H) (hlt : x 4 < x 2) (d4 : a ≠ r) (d2 : dr ≠ r) (h0 : ¬ x 4 = 0) : Met l yX2_goOn wsX2_goOn ({ frames := 2, cells := 0, slots := 0, locals := 53 }) (Pk D cI cZ cO mi [.ref a, .ref hs] H) (Qki (fun rr H1 => rr = 1 ∧ Ob D a 3 (WFs (upd x 4 (x 4 + 1)) [.ref dr]) H1 ∧ Ai D cI r 16 (rnd f) H1) (fun q => q = a ∨ q = r)) 0 0 (fun q => q = a ∨ q = r) := by
  refine Met.ofW (cc := cX2_goOn) (maxL := 2) (ret := (some .int)) (by decide) rfl ?_
  intro p e s m args below meth c s₁ Bd hml hv
  obtain ⟨rfl, rfl, hK⟩ := hv
  have hx := Bd.exec
  have hb := Bd.bytes
  have hr := Bd.returns
  have hts := atoms_spec (ws := wsX2_goOn) Bd.pre
  have hown : s.vm.findClass RX2 = some m.cls := findClass_of_methodNamed Bd.named
  have hlocks := Bd.notSynchronized
  have hS : va_S (fun q => q = a ∨ q = r) s.heap s.heap [] := va_S.rf
  have hl := lv_entry ([.ref a, .ref hs]) (n := 2) (Nat.le_of_ble_eq_true rfl)
  rw [lg_entry_eq]
  generalize (lg_sl ([.ref a, .ref hs]) ++ List.replicate (2 - (lg_sl ([.ref a, .ref hs])).length) Slot.unset).toArray = ls at hl ⊢
  have hl : lv_has ls 2 [(0, .ref a), (1, .ref hs)] := hl
  have hiX2 : ∀ w ∈ wsX20, w ∈ wsX2_goOn := by decide +kernel
  refine lv_aload_n hx hb dX2_goOn_0 rfl (lv_at hl 0 rfl) ?_
  refine k_callpi (v := b2 (decide (¬ x 4 < x 2))) (va_runU (As := []) (rest := []) ⟨hx, hb, hml, hown, hts⟩ (c_doneAll_X2 l _ a x dr ho) (va_cwU 0 hts gX2_goOn_X5_hasDoneAllSteps_u24X2 rfl rfl rfl rfl (by decide +kernel) ⟨Nat.le_of_ble_eq_true rfl, Nat.le_of_ble_eq_true rfl⟩) (k_preV hK (k_recv hK.1 ho rfl)) rfl rfl hl.1 rfl (lv_room (Nat.le_of_ble_eq_true rfl)) dX2_goOn_1 ⟨(Nat.zero_le _), (Nat.zero_le _)⟩) hS (fun locs hS => ?_)
  refine lv_if_eq (tgt := 21) hx hb dX2_goOn_4 (by decide) (fun c4 => ?_) (fun c4 => ?_)
  · refine lv_aload_n hx hb dX2_goOn_21 rfl (lv_at hl 0 rfl) ?_
    refine k_get (C := RX2) (T := TX2) (N := 12) (v := .int (x 4)) hx hb hts hiX2 hown hK.1 ho rfl 4 (by decide) (hts (.fieldLink RX2 20 "HouseWorkers$ReasoningWork" "stepsDone" "I") (by decide +kernel)) (fun x9 h9 => u_same (hts (.sameField "HouseWorkers$ReasoningWork" "HouseWorkers$Work" "stepsDone" "I") (by decide +kernel)) x9 h9) rfl dX2_goOn_22 ?_
    refine lv_if_ne (tgt := 47) hx hb dX2_goOn_25 (by decide) (fun c25 => ?_) (fun c25 => ?_)
    · refine lv_aload_n hx hb dX2_goOn_47 rfl (lv_at hl 0 rfl) ?_
      refine k_get (C := RX2) (T := TX2) (N := 12) (v := .ref dr) hx hb hts hiX2 hown hK.1 ho rfl 11 (by decide) (hts (.fieldLink RX2 14 "HouseWorkers$ReasoningWork" "cells" "LHouseWorkers$Cells;") (by decide +kernel)) (fun _ h9 => h9) rfl dX2_goOn_48 ?_
      refine k_callv (va_runV (As := []) (rest := []) ⟨hx, hb, hml, hown, hts⟩ (c_X0_spread l _ dr r f hdr hrw d2) (cwV 0 hts gX2_goOn_X0_spread rfl rfl rfl (by decide +kernel) ⟨Nat.le_of_ble_eq_true rfl, Nat.le_of_ble_eq_true rfl⟩) (k_preV hK (k_recv hK.1 hdr rfl)) rfl rfl hl.1 rfl (lv_room (Nat.le_of_ble_eq_true rfl)) dX2_goOn_51 ⟨(Nat.zero_le _), (Nat.zero_le _)⟩) hS (fun q h => Or.inr h) (fun H5 locs hp5 hz5 hk5 hS => ?_)
      have ho5 := va_at.kept ho (hk5 a (va_at.lt ho) d4)
      have hrw5 := hp5.1
      refine lv_aload_n hx hb dX2_goOn_54 rfl (lv_at hl 0 rfl) ?_
      refine lv_dup hx hb dX2_goOn_55 rfl ?_
      refine k_get (C := RX2) (T := TX2) (N := 12) (v := .int (x 4)) hx hb hts hiX2 hown hK.1 ho5 rfl 4 (by decide) (hts (.fieldLink RX2 20 "HouseWorkers$ReasoningWork" "stepsDone" "I") (by decide +kernel)) (fun x9 h9 => u_same (hts (.sameField "HouseWorkers$ReasoningWork" "HouseWorkers$Work" "stepsDone" "I") (by decide +kernel)) x9 h9) rfl dX2_goOn_56 ?_
      refine lv_iconst (v := 1) hx hb dX2_goOn_59 (by decide) ?_
      refine lv_iadd hx hb dX2_goOn_60 ?_
      refine k_put (A := (fun q => q = a ∨ q = r)) (C := RX2) (T := TX2) (N := 12) (ty := .int) (v := .int ((x 4) + 1)) hx hb hts hiX2 tyX2 tyX2_ok nmX2 hown hK.1 ho5 (Or.inl rfl) hS rfl 4 (by decide) (hts (.fieldLink RX2 20 "HouseWorkers$ReasoningWork" "stepsDone" "I") (by decide +kernel)) (fun x9 h9 => u_same (hts (.sameField "HouseWorkers$ReasoningWork" "HouseWorkers$Work" "stepsDone" "I") (by decide +kernel)) x9 h9) rfl (by decide +kernel) rfl rfl (Nat.le_of_ble_eq_true rfl) dX2_goOn_61 (fun H1 locs hO2 hz3 hq4 hS => ?_)
      have hr5 := va_at.kept hrw5 (hq4 r d4.symm)
      refine lv_iconst (v := 1) hx hb dX2_goOn_64 (by decide) ?_
      exact k_reti hx hb hr hlocks ⟨rfl, hO2, hr5⟩ hS dX2_goOn_65
    · exact absurd c25 h0
  · exact absurd hlt (of_decide_eq_true (b2_n c4))
