theorem i16 (x : Int32) : x < 16 ↔ ¬ 15 < x := by
  rw [Int32.lt_iff_toInt_lt, Int32.lt_iff_toInt_lt]
  have h1 : (16 : Int32).toInt = 16 := by decide
  have h2 : (15 : Int32).toInt = 15 := by decide
  omega
set_option maxHeartbeats 4000000 in
set_option maxRecDepth 100000 in
theorem c_isCell (l : Launch) {D : va_G} {cI cZ cO : ClassId} {mi : Nat} (H : Heap) (x : Int32)  : Met l yX7_isCell wsX7_isCell ({ frames := 0, cells := 0, slots := 0, locals := 0 }) (Pk D cI cZ cO mi [.int x] H) (Qpi H (b2 (inB x 0 15))) 0 0 (fun _ => False) := by
  refine Met.ofW (cc := cX7_isCell) (maxL := 1) (ret := (some .boolean)) (by decide) rfl ?_
  intro p e s m args below meth c s₁ Bd hml hv
  obtain ⟨rfl, rfl, hK⟩ := hv
  have hx := Bd.exec
  have hb := Bd.bytes
  have hr := Bd.returns
  have hts := atoms_spec (ws := wsX7_isCell) Bd.pre
  have hown : s.vm.findClass RX7 = some m.cls := findClass_of_methodNamed Bd.named
  have hlocks := Bd.notSynchronized
  have hS : va_S (fun _ => False) s.heap s.heap [] := va_S.rf
  have hl := lv_entry ([.int x]) (n := 1) (Nat.le_of_ble_eq_true rfl)
  rw [lg_entry_eq]
  generalize (lg_sl ([.int x]) ++ List.replicate (1 - (lg_sl ([.int x])).length) Slot.unset).toArray = ls at hl ⊢
  have hl : lv_has ls 1 [(0, .int x)] := hl
  refine lv_iload_n hx hb dX7_isCell_0 rfl (lv_at hl 0 rfl) ?_
  refine lv_if_lt (tgt := 14) hx hb dX7_isCell_1 (by decide) (fun c1 => ?_) (fun c1 => ?_)
  · refine lv_iconst (v := 0) hx hb dX7_isCell_14 (by decide) ?_
    exact k_retz hx hb hr hlocks (by decide) ⟨(b2_f (by simp [inB, c1])).symm, rfl⟩ hS dX7_isCell_15
  · refine lv_iload_n hx hb dX7_isCell_4 rfl (lv_at hl 0 rfl) ?_
    refine lv_bipush (v := 16) hx hb dX7_isCell_5 (by decide) ?_
    refine lv_icmp_ge (tgt := 14) hx hb dX7_isCell_7 (by decide) (fun c7 => ?_) (fun c7 => ?_)
    · have c7 := Int32.not_lt.mpr c7
      have c7 := Decidable.byContradiction (fun q => c7 ((i16 x).mpr q))
      refine lv_iconst (v := 0) hx hb dX7_isCell_14 (by decide) ?_
      exact k_retz hx hb hr hlocks (by decide) ⟨(b2_f (by simp [inB, c1, c7])).symm, rfl⟩ hS dX7_isCell_15
    · have c7 := Int32.not_le.mp c7
      have c7 := (i16 x).mp c7
      refine lv_iconst (v := 1) hx hb dX7_isCell_10 (by decide) ?_
      refine lv_goto (tgt := 15) hx hb dX7_isCell_11 (by decide) ?_
      exact k_retz hx hb hr hlocks (by decide) ⟨(b2_t (by simp [inB, c1, c7])).symm, rfl⟩ hS dX7_isCell_15
set_option maxHeartbeats 4000000 in
set_option maxRecDepth 100000 in
theorem c_areSteps (l : Launch) {D : va_G} {cI cZ cO : ClassId} {mi : Nat} (H : Heap) (x : Int32)  : Met l yX7_areSteps wsX7_areSteps ({ frames := 0, cells := 0, slots := 0, locals := 0 }) (Pk D cI cZ cO mi [.int x] H) (Qpi H (b2 (inB x 1 20))) 0 0 (fun _ => False) := by
  refine Met.ofW (cc := cX7_areSteps) (maxL := 1) (ret := (some .boolean)) (by decide) rfl ?_
  intro p e s m args below meth c s₁ Bd hml hv
  obtain ⟨rfl, rfl, hK⟩ := hv
  have hx := Bd.exec
  have hb := Bd.bytes
  have hr := Bd.returns
  have hts := atoms_spec (ws := wsX7_areSteps) Bd.pre
  have hown : s.vm.findClass RX7 = some m.cls := findClass_of_methodNamed Bd.named
  have hlocks := Bd.notSynchronized
  have hS : va_S (fun _ => False) s.heap s.heap [] := va_S.rf
  have hl := lv_entry ([.int x]) (n := 1) (Nat.le_of_ble_eq_true rfl)
  rw [lg_entry_eq]
  generalize (lg_sl ([.int x]) ++ List.replicate (1 - (lg_sl ([.int x])).length) Slot.unset).toArray = ls at hl ⊢
  have hl : lv_has ls 1 [(0, .int x)] := hl
  refine lv_iload_n hx hb dX7_areSteps_0 rfl (lv_at hl 0 rfl) ?_
  refine lv_iconst (v := 1) hx hb dX7_areSteps_1 (by decide) ?_
  refine lv_icmp_lt (tgt := 15) hx hb dX7_areSteps_2 (by decide) (fun c2 => ?_) (fun c2 => ?_)
  · refine lv_iconst (v := 0) hx hb dX7_areSteps_15 (by decide) ?_
    exact k_retz hx hb hr hlocks (by decide) ⟨(b2_f (by simp [inB, c2])).symm, rfl⟩ hS dX7_areSteps_16
  · refine lv_iload_n hx hb dX7_areSteps_5 rfl (lv_at hl 0 rfl) ?_
    refine lv_bipush (v := 20) hx hb dX7_areSteps_6 (by decide) ?_
    refine lv_icmp_gt (tgt := 15) hx hb dX7_areSteps_8 (by decide) (fun c8 => ?_) (fun c8 => ?_)
    · refine lv_iconst (v := 0) hx hb dX7_areSteps_15 (by decide) ?_
      exact k_retz hx hb hr hlocks (by decide) ⟨(b2_f (by simp [inB, c2, c8])).symm, rfl⟩ hS dX7_areSteps_16
    · refine lv_iconst (v := 1) hx hb dX7_areSteps_11 (by decide) ?_
      refine lv_goto (tgt := 16) hx hb dX7_areSteps_12 (by decide) ?_
      exact k_retz hx hb hr hlocks (by decide) ⟨(b2_t (by simp [inB, c2, c8])).symm, rfl⟩ hS dX7_areSteps_16
set_option maxHeartbeats 4000000 in
set_option maxRecDepth 100000 in
theorem c_isFailsAt (l : Launch) {D : va_G} {cI cZ cO : ClassId} {mi : Nat} (H : Heap) (x : Int32)  : Met l yX7_isFailsAt wsX7_isFailsAt ({ frames := 0, cells := 0, slots := 0, locals := 0 }) (Pk D cI cZ cO mi [.int x] H) (Qpi H (b2 (inB x 0 30))) 0 0 (fun _ => False) := by
  refine Met.ofW (cc := cX7_isFailsAt) (maxL := 1) (ret := (some .boolean)) (by decide) rfl ?_
  intro p e s m args below meth c s₁ Bd hml hv
  obtain ⟨rfl, rfl, hK⟩ := hv
  have hx := Bd.exec
  have hb := Bd.bytes
  have hr := Bd.returns
  have hts := atoms_spec (ws := wsX7_isFailsAt) Bd.pre
  have hown : s.vm.findClass RX7 = some m.cls := findClass_of_methodNamed Bd.named
  have hlocks := Bd.notSynchronized
  have hS : va_S (fun _ => False) s.heap s.heap [] := va_S.rf
  have hl := lv_entry ([.int x]) (n := 1) (Nat.le_of_ble_eq_true rfl)
  rw [lg_entry_eq]
  generalize (lg_sl ([.int x]) ++ List.replicate (1 - (lg_sl ([.int x])).length) Slot.unset).toArray = ls at hl ⊢
  have hl : lv_has ls 1 [(0, .int x)] := hl
  refine lv_iload_n hx hb dX7_isFailsAt_0 rfl (lv_at hl 0 rfl) ?_
  refine lv_if_lt (tgt := 14) hx hb dX7_isFailsAt_1 (by decide) (fun c1 => ?_) (fun c1 => ?_)
  · refine lv_iconst (v := 0) hx hb dX7_isFailsAt_14 (by decide) ?_
    exact k_retz hx hb hr hlocks (by decide) ⟨(b2_f (by simp [inB, c1])).symm, rfl⟩ hS dX7_isFailsAt_15
  · refine lv_iload_n hx hb dX7_isFailsAt_4 rfl (lv_at hl 0 rfl) ?_
    refine lv_bipush (v := 30) hx hb dX7_isFailsAt_5 (by decide) ?_
    refine lv_icmp_gt (tgt := 14) hx hb dX7_isFailsAt_7 (by decide) (fun c7 => ?_) (fun c7 => ?_)
    · refine lv_iconst (v := 0) hx hb dX7_isFailsAt_14 (by decide) ?_
      exact k_retz hx hb hr hlocks (by decide) ⟨(b2_f (by simp [inB, c1, c7])).symm, rfl⟩ hS dX7_isFailsAt_15
    · refine lv_iconst (v := 1) hx hb dX7_isFailsAt_10 (by decide) ?_
      refine lv_goto (tgt := 15) hx hb dX7_isFailsAt_11 (by decide) ?_
      exact k_retz hx hb hr hlocks (by decide) ⟨(b2_t (by simp [inB, c1, c7])).symm, rfl⟩ hS dX7_isFailsAt_15
set_option maxHeartbeats 4000000 in
set_option maxRecDepth 100000 in
theorem c_nextNumber (l : Launch) {D : va_G} {cI cZ cO : ClassId} {mi : Nat} (H : Heap) {eA : Nat} {B : Nat → Prop} (h0 : Nat) (wa : Nat → Nat) (σ : Sg) (nW nV nE : Nat) (hR : HR D cI cO eA B h0 wa σ nW nV nE H) (hI : Inv σ nW nV nE) : Met l yX7_nextNumber wsX7_nextNumber ({ frames := 1, cells := 0, slots := 0, locals := 20 }) (Pk D cI cZ cO mi [.ref h0] H) (Qpi H (if ¬ σ 2 0 = 0 then (-2) else if nW = 30 then (-3) else nI nW)) 0 0 (fun _ => False) := by
  refine Met.ofW (cc := cX7_nextNumber) (maxL := 1) (ret := (some .int)) (by decide) rfl ?_
  intro p e s m args below meth c s₁ Bd hml hv
  obtain ⟨rfl, rfl, hK⟩ := hv
  have hx := Bd.exec
  have hb := Bd.bytes
  have hr := Bd.returns
  have hts := atoms_spec (ws := wsX7_nextNumber) Bd.pre
  have hown : s.vm.findClass RX7 = some m.cls := findClass_of_methodNamed Bd.named
  have hlocks := Bd.notSynchronized
  have hS : va_S (fun _ => False) s.heap s.heap [] := va_S.rf
  have hl := lv_entry ([.ref h0]) (n := 1) (Nat.le_of_ble_eq_true rfl)
  rw [lg_entry_eq]
  generalize (lg_sl ([.ref h0]) ++ List.replicate (1 - (lg_sl ([.ref h0])).length) Slot.unset).toArray = ls at hl ⊢
  have hl : lv_has ls 1 [(0, .ref h0)] := hl
  have hiX7 : ∀ w ∈ wsX70, w ∈ wsX7_nextNumber := by decide +kernel
  obtain ⟨hs, hc, hw, he, ec, ew, ee, pc, pw, pe, gc, gw, ge, va, da, ra, te, pn, rl, R1, R2, ⟨R3, R3g⟩, ⟨R4, R4g⟩, ⟨R5, R5g⟩, R6, R7, R8, R9, RT, RB, RN, RL, R12, R13⟩ := hR
  have hn30 := hI.n30
  have heW := hI.eW
  have hvE := hI.2.2.2.2.2.1
  have hv1 := hI.2.2.2.2.1
  obtain ⟨⟨mw, hwo⟩, hwm⟩ := id R4
  refine lv_aload_n hx hb dX7_nextNumber_0 rfl (lv_at hl 0 rfl) ?_
  refine k_get (C := RX7) (T := TX7) (N := 6) (v := .int (σ 2 0)) hx hb hts hiX7 hown hK.1 R1 rfl 3 (by decide) (hts (.fieldLink RX7 99 "HouseWorkers" "closed" "Z") (by decide +kernel)) (fun _ h9 => h9) rfl dX7_nextNumber_1 ?_
  refine lv_if_eq (tgt := 10) hx hb dX7_nextNumber_4 (by decide) (fun c4 => ?_) (fun c4 => ?_)
  · refine lv_aload_n hx hb dX7_nextNumber_10 rfl (lv_at hl 0 rfl) ?_
    refine k_get (C := RX7) (T := TX7) (N := 6) (v := .ref hw) hx hb hts hiX7 hown hK.1 R1 rfl 1 (by decide) (hts (.fieldLink RX7 19 "HouseWorkers" "works" "Ljava/util/ArrayList;") (by decide +kernel)) (fun _ h9 => h9) rfl dX7_nextNumber_11 ?_
    refine k_callpi (v := nI nW) (va_runV (As := []) (rest := []) ⟨hx, hb, hml, hown, hts⟩ (c_AL_size l _ hw ew nW mw hwo) (cwV 0 hts gX7_nextNumber_Jx4a65c_size_8abf5 rfl rfl rfl (by decide +kernel) ⟨Nat.le_of_ble_eq_true rfl, Nat.le_of_ble_eq_true rfl⟩) (k_preV hK (k_recv hK.1 hwo rfl)) rfl rfl hl.1 rfl (lv_room (Nat.le_of_ble_eq_true rfl)) dX7_nextNumber_14 ⟨(Nat.zero_le _), (Nat.zero_le _)⟩) hS (fun locs hS => ?_)
    refine lv_bipush (v := 30) hx hb dX7_nextNumber_17 (by decide) ?_
    refine lv_icmp_ge (tgt := 32) hx hb dX7_nextNumber_19 (by decide) (fun c19 => ?_) (fun c19 => ?_)
    · have c19 := Int32.not_lt.mpr c19
      have hge : nW = 30 := by rcases Nat.lt_or_ge nW 30 with q | q; (exact absurd (nI_lt q (by omega)) c19); omega
      refine lv_bipush (v := -3) hx hb dX7_nextNumber_32 (by decide) ?_
      exact k_reti hx hb hr hlocks ⟨by rw [if_neg (fun q => q c4), if_pos hge], rfl⟩ hS dX7_nextNumber_34
    · have c19 := Int32.not_le.mp c19
      have hlt : nW < 30 := (nI_ltI (b := 30) (by omega) (by omega)).mp c19
      refine lv_aload_n hx hb dX7_nextNumber_22 rfl (lv_at hl 0 rfl) ?_
      refine k_get (C := RX7) (T := TX7) (N := 6) (v := .ref hw) hx hb hts hiX7 hown hK.1 R1 rfl 1 (by decide) (hts (.fieldLink RX7 19 "HouseWorkers" "works" "Ljava/util/ArrayList;") (by decide +kernel)) (fun _ h9 => h9) rfl dX7_nextNumber_23 ?_
      refine k_callpi (v := nI nW) (va_runV (As := []) (rest := []) ⟨hx, hb, hml, hown, hts⟩ (c_AL_size l _ hw ew nW mw hwo) (cwV 0 hts gX7_nextNumber_Jx4a65c_size_8abf5 rfl rfl rfl (by decide +kernel) ⟨Nat.le_of_ble_eq_true rfl, Nat.le_of_ble_eq_true rfl⟩) (k_preV hK (k_recv hK.1 hwo rfl)) rfl rfl hl.1 rfl (lv_room (Nat.le_of_ble_eq_true rfl)) dX7_nextNumber_26 ⟨(Nat.zero_le _), (Nat.zero_le _)⟩) hS (fun locs hS => ?_)
      refine lv_goto (tgt := 34) hx hb dX7_nextNumber_29 (by decide) ?_
      exact k_reti hx hb hr hlocks ⟨by rw [if_neg (fun q => q c4), if_neg (by omega)], rfl⟩ hS dX7_nextNumber_34
  · refine lv_bipush (v := -2) hx hb dX7_nextNumber_7 (by decide) ?_
    exact k_reti hx hb hr hlocks ⟨by rw [if_pos c4], rfl⟩ hS dX7_nextNumber_9
set_option maxHeartbeats 4000000 in
set_option maxRecDepth 100000 in
theorem c_find (l : Launch) {D : va_G} {cI cZ cO : ClassId} {mi : Nat} (H : Heap) {eA : Nat} {B : Nat → Prop} (h0 : Nat) (wa : Nat → Nat) (σ : Sg) (nW nV nE : Nat) (x : Int32) (hR : HR D cI cO eA B h0 wa σ nW nV nE H) (hI : Inv σ nW nV nE) : Met l yX7_find wsX7_find ({ frames := 3, cells := 0, slots := 0, locals := 64 }) (Pk D cI cZ cO mi [.ref h0, .int x] H) (Qpq H (if inB x 0 (σ 3 0 - 1) = true then some (wa (nat x)) else none)) 0 0 (fun _ => False) := by
  refine Met.ofW (cc := cX7_find) (maxL := 2) (ret := (some (.object "HouseWorkers$Work"))) (by decide) rfl ?_
  intro p e s m args below meth c s₁ Bd hml hv
  obtain ⟨rfl, rfl, hK⟩ := hv
  have hx := Bd.exec
  have hb := Bd.bytes
  have hr := Bd.returns
  have hts := atoms_spec (ws := wsX7_find) Bd.pre
  have hown : s.vm.findClass RX7 = some m.cls := findClass_of_methodNamed Bd.named
  have hlocks := Bd.notSynchronized
  have hS : va_S (fun _ => False) s.heap s.heap [] := va_S.rf
  have hl := lv_entry ([.ref h0, .int x]) (n := 2) (Nat.le_of_ble_eq_true rfl)
  rw [lg_entry_eq]
  generalize (lg_sl ([.ref h0, .int x]) ++ List.replicate (2 - (lg_sl ([.ref h0, .int x])).length) Slot.unset).toArray = ls at hl ⊢
  have hl : lv_has ls 2 [(0, .ref h0), (1, .int x)] := hl
  have hiX7 : ∀ w ∈ wsX70, w ∈ wsX7_find := by decide +kernel
  obtain ⟨hs, hc, hw, he, ec, ew, ee, pc, pw, pe, gc, gw, ge, va, da, ra, te, pn, rl, R1, R2, ⟨R3, R3g⟩, ⟨R4, R4g⟩, ⟨R5, R5g⟩, R6, R7, R8, R9, RT, RB, RN, RL, R12, R13⟩ := hR
  have hn30 := hI.n30
  have heW := hI.eW
  have hvE := hI.2.2.2.2.2.1
  have hv1 := hI.2.2.2.2.1
  obtain ⟨⟨mw, hwo⟩, hwm⟩ := id R4
  refine lv_iload_n hx hb dX7_find_0 rfl (lv_at hl 1 rfl) ?_
  refine lv_if_lt (tgt := 15) hx hb dX7_find_1 (by decide) (fun c1 => ?_) (fun c1 => ?_)
  · refine lv_null hx hb dX7_find_15 ?_
    exact k_retq hx hb hr (Or.inl ⟨_, rfl⟩) hlocks none ⟨by rw [if_neg (by unfold inB; simp [c1])], rfl⟩ hS dX7_find_16
  · refine lv_iload_n hx hb dX7_find_4 rfl (lv_at hl 1 rfl) ?_
    refine lv_aload_n hx hb dX7_find_5 rfl (lv_at hl 0 rfl) ?_
    refine k_get (C := RX7) (T := TX7) (N := 6) (v := .ref hw) hx hb hts hiX7 hown hK.1 R1 rfl 1 (by decide) (hts (.fieldLink RX7 19 "HouseWorkers" "works" "Ljava/util/ArrayList;") (by decide +kernel)) (fun _ h9 => h9) rfl dX7_find_6 ?_
    refine k_callpi (v := nI nW) (va_runV (As := []) (rest := [.int x]) ⟨hx, hb, hml, hown, hts⟩ (c_AL_size l _ hw ew nW mw hwo) (cwV 0 hts gX7_find_Jx4a65c_size_8abf5 rfl rfl rfl (by decide +kernel) ⟨Nat.le_of_ble_eq_true rfl, Nat.le_of_ble_eq_true rfl⟩) (k_preV hK (k_recv hK.1 hwo rfl)) rfl rfl hl.1 rfl (lv_room (Nat.le_of_ble_eq_true rfl)) dX7_find_9 ⟨(Nat.zero_le _), (Nat.zero_le _)⟩) hS (fun locs hS => ?_)
    refine lv_icmp_lt (tgt := 17) hx hb dX7_find_12 (by decide) (fun c12 => ?_) (fun c12 => ?_)
    · refine lv_aload_n hx hb dX7_find_17 rfl (lv_at hl 0 rfl) ?_
      refine k_get (C := RX7) (T := TX7) (N := 6) (v := .ref hw) hx hb hts hiX7 hown hK.1 R1 rfl 1 (by decide) (hts (.fieldLink RX7 19 "HouseWorkers" "works" "Ljava/util/ArrayList;") (by decide +kernel)) (fun _ h9 => h9) rfl dX7_find_18 ?_
      refine lv_iload_n hx hb dX7_find_21 rfl (lv_at hl 1 rfl) ?_
      obtain ⟨j, hjb, rfl⟩ := nI_of c1
      have hjW : j < nW := (nI_ltI hjb (by omega)).mp c12
      have hin : inB (nI j) 0 (σ 3 0 - 1) = true := by rw [hI.1]; exact inB_not hjW (by omega)
      obtain ⟨hnp, hnc, hcs, har, -⟩ : 0 < nW ∧ nW ≤ pw ∧ (pw = 10 ∨ pw = 15 ∨ pw = 22 ∨ pw = 33) ∧ Ar D cO ew pw gw s.heap ∧ ∀ i, nW ≤ i → gw i = none := hwm.elim (fun q => absurd hjW (by omega)) id
      refine k_callpq (v := gw j) (va_runV (As := [.int (nI j)]) (rest := []) ⟨hx, hb, hml, hown, hts⟩ (c_AL_get l _ hw ew nW pw j mw gw hwo har hjW hnc (by omega)) (cwV 1 hts gX7_find_Jx4a65c_get_915e3 rfl rfl rfl (by decide +kernel) ⟨Nat.le_of_ble_eq_true rfl, Nat.le_of_ble_eq_true rfl⟩) (k_preV hK (k_recv hK.1 hwo rfl)) rfl rfl hl.1 rfl (lv_room (Nat.le_of_ble_eq_true rfl)) dX7_find_22 ⟨(Nat.zero_le _), (Nat.zero_le _)⟩) hS (fun locs hS => ?_)
      rw [R4g j hjW]
      refine W.eq (g2 := F0 m 25 ls [.ref (wa j)]) rfl ?_
      obtain ⟨ci, ex, hvc, hob⟩ := (R7 j hjW).ob
      refine w_recv hK hob hvc hown hx hb (hts (.classLink RX7 91 "HouseWorkers$Work") (by decide +kernel)) dX7_find_25 ?_
      exact k_retq hx hb hr (Or.inl ⟨_, rfl⟩) hlocks (some (wa j)) ⟨by rw [if_pos hin, nat_nI (by omega)], rfl⟩ hS dX7_find_28
    · refine lv_null hx hb dX7_find_15 ?_
      exact k_retq hx hb hr (Or.inl ⟨_, rfl⟩) hlocks none ⟨by rw [if_neg (fun q => by rw [hI.1] at q; obtain ⟨j, hj, e⟩ := inB_idx (by omega) q; exact c12 (by rw [e]; exact nI_lt hj (by omega)))], rfl⟩ hS dX7_find_16
set_option maxHeartbeats 4000000 in
set_option maxRecDepth 100000 in
theorem c_nobody (l : Launch) {D : va_G} {cI cZ cO : ClassId} {mi : Nat} (H : Heap) {eA : Nat} {B : Nat → Prop} (h0 : Nat) (wa : Nat → Nat) (σ : Sg) (nW nV nE : Nat) (j : Nat) (hR : HR D cI cO eA B h0 wa σ nW nV nE H) (hI : Inv σ nW nV nE) (hj : j < nW) : Met l yX7_hasNobodyBefore wsX7_hasNobodyBefore ({ frames := 3, cells := 0, slots := 0, locals := 64 }) (Pk D cI cZ cO mi [.ref h0, .ref (wa j)] H) (Qpi H (b2 (nxA σ j))) 0 0 (fun _ => False) := by
  refine Met.ofW (cc := cX7_hasNobodyBefore) (maxL := 4) (ret := (some .boolean)) (by decide) rfl ?_
  intro p e s m args below meth c s₁ Bd hml hv
  obtain ⟨rfl, rfl, hK⟩ := hv
  have hx := Bd.exec
  have hb := Bd.bytes
  have hr := Bd.returns
  have hts := atoms_spec (ws := wsX7_hasNobodyBefore) Bd.pre
  have hown : s.vm.findClass RX7 = some m.cls := findClass_of_methodNamed Bd.named
  have hlocks := Bd.notSynchronized
  have hS : va_S (fun _ => False) s.heap s.heap [] := va_S.rf
  have hl := lv_entry ([.ref h0, .ref (wa j)]) (n := 4) (Nat.le_of_ble_eq_true rfl)
  rw [lg_entry_eq]
  generalize (lg_sl ([.ref h0, .ref (wa j)]) ++ List.replicate (4 - (lg_sl ([.ref h0, .ref (wa j)])).length) Slot.unset).toArray = ls at hl ⊢
  have hl : lv_has ls 4 [(0, .ref h0), (1, .ref (wa j))] := hl
  have hiX7 : ∀ w ∈ wsX70, w ∈ wsX7_hasNobodyBefore := by decide +kernel
  obtain ⟨hs, hc, hw, he, ec, ew, ee, pc, pw, pe, gc, gw, ge, va, da, ra, te, pn, rl, R1, R2, ⟨R3, R3g⟩, ⟨R4, R4g⟩, ⟨R5, R5g⟩, R6, R7, R8, R9, RT, RB, RN, RL, R12, R13⟩ := hR
  have hn30 := hI.n30
  have heW := hI.eW
  have hvE := hI.2.2.2.2.2.1
  have hv1 := hI.2.2.2.2.1
  obtain ⟨⟨mw, hwo⟩, hwm⟩ := id R4
  have hiX1 : ∀ w ∈ wsX10, w ∈ wsX7_hasNobodyBefore := by decide +kernel
  have hiX2 : ∀ w ∈ wsX20, w ∈ wsX7_hasNobodyBefore := by decide +kernel
  have hiX4 : ∀ w ∈ wsX40, w ∈ wsX7_hasNobodyBefore := by decide +kernel
  have hiX6 : ∀ w ∈ wsX60, w ∈ wsX7_hasNobodyBefore := by decide +kernel
  obtain ⟨cj, xj, hvj, hoj⟩ := (R7 j hj).ob
  refine lv_iconst (v := 0) hx hb dX7_hasNobodyBefore_0 (by decide) ?_
  refine lv_istore_n (lv' := [(2, .int 0), (0, .ref h0), (1, .ref (wa j))]) hx hb dX7_hasNobodyBefore_1 rfl hl (by decide) rfl (fun ls hl => ?_)
  generalize ([] : List Loc) = locs at hS ⊢
  have loop : ∀ (n : Nat), ∀ (i : Nat), i ≤ j → j + 1 ≤ i + n → nxA σ i = true → ∀ (locs : List Loc), va_S (fun _ => False) s.heap s.heap locs → ∀ ls : Array Slot, lv_has ls 4 [(2, .int (nI i)), (0, .ref h0), (1, .ref (wa j))] → W p l e (headSpec wsX7_hasNobodyBefore ({ frames := 3, cells := 0, slots := 0, locals := 64 })).room s m ([.ref h0, .ref (wa j)] : List Value).toArray below meth c s.heap locs 0 0 (MQ below (Qpi s.heap (b2 (nxA σ j))) ([.ref h0, .ref (wa j)] : List Value).toArray s 0 0 (fun _ => False)) (F0 m 2 ls []) := by
    intro n
    induction n with
    | zero => intro i h1 h2; exact absurd h2 (by omega)
    | succ n ih =>
      intro i hi hn hnx locs hS ls hl
      refine lv_iload_n hx hb dX7_hasNobodyBefore_2 rfl (lv_at hl 0 rfl) ?_
      refine lv_aload_n hx hb dX7_hasNobodyBefore_3 rfl (lv_at hl 2 rfl) ?_
      refine w_get (x := wx σ te pn j) hx hb hts hiX1 hiX2 hiX4 hiX6 hown hK hoj hvj 0 (by decide) rfl rfl rfl rfl (hts (.fieldLink RX7 133 "HouseWorkers$Work" "number" "I") (by decide +kernel)) (fun _ => rfl) dX7_hasNobodyBefore_4 ?_
      refine W.eq (g2 := F0 m 7 ls [.int (nI j), .int (nI i)]) rfl ?_
      refine lv_icmp_ge (tgt := 55) hx hb dX7_hasNobodyBefore_7 (by decide) (fun c7 => ?_) (fun c7 => ?_)
      · have c7 := Int32.not_lt.mpr c7
        have hij : i = j := Nat.le_antisymm hi (Nat.le_of_not_lt (fun q => c7 (nI_lt q (by omega))))
        refine lv_iconst (v := 1) hx hb dX7_hasNobodyBefore_55 (by decide) ?_
        exact k_retz hx hb hr hlocks (by decide) ⟨by rw [← hij]; exact (b2_t hnx).symm, rfl⟩ hS dX7_hasNobodyBefore_56
      · have c7 := Int32.not_le.mp c7
        have hlt : i < j := (nI_ltI (by omega) (by omega)).mp c7
        refine lv_iload_n hx hb dX7_hasNobodyBefore_10 rfl (lv_at hl 0 rfl) ?_
        refine lv_aload_n hx hb dX7_hasNobodyBefore_11 rfl (lv_at hl 1 rfl) ?_
        refine k_get (C := RX7) (T := TX7) (N := 6) (v := .ref hw) hx hb hts hiX7 hown hK.1 R1 rfl 1 (by decide) (hts (.fieldLink RX7 19 "HouseWorkers" "works" "Ljava/util/ArrayList;") (by decide +kernel)) (fun _ h9 => h9) rfl dX7_hasNobodyBefore_12 ?_
        refine k_callpi (v := nI nW) (va_runV (As := []) (rest := [.int (nI i)]) ⟨hx, hb, hml, hown, hts⟩ (c_AL_size l _ hw ew nW mw hwo) (cwV 0 hts gX7_hasNobodyBefore_Jx4a65c_size_8abf5 rfl rfl rfl (by decide +kernel) ⟨Nat.le_of_ble_eq_true rfl, Nat.le_of_ble_eq_true rfl⟩) (k_preV hK (k_recv hK.1 hwo rfl)) rfl rfl hl.1 rfl (lv_room (Nat.le_of_ble_eq_true rfl)) dX7_hasNobodyBefore_15 ⟨(Nat.zero_le _), (Nat.zero_le _)⟩) hS (fun locs hS => ?_)
        refine lv_icmp_ge (tgt := 55) hx hb dX7_hasNobodyBefore_18 (by decide) (fun c18 => ?_) (fun c18 => ?_)
        · have c18 := Int32.not_lt.mpr c18
          exact absurd (nI_lt (show i < nW by omega) (by omega)) c18
        · have c18 := Int32.not_le.mp c18
          have hiW : i < nW := by omega
          have hwi := hI.wi hiW
          refine lv_aload_n hx hb dX7_hasNobodyBefore_21 rfl (lv_at hl 1 rfl) ?_
          refine k_get (C := RX7) (T := TX7) (N := 6) (v := .ref hw) hx hb hts hiX7 hown hK.1 R1 rfl 1 (by decide) (hts (.fieldLink RX7 19 "HouseWorkers" "works" "Ljava/util/ArrayList;") (by decide +kernel)) (fun _ h9 => h9) rfl dX7_hasNobodyBefore_22 ?_
          refine lv_iload_n hx hb dX7_hasNobodyBefore_25 rfl (lv_at hl 0 rfl) ?_
          obtain ⟨hnp, hnc, hcs, har, -⟩ : 0 < nW ∧ nW ≤ pw ∧ (pw = 10 ∨ pw = 15 ∨ pw = 22 ∨ pw = 33) ∧ Ar D cO ew pw gw s.heap ∧ ∀ i, nW ≤ i → gw i = none := hwm.elim (fun q => absurd hiW (by omega)) id
          refine k_callpq (v := gw i) (va_runV (As := [.int (nI i)]) (rest := []) ⟨hx, hb, hml, hown, hts⟩ (c_AL_get l _ hw ew nW pw i mw gw hwo har hiW hnc (by omega)) (cwV 1 hts gX7_hasNobodyBefore_Jx4a65c_get_915e3 rfl rfl rfl (by decide +kernel) ⟨Nat.le_of_ble_eq_true rfl, Nat.le_of_ble_eq_true rfl⟩) (k_preV hK (k_recv hK.1 hwo rfl)) rfl rfl hl.1 rfl (lv_room (Nat.le_of_ble_eq_true rfl)) dX7_hasNobodyBefore_26 ⟨(Nat.zero_le _), (Nat.zero_le _)⟩) hS (fun locs hS => ?_)
          rw [R4g i hiW]
          refine W.eq (g2 := F0 m 29 ls [.ref (wa i)]) rfl ?_
          obtain ⟨ci, ex, hvc, hob⟩ := (R7 i hiW).ob
          refine w_recv hK hob hvc hown hx hb (hts (.classLink RX7 91 "HouseWorkers$Work") (by decide +kernel)) dX7_hasNobodyBefore_29 ?_
          refine lv_astore_n (lv' := [(3, .ref (wa i)), (2, .int (nI i)), (0, .ref h0), (1, .ref (wa j))]) hx hb dX7_hasNobodyBefore_32 rfl hl (by decide) rfl (fun ls hl => ?_)
          refine lv_aload_n hx hb dX7_hasNobodyBefore_33 rfl (lv_at hl 0 rfl) ?_
          refine w_commits (x := wx σ te pn i) (rest := [])  ⟨hx, hb, hml, hown, hts⟩ gX7_hasNobodyBefore_X5_commits_u178X1 gX7_hasNobodyBefore_X5_commits_u178X2 gX7_hasNobodyBefore_X5_commits_u178X4 gX7_hasNobodyBefore_X5_commits_u178X6 hK hob hvc  ⟨Nat.le_of_ble_eq_true rfl, Nat.le_of_ble_eq_true rfl⟩ ⟨Nat.le_of_ble_eq_true rfl, Nat.le_of_ble_eq_true rfl⟩ ⟨Nat.le_of_ble_eq_true rfl, Nat.le_of_ble_eq_true rfl⟩ ⟨Nat.le_of_ble_eq_true rfl, Nat.le_of_ble_eq_true rfl⟩ (Nat.le_of_ble_eq_true rfl) hl.1 ⟨(Nat.zero_le _), (Nat.zero_le _)⟩ hS dX7_hasNobodyBefore_34 (fun locs hS => ?_)
          refine W.eq (g2 := F0 m 37 ls [.int (b2 (decide (σ 4 i = 1) || decide (σ 4 i = 2)))]) rfl ?_
          refine lv_if_eq (tgt := 49) hx hb dX7_hasNobodyBefore_37 (by decide) (fun c37 => ?_) (fun c37 => ?_)
          · have c37 := b2_0 c37
            rw [Bool.or_eq_false_iff, decide_eq_false_iff_not, decide_eq_false_iff_not] at c37
            refine lv_iinc (v := nI (i + 1)) (lv' := [(2, .int (nI (i + 1))), (3, .ref (wa i)), (0, .ref h0), (1, .ref (wa j))]) hx hb dX7_hasNobodyBefore_49 hl (k := 1) rfl (by rw [← nI_1]; rfl) (by decide) rfl (fun ls hl => ?_)
            refine lv_goto (tgt := 2) hx hb dX7_hasNobodyBefore_52 (by decide) ?_
            exact ih (i + 1) (by omega) (by omega) (nxA_s hnx (by rcases hwi.kd with q | q | q | q; (simp [nx1, q]); (exact absurd q c37.1); (exact absurd q c37.2); (simp [nx1, q]))) locs hS ls (lv_sub hl [0, 2, 3] rfl)
          · have c37 := b2_n c37
            rw [Bool.or_eq_true, decide_eq_true_eq, decide_eq_true_eq] at c37
            refine lv_aload_n hx hb dX7_hasNobodyBefore_40 rfl (lv_at hl 0 rfl) ?_
            refine w_hasEnded (x := wx σ te pn i) (rest := [])  ⟨hx, hb, hml, hown, hts⟩ gX7_hasNobodyBefore_X5_hasEnded_u90X1 gX7_hasNobodyBefore_X5_hasEnded_u90X2 gX7_hasNobodyBefore_X5_hasEnded_u90X4 gX7_hasNobodyBefore_X5_hasEnded_u90X6 hK hob hvc  ⟨Nat.le_of_ble_eq_true rfl, Nat.le_of_ble_eq_true rfl⟩ ⟨Nat.le_of_ble_eq_true rfl, Nat.le_of_ble_eq_true rfl⟩ ⟨Nat.le_of_ble_eq_true rfl, Nat.le_of_ble_eq_true rfl⟩ ⟨Nat.le_of_ble_eq_true rfl, Nat.le_of_ble_eq_true rfl⟩ (Nat.le_of_ble_eq_true rfl) hl.1 ⟨(Nat.zero_le _), (Nat.zero_le _)⟩ hS dX7_hasNobodyBefore_41 (fun locs hS => ?_)
            refine W.eq (g2 := F0 m 44 ls [.int (b2 (decide (¬ σ 12 i = 0)))]) rfl ?_
            refine lv_if_ne (tgt := 49) hx hb dX7_hasNobodyBefore_44 (by decide) (fun c44 => ?_) (fun c44 => ?_)
            · have c44 := of_decide_eq_true (b2_n c44)
              refine lv_iinc (v := nI (i + 1)) (lv' := [(2, .int (nI (i + 1))), (3, .ref (wa i)), (0, .ref h0), (1, .ref (wa j))]) hx hb dX7_hasNobodyBefore_49 hl (k := 1) rfl (by rw [← nI_1]; rfl) (by decide) rfl (fun ls hl => ?_)
              refine lv_goto (tgt := 2) hx hb dX7_hasNobodyBefore_52 (by decide) ?_
              exact ih (i + 1) (by omega) (by omega) (nxA_s hnx (by simp [nx1, hwi.en.mpr c44])) locs hS ls (lv_sub hl [0, 2, 3] rfl)
            · have c44 := Decidable.byContradiction (of_decide_eq_false (b2_0 c44))
              have hnf : nxA σ (i + 1) = false := nxA_s hnx (by rcases c37 with q | q <;> (unfold nx1; rw [q, c44]; decide))
              refine lv_iconst (v := 0) hx hb dX7_hasNobodyBefore_47 (by decide) ?_
              exact k_retz hx hb hr hlocks (by decide) ⟨(b2_f (nxA_mf hnf (by omega))).symm, rfl⟩ hS dX7_hasNobodyBefore_48
  exact loop (j + 1) 0 (Nat.zero_le _) (by omega) rfl locs hS ls (lv_sub hl [0, 1, 2] rfl)
set_option maxHeartbeats 4000000 in
set_option maxRecDepth 100000 in
theorem c_stands (l : Launch) {D : va_G} {cI cZ cO : ClassId} {mi : Nat} (H : Heap) {eA : Nat} {B : Nat → Prop} (h0 : Nat) (wa : Nat → Nat) (σ : Sg) (nW nV nE : Nat) (j : Nat) (hR : HR D cI cO eA B h0 wa σ nW nV nE H) (hI : Inv σ nW nV nE) (hj : j < nW) : Met l yX7_standsStill wsX7_standsStill ({ frames := 4, cells := 0, slots := 0, locals := 87 }) (Pk D cI cZ cO mi [.ref h0, .ref (wa j)] H) (Qpi H (b2 (wt σ j))) 0 0 (fun _ => False) := by
  refine Met.ofW (cc := cX7_standsStill) (maxL := 2) (ret := (some .boolean)) (by decide) rfl ?_
  intro p e s m args below meth c s₁ Bd hml hv
  obtain ⟨rfl, rfl, hK⟩ := hv
  have hx := Bd.exec
  have hb := Bd.bytes
  have hr := Bd.returns
  have hts := atoms_spec (ws := wsX7_standsStill) Bd.pre
  have hown : s.vm.findClass RX7 = some m.cls := findClass_of_methodNamed Bd.named
  have hlocks := Bd.notSynchronized
  have hS : va_S (fun _ => False) s.heap s.heap [] := va_S.rf
  have hl := lv_entry ([.ref h0, .ref (wa j)]) (n := 2) (Nat.le_of_ble_eq_true rfl)
  rw [lg_entry_eq]
  generalize (lg_sl ([.ref h0, .ref (wa j)]) ++ List.replicate (2 - (lg_sl ([.ref h0, .ref (wa j)])).length) Slot.unset).toArray = ls at hl ⊢
  have hl : lv_has ls 2 [(0, .ref h0), (1, .ref (wa j))] := hl
  have hiX7 : ∀ w ∈ wsX70, w ∈ wsX7_standsStill := by decide +kernel
  have hR0 := hR
  obtain ⟨hs, hc, hw, he, ec, ew, ee, pc, pw, pe, gc, gw, ge, va, da, ra, te, pn, rl, R1, R2, ⟨R3, R3g⟩, ⟨R4, R4g⟩, ⟨R5, R5g⟩, R6, R7, R8, R9, RT, RB, RN, RL, R12, R13⟩ := hR
  have hn30 := hI.n30
  have heW := hI.eW
  have hvE := hI.2.2.2.2.2.1
  have hv1 := hI.2.2.2.2.1
  obtain ⟨⟨mw, hwo⟩, hwm⟩ := id R4
  obtain ⟨⟨mcv, hco⟩, hcm⟩ := id R3
  have hiX1 : ∀ w ∈ wsX10, w ∈ wsX7_standsStill := by decide +kernel
  have hiX2 : ∀ w ∈ wsX20, w ∈ wsX7_standsStill := by decide +kernel
  have hiX4 : ∀ w ∈ wsX40, w ∈ wsX7_standsStill := by decide +kernel
  have hiX6 : ∀ w ∈ wsX60, w ∈ wsX7_standsStill := by decide +kernel
  obtain ⟨ci, ex, hvc, hob⟩ := (R7 j hj).ob
  have hwi := hI.wi hj
  refine lv_aload_n hx hb dX7_standsStill_0 rfl (lv_at hl 1 rfl) ?_
  refine w_hasEnded (x := wx σ te pn j) (rest := [])  ⟨hx, hb, hml, hown, hts⟩ gX7_standsStill_X5_hasEnded_u90X1 gX7_standsStill_X5_hasEnded_u90X2 gX7_standsStill_X5_hasEnded_u90X4 gX7_standsStill_X5_hasEnded_u90X6 hK hob hvc  ⟨Nat.le_of_ble_eq_true rfl, Nat.le_of_ble_eq_true rfl⟩ ⟨Nat.le_of_ble_eq_true rfl, Nat.le_of_ble_eq_true rfl⟩ ⟨Nat.le_of_ble_eq_true rfl, Nat.le_of_ble_eq_true rfl⟩ ⟨Nat.le_of_ble_eq_true rfl, Nat.le_of_ble_eq_true rfl⟩ (Nat.le_of_ble_eq_true rfl) hl.1 ⟨(Nat.zero_le _), (Nat.zero_le _)⟩ hS dX7_standsStill_1 (fun locs hS => ?_)
  refine W.eq (g2 := F0 m 4 ls [.int (b2 (decide (¬ σ 12 j = 0)))]) rfl ?_
  refine lv_if_eq (tgt := 9) hx hb dX7_standsStill_4 (by decide) (fun c4 => ?_) (fun c4 => ?_)
  · have c4 : σ 12 j = 0 := Decidable.byContradiction (of_decide_eq_false (b2_0 c4))
    refine lv_aload_n hx hb dX7_standsStill_9 rfl (lv_at hl 1 rfl) ?_
    refine w_get (x := wx σ te pn j) hx hb hts hiX1 hiX2 hiX4 hiX6 hown hK hob hvc 8 (by decide) rfl rfl rfl rfl (hts (.fieldLink RX7 95 "HouseWorkers$Work" "toBeCancelled" "Z") (by decide +kernel)) (fun _ => rfl) dX7_standsStill_10 ?_
    refine W.eq (g2 := F0 m 13 ls [.int (σ 13 j)]) rfl ?_
    refine lv_if_ne (tgt := 36) hx hb dX7_standsStill_13 (by decide) (fun c13 => ?_) (fun c13 => ?_)
    · refine lv_iconst (v := 0) hx hb dX7_standsStill_36 (by decide) ?_
      exact k_retz hx hb hr hlocks (by decide) ⟨(b2_f (by unfold wt; rw [c4, decide_eq_true c13]; rfl)).symm, rfl⟩ hS dX7_standsStill_37
    · refine lv_aload_n hx hb dX7_standsStill_16 rfl (lv_at hl 1 rfl) ?_
      refine lv_aload_n hx hb dX7_standsStill_17 rfl (lv_at hl 0 rfl) ?_
      refine k_get (C := RX7) (T := TX7) (N := 6) (v := .ref hs) hx hb hts hiX7 hown hK.1 R1 rfl 0 (by decide) (hts (.fieldLink RX7 12 "HouseWorkers" "store" "LHouseWorkers$Store;") (by decide +kernel)) (fun _ h9 => h9) rfl dX7_standsStill_18 ?_
      refine lv_aload_n hx hb dX7_standsStill_21 rfl (lv_at hl 0 rfl) ?_
      refine lv_aload_n hx hb dX7_standsStill_22 rfl (lv_at hl 1 rfl) ?_
      refine k_callpi (v := b2 (nxA σ j)) (va_runV (As := [.ref (wa j)]) (rest := [.ref hs, .ref (wa j)]) ⟨hx, hb, hml, hown, hts⟩ (c_nobody l _ h0 wa σ nW nV nE j hR0 hI hj) (cwV 1 hts gX7_standsStill_X7_hasNobodyBefore rfl rfl rfl (by decide +kernel) ⟨Nat.le_of_ble_eq_true rfl, Nat.le_of_ble_eq_true rfl⟩) (k_preV hK (k_recv hK.1 R1 rfl)) rfl rfl hl.1 rfl (lv_room (Nat.le_of_ble_eq_true rfl)) dX7_standsStill_23 ⟨(Nat.zero_le _), (Nat.zero_le _)⟩) hS (fun locs hS => ?_)
      refine w_waits (x := wx σ te pn j) (rest := []) (nb := b2 (nxA σ j)) hs (va 0) hc (va (nV - 1)) ec (nV - 1) mcv ⟨hx, hb, hml, hown, hts⟩ gX7_standsStill_X1_waits_u174X1 gX7_standsStill_X2_waits_u174X2 gX7_standsStill_X4_waits_u174X4 gX7_standsStill_X6_waits_u174X6 hK hob hvc R2 hco ⟨Nat.le_of_ble_eq_true rfl, Nat.le_of_ble_eq_true rfl⟩ ⟨Nat.le_of_ble_eq_true rfl, Nat.le_of_ble_eq_true rfl⟩ ⟨Nat.le_of_ble_eq_true rfl, Nat.le_of_ble_eq_true rfl⟩ ⟨Nat.le_of_ble_eq_true rfl, Nat.le_of_ble_eq_true rfl⟩ (Nat.le_of_ble_eq_true rfl) hl.1 ⟨(Nat.zero_le _), (Nat.zero_le _)⟩ hS dX7_standsStill_26 (fun locs hS => ?_)
      refine W.eq (g2 := F0 m 29 ls [.int (b2 (hwt (wx σ te pn j) (b2 (nxA σ j)) (nV - 1)))]) rfl ?_
      refine lv_if_eq (tgt := 36) hx hb dX7_standsStill_29 (by decide) (fun c29 => ?_) (fun c29 => ?_)
      · have c29 := b2_0 c29
        rw [st_eq hI hj c4 c13] at c29
        refine lv_iconst (v := 0) hx hb dX7_standsStill_36 (by decide) ?_
        exact k_retz hx hb hr hlocks (by decide) ⟨(b2_f c29).symm, rfl⟩ hS dX7_standsStill_37
      · have c29 := b2_n c29
        rw [st_eq hI hj c4 c13] at c29
        refine lv_iconst (v := 1) hx hb dX7_standsStill_32 (by decide) ?_
        refine lv_goto (tgt := 37) hx hb dX7_standsStill_33 (by decide) ?_
        exact k_retz hx hb hr hlocks (by decide) ⟨(b2_t c29).symm, rfl⟩ hS dX7_standsStill_37
  · have c4 : ¬ σ 12 j = 0 := of_decide_eq_true (b2_n c4)
    refine lv_iconst (v := 1) hx hb dX7_standsStill_7 (by decide) ?_
    exact k_retz hx hb hr hlocks (by decide) ⟨(b2_t (by unfold wt; rw [decide_eq_true (hwi.en.mpr c4)]; rfl)).symm, rfl⟩ hS dX7_standsStill_8
