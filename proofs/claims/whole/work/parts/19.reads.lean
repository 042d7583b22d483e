set_option maxHeartbeats 4000000 in
set_option maxRecDepth 100000 in
theorem c_hasEnded_X1 (l : Launch) {D : va_G} {cI cZ cO : ClassId} {mi : Nat} (H : Heap) (a : Nat) (x : Nat → Int32) (fi : Int32) (rd : Nat) (ho : Ob D a 2 (WFs x [.int fi, .ref rd]) H) : Met l yX5_hasEnded wsX5_hasEnded ({ frames := 0, cells := 0, slots := 0, locals := 0 }) (Pk D cI cZ cO mi [.ref a] H) (Qpi H (b2 (decide (¬ x 9 = 0)))) 0 0 (fun _ => False) := by
  refine Met.ofW (cc := cX5_hasEnded) (maxL := 1) (ret := (some .boolean)) (by decide) rfl ?_
  intro p e s m args below meth c s₁ Bd hml hv
  obtain ⟨rfl, rfl, hK⟩ := hv
  have hx := Bd.exec
  have hb := Bd.bytes
  have hr := Bd.returns
  have hts := atoms_spec (ws := wsX5_hasEnded) Bd.pre
  have hown : s.vm.findClass RX5 = some m.cls := findClass_of_methodNamed Bd.named
  have hlocks := Bd.notSynchronized
  have hS : va_S (fun _ => False) s.heap s.heap [] := va_S.rf
  have hl := lv_entry ([.ref a]) (n := 1) (Nat.le_of_ble_eq_true rfl)
  rw [lg_entry_eq]
  generalize (lg_sl ([.ref a]) ++ List.replicate (1 - (lg_sl ([.ref a])).length) Slot.unset).toArray = ls at hl ⊢
  have hl : lv_has ls 1 [(0, .ref a)] := hl
  have hiX1 : ∀ w ∈ wsX10, w ∈ wsX5_hasEnded := by decide +kernel
  refine lv_aload_n hx hb dX5_hasEnded_0 rfl (lv_at hl 0 rfl) ?_
  refine k_get (C := RX1) (T := TX1) (N := 13) (v := .int (x 9)) hx hb hts hiX1 hown hK.1 ho rfl 9 (by decide) (hts (.fieldLink RX5 18 "HouseWorkers$Work" "end" "I") (by decide +kernel)) (fun _ h9 => h9) rfl dX5_hasEnded_1 ?_
  refine lv_if_eq (tgt := 11) hx hb dX5_hasEnded_4 (by decide) (fun c4 => ?_) (fun c4 => ?_)
  · refine lv_iconst (v := 0) hx hb dX5_hasEnded_11 (by decide) ?_
    exact k_retz hx hb hr hlocks (by decide) ⟨(b2_f (by simp [c4])).symm, rfl⟩ hS dX5_hasEnded_12
  · refine lv_iconst (v := 1) hx hb dX5_hasEnded_7 (by decide) ?_
    refine lv_goto (tgt := 12) hx hb dX5_hasEnded_8 (by decide) ?_
    exact k_retz hx hb hr hlocks (by decide) ⟨(b2_t (by simp [c4])).symm, rfl⟩ hS dX5_hasEnded_12
set_option maxHeartbeats 4000000 in
set_option maxRecDepth 100000 in
theorem c_doneAll_X1 (l : Launch) {D : va_G} {cI cZ cO : ClassId} {mi : Nat} (H : Heap) (a : Nat) (x : Nat → Int32) (fi : Int32) (rd : Nat) (ho : Ob D a 2 (WFs x [.int fi, .ref rd]) H) : Met l yX5_hasDoneAllSteps wsX5_hasDoneAllSteps ({ frames := 0, cells := 0, slots := 0, locals := 0 }) (Pk D cI cZ cO mi [.ref a] H) (Qpi H (b2 (decide (¬ x 4 < x 2)))) 0 0 (fun _ => False) := by
  refine Met.ofW (cc := cX5_hasDoneAllSteps) (maxL := 1) (ret := (some .boolean)) (by decide) rfl ?_
  intro p e s m args below meth c s₁ Bd hml hv
  obtain ⟨rfl, rfl, hK⟩ := hv
  have hx := Bd.exec
  have hb := Bd.bytes
  have hr := Bd.returns
  have hts := atoms_spec (ws := wsX5_hasDoneAllSteps) Bd.pre
  have hown : s.vm.findClass RX5 = some m.cls := findClass_of_methodNamed Bd.named
  have hlocks := Bd.notSynchronized
  have hS : va_S (fun _ => False) s.heap s.heap [] := va_S.rf
  have hl := lv_entry ([.ref a]) (n := 1) (Nat.le_of_ble_eq_true rfl)
  rw [lg_entry_eq]
  generalize (lg_sl ([.ref a]) ++ List.replicate (1 - (lg_sl ([.ref a])).length) Slot.unset).toArray = ls at hl ⊢
  have hl : lv_has ls 1 [(0, .ref a)] := hl
  have hiX1 : ∀ w ∈ wsX10, w ∈ wsX5_hasDoneAllSteps := by decide +kernel
  refine lv_aload_n hx hb dX5_hasDoneAllSteps_0 rfl (lv_at hl 0 rfl) ?_
  refine k_get (C := RX1) (T := TX1) (N := 13) (v := .int (x 4)) hx hb hts hiX1 hown hK.1 ho rfl 4 (by decide) (hts (.fieldLink RX5 33 "HouseWorkers$Work" "stepsDone" "I") (by decide +kernel)) (fun _ h9 => h9) rfl dX5_hasDoneAllSteps_1 ?_
  refine lv_aload_n hx hb dX5_hasDoneAllSteps_4 rfl (lv_at hl 0 rfl) ?_
  refine k_get (C := RX1) (T := TX1) (N := 13) (v := .int (x 2)) hx hb hts hiX1 hown hK.1 ho rfl 2 (by decide) (hts (.fieldLink RX5 27 "HouseWorkers$Work" "steps" "I") (by decide +kernel)) (fun _ h9 => h9) rfl dX5_hasDoneAllSteps_5 ?_
  refine lv_icmp_lt (tgt := 15) hx hb dX5_hasDoneAllSteps_8 (by decide) (fun c8 => ?_) (fun c8 => ?_)
  · refine lv_iconst (v := 0) hx hb dX5_hasDoneAllSteps_15 (by decide) ?_
    exact k_retz hx hb hr hlocks (by decide) ⟨(b2_f (by simp [c8])).symm, rfl⟩ hS dX5_hasDoneAllSteps_16
  · refine lv_iconst (v := 1) hx hb dX5_hasDoneAllSteps_11 (by decide) ?_
    refine lv_goto (tgt := 16) hx hb dX5_hasDoneAllSteps_12 (by decide) ?_
    exact k_retz hx hb hr hlocks (by decide) ⟨(b2_t (by simp [c8])).symm, rfl⟩ hS dX5_hasDoneAllSteps_16
set_option maxHeartbeats 4000000 in
set_option maxRecDepth 100000 in
theorem c_commits_X1 (l : Launch) {D : va_G} {cI cZ cO : ClassId} {mi : Nat} (H : Heap) (a : Nat) (x : Nat → Int32) (fi : Int32) (rd : Nat) (ho : Ob D a 2 (WFs x [.int fi, .ref rd]) H) : Met l yX5_commits wsX5_commits ({ frames := 0, cells := 0, slots := 0, locals := 0 }) (Pk D cI cZ cO mi [.ref a] H) (Qpi H (b2 (decide (x 1 = 1) || decide (x 1 = 2)))) 0 0 (fun _ => False) := by
  refine Met.ofW (cc := cX5_commits) (maxL := 1) (ret := (some .boolean)) (by decide) rfl ?_
  intro p e s m args below meth c s₁ Bd hml hv
  obtain ⟨rfl, rfl, hK⟩ := hv
  have hx := Bd.exec
  have hb := Bd.bytes
  have hr := Bd.returns
  have hts := atoms_spec (ws := wsX5_commits) Bd.pre
  have hown : s.vm.findClass RX5 = some m.cls := findClass_of_methodNamed Bd.named
  have hlocks := Bd.notSynchronized
  have hS : va_S (fun _ => False) s.heap s.heap [] := va_S.rf
  have hl := lv_entry ([.ref a]) (n := 1) (Nat.le_of_ble_eq_true rfl)
  rw [lg_entry_eq]
  generalize (lg_sl ([.ref a]) ++ List.replicate (1 - (lg_sl ([.ref a])).length) Slot.unset).toArray = ls at hl ⊢
  have hl : lv_has ls 1 [(0, .ref a)] := hl
  have hiX1 : ∀ w ∈ wsX10, w ∈ wsX5_commits := by decide +kernel
  refine lv_aload_n hx hb dX5_commits_0 rfl (lv_at hl 0 rfl) ?_
  refine k_get (C := RX1) (T := TX1) (N := 13) (v := .int (x 1)) hx hb hts hiX1 hown hK.1 ho rfl 1 (by decide) (hts (.fieldLink RX5 24 "HouseWorkers$Work" "kind" "I") (by decide +kernel)) (fun _ h9 => h9) rfl dX5_commits_1 ?_
  refine lv_iconst (v := 1) hx hb dX5_commits_4 (by decide) ?_
  refine lv_icmp_eq (tgt := 16) hx hb dX5_commits_5 (by decide) (fun c5 => ?_) (fun c5 => ?_)
  · refine lv_iconst (v := 1) hx hb dX5_commits_16 (by decide) ?_
    refine lv_goto (tgt := 21) hx hb dX5_commits_17 (by decide) ?_
    exact k_retz hx hb hr hlocks (by decide) ⟨(b2_t (by simp [c5])).symm, rfl⟩ hS dX5_commits_21
  · refine lv_aload_n hx hb dX5_commits_8 rfl (lv_at hl 0 rfl) ?_
    refine k_get (C := RX1) (T := TX1) (N := 13) (v := .int (x 1)) hx hb hts hiX1 hown hK.1 ho rfl 1 (by decide) (hts (.fieldLink RX5 24 "HouseWorkers$Work" "kind" "I") (by decide +kernel)) (fun _ h9 => h9) rfl dX5_commits_9 ?_
    refine lv_iconst (v := 2) hx hb dX5_commits_12 (by decide) ?_
    refine lv_icmp_ne (tgt := 20) hx hb dX5_commits_13 (by decide) (fun c13 => ?_) (fun c13 => ?_)
    · refine lv_iconst (v := 0) hx hb dX5_commits_20 (by decide) ?_
      exact k_retz hx hb hr hlocks (by decide) ⟨(b2_f (by simp [c5, c13])).symm, rfl⟩ hS dX5_commits_21
    · refine lv_iconst (v := 1) hx hb dX5_commits_16 (by decide) ?_
      refine lv_goto (tgt := 21) hx hb dX5_commits_17 (by decide) ?_
      exact k_retz hx hb hr hlocks (by decide) ⟨(b2_t (by simp [c5, c13])).symm, rfl⟩ hS dX5_commits_21
set_option maxHeartbeats 4000000 in
set_option maxRecDepth 100000 in
theorem c_failsNow_X1 (l : Launch) {D : va_G} {cI cZ cO : ClassId} {mi : Nat} (H : Heap) (a : Nat) (x : Nat → Int32) (fi : Int32) (rd : Nat) (ho : Ob D a 2 (WFs x [.int fi, .ref rd]) H) : Met l yX5_failsNow wsX5_failsNow ({ frames := 1, cells := 0, slots := 0, locals := 20 }) (Pk D cI cZ cO mi [.ref a] H) (Qpi H (b2 (decide (x 3 = x 4 + 1) && decide (x 4 < x 2)))) 0 0 (fun _ => False) := by
  refine Met.ofW (cc := cX5_failsNow) (maxL := 1) (ret := (some .boolean)) (by decide) rfl ?_
  intro p e s m args below meth c s₁ Bd hml hv
  obtain ⟨rfl, rfl, hK⟩ := hv
  have hx := Bd.exec
  have hb := Bd.bytes
  have hr := Bd.returns
  have hts := atoms_spec (ws := wsX5_failsNow) Bd.pre
  have hown : s.vm.findClass RX5 = some m.cls := findClass_of_methodNamed Bd.named
  have hlocks := Bd.notSynchronized
  have hS : va_S (fun _ => False) s.heap s.heap [] := va_S.rf
  have hl := lv_entry ([.ref a]) (n := 1) (Nat.le_of_ble_eq_true rfl)
  rw [lg_entry_eq]
  generalize (lg_sl ([.ref a]) ++ List.replicate (1 - (lg_sl ([.ref a])).length) Slot.unset).toArray = ls at hl ⊢
  have hl : lv_has ls 1 [(0, .ref a)] := hl
  have hiX1 : ∀ w ∈ wsX10, w ∈ wsX5_failsNow := by decide +kernel
  refine lv_aload_n hx hb dX5_failsNow_0 rfl (lv_at hl 0 rfl) ?_
  refine k_get (C := RX1) (T := TX1) (N := 13) (v := .int (x 3)) hx hb hts hiX1 hown hK.1 ho rfl 3 (by decide) (hts (.fieldLink RX5 30 "HouseWorkers$Work" "failsAt" "I") (by decide +kernel)) (fun _ h9 => h9) rfl dX5_failsNow_1 ?_
  refine lv_aload_n hx hb dX5_failsNow_4 rfl (lv_at hl 0 rfl) ?_
  refine k_get (C := RX1) (T := TX1) (N := 13) (v := .int (x 4)) hx hb hts hiX1 hown hK.1 ho rfl 4 (by decide) (hts (.fieldLink RX5 33 "HouseWorkers$Work" "stepsDone" "I") (by decide +kernel)) (fun _ h9 => h9) rfl dX5_failsNow_5 ?_
  refine lv_iconst (v := 1) hx hb dX5_failsNow_8 (by decide) ?_
  refine lv_iadd hx hb dX5_failsNow_9 ?_
  refine lv_icmp_ne (tgt := 24) hx hb dX5_failsNow_10 (by decide) (fun c10 => ?_) (fun c10 => ?_)
  · refine lv_iconst (v := 0) hx hb dX5_failsNow_24 (by decide) ?_
    exact k_retz hx hb hr hlocks (by decide) ⟨(b2_f (by simp [c10])).symm, rfl⟩ hS dX5_failsNow_25
  · refine lv_aload_n hx hb dX5_failsNow_13 rfl (lv_at hl 0 rfl) ?_
    refine k_callpi (v := b2 (decide (¬ x 4 < x 2))) (va_runU (As := []) (rest := []) ⟨hx, hb, hml, hown, hts⟩ (c_doneAll_X1 l _ a x fi rd ho) (va_cwU 0 hts gX5_failsNow_X5_hasDoneAllSteps_u36X1 rfl rfl rfl rfl (by decide +kernel) ⟨Nat.le_of_ble_eq_true rfl, Nat.le_of_ble_eq_true rfl⟩) (k_preV hK (k_recv hK.1 ho rfl)) rfl rfl hl.1 rfl (lv_room (Nat.le_of_ble_eq_true rfl)) dX5_failsNow_14 ⟨(Nat.zero_le _), (Nat.zero_le _)⟩) hS (fun locs hS => ?_)
    refine lv_if_ne (tgt := 24) hx hb dX5_failsNow_17 (by decide) (fun c17 => ?_) (fun c17 => ?_)
    · have c17 := of_decide_eq_true (b2_n c17)
      refine lv_iconst (v := 0) hx hb dX5_failsNow_24 (by decide) ?_
      exact k_retz hx hb hr hlocks (by decide) ⟨(b2_f (by simp [c10, c17])).symm, rfl⟩ hS dX5_failsNow_25
    · have c17 := Decidable.byContradiction (of_decide_eq_false (b2_0 c17))
      refine lv_iconst (v := 1) hx hb dX5_failsNow_20 (by decide) ?_
      refine lv_goto (tgt := 25) hx hb dX5_failsNow_21 (by decide) ?_
      exact k_retz hx hb hr hlocks (by decide) ⟨(b2_t (by simp [c10, c17])).symm, rfl⟩ hS dX5_failsNow_25
set_option maxHeartbeats 4000000 in
set_option maxRecDepth 100000 in
theorem c_pins_X1 (l : Launch) {D : va_G} {cI cZ cO : ClassId} {mi : Nat} (H : Heap) (a : Nat) (x : Nat → Int32) (fi : Int32) (rd : Nat) (v : Int32) (ho : Ob D a 2 (WFs x [.int fi, .ref rd]) H) : Met l yX5_pins wsX5_pins ({ frames := 1, cells := 0, slots := 0, locals := 20 }) (Pk D cI cZ cO mi [.ref a, .int v] H) (Qpi H (b2 (decide (x 9 = 0) && decide (x 7 = v)))) 0 0 (fun _ => False) := by
  refine Met.ofW (cc := cX5_pins) (maxL := 2) (ret := (some .boolean)) (by decide) rfl ?_
  intro p e s m args below meth c s₁ Bd hml hv
  obtain ⟨rfl, rfl, hK⟩ := hv
  have hx := Bd.exec
  have hb := Bd.bytes
  have hr := Bd.returns
  have hts := atoms_spec (ws := wsX5_pins) Bd.pre
  have hown : s.vm.findClass RX5 = some m.cls := findClass_of_methodNamed Bd.named
  have hlocks := Bd.notSynchronized
  have hS : va_S (fun _ => False) s.heap s.heap [] := va_S.rf
  have hl := lv_entry ([.ref a, .int v]) (n := 2) (Nat.le_of_ble_eq_true rfl)
  rw [lg_entry_eq]
  generalize (lg_sl ([.ref a, .int v]) ++ List.replicate (2 - (lg_sl ([.ref a, .int v])).length) Slot.unset).toArray = ls at hl ⊢
  have hl : lv_has ls 2 [(0, .ref a), (1, .int v)] := hl
  have hiX1 : ∀ w ∈ wsX10, w ∈ wsX5_pins := by decide +kernel
  refine lv_aload_n hx hb dX5_pins_0 rfl (lv_at hl 0 rfl) ?_
  refine k_callpi (v := b2 (decide (¬ x 9 = 0))) (va_runU (As := []) (rest := []) ⟨hx, hb, hml, hown, hts⟩ (c_hasEnded_X1 l _ a x fi rd ho) (va_cwU 0 hts gX5_pins_X5_hasEnded_u40X1 rfl rfl rfl rfl (by decide +kernel) ⟨Nat.le_of_ble_eq_true rfl, Nat.le_of_ble_eq_true rfl⟩) (k_preV hK (k_recv hK.1 ho rfl)) rfl rfl hl.1 rfl (lv_room (Nat.le_of_ble_eq_true rfl)) dX5_pins_1 ⟨(Nat.zero_le _), (Nat.zero_le _)⟩) hS (fun locs hS => ?_)
  refine lv_if_ne (tgt := 19) hx hb dX5_pins_4 (by decide) (fun c4 => ?_) (fun c4 => ?_)
  · have c4 := of_decide_eq_true (b2_n c4)
    refine lv_iconst (v := 0) hx hb dX5_pins_19 (by decide) ?_
    exact k_retz hx hb hr hlocks (by decide) ⟨(b2_f (by simp [c4])).symm, rfl⟩ hS dX5_pins_20
  · have c4 := Decidable.byContradiction (of_decide_eq_false (b2_0 c4))
    refine lv_aload_n hx hb dX5_pins_7 rfl (lv_at hl 0 rfl) ?_
    refine k_get (C := RX1) (T := TX1) (N := 13) (v := .int (x 7)) hx hb hts hiX1 hown hK.1 ho rfl 7 (by decide) (hts (.fieldLink RX5 15 "HouseWorkers$Work" "pinned" "I") (by decide +kernel)) (fun _ h9 => h9) rfl dX5_pins_8 ?_
    refine lv_iload_n hx hb dX5_pins_11 rfl (lv_at hl 1 rfl) ?_
    refine lv_icmp_ne (tgt := 19) hx hb dX5_pins_12 (by decide) (fun c12 => ?_) (fun c12 => ?_)
    · refine lv_iconst (v := 0) hx hb dX5_pins_19 (by decide) ?_
      exact k_retz hx hb hr hlocks (by decide) ⟨(b2_f (by simp [c4, c12])).symm, rfl⟩ hS dX5_pins_20
    · refine lv_iconst (v := 1) hx hb dX5_pins_15 (by decide) ?_
      refine lv_goto (tgt := 20) hx hb dX5_pins_16 (by decide) ?_
      exact k_retz hx hb hr hlocks (by decide) ⟨(b2_t (by simp [c4, c12])).symm, rfl⟩ hS dX5_pins_20
set_option maxHeartbeats 4000000 in
set_option maxRecDepth 100000 in
theorem c_isToGet_X1 (l : Launch) {D : va_G} {cI cZ cO : ClassId} {mi : Nat} (H : Heap) (a : Nat) (x : Nat → Int32) (fi : Int32) (rd : Nat) (v : Int32) (ho : Ob D a 2 (WFs x [.int fi, .ref rd]) H) : Met l yX5_isToGet wsX5_isToGet ({ frames := 0, cells := 0, slots := 0, locals := 0 }) (Pk D cI cZ cO mi [.ref a, .int v] H) (Qpi H (b2 false)) 0 0 (fun _ => False) := by
  refine Met.ofW (cc := cX5_isToGet) (maxL := 2) (ret := (some .boolean)) (by decide) rfl ?_
  intro p e s m args below meth c s₁ Bd hml hv
  obtain ⟨rfl, rfl, hK⟩ := hv
  have hx := Bd.exec
  have hb := Bd.bytes
  have hr := Bd.returns
  have hts := atoms_spec (ws := wsX5_isToGet) Bd.pre
  have hown : s.vm.findClass RX5 = some m.cls := findClass_of_methodNamed Bd.named
  have hlocks := Bd.notSynchronized
  have hS : va_S (fun _ => False) s.heap s.heap [] := va_S.rf
  have hl := lv_entry ([.ref a, .int v]) (n := 2) (Nat.le_of_ble_eq_true rfl)
  rw [lg_entry_eq]
  generalize (lg_sl ([.ref a, .int v]) ++ List.replicate (2 - (lg_sl ([.ref a, .int v])).length) Slot.unset).toArray = ls at hl ⊢
  have hl : lv_has ls 2 [(0, .ref a), (1, .int v)] := hl
  refine lv_iconst (v := 0) hx hb dX5_isToGet_0 (by decide) ?_
  exact k_retz hx hb hr hlocks (by decide) ⟨rfl, rfl⟩ hS dX5_isToGet_1
set_option maxHeartbeats 4000000 in
set_option maxRecDepth 100000 in
theorem c_hasEnded_X2 (l : Launch) {D : va_G} {cI cZ cO : ClassId} {mi : Nat} (H : Heap) (a : Nat) (x : Nat → Int32) (dr : Nat) (ho : Ob D a 3 (WFs x [.ref dr]) H) : Met l yX5_hasEnded wsX5_hasEnded ({ frames := 0, cells := 0, slots := 0, locals := 0 }) (Pk D cI cZ cO mi [.ref a] H) (Qpi H (b2 (decide (¬ x 9 = 0)))) 0 0 (fun _ => False) := by
  refine Met.ofW (cc := cX5_hasEnded) (maxL := 1) (ret := (some .boolean)) (by decide) rfl ?_
  intro p e s m args below meth c s₁ Bd hml hv
  obtain ⟨rfl, rfl, hK⟩ := hv
  have hx := Bd.exec
  have hb := Bd.bytes
  have hr := Bd.returns
  have hts := atoms_spec (ws := wsX5_hasEnded) Bd.pre
  have hown : s.vm.findClass RX5 = some m.cls := findClass_of_methodNamed Bd.named
  have hlocks := Bd.notSynchronized
  have hS : va_S (fun _ => False) s.heap s.heap [] := va_S.rf
  have hl := lv_entry ([.ref a]) (n := 1) (Nat.le_of_ble_eq_true rfl)
  rw [lg_entry_eq]
  generalize (lg_sl ([.ref a]) ++ List.replicate (1 - (lg_sl ([.ref a])).length) Slot.unset).toArray = ls at hl ⊢
  have hl : lv_has ls 1 [(0, .ref a)] := hl
  have hiX2 : ∀ w ∈ wsX20, w ∈ wsX5_hasEnded := by decide +kernel
  refine lv_aload_n hx hb dX5_hasEnded_0 rfl (lv_at hl 0 rfl) ?_
  refine k_get (C := RX2) (T := TX2) (N := 12) (v := .int (x 9)) hx hb hts hiX2 hown hK.1 ho rfl 9 (by decide) (hts (.fieldLink RX5 18 "HouseWorkers$Work" "end" "I") (by decide +kernel)) (fun _ h9 => h9) rfl dX5_hasEnded_1 ?_
  refine lv_if_eq (tgt := 11) hx hb dX5_hasEnded_4 (by decide) (fun c4 => ?_) (fun c4 => ?_)
  · refine lv_iconst (v := 0) hx hb dX5_hasEnded_11 (by decide) ?_
    exact k_retz hx hb hr hlocks (by decide) ⟨(b2_f (by simp [c4])).symm, rfl⟩ hS dX5_hasEnded_12
  · refine lv_iconst (v := 1) hx hb dX5_hasEnded_7 (by decide) ?_
    refine lv_goto (tgt := 12) hx hb dX5_hasEnded_8 (by decide) ?_
    exact k_retz hx hb hr hlocks (by decide) ⟨(b2_t (by simp [c4])).symm, rfl⟩ hS dX5_hasEnded_12
set_option maxHeartbeats 4000000 in
set_option maxRecDepth 100000 in
theorem c_doneAll_X2 (l : Launch) {D : va_G} {cI cZ cO : ClassId} {mi : Nat} (H : Heap) (a : Nat) (x : Nat → Int32) (dr : Nat) (ho : Ob D a 3 (WFs x [.ref dr]) H) : Met l yX5_hasDoneAllSteps wsX5_hasDoneAllSteps ({ frames := 0, cells := 0, slots := 0, locals := 0 }) (Pk D cI cZ cO mi [.ref a] H) (Qpi H (b2 (decide (¬ x 4 < x 2)))) 0 0 (fun _ => False) := by
  refine Met.ofW (cc := cX5_hasDoneAllSteps) (maxL := 1) (ret := (some .boolean)) (by decide) rfl ?_
  intro p e s m args below meth c s₁ Bd hml hv
  obtain ⟨rfl, rfl, hK⟩ := hv
  have hx := Bd.exec
  have hb := Bd.bytes
  have hr := Bd.returns
  have hts := atoms_spec (ws := wsX5_hasDoneAllSteps) Bd.pre
  have hown : s.vm.findClass RX5 = some m.cls := findClass_of_methodNamed Bd.named
  have hlocks := Bd.notSynchronized
  have hS : va_S (fun _ => False) s.heap s.heap [] := va_S.rf
  have hl := lv_entry ([.ref a]) (n := 1) (Nat.le_of_ble_eq_true rfl)
  rw [lg_entry_eq]
  generalize (lg_sl ([.ref a]) ++ List.replicate (1 - (lg_sl ([.ref a])).length) Slot.unset).toArray = ls at hl ⊢
  have hl : lv_has ls 1 [(0, .ref a)] := hl
  have hiX2 : ∀ w ∈ wsX20, w ∈ wsX5_hasDoneAllSteps := by decide +kernel
  refine lv_aload_n hx hb dX5_hasDoneAllSteps_0 rfl (lv_at hl 0 rfl) ?_
  refine k_get (C := RX2) (T := TX2) (N := 12) (v := .int (x 4)) hx hb hts hiX2 hown hK.1 ho rfl 4 (by decide) (hts (.fieldLink RX5 33 "HouseWorkers$Work" "stepsDone" "I") (by decide +kernel)) (fun _ h9 => h9) rfl dX5_hasDoneAllSteps_1 ?_
  refine lv_aload_n hx hb dX5_hasDoneAllSteps_4 rfl (lv_at hl 0 rfl) ?_
  refine k_get (C := RX2) (T := TX2) (N := 12) (v := .int (x 2)) hx hb hts hiX2 hown hK.1 ho rfl 2 (by decide) (hts (.fieldLink RX5 27 "HouseWorkers$Work" "steps" "I") (by decide +kernel)) (fun _ h9 => h9) rfl dX5_hasDoneAllSteps_5 ?_
  refine lv_icmp_lt (tgt := 15) hx hb dX5_hasDoneAllSteps_8 (by decide) (fun c8 => ?_) (fun c8 => ?_)
  · refine lv_iconst (v := 0) hx hb dX5_hasDoneAllSteps_15 (by decide) ?_
    exact k_retz hx hb hr hlocks (by decide) ⟨(b2_f (by simp [c8])).symm, rfl⟩ hS dX5_hasDoneAllSteps_16
  · refine lv_iconst (v := 1) hx hb dX5_hasDoneAllSteps_11 (by decide) ?_
    refine lv_goto (tgt := 16) hx hb dX5_hasDoneAllSteps_12 (by decide) ?_
    exact k_retz hx hb hr hlocks (by decide) ⟨(b2_t (by simp [c8])).symm, rfl⟩ hS dX5_hasDoneAllSteps_16
set_option maxHeartbeats 4000000 in
set_option maxRecDepth 100000 in
theorem c_commits_X2 (l : Launch) {D : va_G} {cI cZ cO : ClassId} {mi : Nat} (H : Heap) (a : Nat) (x : Nat → Int32) (dr : Nat) (ho : Ob D a 3 (WFs x [.ref dr]) H) : Met l yX5_commits wsX5_commits ({ frames := 0, cells := 0, slots := 0, locals := 0 }) (Pk D cI cZ cO mi [.ref a] H) (Qpi H (b2 (decide (x 1 = 1) || decide (x 1 = 2)))) 0 0 (fun _ => False) := by
  refine Met.ofW (cc := cX5_commits) (maxL := 1) (ret := (some .boolean)) (by decide) rfl ?_
  intro p e s m args below meth c s₁ Bd hml hv
  obtain ⟨rfl, rfl, hK⟩ := hv
  have hx := Bd.exec
  have hb := Bd.bytes
  have hr := Bd.returns
  have hts := atoms_spec (ws := wsX5_commits) Bd.pre
  have hown : s.vm.findClass RX5 = some m.cls := findClass_of_methodNamed Bd.named
  have hlocks := Bd.notSynchronized
  have hS : va_S (fun _ => False) s.heap s.heap [] := va_S.rf
  have hl := lv_entry ([.ref a]) (n := 1) (Nat.le_of_ble_eq_true rfl)
  rw [lg_entry_eq]
  generalize (lg_sl ([.ref a]) ++ List.replicate (1 - (lg_sl ([.ref a])).length) Slot.unset).toArray = ls at hl ⊢
  have hl : lv_has ls 1 [(0, .ref a)] := hl
  have hiX2 : ∀ w ∈ wsX20, w ∈ wsX5_commits := by decide +kernel
  refine lv_aload_n hx hb dX5_commits_0 rfl (lv_at hl 0 rfl) ?_
  refine k_get (C := RX2) (T := TX2) (N := 12) (v := .int (x 1)) hx hb hts hiX2 hown hK.1 ho rfl 1 (by decide) (hts (.fieldLink RX5 24 "HouseWorkers$Work" "kind" "I") (by decide +kernel)) (fun _ h9 => h9) rfl dX5_commits_1 ?_
  refine lv_iconst (v := 1) hx hb dX5_commits_4 (by decide) ?_
  refine lv_icmp_eq (tgt := 16) hx hb dX5_commits_5 (by decide) (fun c5 => ?_) (fun c5 => ?_)
  · refine lv_iconst (v := 1) hx hb dX5_commits_16 (by decide) ?_
    refine lv_goto (tgt := 21) hx hb dX5_commits_17 (by decide) ?_
    exact k_retz hx hb hr hlocks (by decide) ⟨(b2_t (by simp [c5])).symm, rfl⟩ hS dX5_commits_21
  · refine lv_aload_n hx hb dX5_commits_8 rfl (lv_at hl 0 rfl) ?_
    refine k_get (C := RX2) (T := TX2) (N := 12) (v := .int (x 1)) hx hb hts hiX2 hown hK.1 ho rfl 1 (by decide) (hts (.fieldLink RX5 24 "HouseWorkers$Work" "kind" "I") (by decide +kernel)) (fun _ h9 => h9) rfl dX5_commits_9 ?_
    refine lv_iconst (v := 2) hx hb dX5_commits_12 (by decide) ?_
    refine lv_icmp_ne (tgt := 20) hx hb dX5_commits_13 (by decide) (fun c13 => ?_) (fun c13 => ?_)
    · refine lv_iconst (v := 0) hx hb dX5_commits_20 (by decide) ?_
      exact k_retz hx hb hr hlocks (by decide) ⟨(b2_f (by simp [c5, c13])).symm, rfl⟩ hS dX5_commits_21
    · refine lv_iconst (v := 1) hx hb dX5_commits_16 (by decide) ?_
      refine lv_goto (tgt := 21) hx hb dX5_commits_17 (by decide) ?_
      exact k_retz hx hb hr hlocks (by decide) ⟨(b2_t (by simp [c5, c13])).symm, rfl⟩ hS dX5_commits_21
set_option maxHeartbeats 4000000 in
set_option maxRecDepth 100000 in
theorem c_failsNow_X2 (l : Launch) {D : va_G} {cI cZ cO : ClassId} {mi : Nat} (H : Heap) (a : Nat) (x : Nat → Int32) (dr : Nat) (ho : Ob D a 3 (WFs x [.ref dr]) H) : Met l yX5_failsNow wsX5_failsNow ({ frames := 1, cells := 0, slots := 0, locals := 20 }) (Pk D cI cZ cO mi [.ref a] H) (Qpi H (b2 (decide (x 3 = x 4 + 1) && decide (x 4 < x 2)))) 0 0 (fun _ => False) := by
  refine Met.ofW (cc := cX5_failsNow) (maxL := 1) (ret := (some .boolean)) (by decide) rfl ?_
  intro p e s m args below meth c s₁ Bd hml hv
  obtain ⟨rfl, rfl, hK⟩ := hv
  have hx := Bd.exec
  have hb := Bd.bytes
  have hr := Bd.returns
  have hts := atoms_spec (ws := wsX5_failsNow) Bd.pre
  have hown : s.vm.findClass RX5 = some m.cls := findClass_of_methodNamed Bd.named
  have hlocks := Bd.notSynchronized
  have hS : va_S (fun _ => False) s.heap s.heap [] := va_S.rf
  have hl := lv_entry ([.ref a]) (n := 1) (Nat.le_of_ble_eq_true rfl)
  rw [lg_entry_eq]
  generalize (lg_sl ([.ref a]) ++ List.replicate (1 - (lg_sl ([.ref a])).length) Slot.unset).toArray = ls at hl ⊢
  have hl : lv_has ls 1 [(0, .ref a)] := hl
  have hiX2 : ∀ w ∈ wsX20, w ∈ wsX5_failsNow := by decide +kernel
  refine lv_aload_n hx hb dX5_failsNow_0 rfl (lv_at hl 0 rfl) ?_
  refine k_get (C := RX2) (T := TX2) (N := 12) (v := .int (x 3)) hx hb hts hiX2 hown hK.1 ho rfl 3 (by decide) (hts (.fieldLink RX5 30 "HouseWorkers$Work" "failsAt" "I") (by decide +kernel)) (fun _ h9 => h9) rfl dX5_failsNow_1 ?_
  refine lv_aload_n hx hb dX5_failsNow_4 rfl (lv_at hl 0 rfl) ?_
  refine k_get (C := RX2) (T := TX2) (N := 12) (v := .int (x 4)) hx hb hts hiX2 hown hK.1 ho rfl 4 (by decide) (hts (.fieldLink RX5 33 "HouseWorkers$Work" "stepsDone" "I") (by decide +kernel)) (fun _ h9 => h9) rfl dX5_failsNow_5 ?_
  refine lv_iconst (v := 1) hx hb dX5_failsNow_8 (by decide) ?_
  refine lv_iadd hx hb dX5_failsNow_9 ?_
  refine lv_icmp_ne (tgt := 24) hx hb dX5_failsNow_10 (by decide) (fun c10 => ?_) (fun c10 => ?_)
  · refine lv_iconst (v := 0) hx hb dX5_failsNow_24 (by decide) ?_
    exact k_retz hx hb hr hlocks (by decide) ⟨(b2_f (by simp [c10])).symm, rfl⟩ hS dX5_failsNow_25
  · refine lv_aload_n hx hb dX5_failsNow_13 rfl (lv_at hl 0 rfl) ?_
    refine k_callpi (v := b2 (decide (¬ x 4 < x 2))) (va_runU (As := []) (rest := []) ⟨hx, hb, hml, hown, hts⟩ (c_doneAll_X2 l _ a x dr ho) (va_cwU 0 hts gX5_failsNow_X5_hasDoneAllSteps_u36X2 rfl rfl rfl rfl (by decide +kernel) ⟨Nat.le_of_ble_eq_true rfl, Nat.le_of_ble_eq_true rfl⟩) (k_preV hK (k_recv hK.1 ho rfl)) rfl rfl hl.1 rfl (lv_room (Nat.le_of_ble_eq_true rfl)) dX5_failsNow_14 ⟨(Nat.zero_le _), (Nat.zero_le _)⟩) hS (fun locs hS => ?_)
    refine lv_if_ne (tgt := 24) hx hb dX5_failsNow_17 (by decide) (fun c17 => ?_) (fun c17 => ?_)
    · have c17 := of_decide_eq_true (b2_n c17)
      refine lv_iconst (v := 0) hx hb dX5_failsNow_24 (by decide) ?_
      exact k_retz hx hb hr hlocks (by decide) ⟨(b2_f (by simp [c10, c17])).symm, rfl⟩ hS dX5_failsNow_25
    · have c17 := Decidable.byContradiction (of_decide_eq_false (b2_0 c17))
      refine lv_iconst (v := 1) hx hb dX5_failsNow_20 (by decide) ?_
      refine lv_goto (tgt := 25) hx hb dX5_failsNow_21 (by decide) ?_
      exact k_retz hx hb hr hlocks (by decide) ⟨(b2_t (by simp [c10, c17])).symm, rfl⟩ hS dX5_failsNow_25
set_option maxHeartbeats 4000000 in
set_option maxRecDepth 100000 in
theorem c_pins_X2 (l : Launch) {D : va_G} {cI cZ cO : ClassId} {mi : Nat} (H : Heap) (a : Nat) (x : Nat → Int32) (dr : Nat) (v : Int32) (ho : Ob D a 3 (WFs x [.ref dr]) H) : Met l yX5_pins wsX5_pins ({ frames := 1, cells := 0, slots := 0, locals := 20 }) (Pk D cI cZ cO mi [.ref a, .int v] H) (Qpi H (b2 (decide (x 9 = 0) && decide (x 7 = v)))) 0 0 (fun _ => False) := by
  refine Met.ofW (cc := cX5_pins) (maxL := 2) (ret := (some .boolean)) (by decide) rfl ?_
  intro p e s m args below meth c s₁ Bd hml hv
  obtain ⟨rfl, rfl, hK⟩ := hv
  have hx := Bd.exec
  have hb := Bd.bytes
  have hr := Bd.returns
  have hts := atoms_spec (ws := wsX5_pins) Bd.pre
  have hown : s.vm.findClass RX5 = some m.cls := findClass_of_methodNamed Bd.named
  have hlocks := Bd.notSynchronized
  have hS : va_S (fun _ => False) s.heap s.heap [] := va_S.rf
  have hl := lv_entry ([.ref a, .int v]) (n := 2) (Nat.le_of_ble_eq_true rfl)
  rw [lg_entry_eq]
  generalize (lg_sl ([.ref a, .int v]) ++ List.replicate (2 - (lg_sl ([.ref a, .int v])).length) Slot.unset).toArray = ls at hl ⊢
  have hl : lv_has ls 2 [(0, .ref a), (1, .int v)] := hl
  have hiX2 : ∀ w ∈ wsX20, w ∈ wsX5_pins := by decide +kernel
  refine lv_aload_n hx hb dX5_pins_0 rfl (lv_at hl 0 rfl) ?_
  refine k_callpi (v := b2 (decide (¬ x 9 = 0))) (va_runU (As := []) (rest := []) ⟨hx, hb, hml, hown, hts⟩ (c_hasEnded_X2 l _ a x dr ho) (va_cwU 0 hts gX5_pins_X5_hasEnded_u40X2 rfl rfl rfl rfl (by decide +kernel) ⟨Nat.le_of_ble_eq_true rfl, Nat.le_of_ble_eq_true rfl⟩) (k_preV hK (k_recv hK.1 ho rfl)) rfl rfl hl.1 rfl (lv_room (Nat.le_of_ble_eq_true rfl)) dX5_pins_1 ⟨(Nat.zero_le _), (Nat.zero_le _)⟩) hS (fun locs hS => ?_)
  refine lv_if_ne (tgt := 19) hx hb dX5_pins_4 (by decide) (fun c4 => ?_) (fun c4 => ?_)
  · have c4 := of_decide_eq_true (b2_n c4)
    refine lv_iconst (v := 0) hx hb dX5_pins_19 (by decide) ?_
    exact k_retz hx hb hr hlocks (by decide) ⟨(b2_f (by simp [c4])).symm, rfl⟩ hS dX5_pins_20
  · have c4 := Decidable.byContradiction (of_decide_eq_false (b2_0 c4))
    refine lv_aload_n hx hb dX5_pins_7 rfl (lv_at hl 0 rfl) ?_
    refine k_get (C := RX2) (T := TX2) (N := 12) (v := .int (x 7)) hx hb hts hiX2 hown hK.1 ho rfl 7 (by decide) (hts (.fieldLink RX5 15 "HouseWorkers$Work" "pinned" "I") (by decide +kernel)) (fun _ h9 => h9) rfl dX5_pins_8 ?_
    refine lv_iload_n hx hb dX5_pins_11 rfl (lv_at hl 1 rfl) ?_
    refine lv_icmp_ne (tgt := 19) hx hb dX5_pins_12 (by decide) (fun c12 => ?_) (fun c12 => ?_)
    · refine lv_iconst (v := 0) hx hb dX5_pins_19 (by decide) ?_
      exact k_retz hx hb hr hlocks (by decide) ⟨(b2_f (by simp [c4, c12])).symm, rfl⟩ hS dX5_pins_20
    · refine lv_iconst (v := 1) hx hb dX5_pins_15 (by decide) ?_
      refine lv_goto (tgt := 20) hx hb dX5_pins_16 (by decide) ?_
      exact k_retz hx hb hr hlocks (by decide) ⟨(b2_t (by simp [c4, c12])).symm, rfl⟩ hS dX5_pins_20
set_option maxHeartbeats 4000000 in
set_option maxRecDepth 100000 in
theorem c_isToGet_X2 (l : Launch) {D : va_G} {cI cZ cO : ClassId} {mi : Nat} (H : Heap) (a : Nat) (x : Nat → Int32) (dr : Nat) (v : Int32) (ho : Ob D a 3 (WFs x [.ref dr]) H) : Met l yX5_isToGet wsX5_isToGet ({ frames := 0, cells := 0, slots := 0, locals := 0 }) (Pk D cI cZ cO mi [.ref a, .int v] H) (Qpi H (b2 false)) 0 0 (fun _ => False) := by
  refine Met.ofW (cc := cX5_isToGet) (maxL := 2) (ret := (some .boolean)) (by decide) rfl ?_
  intro p e s m args below meth c s₁ Bd hml hv
  obtain ⟨rfl, rfl, hK⟩ := hv
  have hx := Bd.exec
  have hb := Bd.bytes
  have hr := Bd.returns
  have hts := atoms_spec (ws := wsX5_isToGet) Bd.pre
  have hown : s.vm.findClass RX5 = some m.cls := findClass_of_methodNamed Bd.named
  have hlocks := Bd.notSynchronized
  have hS : va_S (fun _ => False) s.heap s.heap [] := va_S.rf
  have hl := lv_entry ([.ref a, .int v]) (n := 2) (Nat.le_of_ble_eq_true rfl)
  rw [lg_entry_eq]
  generalize (lg_sl ([.ref a, .int v]) ++ List.replicate (2 - (lg_sl ([.ref a, .int v])).length) Slot.unset).toArray = ls at hl ⊢
  have hl : lv_has ls 2 [(0, .ref a), (1, .int v)] := hl
  refine lv_iconst (v := 0) hx hb dX5_isToGet_0 (by decide) ?_
  exact k_retz hx hb hr hlocks (by decide) ⟨rfl, rfl⟩ hS dX5_isToGet_1
set_option maxHeartbeats 4000000 in
set_option maxRecDepth 100000 in
theorem c_hasEnded_X4 (l : Launch) {D : va_G} {cI cZ cO : ClassId} {mi : Nat} (H : Heap) (a : Nat) (x : Nat → Int32)  (ho : Ob D a 5 (WFs x []) H) : Met l yX5_hasEnded wsX5_hasEnded ({ frames := 0, cells := 0, slots := 0, locals := 0 }) (Pk D cI cZ cO mi [.ref a] H) (Qpi H (b2 (decide (¬ x 9 = 0)))) 0 0 (fun _ => False) := by
  refine Met.ofW (cc := cX5_hasEnded) (maxL := 1) (ret := (some .boolean)) (by decide) rfl ?_
  intro p e s m args below meth c s₁ Bd hml hv
  obtain ⟨rfl, rfl, hK⟩ := hv
  have hx := Bd.exec
  have hb := Bd.bytes
  have hr := Bd.returns
  have hts := atoms_spec (ws := wsX5_hasEnded) Bd.pre
  have hown : s.vm.findClass RX5 = some m.cls := findClass_of_methodNamed Bd.named
  have hlocks := Bd.notSynchronized
  have hS : va_S (fun _ => False) s.heap s.heap [] := va_S.rf
  have hl := lv_entry ([.ref a]) (n := 1) (Nat.le_of_ble_eq_true rfl)
  rw [lg_entry_eq]
  generalize (lg_sl ([.ref a]) ++ List.replicate (1 - (lg_sl ([.ref a])).length) Slot.unset).toArray = ls at hl ⊢
  have hl : lv_has ls 1 [(0, .ref a)] := hl
  have hiX4 : ∀ w ∈ wsX40, w ∈ wsX5_hasEnded := by decide +kernel
  refine lv_aload_n hx hb dX5_hasEnded_0 rfl (lv_at hl 0 rfl) ?_
  refine k_get (C := RX4) (T := TX4) (N := 11) (v := .int (x 9)) hx hb hts hiX4 hown hK.1 ho rfl 9 (by decide) (hts (.fieldLink RX5 18 "HouseWorkers$Work" "end" "I") (by decide +kernel)) (fun _ h9 => h9) rfl dX5_hasEnded_1 ?_
  refine lv_if_eq (tgt := 11) hx hb dX5_hasEnded_4 (by decide) (fun c4 => ?_) (fun c4 => ?_)
  · refine lv_iconst (v := 0) hx hb dX5_hasEnded_11 (by decide) ?_
    exact k_retz hx hb hr hlocks (by decide) ⟨(b2_f (by simp [c4])).symm, rfl⟩ hS dX5_hasEnded_12
  · refine lv_iconst (v := 1) hx hb dX5_hasEnded_7 (by decide) ?_
    refine lv_goto (tgt := 12) hx hb dX5_hasEnded_8 (by decide) ?_
    exact k_retz hx hb hr hlocks (by decide) ⟨(b2_t (by simp [c4])).symm, rfl⟩ hS dX5_hasEnded_12
set_option maxHeartbeats 4000000 in
set_option maxRecDepth 100000 in
theorem c_doneAll_X4 (l : Launch) {D : va_G} {cI cZ cO : ClassId} {mi : Nat} (H : Heap) (a : Nat) (x : Nat → Int32)  (ho : Ob D a 5 (WFs x []) H) : Met l yX5_hasDoneAllSteps wsX5_hasDoneAllSteps ({ frames := 0, cells := 0, slots := 0, locals := 0 }) (Pk D cI cZ cO mi [.ref a] H) (Qpi H (b2 (decide (¬ x 4 < x 2)))) 0 0 (fun _ => False) := by
  refine Met.ofW (cc := cX5_hasDoneAllSteps) (maxL := 1) (ret := (some .boolean)) (by decide) rfl ?_
  intro p e s m args below meth c s₁ Bd hml hv
  obtain ⟨rfl, rfl, hK⟩ := hv
  have hx := Bd.exec
  have hb := Bd.bytes
  have hr := Bd.returns
  have hts := atoms_spec (ws := wsX5_hasDoneAllSteps) Bd.pre
  have hown : s.vm.findClass RX5 = some m.cls := findClass_of_methodNamed Bd.named
  have hlocks := Bd.notSynchronized
  have hS : va_S (fun _ => False) s.heap s.heap [] := va_S.rf
  have hl := lv_entry ([.ref a]) (n := 1) (Nat.le_of_ble_eq_true rfl)
  rw [lg_entry_eq]
  generalize (lg_sl ([.ref a]) ++ List.replicate (1 - (lg_sl ([.ref a])).length) Slot.unset).toArray = ls at hl ⊢
  have hl : lv_has ls 1 [(0, .ref a)] := hl
  have hiX4 : ∀ w ∈ wsX40, w ∈ wsX5_hasDoneAllSteps := by decide +kernel
  refine lv_aload_n hx hb dX5_hasDoneAllSteps_0 rfl (lv_at hl 0 rfl) ?_
  refine k_get (C := RX4) (T := TX4) (N := 11) (v := .int (x 4)) hx hb hts hiX4 hown hK.1 ho rfl 4 (by decide) (hts (.fieldLink RX5 33 "HouseWorkers$Work" "stepsDone" "I") (by decide +kernel)) (fun _ h9 => h9) rfl dX5_hasDoneAllSteps_1 ?_
  refine lv_aload_n hx hb dX5_hasDoneAllSteps_4 rfl (lv_at hl 0 rfl) ?_
  refine k_get (C := RX4) (T := TX4) (N := 11) (v := .int (x 2)) hx hb hts hiX4 hown hK.1 ho rfl 2 (by decide) (hts (.fieldLink RX5 27 "HouseWorkers$Work" "steps" "I") (by decide +kernel)) (fun _ h9 => h9) rfl dX5_hasDoneAllSteps_5 ?_
  refine lv_icmp_lt (tgt := 15) hx hb dX5_hasDoneAllSteps_8 (by decide) (fun c8 => ?_) (fun c8 => ?_)
  · refine lv_iconst (v := 0) hx hb dX5_hasDoneAllSteps_15 (by decide) ?_
    exact k_retz hx hb hr hlocks (by decide) ⟨(b2_f (by simp [c8])).symm, rfl⟩ hS dX5_hasDoneAllSteps_16
  · refine lv_iconst (v := 1) hx hb dX5_hasDoneAllSteps_11 (by decide) ?_
    refine lv_goto (tgt := 16) hx hb dX5_hasDoneAllSteps_12 (by decide) ?_
    exact k_retz hx hb hr hlocks (by decide) ⟨(b2_t (by simp [c8])).symm, rfl⟩ hS dX5_hasDoneAllSteps_16
set_option maxHeartbeats 4000000 in
set_option maxRecDepth 100000 in
theorem c_commits_X4 (l : Launch) {D : va_G} {cI cZ cO : ClassId} {mi : Nat} (H : Heap) (a : Nat) (x : Nat → Int32)  (ho : Ob D a 5 (WFs x []) H) : Met l yX5_commits wsX5_commits ({ frames := 0, cells := 0, slots := 0, locals := 0 }) (Pk D cI cZ cO mi [.ref a] H) (Qpi H (b2 (decide (x 1 = 1) || decide (x 1 = 2)))) 0 0 (fun _ => False) := by
  refine Met.ofW (cc := cX5_commits) (maxL := 1) (ret := (some .boolean)) (by decide) rfl ?_
  intro p e s m args below meth c s₁ Bd hml hv
  obtain ⟨rfl, rfl, hK⟩ := hv
  have hx := Bd.exec
  have hb := Bd.bytes
  have hr := Bd.returns
  have hts := atoms_spec (ws := wsX5_commits) Bd.pre
  have hown : s.vm.findClass RX5 = some m.cls := findClass_of_methodNamed Bd.named
  have hlocks := Bd.notSynchronized
  have hS : va_S (fun _ => False) s.heap s.heap [] := va_S.rf
  have hl := lv_entry ([.ref a]) (n := 1) (Nat.le_of_ble_eq_true rfl)
  rw [lg_entry_eq]
  generalize (lg_sl ([.ref a]) ++ List.replicate (1 - (lg_sl ([.ref a])).length) Slot.unset).toArray = ls at hl ⊢
  have hl : lv_has ls 1 [(0, .ref a)] := hl
  have hiX4 : ∀ w ∈ wsX40, w ∈ wsX5_commits := by decide +kernel
  refine lv_aload_n hx hb dX5_commits_0 rfl (lv_at hl 0 rfl) ?_
  refine k_get (C := RX4) (T := TX4) (N := 11) (v := .int (x 1)) hx hb hts hiX4 hown hK.1 ho rfl 1 (by decide) (hts (.fieldLink RX5 24 "HouseWorkers$Work" "kind" "I") (by decide +kernel)) (fun _ h9 => h9) rfl dX5_commits_1 ?_
  refine lv_iconst (v := 1) hx hb dX5_commits_4 (by decide) ?_
  refine lv_icmp_eq (tgt := 16) hx hb dX5_commits_5 (by decide) (fun c5 => ?_) (fun c5 => ?_)
  · refine lv_iconst (v := 1) hx hb dX5_commits_16 (by decide) ?_
    refine lv_goto (tgt := 21) hx hb dX5_commits_17 (by decide) ?_
    exact k_retz hx hb hr hlocks (by decide) ⟨(b2_t (by simp [c5])).symm, rfl⟩ hS dX5_commits_21
  · refine lv_aload_n hx hb dX5_commits_8 rfl (lv_at hl 0 rfl) ?_
    refine k_get (C := RX4) (T := TX4) (N := 11) (v := .int (x 1)) hx hb hts hiX4 hown hK.1 ho rfl 1 (by decide) (hts (.fieldLink RX5 24 "HouseWorkers$Work" "kind" "I") (by decide +kernel)) (fun _ h9 => h9) rfl dX5_commits_9 ?_
    refine lv_iconst (v := 2) hx hb dX5_commits_12 (by decide) ?_
    refine lv_icmp_ne (tgt := 20) hx hb dX5_commits_13 (by decide) (fun c13 => ?_) (fun c13 => ?_)
    · refine lv_iconst (v := 0) hx hb dX5_commits_20 (by decide) ?_
      exact k_retz hx hb hr hlocks (by decide) ⟨(b2_f (by simp [c5, c13])).symm, rfl⟩ hS dX5_commits_21
    · refine lv_iconst (v := 1) hx hb dX5_commits_16 (by decide) ?_
      refine lv_goto (tgt := 21) hx hb dX5_commits_17 (by decide) ?_
      exact k_retz hx hb hr hlocks (by decide) ⟨(b2_t (by simp [c5, c13])).symm, rfl⟩ hS dX5_commits_21
set_option maxHeartbeats 4000000 in
set_option maxRecDepth 100000 in
theorem c_failsNow_X4 (l : Launch) {D : va_G} {cI cZ cO : ClassId} {mi : Nat} (H : Heap) (a : Nat) (x : Nat → Int32)  (ho : Ob D a 5 (WFs x []) H) : Met l yX5_failsNow wsX5_failsNow ({ frames := 1, cells := 0, slots := 0, locals := 20 }) (Pk D cI cZ cO mi [.ref a] H) (Qpi H (b2 (decide (x 3 = x 4 + 1) && decide (x 4 < x 2)))) 0 0 (fun _ => False) := by
  refine Met.ofW (cc := cX5_failsNow) (maxL := 1) (ret := (some .boolean)) (by decide) rfl ?_
  intro p e s m args below meth c s₁ Bd hml hv
  obtain ⟨rfl, rfl, hK⟩ := hv
  have hx := Bd.exec
  have hb := Bd.bytes
  have hr := Bd.returns
  have hts := atoms_spec (ws := wsX5_failsNow) Bd.pre
  have hown : s.vm.findClass RX5 = some m.cls := findClass_of_methodNamed Bd.named
  have hlocks := Bd.notSynchronized
  have hS : va_S (fun _ => False) s.heap s.heap [] := va_S.rf
  have hl := lv_entry ([.ref a]) (n := 1) (Nat.le_of_ble_eq_true rfl)
  rw [lg_entry_eq]
  generalize (lg_sl ([.ref a]) ++ List.replicate (1 - (lg_sl ([.ref a])).length) Slot.unset).toArray = ls at hl ⊢
  have hl : lv_has ls 1 [(0, .ref a)] := hl
  have hiX4 : ∀ w ∈ wsX40, w ∈ wsX5_failsNow := by decide +kernel
  refine lv_aload_n hx hb dX5_failsNow_0 rfl (lv_at hl 0 rfl) ?_
  refine k_get (C := RX4) (T := TX4) (N := 11) (v := .int (x 3)) hx hb hts hiX4 hown hK.1 ho rfl 3 (by decide) (hts (.fieldLink RX5 30 "HouseWorkers$Work" "failsAt" "I") (by decide +kernel)) (fun _ h9 => h9) rfl dX5_failsNow_1 ?_
  refine lv_aload_n hx hb dX5_failsNow_4 rfl (lv_at hl 0 rfl) ?_
  refine k_get (C := RX4) (T := TX4) (N := 11) (v := .int (x 4)) hx hb hts hiX4 hown hK.1 ho rfl 4 (by decide) (hts (.fieldLink RX5 33 "HouseWorkers$Work" "stepsDone" "I") (by decide +kernel)) (fun _ h9 => h9) rfl dX5_failsNow_5 ?_
  refine lv_iconst (v := 1) hx hb dX5_failsNow_8 (by decide) ?_
  refine lv_iadd hx hb dX5_failsNow_9 ?_
  refine lv_icmp_ne (tgt := 24) hx hb dX5_failsNow_10 (by decide) (fun c10 => ?_) (fun c10 => ?_)
  · refine lv_iconst (v := 0) hx hb dX5_failsNow_24 (by decide) ?_
    exact k_retz hx hb hr hlocks (by decide) ⟨(b2_f (by simp [c10])).symm, rfl⟩ hS dX5_failsNow_25
  · refine lv_aload_n hx hb dX5_failsNow_13 rfl (lv_at hl 0 rfl) ?_
    refine k_callpi (v := b2 (decide (¬ x 4 < x 2))) (va_runU (As := []) (rest := []) ⟨hx, hb, hml, hown, hts⟩ (c_doneAll_X4 l _ a x  ho) (va_cwU 0 hts gX5_failsNow_X5_hasDoneAllSteps_u36X4 rfl rfl rfl rfl (by decide +kernel) ⟨Nat.le_of_ble_eq_true rfl, Nat.le_of_ble_eq_true rfl⟩) (k_preV hK (k_recv hK.1 ho rfl)) rfl rfl hl.1 rfl (lv_room (Nat.le_of_ble_eq_true rfl)) dX5_failsNow_14 ⟨(Nat.zero_le _), (Nat.zero_le _)⟩) hS (fun locs hS => ?_)
    refine lv_if_ne (tgt := 24) hx hb dX5_failsNow_17 (by decide) (fun c17 => ?_) (fun c17 => ?_)
    · have c17 := of_decide_eq_true (b2_n c17)
      refine lv_iconst (v := 0) hx hb dX5_failsNow_24 (by decide) ?_
      exact k_retz hx hb hr hlocks (by decide) ⟨(b2_f (by simp [c10, c17])).symm, rfl⟩ hS dX5_failsNow_25
    · have c17 := Decidable.byContradiction (of_decide_eq_false (b2_0 c17))
      refine lv_iconst (v := 1) hx hb dX5_failsNow_20 (by decide) ?_
      refine lv_goto (tgt := 25) hx hb dX5_failsNow_21 (by decide) ?_
      exact k_retz hx hb hr hlocks (by decide) ⟨(b2_t (by simp [c10, c17])).symm, rfl⟩ hS dX5_failsNow_25
set_option maxHeartbeats 4000000 in
set_option maxRecDepth 100000 in
theorem c_pins_X4 (l : Launch) {D : va_G} {cI cZ cO : ClassId} {mi : Nat} (H : Heap) (a : Nat) (x : Nat → Int32)  (v : Int32) (ho : Ob D a 5 (WFs x []) H) : Met l yX5_pins wsX5_pins ({ frames := 1, cells := 0, slots := 0, locals := 20 }) (Pk D cI cZ cO mi [.ref a, .int v] H) (Qpi H (b2 (decide (x 9 = 0) && decide (x 7 = v)))) 0 0 (fun _ => False) := by
  refine Met.ofW (cc := cX5_pins) (maxL := 2) (ret := (some .boolean)) (by decide) rfl ?_
  intro p e s m args below meth c s₁ Bd hml hv
  obtain ⟨rfl, rfl, hK⟩ := hv
  have hx := Bd.exec
  have hb := Bd.bytes
  have hr := Bd.returns
  have hts := atoms_spec (ws := wsX5_pins) Bd.pre
  have hown : s.vm.findClass RX5 = some m.cls := findClass_of_methodNamed Bd.named
  have hlocks := Bd.notSynchronized
  have hS : va_S (fun _ => False) s.heap s.heap [] := va_S.rf
  have hl := lv_entry ([.ref a, .int v]) (n := 2) (Nat.le_of_ble_eq_true rfl)
  rw [lg_entry_eq]
  generalize (lg_sl ([.ref a, .int v]) ++ List.replicate (2 - (lg_sl ([.ref a, .int v])).length) Slot.unset).toArray = ls at hl ⊢
  have hl : lv_has ls 2 [(0, .ref a), (1, .int v)] := hl
  have hiX4 : ∀ w ∈ wsX40, w ∈ wsX5_pins := by decide +kernel
  refine lv_aload_n hx hb dX5_pins_0 rfl (lv_at hl 0 rfl) ?_
  refine k_callpi (v := b2 (decide (¬ x 9 = 0))) (va_runU (As := []) (rest := []) ⟨hx, hb, hml, hown, hts⟩ (c_hasEnded_X4 l _ a x  ho) (va_cwU 0 hts gX5_pins_X5_hasEnded_u40X4 rfl rfl rfl rfl (by decide +kernel) ⟨Nat.le_of_ble_eq_true rfl, Nat.le_of_ble_eq_true rfl⟩) (k_preV hK (k_recv hK.1 ho rfl)) rfl rfl hl.1 rfl (lv_room (Nat.le_of_ble_eq_true rfl)) dX5_pins_1 ⟨(Nat.zero_le _), (Nat.zero_le _)⟩) hS (fun locs hS => ?_)
  refine lv_if_ne (tgt := 19) hx hb dX5_pins_4 (by decide) (fun c4 => ?_) (fun c4 => ?_)
  · have c4 := of_decide_eq_true (b2_n c4)
    refine lv_iconst (v := 0) hx hb dX5_pins_19 (by decide) ?_
    exact k_retz hx hb hr hlocks (by decide) ⟨(b2_f (by simp [c4])).symm, rfl⟩ hS dX5_pins_20
  · have c4 := Decidable.byContradiction (of_decide_eq_false (b2_0 c4))
    refine lv_aload_n hx hb dX5_pins_7 rfl (lv_at hl 0 rfl) ?_
    refine k_get (C := RX4) (T := TX4) (N := 11) (v := .int (x 7)) hx hb hts hiX4 hown hK.1 ho rfl 7 (by decide) (hts (.fieldLink RX5 15 "HouseWorkers$Work" "pinned" "I") (by decide +kernel)) (fun _ h9 => h9) rfl dX5_pins_8 ?_
    refine lv_iload_n hx hb dX5_pins_11 rfl (lv_at hl 1 rfl) ?_
    refine lv_icmp_ne (tgt := 19) hx hb dX5_pins_12 (by decide) (fun c12 => ?_) (fun c12 => ?_)
    · refine lv_iconst (v := 0) hx hb dX5_pins_19 (by decide) ?_
      exact k_retz hx hb hr hlocks (by decide) ⟨(b2_f (by simp [c4, c12])).symm, rfl⟩ hS dX5_pins_20
    · refine lv_iconst (v := 1) hx hb dX5_pins_15 (by decide) ?_
      refine lv_goto (tgt := 20) hx hb dX5_pins_16 (by decide) ?_
      exact k_retz hx hb hr hlocks (by decide) ⟨(b2_t (by simp [c4, c12])).symm, rfl⟩ hS dX5_pins_20
set_option maxHeartbeats 4000000 in
set_option maxRecDepth 100000 in
theorem c_isToGet_X4 (l : Launch) {D : va_G} {cI cZ cO : ClassId} {mi : Nat} (H : Heap) (a : Nat) (x : Nat → Int32)  (v : Int32) (ho : Ob D a 5 (WFs x []) H) : Met l yX4_isToGet wsX4_isToGet ({ frames := 1, cells := 0, slots := 0, locals := 20 }) (Pk D cI cZ cO mi [.ref a, .int v] H) (Qpi H (b2 (decide (x 9 = 0) && decide (x 6 < v)))) 0 0 (fun _ => False) := by
  refine Met.ofW (cc := cX4_isToGet) (maxL := 2) (ret := (some .boolean)) (by decide) rfl ?_
  intro p e s m args below meth c s₁ Bd hml hv
  obtain ⟨rfl, rfl, hK⟩ := hv
  have hx := Bd.exec
  have hb := Bd.bytes
  have hr := Bd.returns
  have hts := atoms_spec (ws := wsX4_isToGet) Bd.pre
  have hown : s.vm.findClass RX4 = some m.cls := findClass_of_methodNamed Bd.named
  have hlocks := Bd.notSynchronized
  have hS : va_S (fun _ => False) s.heap s.heap [] := va_S.rf
  have hl := lv_entry ([.ref a, .int v]) (n := 2) (Nat.le_of_ble_eq_true rfl)
  rw [lg_entry_eq]
  generalize (lg_sl ([.ref a, .int v]) ++ List.replicate (2 - (lg_sl ([.ref a, .int v])).length) Slot.unset).toArray = ls at hl ⊢
  have hl : lv_has ls 2 [(0, .ref a), (1, .int v)] := hl
  have hiX4 : ∀ w ∈ wsX40, w ∈ wsX4_isToGet := by decide +kernel
  refine lv_aload_n hx hb dX4_isToGet_0 rfl (lv_at hl 0 rfl) ?_
  refine k_callpi (v := b2 (decide (¬ x 9 = 0))) (va_runU (As := []) (rest := []) ⟨hx, hb, hml, hown, hts⟩ (c_hasEnded_X4 l _ a x ho) (va_cwU 0 hts gX4_isToGet_X5_hasEnded_u36X4 rfl rfl rfl rfl (by decide +kernel) ⟨Nat.le_of_ble_eq_true rfl, Nat.le_of_ble_eq_true rfl⟩) (k_preV hK (k_recv hK.1 ho rfl)) rfl rfl hl.1 rfl (lv_room (Nat.le_of_ble_eq_true rfl)) dX4_isToGet_1 ⟨(Nat.zero_le _), (Nat.zero_le _)⟩) hS (fun locs hS => ?_)
  refine lv_if_ne (tgt := 19) hx hb dX4_isToGet_4 (by decide) (fun c4 => ?_) (fun c4 => ?_)
  · have c4 := of_decide_eq_true (b2_n c4)
    refine lv_iconst (v := 0) hx hb dX4_isToGet_19 (by decide) ?_
    exact k_retz hx hb hr hlocks (by decide) ⟨(b2_f (by simp [c4])).symm, rfl⟩ hS dX4_isToGet_20
  · have c4 := Decidable.byContradiction (of_decide_eq_false (b2_0 c4))
    refine lv_iload_n hx hb dX4_isToGet_7 rfl (lv_at hl 1 rfl) ?_
    refine lv_aload_n hx hb dX4_isToGet_8 rfl (lv_at hl 0 rfl) ?_
    refine k_get (C := RX4) (T := TX4) (N := 11) (v := .int (x 6)) hx hb hts hiX4 hown hK.1 ho rfl 6 (by decide) (hts (.fieldLink RX4 15 "HouseWorkers$StreamWork" "version" "I") (by decide +kernel)) (fun x9 h9 => u_same (hts (.sameField "HouseWorkers$StreamWork" "HouseWorkers$Work" "version" "I") (by decide +kernel)) x9 h9) rfl dX4_isToGet_9 ?_
    refine lv_icmp_le (tgt := 19) hx hb dX4_isToGet_12 (by decide) (fun c12 => ?_) (fun c12 => ?_)
    · have c12 := Int32.not_lt.mpr c12
      refine lv_iconst (v := 0) hx hb dX4_isToGet_19 (by decide) ?_
      exact k_retz hx hb hr hlocks (by decide) ⟨(b2_f (by simp [c4, c12])).symm, rfl⟩ hS dX4_isToGet_20
    · have c12 := Int32.not_le.mp c12
      refine lv_iconst (v := 1) hx hb dX4_isToGet_15 (by decide) ?_
      refine lv_goto (tgt := 20) hx hb dX4_isToGet_16 (by decide) ?_
      exact k_retz hx hb hr hlocks (by decide) ⟨(b2_t (by simp [c4, c12])).symm, rfl⟩ hS dX4_isToGet_20
set_option maxHeartbeats 4000000 in
set_option maxRecDepth 100000 in
theorem c_hasEnded_X6 (l : Launch) {D : va_G} {cI cZ cO : ClassId} {mi : Nat} (H : Heap) (a : Nat) (x : Nat → Int32) (fi by0 : Int32) (dr : Nat) (ho : Ob D a 6 (WFs x [.int fi, .int by0, .ref dr]) H) : Met l yX5_hasEnded wsX5_hasEnded ({ frames := 0, cells := 0, slots := 0, locals := 0 }) (Pk D cI cZ cO mi [.ref a] H) (Qpi H (b2 (decide (¬ x 9 = 0)))) 0 0 (fun _ => False) := by
  refine Met.ofW (cc := cX5_hasEnded) (maxL := 1) (ret := (some .boolean)) (by decide) rfl ?_
  intro p e s m args below meth c s₁ Bd hml hv
  obtain ⟨rfl, rfl, hK⟩ := hv
  have hx := Bd.exec
  have hb := Bd.bytes
  have hr := Bd.returns
  have hts := atoms_spec (ws := wsX5_hasEnded) Bd.pre
  have hown : s.vm.findClass RX5 = some m.cls := findClass_of_methodNamed Bd.named
  have hlocks := Bd.notSynchronized
  have hS : va_S (fun _ => False) s.heap s.heap [] := va_S.rf
  have hl := lv_entry ([.ref a]) (n := 1) (Nat.le_of_ble_eq_true rfl)
  rw [lg_entry_eq]
  generalize (lg_sl ([.ref a]) ++ List.replicate (1 - (lg_sl ([.ref a])).length) Slot.unset).toArray = ls at hl ⊢
  have hl : lv_has ls 1 [(0, .ref a)] := hl
  have hiX6 : ∀ w ∈ wsX60, w ∈ wsX5_hasEnded := by decide +kernel
  refine lv_aload_n hx hb dX5_hasEnded_0 rfl (lv_at hl 0 rfl) ?_
  refine k_get (C := RX6) (T := TX6) (N := 14) (v := .int (x 9)) hx hb hts hiX6 hown hK.1 ho rfl 9 (by decide) (hts (.fieldLink RX5 18 "HouseWorkers$Work" "end" "I") (by decide +kernel)) (fun _ h9 => h9) rfl dX5_hasEnded_1 ?_
  refine lv_if_eq (tgt := 11) hx hb dX5_hasEnded_4 (by decide) (fun c4 => ?_) (fun c4 => ?_)
  · refine lv_iconst (v := 0) hx hb dX5_hasEnded_11 (by decide) ?_
    exact k_retz hx hb hr hlocks (by decide) ⟨(b2_f (by simp [c4])).symm, rfl⟩ hS dX5_hasEnded_12
  · refine lv_iconst (v := 1) hx hb dX5_hasEnded_7 (by decide) ?_
    refine lv_goto (tgt := 12) hx hb dX5_hasEnded_8 (by decide) ?_
    exact k_retz hx hb hr hlocks (by decide) ⟨(b2_t (by simp [c4])).symm, rfl⟩ hS dX5_hasEnded_12
set_option maxHeartbeats 4000000 in
set_option maxRecDepth 100000 in
theorem c_doneAll_X6 (l : Launch) {D : va_G} {cI cZ cO : ClassId} {mi : Nat} (H : Heap) (a : Nat) (x : Nat → Int32) (fi by0 : Int32) (dr : Nat) (ho : Ob D a 6 (WFs x [.int fi, .int by0, .ref dr]) H) : Met l yX5_hasDoneAllSteps wsX5_hasDoneAllSteps ({ frames := 0, cells := 0, slots := 0, locals := 0 }) (Pk D cI cZ cO mi [.ref a] H) (Qpi H (b2 (decide (¬ x 4 < x 2)))) 0 0 (fun _ => False) := by
  refine Met.ofW (cc := cX5_hasDoneAllSteps) (maxL := 1) (ret := (some .boolean)) (by decide) rfl ?_
  intro p e s m args below meth c s₁ Bd hml hv
  obtain ⟨rfl, rfl, hK⟩ := hv
  have hx := Bd.exec
  have hb := Bd.bytes
  have hr := Bd.returns
  have hts := atoms_spec (ws := wsX5_hasDoneAllSteps) Bd.pre
  have hown : s.vm.findClass RX5 = some m.cls := findClass_of_methodNamed Bd.named
  have hlocks := Bd.notSynchronized
  have hS : va_S (fun _ => False) s.heap s.heap [] := va_S.rf
  have hl := lv_entry ([.ref a]) (n := 1) (Nat.le_of_ble_eq_true rfl)
  rw [lg_entry_eq]
  generalize (lg_sl ([.ref a]) ++ List.replicate (1 - (lg_sl ([.ref a])).length) Slot.unset).toArray = ls at hl ⊢
  have hl : lv_has ls 1 [(0, .ref a)] := hl
  have hiX6 : ∀ w ∈ wsX60, w ∈ wsX5_hasDoneAllSteps := by decide +kernel
  refine lv_aload_n hx hb dX5_hasDoneAllSteps_0 rfl (lv_at hl 0 rfl) ?_
  refine k_get (C := RX6) (T := TX6) (N := 14) (v := .int (x 4)) hx hb hts hiX6 hown hK.1 ho rfl 4 (by decide) (hts (.fieldLink RX5 33 "HouseWorkers$Work" "stepsDone" "I") (by decide +kernel)) (fun _ h9 => h9) rfl dX5_hasDoneAllSteps_1 ?_
  refine lv_aload_n hx hb dX5_hasDoneAllSteps_4 rfl (lv_at hl 0 rfl) ?_
  refine k_get (C := RX6) (T := TX6) (N := 14) (v := .int (x 2)) hx hb hts hiX6 hown hK.1 ho rfl 2 (by decide) (hts (.fieldLink RX5 27 "HouseWorkers$Work" "steps" "I") (by decide +kernel)) (fun _ h9 => h9) rfl dX5_hasDoneAllSteps_5 ?_
  refine lv_icmp_lt (tgt := 15) hx hb dX5_hasDoneAllSteps_8 (by decide) (fun c8 => ?_) (fun c8 => ?_)
  · refine lv_iconst (v := 0) hx hb dX5_hasDoneAllSteps_15 (by decide) ?_
    exact k_retz hx hb hr hlocks (by decide) ⟨(b2_f (by simp [c8])).symm, rfl⟩ hS dX5_hasDoneAllSteps_16
  · refine lv_iconst (v := 1) hx hb dX5_hasDoneAllSteps_11 (by decide) ?_
    refine lv_goto (tgt := 16) hx hb dX5_hasDoneAllSteps_12 (by decide) ?_
    exact k_retz hx hb hr hlocks (by decide) ⟨(b2_t (by simp [c8])).symm, rfl⟩ hS dX5_hasDoneAllSteps_16
set_option maxHeartbeats 4000000 in
set_option maxRecDepth 100000 in
theorem c_commits_X6 (l : Launch) {D : va_G} {cI cZ cO : ClassId} {mi : Nat} (H : Heap) (a : Nat) (x : Nat → Int32) (fi by0 : Int32) (dr : Nat) (ho : Ob D a 6 (WFs x [.int fi, .int by0, .ref dr]) H) : Met l yX5_commits wsX5_commits ({ frames := 0, cells := 0, slots := 0, locals := 0 }) (Pk D cI cZ cO mi [.ref a] H) (Qpi H (b2 (decide (x 1 = 1) || decide (x 1 = 2)))) 0 0 (fun _ => False) := by
  refine Met.ofW (cc := cX5_commits) (maxL := 1) (ret := (some .boolean)) (by decide) rfl ?_
  intro p e s m args below meth c s₁ Bd hml hv
  obtain ⟨rfl, rfl, hK⟩ := hv
  have hx := Bd.exec
  have hb := Bd.bytes
  have hr := Bd.returns
  have hts := atoms_spec (ws := wsX5_commits) Bd.pre
  have hown : s.vm.findClass RX5 = some m.cls := findClass_of_methodNamed Bd.named
  have hlocks := Bd.notSynchronized
  have hS : va_S (fun _ => False) s.heap s.heap [] := va_S.rf
  have hl := lv_entry ([.ref a]) (n := 1) (Nat.le_of_ble_eq_true rfl)
  rw [lg_entry_eq]
  generalize (lg_sl ([.ref a]) ++ List.replicate (1 - (lg_sl ([.ref a])).length) Slot.unset).toArray = ls at hl ⊢
  have hl : lv_has ls 1 [(0, .ref a)] := hl
  have hiX6 : ∀ w ∈ wsX60, w ∈ wsX5_commits := by decide +kernel
  refine lv_aload_n hx hb dX5_commits_0 rfl (lv_at hl 0 rfl) ?_
  refine k_get (C := RX6) (T := TX6) (N := 14) (v := .int (x 1)) hx hb hts hiX6 hown hK.1 ho rfl 1 (by decide) (hts (.fieldLink RX5 24 "HouseWorkers$Work" "kind" "I") (by decide +kernel)) (fun _ h9 => h9) rfl dX5_commits_1 ?_
  refine lv_iconst (v := 1) hx hb dX5_commits_4 (by decide) ?_
  refine lv_icmp_eq (tgt := 16) hx hb dX5_commits_5 (by decide) (fun c5 => ?_) (fun c5 => ?_)
  · refine lv_iconst (v := 1) hx hb dX5_commits_16 (by decide) ?_
    refine lv_goto (tgt := 21) hx hb dX5_commits_17 (by decide) ?_
    exact k_retz hx hb hr hlocks (by decide) ⟨(b2_t (by simp [c5])).symm, rfl⟩ hS dX5_commits_21
  · refine lv_aload_n hx hb dX5_commits_8 rfl (lv_at hl 0 rfl) ?_
    refine k_get (C := RX6) (T := TX6) (N := 14) (v := .int (x 1)) hx hb hts hiX6 hown hK.1 ho rfl 1 (by decide) (hts (.fieldLink RX5 24 "HouseWorkers$Work" "kind" "I") (by decide +kernel)) (fun _ h9 => h9) rfl dX5_commits_9 ?_
    refine lv_iconst (v := 2) hx hb dX5_commits_12 (by decide) ?_
    refine lv_icmp_ne (tgt := 20) hx hb dX5_commits_13 (by decide) (fun c13 => ?_) (fun c13 => ?_)
    · refine lv_iconst (v := 0) hx hb dX5_commits_20 (by decide) ?_
      exact k_retz hx hb hr hlocks (by decide) ⟨(b2_f (by simp [c5, c13])).symm, rfl⟩ hS dX5_commits_21
    · refine lv_iconst (v := 1) hx hb dX5_commits_16 (by decide) ?_
      refine lv_goto (tgt := 21) hx hb dX5_commits_17 (by decide) ?_
      exact k_retz hx hb hr hlocks (by decide) ⟨(b2_t (by simp [c5, c13])).symm, rfl⟩ hS dX5_commits_21
set_option maxHeartbeats 4000000 in
set_option maxRecDepth 100000 in
theorem c_failsNow_X6 (l : Launch) {D : va_G} {cI cZ cO : ClassId} {mi : Nat} (H : Heap) (a : Nat) (x : Nat → Int32) (fi by0 : Int32) (dr : Nat) (ho : Ob D a 6 (WFs x [.int fi, .int by0, .ref dr]) H) : Met l yX5_failsNow wsX5_failsNow ({ frames := 1, cells := 0, slots := 0, locals := 20 }) (Pk D cI cZ cO mi [.ref a] H) (Qpi H (b2 (decide (x 3 = x 4 + 1) && decide (x 4 < x 2)))) 0 0 (fun _ => False) := by
  refine Met.ofW (cc := cX5_failsNow) (maxL := 1) (ret := (some .boolean)) (by decide) rfl ?_
  intro p e s m args below meth c s₁ Bd hml hv
  obtain ⟨rfl, rfl, hK⟩ := hv
  have hx := Bd.exec
  have hb := Bd.bytes
  have hr := Bd.returns
  have hts := atoms_spec (ws := wsX5_failsNow) Bd.pre
  have hown : s.vm.findClass RX5 = some m.cls := findClass_of_methodNamed Bd.named
  have hlocks := Bd.notSynchronized
  have hS : va_S (fun _ => False) s.heap s.heap [] := va_S.rf
  have hl := lv_entry ([.ref a]) (n := 1) (Nat.le_of_ble_eq_true rfl)
  rw [lg_entry_eq]
  generalize (lg_sl ([.ref a]) ++ List.replicate (1 - (lg_sl ([.ref a])).length) Slot.unset).toArray = ls at hl ⊢
  have hl : lv_has ls 1 [(0, .ref a)] := hl
  have hiX6 : ∀ w ∈ wsX60, w ∈ wsX5_failsNow := by decide +kernel
  refine lv_aload_n hx hb dX5_failsNow_0 rfl (lv_at hl 0 rfl) ?_
  refine k_get (C := RX6) (T := TX6) (N := 14) (v := .int (x 3)) hx hb hts hiX6 hown hK.1 ho rfl 3 (by decide) (hts (.fieldLink RX5 30 "HouseWorkers$Work" "failsAt" "I") (by decide +kernel)) (fun _ h9 => h9) rfl dX5_failsNow_1 ?_
  refine lv_aload_n hx hb dX5_failsNow_4 rfl (lv_at hl 0 rfl) ?_
  refine k_get (C := RX6) (T := TX6) (N := 14) (v := .int (x 4)) hx hb hts hiX6 hown hK.1 ho rfl 4 (by decide) (hts (.fieldLink RX5 33 "HouseWorkers$Work" "stepsDone" "I") (by decide +kernel)) (fun _ h9 => h9) rfl dX5_failsNow_5 ?_
  refine lv_iconst (v := 1) hx hb dX5_failsNow_8 (by decide) ?_
  refine lv_iadd hx hb dX5_failsNow_9 ?_
  refine lv_icmp_ne (tgt := 24) hx hb dX5_failsNow_10 (by decide) (fun c10 => ?_) (fun c10 => ?_)
  · refine lv_iconst (v := 0) hx hb dX5_failsNow_24 (by decide) ?_
    exact k_retz hx hb hr hlocks (by decide) ⟨(b2_f (by simp [c10])).symm, rfl⟩ hS dX5_failsNow_25
  · refine lv_aload_n hx hb dX5_failsNow_13 rfl (lv_at hl 0 rfl) ?_
    refine k_callpi (v := b2 (decide (¬ x 4 < x 2))) (va_runU (As := []) (rest := []) ⟨hx, hb, hml, hown, hts⟩ (c_doneAll_X6 l _ a x fi by0 dr ho) (va_cwU 0 hts gX5_failsNow_X5_hasDoneAllSteps_u36X6 rfl rfl rfl rfl (by decide +kernel) ⟨Nat.le_of_ble_eq_true rfl, Nat.le_of_ble_eq_true rfl⟩) (k_preV hK (k_recv hK.1 ho rfl)) rfl rfl hl.1 rfl (lv_room (Nat.le_of_ble_eq_true rfl)) dX5_failsNow_14 ⟨(Nat.zero_le _), (Nat.zero_le _)⟩) hS (fun locs hS => ?_)
    refine lv_if_ne (tgt := 24) hx hb dX5_failsNow_17 (by decide) (fun c17 => ?_) (fun c17 => ?_)
    · have c17 := of_decide_eq_true (b2_n c17)
      refine lv_iconst (v := 0) hx hb dX5_failsNow_24 (by decide) ?_
      exact k_retz hx hb hr hlocks (by decide) ⟨(b2_f (by simp [c10, c17])).symm, rfl⟩ hS dX5_failsNow_25
    · have c17 := Decidable.byContradiction (of_decide_eq_false (b2_0 c17))
      refine lv_iconst (v := 1) hx hb dX5_failsNow_20 (by decide) ?_
      refine lv_goto (tgt := 25) hx hb dX5_failsNow_21 (by decide) ?_
      exact k_retz hx hb hr hlocks (by decide) ⟨(b2_t (by simp [c10, c17])).symm, rfl⟩ hS dX5_failsNow_25
set_option maxHeartbeats 4000000 in
set_option maxRecDepth 100000 in
theorem c_pins_X6 (l : Launch) {D : va_G} {cI cZ cO : ClassId} {mi : Nat} (H : Heap) (a : Nat) (x : Nat → Int32) (fi by0 : Int32) (dr : Nat) (v : Int32) (ho : Ob D a 6 (WFs x [.int fi, .int by0, .ref dr]) H) : Met l yX5_pins wsX5_pins ({ frames := 1, cells := 0, slots := 0, locals := 20 }) (Pk D cI cZ cO mi [.ref a, .int v] H) (Qpi H (b2 (decide (x 9 = 0) && decide (x 7 = v)))) 0 0 (fun _ => False) := by
  refine Met.ofW (cc := cX5_pins) (maxL := 2) (ret := (some .boolean)) (by decide) rfl ?_
  intro p e s m args below meth c s₁ Bd hml hv
  obtain ⟨rfl, rfl, hK⟩ := hv
  have hx := Bd.exec
  have hb := Bd.bytes
  have hr := Bd.returns
  have hts := atoms_spec (ws := wsX5_pins) Bd.pre
  have hown : s.vm.findClass RX5 = some m.cls := findClass_of_methodNamed Bd.named
  have hlocks := Bd.notSynchronized
  have hS : va_S (fun _ => False) s.heap s.heap [] := va_S.rf
  have hl := lv_entry ([.ref a, .int v]) (n := 2) (Nat.le_of_ble_eq_true rfl)
  rw [lg_entry_eq]
  generalize (lg_sl ([.ref a, .int v]) ++ List.replicate (2 - (lg_sl ([.ref a, .int v])).length) Slot.unset).toArray = ls at hl ⊢
  have hl : lv_has ls 2 [(0, .ref a), (1, .int v)] := hl
  have hiX6 : ∀ w ∈ wsX60, w ∈ wsX5_pins := by decide +kernel
  refine lv_aload_n hx hb dX5_pins_0 rfl (lv_at hl 0 rfl) ?_
  refine k_callpi (v := b2 (decide (¬ x 9 = 0))) (va_runU (As := []) (rest := []) ⟨hx, hb, hml, hown, hts⟩ (c_hasEnded_X6 l _ a x fi by0 dr ho) (va_cwU 0 hts gX5_pins_X5_hasEnded_u40X6 rfl rfl rfl rfl (by decide +kernel) ⟨Nat.le_of_ble_eq_true rfl, Nat.le_of_ble_eq_true rfl⟩) (k_preV hK (k_recv hK.1 ho rfl)) rfl rfl hl.1 rfl (lv_room (Nat.le_of_ble_eq_true rfl)) dX5_pins_1 ⟨(Nat.zero_le _), (Nat.zero_le _)⟩) hS (fun locs hS => ?_)
  refine lv_if_ne (tgt := 19) hx hb dX5_pins_4 (by decide) (fun c4 => ?_) (fun c4 => ?_)
  · have c4 := of_decide_eq_true (b2_n c4)
    refine lv_iconst (v := 0) hx hb dX5_pins_19 (by decide) ?_
    exact k_retz hx hb hr hlocks (by decide) ⟨(b2_f (by simp [c4])).symm, rfl⟩ hS dX5_pins_20
  · have c4 := Decidable.byContradiction (of_decide_eq_false (b2_0 c4))
    refine lv_aload_n hx hb dX5_pins_7 rfl (lv_at hl 0 rfl) ?_
    refine k_get (C := RX6) (T := TX6) (N := 14) (v := .int (x 7)) hx hb hts hiX6 hown hK.1 ho rfl 7 (by decide) (hts (.fieldLink RX5 15 "HouseWorkers$Work" "pinned" "I") (by decide +kernel)) (fun _ h9 => h9) rfl dX5_pins_8 ?_
    refine lv_iload_n hx hb dX5_pins_11 rfl (lv_at hl 1 rfl) ?_
    refine lv_icmp_ne (tgt := 19) hx hb dX5_pins_12 (by decide) (fun c12 => ?_) (fun c12 => ?_)
    · refine lv_iconst (v := 0) hx hb dX5_pins_19 (by decide) ?_
      exact k_retz hx hb hr hlocks (by decide) ⟨(b2_f (by simp [c4, c12])).symm, rfl⟩ hS dX5_pins_20
    · refine lv_iconst (v := 1) hx hb dX5_pins_15 (by decide) ?_
      refine lv_goto (tgt := 20) hx hb dX5_pins_16 (by decide) ?_
      exact k_retz hx hb hr hlocks (by decide) ⟨(b2_t (by simp [c4, c12])).symm, rfl⟩ hS dX5_pins_20
set_option maxHeartbeats 4000000 in
set_option maxRecDepth 100000 in
theorem c_isToGet_X6 (l : Launch) {D : va_G} {cI cZ cO : ClassId} {mi : Nat} (H : Heap) (a : Nat) (x : Nat → Int32) (fi by0 : Int32) (dr : Nat) (v : Int32) (ho : Ob D a 6 (WFs x [.int fi, .int by0, .ref dr]) H) : Met l yX5_isToGet wsX5_isToGet ({ frames := 0, cells := 0, slots := 0, locals := 0 }) (Pk D cI cZ cO mi [.ref a, .int v] H) (Qpi H (b2 false)) 0 0 (fun _ => False) := by
  refine Met.ofW (cc := cX5_isToGet) (maxL := 2) (ret := (some .boolean)) (by decide) rfl ?_
  intro p e s m args below meth c s₁ Bd hml hv
  obtain ⟨rfl, rfl, hK⟩ := hv
  have hx := Bd.exec
  have hb := Bd.bytes
  have hr := Bd.returns
  have hts := atoms_spec (ws := wsX5_isToGet) Bd.pre
  have hown : s.vm.findClass RX5 = some m.cls := findClass_of_methodNamed Bd.named
  have hlocks := Bd.notSynchronized
  have hS : va_S (fun _ => False) s.heap s.heap [] := va_S.rf
  have hl := lv_entry ([.ref a, .int v]) (n := 2) (Nat.le_of_ble_eq_true rfl)
  rw [lg_entry_eq]
  generalize (lg_sl ([.ref a, .int v]) ++ List.replicate (2 - (lg_sl ([.ref a, .int v])).length) Slot.unset).toArray = ls at hl ⊢
  have hl : lv_has ls 2 [(0, .ref a), (1, .int v)] := hl
  refine lv_iconst (v := 0) hx hb dX5_isToGet_0 (by decide) ?_
  exact k_retz hx hb hr hlocks (by decide) ⟨rfl, rfl⟩ hS dX5_isToGet_1
set_option maxHeartbeats 4000000 in
set_option maxRecDepth 100000 in
theorem c_X3_latest (l : Launch) {D : va_G} {cI cZ cO : ClassId} {mi : Nat} (H : Heap) (hs st0 hc lt : Nat) (ho : Ob D hs 4 [.ref st0, .ref hc, .ref lt] H) : Met l yX3_latest wsX3_latest ({ frames := 0, cells := 0, slots := 0, locals := 0 }) (Pk D cI cZ cO mi [.ref hs] H) (Qpq H (some lt)) 0 0 (fun _ => False) := by
  refine Met.ofW (cc := cX3_latest) (maxL := 1) (ret := (some (.object "HouseWorkers$Cells"))) (by decide) rfl ?_
  intro p e s m args below meth c s₁ Bd hml hv
  obtain ⟨rfl, rfl, hK⟩ := hv
  have hx := Bd.exec
  have hb := Bd.bytes
  have hr := Bd.returns
  have hts := atoms_spec (ws := wsX3_latest) Bd.pre
  have hown : s.vm.findClass RX3 = some m.cls := findClass_of_methodNamed Bd.named
  have hlocks := Bd.notSynchronized
  have hS : va_S (fun _ => False) s.heap s.heap [] := va_S.rf
  have hl := lv_entry ([.ref hs]) (n := 1) (Nat.le_of_ble_eq_true rfl)
  rw [lg_entry_eq]
  generalize (lg_sl ([.ref hs]) ++ List.replicate (1 - (lg_sl ([.ref hs])).length) Slot.unset).toArray = ls at hl ⊢
  have hl : lv_has ls 1 [(0, .ref hs)] := hl
  have hiX3 : ∀ w ∈ wsX30, w ∈ wsX3_latest := by decide +kernel
  refine lv_aload_n hx hb dX3_latest_0 rfl (lv_at hl 0 rfl) ?_
  refine k_get (C := RX3) (T := TX3) (N := 3) (v := .ref lt) hx hb hts hiX3 hown hK.1 ho rfl 2 (by decide) (hts (.fieldLink RX3 23 "HouseWorkers$Store" "latest" "LHouseWorkers$Cells;") (by decide +kernel)) (fun _ h9 => h9) rfl dX3_latest_1 ?_
  exact k_retq hx hb hr (Or.inl ⟨_, rfl⟩) hlocks (some lt) ⟨rfl, rfl⟩ hS dX3_latest_4
set_option maxHeartbeats 4000000 in
set_option maxRecDepth 100000 in
theorem c_X3_latestNumber (l : Launch) {D : va_G} {cI cZ cO : ClassId} {mi : Nat} (H : Heap) (hs st0 hc lt e0 n : Nat) (mv : Int32) (ho : Ob D hs 4 [.ref st0, .ref hc, .ref lt] H) (hcm : Ob D hc 0 [.int mv, .ref e0, .int (nI n)] H) : Met l yX3_latestNumber wsX3_latestNumber ({ frames := 1, cells := 0, slots := 0, locals := 20 }) (Pk D cI cZ cO mi [.ref hs] H) (Qpi H (nI n)) 0 0 (fun _ => False) := by
  refine Met.ofW (cc := cX3_latestNumber) (maxL := 1) (ret := (some .int)) (by decide) rfl ?_
  intro p e s m args below meth c s₁ Bd hml hv
  obtain ⟨rfl, rfl, hK⟩ := hv
  have hx := Bd.exec
  have hb := Bd.bytes
  have hr := Bd.returns
  have hts := atoms_spec (ws := wsX3_latestNumber) Bd.pre
  have hown : s.vm.findClass RX3 = some m.cls := findClass_of_methodNamed Bd.named
  have hlocks := Bd.notSynchronized
  have hS : va_S (fun _ => False) s.heap s.heap [] := va_S.rf
  have hl := lv_entry ([.ref hs]) (n := 1) (Nat.le_of_ble_eq_true rfl)
  rw [lg_entry_eq]
  generalize (lg_sl ([.ref hs]) ++ List.replicate (1 - (lg_sl ([.ref hs])).length) Slot.unset).toArray = ls at hl ⊢
  have hl : lv_has ls 1 [(0, .ref hs)] := hl
  have hiX3 : ∀ w ∈ wsX30, w ∈ wsX3_latestNumber := by decide +kernel
  refine lv_aload_n hx hb dX3_latestNumber_0 rfl (lv_at hl 0 rfl) ?_
  refine k_get (C := RX3) (T := TX3) (N := 3) (v := .ref hc) hx hb hts hiX3 hown hK.1 ho rfl 1 (by decide) (hts (.fieldLink RX3 19 "HouseWorkers$Store" "committed" "Ljava/util/ArrayList;") (by decide +kernel)) (fun _ h9 => h9) rfl dX3_latestNumber_1 ?_
  refine k_callpi (v := nI n) (va_runV (As := []) (rest := []) ⟨hx, hb, hml, hown, hts⟩ (c_AL_size l _ hc e0 n mv hcm) (cwV 0 hts gX3_latestNumber_Jx4a65c_size_8abf5 rfl rfl rfl (by decide +kernel) ⟨Nat.le_of_ble_eq_true rfl, Nat.le_of_ble_eq_true rfl⟩) (k_preV hK (k_recv hK.1 hcm rfl)) rfl rfl hl.1 rfl (lv_room (Nat.le_of_ble_eq_true rfl)) dX3_latestNumber_4 ⟨(Nat.zero_le _), (Nat.zero_le _)⟩) hS (fun locs hS => ?_)
  exact k_reti hx hb hr hlocks ⟨rfl, rfl⟩ hS dX3_latestNumber_7
set_option maxHeartbeats 4000000 in
set_option maxRecDepth 100000 in
theorem c_X3_size (l : Launch) {D : va_G} {cI cZ cO : ClassId} {mi : Nat} (H : Heap) (hs st0 hc lt e0 n : Nat) (mv : Int32) (ho : Ob D hs 4 [.ref st0, .ref hc, .ref lt] H) (hcm : Ob D hc 0 [.int mv, .ref e0, .int (nI n)] H) : Met l yX3_size wsX3_size ({ frames := 1, cells := 0, slots := 0, locals := 20 }) (Pk D cI cZ cO mi [.ref hs] H) (Qpi H (nI (n + 1))) 0 0 (fun _ => False) := by
  refine Met.ofW (cc := cX3_size) (maxL := 1) (ret := (some .int)) (by decide) rfl ?_
  intro p e s m args below meth c s₁ Bd hml hv
  obtain ⟨rfl, rfl, hK⟩ := hv
  have hx := Bd.exec
  have hb := Bd.bytes
  have hr := Bd.returns
  have hts := atoms_spec (ws := wsX3_size) Bd.pre
  have hown : s.vm.findClass RX3 = some m.cls := findClass_of_methodNamed Bd.named
  have hlocks := Bd.notSynchronized
  have hS : va_S (fun _ => False) s.heap s.heap [] := va_S.rf
  have hl := lv_entry ([.ref hs]) (n := 1) (Nat.le_of_ble_eq_true rfl)
  rw [lg_entry_eq]
  generalize (lg_sl ([.ref hs]) ++ List.replicate (1 - (lg_sl ([.ref hs])).length) Slot.unset).toArray = ls at hl ⊢
  have hl : lv_has ls 1 [(0, .ref hs)] := hl
  have hiX3 : ∀ w ∈ wsX30, w ∈ wsX3_size := by decide +kernel
  refine lv_aload_n hx hb dX3_size_0 rfl (lv_at hl 0 rfl) ?_
  refine k_get (C := RX3) (T := TX3) (N := 3) (v := .ref hc) hx hb hts hiX3 hown hK.1 ho rfl 1 (by decide) (hts (.fieldLink RX3 19 "HouseWorkers$Store" "committed" "Ljava/util/ArrayList;") (by decide +kernel)) (fun _ h9 => h9) rfl dX3_size_1 ?_
  refine k_callpi (v := nI n) (va_runV (As := []) (rest := []) ⟨hx, hb, hml, hown, hts⟩ (c_AL_size l _ hc e0 n mv hcm) (cwV 0 hts gX3_size_Jx4a65c_size_8abf5 rfl rfl rfl (by decide +kernel) ⟨Nat.le_of_ble_eq_true rfl, Nat.le_of_ble_eq_true rfl⟩) (k_preV hK (k_recv hK.1 hcm rfl)) rfl rfl hl.1 rfl (lv_room (Nat.le_of_ble_eq_true rfl)) dX3_size_4 ⟨(Nat.zero_le _), (Nat.zero_le _)⟩) hS (fun locs hS => ?_)
  refine lv_iconst (v := 1) hx hb dX3_size_7 (by decide) ?_
  refine lv_iadd hx hb dX3_size_8 ?_
  exact k_reti hx hb hr hlocks ⟨nI_1 _, rfl⟩ hS dX3_size_9
set_option maxHeartbeats 4000000 in
set_option maxRecDepth 100000 in
theorem c_waits_X1 (l : Launch) {D : va_G} {cI cZ cO : ClassId} {mi : Nat} (H : Heap) (a : Nat) (x : Nat → Int32) (fi : Int32) (rd : Nat) (hs : Nat) (nb : Int32) (ho : Ob D a 2 (WFs x [.int fi, .ref rd]) H) : Met l yX1_waits wsX1_waits ({ frames := 0, cells := 0, slots := 0, locals := 0 }) (Pk D cI cZ cO mi [.ref a, .ref hs, .int nb] H) (Qpi H (b2 false)) 0 0 (fun _ => False) := by
  refine Met.ofW (cc := cX1_waits) (maxL := 3) (ret := (some .boolean)) (by decide) rfl ?_
  intro p e s m args below meth c s₁ Bd hml hv
  obtain ⟨rfl, rfl, hK⟩ := hv
  have hx := Bd.exec
  have hb := Bd.bytes
  have hr := Bd.returns
  have hts := atoms_spec (ws := wsX1_waits) Bd.pre
  have hown : s.vm.findClass RX1 = some m.cls := findClass_of_methodNamed Bd.named
  have hlocks := Bd.notSynchronized
  have hS : va_S (fun _ => False) s.heap s.heap [] := va_S.rf
  have hl := lv_entry ([.ref a, .ref hs, .int nb]) (n := 3) (Nat.le_of_ble_eq_true rfl)
  rw [lg_entry_eq]
  generalize (lg_sl ([.ref a, .ref hs, .int nb]) ++ List.replicate (3 - (lg_sl ([.ref a, .ref hs, .int nb])).length) Slot.unset).toArray = ls at hl ⊢
  have hl : lv_has ls 3 [(0, .ref a), (1, .ref hs), (2, .int nb)] := hl
  refine lv_iconst (v := 0) hx hb dX1_waits_0 (by decide) ?_
  exact k_retz hx hb hr hlocks (by decide) ⟨rfl, rfl⟩ hS dX1_waits_1
set_option maxHeartbeats 4000000 in
set_option maxRecDepth 100000 in
theorem c_waits_X2 (l : Launch) {D : va_G} {cI cZ cO : ClassId} {mi : Nat} (H : Heap) (a : Nat) (x : Nat → Int32) (dr : Nat) (hs : Nat) (nb : Int32) (ho : Ob D a 3 (WFs x [.ref dr]) H) : Met l yX2_waits wsX2_waits ({ frames := 0, cells := 0, slots := 0, locals := 0 }) (Pk D cI cZ cO mi [.ref a, .ref hs, .int nb] H) (Qpi H (b2 (decide (x 4 = 0) && decide (nb = 0)))) 0 0 (fun _ => False) := by
  refine Met.ofW (cc := cX2_waits) (maxL := 3) (ret := (some .boolean)) (by decide) rfl ?_
  intro p e s m args below meth c s₁ Bd hml hv
  obtain ⟨rfl, rfl, hK⟩ := hv
  have hx := Bd.exec
  have hb := Bd.bytes
  have hr := Bd.returns
  have hts := atoms_spec (ws := wsX2_waits) Bd.pre
  have hown : s.vm.findClass RX2 = some m.cls := findClass_of_methodNamed Bd.named
  have hlocks := Bd.notSynchronized
  have hS : va_S (fun _ => False) s.heap s.heap [] := va_S.rf
  have hl := lv_entry ([.ref a, .ref hs, .int nb]) (n := 3) (Nat.le_of_ble_eq_true rfl)
  rw [lg_entry_eq]
  generalize (lg_sl ([.ref a, .ref hs, .int nb]) ++ List.replicate (3 - (lg_sl ([.ref a, .ref hs, .int nb])).length) Slot.unset).toArray = ls at hl ⊢
  have hl : lv_has ls 3 [(0, .ref a), (1, .ref hs), (2, .int nb)] := hl
  have hiX2 : ∀ w ∈ wsX20, w ∈ wsX2_waits := by decide +kernel
  refine lv_aload_n hx hb dX2_waits_0 rfl (lv_at hl 0 rfl) ?_
  refine k_get (C := RX2) (T := TX2) (N := 12) (v := .int (x 4)) hx hb hts hiX2 hown hK.1 ho rfl 4 (by decide) (hts (.fieldLink RX2 20 "HouseWorkers$ReasoningWork" "stepsDone" "I") (by decide +kernel)) (fun x9 h9 => u_same (hts (.sameField "HouseWorkers$ReasoningWork" "HouseWorkers$Work" "stepsDone" "I") (by decide +kernel)) x9 h9) rfl dX2_waits_1 ?_
  refine lv_if_ne (tgt := 15) hx hb dX2_waits_4 (by decide) (fun c4 => ?_) (fun c4 => ?_)
  · refine lv_iconst (v := 0) hx hb dX2_waits_15 (by decide) ?_
    exact k_retz hx hb hr hlocks (by decide) ⟨(b2_f (by simp [c4])).symm, rfl⟩ hS dX2_waits_16
  · refine lv_iload_n hx hb dX2_waits_7 rfl (lv_at hl 2 rfl) ?_
    refine lv_if_ne (tgt := 15) hx hb dX2_waits_8 (by decide) (fun c8 => ?_) (fun c8 => ?_)
    · refine lv_iconst (v := 0) hx hb dX2_waits_15 (by decide) ?_
      exact k_retz hx hb hr hlocks (by decide) ⟨(b2_f (by simp [c4, c8])).symm, rfl⟩ hS dX2_waits_16
    · refine lv_iconst (v := 1) hx hb dX2_waits_11 (by decide) ?_
      refine lv_goto (tgt := 16) hx hb dX2_waits_12 (by decide) ?_
      exact k_retz hx hb hr hlocks (by decide) ⟨(b2_t (by simp [c4, c8])).symm, rfl⟩ hS dX2_waits_16
set_option maxHeartbeats 4000000 in
set_option maxRecDepth 100000 in
theorem c_waits_X6 (l : Launch) {D : va_G} {cI cZ cO : ClassId} {mi : Nat} (H : Heap) (a : Nat) (x : Nat → Int32) (fi by0 : Int32) (dr : Nat) (hs : Nat) (nb : Int32) (ho : Ob D a 6 (WFs x [.int fi, .int by0, .ref dr]) H) : Met l yX6_waits wsX6_waits ({ frames := 1, cells := 0, slots := 0, locals := 20 }) (Pk D cI cZ cO mi [.ref a, .ref hs, .int nb] H) (Qpi H (b2 (decide (¬ x 4 < x 2) && decide (nb = 0)))) 0 0 (fun _ => False) := by
  refine Met.ofW (cc := cX6_waits) (maxL := 3) (ret := (some .boolean)) (by decide) rfl ?_
  intro p e s m args below meth c s₁ Bd hml hv
  obtain ⟨rfl, rfl, hK⟩ := hv
  have hx := Bd.exec
  have hb := Bd.bytes
  have hr := Bd.returns
  have hts := atoms_spec (ws := wsX6_waits) Bd.pre
  have hown : s.vm.findClass RX6 = some m.cls := findClass_of_methodNamed Bd.named
  have hlocks := Bd.notSynchronized
  have hS : va_S (fun _ => False) s.heap s.heap [] := va_S.rf
  have hl := lv_entry ([.ref a, .ref hs, .int nb]) (n := 3) (Nat.le_of_ble_eq_true rfl)
  rw [lg_entry_eq]
  generalize (lg_sl ([.ref a, .ref hs, .int nb]) ++ List.replicate (3 - (lg_sl ([.ref a, .ref hs, .int nb])).length) Slot.unset).toArray = ls at hl ⊢
  have hl : lv_has ls 3 [(0, .ref a), (1, .ref hs), (2, .int nb)] := hl
  have hiX6 : ∀ w ∈ wsX60, w ∈ wsX6_waits := by decide +kernel
  refine lv_aload_n hx hb dX6_waits_0 rfl (lv_at hl 0 rfl) ?_
  refine k_callpi (v := b2 (decide (¬ x 4 < x 2))) (va_runU (As := []) (rest := []) ⟨hx, hb, hml, hown, hts⟩ (c_doneAll_X6 l _ a x fi by0 dr ho) (va_cwU 0 hts gX6_waits_X5_hasDoneAllSteps_u27X6 rfl rfl rfl rfl (by decide +kernel) ⟨Nat.le_of_ble_eq_true rfl, Nat.le_of_ble_eq_true rfl⟩) (k_preV hK (k_recv hK.1 ho rfl)) rfl rfl hl.1 rfl (lv_room (Nat.le_of_ble_eq_true rfl)) dX6_waits_1 ⟨(Nat.zero_le _), (Nat.zero_le _)⟩) hS (fun locs hS => ?_)
  refine lv_if_eq (tgt := 15) hx hb dX6_waits_4 (by decide) (fun c4 => ?_) (fun c4 => ?_)
  · have c4 := Decidable.byContradiction (of_decide_eq_false (b2_0 c4))
    refine lv_iconst (v := 0) hx hb dX6_waits_15 (by decide) ?_
    exact k_retz hx hb hr hlocks (by decide) ⟨(b2_f (by simp [c4])).symm, rfl⟩ hS dX6_waits_16
  · have c4 := of_decide_eq_true (b2_n c4)
    refine lv_iload_n hx hb dX6_waits_7 rfl (lv_at hl 2 rfl) ?_
    refine lv_if_ne (tgt := 15) hx hb dX6_waits_8 (by decide) (fun c8 => ?_) (fun c8 => ?_)
    · refine lv_iconst (v := 0) hx hb dX6_waits_15 (by decide) ?_
      exact k_retz hx hb hr hlocks (by decide) ⟨(b2_f (by simp [c4, c8])).symm, rfl⟩ hS dX6_waits_16
    · refine lv_iconst (v := 1) hx hb dX6_waits_11 (by decide) ?_
      refine lv_goto (tgt := 16) hx hb dX6_waits_12 (by decide) ?_
      exact k_retz hx hb hr hlocks (by decide) ⟨(b2_t (by simp [c4, c8])).symm, rfl⟩ hS dX6_waits_16
set_option maxHeartbeats 4000000 in
set_option maxRecDepth 100000 in
theorem c_waits_X4 (l : Launch) {D : va_G} {cI cZ cO : ClassId} {mi : Nat} (H : Heap) (a : Nat) (x : Nat → Int32)  (nb : Int32) (hs st0 hc lt e0 n : Nat) (mv : Int32) (ho : Ob D a 5 (WFs x []) H) (hso : Ob D hs 4 [.ref st0, .ref hc, .ref lt] H) (hcm : Ob D hc 0 [.int mv, .ref e0, .int (nI n)] H) : Met l yX4_waits wsX4_waits ({ frames := 2, cells := 0, slots := 0, locals := 40 }) (Pk D cI cZ cO mi [.ref a, .ref hs, .int nb] H) (Qpi H (b2 (decide (¬ x 6 < nI n)))) 0 0 (fun _ => False) := by
  refine Met.ofW (cc := cX4_waits) (maxL := 3) (ret := (some .boolean)) (by decide) rfl ?_
  intro p e s m args below meth c s₁ Bd hml hv
  obtain ⟨rfl, rfl, hK⟩ := hv
  have hx := Bd.exec
  have hb := Bd.bytes
  have hr := Bd.returns
  have hts := atoms_spec (ws := wsX4_waits) Bd.pre
  have hown : s.vm.findClass RX4 = some m.cls := findClass_of_methodNamed Bd.named
  have hlocks := Bd.notSynchronized
  have hS : va_S (fun _ => False) s.heap s.heap [] := va_S.rf
  have hl := lv_entry ([.ref a, .ref hs, .int nb]) (n := 3) (Nat.le_of_ble_eq_true rfl)
  rw [lg_entry_eq]
  generalize (lg_sl ([.ref a, .ref hs, .int nb]) ++ List.replicate (3 - (lg_sl ([.ref a, .ref hs, .int nb])).length) Slot.unset).toArray = ls at hl ⊢
  have hl : lv_has ls 3 [(0, .ref a), (1, .ref hs), (2, .int nb)] := hl
  have hiX4 : ∀ w ∈ wsX40, w ∈ wsX4_waits := by decide +kernel
  refine lv_aload_n hx hb dX4_waits_0 rfl (lv_at hl 0 rfl) ?_
  refine k_get (C := RX4) (T := TX4) (N := 11) (v := .int (x 6)) hx hb hts hiX4 hown hK.1 ho rfl 6 (by decide) (hts (.fieldLink RX4 15 "HouseWorkers$StreamWork" "version" "I") (by decide +kernel)) (fun x9 h9 => u_same (hts (.sameField "HouseWorkers$StreamWork" "HouseWorkers$Work" "version" "I") (by decide +kernel)) x9 h9) rfl dX4_waits_1 ?_
  refine lv_aload_n hx hb dX4_waits_4 rfl (lv_at hl 1 rfl) ?_
  refine k_callpi (v := nI n) (va_runV (As := []) (rest := [.int (x 6)]) ⟨hx, hb, hml, hown, hts⟩ (c_X3_latestNumber l _ hs st0 hc lt e0 n mv hso hcm) (cwV 0 hts gX4_waits_X3_latestNumber rfl rfl rfl (by decide +kernel) ⟨Nat.le_of_ble_eq_true rfl, Nat.le_of_ble_eq_true rfl⟩) (k_preV hK (k_recv hK.1 hso rfl)) rfl rfl hl.1 rfl (lv_room (Nat.le_of_ble_eq_true rfl)) dX4_waits_5 ⟨(Nat.zero_le _), (Nat.zero_le _)⟩) hS (fun locs hS => ?_)
  refine lv_icmp_lt (tgt := 15) hx hb dX4_waits_8 (by decide) (fun c8 => ?_) (fun c8 => ?_)
  · refine lv_iconst (v := 0) hx hb dX4_waits_15 (by decide) ?_
    exact k_retz hx hb hr hlocks (by decide) ⟨(b2_f (by simp [c8])).symm, rfl⟩ hS dX4_waits_16
  · refine lv_iconst (v := 1) hx hb dX4_waits_11 (by decide) ?_
    refine lv_goto (tgt := 16) hx hb dX4_waits_12 (by decide) ?_
    exact k_retz hx hb hr hlocks (by decide) ⟨(b2_t (by simp [c8])).symm, rfl⟩ hS dX4_waits_16
