set_option maxHeartbeats 4000000 in
set_option maxRecDepth 100000 in
theorem c_X0_at (l : Launch) {D : va_G} {cI cZ cO : ClassId} {mi : Nat} (H : Heap) (a r : Nat) (f : Nat → Int32) (i : Int32) (ho : Ob D a 1 [.ref r] H) (hrw : Ai D cI r 16 f H) : Met l yX0_at wsX0_at ({ frames := 0, cells := 0, slots := 0, locals := 0 }) (Pk D cI cZ cO mi [.ref a, .int i] H) (Qpi H (f (ix i))) 0 0 (fun _ => False) := by
  refine Met.ofW (cc := cX0_at) (maxL := 2) (ret := (some .int)) (by decide) rfl ?_
  intro p e s m args below meth c s₁ B hml hv
  obtain ⟨rfl, rfl, hK⟩ := hv
  have hx := B.exec
  have hb := B.bytes
  have hr := B.returns
  have hts := atoms_spec (ws := wsX0_at) B.pre
  have hown : s.vm.findClass RX0 = some m.cls := findClass_of_methodNamed B.named
  have hlocks := B.notSynchronized
  have hS : va_S (fun _ => False) s.heap s.heap [] := va_S.rf
  have hl := lv_entry ([.ref a, .int i]) (n := 2) (Nat.le_of_ble_eq_true rfl)
  rw [lg_entry_eq]
  generalize (lg_sl ([.ref a, .int i]) ++ List.replicate (2 - (lg_sl ([.ref a, .int i])).length) Slot.unset).toArray = ls at hl ⊢
  have hl : lv_has ls 2 [(0, .ref a), (1, .int i)] := hl
  have hiX0 : ∀ w ∈ wsX00, w ∈ wsX0_at := by decide +kernel
  refine lv_aload_n hx hb dX0_at_0 rfl (lv_at hl 0 rfl) ?_
  refine k_get (C := RX0) (T := TX0) (N := 1) (v := .ref r) hx hb hts hiX0 hown hK.1 ho rfl 0 (by decide) (hts (.fieldLink RX0 9 "HouseWorkers$Cells" "row" "[I") (by decide +kernel)) (fun _ h9 => h9) rfl dX0_at_1 ?_
  refine lv_iload_n hx hb dX0_at_4 rfl (lv_at hl 1 rfl) ?_
  refine lv_bipush (v := 15) hx hb dX0_at_5 (by decide) ?_
  refine lv_iand hx hb dX0_at_7 ?_
  refine k_iald (n := 16) (f := f) hx hb hK.1 0 hrw rfl (ix i) (ix_eq _) (ix_lt _) (by decide) dX0_at_8 ?_
  exact k_reti hx hb hr hlocks ⟨rfl, rfl⟩ hS dX0_at_9
set_option maxHeartbeats 4000000 in
set_option maxRecDepth 100000 in
theorem c_X0_set (l : Launch) {D : va_G} {cI cZ cO : ClassId} {mi : Nat} (H : Heap) (a r : Nat) (f : Nat → Int32) (i v : Int32) (ho : Ob D a 1 [.ref r] H) (hrw : Ai D cI r 16 f H) : Met l yX0_set wsX0_set ({ frames := 0, cells := 0, slots := 0, locals := 0 }) (Pk D cI cZ cO mi [.ref a, .int i, .int v] H) (Qkv (fun H1 => Ai D cI r 16 (upd f (ix i) v) H1 ∧ H1.size = H.size) (fun q => q = r)) 0 0 (fun q => q = r) := by
  refine Met.ofW (cc := cX0_set) (maxL := 3) (ret := none) (by decide) rfl ?_
  intro p e s m args below meth c s₁ B hml hv
  obtain ⟨rfl, rfl, hK⟩ := hv
  have hx := B.exec
  have hb := B.bytes
  have hr := B.returns
  have hts := atoms_spec (ws := wsX0_set) B.pre
  have hown : s.vm.findClass RX0 = some m.cls := findClass_of_methodNamed B.named
  have hlocks := B.notSynchronized
  have hS : va_S (fun q => q = r) s.heap s.heap [] := va_S.rf
  have hl := lv_entry ([.ref a, .int i, .int v]) (n := 3) (Nat.le_of_ble_eq_true rfl)
  rw [lg_entry_eq]
  generalize (lg_sl ([.ref a, .int i, .int v]) ++ List.replicate (3 - (lg_sl ([.ref a, .int i, .int v])).length) Slot.unset).toArray = ls at hl ⊢
  have hl : lv_has ls 3 [(0, .ref a), (1, .int i), (2, .int v)] := hl
  have hiX0 : ∀ w ∈ wsX00, w ∈ wsX0_set := by decide +kernel
  refine lv_aload_n hx hb dX0_set_0 rfl (lv_at hl 0 rfl) ?_
  refine k_get (C := RX0) (T := TX0) (N := 1) (v := .ref r) hx hb hts hiX0 hown hK.1 ho rfl 0 (by decide) (hts (.fieldLink RX0 9 "HouseWorkers$Cells" "row" "[I") (by decide +kernel)) (fun _ h9 => h9) rfl dX0_set_1 ?_
  refine lv_iload_n hx hb dX0_set_4 rfl (lv_at hl 1 rfl) ?_
  refine lv_bipush (v := 15) hx hb dX0_set_5 (by decide) ?_
  refine lv_iand hx hb dX0_set_7 ?_
  refine lv_iload_n hx hb dX0_set_8 rfl (lv_at hl 2 rfl) ?_
  refine k_iast (A := (fun q => q = r)) (n := 16) (f := f) (x := v) hx hb hK.1 0 hrw rfl hS rfl (ix i) (ix_eq _) (ix_lt _) (by decide) dX0_set_9 (fun H1 locs hO2 hz3 hq4 hS => ?_)
  exact k_retv hx hb hr hlocks ⟨hO2, hz3⟩ hS dX0_set_10
set_option maxHeartbeats 4000000 in
set_option maxRecDepth 100000 in
theorem c_X0_add (l : Launch) {D : va_G} {cI cZ cO : ClassId} {mi : Nat} (H : Heap) (a r : Nat) (f : Nat → Int32) (i v : Int32) (ho : Ob D a 1 [.ref r] H) (hrw : Ai D cI r 16 f H) : Met l yX0_add wsX0_add ({ frames := 0, cells := 0, slots := 0, locals := 0 }) (Pk D cI cZ cO mi [.ref a, .int i, .int v] H) (Qkv (fun H1 => Ai D cI r 16 (upd f (ix i) (f (ix i) + v)) H1 ∧ H1.size = H.size) (fun q => q = r)) 0 0 (fun q => q = r) := by
  refine Met.ofW (cc := cX0_add) (maxL := 3) (ret := none) (by decide) rfl ?_
  intro p e s m args below meth c s₁ B hml hv
  obtain ⟨rfl, rfl, hK⟩ := hv
  have hx := B.exec
  have hb := B.bytes
  have hr := B.returns
  have hts := atoms_spec (ws := wsX0_add) B.pre
  have hown : s.vm.findClass RX0 = some m.cls := findClass_of_methodNamed B.named
  have hlocks := B.notSynchronized
  have hS : va_S (fun q => q = r) s.heap s.heap [] := va_S.rf
  have hl := lv_entry ([.ref a, .int i, .int v]) (n := 3) (Nat.le_of_ble_eq_true rfl)
  rw [lg_entry_eq]
  generalize (lg_sl ([.ref a, .int i, .int v]) ++ List.replicate (3 - (lg_sl ([.ref a, .int i, .int v])).length) Slot.unset).toArray = ls at hl ⊢
  have hl : lv_has ls 3 [(0, .ref a), (1, .int i), (2, .int v)] := hl
  have hiX0 : ∀ w ∈ wsX00, w ∈ wsX0_add := by decide +kernel
  refine lv_aload_n hx hb dX0_add_0 rfl (lv_at hl 0 rfl) ?_
  refine k_get (C := RX0) (T := TX0) (N := 1) (v := .ref r) hx hb hts hiX0 hown hK.1 ho rfl 0 (by decide) (hts (.fieldLink RX0 9 "HouseWorkers$Cells" "row" "[I") (by decide +kernel)) (fun _ h9 => h9) rfl dX0_add_1 ?_
  refine lv_iload_n hx hb dX0_add_4 rfl (lv_at hl 1 rfl) ?_
  refine lv_bipush (v := 15) hx hb dX0_add_5 (by decide) ?_
  refine lv_iand hx hb dX0_add_7 ?_
  refine lv_dup2_11 hx hb dX0_add_8 rfl rfl ?_
  refine k_iald (n := 16) (f := f) hx hb hK.1 0 hrw rfl (ix i) (ix_eq _) (ix_lt _) (by decide) dX0_add_9 ?_
  refine lv_iload_n hx hb dX0_add_10 rfl (lv_at hl 2 rfl) ?_
  refine lv_iadd hx hb dX0_add_11 ?_
  refine k_iast (A := (fun q => q = r)) (n := 16) (f := f) (x := ((f (ix i)) + v)) hx hb hK.1 0 hrw rfl hS rfl (ix i) (ix_eq _) (ix_lt _) (by decide) dX0_add_12 (fun H1 locs hO2 hz3 hq4 hS => ?_)
  exact k_retv hx hb hr hlocks ⟨hO2, hz3⟩ hS dX0_add_13
