set_option maxHeartbeats 4000000 in
set_option maxRecDepth 100000 in
theorem c_AC_init (l : Launch) {D : va_G} {cI cZ cO : ClassId} {mi : Nat} (H : Heap) (a : Nat) (fs : List Value) (ho : Ob D a 0 fs H) : Met l yJxa1e45_init_da8c8 wsJxa1e45_init_da8c8 ({ frames := 1, cells := 0, slots := 0, locals := 30 }) (Pk D cI cZ cO mi [.ref a] H) (Qkv (fun H1 => H1 = H) (fun _ => False)) 0 0 (fun _ => False) := by
  refine Met.ofW (cc := cJxa1e45_init_da8c8) (maxL := 1) (ret := none) (by decide) rfl ?_
  intro p e s m args below meth c s₁ B hml hv
  obtain ⟨rfl, rfl, hK⟩ := hv
  have hx := B.exec
  have hb := B.bytes
  have hr := B.returns
  have hts := atoms_spec (ws := wsJxa1e45_init_da8c8) B.pre
  have hown : s.vm.findClass RJxa1e45 = some m.cls := findClass_of_methodNamed B.named
  have hlocks := B.notSynchronized
  have hin : meth.name = "<init>" := (name_of_methodNamed B.named B.method).1
  have hS : va_S (fun _ => False) s.heap s.heap [] := va_S.rf
  have hl := lv_entry ([.ref a]) (n := 1) (Nat.le_of_ble_eq_true rfl)
  rw [lg_entry_eq]
  generalize (lg_sl ([.ref a]) ++ List.replicate (1 - (lg_sl ([.ref a])).length) Slot.unset).toArray = ls at hl ⊢
  have hl : lv_has ls 1 [(0, .ref a)] := hl
  refine lv_aload_n hx hb dJxa1e45_init_da8c8_0 rfl (lv_at hl 0 rfl) ?_
  refine W.objInit hx hb hown (hts (.methodLink RJxa1e45 1 objectInit) (by decide +kernel)) (hts (.instanceMethod objectInit) (by decide +kernel)) (hts (.code objectInit ⟨#[0xb1]⟩ 1 none) (by decide +kernel)) rfl (by rw [hml]; exact hl.1) rfl dJxa1e45_init_da8c8_1 (Nat.le_of_ble_eq_true rfl) (Nat.le_of_ble_eq_true rfl) ?_
  refine W.eq (g2 := F0 m 4 ls []) rfl ?_
  exact k_retv hx hb hr hlocks rfl hS dJxa1e45_init_da8c8_4
set_option maxHeartbeats 4000000 in
set_option maxRecDepth 100000 in
theorem c_ALs_init (l : Launch) {D : va_G} {cI cZ cO : ClassId} {mi : Nat} (H : Heap) (a : Nat) (ho : Ob D a 0 [.int 0, .null, .int 0] H) : Met l yJxc12de_init_da8c8 wsJxc12de_init_da8c8 ({ frames := 2, cells := 0, slots := 0, locals := 50 }) (Pk D cI cZ cO mi [.ref a] H) (Qkv (fun H1 => Ob D a 0 [.int 0, .null, .int 0] H1 ∧ H1.size = H.size) (fun q => q = a)) 0 0 (fun q => q = a) := by
  refine Met.ofW (cc := cJxc12de_init_da8c8) (maxL := 1) (ret := none) (by decide) rfl ?_
  intro p e s m args below meth c s₁ B hml hv
  obtain ⟨rfl, rfl, hK⟩ := hv
  have hx := B.exec
  have hb := B.bytes
  have hr := B.returns
  have hts := atoms_spec (ws := wsJxc12de_init_da8c8) B.pre
  have hown : s.vm.findClass RJxc12de = some m.cls := findClass_of_methodNamed B.named
  have hlocks := B.notSynchronized
  have hin : meth.name = "<init>" := (name_of_methodNamed B.named B.method).1
  have hS : va_S (fun q => q = a) s.heap s.heap [] := va_S.rf
  have hl := lv_entry ([.ref a]) (n := 1) (Nat.le_of_ble_eq_true rfl)
  rw [lg_entry_eq]
  generalize (lg_sl ([.ref a]) ++ List.replicate (1 - (lg_sl ([.ref a])).length) Slot.unset).toArray = ls at hl ⊢
  have hl : lv_has ls 1 [(0, .ref a)] := hl
  have hiJx4a65c : ∀ w ∈ wsJx4a65c0, w ∈ wsJxc12de_init_da8c8 := by decide +kernel
  refine lv_aload_n hx hb dJxc12de_init_da8c8_0 rfl (lv_at hl 0 rfl) ?_
  refine k_callv (va_runI (As := []) (rest := []) ⟨hx, hb, hml, hown, hts⟩ (c_AC_init l _ a _ ho) (cwI 0 hts gJxc12de_init_da8c8_Jxa1e45_init_da8c8 rfl rfl rfl (hts (.initialized RJxa1e45) (by decide +kernel)) (hts (.methodLink RJxc12de 1 yJxa1e45_init_da8c8) (by decide +kernel)) (hts (.instanceMethod yJxa1e45_init_da8c8) (by decide +kernel)) rfl (by decide +kernel) ⟨Nat.le_of_ble_eq_true rfl, Nat.le_of_ble_eq_true rfl⟩) (k_preS hK) rfl rfl hl.1 rfl (lv_room (Nat.le_of_ble_eq_true rfl)) dJxc12de_init_da8c8_1 ⟨(Nat.zero_le _), (Nat.zero_le _)⟩) hS (fun _ h => h.elim) (fun H2 locs hp _ _ hS => ?_)
  subst hp
  refine lv_aload_n hx hb dJxc12de_init_da8c8_4 rfl (lv_at hl 0 rfl) ?_
  refine lv_iconst (v := 0) hx hb dJxc12de_init_da8c8_5 (by decide) ?_
  refine k_put (A := (fun q => q = a)) (C := RJx4a65c) (T := TJx4a65c) (N := 3) (ty := .int) (v := .int 0) hx hb hts hiJx4a65c tyJx4a65c tyJx4a65c_ok nmJx4a65c hown hK.1 ho rfl hS rfl 0 (by decide) (hts (.fieldLink RJxc12de 7 "java/util/AbstractList" "modCount" "I") (by decide +kernel)) (fun _ h9 => h9) rfl (by decide +kernel) rfl rfl (Nat.le_of_ble_eq_true rfl) dJxc12de_init_da8c8_6 (fun H1 locs hO2 hz3 hq4 hS => ?_)
  exact k_retv hx hb hr hlocks ⟨hO2, hz3⟩ hS dJxc12de_init_da8c8_9
set_option maxHeartbeats 4000000 in
set_option maxRecDepth 100000 in
theorem c_AL_init (l : Launch) {D : va_G} {cI cZ cO : ClassId} {mi eA : Nat} {B : Nat → Prop} (H : Heap) (a : Nat) (ho : Ob D a 0 [.int 0, .null, .int 0] H) (hBa : B a) : Met l yJx4a65c_init_da8c8 wsJx4a65c_init_da8c8 ({ frames := 3, cells := 0, slots := 0, locals := 70 }) (Pz D cI cZ cO mi eA B [.ref a] H) (Qkv (fun H1 => Ob D a 0 [.int 0, .ref eA, .int 0] H1 ∧ H1.size = H.size) (fun q => q = a)) 0 0 (fun q => q = a) := by
  refine Met.ofW (cc := cJx4a65c_init_da8c8) (maxL := 1) (ret := none) (by decide) rfl ?_
  intro p e s m args below meth c s₁ B hml hv
  obtain ⟨rfl, rfl, hK, hZ⟩ := hv
  have hx := B.exec
  have hb := B.bytes
  have hr := B.returns
  have hts := atoms_spec (ws := wsJx4a65c_init_da8c8) B.pre
  have hown : s.vm.findClass RJx4a65c = some m.cls := findClass_of_methodNamed B.named
  have hlocks := B.notSynchronized
  have hin : meth.name = "<init>" := (name_of_methodNamed B.named B.method).1
  have hS : va_S (fun q => q = a) s.heap s.heap [] := va_S.rf
  have hl := lv_entry ([.ref a]) (n := 1) (Nat.le_of_ble_eq_true rfl)
  rw [lg_entry_eq]
  generalize (lg_sl ([.ref a]) ++ List.replicate (1 - (lg_sl ([.ref a])).length) Slot.unset).toArray = ls at hl ⊢
  have hl : lv_has ls 1 [(0, .ref a)] := hl
  have hiJx4a65c : ∀ w ∈ wsJx4a65c0, w ∈ wsJx4a65c_init_da8c8 := by decide +kernel
  refine lv_aload_n hx hb dJx4a65c_init_da8c8_0 rfl (lv_at hl 0 rfl) ?_
  refine k_callv (va_runI (As := []) (rest := []) ⟨hx, hb, hml, hown, hts⟩ (c_ALs_init l _ a ho) (cwI 0 hts gJx4a65c_init_da8c8_Jxc12de_init_da8c8 rfl rfl rfl (hts (.initialized RJxc12de) (by decide +kernel)) (hts (.methodLink RJx4a65c 1 yJxc12de_init_da8c8) (by decide +kernel)) (hts (.instanceMethod yJxc12de_init_da8c8) (by decide +kernel)) rfl (by decide +kernel) ⟨Nat.le_of_ble_eq_true rfl, Nat.le_of_ble_eq_true rfl⟩) (k_preS hK) rfl rfl hl.1 rfl (lv_room (Nat.le_of_ble_eq_true rfl)) dJx4a65c_init_da8c8_1 ⟨(Nat.zero_le _), (Nat.zero_le _)⟩) hS (fun _ h => h) (fun H2 locs hp hz2 _ hS => ?_)
  refine lv_aload_n hx hb dJx4a65c_init_da8c8_4 rfl (lv_at hl 0 rfl) ?_
  refine k_gets hx hb hZ (fun q h => by rw [h]; exact hBa) hS hown (hts (.fieldLink RJx4a65c 39 "java/util/ArrayList" "DEFAULTCAPACITY_EMPTY_ELEMENTDATA" "[Ljava/lang/Object;") (by decide +kernel)) dJx4a65c_init_da8c8_5 ?_
  refine k_put (A := (fun q => q = a)) (C := RJx4a65c) (T := TJx4a65c) (N := 3) (ty := .array (.object "java/lang/Object")) (v := .ref eA) hx hb hts hiJx4a65c tyJx4a65c tyJx4a65c_ok nmJx4a65c hown hK.1 hp.1 rfl hS rfl 1 (by decide) (hts (.fieldLink RJx4a65c 9 "java/util/ArrayList" "elementData" "[Ljava/lang/Object;") (by decide +kernel)) (fun _ h9 => h9) rfl (by decide +kernel) rfl rfl (Nat.le_of_ble_eq_true rfl) dJx4a65c_init_da8c8_8 (fun H1 locs hO2 hz3 hq4 hS => ?_)
  exact k_retv hx hb hr hlocks ⟨hO2, by rw [hz3]; exact hp.2⟩ hS dJx4a65c_init_da8c8_11
set_option maxHeartbeats 4000000 in
set_option maxRecDepth 100000 in
theorem c_AL_size (l : Launch) {D : va_G} {cI cZ cO : ClassId} {mi : Nat} (H : Heap) (a e0 n : Nat) (mv : Int32) (ho : Ob D a 0 [.int mv, .ref e0, .int (nI n)] H) : Met l yJx4a65c_size_8abf5 wsJx4a65c_size_8abf5 ({ frames := 0, cells := 0, slots := 0, locals := 0 }) (Pk D cI cZ cO mi [.ref a] H) (Qpi H (nI n)) 0 0 (fun _ => False) := by
  refine Met.ofW (cc := cJx4a65c_size_8abf5) (maxL := 1) (ret := (some .int)) (by decide) rfl ?_
  intro p e s m args below meth c s₁ B hml hv
  obtain ⟨rfl, rfl, hK⟩ := hv
  have hx := B.exec
  have hb := B.bytes
  have hr := B.returns
  have hts := atoms_spec (ws := wsJx4a65c_size_8abf5) B.pre
  have hown : s.vm.findClass RJx4a65c = some m.cls := findClass_of_methodNamed B.named
  have hlocks := B.notSynchronized
  have hS : va_S (fun _ => False) s.heap s.heap [] := va_S.rf
  have hl := lv_entry ([.ref a]) (n := 1) (Nat.le_of_ble_eq_true rfl)
  rw [lg_entry_eq]
  generalize (lg_sl ([.ref a]) ++ List.replicate (1 - (lg_sl ([.ref a])).length) Slot.unset).toArray = ls at hl ⊢
  have hl : lv_has ls 1 [(0, .ref a)] := hl
  have hiJx4a65c : ∀ w ∈ wsJx4a65c0, w ∈ wsJx4a65c_size_8abf5 := by decide +kernel
  refine lv_aload_n hx hb dJx4a65c_size_8abf5_0 rfl (lv_at hl 0 rfl) ?_
  refine k_get (C := RJx4a65c) (T := TJx4a65c) (N := 3) (v := .int (nI n)) hx hb hts hiJx4a65c hown hK.1 ho rfl 2 (by decide) (hts (.fieldLink RJx4a65c 48 "java/util/ArrayList" "size" "I") (by decide +kernel)) (fun _ h9 => h9) rfl dJx4a65c_size_8abf5_1 ?_
  exact k_reti hx hb hr hlocks ⟨rfl, rfl⟩ hS dJx4a65c_size_8abf5_4
set_option maxHeartbeats 4000000 in
set_option maxRecDepth 100000 in
theorem c_AL_isEmpty (l : Launch) {D : va_G} {cI cZ cO : ClassId} {mi : Nat} (H : Heap) (a e0 n : Nat) (mv : Int32) (ho : Ob D a 0 [.int mv, .ref e0, .int (nI n)] H) : Met l yJx4a65c_isEmpty_aae02 wsJx4a65c_isEmpty_aae02 ({ frames := 0, cells := 0, slots := 0, locals := 0 }) (Pk D cI cZ cO mi [.ref a] H) (Qpi H (b2 (decide (nI n = 0)))) 0 0 (fun _ => False) := by
  refine Met.ofW (cc := cJx4a65c_isEmpty_aae02) (maxL := 1) (ret := (some .boolean)) (by decide) rfl ?_
  intro p e s m args below meth c s₁ B hml hv
  obtain ⟨rfl, rfl, hK⟩ := hv
  have hx := B.exec
  have hb := B.bytes
  have hr := B.returns
  have hts := atoms_spec (ws := wsJx4a65c_isEmpty_aae02) B.pre
  have hown : s.vm.findClass RJx4a65c = some m.cls := findClass_of_methodNamed B.named
  have hlocks := B.notSynchronized
  have hS : va_S (fun _ => False) s.heap s.heap [] := va_S.rf
  have hl := lv_entry ([.ref a]) (n := 1) (Nat.le_of_ble_eq_true rfl)
  rw [lg_entry_eq]
  generalize (lg_sl ([.ref a]) ++ List.replicate (1 - (lg_sl ([.ref a])).length) Slot.unset).toArray = ls at hl ⊢
  have hl : lv_has ls 1 [(0, .ref a)] := hl
  have hiJx4a65c : ∀ w ∈ wsJx4a65c0, w ∈ wsJx4a65c_isEmpty_aae02 := by decide +kernel
  refine lv_aload_n hx hb dJx4a65c_isEmpty_aae02_0 rfl (lv_at hl 0 rfl) ?_
  refine k_get (C := RJx4a65c) (T := TJx4a65c) (N := 3) (v := .int (nI n)) hx hb hts hiJx4a65c hown hK.1 ho rfl 2 (by decide) (hts (.fieldLink RJx4a65c 48 "java/util/ArrayList" "size" "I") (by decide +kernel)) (fun _ h9 => h9) rfl dJx4a65c_isEmpty_aae02_1 ?_
  refine lv_if_ne (tgt := 11) hx hb dJx4a65c_isEmpty_aae02_4 (by decide) (fun c4 => ?_) (fun c4 => ?_)
  · refine lv_iconst (v := 0) hx hb dJx4a65c_isEmpty_aae02_11 (by decide) ?_
    exact k_retz hx hb hr hlocks (by decide) ⟨(b2_f (by simp [c4])).symm, rfl⟩ hS dJx4a65c_isEmpty_aae02_12
  · refine lv_iconst (v := 1) hx hb dJx4a65c_isEmpty_aae02_7 (by decide) ?_
    refine lv_goto (tgt := 12) hx hb dJx4a65c_isEmpty_aae02_8 (by decide) ?_
    exact k_retz hx hb hr hlocks (by decide) ⟨(b2_t (by simp [c4])).symm, rfl⟩ hS dJx4a65c_isEmpty_aae02_12
set_option maxHeartbeats 4000000 in
set_option maxRecDepth 100000 in
theorem c_J3_ck (l : Launch) {D : va_G} {cI cZ cO : ClassId} {mi : Nat} (H : Heap) (i n : Nat) (hi : i < n) (hn : n ≤ 1000) : Met l yJ3_checkIndex_8e157 wsJ3_checkIndex_8e157 ({ frames := 0, cells := 0, slots := 0, locals := 0 }) (Pk D cI cZ cO mi [.int (nI i), .int (nI n), .null] H) (Qpi H (nI i)) 0 0 (fun _ => False) := by
  refine Met.ofW (cc := cJ3_checkIndex_8e157) (maxL := 3) (ret := (some .int)) (by decide) rfl ?_
  intro p e s m args below meth c s₁ B hml hv
  obtain ⟨rfl, rfl, hK⟩ := hv
  have hx := B.exec
  have hb := B.bytes
  have hr := B.returns
  have hts := atoms_spec (ws := wsJ3_checkIndex_8e157) B.pre
  have hown : s.vm.findClass RJ3 = some m.cls := findClass_of_methodNamed B.named
  have hlocks := B.notSynchronized
  have hS : va_S (fun _ => False) s.heap s.heap [] := va_S.rf
  have hl := lv_entry ([.int (nI i), .int (nI n), .null]) (n := 3) (Nat.le_of_ble_eq_true rfl)
  rw [lg_entry_eq]
  generalize (lg_sl ([.int (nI i), .int (nI n), .null]) ++ List.replicate (3 - (lg_sl ([.int (nI i), .int (nI n), .null])).length) Slot.unset).toArray = ls at hl ⊢
  have hl : lv_has ls 3 [(0, .int (nI i)), (1, .int (nI n)), (2, .null)] := hl
  refine lv_iload_n hx hb dJ3_checkIndex_8e157_0 rfl (lv_at hl 0 rfl) ?_
  refine lv_if_lt (tgt := 9) hx hb dJ3_checkIndex_8e157_1 (by decide) (fun c1 => ?_) (fun c1 => ?_)
  · exact absurd c1 (nI_pos (by omega))
  · refine lv_iload_n hx hb dJ3_checkIndex_8e157_4 rfl (lv_at hl 0 rfl) ?_
    refine lv_iload_n hx hb dJ3_checkIndex_8e157_5 rfl (lv_at hl 1 rfl) ?_
    refine lv_icmp_lt (tgt := 16) hx hb dJ3_checkIndex_8e157_6 (by decide) (fun c6 => ?_) (fun c6 => ?_)
    · refine lv_iload_n hx hb dJ3_checkIndex_8e157_16 rfl (lv_at hl 0 rfl) ?_
      exact k_reti hx hb hr hlocks ⟨rfl, rfl⟩ hS dJ3_checkIndex_8e157_17
    · exact absurd (nI_lt hi (by omega)) c6
set_option maxHeartbeats 4000000 in
set_option maxRecDepth 100000 in
theorem c_J15_ck (l : Launch) {D : va_G} {cI cZ cO : ClassId} {mi : Nat} (H : Heap) (i n : Nat) (hi : i < n) (hn : n ≤ 1000) : Met l yJ15_checkIndex_7cf53 wsJ15_checkIndex_7cf53 ({ frames := 1, cells := 0, slots := 0, locals := 22 }) (Pk D cI cZ cO mi [.int (nI i), .int (nI n)] H) (Qpi H (nI i)) 0 0 (fun _ => False) := by
  refine Met.ofW (cc := cJ15_checkIndex_7cf53) (maxL := 2) (ret := (some .int)) (by decide) rfl ?_
  intro p e s m args below meth c s₁ B hml hv
  obtain ⟨rfl, rfl, hK⟩ := hv
  have hx := B.exec
  have hb := B.bytes
  have hr := B.returns
  have hts := atoms_spec (ws := wsJ15_checkIndex_7cf53) B.pre
  have hown : s.vm.findClass RJ15 = some m.cls := findClass_of_methodNamed B.named
  have hlocks := B.notSynchronized
  have hS : va_S (fun _ => False) s.heap s.heap [] := va_S.rf
  have hl := lv_entry ([.int (nI i), .int (nI n)]) (n := 2) (Nat.le_of_ble_eq_true rfl)
  rw [lg_entry_eq]
  generalize (lg_sl ([.int (nI i), .int (nI n)]) ++ List.replicate (2 - (lg_sl ([.int (nI i), .int (nI n)])).length) Slot.unset).toArray = ls at hl ⊢
  have hl : lv_has ls 2 [(0, .int (nI i)), (1, .int (nI n))] := hl
  refine lv_iload_n hx hb dJ15_checkIndex_7cf53_0 rfl (lv_at hl 0 rfl) ?_
  refine lv_iload_n hx hb dJ15_checkIndex_7cf53_1 rfl (lv_at hl 1 rfl) ?_
  refine lv_null hx hb dJ15_checkIndex_7cf53_2 ?_
  refine k_callpi (v := nI i) (va_runS (As := [.int (nI i), .int (nI n), .null]) (rest := []) ⟨hx, hb, hml, hown, hts⟩ (c_J3_ck l _ i n hi hn) (va_cwS 3 hts gJ15_checkIndex_7cf53_J3_checkIndex_8e157 rfl rfl rfl (by decide +kernel) ⟨Nat.le_of_ble_eq_true rfl, Nat.le_of_ble_eq_true rfl⟩) (k_preS hK) rfl rfl hl.1 rfl (lv_room (Nat.le_of_ble_eq_true rfl)) dJ15_checkIndex_7cf53_3 ⟨(Nat.zero_le _), (Nat.zero_le _)⟩) hS (fun locs hS => ?_)
  exact k_reti hx hb hr hlocks ⟨rfl, rfl⟩ hS dJ15_checkIndex_7cf53_6
set_option maxHeartbeats 4000000 in
set_option maxRecDepth 100000 in
theorem c_AL_ed (l : Launch) {D : va_G} {cI cZ cO : ClassId} {mi : Nat} (H : Heap) (a e0 n cap i : Nat) (mv : Int32) (g : Nat → Option Nat) (ho : Ob D a 0 [.int mv, .ref e0, .int (nI n)] H) (har : Ar D cO e0 cap g H) (hi : i < n) (hc : n ≤ cap) (hn : cap ≤ 1000) : Met l yJx4a65c_elementData_915e3 wsJx4a65c_elementData_915e3 ({ frames := 0, cells := 0, slots := 0, locals := 0 }) (Pk D cI cZ cO mi [.ref a, .int (nI i)] H) (Qpq H (g i)) 0 0 (fun _ => False) := by
  refine Met.ofW (cc := cJx4a65c_elementData_915e3) (maxL := 2) (ret := (some (.object "java/lang/Object"))) (by decide) rfl ?_
  intro p e s m args below meth c s₁ B hml hv
  obtain ⟨rfl, rfl, hK⟩ := hv
  have hx := B.exec
  have hb := B.bytes
  have hr := B.returns
  have hts := atoms_spec (ws := wsJx4a65c_elementData_915e3) B.pre
  have hown : s.vm.findClass RJx4a65c = some m.cls := findClass_of_methodNamed B.named
  have hlocks := B.notSynchronized
  have hS : va_S (fun _ => False) s.heap s.heap [] := va_S.rf
  have hl := lv_entry ([.ref a, .int (nI i)]) (n := 2) (Nat.le_of_ble_eq_true rfl)
  rw [lg_entry_eq]
  generalize (lg_sl ([.ref a, .int (nI i)]) ++ List.replicate (2 - (lg_sl ([.ref a, .int (nI i)])).length) Slot.unset).toArray = ls at hl ⊢
  have hl : lv_has ls 2 [(0, .ref a), (1, .int (nI i))] := hl
  have hiJx4a65c : ∀ w ∈ wsJx4a65c0, w ∈ wsJx4a65c_elementData_915e3 := by decide +kernel
  refine lv_aload_n hx hb dJx4a65c_elementData_915e3_0 rfl (lv_at hl 0 rfl) ?_
  refine k_get (C := RJx4a65c) (T := TJx4a65c) (N := 3) (v := .ref e0) hx hb hts hiJx4a65c hown hK.1 ho rfl 1 (by decide) (hts (.fieldLink RJx4a65c 9 "java/util/ArrayList" "elementData" "[Ljava/lang/Object;") (by decide +kernel)) (fun _ h9 => h9) rfl dJx4a65c_elementData_915e3_1 ?_
  refine lv_iload_n hx hb dJx4a65c_elementData_915e3_4 rfl (lv_at hl 1 rfl) ?_
  refine k_aald (n := cap) hx hb hK.1 2 har rfl i rfl (by omega) (by omega) dJx4a65c_elementData_915e3_5 ?_
  exact k_retq hx hb hr (Or.inl ⟨_, rfl⟩) hlocks _ ⟨rfl, rfl⟩ hS dJx4a65c_elementData_915e3_6
set_option maxHeartbeats 4000000 in
set_option maxRecDepth 100000 in
theorem c_AL_get (l : Launch) {D : va_G} {cI cZ cO : ClassId} {mi : Nat} (H : Heap) (a e0 n cap i : Nat) (mv : Int32) (g : Nat → Option Nat) (ho : Ob D a 0 [.int mv, .ref e0, .int (nI n)] H) (har : Ar D cO e0 cap g H) (hi : i < n) (hc : n ≤ cap) (hn : cap ≤ 1000) : Met l yJx4a65c_get_915e3 wsJx4a65c_get_915e3 ({ frames := 2, cells := 0, slots := 0, locals := 43 }) (Pk D cI cZ cO mi [.ref a, .int (nI i)] H) (Qpq H (g i)) 0 0 (fun _ => False) := by
  refine Met.ofW (cc := cJx4a65c_get_915e3) (maxL := 2) (ret := (some (.object "java/lang/Object"))) (by decide) rfl ?_
  intro p e s m args below meth c s₁ B hml hv
  obtain ⟨rfl, rfl, hK⟩ := hv
  have hx := B.exec
  have hb := B.bytes
  have hr := B.returns
  have hts := atoms_spec (ws := wsJx4a65c_get_915e3) B.pre
  have hown : s.vm.findClass RJx4a65c = some m.cls := findClass_of_methodNamed B.named
  have hlocks := B.notSynchronized
  have hS : va_S (fun _ => False) s.heap s.heap [] := va_S.rf
  have hl := lv_entry ([.ref a, .int (nI i)]) (n := 2) (Nat.le_of_ble_eq_true rfl)
  rw [lg_entry_eq]
  generalize (lg_sl ([.ref a, .int (nI i)]) ++ List.replicate (2 - (lg_sl ([.ref a, .int (nI i)])).length) Slot.unset).toArray = ls at hl ⊢
  have hl : lv_has ls 2 [(0, .ref a), (1, .int (nI i))] := hl
  have hiJx4a65c : ∀ w ∈ wsJx4a65c0, w ∈ wsJx4a65c_get_915e3 := by decide +kernel
  refine lv_iload_n hx hb dJx4a65c_get_915e3_0 rfl (lv_at hl 1 rfl) ?_
  refine lv_aload_n hx hb dJx4a65c_get_915e3_1 rfl (lv_at hl 0 rfl) ?_
  refine k_get (C := RJx4a65c) (T := TJx4a65c) (N := 3) (v := .int (nI n)) hx hb hts hiJx4a65c hown hK.1 ho rfl 2 (by decide) (hts (.fieldLink RJx4a65c 48 "java/util/ArrayList" "size" "I") (by decide +kernel)) (fun _ h9 => h9) rfl dJx4a65c_get_915e3_2 ?_
  refine k_callpi (v := nI i) (va_runS (As := [.int (nI i), .int (nI n)]) (rest := []) ⟨hx, hb, hml, hown, hts⟩ (c_J15_ck l _ i n hi (by omega)) (va_cwS 2 hts gJx4a65c_get_915e3_J15_checkIndex_7cf53 rfl rfl rfl (by decide +kernel) ⟨Nat.le_of_ble_eq_true rfl, Nat.le_of_ble_eq_true rfl⟩) (k_preS hK) rfl rfl hl.1 rfl (lv_room (Nat.le_of_ble_eq_true rfl)) dJx4a65c_get_915e3_5 ⟨(Nat.zero_le _), (Nat.zero_le _)⟩) hS (fun locs hS => ?_)
  refine lv_pop hx hb dJx4a65c_get_915e3_8 rfl ?_
  refine lv_aload_n hx hb dJx4a65c_get_915e3_9 rfl (lv_at hl 0 rfl) ?_
  refine lv_iload_n hx hb dJx4a65c_get_915e3_10 rfl (lv_at hl 1 rfl) ?_
  refine k_callpq (v := g i) (va_runV (As := [.int (nI i)]) (rest := []) ⟨hx, hb, hml, hown, hts⟩ (c_AL_ed l _ a e0 n cap i mv g ho har hi hc hn) (cwV 1 hts gJx4a65c_get_915e3_Jx4a65c_elementData_915e3 rfl rfl rfl (by decide +kernel) ⟨Nat.le_of_ble_eq_true rfl, Nat.le_of_ble_eq_true rfl⟩) (k_preV hK (k_recv hK.1 ho rfl)) rfl rfl hl.1 rfl (lv_room (Nat.le_of_ble_eq_true rfl)) dJx4a65c_get_915e3_11 ⟨(Nat.zero_le _), (Nat.zero_le _)⟩) hS (fun locs hS => ?_)
  exact k_retq hx hb hr (Or.inl ⟨_, rfl⟩) hlocks _ ⟨rfl, rfl⟩ hS dJx4a65c_get_915e3_14
set_option maxHeartbeats 4000000 in
set_option maxRecDepth 100000 in
theorem c_newLength (l : Launch) {D : va_G} {cI cZ cO : ClassId} {mi : Nat} (H : Heap) (o mn pf : Nat) (ho : o ≤ 100) (hm : mn ≤ 100) (hp : pf ≤ 100) (h1 : 1 ≤ o + (if mn < pf then pf else mn)) : Met l yJ8_newLength_cabcc wsJ8_newLength_cabcc ({ frames := 1, cells := 0, slots := 0, locals := 30 }) (Pk D cI cZ cO mi [.int (nI o), .int (nI mn), .int (nI pf)] H) (Qpi H (nI (o + (if mn < pf then pf else mn)))) 0 0 (fun _ => False) := by
  refine Met.ofW (cc := cJ8_newLength_cabcc) (maxL := 4) (ret := (some .int)) (by decide) rfl ?_
  intro p e s m args below meth c s₁ B hml hv
  obtain ⟨rfl, rfl, hK⟩ := hv
  have hx := B.exec
  have hb := B.bytes
  have hr := B.returns
  have hts := atoms_spec (ws := wsJ8_newLength_cabcc) B.pre
  have hown : s.vm.findClass RJ8 = some m.cls := findClass_of_methodNamed B.named
  have hlocks := B.notSynchronized
  have hS : va_S (fun _ => False) s.heap s.heap [] := va_S.rf
  have hl := lv_entry ([.int (nI o), .int (nI mn), .int (nI pf)]) (n := 4) (Nat.le_of_ble_eq_true rfl)
  rw [lg_entry_eq]
  generalize (lg_sl ([.int (nI o), .int (nI mn), .int (nI pf)]) ++ List.replicate (4 - (lg_sl ([.int (nI o), .int (nI mn), .int (nI pf)])).length) Slot.unset).toArray = ls at hl ⊢
  have hl : lv_has ls 4 [(0, .int (nI o)), (1, .int (nI mn)), (2, .int (nI pf))] := hl
  refine lv_iload_n hx hb dJ8_newLength_cabcc_0 rfl (lv_at hl 0 rfl) ?_
  refine lv_iload_n hx hb dJ8_newLength_cabcc_1 rfl (lv_at hl 1 rfl) ?_
  refine lv_iload_n hx hb dJ8_newLength_cabcc_2 rfl (lv_at hl 2 rfl) ?_
  refine va_mmax hx hb (by rw [hml]; exact hl.1.symm) hown (hts (.methodLink RJ8 194 Lib.Math.max.name) (by decide +kernel)) (hts (.static Lib.Math.max.name) (by decide +kernel)) (hts (.initialized "java/lang/Math") (by decide +kernel)) (hts (.code Lib.Math.max.name Lib.Math.max.code 2 (some .int)) (by decide +kernel)) (Nat.le_of_ble_eq_true rfl) (Nat.le_of_ble_eq_true rfl) (Nat.le_of_ble_eq_true rfl) (Nat.le_of_ble_eq_true rfl) dJ8_newLength_cabcc_3 ?_
  refine lv_iadd hx hb dJ8_newLength_cabcc_6 ?_
  rw [show nI o + (if nI mn < nI pf then nI pf else nI mn) = nI (o + (if mn < pf then pf else mn)) by by_cases q : mn < pf; (rw [if_pos q, if_pos (nI_lt q (by omega)), nI_add]); (rw [if_neg q, if_neg (nI_nlt (by omega) (by omega)), nI_add])]
  have hb1 : o + (if mn < pf then pf else mn) ≤ 300 := by split <;> omega
  have hb2 : 1 ≤ o + (if mn < pf then pf else mn) := by first | (split <;> omega) | exact h1
  refine lv_istore_n (lv' := [(3, .int (nI (o + (if mn < pf then pf else mn)))), (0, .int (nI o)), (1, .int (nI mn)), (2, .int (nI pf))]) hx hb dJ8_newLength_cabcc_7 rfl hl (by decide) rfl (fun ls hl => ?_)
  refine lv_iconst (v := 0) hx hb dJ8_newLength_cabcc_8 (by decide) ?_
  refine lv_iload_n hx hb dJ8_newLength_cabcc_9 rfl (lv_at hl 0 rfl) ?_
  refine lv_icmp_ge (tgt := 21) hx hb dJ8_newLength_cabcc_10 (by decide) (fun c10 => ?_) (fun c10 => ?_)
  · have c10 := Int32.not_lt.mpr c10
    exact absurd (show nI 0 < nI _ from nI_lt hb2 (by omega)) c10
  · have c10 := Int32.not_le.mp c10
    refine lv_iload_n hx hb dJ8_newLength_cabcc_13 rfl (lv_at hl 0 rfl) ?_
    refine lv_ldc (v := 2147483639) hx hb hown (hts (.constant RJ8 200 2147483639) (by decide +kernel)) dJ8_newLength_cabcc_14 ?_
    refine lv_icmp_gt (tgt := 21) hx hb dJ8_newLength_cabcc_16 (by decide) (fun c16 => ?_) (fun c16 => ?_)
    · exact absurd c16 (show ¬ nI 2147483639 < nI _ from nI_nlt (by omega) (by decide))
    · refine lv_iload_n hx hb dJ8_newLength_cabcc_19 rfl (lv_at hl 0 rfl) ?_
      exact k_reti hx hb hr hlocks ⟨rfl, rfl⟩ hS dJ8_newLength_cabcc_20
