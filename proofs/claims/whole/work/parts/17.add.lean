set_option maxHeartbeats 4000000 in
set_option maxRecDepth 100000 in
theorem c_add3_R (l : Launch) {D : va_G} {cI cZ cO : ClassId} {mi : Nat} (H : Heap) (a e0 n cap x : Nat) (mv : Int32) (g : Nat → Option Nat) (ho : Ob D a 0 [.int mv, .ref e0, .int (nI n)] H) (har : Ar D cO e0 cap g H) (hxo : ElO D x H) (hlt : n < cap) (hc : cap ≤ 33) (hae : a ≠ e0) : Met l yJx4a65c_add_72be8 wsJx4a65c_add_72be8 ({ frames := 0, cells := 0, slots := 0, locals := 0 }) (Pk D cI cZ cO mi [.ref a, .ref x, .ref e0, .int (nI n)] H) (Qkv (fun H1 => Ob D a 0 [.int mv, .ref e0, .int (nI (n + 1))] H1 ∧ Ar D cO e0 cap (va_up g n (some x)) H1 ∧ H1.size = H.size) (fun q => q = a ∨ q = e0)) 0 0 (fun q => q = a ∨ q = e0) := by
  refine Met.ofW (cc := cJx4a65c_add_72be8) (maxL := 4) (ret := none) (by decide) rfl ?_
  intro p e s m args below meth c s₁ Bd hml hv
  obtain ⟨rfl, rfl, hK⟩ := hv
  have hx := Bd.exec
  have hb := Bd.bytes
  have hr := Bd.returns
  have hts := atoms_spec (ws := wsJx4a65c_add_72be8) Bd.pre
  have hown : s.vm.findClass RJx4a65c = some m.cls := findClass_of_methodNamed Bd.named
  have hlocks := Bd.notSynchronized
  have hS : va_S (fun q => q = a ∨ q = e0) s.heap s.heap [] := va_S.rf
  have hl := lv_entry ([.ref a, .ref x, .ref e0, .int (nI n)]) (n := 4) (Nat.le_of_ble_eq_true rfl)
  rw [lg_entry_eq]
  generalize (lg_sl ([.ref a, .ref x, .ref e0, .int (nI n)]) ++ List.replicate (4 - (lg_sl ([.ref a, .ref x, .ref e0, .int (nI n)])).length) Slot.unset).toArray = ls at hl ⊢
  have hl : lv_has ls 4 [(0, .ref a), (1, .ref x), (2, .ref e0), (3, .int (nI n))] := hl
  have hiJx4a65c : ∀ w ∈ wsJx4a65c0, w ∈ wsJx4a65c_add_72be8 := by decide +kernel
  refine lv_iload_n hx hb dJx4a65c_add_72be8_0 rfl (lv_at hl 3 rfl) ?_
  refine lv_aload_n hx hb dJx4a65c_add_72be8_1 rfl (lv_at hl 2 rfl) ?_
  refine k_alen hx hb hK.1 2 har rfl (v := nI cap) rfl dJx4a65c_add_72be8_2 ?_
  refine lv_icmp_ne (tgt := 11) hx hb dJx4a65c_add_72be8_3 (by decide) (fun c3 => ?_) (fun c3 => ?_)
  · refine lv_aload_n hx hb dJx4a65c_add_72be8_11 rfl (lv_at hl 2 rfl) ?_
    refine lv_iload_n hx hb dJx4a65c_add_72be8_12 rfl (lv_at hl 3 rfl) ?_
    refine lv_aload_n hx hb dJx4a65c_add_72be8_13 rfl (lv_at hl 1 rfl) ?_
    refine k_aast (A := (fun q => q = a ∨ q = e0)) (n := cap) hx hb hK har (Or.inr rfl) hS hxo n rfl (by omega) (by omega) dJx4a65c_add_72be8_14 (fun H5 locs hA5 hz5 hq5 hS => ?_)
    have ho5 := va_at.kept ho (hq5 a hae)
    refine lv_aload_n hx hb dJx4a65c_add_72be8_15 rfl (lv_at hl 0 rfl) ?_
    refine lv_iload_n hx hb dJx4a65c_add_72be8_16 rfl (lv_at hl 3 rfl) ?_
    refine lv_iconst (v := 1) hx hb dJx4a65c_add_72be8_17 (by decide) ?_
    refine lv_iadd hx hb dJx4a65c_add_72be8_18 ?_
    rw [nI_1]
    refine k_put (A := (fun q => q = a ∨ q = e0)) (C := RJx4a65c) (T := TJx4a65c) (N := 3) (ty := .int) (v := .int (nI (n + 1))) hx hb hts hiJx4a65c tyJx4a65c tyJx4a65c_ok nmJx4a65c hown hK.1 ho5 (Or.inl rfl) hS rfl 2 (by decide) (hts (.fieldLink RJx4a65c 48 "java/util/ArrayList" "size" "I") (by decide +kernel)) (fun _ h9 => h9) rfl (by decide +kernel) rfl rfl (Nat.le_of_ble_eq_true rfl) dJx4a65c_add_72be8_19 (fun H1 locs hO2 hz3 hq4 hS => ?_)
    have hA6 := va_at.kept hA5 (hq4 _ hae.symm)
    exact k_retv hx hb hr hlocks ⟨hO2, hA6, by rw [hz3, hz5]⟩ hS dJx4a65c_add_72be8_22
  · exact absurd ((nI_eq (by omega) (by omega)).mp c3) (by omega)
set_option maxHeartbeats 4000000 in
set_option maxRecDepth 100000 in
theorem c_add3_G (l : Launch) {D : va_G} {cI cZ cO : ClassId} {mi : Nat} (H : Heap) (a e0 n x : Nat) (mv : Int32) (g : Nat → Option Nat) (ho : Ob D a 0 [.int mv, .ref e0, .int (nI n)] H) (har : Ar D cO e0 n g H) (hel : ∀ i, i < n → ∀ y, g i = some y → ElO D y H) (hxo : ElO D x H) (hc : n = 10 ∨ n = 15 ∨ n = 22) (hae : a ≠ e0) (hxa : x ≠ a) (hxe : x ≠ e0) : Met l yJx4a65c_add_72be8 wsJx4a65c_add_72be8 ({ frames := 5, cells := 1, slots := 33, locals := 147 }) (Pk D cI cZ cO mi [.ref a, .ref x, .ref e0, .int (nI n)] H) (Qkv (fun H1 => Ob D a 0 [.int mv, .ref H.size, .int (nI (n + 1))] H1 ∧ Ar D cO H.size (n + n / 2) (va_up (va_cpy g (fun _ => none) 0 0 n) n (some x)) H1) (fun q => q = a ∨ q = e0 ∨ H.size ≤ q)) 1 33 (fun q => q = a ∨ q = e0 ∨ H.size ≤ q) := by
  refine Met.ofW (cc := cJx4a65c_add_72be8) (maxL := 4) (ret := none) (by decide) rfl ?_
  intro p e s m args below meth c s₁ Bd hml hv
  obtain ⟨rfl, rfl, hK⟩ := hv
  have hx := Bd.exec
  have hb := Bd.bytes
  have hr := Bd.returns
  have hts := atoms_spec (ws := wsJx4a65c_add_72be8) Bd.pre
  have hown : s.vm.findClass RJx4a65c = some m.cls := findClass_of_methodNamed Bd.named
  have hlocks := Bd.notSynchronized
  have hS : va_S (fun q => q = a ∨ q = e0 ∨ s.heap.size ≤ q) s.heap s.heap [] := va_S.rf
  have hl := lv_entry ([.ref a, .ref x, .ref e0, .int (nI n)]) (n := 4) (Nat.le_of_ble_eq_true rfl)
  rw [lg_entry_eq]
  generalize (lg_sl ([.ref a, .ref x, .ref e0, .int (nI n)]) ++ List.replicate (4 - (lg_sl ([.ref a, .ref x, .ref e0, .int (nI n)])).length) Slot.unset).toArray = ls at hl ⊢
  have hl : lv_has ls 4 [(0, .ref a), (1, .ref x), (2, .ref e0), (3, .int (nI n))] := hl
  have hiJx4a65c : ∀ w ∈ wsJx4a65c0, w ∈ wsJx4a65c_add_72be8 := by decide +kernel
  have hla : a < s.heap.size := va_at.lt ho
  refine lv_iload_n hx hb dJx4a65c_add_72be8_0 rfl (lv_at hl 3 rfl) ?_
  refine lv_aload_n hx hb dJx4a65c_add_72be8_1 rfl (lv_at hl 2 rfl) ?_
  refine k_alen hx hb hK.1 2 har rfl (v := nI n) rfl dJx4a65c_add_72be8_2 ?_
  refine lv_icmp_ne (tgt := 11) hx hb dJx4a65c_add_72be8_3 (by decide) (fun c3 => ?_) (fun c3 => ?_)
  · exact absurd rfl c3
  · refine lv_aload_n hx hb dJx4a65c_add_72be8_6 rfl (lv_at hl 0 rfl) ?_
    refine k_callq (va_runV (As := []) (rest := []) ⟨hx, hb, hml, hown, hts⟩ (c_grow_O l _ a e0 n mv g ho har hel hc hae) (cwV 0 hts gJx4a65c_add_72be8_Jx4a65c_grow_d5877 rfl rfl rfl (by decide +kernel) ⟨Nat.le_of_ble_eq_true rfl, Nat.le_of_ble_eq_true rfl⟩) (k_preV hK (k_recv hK.1 ho rfl)) rfl rfl hl.1 rfl (lv_room (Nat.le_of_ble_eq_true rfl)) dJx4a65c_add_72be8_7 ⟨Nat.le_of_ble_eq_true rfl, Nat.le_of_ble_eq_true rfl⟩) hS (fun _ h => h) (fun r9 H2 locs hp9 hz2 hk2 hS => ?_)
    obtain ⟨rfl, ho2, hn2, he2⟩ := hp9
    have hxo2 := hxo.kept (hk2 x hxo.lt (fun h => h.elim hxa (fun h => h.elim hxe (fun h => absurd hxo.lt (by omega)))))
    refine lv_astore_n (lv' := [(2, .ref s.heap.size), (0, .ref a), (1, .ref x), (3, .int (nI n))]) hx hb dJx4a65c_add_72be8_10 rfl hl (by decide) rfl (fun ls hl => ?_)
    refine lv_aload_n hx hb dJx4a65c_add_72be8_11 rfl (lv_at hl 0 rfl) ?_
    refine lv_iload_n hx hb dJx4a65c_add_72be8_12 rfl (lv_at hl 3 rfl) ?_
    refine lv_aload_n hx hb dJx4a65c_add_72be8_13 rfl (lv_at hl 2 rfl) ?_
    refine k_aast (A := (fun q => q = a ∨ q = e0 ∨ s.heap.size ≤ q)) (n := n + n / 2) hx hb hK hn2 (Or.inr (Or.inr (Nat.le_refl _))) hS hxo2 n rfl (by omega) (by omega) dJx4a65c_add_72be8_14 (fun H5 locs hA5 hz5 hq5 hS => ?_)
    have ho5 := va_at.kept ho2 (hq5 a (by omega))
    refine lv_aload_n hx hb dJx4a65c_add_72be8_15 rfl (lv_at hl 1 rfl) ?_
    refine lv_iload_n hx hb dJx4a65c_add_72be8_16 rfl (lv_at hl 3 rfl) ?_
    refine lv_iconst (v := 1) hx hb dJx4a65c_add_72be8_17 (by decide) ?_
    refine lv_iadd hx hb dJx4a65c_add_72be8_18 ?_
    rw [nI_1]
    refine k_put (A := (fun q => q = a ∨ q = e0 ∨ s.heap.size ≤ q)) (C := RJx4a65c) (T := TJx4a65c) (N := 3) (ty := .int) (v := .int (nI (n + 1))) hx hb hts hiJx4a65c tyJx4a65c tyJx4a65c_ok nmJx4a65c hown hK.1 ho5 (Or.inl rfl) hS rfl 2 (by decide) (hts (.fieldLink RJx4a65c 48 "java/util/ArrayList" "size" "I") (by decide +kernel)) (fun _ h9 => h9) rfl (by decide +kernel) rfl rfl (Nat.le_of_ble_eq_true rfl) dJx4a65c_add_72be8_19 (fun H1 locs hO2 hz3 hq4 hS => ?_)
    have hA6 := va_at.kept hA5 (hq4 _ (by show s.heap.size ≠ a; omega))
    exact k_retv hx hb hr hlocks ⟨hO2, hA6⟩ hS dJx4a65c_add_72be8_22
set_option maxHeartbeats 4000000 in
set_option maxRecDepth 100000 in
theorem c_add3_E (l : Launch) {D : va_G} {cI cZ cO : ClassId} {mi eA : Nat} {B : Nat → Prop} (H : Heap) (a x : Nat) (mv : Int32) (ho : Ob D a 0 [.int mv, .ref eA, .int 0] H) (hBa : B a) (hBn : ∀ q, H.size ≤ q → B q) (hxo : ElO D x H) (hxa : x ≠ a) : Met l yJx4a65c_add_72be8 wsJx4a65c_add_72be8 ({ frames := 3, cells := 1, slots := 33, locals := 103 }) (Pz D cI cZ cO mi eA B [.ref a, .ref x, .ref eA, .int 0] H) (Qkv (fun H1 => Ob D a 0 [.int mv, .ref H.size, .int (nI 1)] H1 ∧ Ar D cO H.size 10 (va_up (fun _ => none) 0 (some x)) H1) (fun q => q = a ∨ H.size ≤ q)) 1 33 (fun q => q = a ∨ H.size ≤ q) := by
  refine Met.ofW (cc := cJx4a65c_add_72be8) (maxL := 4) (ret := none) (by decide) rfl ?_
  intro p e s m args below meth c s₁ Bd hml hv
  obtain ⟨rfl, rfl, hK, hZ⟩ := hv
  have hx := Bd.exec
  have hb := Bd.bytes
  have hr := Bd.returns
  have hts := atoms_spec (ws := wsJx4a65c_add_72be8) Bd.pre
  have hown : s.vm.findClass RJx4a65c = some m.cls := findClass_of_methodNamed Bd.named
  have hlocks := Bd.notSynchronized
  have hS : va_S (fun q => q = a ∨ s.heap.size ≤ q) s.heap s.heap [] := va_S.rf
  have hl := lv_entry ([.ref a, .ref x, .ref eA, .int 0]) (n := 4) (Nat.le_of_ble_eq_true rfl)
  rw [lg_entry_eq]
  generalize (lg_sl ([.ref a, .ref x, .ref eA, .int 0]) ++ List.replicate (4 - (lg_sl ([.ref a, .ref x, .ref eA, .int 0])).length) Slot.unset).toArray = ls at hl ⊢
  have hl : lv_has ls 4 [(0, .ref a), (1, .ref x), (2, .ref eA), (3, .int 0)] := hl
  have hiJx4a65c : ∀ w ∈ wsJx4a65c0, w ∈ wsJx4a65c_add_72be8 := by decide +kernel
  have hla : a < s.heap.size := va_at.lt ho
  have hZc := hZ
  refine lv_iload_n hx hb dJx4a65c_add_72be8_0 rfl (lv_at hl 3 rfl) ?_
  refine lv_aload_n hx hb dJx4a65c_add_72be8_1 rfl (lv_at hl 2 rfl) ?_
  refine k_tlen hx hb hZ (fun q h => h.elim (fun h => by rw [h]; exact hBa) (hBn q)) hS dJx4a65c_add_72be8_2 ?_
  refine lv_icmp_ne (tgt := 11) hx hb dJx4a65c_add_72be8_3 (by decide) (fun c3 => ?_) (fun c3 => ?_)
  · exact absurd c3 (by decide)
  · refine lv_aload_n hx hb dJx4a65c_add_72be8_6 rfl (lv_at hl 0 rfl) ?_
    refine k_callq (va_runV (As := []) (rest := []) ⟨hx, hb, hml, hown, hts⟩ (c_grow_E l _ a mv ho hBa hBn) (cwV 0 hts gJx4a65c_add_72be8_Jx4a65c_grow_d5877 rfl rfl rfl (by decide +kernel) ⟨Nat.le_of_ble_eq_true rfl, Nat.le_of_ble_eq_true rfl⟩) (z_preV hK hZc (k_recv hK.1 ho rfl)) rfl rfl hl.1 rfl (lv_room (Nat.le_of_ble_eq_true rfl)) dJx4a65c_add_72be8_7 ⟨Nat.le_of_ble_eq_true rfl, Nat.le_of_ble_eq_true rfl⟩) hS (fun _ h => h) (fun r9 H2 locs hp9 hz2 hk2 hS => ?_)
    obtain ⟨rfl, ho2, hn2⟩ := hp9
    have hxo2 := hxo.kept (hk2 x hxo.lt (fun h => h.elim hxa (fun h => absurd hxo.lt (by omega))))
    refine lv_astore_n (lv' := [(2, .ref s.heap.size), (0, .ref a), (1, .ref x), (3, .int 0)]) hx hb dJx4a65c_add_72be8_10 rfl hl (by decide) rfl (fun ls hl => ?_)
    refine lv_aload_n hx hb dJx4a65c_add_72be8_11 rfl (lv_at hl 0 rfl) ?_
    refine lv_iload_n hx hb dJx4a65c_add_72be8_12 rfl (lv_at hl 3 rfl) ?_
    refine lv_aload_n hx hb dJx4a65c_add_72be8_13 rfl (lv_at hl 2 rfl) ?_
    refine k_aast (A := (fun q => q = a ∨ s.heap.size ≤ q)) (n := 10) hx hb hK hn2 (Or.inr (Nat.le_refl _)) hS hxo2 0 rfl (by omega) (by omega) dJx4a65c_add_72be8_14 (fun H5 locs hA5 hz5 hq5 hS => ?_)
    have ho5 := va_at.kept ho2 (hq5 a (by omega))
    refine lv_aload_n hx hb dJx4a65c_add_72be8_15 rfl (lv_at hl 1 rfl) ?_
    refine lv_iload_n hx hb dJx4a65c_add_72be8_16 rfl (lv_at hl 3 rfl) ?_
    refine lv_iconst (v := 1) hx hb dJx4a65c_add_72be8_17 (by decide) ?_
    refine lv_iadd hx hb dJx4a65c_add_72be8_18 ?_
    rw [show (0 : Int32) + 1 = nI 1 from rfl]
    refine k_put (A := (fun q => q = a ∨ s.heap.size ≤ q)) (C := RJx4a65c) (T := TJx4a65c) (N := 3) (ty := .int) (v := .int (nI 1)) hx hb hts hiJx4a65c tyJx4a65c tyJx4a65c_ok nmJx4a65c hown hK.1 ho5 (Or.inl rfl) hS rfl 2 (by decide) (hts (.fieldLink RJx4a65c 48 "java/util/ArrayList" "size" "I") (by decide +kernel)) (fun _ h9 => h9) rfl (by decide +kernel) rfl rfl (Nat.le_of_ble_eq_true rfl) dJx4a65c_add_72be8_19 (fun H1 locs hO2 hz3 hq4 hS => ?_)
    have hA6 := va_at.kept hA5 (hq4 _ (by show s.heap.size ≠ a; omega))
    exact k_retv hx hb hr hlocks ⟨hO2, hA6⟩ hS dJx4a65c_add_72be8_22
set_option maxHeartbeats 4000000 in
set_option maxRecDepth 100000 in
theorem c_AL_add (l : Launch) {D : va_G} {cI cZ cO : ClassId} {mi eA : Nat} {B : Nat → Prop} (H : Heap) (a e0 n cap x : Nat) (g : Nat → Option Nat) (hAL : AL D cO eA a e0 n cap g H) (hn : n ≤ 32) (hxo : ElO D x H) (hel : ∀ i, i < n → ∃ y, g i = some y ∧ ElO D y H ∧ y ≠ a) (hae : 0 < n → a ≠ e0) (hxa : x ≠ a) (hxe : 0 < n → x ≠ e0) (hBa : B a) (hBn : ∀ q, H.size ≤ q → B q) : Met l yJx4a65c_add_9ea2d wsJx4a65c_add_9ea2d ({ frames := 6, cells := 1, slots := 33, locals := 170 }) (Pz D cI cZ cO mi eA B [.ref a, .ref x] H) (Qki (fun r H1 => r = 1 ∧ ∃ e1 cap1 g1, AL D cO eA a e1 (n + 1) cap1 g1 H1 ∧ (∀ i, i < n → g1 i = g i) ∧ g1 n = some x ∧ ((e1 = e0 ∧ 0 < n) ∨ H.size ≤ e1)) (fun q => q = a ∨ (q = e0 ∧ 0 < n) ∨ H.size ≤ q)) 1 33 (fun q => q = a ∨ (q = e0 ∧ 0 < n) ∨ H.size ≤ q) := by
  refine Met.ofW (cc := cJx4a65c_add_9ea2d) (maxL := 2) (ret := (some .boolean)) (by decide) rfl ?_
  intro p e s m args below meth c s₁ Bd hml hv
  obtain ⟨rfl, rfl, hK, hZ⟩ := hv
  have hx := Bd.exec
  have hb := Bd.bytes
  have hr := Bd.returns
  have hts := atoms_spec (ws := wsJx4a65c_add_9ea2d) Bd.pre
  have hown : s.vm.findClass RJx4a65c = some m.cls := findClass_of_methodNamed Bd.named
  have hlocks := Bd.notSynchronized
  have hS : va_S (fun q => q = a ∨ (q = e0 ∧ 0 < n) ∨ s.heap.size ≤ q) s.heap s.heap [] := va_S.rf
  have hl := lv_entry ([.ref a, .ref x]) (n := 2) (Nat.le_of_ble_eq_true rfl)
  rw [lg_entry_eq]
  generalize (lg_sl ([.ref a, .ref x]) ++ List.replicate (2 - (lg_sl ([.ref a, .ref x])).length) Slot.unset).toArray = ls at hl ⊢
  have hl : lv_has ls 2 [(0, .ref a), (1, .ref x)] := hl
  have hiJx4a65c : ∀ w ∈ wsJx4a65c0, w ∈ wsJx4a65c_add_9ea2d := by decide +kernel
  obtain ⟨⟨mv, ho⟩, hmode⟩ := hAL
  have hla : a < s.heap.size := va_at.lt ho
  rcases hmode with ⟨hn0, he, hcap⟩ | ⟨hnp, hnc, hcs, har, hno⟩
  · subst hn0; subst he
    refine lv_aload_n hx hb dJx4a65c_add_9ea2d_0 rfl (lv_at hl 0 rfl) ?_
    refine lv_dup hx hb dJx4a65c_add_9ea2d_1 rfl ?_
    refine k_get (C := RJx4a65c) (T := TJx4a65c) (N := 3) (v := .int mv) hx hb hts hiJx4a65c hown hK.1 ho rfl 0 (by decide) (hts (.fieldLink RJx4a65c 63 "java/util/ArrayList" "modCount" "I") (by decide +kernel)) (fun x9 h9 => u_same (hts (.sameField "java/util/ArrayList" "java/util/AbstractList" "modCount" "I") (by decide +kernel)) x9 h9) rfl dJx4a65c_add_9ea2d_2 ?_
    refine lv_iconst (v := 1) hx hb dJx4a65c_add_9ea2d_5 (by decide) ?_
    refine lv_iadd hx hb dJx4a65c_add_9ea2d_6 ?_
    refine k_put (A := (fun q => q = a ∨ (q = e0 ∧ 0 < 0) ∨ s.heap.size ≤ q)) (C := RJx4a65c) (T := TJx4a65c) (N := 3) (ty := .int) (v := .int (mv + 1)) hx hb hts hiJx4a65c tyJx4a65c tyJx4a65c_ok nmJx4a65c hown hK.1 ho (Or.inl rfl) hS rfl 0 (by decide) (hts (.fieldLink RJx4a65c 63 "java/util/ArrayList" "modCount" "I") (by decide +kernel)) (fun x9 h9 => u_same (hts (.sameField "java/util/ArrayList" "java/util/AbstractList" "modCount" "I") (by decide +kernel)) x9 h9) rfl (by decide +kernel) rfl rfl (Nat.le_of_ble_eq_true rfl) dJx4a65c_add_9ea2d_7 (fun H1 locs hO2 hz3 hq4 hS => ?_)
    have hxo1 := hxo.kept (hq4 x hxa)
    refine lv_aload_n hx hb dJx4a65c_add_9ea2d_10 rfl (lv_at hl 0 rfl) ?_
    refine lv_aload_n hx hb dJx4a65c_add_9ea2d_11 rfl (lv_at hl 1 rfl) ?_
    refine lv_aload_n hx hb dJx4a65c_add_9ea2d_12 rfl (lv_at hl 0 rfl) ?_
    refine k_get (C := RJx4a65c) (T := TJx4a65c) (N := 3) (v := .ref e0) hx hb hts hiJx4a65c hown hK.1 hO2 rfl 1 (by decide) (hts (.fieldLink RJx4a65c 9 "java/util/ArrayList" "elementData" "[Ljava/lang/Object;") (by decide +kernel)) (fun _ h9 => h9) rfl dJx4a65c_add_9ea2d_13 ?_
    refine lv_aload_n hx hb dJx4a65c_add_9ea2d_16 rfl (lv_at hl 0 rfl) ?_
    refine k_get (C := RJx4a65c) (T := TJx4a65c) (N := 3) (v := .int (nI 0)) hx hb hts hiJx4a65c hown hK.1 hO2 rfl 2 (by decide) (hts (.fieldLink RJx4a65c 48 "java/util/ArrayList" "size" "I") (by decide +kernel)) (fun _ h9 => h9) rfl dJx4a65c_add_9ea2d_17 ?_
    have hZc : ZZ e0 B s H1 := hZ.S (A := (fun q => q = a ∨ (q = e0 ∧ 0 < 0) ∨ s.heap.size ≤ q)) (fun q h => h.elim (fun h => by rw [h]; exact hBa) (fun h => h.elim (fun h => absurd h.2 (by omega)) (hBn q))) hS
    refine k_callv (va_runV (As := [.ref x, .ref e0, .int (nI 0)]) (rest := []) ⟨hx, hb, hml, hown, hts⟩ (c_add3_E l _ a x (mv + 1) hO2 hBa (fun q h => hBn q (by rw [hz3] at h; exact h)) hxo1 hxa) (cwV 3 hts gJx4a65c_add_9ea2d_Jx4a65c_add_72be8 rfl rfl rfl (by decide +kernel) ⟨Nat.le_of_ble_eq_true rfl, Nat.le_of_ble_eq_true rfl⟩) (z_preV hK hZc (k_recv hK.1 hO2 rfl)) rfl rfl hl.1 rfl (lv_room (Nat.le_of_ble_eq_true rfl)) dJx4a65c_add_9ea2d_20 ⟨Nat.le_of_ble_eq_true rfl, Nat.le_of_ble_eq_true rfl⟩) hS (fun q h => h.elim Or.inl (fun h => Or.inr (Or.inr (by rw [hz3] at h; exact h)))) (fun H2 locs hp9 hz2 hk2 hS => ?_)
    refine lv_iconst (v := 1) hx hb dJx4a65c_add_9ea2d_23 (by decide) ?_
    rw [hz3] at hp9
    exact k_retz hx hb hr hlocks (by decide) ⟨rfl, s.heap.size, 10, _, ⟨⟨_, hp9.1⟩, Or.inr ⟨by omega, by omega, Or.inl rfl, hp9.2, fun i hi => by rw [va_up, if_neg (by omega)]⟩⟩, fun i hi => absurd hi (by omega), by rw [va_up, if_pos rfl], Or.inr (Nat.le_refl _)⟩ hS dJx4a65c_add_9ea2d_24
  · rcases Nat.lt_or_ge n cap with hlt | hge
    · refine lv_aload_n hx hb dJx4a65c_add_9ea2d_0 rfl (lv_at hl 0 rfl) ?_
      refine lv_dup hx hb dJx4a65c_add_9ea2d_1 rfl ?_
      refine k_get (C := RJx4a65c) (T := TJx4a65c) (N := 3) (v := .int mv) hx hb hts hiJx4a65c hown hK.1 ho rfl 0 (by decide) (hts (.fieldLink RJx4a65c 63 "java/util/ArrayList" "modCount" "I") (by decide +kernel)) (fun x9 h9 => u_same (hts (.sameField "java/util/ArrayList" "java/util/AbstractList" "modCount" "I") (by decide +kernel)) x9 h9) rfl dJx4a65c_add_9ea2d_2 ?_
      refine lv_iconst (v := 1) hx hb dJx4a65c_add_9ea2d_5 (by decide) ?_
      refine lv_iadd hx hb dJx4a65c_add_9ea2d_6 ?_
      refine k_put (A := (fun q => q = a ∨ (q = e0 ∧ 0 < n) ∨ s.heap.size ≤ q)) (C := RJx4a65c) (T := TJx4a65c) (N := 3) (ty := .int) (v := .int (mv + 1)) hx hb hts hiJx4a65c tyJx4a65c tyJx4a65c_ok nmJx4a65c hown hK.1 ho (Or.inl rfl) hS rfl 0 (by decide) (hts (.fieldLink RJx4a65c 63 "java/util/ArrayList" "modCount" "I") (by decide +kernel)) (fun x9 h9 => u_same (hts (.sameField "java/util/ArrayList" "java/util/AbstractList" "modCount" "I") (by decide +kernel)) x9 h9) rfl (by decide +kernel) rfl rfl (Nat.le_of_ble_eq_true rfl) dJx4a65c_add_9ea2d_7 (fun H5 locs hO6 hz7 hq8 hS => ?_)
      have hxo1 := hxo.kept (hq8 x hxa)
      have har1 := va_at.kept har (hq8 e0 (hae hnp).symm)
      have hel1 : ∀ i, i < n → ∀ y, g i = some y → ElO D y H5 := fun i hi y hy => by obtain ⟨z, z1, z2, z3⟩ := hel i hi; rw [hy] at z1; cases z1; exact z2.kept (hq8 y z3)
      refine lv_aload_n hx hb dJx4a65c_add_9ea2d_10 rfl (lv_at hl 0 rfl) ?_
      refine lv_aload_n hx hb dJx4a65c_add_9ea2d_11 rfl (lv_at hl 1 rfl) ?_
      refine lv_aload_n hx hb dJx4a65c_add_9ea2d_12 rfl (lv_at hl 0 rfl) ?_
      refine k_get (C := RJx4a65c) (T := TJx4a65c) (N := 3) (v := .ref e0) hx hb hts hiJx4a65c hown hK.1 hO6 rfl 1 (by decide) (hts (.fieldLink RJx4a65c 9 "java/util/ArrayList" "elementData" "[Ljava/lang/Object;") (by decide +kernel)) (fun _ h9 => h9) rfl dJx4a65c_add_9ea2d_13 ?_
      refine lv_aload_n hx hb dJx4a65c_add_9ea2d_16 rfl (lv_at hl 0 rfl) ?_
      refine k_get (C := RJx4a65c) (T := TJx4a65c) (N := 3) (v := .int (nI n)) hx hb hts hiJx4a65c hown hK.1 hO6 rfl 2 (by decide) (hts (.fieldLink RJx4a65c 48 "java/util/ArrayList" "size" "I") (by decide +kernel)) (fun _ h9 => h9) rfl dJx4a65c_add_9ea2d_17 ?_
      refine k_callv (va_runV (As := [.ref x, .ref e0, .int (nI n)]) (rest := []) ⟨hx, hb, hml, hown, hts⟩ (c_add3_R l _ a e0 n cap x (mv + 1) g hO6 har1 hxo1 hlt (by omega) (hae hnp)) (cwV 3 hts gJx4a65c_add_9ea2d_Jx4a65c_add_72be8 rfl rfl rfl (by decide +kernel) ⟨Nat.le_of_ble_eq_true rfl, Nat.le_of_ble_eq_true rfl⟩) (k_preV hK (k_recv hK.1 hO6 rfl)) rfl rfl hl.1 rfl (lv_room (Nat.le_of_ble_eq_true rfl)) dJx4a65c_add_9ea2d_20 ⟨(Nat.zero_le _), (Nat.zero_le _)⟩) hS (fun q h => h.elim Or.inl (fun h => Or.inr (Or.inl ⟨h, hnp⟩))) (fun H2 locs hp9 hz2 hk2 hS => ?_)
      refine lv_iconst (v := 1) hx hb dJx4a65c_add_9ea2d_23 (by decide) ?_
      refine W.widen (k := 1) (n := 33) (by decide) (by decide) ?_
      exact k_retz hx hb hr hlocks (by decide) ⟨rfl, e0, cap, _, ⟨⟨_, hp9.1⟩, Or.inr ⟨by omega, by omega, hcs, hp9.2.1, fun i hi => by rw [va_up, if_neg (by omega)]; exact hno i (by omega)⟩⟩, fun i hi => by rw [va_up, if_neg (by omega)], by rw [va_up, if_pos rfl], Or.inl ⟨rfl, hnp⟩⟩ hS dJx4a65c_add_9ea2d_24
    · have hcn : cap = n := by omega
      subst hcn
      refine lv_aload_n hx hb dJx4a65c_add_9ea2d_0 rfl (lv_at hl 0 rfl) ?_
      refine lv_dup hx hb dJx4a65c_add_9ea2d_1 rfl ?_
      refine k_get (C := RJx4a65c) (T := TJx4a65c) (N := 3) (v := .int mv) hx hb hts hiJx4a65c hown hK.1 ho rfl 0 (by decide) (hts (.fieldLink RJx4a65c 63 "java/util/ArrayList" "modCount" "I") (by decide +kernel)) (fun x9 h9 => u_same (hts (.sameField "java/util/ArrayList" "java/util/AbstractList" "modCount" "I") (by decide +kernel)) x9 h9) rfl dJx4a65c_add_9ea2d_2 ?_
      refine lv_iconst (v := 1) hx hb dJx4a65c_add_9ea2d_5 (by decide) ?_
      refine lv_iadd hx hb dJx4a65c_add_9ea2d_6 ?_
      refine k_put (A := (fun q => q = a ∨ (q = e0 ∧ 0 < cap) ∨ s.heap.size ≤ q)) (C := RJx4a65c) (T := TJx4a65c) (N := 3) (ty := .int) (v := .int (mv + 1)) hx hb hts hiJx4a65c tyJx4a65c tyJx4a65c_ok nmJx4a65c hown hK.1 ho (Or.inl rfl) hS rfl 0 (by decide) (hts (.fieldLink RJx4a65c 63 "java/util/ArrayList" "modCount" "I") (by decide +kernel)) (fun x9 h9 => u_same (hts (.sameField "java/util/ArrayList" "java/util/AbstractList" "modCount" "I") (by decide +kernel)) x9 h9) rfl (by decide +kernel) rfl rfl (Nat.le_of_ble_eq_true rfl) dJx4a65c_add_9ea2d_7 (fun H9 locs hO10 hz11 hq12 hS => ?_)
      have hxo1 := hxo.kept (hq12 x hxa)
      have har1 := va_at.kept har (hq12 e0 (hae hnp).symm)
      have hel1 : ∀ i, i < cap → ∀ y, g i = some y → ElO D y H9 := fun i hi y hy => by obtain ⟨z, z1, z2, z3⟩ := hel i hi; rw [hy] at z1; cases z1; exact z2.kept (hq12 y z3)
      refine lv_aload_n hx hb dJx4a65c_add_9ea2d_10 rfl (lv_at hl 0 rfl) ?_
      refine lv_aload_n hx hb dJx4a65c_add_9ea2d_11 rfl (lv_at hl 1 rfl) ?_
      refine lv_aload_n hx hb dJx4a65c_add_9ea2d_12 rfl (lv_at hl 0 rfl) ?_
      refine k_get (C := RJx4a65c) (T := TJx4a65c) (N := 3) (v := .ref e0) hx hb hts hiJx4a65c hown hK.1 hO10 rfl 1 (by decide) (hts (.fieldLink RJx4a65c 9 "java/util/ArrayList" "elementData" "[Ljava/lang/Object;") (by decide +kernel)) (fun _ h9 => h9) rfl dJx4a65c_add_9ea2d_13 ?_
      refine lv_aload_n hx hb dJx4a65c_add_9ea2d_16 rfl (lv_at hl 0 rfl) ?_
      refine k_get (C := RJx4a65c) (T := TJx4a65c) (N := 3) (v := .int (nI cap)) hx hb hts hiJx4a65c hown hK.1 hO10 rfl 2 (by decide) (hts (.fieldLink RJx4a65c 48 "java/util/ArrayList" "size" "I") (by decide +kernel)) (fun _ h9 => h9) rfl dJx4a65c_add_9ea2d_17 ?_
      refine k_callv (va_runV (As := [.ref x, .ref e0, .int (nI cap)]) (rest := []) ⟨hx, hb, hml, hown, hts⟩ (c_add3_G l _ a e0 cap x (mv + 1) g hO10 har1 hel1 hxo1 (by omega) (hae hnp) hxa (hxe hnp)) (cwV 3 hts gJx4a65c_add_9ea2d_Jx4a65c_add_72be8 rfl rfl rfl (by decide +kernel) ⟨Nat.le_of_ble_eq_true rfl, Nat.le_of_ble_eq_true rfl⟩) (k_preV hK (k_recv hK.1 hO10 rfl)) rfl rfl hl.1 rfl (lv_room (Nat.le_of_ble_eq_true rfl)) dJx4a65c_add_9ea2d_20 ⟨Nat.le_of_ble_eq_true rfl, Nat.le_of_ble_eq_true rfl⟩) hS (fun q h => h.elim Or.inl (fun h => h.elim (fun h => Or.inr (Or.inl ⟨h, hnp⟩)) (fun h => Or.inr (Or.inr (by rw [hz11] at h; exact h))))) (fun H2 locs hp9 hz2 hk2 hS => ?_)
      refine lv_iconst (v := 1) hx hb dJx4a65c_add_9ea2d_23 (by decide) ?_
      rw [hz11] at hp9
      exact k_retz hx hb hr hlocks (by decide) ⟨rfl, s.heap.size, cap + cap / 2, _, ⟨⟨_, hp9.1⟩, Or.inr ⟨by omega, by omega, by omega, hp9.2, fun i hi => by rw [va_up, if_neg (by omega)]; exact cpy_hi (by omega)⟩⟩, fun i hi => by rw [va_up, if_neg (by omega)]; exact cpy_lo hi, by rw [va_up, if_pos rfl], Or.inr (Nat.le_refl _)⟩ hS dJx4a65c_add_9ea2d_24
