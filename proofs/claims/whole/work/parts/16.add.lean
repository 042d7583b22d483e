theorem cpy_lo {g : Nat → Option Nat} {n i : Nat} (h : i < n) : va_cpy g (fun _ => none) 0 0 n i = g i := by
  rw [pk_cpy_in (Nat.zero_le _) (by omega)]
  simp
theorem cpy_hi {g : Nat → Option Nat} {n i : Nat} (h : n ≤ i) : va_cpy g (fun _ => none) 0 0 n i = none := pk_cpy_out (Or.inr (by omega))
set_option maxHeartbeats 4000000 in
set_option maxRecDepth 100000 in
theorem c_copyOf3 (l : Launch) {D : va_G} {cI cZ cO : ClassId} {mi : Nat} (H : Heap) (e0 cap c2 : Nat) (g : Nat → Option Nat) (har : Ar D cO e0 cap g H) (hel : ∀ i, i < cap → ∀ y, g i = some y → ElO D y H) (h1 : cap ≤ c2) (h2 : c2 ≤ 33) : Met l yJ7_copyOf_6403c wsJ7_copyOf_6403c ({ frames := 1, cells := 1, slots := 33, locals := 60 }) (Pk D cI cZ cO mi [.ref e0, .int (nI c2), .ref mi] H) (Qkq (fun r H1 => r = some H.size ∧ Ar D cO H.size c2 (va_cpy g (fun _ => none) 0 0 cap) H1 ∧ Ar D cO e0 cap g H1) (fun q => q = e0 ∨ H.size ≤ q)) 1 33 (fun q => q = e0 ∨ H.size ≤ q) := by
  refine Met.ofW (cc := cJ7_copyOf_6403c) (maxL := 4) (ret := (some (.array (.object "java/lang/Object")))) (by decide) rfl ?_
  intro p e s m args below meth c s₁ B hml hv
  obtain ⟨rfl, rfl, hK⟩ := hv
  have hx := B.exec
  have hb := B.bytes
  have hr := B.returns
  have hts := atoms_spec (ws := wsJ7_copyOf_6403c) B.pre
  have hown : s.vm.findClass RJ7 = some m.cls := findClass_of_methodNamed B.named
  have hlocks := B.notSynchronized
  have hS : va_S (fun q => q = e0 ∨ s.heap.size ≤ q) s.heap s.heap [] := va_S.rf
  have hl := lv_entry ([.ref e0, .int (nI c2), .ref mi]) (n := 4) (Nat.le_of_ble_eq_true rfl)
  rw [lg_entry_eq]
  generalize (lg_sl ([.ref e0, .int (nI c2), .ref mi]) ++ List.replicate (4 - (lg_sl ([.ref e0, .int (nI c2), .ref mi])).length) Slot.unset).toArray = ls at hl ⊢
  have hl : lv_has ls 4 [(0, .ref e0), (1, .int (nI c2)), (2, .ref mi)] := hl
  have hlt0 : e0 < s.heap.size := va_at.lt har
  refine lv_aload_n hx hb dJ7_copyOf_6403c_0 rfl (lv_at hl 2 rfl) ?_
  refine va_ldcM hx hb hown (hts (.classLink RJ7 110 "[Ljava/lang/Object;") (by decide +kernel)) hK.2.2.2.2.2 dJ7_copyOf_6403c_1 ?_
  refine lv_acmp_ne (rx := some mi) (ry := some mi) (tgt := 13) hx hb dJ7_copyOf_6403c_3 (by decide) (fun q => absurd rfl q) (fun _ => ?_)
  refine lv_iload_n hx hb dJ7_copyOf_6403c_6 rfl (lv_at hl 1 rfl) ?_
  refine k_newq (A := (fun q => q = e0 ∨ s.heap.size ≤ q)) hx hb hown (hts (.classLink RJ7 2 "java/lang/Object") (by decide +kernel)) hK hS c2 rfl (by omega) (Nat.le_of_ble_eq_true rfl) (show 0 + c2 ≤ 33 by omega) dJ7_copyOf_6403c_7 (fun H1 hO1 hz1 ho1 hS => ?_)
  have har1 := va_at.kept har (ho1 _ hlt0)
  refine lv_goto (tgt := 24) hx hb dJ7_copyOf_6403c_10 (by decide) ?_
  refine lv_astore_n (lv' := [(3, .ref s.heap.size), (0, .ref e0), (1, .int (nI c2)), (2, .ref mi)]) hx hb dJ7_copyOf_6403c_24 rfl hl (by decide) rfl (fun ls hl => ?_)
  refine lv_aload_n hx hb dJ7_copyOf_6403c_25 rfl (lv_at hl 1 rfl) ?_
  refine lv_iconst (v := 0) hx hb dJ7_copyOf_6403c_26 (by decide) ?_
  refine lv_aload_n hx hb dJ7_copyOf_6403c_27 rfl (lv_at hl 0 rfl) ?_
  refine lv_iconst (v := 0) hx hb dJ7_copyOf_6403c_28 (by decide) ?_
  refine lv_aload_n hx hb dJ7_copyOf_6403c_29 rfl (lv_at hl 1 rfl) ?_
  refine k_alen hx hb hK.1 2 har1 rfl (v := nI cap) rfl dJ7_copyOf_6403c_30 ?_
  refine lv_iload_n hx hb dJ7_copyOf_6403c_31 rfl (lv_at hl 2 rfl) ?_
  refine va_mmin hx hb (by rw [hml]; exact hl.1.symm) hown (hts (.methodLink RJ7 304 Lib.Math.min.name) (by decide +kernel)) (hts (.static Lib.Math.min.name) (by decide +kernel)) (hts (.initialized "java/lang/Math") (by decide +kernel)) (hts (.code Lib.Math.min.name Lib.Math.min.code 2 (some .int)) (by decide +kernel)) (Nat.le_of_ble_eq_true rfl) (Nat.le_of_ble_eq_true rfl) (Nat.le_of_ble_eq_true rfl) (show 0 + c2 ≤ 33 by omega) dJ7_copyOf_6403c_32 ?_
  rw [show (if nI c2 < nI cap then nI c2 else nI cap) = nI cap from if_neg (nI_nlt h1 (by omega))]
  have hPx : va_P D vwCl [(e0, .inl (cO, cap, .inr (.inr (.inr (.inr g))))), (s.heap.size, .inl (cO, c2, .inr (.inr (.inr (.inr (fun _ => none))))))] H1 := (hP1 har1).app (hP1 hO1)
  have hDx : va_D (fun q => q = e0 ∨ s.heap.size ≤ q) [(e0, .inl (cO, cap, .inr (.inr (.inr (.inr g))))), (s.heap.size, .inl (cO, c2, .inr (.inr (.inr (.inr (fun _ => none))))))] := ⟨fun i j p q hp hq he => by match i, j, hp, hq with | 0, 0, _, _ => rfl | 1, 1, _, _ => rfl | 0, 1, hp, hq => (cases hp; cases hq; exact absurd he (by show e0 ≠ s.heap.size; omega)) | 1, 0, hp, hq => (cases hp; cases hq; exact absurd he (by show s.heap.size ≠ e0; omega)) | 0, j + 2, _, hq => (cases hq) | 1, j + 2, _, hq => (cases hq) | i + 2, _, hp, _ => (cases hp), fun k q hq => by match k, hq with | 0, hq => (cases hq; exact Or.inl rfl) | 1, hq => (cases hq; exact Or.inr (Nat.le_refl _)) | k + 2, hq => (cases hq)⟩
  refine va_copyM (n := nI cap) hx hb (by rw [hml]; exact hl.1.symm) hown (hts (.methodLink RJ7 150 arraycopyName) (by decide +kernel)) (hts (.native arraycopyName) (by decide +kernel)) (hts (.static arraycopyName) (by decide +kernel)) (hts (.initialized "java/lang/System") (by decide +kernel)) hK.1 hPx hDx hS 0 1 2 2 rfl rfl rfl rfl (by decide) (by decide) (nI_pos (by omega)) (by rw [sb_cl0, nI_clamp (by omega)]; omega) (by rw [sb_cl0, nI_clamp (by omega)]; omega) (fun i hi y hy => ElO.any hK (ElO.kept (hel i (by rw [nI_clamp (by omega)] at hi; exact hi) y (by rw [sb_cl0, Nat.zero_add] at hy; exact hy)) (ho1 _ (ElO.lt (hel i (by rw [nI_clamp (by omega)] at hi; exact hi) y (by rw [sb_cl0, Nat.zero_add] at hy; exact hy)))))) (Nat.le_of_ble_eq_true rfl) (Nat.le_of_ble_eq_true rfl) dJ7_copyOf_6403c_35 (fun H2 locs hP2 _ hS => ?_)
  rw [sb_cl0, nI_clamp (by omega)] at hP2
  refine lv_aload_n hx hb dJ7_copyOf_6403c_38 rfl (lv_at hl 0 rfl) ?_
  refine W.widen (k := 1) (n := 33) (show 0 + 1 ≤ 1 by omega) (show 0 + c2 ≤ 33 by omega) ?_
  exact k_retq hx hb hr (Or.inr ⟨_, rfl⟩) hlocks (some s.heap.size) ⟨rfl, hP2 1 _ rfl, hP2 0 _ rfl⟩ hS dJ7_copyOf_6403c_39
set_option maxHeartbeats 4000000 in
set_option maxRecDepth 100000 in
theorem c_copyOf2 (l : Launch) {D : va_G} {cI cZ cO : ClassId} {mi : Nat} (H : Heap) (e0 cap c2 : Nat) (g : Nat → Option Nat) (har : Ar D cO e0 cap g H) (hel : ∀ i, i < cap → ∀ y, g i = some y → ElO D y H) (h1 : cap ≤ c2) (h2 : c2 ≤ 33) : Met l yJ7_copyOf_1904c wsJ7_copyOf_1904c ({ frames := 2, cells := 1, slots := 33, locals := 83 }) (Pk D cI cZ cO mi [.ref e0, .int (nI c2)] H) (Qkq (fun r H1 => r = some H.size ∧ Ar D cO H.size c2 (va_cpy g (fun _ => none) 0 0 cap) H1 ∧ Ar D cO e0 cap g H1) (fun q => q = e0 ∨ H.size ≤ q)) 1 33 (fun q => q = e0 ∨ H.size ≤ q) := by
  refine Met.ofW (cc := cJ7_copyOf_1904c) (maxL := 2) (ret := (some (.array (.object "java/lang/Object")))) (by decide) rfl ?_
  intro p e s m args below meth c s₁ B hml hv
  obtain ⟨rfl, rfl, hK⟩ := hv
  have hx := B.exec
  have hb := B.bytes
  have hr := B.returns
  have hts := atoms_spec (ws := wsJ7_copyOf_1904c) B.pre
  have hown : s.vm.findClass RJ7 = some m.cls := findClass_of_methodNamed B.named
  have hlocks := B.notSynchronized
  have hS : va_S (fun q => q = e0 ∨ s.heap.size ≤ q) s.heap s.heap [] := va_S.rf
  have hl := lv_entry ([.ref e0, .int (nI c2)]) (n := 2) (Nat.le_of_ble_eq_true rfl)
  rw [lg_entry_eq]
  generalize (lg_sl ([.ref e0, .int (nI c2)]) ++ List.replicate (2 - (lg_sl ([.ref e0, .int (nI c2)])).length) Slot.unset).toArray = ls at hl ⊢
  have hl : lv_has ls 2 [(0, .ref e0), (1, .int (nI c2))] := hl
  refine lv_aload_n hx hb dJ7_copyOf_1904c_0 rfl (lv_at hl 0 rfl) ?_
  refine lv_iload_n hx hb dJ7_copyOf_1904c_1 rfl (lv_at hl 1 rfl) ?_
  refine lv_aload_n hx hb dJ7_copyOf_1904c_2 rfl (lv_at hl 0 rfl) ?_
  refine va_getC (C := "[Ljava/lang/Object;") hx hb (by rw [hml]; exact hl.1.symm) hown (hts (.methodLink RJ7 86 ⟨"java/lang/Object", "getClass", "()Ljava/lang/Class;"⟩) (by decide +kernel)) (va_Nw.use rfl (hK.2.2.1 ⟨"java/lang/Object", "getClass", "()Ljava/lang/Class;"⟩ (by decide +kernel))) (hts (.selects "[Ljava/lang/Object;" ⟨"java/lang/Object", "getClass", "()Ljava/lang/Class;"⟩ ⟨"java/lang/Object", "getClass", "()Ljava/lang/Class;"⟩) (by decide +kernel)) (hts (.instanceMethod ⟨"java/lang/Object", "getClass", "()Ljava/lang/Class;"⟩) (by decide +kernel)) (hts (.native ⟨"java/lang/Object", "getClass", "()Ljava/lang/Class;"⟩) (by decide +kernel)) hK.2.2.2.2.2 ⟨_, har, rfl, va_nmO (hK.1.2 2 _ rfl).2 rfl⟩ (Nat.le_of_ble_eq_true rfl) (Nat.le_of_ble_eq_true rfl) dJ7_copyOf_1904c_3 ?_
  refine k_callq (va_runS (As := [.ref e0, .int (nI c2), .ref mi]) (rest := []) ⟨hx, hb, hml, hown, hts⟩ (c_copyOf3 l _ e0 cap c2 g har hel h1 h2) (va_cwS 3 hts gJ7_copyOf_1904c_J7_copyOf_6403c rfl rfl rfl (by decide +kernel) ⟨Nat.le_of_ble_eq_true rfl, Nat.le_of_ble_eq_true rfl⟩) (k_preS hK) rfl rfl hl.1 rfl (lv_room (Nat.le_of_ble_eq_true rfl)) dJ7_copyOf_1904c_6 ⟨Nat.le_of_ble_eq_true rfl, Nat.le_of_ble_eq_true rfl⟩) hS (fun _ h => h) (fun r9 H2 locs hp9 _ _ hS => ?_)
  exact k_retq hx hb hr (Or.inr ⟨_, rfl⟩) hlocks _ hp9 hS dJ7_copyOf_1904c_9
set_option maxHeartbeats 4000000 in
set_option maxRecDepth 100000 in
theorem c_growI_O (l : Launch) {D : va_G} {cI cZ cO : ClassId} {mi : Nat} (H : Heap) (a e0 n : Nat) (mv : Int32) (g : Nat → Option Nat) (ho : Ob D a 0 [.int mv, .ref e0, .int (nI n)] H) (har : Ar D cO e0 n g H) (hel : ∀ i, i < n → ∀ y, g i = some y → ElO D y H) (hc : n = 10 ∨ n = 15 ∨ n = 22) (hae : a ≠ e0) : Met l yJx4a65c_grow_92f84 wsJx4a65c_grow_92f84 ({ frames := 3, cells := 1, slots := 33, locals := 104 }) (Pk D cI cZ cO mi [.ref a, .int (nI (n + 1))] H) (Qkq (fun r H1 => r = some H.size ∧ Ob D a 0 [.int mv, .ref H.size, .int (nI n)] H1 ∧ Ar D cO H.size (n + n / 2) (va_cpy g (fun _ => none) 0 0 n) H1 ∧ Ar D cO e0 n g H1) (fun q => q = a ∨ q = e0 ∨ H.size ≤ q)) 1 33 (fun q => q = a ∨ q = e0 ∨ H.size ≤ q) := by
  refine Met.ofW (cc := cJx4a65c_grow_92f84) (maxL := 4) (ret := (some (.array (.object "java/lang/Object")))) (by decide) rfl ?_
  intro p e s m args below meth c s₁ B hml hv
  obtain ⟨rfl, rfl, hK⟩ := hv
  have hx := B.exec
  have hb := B.bytes
  have hr := B.returns
  have hts := atoms_spec (ws := wsJx4a65c_grow_92f84) B.pre
  have hown : s.vm.findClass RJx4a65c = some m.cls := findClass_of_methodNamed B.named
  have hlocks := B.notSynchronized
  have hS : va_S (fun q => q = a ∨ q = e0 ∨ s.heap.size ≤ q) s.heap s.heap [] := va_S.rf
  have hl := lv_entry ([.ref a, .int (nI (n + 1))]) (n := 4) (Nat.le_of_ble_eq_true rfl)
  rw [lg_entry_eq]
  generalize (lg_sl ([.ref a, .int (nI (n + 1))]) ++ List.replicate (4 - (lg_sl ([.ref a, .int (nI (n + 1))])).length) Slot.unset).toArray = ls at hl ⊢
  have hl : lv_has ls 4 [(0, .ref a), (1, .int (nI (n + 1)))] := hl
  have hiJx4a65c : ∀ w ∈ wsJx4a65c0, w ∈ wsJx4a65c_grow_92f84 := by decide +kernel
  have hla : a < s.heap.size := va_at.lt ho
  refine lv_aload_n hx hb dJx4a65c_grow_92f84_0 rfl (lv_at hl 0 rfl) ?_
  refine k_get (C := RJx4a65c) (T := TJx4a65c) (N := 3) (v := .ref e0) hx hb hts hiJx4a65c hown hK.1 ho rfl 1 (by decide) (hts (.fieldLink RJx4a65c 9 "java/util/ArrayList" "elementData" "[Ljava/lang/Object;") (by decide +kernel)) (fun _ h9 => h9) rfl dJx4a65c_grow_92f84_1 ?_
  refine k_alen hx hb hK.1 2 har rfl (v := nI n) rfl dJx4a65c_grow_92f84_4 ?_
  refine lv_istore_n (lv' := [(2, .int (nI n)), (0, .ref a), (1, .int (nI (n + 1)))]) hx hb dJx4a65c_grow_92f84_5 rfl hl (by decide) rfl (fun ls hl => ?_)
  refine lv_iload_n hx hb dJx4a65c_grow_92f84_6 rfl (lv_at hl 0 rfl) ?_
  refine lv_if_gt (tgt := 20) hx hb dJx4a65c_grow_92f84_7 (by decide) (fun c7 => ?_) (fun c7 => ?_)
  · refine lv_iload_n hx hb dJx4a65c_grow_92f84_20 rfl (lv_at hl 0 rfl) ?_
    refine lv_iload_n hx hb dJx4a65c_grow_92f84_21 rfl (lv_at hl 2 rfl) ?_
    refine lv_iload_n hx hb dJx4a65c_grow_92f84_22 rfl (lv_at hl 0 rfl) ?_
    refine lv_isub hx hb dJx4a65c_grow_92f84_23 ?_
    refine lv_iload_n hx hb dJx4a65c_grow_92f84_24 rfl (lv_at hl 0 rfl) ?_
    refine lv_iconst (v := 1) hx hb dJx4a65c_grow_92f84_25 (by decide) ?_
    refine lv_ishr hx hb dJx4a65c_grow_92f84_26 ?_
    rw [show nI (n + 1) - nI n = nI 1 by rw [pk_sub (by omega), show n + 1 - n = 1 by omega], show nI n >>> ((1 : Int32) &&& 31) = nI (n / 2) from pk_shrN (by omega) _ 1 (by decide)]
    refine k_callpi (v := nI (n + (if 1 < n / 2 then n / 2 else 1))) (va_runS (As := [.int (nI n), .int (nI 1), .int (nI (n / 2))]) (rest := []) ⟨hx, hb, hml, hown, hts⟩ (c_newLength l _ n 1 (n / 2) (by omega) (by omega) (by omega) (by split <;> omega)) (va_cwS 3 hts gJx4a65c_grow_92f84_J8_newLength_cabcc rfl rfl rfl (by decide +kernel) ⟨Nat.le_of_ble_eq_true rfl, Nat.le_of_ble_eq_true rfl⟩) (k_preS hK) rfl rfl hl.1 rfl (lv_room (Nat.le_of_ble_eq_true rfl)) dJx4a65c_grow_92f84_27 ⟨(Nat.zero_le _), (Nat.zero_le _)⟩) hS (fun locs hS => ?_)
    rw [show n + (if 1 < n / 2 then n / 2 else 1) = n + n / 2 by rw [if_pos (by omega)]]
    refine lv_istore_n (lv' := [(3, .int (nI (n + n / 2))), (2, .int (nI n)), (0, .ref a), (1, .int (nI (n + 1)))]) hx hb dJx4a65c_grow_92f84_30 rfl hl (by decide) rfl (fun ls hl => ?_)
    refine lv_aload_n hx hb dJx4a65c_grow_92f84_31 rfl (lv_at hl 2 rfl) ?_
    refine lv_aload_n hx hb dJx4a65c_grow_92f84_32 rfl (lv_at hl 2 rfl) ?_
    refine k_get (C := RJx4a65c) (T := TJx4a65c) (N := 3) (v := .ref e0) hx hb hts hiJx4a65c hown hK.1 ho rfl 1 (by decide) (hts (.fieldLink RJx4a65c 9 "java/util/ArrayList" "elementData" "[Ljava/lang/Object;") (by decide +kernel)) (fun _ h9 => h9) rfl dJx4a65c_grow_92f84_33 ?_
    refine lv_iload_n hx hb dJx4a65c_grow_92f84_36 rfl (lv_at hl 0 rfl) ?_
    refine k_callq (va_runS (As := [.ref e0, .int (nI (n + n / 2))]) (rest := [.ref a]) ⟨hx, hb, hml, hown, hts⟩ (c_copyOf2 l _ e0 n (n + n / 2) g har hel (by omega) (by omega)) (va_cwS 2 hts gJx4a65c_grow_92f84_J7_copyOf_1904c rfl rfl rfl (by decide +kernel) ⟨Nat.le_of_ble_eq_true rfl, Nat.le_of_ble_eq_true rfl⟩) (k_preS hK) rfl rfl hl.1 rfl (lv_room (Nat.le_of_ble_eq_true rfl)) dJx4a65c_grow_92f84_37 ⟨Nat.le_of_ble_eq_true rfl, Nat.le_of_ble_eq_true rfl⟩) hS (fun _ h => h.elim (fun h => Or.inr (Or.inl h)) (fun h => Or.inr (Or.inr h))) (fun r9 H2 locs hp9 hz2 hk2 hS => ?_)
    obtain ⟨rfl, hn2, he2⟩ := hp9
    have ho2 := va_at.kept ho (hk2 a hla (fun h => h.elim hae (fun h => by omega)))
    refine lv_dup_x1 hx hb dJx4a65c_grow_92f84_40 rfl rfl ?_
    refine k_put (A := (fun q => q = a ∨ q = e0 ∨ s.heap.size ≤ q)) (C := RJx4a65c) (T := TJx4a65c) (N := 3) (ty := .array (.object "java/lang/Object")) (v := .ref s.heap.size) hx hb hts hiJx4a65c tyJx4a65c tyJx4a65c_ok nmJx4a65c hown hK.1 ho2 (Or.inl rfl) hS rfl 1 (by decide) (hts (.fieldLink RJx4a65c 9 "java/util/ArrayList" "elementData" "[Ljava/lang/Object;") (by decide +kernel)) (fun _ h9 => h9) rfl (by decide +kernel) rfl rfl (Nat.le_of_ble_eq_true rfl) dJx4a65c_grow_92f84_41 (fun H1 locs hO2 hz3 hq4 hS => ?_)
    have hn3 := va_at.kept hn2 (hq4 _ (by show s.heap.size ≠ a; omega))
    have he3 := va_at.kept he2 (hq4 _ hae.symm)
    exact k_retq hx hb hr (Or.inr ⟨_, rfl⟩) hlocks (some s.heap.size) ⟨rfl, hO2, hn3, he3⟩ hS dJx4a65c_grow_92f84_44
  · exact absurd (show nI 0 < nI n from nI_lt (by omega) (by omega)) c7
set_option maxHeartbeats 4000000 in
set_option maxRecDepth 100000 in
theorem c_growI_E (l : Launch) {D : va_G} {cI cZ cO : ClassId} {mi eA : Nat} {B : Nat → Prop} (H : Heap) (a : Nat) (mv : Int32) (ho : Ob D a 0 [.int mv, .ref eA, .int 0] H) (hBa : B a) (hBn : ∀ q, H.size ≤ q → B q) : Met l yJx4a65c_grow_92f84 wsJx4a65c_grow_92f84 ({ frames := 1, cells := 1, slots := 33, locals := 60 }) (Pz D cI cZ cO mi eA B [.ref a, .int 1] H) (Qkq (fun r H1 => r = some H.size ∧ Ob D a 0 [.int mv, .ref H.size, .int 0] H1 ∧ Ar D cO H.size 10 (fun _ => none) H1) (fun q => q = a ∨ H.size ≤ q)) 1 33 (fun q => q = a ∨ H.size ≤ q) := by
  refine Met.ofW (cc := cJx4a65c_grow_92f84) (maxL := 4) (ret := (some (.array (.object "java/lang/Object")))) (by decide) rfl ?_
  intro p e s m args below meth c s₁ B hml hv
  obtain ⟨rfl, rfl, hK, hZ⟩ := hv
  have hx := B.exec
  have hb := B.bytes
  have hr := B.returns
  have hts := atoms_spec (ws := wsJx4a65c_grow_92f84) B.pre
  have hown : s.vm.findClass RJx4a65c = some m.cls := findClass_of_methodNamed B.named
  have hlocks := B.notSynchronized
  have hS : va_S (fun q => q = a ∨ s.heap.size ≤ q) s.heap s.heap [] := va_S.rf
  have hl := lv_entry ([.ref a, .int 1]) (n := 4) (Nat.le_of_ble_eq_true rfl)
  rw [lg_entry_eq]
  generalize (lg_sl ([.ref a, .int 1]) ++ List.replicate (4 - (lg_sl ([.ref a, .int 1])).length) Slot.unset).toArray = ls at hl ⊢
  have hl : lv_has ls 4 [(0, .ref a), (1, .int 1)] := hl
  have hiJx4a65c : ∀ w ∈ wsJx4a65c0, w ∈ wsJx4a65c_grow_92f84 := by decide +kernel
  have hla : a < s.heap.size := va_at.lt ho
  refine lv_aload_n hx hb dJx4a65c_grow_92f84_0 rfl (lv_at hl 0 rfl) ?_
  refine k_get (C := RJx4a65c) (T := TJx4a65c) (N := 3) (v := .ref eA) hx hb hts hiJx4a65c hown hK.1 ho rfl 1 (by decide) (hts (.fieldLink RJx4a65c 9 "java/util/ArrayList" "elementData" "[Ljava/lang/Object;") (by decide +kernel)) (fun _ h9 => h9) rfl dJx4a65c_grow_92f84_1 ?_
  refine k_tlen hx hb hZ (fun q h => h.elim (fun h => by rw [h]; exact hBa) (hBn q)) hS dJx4a65c_grow_92f84_4 ?_
  refine lv_istore_n (lv' := [(2, .int 0), (0, .ref a), (1, .int 1)]) hx hb dJx4a65c_grow_92f84_5 rfl hl (by decide) rfl (fun ls hl => ?_)
  refine lv_iload_n hx hb dJx4a65c_grow_92f84_6 rfl (lv_at hl 0 rfl) ?_
  refine lv_if_gt (tgt := 20) hx hb dJx4a65c_grow_92f84_7 (by decide) (fun c7 => ?_) (fun c7 => ?_)
  · exact absurd c7 (by decide)
  · refine lv_aload_n hx hb dJx4a65c_grow_92f84_10 rfl (lv_at hl 1 rfl) ?_
    refine k_get (C := RJx4a65c) (T := TJx4a65c) (N := 3) (v := .ref eA) hx hb hts hiJx4a65c hown hK.1 ho rfl 1 (by decide) (hts (.fieldLink RJx4a65c 9 "java/util/ArrayList" "elementData" "[Ljava/lang/Object;") (by decide +kernel)) (fun _ h9 => h9) rfl dJx4a65c_grow_92f84_11 ?_
    refine k_gets hx hb hZ (fun q h => h.elim (fun h => by rw [h]; exact hBa) (hBn q)) hS hown (hts (.fieldLink RJx4a65c 39 "java/util/ArrayList" "DEFAULTCAPACITY_EMPTY_ELEMENTDATA" "[Ljava/lang/Object;") (by decide +kernel)) dJx4a65c_grow_92f84_14 ?_
    refine lv_acmp_eq (rx := some eA) (ry := some eA) (tgt := 45) hx hb dJx4a65c_grow_92f84_17 (by decide) (fun _ => ?_) (fun q => absurd rfl q)
    refine lv_aload_n hx hb dJx4a65c_grow_92f84_45 rfl (lv_at hl 1 rfl) ?_
    refine lv_bipush (v := 10) hx hb dJx4a65c_grow_92f84_46 (by decide) ?_
    refine lv_iload_n hx hb dJx4a65c_grow_92f84_48 rfl (lv_at hl 2 rfl) ?_
    refine va_mmax hx hb (by rw [hml]; exact hl.1.symm) hown (hts (.methodLink RJx4a65c 79 Lib.Math.max.name) (by decide +kernel)) (hts (.static Lib.Math.max.name) (by decide +kernel)) (hts (.initialized "java/lang/Math") (by decide +kernel)) (hts (.code Lib.Math.max.name Lib.Math.max.code 2 (some .int)) (by decide +kernel)) (Nat.le_of_ble_eq_true rfl) (Nat.le_of_ble_eq_true rfl) (Nat.le_of_ble_eq_true rfl) (Nat.le_of_ble_eq_true rfl) dJx4a65c_grow_92f84_49 ?_
    rw [show (if (10 : Int32) < 1 then 1 else 10) = nI 10 from by decide]
    refine k_newq (A := (fun q => q = a ∨ s.heap.size ≤ q)) hx hb hown (hts (.classLink RJx4a65c 7 "java/lang/Object") (by decide +kernel)) hK hS 10 rfl (by omega) (Nat.le_of_ble_eq_true rfl) (Nat.le_of_ble_eq_true rfl) dJx4a65c_grow_92f84_52 (fun H1 hO1 hz1 ho1 hS => ?_)
    have ho2 := va_at.kept ho (ho1 _ hla)
    refine lv_dup_x1 hx hb dJx4a65c_grow_92f84_55 rfl rfl ?_
    refine k_put (A := (fun q => q = a ∨ s.heap.size ≤ q)) (C := RJx4a65c) (T := TJx4a65c) (N := 3) (ty := .array (.object "java/lang/Object")) (v := .ref s.heap.size) hx hb hts hiJx4a65c tyJx4a65c tyJx4a65c_ok nmJx4a65c hown hK.1 ho2 (Or.inl rfl) hS rfl 1 (by decide) (hts (.fieldLink RJx4a65c 9 "java/util/ArrayList" "elementData" "[Ljava/lang/Object;") (by decide +kernel)) (fun _ h9 => h9) rfl (by decide +kernel) rfl rfl (Nat.le_of_ble_eq_true rfl) dJx4a65c_grow_92f84_56 (fun H1 locs hO2 hz3 hq4 hS => ?_)
    have hn3 := va_at.kept hO1 (hq4 _ (by show s.heap.size ≠ a; omega))
    refine W.widen (k := 1) (n := 33) (by decide) (by decide) ?_
    exact k_retq hx hb hr (Or.inr ⟨_, rfl⟩) hlocks (some s.heap.size) ⟨rfl, hO2, hn3⟩ hS dJx4a65c_grow_92f84_59
set_option maxHeartbeats 4000000 in
set_option maxRecDepth 100000 in
theorem c_grow_O (l : Launch) {D : va_G} {cI cZ cO : ClassId} {mi : Nat} (H : Heap) (a e0 n : Nat) (mv : Int32) (g : Nat → Option Nat) (ho : Ob D a 0 [.int mv, .ref e0, .int (nI n)] H) (har : Ar D cO e0 n g H) (hel : ∀ i, i < n → ∀ y, g i = some y → ElO D y H) (hc : n = 10 ∨ n = 15 ∨ n = 22) (hae : a ≠ e0) : Met l yJx4a65c_grow_d5877 wsJx4a65c_grow_d5877 ({ frames := 4, cells := 1, slots := 33, locals := 127 }) (Pk D cI cZ cO mi [.ref a] H) (Qkq (fun r H1 => r = some H.size ∧ Ob D a 0 [.int mv, .ref H.size, .int (nI n)] H1 ∧ Ar D cO H.size (n + n / 2) (va_cpy g (fun _ => none) 0 0 n) H1 ∧ Ar D cO e0 n g H1) (fun q => q = a ∨ q = e0 ∨ H.size ≤ q)) 1 33 (fun q => q = a ∨ q = e0 ∨ H.size ≤ q) := by
  refine Met.ofW (cc := cJx4a65c_grow_d5877) (maxL := 1) (ret := (some (.array (.object "java/lang/Object")))) (by decide) rfl ?_
  intro p e s m args below meth c s₁ B hml hv
  obtain ⟨rfl, rfl, hK⟩ := hv
  have hx := B.exec
  have hb := B.bytes
  have hr := B.returns
  have hts := atoms_spec (ws := wsJx4a65c_grow_d5877) B.pre
  have hown : s.vm.findClass RJx4a65c = some m.cls := findClass_of_methodNamed B.named
  have hlocks := B.notSynchronized
  have hS : va_S (fun q => q = a ∨ q = e0 ∨ s.heap.size ≤ q) s.heap s.heap [] := va_S.rf
  have hl := lv_entry ([.ref a]) (n := 1) (Nat.le_of_ble_eq_true rfl)
  rw [lg_entry_eq]
  generalize (lg_sl ([.ref a]) ++ List.replicate (1 - (lg_sl ([.ref a])).length) Slot.unset).toArray = ls at hl ⊢
  have hl : lv_has ls 1 [(0, .ref a)] := hl
  have hiJx4a65c : ∀ w ∈ wsJx4a65c0, w ∈ wsJx4a65c_grow_d5877 := by decide +kernel
  refine lv_aload_n hx hb dJx4a65c_grow_d5877_0 rfl (lv_at hl 0 rfl) ?_
  refine lv_aload_n hx hb dJx4a65c_grow_d5877_1 rfl (lv_at hl 0 rfl) ?_
  refine k_get (C := RJx4a65c) (T := TJx4a65c) (N := 3) (v := .int (nI n)) hx hb hts hiJx4a65c hown hK.1 ho rfl 2 (by decide) (hts (.fieldLink RJx4a65c 48 "java/util/ArrayList" "size" "I") (by decide +kernel)) (fun _ h9 => h9) rfl dJx4a65c_grow_d5877_2 ?_
  refine lv_iconst (v := 1) hx hb dJx4a65c_grow_d5877_5 (by decide) ?_
  refine lv_iadd hx hb dJx4a65c_grow_d5877_6 ?_
  rw [nI_1]
  refine k_callq (va_runV (As := [.int (nI (n + 1))]) (rest := []) ⟨hx, hb, hml, hown, hts⟩ (c_growI_O l _ a e0 n mv g ho har hel hc hae) (cwV 1 hts gJx4a65c_grow_d5877_Jx4a65c_grow_92f84 rfl rfl rfl (by decide +kernel) ⟨Nat.le_of_ble_eq_true rfl, Nat.le_of_ble_eq_true rfl⟩) (k_preV hK (k_recv hK.1 ho rfl)) rfl rfl hl.1 rfl (lv_room (Nat.le_of_ble_eq_true rfl)) dJx4a65c_grow_d5877_7 ⟨Nat.le_of_ble_eq_true rfl, Nat.le_of_ble_eq_true rfl⟩) hS (fun _ h => h) (fun r9 H2 locs hp9 _ _ hS => ?_)
  exact k_retq hx hb hr (Or.inr ⟨_, rfl⟩) hlocks _ hp9 hS dJx4a65c_grow_d5877_10
set_option maxHeartbeats 4000000 in
set_option maxRecDepth 100000 in
theorem c_grow_E (l : Launch) {D : va_G} {cI cZ cO : ClassId} {mi eA : Nat} {B : Nat → Prop} (H : Heap) (a : Nat) (mv : Int32) (ho : Ob D a 0 [.int mv, .ref eA, .int 0] H) (hBa : B a) (hBn : ∀ q, H.size ≤ q → B q) : Met l yJx4a65c_grow_d5877 wsJx4a65c_grow_d5877 ({ frames := 2, cells := 1, slots := 33, locals := 83 }) (Pz D cI cZ cO mi eA B [.ref a] H) (Qkq (fun r H1 => r = some H.size ∧ Ob D a 0 [.int mv, .ref H.size, .int 0] H1 ∧ Ar D cO H.size 10 (fun _ => none) H1) (fun q => q = a ∨ H.size ≤ q)) 1 33 (fun q => q = a ∨ H.size ≤ q) := by
  refine Met.ofW (cc := cJx4a65c_grow_d5877) (maxL := 1) (ret := (some (.array (.object "java/lang/Object")))) (by decide) rfl ?_
  intro p e s m args below meth c s₁ B hml hv
  obtain ⟨rfl, rfl, hK, hZ⟩ := hv
  have hx := B.exec
  have hb := B.bytes
  have hr := B.returns
  have hts := atoms_spec (ws := wsJx4a65c_grow_d5877) B.pre
  have hown : s.vm.findClass RJx4a65c = some m.cls := findClass_of_methodNamed B.named
  have hlocks := B.notSynchronized
  have hS : va_S (fun q => q = a ∨ s.heap.size ≤ q) s.heap s.heap [] := va_S.rf
  have hl := lv_entry ([.ref a]) (n := 1) (Nat.le_of_ble_eq_true rfl)
  rw [lg_entry_eq]
  generalize (lg_sl ([.ref a]) ++ List.replicate (1 - (lg_sl ([.ref a])).length) Slot.unset).toArray = ls at hl ⊢
  have hl : lv_has ls 1 [(0, .ref a)] := hl
  have hiJx4a65c : ∀ w ∈ wsJx4a65c0, w ∈ wsJx4a65c_grow_d5877 := by decide +kernel
  have hZc := hZ
  refine lv_aload_n hx hb dJx4a65c_grow_d5877_0 rfl (lv_at hl 0 rfl) ?_
  refine lv_aload_n hx hb dJx4a65c_grow_d5877_1 rfl (lv_at hl 0 rfl) ?_
  refine k_get (C := RJx4a65c) (T := TJx4a65c) (N := 3) (v := .int 0) hx hb hts hiJx4a65c hown hK.1 ho rfl 2 (by decide) (hts (.fieldLink RJx4a65c 48 "java/util/ArrayList" "size" "I") (by decide +kernel)) (fun _ h9 => h9) rfl dJx4a65c_grow_d5877_2 ?_
  refine lv_iconst (v := 1) hx hb dJx4a65c_grow_d5877_5 (by decide) ?_
  refine lv_iadd hx hb dJx4a65c_grow_d5877_6 ?_
  rw [show (0 : Int32) + 1 = 1 from by decide]
  refine k_callq (va_runV (As := [.int 1]) (rest := []) ⟨hx, hb, hml, hown, hts⟩ (c_growI_E l _ a mv ho hBa hBn) (cwV 1 hts gJx4a65c_grow_d5877_Jx4a65c_grow_92f84 rfl rfl rfl (by decide +kernel) ⟨Nat.le_of_ble_eq_true rfl, Nat.le_of_ble_eq_true rfl⟩) (z_preV hK hZc (k_recv hK.1 ho rfl)) rfl rfl hl.1 rfl (lv_room (Nat.le_of_ble_eq_true rfl)) dJx4a65c_grow_d5877_7 ⟨Nat.le_of_ble_eq_true rfl, Nat.le_of_ble_eq_true rfl⟩) hS (fun _ h => h) (fun r9 H2 locs hp9 _ _ hS => ?_)
  exact k_retq hx hb hr (Or.inr ⟨_, rfl⟩) hlocks _ hp9 hS dJx4a65c_grow_d5877_10
