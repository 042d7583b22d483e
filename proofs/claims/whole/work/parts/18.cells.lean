/-- a worker's eleven numbers, then what its kind has more -/
def WFs (x : Nat → Int32) (ex : List Value) : List Value := .int (x 0) :: .int (x 1) :: .int (x 2) :: .int (x 3) :: .int (x 4) :: .int (x 5) :: .int (x 6) :: .int (x 7) :: .int (x 8) :: .int (x 9) :: .int (x 10) :: ex
set_option maxHeartbeats 4000000 in
set_option maxRecDepth 100000 in
theorem c_X0_init (l : Launch) {D : va_G} {cI cZ cO : ClassId} {mi : Nat} (H : Heap) (a : Nat) (ho : Ob D a 1 [.null] H) : Met l yX0_init wsX0_init ({ frames := 1, cells := 1, slots := 16, locals := 30 }) (Pk D cI cZ cO mi [.ref a] H) (Qkv (fun H1 => Ob D a 1 [.ref H.size] H1 ∧ Ai D cI H.size 16 (fun _ => 0) H1 ∧ H1.size = H.size + 1) (fun q => q = a ∨ H.size ≤ q)) 1 16 (fun q => q = a ∨ H.size ≤ q) := by
  refine Met.ofW (cc := cX0_init) (maxL := 1) (ret := none) (by decide) rfl ?_
  intro p e s m args below meth c s₁ Bd hml hv
  obtain ⟨rfl, rfl, hK⟩ := hv
  have hx := Bd.exec
  have hb := Bd.bytes
  have hr := Bd.returns
  have hts := atoms_spec (ws := wsX0_init) Bd.pre
  have hown : s.vm.findClass RX0 = some m.cls := findClass_of_methodNamed Bd.named
  have hlocks := Bd.notSynchronized
  have hin : meth.name = "<init>" := (name_of_methodNamed Bd.named Bd.method).1
  have hS : va_S (fun q => q = a ∨ s.heap.size ≤ q) s.heap s.heap [] := va_S.rf
  have hl := lv_entry ([.ref a]) (n := 1) (Nat.le_of_ble_eq_true rfl)
  rw [lg_entry_eq]
  generalize (lg_sl ([.ref a]) ++ List.replicate (1 - (lg_sl ([.ref a])).length) Slot.unset).toArray = ls at hl ⊢
  have hl : lv_has ls 1 [(0, .ref a)] := hl
  have hiX0 : ∀ w ∈ wsX00, w ∈ wsX0_init := by decide +kernel
  have hla : a < s.heap.size := va_at.lt ho
  refine lv_aload_n hx hb dX0_init_0 rfl (lv_at hl 0 rfl) ?_
  refine W.objInit hx hb hown (hts (.methodLink RX0 3 objectInit) (by decide +kernel)) (hts (.instanceMethod objectInit) (by decide +kernel)) (hts (.code objectInit ⟨#[0xb1]⟩ 1 none) (by decide +kernel)) rfl (by rw [hml]; exact hl.1) rfl dX0_init_1 (Nat.le_of_ble_eq_true rfl) (Nat.le_of_ble_eq_true rfl) ?_
  refine W.eq (g2 := F0 m 4 ls []) rfl ?_
  refine lv_aload_n hx hb dX0_init_4 rfl (lv_at hl 0 rfl) ?_
  refine lv_bipush (v := 16) hx hb dX0_init_5 (by decide) ?_
  refine k_newa (A := (fun q => q = a ∨ s.heap.size ≤ q)) hx hb hK (hts (.arrayClass .int) (by decide +kernel)) hS 16 rfl (by decide) (Nat.le_of_ble_eq_true rfl) (Nat.le_of_ble_eq_true rfl) dX0_init_7 (fun H1 hO2 hz3 ho4 hS => ?_)
  have hf5 := va_at.kept ho (ho4 _ (va_at.lt ho))
  refine k_putF (A := (fun q => q = a ∨ s.heap.size ≤ q)) (C := RX0) (T := TX0) (N := 1) (ty := .array .int) (v := .ref s.heap.size) hx hb hts hiX0 tyX0 tyX0_ok nmX0 hown hK.1 hf5 (Or.inl rfl) hS rfl 0 (by decide) (hts (.fieldLink RX0 9 "HouseWorkers$Cells" "row" "[I") (by decide +kernel)) (fun _ h9 => h9) rfl hin rfl (by decide +kernel) rfl rfl (Nat.le_of_ble_eq_true rfl) dX0_init_9 (fun H6 locs hO7 hz8 hq9 hS => ?_)
  have hf10 := va_at.kept hO2 (hq9 s.heap.size (by omega))
  exact k_retv hx hb hr hlocks ⟨hO7, hf10, by omega⟩ hS dX0_init_12
set_option maxHeartbeats 4000000 in
set_option maxRecDepth 100000 in
theorem c_X0_addAll (l : Launch) {D : va_G} {cI cZ cO : ClassId} {mi : Nat} (H : Heap) (a r b r2 : Nat) (f f2 : Nat → Int32) (ho : Ob D a 1 [.ref r] H) (hrw : Ai D cI r 16 f H) (hob : Ob D b 1 [.ref r2] H) (hrw2 : Ai D cI r2 16 f2 H) (hne : r2 ≠ r) (har : a ≠ r) (hbr : b ≠ r) : Met l yX0_addAll wsX0_addAll ({ frames := 0, cells := 0, slots := 0, locals := 0 }) (Pk D cI cZ cO mi [.ref a, .ref b] H) (Qkv (fun H1 => Ai D cI r 16 (fun c => f c + f2 c) H1 ∧ H1.size = H.size) (fun q => q = r)) 0 0 (fun q => q = r) := by
  refine Met.ofW (cc := cX0_addAll) (maxL := 3) (ret := none) (by decide) rfl ?_
  intro p e s m args below meth c s₁ Bd hml hv
  obtain ⟨rfl, rfl, hK⟩ := hv
  have hx := Bd.exec
  have hb := Bd.bytes
  have hr := Bd.returns
  have hts := atoms_spec (ws := wsX0_addAll) Bd.pre
  have hown : s.vm.findClass RX0 = some m.cls := findClass_of_methodNamed Bd.named
  have hlocks := Bd.notSynchronized
  have hS : va_S (fun q => q = r) s.heap s.heap [] := va_S.rf
  have hl := lv_entry ([.ref a, .ref b]) (n := 3) (Nat.le_of_ble_eq_true rfl)
  rw [lg_entry_eq]
  generalize (lg_sl ([.ref a, .ref b]) ++ List.replicate (3 - (lg_sl ([.ref a, .ref b])).length) Slot.unset).toArray = ls at hl ⊢
  have hl : lv_has ls 3 [(0, .ref a), (1, .ref b)] := hl
  have hiX0 : ∀ w ∈ wsX00, w ∈ wsX0_addAll := by decide +kernel
  refine lv_iconst (v := 0) hx hb dX0_addAll_0 (by decide) ?_
  refine lv_istore_n (lv' := [(2, .int 0), (0, .ref a), (1, .ref b)]) hx hb dX0_addAll_1 rfl hl (by decide) rfl (fun ls hl => ?_)
  generalize ([] : List Loc) = locs at hS ⊢
  have loop : ∀ (n : Nat), ∀ (i : Nat), i ≤ 16 → 17 ≤ i + n → ∀ (H : Heap) (locs : List Loc), Ob D a 1 [.ref r] H → Ob D b 1 [.ref r2] H → Ai D cI r2 16 f2 H → Ai D cI r 16 (fun c => if c < i then f c + f2 c else f c) H → H.size = s.heap.size → va_S (fun q => q = r) s.heap H locs → ∀ ls : Array Slot, lv_has ls 3 [(2, .int (nI i)), (0, .ref a), (1, .ref b)] → W p l e (headSpec wsX0_addAll ({ frames := 0, cells := 0, slots := 0, locals := 0 })).room s m ([.ref a, .ref b] : List Value).toArray below meth c H locs 0 0 (MQ below (Qkv (fun H1 => Ai D cI r 16 (fun c => f c + f2 c) H1 ∧ H1.size = s.heap.size) (fun q => q = r)) ([.ref a, .ref b] : List Value).toArray s 0 0 (fun q => q = r)) (F0 m 2 ls []) := by
    intro n
    induction n with
    | zero => intro i h1 h2; exact absurd h2 (by omega)
    | succ n ih =>
      intro i hi hn H locs ho hob hrw2 hrw hsz hS ls hl
      refine lv_iload_n hx hb dX0_addAll_2 rfl (lv_at hl 0 rfl) ?_
      refine lv_bipush (v := 16) hx hb dX0_addAll_3 (by decide) ?_
      refine lv_icmp_ge (tgt := 29) hx hb dX0_addAll_5 (by decide) (fun c5 => ?_) (fun c5 => ?_)
      · have c5 := Int32.not_lt.mpr c5
        have c5 : ¬ nI i < nI 16 := c5
        have hij : i = 16 := Nat.le_antisymm (by omega) (Nat.le_of_not_lt (fun q => c5 (nI_lt q (by omega))))
        subst hij
        exact k_retv hx hb hr hlocks ⟨Ai.congr hrw (fun j hj => by simp [hj]), hsz⟩ hS dX0_addAll_29
      · have c5 := Int32.not_le.mp c5
        have hlt : i < 16 := (nI_ltI (by omega) (by omega)).mp c5
        refine lv_aload_n hx hb dX0_addAll_8 rfl (lv_at hl 1 rfl) ?_
        refine k_get (C := RX0) (T := TX0) (N := 1) (v := .ref r) hx hb hts hiX0 hown hK.1 ho rfl 0 (by decide) (hts (.fieldLink RX0 9 "HouseWorkers$Cells" "row" "[I") (by decide +kernel)) (fun _ h9 => h9) rfl dX0_addAll_9 ?_
        refine lv_iload_n hx hb dX0_addAll_12 rfl (lv_at hl 0 rfl) ?_
        refine lv_dup2_11 hx hb dX0_addAll_13 rfl rfl ?_
        refine k_iald (n := 16) (f := (fun c => if c < i then f c + f2 c else f c)) hx hb hK.1 0 hrw rfl i rfl (by omega) (by decide) dX0_addAll_14 ?_
        refine lv_aload_n hx hb dX0_addAll_15 rfl (lv_at hl 2 rfl) ?_
        refine k_get (C := RX0) (T := TX0) (N := 1) (v := .ref r2) hx hb hts hiX0 hown hK.1 hob rfl 0 (by decide) (hts (.fieldLink RX0 9 "HouseWorkers$Cells" "row" "[I") (by decide +kernel)) (fun _ h9 => h9) rfl dX0_addAll_16 ?_
        refine lv_iload_n hx hb dX0_addAll_19 rfl (lv_at hl 0 rfl) ?_
        refine k_iald (n := 16) (f := f2) hx hb hK.1 0 hrw2 rfl i rfl (by omega) (by decide) dX0_addAll_20 ?_
        refine lv_iadd hx hb dX0_addAll_21 ?_
        refine k_iast (A := (fun q => q = r)) (n := 16) (f := (fun c => if c < i then f c + f2 c else f c)) (x := (((fun c => if c < i then f c + f2 c else f c) i) + (f2 i))) hx hb hK.1 0 hrw rfl hS rfl i rfl (by omega) (by decide) dX0_addAll_22 (fun H1 locs hO2 hz3 hq4 hS => ?_)
        have hf5 := va_at.kept ho (hq4 a har)
        have hf6 := va_at.kept hob (hq4 b hbr)
        have hf7 := va_at.kept hrw2 (hq4 r2 hne)
        refine lv_iinc (v := nI (i + 1)) (lv' := [(2, .int (nI (i + 1))), (0, .ref a), (1, .ref b)]) hx hb dX0_addAll_23 hl (k := 0) rfl (by rw [← nI_1]; rfl) (by decide) rfl (fun ls hl => ?_)
        refine lv_goto (tgt := 2) hx hb dX0_addAll_26 (by decide) ?_
        exact ih (i + 1) (by omega) (by omega) _ locs hf5 hf6 hf7 (Ai.congr hO2 (fun j hj => by simp only [upd]; split <;> (try split) <;> (try split) <;> first | rfl | omega | (subst_vars; first | rfl | omega) | (exfalso; omega))) (by rw [hz3]; exact hsz) hS ls (lv_sub hl [0, 1, 2] rfl)
  exact loop 17 0 (Nat.zero_le _) (by omega) _ locs ho hob hrw2 (Ai.congr hrw (fun j hj => by simp)) rfl hS ls (lv_sub hl [0, 1, 2] rfl)
set_option maxHeartbeats 4000000 in
set_option maxRecDepth 100000 in
theorem c_X0_takeAll (l : Launch) {D : va_G} {cI cZ cO : ClassId} {mi : Nat} (H : Heap) (a r b r2 : Nat) (f f2 : Nat → Int32) (ho : Ob D a 1 [.ref r] H) (hrw : Ai D cI r 16 f H) (hob : Ob D b 1 [.ref r2] H) (hrw2 : Ai D cI r2 16 f2 H) (hne : r2 ≠ r) (har : a ≠ r) (hbr : b ≠ r) : Met l yX0_takeAll wsX0_takeAll ({ frames := 0, cells := 0, slots := 0, locals := 0 }) (Pk D cI cZ cO mi [.ref a, .ref b] H) (Qkv (fun H1 => Ai D cI r 16 f2 H1 ∧ H1.size = H.size) (fun q => q = r)) 0 0 (fun q => q = r) := by
  refine Met.ofW (cc := cX0_takeAll) (maxL := 3) (ret := none) (by decide) rfl ?_
  intro p e s m args below meth c s₁ Bd hml hv
  obtain ⟨rfl, rfl, hK⟩ := hv
  have hx := Bd.exec
  have hb := Bd.bytes
  have hr := Bd.returns
  have hts := atoms_spec (ws := wsX0_takeAll) Bd.pre
  have hown : s.vm.findClass RX0 = some m.cls := findClass_of_methodNamed Bd.named
  have hlocks := Bd.notSynchronized
  have hS : va_S (fun q => q = r) s.heap s.heap [] := va_S.rf
  have hl := lv_entry ([.ref a, .ref b]) (n := 3) (Nat.le_of_ble_eq_true rfl)
  rw [lg_entry_eq]
  generalize (lg_sl ([.ref a, .ref b]) ++ List.replicate (3 - (lg_sl ([.ref a, .ref b])).length) Slot.unset).toArray = ls at hl ⊢
  have hl : lv_has ls 3 [(0, .ref a), (1, .ref b)] := hl
  have hiX0 : ∀ w ∈ wsX00, w ∈ wsX0_takeAll := by decide +kernel
  refine lv_iconst (v := 0) hx hb dX0_takeAll_0 (by decide) ?_
  refine lv_istore_n (lv' := [(2, .int 0), (0, .ref a), (1, .ref b)]) hx hb dX0_takeAll_1 rfl hl (by decide) rfl (fun ls hl => ?_)
  generalize ([] : List Loc) = locs at hS ⊢
  have loop : ∀ (n : Nat), ∀ (i : Nat), i ≤ 16 → 17 ≤ i + n → ∀ (H : Heap) (locs : List Loc), Ob D a 1 [.ref r] H → Ob D b 1 [.ref r2] H → Ai D cI r2 16 f2 H → Ai D cI r 16 (fun c => if c < i then f2 c else f c) H → H.size = s.heap.size → va_S (fun q => q = r) s.heap H locs → ∀ ls : Array Slot, lv_has ls 3 [(2, .int (nI i)), (0, .ref a), (1, .ref b)] → W p l e (headSpec wsX0_takeAll ({ frames := 0, cells := 0, slots := 0, locals := 0 })).room s m ([.ref a, .ref b] : List Value).toArray below meth c H locs 0 0 (MQ below (Qkv (fun H1 => Ai D cI r 16 f2 H1 ∧ H1.size = s.heap.size) (fun q => q = r)) ([.ref a, .ref b] : List Value).toArray s 0 0 (fun q => q = r)) (F0 m 2 ls []) := by
    intro n
    induction n with
    | zero => intro i h1 h2; exact absurd h2 (by omega)
    | succ n ih =>
      intro i hi hn H locs ho hob hrw2 hrw hsz hS ls hl
      refine lv_iload_n hx hb dX0_takeAll_2 rfl (lv_at hl 0 rfl) ?_
      refine lv_bipush (v := 16) hx hb dX0_takeAll_3 (by decide) ?_
      refine lv_icmp_ge (tgt := 26) hx hb dX0_takeAll_5 (by decide) (fun c5 => ?_) (fun c5 => ?_)
      · have c5 := Int32.not_lt.mpr c5
        have c5 : ¬ nI i < nI 16 := c5
        have hij : i = 16 := Nat.le_antisymm (by omega) (Nat.le_of_not_lt (fun q => c5 (nI_lt q (by omega))))
        subst hij
        exact k_retv hx hb hr hlocks ⟨Ai.congr hrw (fun j hj => by simp [hj]), hsz⟩ hS dX0_takeAll_26
      · have c5 := Int32.not_le.mp c5
        have hlt : i < 16 := (nI_ltI (by omega) (by omega)).mp c5
        refine lv_aload_n hx hb dX0_takeAll_8 rfl (lv_at hl 1 rfl) ?_
        refine k_get (C := RX0) (T := TX0) (N := 1) (v := .ref r) hx hb hts hiX0 hown hK.1 ho rfl 0 (by decide) (hts (.fieldLink RX0 9 "HouseWorkers$Cells" "row" "[I") (by decide +kernel)) (fun _ h9 => h9) rfl dX0_takeAll_9 ?_
        refine lv_iload_n hx hb dX0_takeAll_12 rfl (lv_at hl 0 rfl) ?_
        refine lv_aload_n hx hb dX0_takeAll_13 rfl (lv_at hl 2 rfl) ?_
        refine k_get (C := RX0) (T := TX0) (N := 1) (v := .ref r2) hx hb hts hiX0 hown hK.1 hob rfl 0 (by decide) (hts (.fieldLink RX0 9 "HouseWorkers$Cells" "row" "[I") (by decide +kernel)) (fun _ h9 => h9) rfl dX0_takeAll_14 ?_
        refine lv_iload_n hx hb dX0_takeAll_17 rfl (lv_at hl 0 rfl) ?_
        refine k_iald (n := 16) (f := f2) hx hb hK.1 0 hrw2 rfl i rfl (by omega) (by decide) dX0_takeAll_18 ?_
        refine k_iast (A := (fun q => q = r)) (n := 16) (f := (fun c => if c < i then f2 c else f c)) (x := (f2 i)) hx hb hK.1 0 hrw rfl hS rfl i rfl (by omega) (by decide) dX0_takeAll_19 (fun H1 locs hO2 hz3 hq4 hS => ?_)
        have hf5 := va_at.kept ho (hq4 a har)
        have hf6 := va_at.kept hob (hq4 b hbr)
        have hf7 := va_at.kept hrw2 (hq4 r2 hne)
        refine lv_iinc (v := nI (i + 1)) (lv' := [(2, .int (nI (i + 1))), (0, .ref a), (1, .ref b)]) hx hb dX0_takeAll_20 hl (k := 0) rfl (by rw [← nI_1]; rfl) (by decide) rfl (fun ls hl => ?_)
        refine lv_goto (tgt := 2) hx hb dX0_takeAll_23 (by decide) ?_
        exact ih (i + 1) (by omega) (by omega) _ locs hf5 hf6 hf7 (Ai.congr hO2 (fun j hj => by simp only [upd]; split <;> (try split) <;> (try split) <;> first | rfl | omega | (subst_vars; first | rfl | omega) | (exfalso; omega))) (by rw [hz3]; exact hsz) hS ls (lv_sub hl [0, 1, 2] rfl)
  exact loop 17 0 (Nat.zero_le _) (by omega) _ locs ho hob hrw2 (Ai.congr hrw (fun j hj => by simp)) rfl hS ls (lv_sub hl [0, 1, 2] rfl)
set_option maxHeartbeats 4000000 in
set_option maxRecDepth 100000 in
theorem c_X0_sum (l : Launch) {D : va_G} {cI cZ cO : ClassId} {mi : Nat} (H : Heap) (a r : Nat) (f : Nat → Int32) (ho : Ob D a 1 [.ref r] H) (hrw : Ai D cI r 16 f H) : Met l yX0_sum wsX0_sum ({ frames := 0, cells := 0, slots := 0, locals := 0 }) (Pk D cI cZ cO mi [.ref a] H) (Qpi H (isum f 16)) 0 0 (fun _ => False) := by
  refine Met.ofW (cc := cX0_sum) (maxL := 3) (ret := (some .int)) (by decide) rfl ?_
  intro p e s m args below meth c s₁ Bd hml hv
  obtain ⟨rfl, rfl, hK⟩ := hv
  have hx := Bd.exec
  have hb := Bd.bytes
  have hr := Bd.returns
  have hts := atoms_spec (ws := wsX0_sum) Bd.pre
  have hown : s.vm.findClass RX0 = some m.cls := findClass_of_methodNamed Bd.named
  have hlocks := Bd.notSynchronized
  have hS : va_S (fun _ => False) s.heap s.heap [] := va_S.rf
  have hl := lv_entry ([.ref a]) (n := 3) (Nat.le_of_ble_eq_true rfl)
  rw [lg_entry_eq]
  generalize (lg_sl ([.ref a]) ++ List.replicate (3 - (lg_sl ([.ref a])).length) Slot.unset).toArray = ls at hl ⊢
  have hl : lv_has ls 3 [(0, .ref a)] := hl
  have hiX0 : ∀ w ∈ wsX00, w ∈ wsX0_sum := by decide +kernel
  refine lv_iconst (v := 0) hx hb dX0_sum_0 (by decide) ?_
  refine lv_istore_n (lv' := [(1, .int 0), (0, .ref a)]) hx hb dX0_sum_1 rfl hl (by decide) rfl (fun ls hl => ?_)
  refine lv_iconst (v := 0) hx hb dX0_sum_2 (by decide) ?_
  refine lv_istore_n (lv' := [(2, .int 0), (1, .int 0), (0, .ref a)]) hx hb dX0_sum_3 rfl hl (by decide) rfl (fun ls hl => ?_)
  generalize ([] : List Loc) = locs at hS ⊢
  have loop : ∀ (n : Nat), ∀ (i : Nat), i ≤ 16 → 17 ≤ i + n → ∀ (locs : List Loc), va_S (fun _ => False) s.heap s.heap locs → ∀ ls : Array Slot, lv_has ls 3 [(2, .int (nI i)), (1, .int (isum f i)), (0, .ref a)] → W p l e (headSpec wsX0_sum ({ frames := 0, cells := 0, slots := 0, locals := 0 })).room s m ([.ref a] : List Value).toArray below meth c s.heap locs 0 0 (MQ below (Qpi s.heap (isum f 16)) ([.ref a] : List Value).toArray s 0 0 (fun _ => False)) (F0 m 4 ls []) := by
    intro n
    induction n with
    | zero => intro i h1 h2; exact absurd h2 (by omega)
    | succ n ih =>
      intro i hi hn locs hS ls hl
      refine lv_iload_n hx hb dX0_sum_4 rfl (lv_at hl 0 rfl) ?_
      refine lv_bipush (v := 16) hx hb dX0_sum_5 (by decide) ?_
      refine lv_icmp_ge (tgt := 25) hx hb dX0_sum_7 (by decide) (fun c7 => ?_) (fun c7 => ?_)
      · have c7 := Int32.not_lt.mpr c7
        have c7 : ¬ nI i < nI 16 := c7
        have hij : i = 16 := Nat.le_antisymm (by omega) (Nat.le_of_not_lt (fun q => c7 (nI_lt q (by omega))))
        subst hij
        refine lv_iload_n hx hb dX0_sum_25 rfl (lv_at hl 1 rfl) ?_
        exact k_reti hx hb hr hlocks ⟨rfl, rfl⟩ hS dX0_sum_26
      · have c7 := Int32.not_le.mp c7
        have hlt : i < 16 := (nI_ltI (by omega) (by omega)).mp c7
        refine lv_iload_n hx hb dX0_sum_10 rfl (lv_at hl 1 rfl) ?_
        refine lv_aload_n hx hb dX0_sum_11 rfl (lv_at hl 2 rfl) ?_
        refine k_get (C := RX0) (T := TX0) (N := 1) (v := .ref r) hx hb hts hiX0 hown hK.1 ho rfl 0 (by decide) (hts (.fieldLink RX0 9 "HouseWorkers$Cells" "row" "[I") (by decide +kernel)) (fun _ h9 => h9) rfl dX0_sum_12 ?_
        refine lv_iload_n hx hb dX0_sum_15 rfl (lv_at hl 0 rfl) ?_
        refine k_iald (n := 16) (f := f) hx hb hK.1 0 hrw rfl i rfl (by omega) (by decide) dX0_sum_16 ?_
        refine lv_iadd hx hb dX0_sum_17 ?_
        refine lv_istore_n (lv' := [(1, .int ((isum f i) + (f i))), (2, .int (nI i)), (0, .ref a)]) hx hb dX0_sum_18 rfl hl (by decide) rfl (fun ls hl => ?_)
        refine lv_iinc (v := nI (i + 1)) (lv' := [(2, .int (nI (i + 1))), (1, .int ((isum f i) + (f i))), (0, .ref a)]) hx hb dX0_sum_19 hl (k := 1) rfl (by rw [← nI_1]; rfl) (by decide) rfl (fun ls hl => ?_)
        refine lv_goto (tgt := 4) hx hb dX0_sum_22 (by decide) ?_
        exact ih (i + 1) (by omega) (by omega) locs hS ls (lv_sub hl [0, 1, 2] rfl)
  exact loop 17 0 (Nat.zero_le _) (by omega) locs hS ls (lv_sub hl [0, 1, 2] rfl)
def sprd (f : Nat → Int32) (i c : Nat) : Int32 := if c < i then rnd f c else f c
theorem sprd_s {f : Nat → Int32} {i j : Nat} {x : Int32} (hx : x = rnd f i) : upd (sprd f i) i x j = sprd f (i + 1) j := by
  unfold upd sprd
  by_cases h : j = i
  · subst h
    rw [if_pos rfl, if_pos (by omega), hx]
  · rw [if_neg h]
    by_cases h2 : j < i
    · rw [if_pos h2, if_pos (by omega)]
    · rw [if_neg h2, if_neg (by omega)]
set_option maxHeartbeats 4000000 in
set_option maxRecDepth 100000 in
theorem c_X0_spread (l : Launch) {D : va_G} {cI cZ cO : ClassId} {mi : Nat} (H : Heap) (a r : Nat) (f : Nat → Int32) (ho : Ob D a 1 [.ref r] H) (hrw : Ai D cI r 16 f H) (har : a ≠ r) : Met l yX0_spread wsX0_spread ({ frames := 1, cells := 0, slots := 0, locals := 30 }) (Pk D cI cZ cO mi [.ref a] H) (Qkv (fun H1 => Ai D cI r 16 (rnd f) H1 ∧ H1.size = H.size) (fun q => q = r)) 0 0 (fun q => q = r) := by
  refine Met.ofW (cc := cX0_spread) (maxL := 4) (ret := none) (by decide) rfl ?_
  intro p e s m args below meth c s₁ Bd hml hv
  obtain ⟨rfl, rfl, hK⟩ := hv
  have hx := Bd.exec
  have hb := Bd.bytes
  have hr := Bd.returns
  have hts := atoms_spec (ws := wsX0_spread) Bd.pre
  have hown : s.vm.findClass RX0 = some m.cls := findClass_of_methodNamed Bd.named
  have hlocks := Bd.notSynchronized
  have hS : va_S (fun q => q = r) s.heap s.heap [] := va_S.rf
  have hl := lv_entry ([.ref a]) (n := 4) (Nat.le_of_ble_eq_true rfl)
  rw [lg_entry_eq]
  generalize (lg_sl ([.ref a]) ++ List.replicate (4 - (lg_sl ([.ref a])).length) Slot.unset).toArray = ls at hl ⊢
  have hl : lv_has ls 4 [(0, .ref a)] := hl
  have hiX0 : ∀ w ∈ wsX00, w ∈ wsX0_spread := by decide +kernel
  refine lv_aload_n hx hb dX0_spread_0 rfl (lv_at hl 0 rfl) ?_
  refine k_get (C := RX0) (T := TX0) (N := 1) (v := .ref r) hx hb hts hiX0 hown hK.1 ho rfl 0 (by decide) (hts (.fieldLink RX0 9 "HouseWorkers$Cells" "row" "[I") (by decide +kernel)) (fun _ h9 => h9) rfl dX0_spread_1 ?_
  refine lv_bipush (v := 15) hx hb dX0_spread_4 (by decide) ?_
  refine k_iald (n := 16) (f := f) hx hb hK.1 0 hrw rfl 15 rfl (by omega) (by decide) dX0_spread_6 ?_
  refine lv_istore_n (lv' := [(1, .int (f 15)), (0, .ref a)]) hx hb dX0_spread_7 rfl hl (by decide) rfl (fun ls hl => ?_)
  refine lv_iconst (v := 0) hx hb dX0_spread_8 (by decide) ?_
  refine lv_istore_n (lv' := [(2, .int 0), (1, .int (f 15)), (0, .ref a)]) hx hb dX0_spread_9 rfl hl (by decide) rfl (fun ls hl => ?_)
  generalize ([] : List Loc) = locs at hS ⊢
  have loop : ∀ (n : Nat), ∀ (i : Nat), i ≤ 16 → 17 ≤ i + n → ∀ (H : Heap) (locs : List Loc), Ob D a 1 [.ref r] H → Ai D cI r 16 (sprd f i) H → H.size = s.heap.size → va_S (fun q => q = r) s.heap H locs → ∀ ls : Array Slot, lv_has ls 4 [(2, .int (nI i)), (1, .int (f ((i + 15) % 16))), (0, .ref a)] → W p l e (headSpec wsX0_spread ({ frames := 1, cells := 0, slots := 0, locals := 30 })).room s m ([.ref a] : List Value).toArray below meth c H locs 0 0 (MQ below (Qkv (fun H1 => Ai D cI r 16 (rnd f) H1 ∧ H1.size = s.heap.size) (fun q => q = r)) ([.ref a] : List Value).toArray s 0 0 (fun q => q = r)) (F0 m 10 ls []) := by
    intro n
    induction n with
    | zero => intro i h1 h2; exact absurd h2 (by omega)
    | succ n ih =>
      intro i hi hn H locs ho hrw hsz hS ls hl
      refine lv_iload_n hx hb dX0_spread_10 rfl (lv_at hl 0 rfl) ?_
      refine lv_bipush (v := 16) hx hb dX0_spread_11 (by decide) ?_
      refine lv_icmp_ge (tgt := 42) hx hb dX0_spread_13 (by decide) (fun c13 => ?_) (fun c13 => ?_)
      · have c13 := Int32.not_lt.mpr c13
        have c13 : ¬ nI i < nI 16 := c13
        have hij : i = 16 := Nat.le_antisymm (by omega) (Nat.le_of_not_lt (fun q => c13 (nI_lt q (by omega))))
        subst hij
        exact k_retv hx hb hr hlocks ⟨Ai.congr hrw (fun j hj => by unfold sprd; rw [if_pos hj]), hsz⟩ hS dX0_spread_42
      · have c13 := Int32.not_le.mp c13
        have hlt : i < 16 := (nI_ltI (by omega) (by omega)).mp c13
        refine lv_aload_n hx hb dX0_spread_16 rfl (lv_at hl 2 rfl) ?_
        refine k_get (C := RX0) (T := TX0) (N := 1) (v := .ref r) hx hb hts hiX0 hown hK.1 ho rfl 0 (by decide) (hts (.fieldLink RX0 9 "HouseWorkers$Cells" "row" "[I") (by decide +kernel)) (fun _ h9 => h9) rfl dX0_spread_17 ?_
        refine lv_iload_n hx hb dX0_spread_20 rfl (lv_at hl 0 rfl) ?_
        refine k_iald (n := 16) (f := (sprd f i)) hx hb hK.1 0 hrw rfl i rfl (by omega) (by decide) dX0_spread_21 ?_
        refine lv_istore_n (lv' := [(3, .int ((sprd f i) i)), (2, .int (nI i)), (1, .int (f ((i + 15) % 16))), (0, .ref a)]) hx hb dX0_spread_22 rfl hl (by decide) rfl (fun ls hl => ?_)
        refine lv_aload_n hx hb dX0_spread_23 rfl (lv_at hl 3 rfl) ?_
        refine k_get (C := RX0) (T := TX0) (N := 1) (v := .ref r) hx hb hts hiX0 hown hK.1 ho rfl 0 (by decide) (hts (.fieldLink RX0 9 "HouseWorkers$Cells" "row" "[I") (by decide +kernel)) (fun _ h9 => h9) rfl dX0_spread_24 ?_
        refine lv_iload_n hx hb dX0_spread_27 rfl (lv_at hl 1 rfl) ?_
        refine lv_iload_n hx hb dX0_spread_28 rfl (lv_at hl 0 rfl) ?_
        refine lv_iload_n hx hb dX0_spread_29 rfl (lv_at hl 2 rfl) ?_
        refine va_mmax hx hb (by rw [hml]; exact hl.1.symm) hown (hts (.methodLink RX0 15 Lib.Math.max.name) (by decide +kernel)) (hts (.static Lib.Math.max.name) (by decide +kernel)) (hts (.initialized "java/lang/Math") (by decide +kernel)) (hts (.code Lib.Math.max.name Lib.Math.max.code 2 (some .int)) (by decide +kernel)) (Nat.le_of_ble_eq_true rfl) (Nat.le_of_ble_eq_true rfl) (Nat.le_of_ble_eq_true rfl) (Nat.le_of_ble_eq_true rfl) dX0_spread_30 ?_
        have e9 : (if sprd f i i < f ((i + 15) % 16) then f ((i + 15) % 16) else sprd f i i) = rnd f i := by unfold rnd mx; rw [show sprd f i i = f i by unfold sprd; rw [if_neg (by omega)]]
        rw [e9]
        refine k_iast (A := (fun q => q = r)) (n := 16) (f := (sprd f i)) (x := (rnd f i)) hx hb hK.1 0 hrw rfl hS rfl i rfl (by omega) (by decide) dX0_spread_33 (fun H1 locs hO2 hz3 hq4 hS => ?_)
        have hf5 := va_at.kept ho (hq4 a har)
        refine lv_iload_n hx hb dX0_spread_34 rfl (lv_at hl 0 rfl) ?_
        refine lv_istore_n (lv' := [(1, .int ((sprd f i) i)), (3, .int ((sprd f i) i)), (2, .int (nI i)), (0, .ref a)]) hx hb dX0_spread_35 rfl hl (by decide) rfl (fun ls hl => ?_)
        refine lv_iinc (v := nI (i + 1)) (lv' := [(2, .int (nI (i + 1))), (1, .int ((sprd f i) i)), (3, .int ((sprd f i) i)), (0, .ref a)]) hx hb dX0_spread_36 hl (k := 2) rfl (by rw [← nI_1]; rfl) (by decide) rfl (fun ls hl => ?_)
        refine lv_goto (tgt := 10) hx hb dX0_spread_39 (by decide) ?_
        have e8 : sprd f i i = f ((i + 1 + 15) % 16) := by unfold sprd; rw [if_neg (by omega), show (i + 1 + 15) % 16 = i by omega]
        rw [e8] at hl
        exact ih (i + 1) (by omega) (by omega) _ locs hf5 (Ai.congr hO2 (fun j hj => sprd_s rfl)) (by rw [hz3]; exact hsz) hS ls (lv_sub hl [0, 1, 3] rfl)
  exact loop 17 0 (Nat.zero_le _) (by omega) _ locs ho (Ai.congr hrw (fun j hj => by unfold sprd; rw [if_neg (by omega)])) rfl hS ls (lv_sub hl [0, 1, 2] rfl)
