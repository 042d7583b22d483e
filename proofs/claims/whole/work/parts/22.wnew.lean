theorem AL.kept {D : va_G} {cO : ClassId} {eA a e n cap : Nat} {g : Nat → Option Nat} {H H1 : Heap} (h : AL D cO eA a e n cap g H) (h1 : H1[a]? = H[a]?) (h2 : 0 < n → H1[e]? = H[e]?) : AL D cO eA a e n cap g H1 := by
  obtain ⟨⟨mv, q⟩, hm⟩ := h
  refine ⟨⟨mv, va_at.kept q h1⟩, ?_⟩
  rcases hm with q | ⟨q1, q2, q3, q4, q5⟩
  · exact Or.inl q
  · exact Or.inr ⟨q1, q2, q3, va_at.kept q4 (h2 q1), q5⟩
theorem AL.lt {D : va_G} {cO : ClassId} {eA a e n cap : Nat} {g : Nat → Option Nat} {H : Heap} (h : AL D cO eA a e n cap g H) : a < H.size := by
  obtain ⟨⟨mv, q⟩, -⟩ := h
  exact va_at.lt q
theorem AL.lte {D : va_G} {cO : ClassId} {eA a e n cap : Nat} {g : Nat → Option Nat} {H : Heap} (h : AL D cO eA a e n cap g H) (hn : 0 < n) : e < H.size := by
  obtain ⟨-, hm⟩ := h
  rcases hm with q | ⟨q1, q2, q3, q4, q5⟩
  · omega
  · exact va_at.lt q4
set_option maxHeartbeats 4000000 in
set_option maxRecDepth 100000 in
theorem c_X1_init (l : Launch) {D : va_G} {cI cZ cO : ClassId} {mi : Nat} (H : Heap) (a : Nat) (num sp fa fi : Int32) (hs st0 hc lt e0 n : Nat) (mv : Int32) (ho : Ob D a 2 [.int 0, .int 0, .int 0, .int 0, .int 0, .int 0, .int 0, .int 0, .int 0, .int 0, .int 0, .int 0, .null] H) (hso : Ob D hs 4 [.ref st0, .ref hc, .ref lt] H) (hcm : Ob D hc 0 [.int mv, .ref e0, .int (nI n)] H) (has : hs ≠ a) (hac : hc ≠ a) : Met l yX1_init wsX1_init ({ frames := 2, cells := 0, slots := 0, locals := 54 }) (Pk D cI cZ cO mi [.ref a, .int num, .int sp, .int fa, .int fi, .ref hs] H) (Qkv (fun H1 => Ob D a 2 (WFs (w0 num 0 sp fa (nI n) (nI n)) [.int fi, .ref lt]) H1 ∧ H1.size = H.size) (fun q => q = a)) 0 0 (fun q => q = a) := by
  refine Met.ofW (cc := cX1_init) (maxL := 6) (ret := none) (by decide) rfl ?_
  intro p e s m args below meth c s₁ Bd hml hv
  obtain ⟨rfl, rfl, hK⟩ := hv
  have hx := Bd.exec
  have hb := Bd.bytes
  have hr := Bd.returns
  have hts := atoms_spec (ws := wsX1_init) Bd.pre
  have hown : s.vm.findClass RX1 = some m.cls := findClass_of_methodNamed Bd.named
  have hlocks := Bd.notSynchronized
  have hin : meth.name = "<init>" := (name_of_methodNamed Bd.named Bd.method).1
  have hS : va_S (fun q => q = a) s.heap s.heap [] := va_S.rf
  have hl := lv_entry ([.ref a, .int num, .int sp, .int fa, .int fi, .ref hs]) (n := 6) (Nat.le_of_ble_eq_true rfl)
  rw [lg_entry_eq]
  generalize (lg_sl ([.ref a, .int num, .int sp, .int fa, .int fi, .ref hs]) ++ List.replicate (6 - (lg_sl ([.ref a, .int num, .int sp, .int fa, .int fi, .ref hs])).length) Slot.unset).toArray = ls at hl ⊢
  have hl : lv_has ls 6 [(0, .ref a), (1, .int num), (2, .int sp), (3, .int fa), (4, .int fi), (5, .ref hs)] := hl
  have hiX1 : ∀ w ∈ wsX10, w ∈ wsX1_init := by decide +kernel
  refine lv_aload_n hx hb dX1_init_0 rfl (lv_at hl 0 rfl) ?_
  refine lv_iload_n hx hb dX1_init_1 rfl (lv_at hl 1 rfl) ?_
  refine lv_iconst (v := 0) hx hb dX1_init_2 (by decide) ?_
  refine lv_iload_n hx hb dX1_init_3 rfl (lv_at hl 2 rfl) ?_
  refine lv_iload_n hx hb dX1_init_4 rfl (lv_at hl 3 rfl) ?_
  refine k_callv (va_runI (As := [.int num, .int 0, .int sp, .int fa]) (rest := []) ⟨hx, hb, hml, hown, hts⟩ (c_Work_init_X1 l _ a num 0 sp fa ho) (cwI 4 hts gX1_init_X5_init rfl rfl rfl (hts (.initialized RX5) (by decide +kernel)) (hts (.methodLink RX1 3 yX5_init) (by decide +kernel)) (hts (.instanceMethod yX5_init) (by decide +kernel)) rfl (by decide +kernel) ⟨Nat.le_of_ble_eq_true rfl, Nat.le_of_ble_eq_true rfl⟩) (k_preS hK) rfl rfl hl.1 rfl (lv_room (Nat.le_of_ble_eq_true rfl)) dX1_init_5 ⟨(Nat.zero_le _), (Nat.zero_le _)⟩) hS (fun q h => h) (fun H2 locs hp hz2 hk2 hS => ?_)
  have hsz2 := hp.2
  have hp1 := hp.1
  have hso2 := va_at.kept hso (hk2 hs (va_at.lt hso) has)
  have hcm2 := va_at.kept hcm (hk2 hc (va_at.lt hcm) hac)
  refine lv_aload_n hx hb dX1_init_8 rfl (lv_at hl 0 rfl) ?_
  refine lv_iload hx hb dX1_init_9 (lv_at hl 4 rfl) ?_
  refine k_putF (A := (fun q => q = a)) (C := RX1) (T := TX1) (N := 13) (ty := .int) (v := .int fi) hx hb hts hiX1 tyX1 tyX1_ok nmX1 hown hK.1 hp1 rfl hS rfl 11 (by decide) (hts (.fieldLink RX1 9 "HouseWorkers$QuestionWork" "first" "I") (by decide +kernel)) (fun _ h9 => h9) rfl hin rfl (by decide +kernel) rfl rfl (Nat.le_of_ble_eq_true rfl) dX1_init_11 (fun H1 locs hO2 hz3 hq4 hS => ?_)
  have hso3 := va_at.kept hso2 (hq4 hs has)
  have hcm3 := va_at.kept hcm2 (hq4 hc hac)
  refine lv_aload_n hx hb dX1_init_14 rfl (lv_at hl 0 rfl) ?_
  refine lv_aload hx hb dX1_init_15 (lv_at hl 5 rfl) ?_
  refine k_callpq (v := some lt) (va_runV (As := []) (rest := [.ref a]) ⟨hx, hb, hml, hown, hts⟩ (c_X3_latest l _ hs st0 hc lt hso3) (cwV 0 hts gX1_init_X3_latest rfl rfl rfl (by decide +kernel) ⟨Nat.le_of_ble_eq_true rfl, Nat.le_of_ble_eq_true rfl⟩) (k_preV hK (k_recv hK.1 hso3 rfl)) rfl rfl hl.1 rfl (lv_room (Nat.le_of_ble_eq_true rfl)) dX1_init_17 ⟨(Nat.zero_le _), (Nat.zero_le _)⟩) hS (fun locs hS => ?_)
  refine W.eq (g2 := F0 m 20 ls [.ref lt, .ref a]) rfl ?_
  refine k_putF (A := (fun q => q = a)) (C := RX1) (T := TX1) (N := 13) (ty := .object "HouseWorkers$Cells") (v := .ref lt) hx hb hts hiX1 tyX1 tyX1_ok nmX1 hown hK.1 hO2 rfl hS rfl 12 (by decide) (hts (.fieldLink RX1 21 "HouseWorkers$QuestionWork" "read" "LHouseWorkers$Cells;") (by decide +kernel)) (fun _ h9 => h9) rfl hin rfl (by decide +kernel) rfl rfl (Nat.le_of_ble_eq_true rfl) dX1_init_20 (fun H5 locs hO6 hz7 hq8 hS => ?_)
  have hso4 := va_at.kept hso3 (hq8 hs has)
  have hcm4 := va_at.kept hcm3 (hq8 hc hac)
  refine lv_aload_n hx hb dX1_init_23 rfl (lv_at hl 0 rfl) ?_
  refine lv_aload hx hb dX1_init_24 (lv_at hl 5 rfl) ?_
  refine k_callpi (v := nI n) (va_runV (As := []) (rest := [.ref a]) ⟨hx, hb, hml, hown, hts⟩ (c_X3_latestNumber l _ hs st0 hc lt e0 n mv hso4 hcm4) (cwV 0 hts gX1_init_X3_latestNumber rfl rfl rfl (by decide +kernel) ⟨Nat.le_of_ble_eq_true rfl, Nat.le_of_ble_eq_true rfl⟩) (k_preV hK (k_recv hK.1 hso4 rfl)) rfl rfl hl.1 rfl (lv_room (Nat.le_of_ble_eq_true rfl)) dX1_init_26 ⟨(Nat.zero_le _), (Nat.zero_le _)⟩) hS (fun locs hS => ?_)
  refine k_put (A := (fun q => q = a)) (C := RX1) (T := TX1) (N := 13) (ty := .int) (v := .int (nI n)) hx hb hts hiX1 tyX1 tyX1_ok nmX1 hown hK.1 hO6 rfl hS rfl 6 (by decide) (hts (.fieldLink RX1 29 "HouseWorkers$QuestionWork" "version" "I") (by decide +kernel)) (fun x9 h9 => u_same (hts (.sameField "HouseWorkers$QuestionWork" "HouseWorkers$Work" "version" "I") (by decide +kernel)) x9 h9) rfl (by decide +kernel) rfl rfl (Nat.le_of_ble_eq_true rfl) dX1_init_29 (fun H9 locs hO10 hz11 hq12 hS => ?_)
  have hso5 := va_at.kept hso4 (hq12 hs has)
  have hcm5 := va_at.kept hcm4 (hq12 hc hac)
  refine lv_aload_n hx hb dX1_init_32 rfl (lv_at hl 0 rfl) ?_
  refine lv_aload_n hx hb dX1_init_33 rfl (lv_at hl 0 rfl) ?_
  refine k_get (C := RX1) (T := TX1) (N := 13) (v := .int (nI n)) hx hb hts hiX1 hown hK.1 hO10 rfl 6 (by decide) (hts (.fieldLink RX1 29 "HouseWorkers$QuestionWork" "version" "I") (by decide +kernel)) (fun x9 h9 => u_same (hts (.sameField "HouseWorkers$QuestionWork" "HouseWorkers$Work" "version" "I") (by decide +kernel)) x9 h9) rfl dX1_init_34 ?_
  refine k_put (A := (fun q => q = a)) (C := RX1) (T := TX1) (N := 13) (ty := .int) (v := .int (nI n)) hx hb hts hiX1 tyX1 tyX1_ok nmX1 hown hK.1 hO10 rfl hS rfl 7 (by decide) (hts (.fieldLink RX1 32 "HouseWorkers$QuestionWork" "pinned" "I") (by decide +kernel)) (fun x9 h9 => u_same (hts (.sameField "HouseWorkers$QuestionWork" "HouseWorkers$Work" "pinned" "I") (by decide +kernel)) x9 h9) rfl (by decide +kernel) rfl rfl (Nat.le_of_ble_eq_true rfl) dX1_init_37 (fun H13 locs hO14 hz15 hq16 hS => ?_)
  have hso6 := va_at.kept hso5 (hq16 hs has)
  have hcm6 := va_at.kept hcm5 (hq16 hc hac)
  exact k_retv hx hb hr hlocks ⟨hO14, by omega⟩ hS dX1_init_40
set_option maxHeartbeats 4000000 in
set_option maxRecDepth 100000 in
theorem c_X4_init (l : Launch) {D : va_G} {cI cZ cO : ClassId} {mi : Nat} (H : Heap) (a : Nat) (num : Int32) (hs st0 hc lt e0 n : Nat) (mv : Int32) (ho : Ob D a 5 [.int 0, .int 0, .int 0, .int 0, .int 0, .int 0, .int 0, .int 0, .int 0, .int 0, .int 0] H) (hso : Ob D hs 4 [.ref st0, .ref hc, .ref lt] H) (hcm : Ob D hc 0 [.int mv, .ref e0, .int (nI n)] H) (has : hs ≠ a) (hac : hc ≠ a) : Met l yX4_init wsX4_init ({ frames := 2, cells := 0, slots := 0, locals := 54 }) (Pk D cI cZ cO mi [.ref a, .int num, .ref hs] H) (Qkv (fun H1 => Ob D a 5 (WFs (w0 num 3 0 0 (nI n) (-1)) []) H1 ∧ H1.size = H.size) (fun q => q = a)) 0 0 (fun q => q = a) := by
  refine Met.ofW (cc := cX4_init) (maxL := 3) (ret := none) (by decide) rfl ?_
  intro p e s m args below meth c s₁ Bd hml hv
  obtain ⟨rfl, rfl, hK⟩ := hv
  have hx := Bd.exec
  have hb := Bd.bytes
  have hr := Bd.returns
  have hts := atoms_spec (ws := wsX4_init) Bd.pre
  have hown : s.vm.findClass RX4 = some m.cls := findClass_of_methodNamed Bd.named
  have hlocks := Bd.notSynchronized
  have hin : meth.name = "<init>" := (name_of_methodNamed Bd.named Bd.method).1
  have hS : va_S (fun q => q = a) s.heap s.heap [] := va_S.rf
  have hl := lv_entry ([.ref a, .int num, .ref hs]) (n := 3) (Nat.le_of_ble_eq_true rfl)
  rw [lg_entry_eq]
  generalize (lg_sl ([.ref a, .int num, .ref hs]) ++ List.replicate (3 - (lg_sl ([.ref a, .int num, .ref hs])).length) Slot.unset).toArray = ls at hl ⊢
  have hl : lv_has ls 3 [(0, .ref a), (1, .int num), (2, .ref hs)] := hl
  have hiX4 : ∀ w ∈ wsX40, w ∈ wsX4_init := by decide +kernel
  refine lv_aload_n hx hb dX4_init_0 rfl (lv_at hl 0 rfl) ?_
  refine lv_iload_n hx hb dX4_init_1 rfl (lv_at hl 1 rfl) ?_
  refine lv_iconst (v := 3) hx hb dX4_init_2 (by decide) ?_
  refine lv_iconst (v := 0) hx hb dX4_init_3 (by decide) ?_
  refine lv_iconst (v := 0) hx hb dX4_init_4 (by decide) ?_
  refine k_callv (va_runI (As := [.int num, .int 3, .int 0, .int 0]) (rest := []) ⟨hx, hb, hml, hown, hts⟩ (c_Work_init_X4 l _ a num 3 0 0 ho) (cwI 4 hts gX4_init_X5_init rfl rfl rfl (hts (.initialized RX5) (by decide +kernel)) (hts (.methodLink RX4 3 yX5_init) (by decide +kernel)) (hts (.instanceMethod yX5_init) (by decide +kernel)) rfl (by decide +kernel) ⟨Nat.le_of_ble_eq_true rfl, Nat.le_of_ble_eq_true rfl⟩) (k_preS hK) rfl rfl hl.1 rfl (lv_room (Nat.le_of_ble_eq_true rfl)) dX4_init_5 ⟨(Nat.zero_le _), (Nat.zero_le _)⟩) hS (fun q h => h) (fun H2 locs hp hz2 hk2 hS => ?_)
  have hsz2 := hp.2
  have hp1 := hp.1
  have hso2 := va_at.kept hso (hk2 hs (va_at.lt hso) has)
  have hcm2 := va_at.kept hcm (hk2 hc (va_at.lt hcm) hac)
  refine lv_aload_n hx hb dX4_init_8 rfl (lv_at hl 0 rfl) ?_
  refine lv_aload_n hx hb dX4_init_9 rfl (lv_at hl 2 rfl) ?_
  refine k_callpi (v := nI n) (va_runV (As := []) (rest := [.ref a]) ⟨hx, hb, hml, hown, hts⟩ (c_X3_latestNumber l _ hs st0 hc lt e0 n mv hso2 hcm2) (cwV 0 hts gX4_init_X3_latestNumber rfl rfl rfl (by decide +kernel) ⟨Nat.le_of_ble_eq_true rfl, Nat.le_of_ble_eq_true rfl⟩) (k_preV hK (k_recv hK.1 hso2 rfl)) rfl rfl hl.1 rfl (lv_room (Nat.le_of_ble_eq_true rfl)) dX4_init_10 ⟨(Nat.zero_le _), (Nat.zero_le _)⟩) hS (fun locs hS => ?_)
  refine k_put (A := (fun q => q = a)) (C := RX4) (T := TX4) (N := 11) (ty := .int) (v := .int (nI n)) hx hb hts hiX4 tyX4 tyX4_ok nmX4 hown hK.1 hp1 rfl hS rfl 6 (by decide) (hts (.fieldLink RX4 15 "HouseWorkers$StreamWork" "version" "I") (by decide +kernel)) (fun x9 h9 => u_same (hts (.sameField "HouseWorkers$StreamWork" "HouseWorkers$Work" "version" "I") (by decide +kernel)) x9 h9) rfl (by decide +kernel) rfl rfl (Nat.le_of_ble_eq_true rfl) dX4_init_13 (fun H1 locs hO2 hz3 hq4 hS => ?_)
  exact k_retv hx hb hr hlocks ⟨hO2, by omega⟩ hS dX4_init_16
set_option maxHeartbeats 4000000 in
set_option maxRecDepth 100000 in
theorem c_X6_init (l : Launch) {D : va_G} {cI cZ cO : ClassId} {mi : Nat} (H : Heap) (a : Nat) (num sp fa fi by0 : Int32) (ho : Ob D a 6 [.int 0, .int 0, .int 0, .int 0, .int 0, .int 0, .int 0, .int 0, .int 0, .int 0, .int 0, .int 0, .int 0, .null] H)  : Met l yX6_init wsX6_init ({ frames := 2, cells := 2, slots := 17, locals := 54 }) (Pk D cI cZ cO mi [.ref a, .int num, .int sp, .int fa, .int fi, .int by0] H) (Qkv (fun H1 => Ob D a 6 (WFs (w0 num 1 sp fa (-1) (-1)) [.int fi, .int by0, .ref H.size]) H1 ∧ Ob D H.size 1 [.ref (H.size + 1)] H1 ∧ Ai D cI (H.size + 1) 16 (fun _ => 0) H1 ∧ H1.size = H.size + 2) (fun q => q = a ∨ H.size ≤ q)) 2 17 (fun q => q = a ∨ H.size ≤ q) := by
  refine Met.ofW (cc := cX6_init) (maxL := 6) (ret := none) (by decide) rfl ?_
  intro p e s m args below meth c s₁ Bd hml hv
  obtain ⟨rfl, rfl, hK⟩ := hv
  have hx := Bd.exec
  have hb := Bd.bytes
  have hr := Bd.returns
  have hts := atoms_spec (ws := wsX6_init) Bd.pre
  have hown : s.vm.findClass RX6 = some m.cls := findClass_of_methodNamed Bd.named
  have hlocks := Bd.notSynchronized
  have hin : meth.name = "<init>" := (name_of_methodNamed Bd.named Bd.method).1
  have hS : va_S (fun q => q = a ∨ s.heap.size ≤ q) s.heap s.heap [] := va_S.rf
  have hl := lv_entry ([.ref a, .int num, .int sp, .int fa, .int fi, .int by0]) (n := 6) (Nat.le_of_ble_eq_true rfl)
  rw [lg_entry_eq]
  generalize (lg_sl ([.ref a, .int num, .int sp, .int fa, .int fi, .int by0]) ++ List.replicate (6 - (lg_sl ([.ref a, .int num, .int sp, .int fa, .int fi, .int by0])).length) Slot.unset).toArray = ls at hl ⊢
  have hl : lv_has ls 6 [(0, .ref a), (1, .int num), (2, .int sp), (3, .int fa), (4, .int fi), (5, .int by0)] := hl
  have hiX6 : ∀ w ∈ wsX60, w ∈ wsX6_init := by decide +kernel
  have hiX0 : ∀ w ∈ wsX00, w ∈ wsX6_init := by decide +kernel
  have hla : a < s.heap.size := va_at.lt ho
  refine lv_aload_n hx hb dX6_init_0 rfl (lv_at hl 0 rfl) ?_
  refine lv_iload_n hx hb dX6_init_1 rfl (lv_at hl 1 rfl) ?_
  refine lv_iconst (v := 1) hx hb dX6_init_2 (by decide) ?_
  refine lv_iload_n hx hb dX6_init_3 rfl (lv_at hl 2 rfl) ?_
  refine lv_iload_n hx hb dX6_init_4 rfl (lv_at hl 3 rfl) ?_
  refine k_callv (va_runI (As := [.int num, .int 1, .int sp, .int fa]) (rest := []) ⟨hx, hb, hml, hown, hts⟩ (c_Work_init_X6 l _ a num 1 sp fa ho) (cwI 4 hts gX6_init_X5_init rfl rfl rfl (hts (.initialized RX5) (by decide +kernel)) (hts (.methodLink RX6 3 yX5_init) (by decide +kernel)) (hts (.instanceMethod yX5_init) (by decide +kernel)) rfl (by decide +kernel) ⟨Nat.le_of_ble_eq_true rfl, Nat.le_of_ble_eq_true rfl⟩) (k_preS hK) rfl rfl hl.1 rfl (lv_room (Nat.le_of_ble_eq_true rfl)) dX6_init_5 ⟨(Nat.zero_le _), (Nat.zero_le _)⟩) hS (fun q h => Or.inl h) (fun H2 locs hp hz2 hk2 hS => ?_)
  have hsz2 := hp.2
  have hp1 := hp.1
  refine lv_aload_n hx hb dX6_init_8 rfl (lv_at hl 0 rfl) ?_
  refine k_new (A := (fun q => q = a ∨ s.heap.size ≤ q)) (ci := 1) (C := RX0) (T := TX0) (N := 1) (fs := [.null]) hx hb hts hiX0 tyX0 tyX0_ok hown (hts (.classLink RX6 9 RX0) (by decide +kernel)) (hts (.instantiable RX0 1) (by decide +kernel)) (hts (.initialized RX0) (by decide +kernel)) hK.1 hS rfl (fun j hj => by rcases (show j = 0 by omega) with rfl <;> rfl) (Nat.le_of_ble_eq_true rfl) (Nat.le_of_ble_eq_true rfl) dX6_init_9 (fun H1 hO2 hz3 ho4 hS => ?_)
  have hf5 := va_at.kept hp1 (ho4 _ (va_at.lt hp1))
  have he6 : H2.size = s.heap.size := by omega
  rw [he6] at hO2 ⊢
  refine lv_dup hx hb dX6_init_12 rfl ?_
  refine k_callv (va_runIN (As := []) (rest := [.ref s.heap.size, .ref a]) ⟨hx, hb, hml, hown, hts⟩ (c_X0_init l _ s.heap.size hO2) ⟨va_cnB 0 hts gX6_init_X0_init_n11 rfl rfl rfl (hK.2.2.2.1 (RX6, 11, yX0_init, "HouseWorkers") (by decide +kernel)) (hts (.initialized RX0) (by decide +kernel)) (by decide +kernel) ⟨Nat.le_of_ble_eq_true rfl, Nat.le_of_ble_eq_true rfl⟩, rfl, hts (.instanceMethod yX0_init) (by decide +kernel)⟩ (k_preS hK) rfl rfl hl.1 rfl (lv_room (Nat.le_of_ble_eq_true rfl)) dX6_init_13 ⟨Nat.le_of_ble_eq_true rfl, Nat.le_of_ble_eq_true rfl⟩) hS (fun q h => Or.inr (h.elim (fun h => by omega) (fun h => by omega))) (fun H7 locs hp7 hz7 hk7 hS => ?_)
  have hsz1 : H1.size = s.heap.size + 1 := by omega
  rw [hsz1] at hp7
  obtain ⟨hp71, hp72, hp73⟩ := hp7
  have ho7 := va_at.kept hf5 (hk7 a (by omega) (fun h => by omega))
  refine k_putF (A := (fun q => q = a ∨ s.heap.size ≤ q)) (C := RX6) (T := TX6) (N := 14) (ty := .object "HouseWorkers$Cells") (v := .ref s.heap.size) hx hb hts hiX6 tyX6 tyX6_ok nmX6 hown hK.1 ho7 (Or.inl rfl) hS rfl 13 (by decide) (hts (.fieldLink RX6 14 "HouseWorkers$WriterWork" "draft" "LHouseWorkers$Cells;") (by decide +kernel)) (fun _ h9 => h9) rfl hin rfl (by decide +kernel) rfl rfl (Nat.le_of_ble_eq_true rfl) dX6_init_16 (fun H7 locs hO8 hz9 hq10 hS => ?_)
  have hf11 := va_at.kept hp71 (hq10 s.heap.size (by omega))
  have hf12 := va_at.kept hp72 (hq10 (s.heap.size + 1) (by omega))
  refine lv_aload_n hx hb dX6_init_19 rfl (lv_at hl 0 rfl) ?_
  refine lv_iload hx hb dX6_init_20 (lv_at hl 4 rfl) ?_
  refine k_putF (A := (fun q => q = a ∨ s.heap.size ≤ q)) (C := RX6) (T := TX6) (N := 14) (ty := .int) (v := .int fi) hx hb hts hiX6 tyX6 tyX6_ok nmX6 hown hK.1 hO8 (Or.inl rfl) hS rfl 11 (by decide) (hts (.fieldLink RX6 20 "HouseWorkers$WriterWork" "first" "I") (by decide +kernel)) (fun _ h9 => h9) rfl hin rfl (by decide +kernel) rfl rfl (Nat.le_of_ble_eq_true rfl) dX6_init_22 (fun H13 locs hO14 hz15 hq16 hS => ?_)
  have hf17 := va_at.kept hf11 (hq16 s.heap.size (by omega))
  have hf18 := va_at.kept hf12 (hq16 (s.heap.size + 1) (by omega))
  refine lv_aload_n hx hb dX6_init_25 rfl (lv_at hl 0 rfl) ?_
  refine lv_iload hx hb dX6_init_26 (lv_at hl 5 rfl) ?_
  refine k_putF (A := (fun q => q = a ∨ s.heap.size ≤ q)) (C := RX6) (T := TX6) (N := 14) (ty := .int) (v := .int by0) hx hb hts hiX6 tyX6 tyX6_ok nmX6 hown hK.1 hO14 (Or.inl rfl) hS rfl 12 (by decide) (hts (.fieldLink RX6 24 "HouseWorkers$WriterWork" "by" "I") (by decide +kernel)) (fun _ h9 => h9) rfl hin rfl (by decide +kernel) rfl rfl (Nat.le_of_ble_eq_true rfl) dX6_init_28 (fun H19 locs hO20 hz21 hq22 hS => ?_)
  have hf23 := va_at.kept hf17 (hq22 s.heap.size (by omega))
  have hf24 := va_at.kept hf18 (hq22 (s.heap.size + 1) (by omega))
  refine W.widen (k := 2) (n := 17) (by decide) (by decide) ?_
  exact k_retv hx hb hr hlocks ⟨hO20, hf23, hf24, by omega⟩ hS dX6_init_31
set_option maxHeartbeats 4000000 in
set_option maxRecDepth 100000 in
theorem c_X2_init (l : Launch) {D : va_G} {cI cZ cO : ClassId} {mi : Nat} (H : Heap) (a : Nat) (num sp fa : Int32) (ho : Ob D a 3 [.int 0, .int 0, .int 0, .int 0, .int 0, .int 0, .int 0, .int 0, .int 0, .int 0, .int 0, .null] H)  : Met l yX2_init wsX2_init ({ frames := 2, cells := 2, slots := 17, locals := 54 }) (Pk D cI cZ cO mi [.ref a, .int num, .int sp, .int fa] H) (Qkv (fun H1 => Ob D a 3 (WFs (w0 num 2 sp fa (-1) (-1)) [.ref H.size]) H1 ∧ Ob D H.size 1 [.ref (H.size + 1)] H1 ∧ Ai D cI (H.size + 1) 16 (fun _ => 0) H1 ∧ H1.size = H.size + 2) (fun q => q = a ∨ H.size ≤ q)) 2 17 (fun q => q = a ∨ H.size ≤ q) := by
  refine Met.ofW (cc := cX2_init) (maxL := 4) (ret := none) (by decide) rfl ?_
  intro p e s m args below meth c s₁ Bd hml hv
  obtain ⟨rfl, rfl, hK⟩ := hv
  have hx := Bd.exec
  have hb := Bd.bytes
  have hr := Bd.returns
  have hts := atoms_spec (ws := wsX2_init) Bd.pre
  have hown : s.vm.findClass RX2 = some m.cls := findClass_of_methodNamed Bd.named
  have hlocks := Bd.notSynchronized
  have hin : meth.name = "<init>" := (name_of_methodNamed Bd.named Bd.method).1
  have hS : va_S (fun q => q = a ∨ s.heap.size ≤ q) s.heap s.heap [] := va_S.rf
  have hl := lv_entry ([.ref a, .int num, .int sp, .int fa]) (n := 4) (Nat.le_of_ble_eq_true rfl)
  rw [lg_entry_eq]
  generalize (lg_sl ([.ref a, .int num, .int sp, .int fa]) ++ List.replicate (4 - (lg_sl ([.ref a, .int num, .int sp, .int fa])).length) Slot.unset).toArray = ls at hl ⊢
  have hl : lv_has ls 4 [(0, .ref a), (1, .int num), (2, .int sp), (3, .int fa)] := hl
  have hiX2 : ∀ w ∈ wsX20, w ∈ wsX2_init := by decide +kernel
  have hiX0 : ∀ w ∈ wsX00, w ∈ wsX2_init := by decide +kernel
  have hla : a < s.heap.size := va_at.lt ho
  refine lv_aload_n hx hb dX2_init_0 rfl (lv_at hl 0 rfl) ?_
  refine lv_iload_n hx hb dX2_init_1 rfl (lv_at hl 1 rfl) ?_
  refine lv_iconst (v := 2) hx hb dX2_init_2 (by decide) ?_
  refine lv_iload_n hx hb dX2_init_3 rfl (lv_at hl 2 rfl) ?_
  refine lv_iload_n hx hb dX2_init_4 rfl (lv_at hl 3 rfl) ?_
  refine k_callv (va_runI (As := [.int num, .int 2, .int sp, .int fa]) (rest := []) ⟨hx, hb, hml, hown, hts⟩ (c_Work_init_X2 l _ a num 2 sp fa ho) (cwI 4 hts gX2_init_X5_init rfl rfl rfl (hts (.initialized RX5) (by decide +kernel)) (hts (.methodLink RX2 3 yX5_init) (by decide +kernel)) (hts (.instanceMethod yX5_init) (by decide +kernel)) rfl (by decide +kernel) ⟨Nat.le_of_ble_eq_true rfl, Nat.le_of_ble_eq_true rfl⟩) (k_preS hK) rfl rfl hl.1 rfl (lv_room (Nat.le_of_ble_eq_true rfl)) dX2_init_5 ⟨(Nat.zero_le _), (Nat.zero_le _)⟩) hS (fun q h => Or.inl h) (fun H2 locs hp hz2 hk2 hS => ?_)
  have hsz2 := hp.2
  have hp1 := hp.1
  refine lv_aload_n hx hb dX2_init_8 rfl (lv_at hl 0 rfl) ?_
  refine k_new (A := (fun q => q = a ∨ s.heap.size ≤ q)) (ci := 1) (C := RX0) (T := TX0) (N := 1) (fs := [.null]) hx hb hts hiX0 tyX0 tyX0_ok hown (hts (.classLink RX2 9 RX0) (by decide +kernel)) (hts (.instantiable RX0 1) (by decide +kernel)) (hts (.initialized RX0) (by decide +kernel)) hK.1 hS rfl (fun j hj => by rcases (show j = 0 by omega) with rfl <;> rfl) (Nat.le_of_ble_eq_true rfl) (Nat.le_of_ble_eq_true rfl) dX2_init_9 (fun H1 hO2 hz3 ho4 hS => ?_)
  have hf5 := va_at.kept hp1 (ho4 _ (va_at.lt hp1))
  have he6 : H2.size = s.heap.size := by omega
  rw [he6] at hO2 ⊢
  refine lv_dup hx hb dX2_init_12 rfl ?_
  refine k_callv (va_runIN (As := []) (rest := [.ref s.heap.size, .ref a]) ⟨hx, hb, hml, hown, hts⟩ (c_X0_init l _ s.heap.size hO2) ⟨va_cnB 0 hts gX2_init_X0_init_n11 rfl rfl rfl (hK.2.2.2.1 (RX2, 11, yX0_init, "HouseWorkers") (by decide +kernel)) (hts (.initialized RX0) (by decide +kernel)) (by decide +kernel) ⟨Nat.le_of_ble_eq_true rfl, Nat.le_of_ble_eq_true rfl⟩, rfl, hts (.instanceMethod yX0_init) (by decide +kernel)⟩ (k_preS hK) rfl rfl hl.1 rfl (lv_room (Nat.le_of_ble_eq_true rfl)) dX2_init_13 ⟨Nat.le_of_ble_eq_true rfl, Nat.le_of_ble_eq_true rfl⟩) hS (fun q h => Or.inr (h.elim (fun h => by omega) (fun h => by omega))) (fun H7 locs hp7 hz7 hk7 hS => ?_)
  have hsz1 : H1.size = s.heap.size + 1 := by omega
  rw [hsz1] at hp7
  obtain ⟨hp71, hp72, hp73⟩ := hp7
  have ho7 := va_at.kept hf5 (hk7 a (by omega) (fun h => by omega))
  refine k_putF (A := (fun q => q = a ∨ s.heap.size ≤ q)) (C := RX2) (T := TX2) (N := 12) (ty := .object "HouseWorkers$Cells") (v := .ref s.heap.size) hx hb hts hiX2 tyX2 tyX2_ok nmX2 hown hK.1 ho7 (Or.inl rfl) hS rfl 11 (by decide) (hts (.fieldLink RX2 14 "HouseWorkers$ReasoningWork" "cells" "LHouseWorkers$Cells;") (by decide +kernel)) (fun _ h9 => h9) rfl hin rfl (by decide +kernel) rfl rfl (Nat.le_of_ble_eq_true rfl) dX2_init_16 (fun H7 locs hO8 hz9 hq10 hS => ?_)
  have hf11 := va_at.kept hp71 (hq10 s.heap.size (by omega))
  have hf12 := va_at.kept hp72 (hq10 (s.heap.size + 1) (by omega))
  refine W.widen (k := 2) (n := 17) (by decide) (by decide) ?_
  exact k_retv hx hb hr hlocks ⟨hO8, hf11, hf12, by omega⟩ hS dX2_init_19
