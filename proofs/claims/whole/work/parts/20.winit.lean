def w0 (num kd st fa ve pn : Int32) : Nat → Int32 := fun k => match k with
  | 0 => num
  | 1 => kd
  | 2 => st
  | 3 => fa
  | 6 => ve
  | 7 => pn
  | _ => 0
def fnd (st0 : Nat) (g : Nat → Option Nat) (n : Nat) (v : Int32) : Option Nat := if v = 0 then some st0 else if v < 0 then none else if nI n < v then none else g (nat v - 1)
set_option maxHeartbeats 4000000 in
set_option maxRecDepth 100000 in
theorem c_Work_init_X1 (l : Launch) {D : va_G} {cI cZ cO : ClassId} {mi : Nat} (H : Heap) (a : Nat) (num kd st fa : Int32) (ho : Ob D a 2 [.int 0, .int 0, .int 0, .int 0, .int 0, .int 0, .int 0, .int 0, .int 0, .int 0, .int 0, .int 0, .null] H) : Met l yX5_init wsX5_init ({ frames := 1, cells := 0, slots := 0, locals := 30 }) (Pk D cI cZ cO mi [.ref a, .int num, .int kd, .int st, .int fa] H) (Qkv (fun H1 => Ob D a 2 (WFs (w0 num kd st fa (-1) (-1)) [.int 0, .null]) H1 ∧ H1.size = H.size) (fun q => q = a)) 0 0 (fun q => q = a) := by
  refine Met.ofW (cc := cX5_init) (maxL := 5) (ret := none) (by decide) rfl ?_
  intro p e s m args below meth c s₁ Bd hml hv
  obtain ⟨rfl, rfl, hK⟩ := hv
  have hx := Bd.exec
  have hb := Bd.bytes
  have hr := Bd.returns
  have hts := atoms_spec (ws := wsX5_init) Bd.pre
  have hown : s.vm.findClass RX5 = some m.cls := findClass_of_methodNamed Bd.named
  have hlocks := Bd.notSynchronized
  have hin : meth.name = "<init>" := (name_of_methodNamed Bd.named Bd.method).1
  have hS : va_S (fun q => q = a) s.heap s.heap [] := va_S.rf
  have hl := lv_entry ([.ref a, .int num, .int kd, .int st, .int fa]) (n := 5) (Nat.le_of_ble_eq_true rfl)
  rw [lg_entry_eq]
  generalize (lg_sl ([.ref a, .int num, .int kd, .int st, .int fa]) ++ List.replicate (5 - (lg_sl ([.ref a, .int num, .int kd, .int st, .int fa])).length) Slot.unset).toArray = ls at hl ⊢
  have hl : lv_has ls 5 [(0, .ref a), (1, .int num), (2, .int kd), (3, .int st), (4, .int fa)] := hl
  have hiX1 : ∀ w ∈ wsX10, w ∈ wsX5_init := by decide +kernel
  refine lv_aload_n hx hb dX5_init_0 rfl (lv_at hl 0 rfl) ?_
  refine W.objInit hx hb hown (hts (.methodLink RX5 3 objectInit) (by decide +kernel)) (hts (.instanceMethod objectInit) (by decide +kernel)) (hts (.code objectInit ⟨#[0xb1]⟩ 1 none) (by decide +kernel)) rfl (by rw [hml]; exact hl.1) rfl dX5_init_1 (Nat.le_of_ble_eq_true rfl) (Nat.le_of_ble_eq_true rfl) ?_
  refine W.eq (g2 := F0 m 4 ls []) rfl ?_
  refine lv_aload_n hx hb dX5_init_4 rfl (lv_at hl 0 rfl) ?_
  refine lv_iconst (v := -1) hx hb dX5_init_5 (by decide) ?_
  refine k_put (A := (fun q => q = a)) (C := RX1) (T := TX1) (N := 13) (ty := .int) (v := .int (-1)) hx hb hts hiX1 tyX1 tyX1_ok nmX1 hown hK.1 ho rfl hS rfl 6 (by decide) (hts (.fieldLink RX5 9 "HouseWorkers$Work" "version" "I") (by decide +kernel)) (fun _ h9 => h9) rfl (by decide +kernel) rfl rfl (Nat.le_of_ble_eq_true rfl) dX5_init_6 (fun H1 locs hO2 hz3 hq4 hS => ?_)
  refine lv_aload_n hx hb dX5_init_9 rfl (lv_at hl 0 rfl) ?_
  refine lv_iconst (v := -1) hx hb dX5_init_10 (by decide) ?_
  refine k_put (A := (fun q => q = a)) (C := RX1) (T := TX1) (N := 13) (ty := .int) (v := .int (-1)) hx hb hts hiX1 tyX1 tyX1_ok nmX1 hown hK.1 hO2 rfl hS rfl 7 (by decide) (hts (.fieldLink RX5 15 "HouseWorkers$Work" "pinned" "I") (by decide +kernel)) (fun _ h9 => h9) rfl (by decide +kernel) rfl rfl (Nat.le_of_ble_eq_true rfl) dX5_init_11 (fun H5 locs hO6 hz7 hq8 hS => ?_)
  refine lv_aload_n hx hb dX5_init_14 rfl (lv_at hl 0 rfl) ?_
  refine lv_iconst (v := 0) hx hb dX5_init_15 (by decide) ?_
  refine k_put (A := (fun q => q = a)) (C := RX1) (T := TX1) (N := 13) (ty := .int) (v := .int 0) hx hb hts hiX1 tyX1 tyX1_ok nmX1 hown hK.1 hO6 rfl hS rfl 9 (by decide) (hts (.fieldLink RX5 18 "HouseWorkers$Work" "end" "I") (by decide +kernel)) (fun _ h9 => h9) rfl (by decide +kernel) rfl rfl (Nat.le_of_ble_eq_true rfl) dX5_init_16 (fun H9 locs hO10 hz11 hq12 hS => ?_)
  refine lv_aload_n hx hb dX5_init_19 rfl (lv_at hl 0 rfl) ?_
  refine lv_iload_n hx hb dX5_init_20 rfl (lv_at hl 1 rfl) ?_
  refine k_putF (A := (fun q => q = a)) (C := RX1) (T := TX1) (N := 13) (ty := .int) (v := .int num) hx hb hts hiX1 tyX1 tyX1_ok nmX1 hown hK.1 hO10 rfl hS rfl 0 (by decide) (hts (.fieldLink RX5 21 "HouseWorkers$Work" "number" "I") (by decide +kernel)) (fun _ h9 => h9) rfl hin rfl (by decide +kernel) rfl rfl (Nat.le_of_ble_eq_true rfl) dX5_init_21 (fun H13 locs hO14 hz15 hq16 hS => ?_)
  refine lv_aload_n hx hb dX5_init_24 rfl (lv_at hl 0 rfl) ?_
  refine lv_iload_n hx hb dX5_init_25 rfl (lv_at hl 2 rfl) ?_
  refine k_putF (A := (fun q => q = a)) (C := RX1) (T := TX1) (N := 13) (ty := .int) (v := .int kd) hx hb hts hiX1 tyX1 tyX1_ok nmX1 hown hK.1 hO14 rfl hS rfl 1 (by decide) (hts (.fieldLink RX5 24 "HouseWorkers$Work" "kind" "I") (by decide +kernel)) (fun _ h9 => h9) rfl hin rfl (by decide +kernel) rfl rfl (Nat.le_of_ble_eq_true rfl) dX5_init_26 (fun H17 locs hO18 hz19 hq20 hS => ?_)
  refine lv_aload_n hx hb dX5_init_29 rfl (lv_at hl 0 rfl) ?_
  refine lv_iload_n hx hb dX5_init_30 rfl (lv_at hl 3 rfl) ?_
  refine k_putF (A := (fun q => q = a)) (C := RX1) (T := TX1) (N := 13) (ty := .int) (v := .int st) hx hb hts hiX1 tyX1 tyX1_ok nmX1 hown hK.1 hO18 rfl hS rfl 2 (by decide) (hts (.fieldLink RX5 27 "HouseWorkers$Work" "steps" "I") (by decide +kernel)) (fun _ h9 => h9) rfl hin rfl (by decide +kernel) rfl rfl (Nat.le_of_ble_eq_true rfl) dX5_init_31 (fun H21 locs hO22 hz23 hq24 hS => ?_)
  refine lv_aload_n hx hb dX5_init_34 rfl (lv_at hl 0 rfl) ?_
  refine lv_iload hx hb dX5_init_35 (lv_at hl 4 rfl) ?_
  refine k_putF (A := (fun q => q = a)) (C := RX1) (T := TX1) (N := 13) (ty := .int) (v := .int fa) hx hb hts hiX1 tyX1 tyX1_ok nmX1 hown hK.1 hO22 rfl hS rfl 3 (by decide) (hts (.fieldLink RX5 30 "HouseWorkers$Work" "failsAt" "I") (by decide +kernel)) (fun _ h9 => h9) rfl hin rfl (by decide +kernel) rfl rfl (Nat.le_of_ble_eq_true rfl) dX5_init_37 (fun H25 locs hO26 hz27 hq28 hS => ?_)
  exact k_retv hx hb hr hlocks ⟨hO26, by omega⟩ hS dX5_init_40
set_option maxHeartbeats 4000000 in
set_option maxRecDepth 100000 in
theorem c_Work_init_X2 (l : Launch) {D : va_G} {cI cZ cO : ClassId} {mi : Nat} (H : Heap) (a : Nat) (num kd st fa : Int32) (ho : Ob D a 3 [.int 0, .int 0, .int 0, .int 0, .int 0, .int 0, .int 0, .int 0, .int 0, .int 0, .int 0, .null] H) : Met l yX5_init wsX5_init ({ frames := 1, cells := 0, slots := 0, locals := 30 }) (Pk D cI cZ cO mi [.ref a, .int num, .int kd, .int st, .int fa] H) (Qkv (fun H1 => Ob D a 3 (WFs (w0 num kd st fa (-1) (-1)) [.null]) H1 ∧ H1.size = H.size) (fun q => q = a)) 0 0 (fun q => q = a) := by
  refine Met.ofW (cc := cX5_init) (maxL := 5) (ret := none) (by decide) rfl ?_
  intro p e s m args below meth c s₁ Bd hml hv
  obtain ⟨rfl, rfl, hK⟩ := hv
  have hx := Bd.exec
  have hb := Bd.bytes
  have hr := Bd.returns
  have hts := atoms_spec (ws := wsX5_init) Bd.pre
  have hown : s.vm.findClass RX5 = some m.cls := findClass_of_methodNamed Bd.named
  have hlocks := Bd.notSynchronized
  have hin : meth.name = "<init>" := (name_of_methodNamed Bd.named Bd.method).1
  have hS : va_S (fun q => q = a) s.heap s.heap [] := va_S.rf
  have hl := lv_entry ([.ref a, .int num, .int kd, .int st, .int fa]) (n := 5) (Nat.le_of_ble_eq_true rfl)
  rw [lg_entry_eq]
  generalize (lg_sl ([.ref a, .int num, .int kd, .int st, .int fa]) ++ List.replicate (5 - (lg_sl ([.ref a, .int num, .int kd, .int st, .int fa])).length) Slot.unset).toArray = ls at hl ⊢
  have hl : lv_has ls 5 [(0, .ref a), (1, .int num), (2, .int kd), (3, .int st), (4, .int fa)] := hl
  have hiX2 : ∀ w ∈ wsX20, w ∈ wsX5_init := by decide +kernel
  refine lv_aload_n hx hb dX5_init_0 rfl (lv_at hl 0 rfl) ?_
  refine W.objInit hx hb hown (hts (.methodLink RX5 3 objectInit) (by decide +kernel)) (hts (.instanceMethod objectInit) (by decide +kernel)) (hts (.code objectInit ⟨#[0xb1]⟩ 1 none) (by decide +kernel)) rfl (by rw [hml]; exact hl.1) rfl dX5_init_1 (Nat.le_of_ble_eq_true rfl) (Nat.le_of_ble_eq_true rfl) ?_
  refine W.eq (g2 := F0 m 4 ls []) rfl ?_
  refine lv_aload_n hx hb dX5_init_4 rfl (lv_at hl 0 rfl) ?_
  refine lv_iconst (v := -1) hx hb dX5_init_5 (by decide) ?_
  refine k_put (A := (fun q => q = a)) (C := RX2) (T := TX2) (N := 12) (ty := .int) (v := .int (-1)) hx hb hts hiX2 tyX2 tyX2_ok nmX2 hown hK.1 ho rfl hS rfl 6 (by decide) (hts (.fieldLink RX5 9 "HouseWorkers$Work" "version" "I") (by decide +kernel)) (fun _ h9 => h9) rfl (by decide +kernel) rfl rfl (Nat.le_of_ble_eq_true rfl) dX5_init_6 (fun H1 locs hO2 hz3 hq4 hS => ?_)
  refine lv_aload_n hx hb dX5_init_9 rfl (lv_at hl 0 rfl) ?_
  refine lv_iconst (v := -1) hx hb dX5_init_10 (by decide) ?_
  refine k_put (A := (fun q => q = a)) (C := RX2) (T := TX2) (N := 12) (ty := .int) (v := .int (-1)) hx hb hts hiX2 tyX2 tyX2_ok nmX2 hown hK.1 hO2 rfl hS rfl 7 (by decide) (hts (.fieldLink RX5 15 "HouseWorkers$Work" "pinned" "I") (by decide +kernel)) (fun _ h9 => h9) rfl (by decide +kernel) rfl rfl (Nat.le_of_ble_eq_true rfl) dX5_init_11 (fun H5 locs hO6 hz7 hq8 hS => ?_)
  refine lv_aload_n hx hb dX5_init_14 rfl (lv_at hl 0 rfl) ?_
  refine lv_iconst (v := 0) hx hb dX5_init_15 (by decide) ?_
  refine k_put (A := (fun q => q = a)) (C := RX2) (T := TX2) (N := 12) (ty := .int) (v := .int 0) hx hb hts hiX2 tyX2 tyX2_ok nmX2 hown hK.1 hO6 rfl hS rfl 9 (by decide) (hts (.fieldLink RX5 18 "HouseWorkers$Work" "end" "I") (by decide +kernel)) (fun _ h9 => h9) rfl (by decide +kernel) rfl rfl (Nat.le_of_ble_eq_true rfl) dX5_init_16 (fun H9 locs hO10 hz11 hq12 hS => ?_)
  refine lv_aload_n hx hb dX5_init_19 rfl (lv_at hl 0 rfl) ?_
  refine lv_iload_n hx hb dX5_init_20 rfl (lv_at hl 1 rfl) ?_
  refine k_putF (A := (fun q => q = a)) (C := RX2) (T := TX2) (N := 12) (ty := .int) (v := .int num) hx hb hts hiX2 tyX2 tyX2_ok nmX2 hown hK.1 hO10 rfl hS rfl 0 (by decide) (hts (.fieldLink RX5 21 "HouseWorkers$Work" "number" "I") (by decide +kernel)) (fun _ h9 => h9) rfl hin rfl (by decide +kernel) rfl rfl (Nat.le_of_ble_eq_true rfl) dX5_init_21 (fun H13 locs hO14 hz15 hq16 hS => ?_)
  refine lv_aload_n hx hb dX5_init_24 rfl (lv_at hl 0 rfl) ?_
  refine lv_iload_n hx hb dX5_init_25 rfl (lv_at hl 2 rfl) ?_
  refine k_putF (A := (fun q => q = a)) (C := RX2) (T := TX2) (N := 12) (ty := .int) (v := .int kd) hx hb hts hiX2 tyX2 tyX2_ok nmX2 hown hK.1 hO14 rfl hS rfl 1 (by decide) (hts (.fieldLink RX5 24 "HouseWorkers$Work" "kind" "I") (by decide +kernel)) (fun _ h9 => h9) rfl hin rfl (by decide +kernel) rfl rfl (Nat.le_of_ble_eq_true rfl) dX5_init_26 (fun H17 locs hO18 hz19 hq20 hS => ?_)
  refine lv_aload_n hx hb dX5_init_29 rfl (lv_at hl 0 rfl) ?_
  refine lv_iload_n hx hb dX5_init_30 rfl (lv_at hl 3 rfl) ?_
  refine k_putF (A := (fun q => q = a)) (C := RX2) (T := TX2) (N := 12) (ty := .int) (v := .int st) hx hb hts hiX2 tyX2 tyX2_ok nmX2 hown hK.1 hO18 rfl hS rfl 2 (by decide) (hts (.fieldLink RX5 27 "HouseWorkers$Work" "steps" "I") (by decide +kernel)) (fun _ h9 => h9) rfl hin rfl (by decide +kernel) rfl rfl (Nat.le_of_ble_eq_true rfl) dX5_init_31 (fun H21 locs hO22 hz23 hq24 hS => ?_)
  refine lv_aload_n hx hb dX5_init_34 rfl (lv_at hl 0 rfl) ?_
  refine lv_iload hx hb dX5_init_35 (lv_at hl 4 rfl) ?_
  refine k_putF (A := (fun q => q = a)) (C := RX2) (T := TX2) (N := 12) (ty := .int) (v := .int fa) hx hb hts hiX2 tyX2 tyX2_ok nmX2 hown hK.1 hO22 rfl hS rfl 3 (by decide) (hts (.fieldLink RX5 30 "HouseWorkers$Work" "failsAt" "I") (by decide +kernel)) (fun _ h9 => h9) rfl hin rfl (by decide +kernel) rfl rfl (Nat.le_of_ble_eq_true rfl) dX5_init_37 (fun H25 locs hO26 hz27 hq28 hS => ?_)
  exact k_retv hx hb hr hlocks ⟨hO26, by omega⟩ hS dX5_init_40
set_option maxHeartbeats 4000000 in
set_option maxRecDepth 100000 in
theorem c_Work_init_X4 (l : Launch) {D : va_G} {cI cZ cO : ClassId} {mi : Nat} (H : Heap) (a : Nat) (num kd st fa : Int32) (ho : Ob D a 5 [.int 0, .int 0, .int 0, .int 0, .int 0, .int 0, .int 0, .int 0, .int 0, .int 0, .int 0] H) : Met l yX5_init wsX5_init ({ frames := 1, cells := 0, slots := 0, locals := 30 }) (Pk D cI cZ cO mi [.ref a, .int num, .int kd, .int st, .int fa] H) (Qkv (fun H1 => Ob D a 5 (WFs (w0 num kd st fa (-1) (-1)) []) H1 ∧ H1.size = H.size) (fun q => q = a)) 0 0 (fun q => q = a) := by
  refine Met.ofW (cc := cX5_init) (maxL := 5) (ret := none) (by decide) rfl ?_
  intro p e s m args below meth c s₁ Bd hml hv
  obtain ⟨rfl, rfl, hK⟩ := hv
  have hx := Bd.exec
  have hb := Bd.bytes
  have hr := Bd.returns
  have hts := atoms_spec (ws := wsX5_init) Bd.pre
  have hown : s.vm.findClass RX5 = some m.cls := findClass_of_methodNamed Bd.named
  have hlocks := Bd.notSynchronized
  have hin : meth.name = "<init>" := (name_of_methodNamed Bd.named Bd.method).1
  have hS : va_S (fun q => q = a) s.heap s.heap [] := va_S.rf
  have hl := lv_entry ([.ref a, .int num, .int kd, .int st, .int fa]) (n := 5) (Nat.le_of_ble_eq_true rfl)
  rw [lg_entry_eq]
  generalize (lg_sl ([.ref a, .int num, .int kd, .int st, .int fa]) ++ List.replicate (5 - (lg_sl ([.ref a, .int num, .int kd, .int st, .int fa])).length) Slot.unset).toArray = ls at hl ⊢
  have hl : lv_has ls 5 [(0, .ref a), (1, .int num), (2, .int kd), (3, .int st), (4, .int fa)] := hl
  have hiX4 : ∀ w ∈ wsX40, w ∈ wsX5_init := by decide +kernel
  refine lv_aload_n hx hb dX5_init_0 rfl (lv_at hl 0 rfl) ?_
  refine W.objInit hx hb hown (hts (.methodLink RX5 3 objectInit) (by decide +kernel)) (hts (.instanceMethod objectInit) (by decide +kernel)) (hts (.code objectInit ⟨#[0xb1]⟩ 1 none) (by decide +kernel)) rfl (by rw [hml]; exact hl.1) rfl dX5_init_1 (Nat.le_of_ble_eq_true rfl) (Nat.le_of_ble_eq_true rfl) ?_
  refine W.eq (g2 := F0 m 4 ls []) rfl ?_
  refine lv_aload_n hx hb dX5_init_4 rfl (lv_at hl 0 rfl) ?_
  refine lv_iconst (v := -1) hx hb dX5_init_5 (by decide) ?_
  refine k_put (A := (fun q => q = a)) (C := RX4) (T := TX4) (N := 11) (ty := .int) (v := .int (-1)) hx hb hts hiX4 tyX4 tyX4_ok nmX4 hown hK.1 ho rfl hS rfl 6 (by decide) (hts (.fieldLink RX5 9 "HouseWorkers$Work" "version" "I") (by decide +kernel)) (fun _ h9 => h9) rfl (by decide +kernel) rfl rfl (Nat.le_of_ble_eq_true rfl) dX5_init_6 (fun H1 locs hO2 hz3 hq4 hS => ?_)
  refine lv_aload_n hx hb dX5_init_9 rfl (lv_at hl 0 rfl) ?_
  refine lv_iconst (v := -1) hx hb dX5_init_10 (by decide) ?_
  refine k_put (A := (fun q => q = a)) (C := RX4) (T := TX4) (N := 11) (ty := .int) (v := .int (-1)) hx hb hts hiX4 tyX4 tyX4_ok nmX4 hown hK.1 hO2 rfl hS rfl 7 (by decide) (hts (.fieldLink RX5 15 "HouseWorkers$Work" "pinned" "I") (by decide +kernel)) (fun _ h9 => h9) rfl (by decide +kernel) rfl rfl (Nat.le_of_ble_eq_true rfl) dX5_init_11 (fun H5 locs hO6 hz7 hq8 hS => ?_)
  refine lv_aload_n hx hb dX5_init_14 rfl (lv_at hl 0 rfl) ?_
  refine lv_iconst (v := 0) hx hb dX5_init_15 (by decide) ?_
  refine k_put (A := (fun q => q = a)) (C := RX4) (T := TX4) (N := 11) (ty := .int) (v := .int 0) hx hb hts hiX4 tyX4 tyX4_ok nmX4 hown hK.1 hO6 rfl hS rfl 9 (by decide) (hts (.fieldLink RX5 18 "HouseWorkers$Work" "end" "I") (by decide +kernel)) (fun _ h9 => h9) rfl (by decide +kernel) rfl rfl (Nat.le_of_ble_eq_true rfl) dX5_init_16 (fun H9 locs hO10 hz11 hq12 hS => ?_)
  refine lv_aload_n hx hb dX5_init_19 rfl (lv_at hl 0 rfl) ?_
  refine lv_iload_n hx hb dX5_init_20 rfl (lv_at hl 1 rfl) ?_
  refine k_putF (A := (fun q => q = a)) (C := RX4) (T := TX4) (N := 11) (ty := .int) (v := .int num) hx hb hts hiX4 tyX4 tyX4_ok nmX4 hown hK.1 hO10 rfl hS rfl 0 (by decide) (hts (.fieldLink RX5 21 "HouseWorkers$Work" "number" "I") (by decide +kernel)) (fun _ h9 => h9) rfl hin rfl (by decide +kernel) rfl rfl (Nat.le_of_ble_eq_true rfl) dX5_init_21 (fun H13 locs hO14 hz15 hq16 hS => ?_)
  refine lv_aload_n hx hb dX5_init_24 rfl (lv_at hl 0 rfl) ?_
  refine lv_iload_n hx hb dX5_init_25 rfl (lv_at hl 2 rfl) ?_
  refine k_putF (A := (fun q => q = a)) (C := RX4) (T := TX4) (N := 11) (ty := .int) (v := .int kd) hx hb hts hiX4 tyX4 tyX4_ok nmX4 hown hK.1 hO14 rfl hS rfl 1 (by decide) (hts (.fieldLink RX5 24 "HouseWorkers$Work" "kind" "I") (by decide +kernel)) (fun _ h9 => h9) rfl hin rfl (by decide +kernel) rfl rfl (Nat.le_of_ble_eq_true rfl) dX5_init_26 (fun H17 locs hO18 hz19 hq20 hS => ?_)
  refine lv_aload_n hx hb dX5_init_29 rfl (lv_at hl 0 rfl) ?_
  refine lv_iload_n hx hb dX5_init_30 rfl (lv_at hl 3 rfl) ?_
  refine k_putF (A := (fun q => q = a)) (C := RX4) (T := TX4) (N := 11) (ty := .int) (v := .int st) hx hb hts hiX4 tyX4 tyX4_ok nmX4 hown hK.1 hO18 rfl hS rfl 2 (by decide) (hts (.fieldLink RX5 27 "HouseWorkers$Work" "steps" "I") (by decide +kernel)) (fun _ h9 => h9) rfl hin rfl (by decide +kernel) rfl rfl (Nat.le_of_ble_eq_true rfl) dX5_init_31 (fun H21 locs hO22 hz23 hq24 hS => ?_)
  refine lv_aload_n hx hb dX5_init_34 rfl (lv_at hl 0 rfl) ?_
  refine lv_iload hx hb dX5_init_35 (lv_at hl 4 rfl) ?_
  refine k_putF (A := (fun q => q = a)) (C := RX4) (T := TX4) (N := 11) (ty := .int) (v := .int fa) hx hb hts hiX4 tyX4 tyX4_ok nmX4 hown hK.1 hO22 rfl hS rfl 3 (by decide) (hts (.fieldLink RX5 30 "HouseWorkers$Work" "failsAt" "I") (by decide +kernel)) (fun _ h9 => h9) rfl hin rfl (by decide +kernel) rfl rfl (Nat.le_of_ble_eq_true rfl) dX5_init_37 (fun H25 locs hO26 hz27 hq28 hS => ?_)
  exact k_retv hx hb hr hlocks ⟨hO26, by omega⟩ hS dX5_init_40
set_option maxHeartbeats 4000000 in
set_option maxRecDepth 100000 in
theorem c_Work_init_X6 (l : Launch) {D : va_G} {cI cZ cO : ClassId} {mi : Nat} (H : Heap) (a : Nat) (num kd st fa : Int32) (ho : Ob D a 6 [.int 0, .int 0, .int 0, .int 0, .int 0, .int 0, .int 0, .int 0, .int 0, .int 0, .int 0, .int 0, .int 0, .null] H) : Met l yX5_init wsX5_init ({ frames := 1, cells := 0, slots := 0, locals := 30 }) (Pk D cI cZ cO mi [.ref a, .int num, .int kd, .int st, .int fa] H) (Qkv (fun H1 => Ob D a 6 (WFs (w0 num kd st fa (-1) (-1)) [.int 0, .int 0, .null]) H1 ∧ H1.size = H.size) (fun q => q = a)) 0 0 (fun q => q = a) := by
  refine Met.ofW (cc := cX5_init) (maxL := 5) (ret := none) (by decide) rfl ?_
  intro p e s m args below meth c s₁ Bd hml hv
  obtain ⟨rfl, rfl, hK⟩ := hv
  have hx := Bd.exec
  have hb := Bd.bytes
  have hr := Bd.returns
  have hts := atoms_spec (ws := wsX5_init) Bd.pre
  have hown : s.vm.findClass RX5 = some m.cls := findClass_of_methodNamed Bd.named
  have hlocks := Bd.notSynchronized
  have hin : meth.name = "<init>" := (name_of_methodNamed Bd.named Bd.method).1
  have hS : va_S (fun q => q = a) s.heap s.heap [] := va_S.rf
  have hl := lv_entry ([.ref a, .int num, .int kd, .int st, .int fa]) (n := 5) (Nat.le_of_ble_eq_true rfl)
  rw [lg_entry_eq]
  generalize (lg_sl ([.ref a, .int num, .int kd, .int st, .int fa]) ++ List.replicate (5 - (lg_sl ([.ref a, .int num, .int kd, .int st, .int fa])).length) Slot.unset).toArray = ls at hl ⊢
  have hl : lv_has ls 5 [(0, .ref a), (1, .int num), (2, .int kd), (3, .int st), (4, .int fa)] := hl
  have hiX6 : ∀ w ∈ wsX60, w ∈ wsX5_init := by decide +kernel
  refine lv_aload_n hx hb dX5_init_0 rfl (lv_at hl 0 rfl) ?_
  refine W.objInit hx hb hown (hts (.methodLink RX5 3 objectInit) (by decide +kernel)) (hts (.instanceMethod objectInit) (by decide +kernel)) (hts (.code objectInit ⟨#[0xb1]⟩ 1 none) (by decide +kernel)) rfl (by rw [hml]; exact hl.1) rfl dX5_init_1 (Nat.le_of_ble_eq_true rfl) (Nat.le_of_ble_eq_true rfl) ?_
  refine W.eq (g2 := F0 m 4 ls []) rfl ?_
  refine lv_aload_n hx hb dX5_init_4 rfl (lv_at hl 0 rfl) ?_
  refine lv_iconst (v := -1) hx hb dX5_init_5 (by decide) ?_
  refine k_put (A := (fun q => q = a)) (C := RX6) (T := TX6) (N := 14) (ty := .int) (v := .int (-1)) hx hb hts hiX6 tyX6 tyX6_ok nmX6 hown hK.1 ho rfl hS rfl 6 (by decide) (hts (.fieldLink RX5 9 "HouseWorkers$Work" "version" "I") (by decide +kernel)) (fun _ h9 => h9) rfl (by decide +kernel) rfl rfl (Nat.le_of_ble_eq_true rfl) dX5_init_6 (fun H1 locs hO2 hz3 hq4 hS => ?_)
  refine lv_aload_n hx hb dX5_init_9 rfl (lv_at hl 0 rfl) ?_
  refine lv_iconst (v := -1) hx hb dX5_init_10 (by decide) ?_
  refine k_put (A := (fun q => q = a)) (C := RX6) (T := TX6) (N := 14) (ty := .int) (v := .int (-1)) hx hb hts hiX6 tyX6 tyX6_ok nmX6 hown hK.1 hO2 rfl hS rfl 7 (by decide) (hts (.fieldLink RX5 15 "HouseWorkers$Work" "pinned" "I") (by decide +kernel)) (fun _ h9 => h9) rfl (by decide +kernel) rfl rfl (Nat.le_of_ble_eq_true rfl) dX5_init_11 (fun H5 locs hO6 hz7 hq8 hS => ?_)
  refine lv_aload_n hx hb dX5_init_14 rfl (lv_at hl 0 rfl) ?_
  refine lv_iconst (v := 0) hx hb dX5_init_15 (by decide) ?_
  refine k_put (A := (fun q => q = a)) (C := RX6) (T := TX6) (N := 14) (ty := .int) (v := .int 0) hx hb hts hiX6 tyX6 tyX6_ok nmX6 hown hK.1 hO6 rfl hS rfl 9 (by decide) (hts (.fieldLink RX5 18 "HouseWorkers$Work" "end" "I") (by decide +kernel)) (fun _ h9 => h9) rfl (by decide +kernel) rfl rfl (Nat.le_of_ble_eq_true rfl) dX5_init_16 (fun H9 locs hO10 hz11 hq12 hS => ?_)
  refine lv_aload_n hx hb dX5_init_19 rfl (lv_at hl 0 rfl) ?_
  refine lv_iload_n hx hb dX5_init_20 rfl (lv_at hl 1 rfl) ?_
  refine k_putF (A := (fun q => q = a)) (C := RX6) (T := TX6) (N := 14) (ty := .int) (v := .int num) hx hb hts hiX6 tyX6 tyX6_ok nmX6 hown hK.1 hO10 rfl hS rfl 0 (by decide) (hts (.fieldLink RX5 21 "HouseWorkers$Work" "number" "I") (by decide +kernel)) (fun _ h9 => h9) rfl hin rfl (by decide +kernel) rfl rfl (Nat.le_of_ble_eq_true rfl) dX5_init_21 (fun H13 locs hO14 hz15 hq16 hS => ?_)
  refine lv_aload_n hx hb dX5_init_24 rfl (lv_at hl 0 rfl) ?_
  refine lv_iload_n hx hb dX5_init_25 rfl (lv_at hl 2 rfl) ?_
  refine k_putF (A := (fun q => q = a)) (C := RX6) (T := TX6) (N := 14) (ty := .int) (v := .int kd) hx hb hts hiX6 tyX6 tyX6_ok nmX6 hown hK.1 hO14 rfl hS rfl 1 (by decide) (hts (.fieldLink RX5 24 "HouseWorkers$Work" "kind" "I") (by decide +kernel)) (fun _ h9 => h9) rfl hin rfl (by decide +kernel) rfl rfl (Nat.le_of_ble_eq_true rfl) dX5_init_26 (fun H17 locs hO18 hz19 hq20 hS => ?_)
  refine lv_aload_n hx hb dX5_init_29 rfl (lv_at hl 0 rfl) ?_
  refine lv_iload_n hx hb dX5_init_30 rfl (lv_at hl 3 rfl) ?_
  refine k_putF (A := (fun q => q = a)) (C := RX6) (T := TX6) (N := 14) (ty := .int) (v := .int st) hx hb hts hiX6 tyX6 tyX6_ok nmX6 hown hK.1 hO18 rfl hS rfl 2 (by decide) (hts (.fieldLink RX5 27 "HouseWorkers$Work" "steps" "I") (by decide +kernel)) (fun _ h9 => h9) rfl hin rfl (by decide +kernel) rfl rfl (Nat.le_of_ble_eq_true rfl) dX5_init_31 (fun H21 locs hO22 hz23 hq24 hS => ?_)
  refine lv_aload_n hx hb dX5_init_34 rfl (lv_at hl 0 rfl) ?_
  refine lv_iload hx hb dX5_init_35 (lv_at hl 4 rfl) ?_
  refine k_putF (A := (fun q => q = a)) (C := RX6) (T := TX6) (N := 14) (ty := .int) (v := .int fa) hx hb hts hiX6 tyX6 tyX6_ok nmX6 hown hK.1 hO22 rfl hS rfl 3 (by decide) (hts (.fieldLink RX5 30 "HouseWorkers$Work" "failsAt" "I") (by decide +kernel)) (fun _ h9 => h9) rfl hin rfl (by decide +kernel) rfl rfl (Nat.le_of_ble_eq_true rfl) dX5_init_37 (fun H25 locs hO26 hz27 hq28 hS => ?_)
  exact k_retv hx hb hr hlocks ⟨hO26, by omega⟩ hS dX5_init_40
