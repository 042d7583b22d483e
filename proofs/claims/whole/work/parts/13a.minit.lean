def mpos (k : Nat) : Nat := if k = 0 then 0 else if k ≤ 15 then k - 3 else k - 4
def sg0 : Sg := fun k i => if k = 1 ∧ i = 0 then 1 else 0
theorem mA_le {k : Nat} (h : mA k = true) : k < 20 := by
  rcases Nat.lt_or_ge k 20 with q | q
  · exact q
  · exfalso
    unfold mA mI at h
    simp at h
    omega
theorem mpos_inj : ∀ j, j < 20 → ∀ k, k < 20 → mA j = true → mA k = true → mpos j = mpos k → j = k := by decide
def mRun (σ : Sg) (nW : Nat) (x : Int32) : Int32 × Sg := if inB x 0 1000 = true then (nI (runF (nat x) nW (nat x + 2) (0, true, σ)).1, (runF (nat x) nW (nat x + 2) (0, true, σ)).2.2) else (-1, σ)
def mCls (σ : Sg) (nW : Nat) : Int32 × Sg := if ¬ σ 2 0 = 0 then (-2, σ) else (nI (clsF nW (u2 σ 2 0 1)).1, (clsF nW (u2 σ 2 0 1)).2)
theorem inv_closed {σ : Sg} {nW nV nE : Nat} (h : Inv σ nW nV nE) : Inv (u2 σ 2 0 1) nW nV nE := by
  obtain ⟨i1, i2, i3, i4, i5, i6, i7, i8, i9, i10, i11, i12⟩ := h
  exact ⟨i1, i2, i3, i4, i5, i6, i7, Or.inr rfl, i9, i10, i11, i12⟩
theorem cls_u {w : Nat} {σ : Sg} (h : (clsF w σ).2 12 w = 0) : clsF (w + 1) σ = ((clsF w σ).1 + 1, fin (clsF w σ).2 (nat ((clsF w σ).2 16 0)) w 4) := by rw [clsF, if_pos h]
theorem cls_n {w : Nat} {σ : Sg} (h : ¬ (clsF w σ).2 12 w = 0) : clsF (w + 1) σ = clsF w σ := by rw [clsF, if_neg h]
theorem cls_le (σ : Sg) : ∀ w, (clsF w σ).1 ≤ w
  | 0 => Nat.le_refl _
  | w + 1 => by
    have h := cls_le σ w
    rw [clsF]
    split
    · show (clsF w σ).1 + 1 ≤ w + 1
      omega
    · omega
theorem row_y {most w : Nat} {x : Nat × Bool × Sg} (h : (rowF most w x).1 < most) (h2 : 0 < (tnS (rowF most w x).2.2 w).1) : rowF most (w + 1) x = ((rowF most w x).1 + 1, true, (tnS (rowF most w x).2.2 w).2) := by rw [rowF, if_pos h, if_pos h2]
theorem row_n {most w : Nat} {x : Nat × Bool × Sg} (h : (rowF most w x).1 < most) (h2 : ¬ 0 < (tnS (rowF most w x).2.2 w).1) : rowF most (w + 1) x = ((rowF most w x).1, (rowF most w x).2.1, (tnS (rowF most w x).2.2 w).2) := by rw [rowF, if_pos h, if_neg h2]
theorem run_s {most nW n : Nat} {x : Nat × Bool × Sg} (h1 : x.2.1 = true) (h2 : x.1 < most) : runF most nW (n + 1) x = runF most nW n (rowF most nW (x.1, false, x.2.2)) := by rw [runF, if_pos ⟨h1, h2⟩]
theorem run_e {most nW n : Nat} {x : Nat × Bool × Sg} (h : ¬ (x.2.1 = true ∧ x.1 < most)) : runF most nW n x = x := by
  cases n with
  | zero => rfl
  | succ n => rw [runF, if_neg h]
set_option maxHeartbeats 4000000 in
set_option maxRecDepth 100000 in
theorem c_X8_init (l : Launch) {D : va_G} {cI cZ cO : ClassId} {mi : Nat} (H : Heap) (m0 : Nat) (hob : Ob D m0 8 [.null, .int 0, .int 0, .int 0, .null, .null, .null, .null, .null, .null, .null, .null, .null, .null, .null, .null, .int 0, .null, .null, .null, .int 0, .int 0] H) : Met l yX8_init wsX8_init ({ frames := 1, cells := 16, slots := 1526, locals := 30 }) (Pk D cI cZ cO mi [.ref m0] H) (Qkv (fun H1 => MD D cI cZ m0 (fun k => H.size + mpos k) sg0 H1) (fun q => q = m0 ∨ H.size ≤ q)) 16 1526 (fun q => q = m0 ∨ H.size ≤ q) := by
  refine Met.ofW (cc := cX8_init) (maxL := 1) (ret := none) (by decide) rfl ?_
  intro p e s m args below meth c s₁ B hml hv
  obtain ⟨rfl, rfl, hK⟩ := hv
  have hx := B.exec
  have hb := B.bytes
  have hr := B.returns
  have hts := atoms_spec (ws := wsX8_init) B.pre
  have hown : s.vm.findClass RX8 = some m.cls := findClass_of_methodNamed B.named
  have hlocks := B.notSynchronized
  have hin : meth.name = "<init>" := (name_of_methodNamed B.named B.method).1
  have hS : va_S (fun q => q = m0 ∨ s.heap.size ≤ q) s.heap s.heap [] := va_S.rf
  have hl := lv_entry ([.ref m0]) (n := 1) (Nat.le_of_ble_eq_true rfl)
  rw [lg_entry_eq]
  generalize (lg_sl ([.ref m0]) ++ List.replicate (1 - (lg_sl ([.ref m0])).length) Slot.unset).toArray = ls at hl ⊢
  have hl : lv_has ls 1 [(0, .ref m0)] := hl
  have hiX8 : ∀ w ∈ wsX80, w ∈ wsX8_init := by decide +kernel
  have hm0 : m0 < s.heap.size := va_at.lt hob
  refine lv_aload_n hx hb dX8_init_0 rfl (lv_at hl 0 rfl) ?_
  refine W.objInit hx hb hown (hts (.methodLink RX8 1 objectInit) (by decide +kernel)) (hts (.instanceMethod objectInit) (by decide +kernel)) (hts (.code objectInit ⟨#[0xb1]⟩ 1 none) (by decide +kernel)) rfl (by rw [hml]; exact hl.1) rfl dX8_init_1 (Nat.le_of_ble_eq_true rfl) (Nat.le_of_ble_eq_true rfl) ?_
  refine W.eq (g2 := F0 m 4 ls []) rfl ?_
  refine lv_aload_n hx hb dX8_init_4 rfl (lv_at hl 0 rfl) ?_
  refine lv_sipush (v := 640) hx hb dX8_init_5 (by decide) ?_
  refine k_newa (A := (fun q => q = m0 ∨ s.heap.size ≤ q)) hx hb hK (hts (.arrayClass .int) (by decide +kernel)) hS 640 rfl (by decide) (Nat.le_of_ble_eq_true rfl) (Nat.le_of_ble_eq_true rfl) dX8_init_8 (fun H1 hO2 hz3 ho4 hS => ?_)
  have hf5 := va_at.kept hob (ho4 _ (va_at.lt hob))
  refine k_putF (A := (fun q => q = m0 ∨ s.heap.size ≤ q)) (C := RX8) (T := TX8) (N := 22) (ty := .array .int) (v := .ref s.heap.size) hx hb hts hiX8 tyX8 tyX8_ok nmX8 hown hK.1 hf5 (Or.inl rfl) hS rfl 0 (by decide) (hts (.fieldLink RX8 7 "HouseWorkersModel" "cells" "[I") (by decide +kernel)) (fun _ h9 => h9) rfl hin rfl (by decide +kernel) rfl rfl (Nat.le_of_ble_eq_true rfl) dX8_init_10 (fun H6 locs hO7 hz8 hq9 hS => ?_)
  have hf10 := va_at.kept hO2 (hq9 s.heap.size (by omega))
  refine lv_aload_n hx hb dX8_init_13 rfl (lv_at hl 0 rfl) ?_
  refine lv_iconst (v := 1) hx hb dX8_init_14 (by decide) ?_
  refine k_put (A := (fun q => q = m0 ∨ s.heap.size ≤ q)) (C := RX8) (T := TX8) (N := 22) (ty := .int) (v := .int 1) hx hb hts hiX8 tyX8 tyX8_ok nmX8 hown hK.1 hO7 (Or.inl rfl) hS rfl 1 (by decide) (hts (.fieldLink RX8 13 "HouseWorkersModel" "versions" "I") (by decide +kernel)) (fun _ h9 => h9) rfl (by decide +kernel) rfl rfl (Nat.le_of_ble_eq_true rfl) dX8_init_15 (fun H11 locs hO12 hz13 hq14 hS => ?_)
  have hf15 := va_at.kept hf10 (hq14 s.heap.size (by omega))
  refine lv_aload_n hx hb dX8_init_18 rfl (lv_at hl 0 rfl) ?_
  refine lv_bipush (v := 30) hx hb dX8_init_19 (by decide) ?_
  refine k_newa (A := (fun q => q = m0 ∨ s.heap.size ≤ q)) hx hb hK (hts (.arrayClass .int) (by decide +kernel)) hS 30 rfl (by decide) (Nat.le_of_ble_eq_true rfl) (Nat.le_of_ble_eq_true rfl) dX8_init_21 (fun H16 hO17 hz18 ho19 hS => ?_)
  have hf20 := va_at.kept hO12 (ho19 _ (va_at.lt hO12))
  have hf21 := va_at.kept hf15 (ho19 _ (va_at.lt hf15))
  have he22 : H11.size = s.heap.size + 1 := by omega
  rw [he22] at hO17 ⊢
  refine k_putF (A := (fun q => q = m0 ∨ s.heap.size ≤ q)) (C := RX8) (T := TX8) (N := 22) (ty := .array .int) (v := .ref (s.heap.size + 1)) hx hb hts hiX8 tyX8 tyX8_ok nmX8 hown hK.1 hf20 (Or.inl rfl) hS rfl 4 (by decide) (hts (.fieldLink RX8 17 "HouseWorkersModel" "kind" "[I") (by decide +kernel)) (fun _ h9 => h9) rfl hin rfl (by decide +kernel) rfl rfl (Nat.le_of_ble_eq_true rfl) dX8_init_23 (fun H23 locs hO24 hz25 hq26 hS => ?_)
  have hf27 := va_at.kept hf21 (hq26 s.heap.size (by omega))
  have hf28 := va_at.kept hO17 (hq26 (s.heap.size + 1) (by omega))
  refine lv_aload_n hx hb dX8_init_26 rfl (lv_at hl 0 rfl) ?_
  refine lv_bipush (v := 30) hx hb dX8_init_27 (by decide) ?_
  refine k_newa (A := (fun q => q = m0 ∨ s.heap.size ≤ q)) hx hb hK (hts (.arrayClass .int) (by decide +kernel)) hS 30 rfl (by decide) (Nat.le_of_ble_eq_true rfl) (Nat.le_of_ble_eq_true rfl) dX8_init_29 (fun H29 hO30 hz31 ho32 hS => ?_)
  have hf33 := va_at.kept hO24 (ho32 _ (va_at.lt hO24))
  have hf34 := va_at.kept hf27 (ho32 _ (va_at.lt hf27))
  have hf35 := va_at.kept hf28 (ho32 _ (va_at.lt hf28))
  have he36 : H23.size = s.heap.size + 2 := by omega
  rw [he36] at hO30 ⊢
  refine k_putF (A := (fun q => q = m0 ∨ s.heap.size ≤ q)) (C := RX8) (T := TX8) (N := 22) (ty := .array .int) (v := .ref (s.heap.size + 2)) hx hb hts hiX8 tyX8 tyX8_ok nmX8 hown hK.1 hf33 (Or.inl rfl) hS rfl 5 (by decide) (hts (.fieldLink RX8 20 "HouseWorkersModel" "steps" "[I") (by decide +kernel)) (fun _ h9 => h9) rfl hin rfl (by decide +kernel) rfl rfl (Nat.le_of_ble_eq_true rfl) dX8_init_31 (fun H37 locs hO38 hz39 hq40 hS => ?_)
  have hf41 := va_at.kept hf34 (hq40 s.heap.size (by omega))
  have hf42 := va_at.kept hf35 (hq40 (s.heap.size + 1) (by omega))
  have hf43 := va_at.kept hO30 (hq40 (s.heap.size + 2) (by omega))
  refine lv_aload_n hx hb dX8_init_34 rfl (lv_at hl 0 rfl) ?_
  refine lv_bipush (v := 30) hx hb dX8_init_35 (by decide) ?_
  refine k_newa (A := (fun q => q = m0 ∨ s.heap.size ≤ q)) hx hb hK (hts (.arrayClass .int) (by decide +kernel)) hS 30 rfl (by decide) (Nat.le_of_ble_eq_true rfl) (Nat.le_of_ble_eq_true rfl) dX8_init_37 (fun H44 hO45 hz46 ho47 hS => ?_)
  have hf48 := va_at.kept hO38 (ho47 _ (va_at.lt hO38))
  have hf49 := va_at.kept hf41 (ho47 _ (va_at.lt hf41))
  have hf50 := va_at.kept hf42 (ho47 _ (va_at.lt hf42))
  have hf51 := va_at.kept hf43 (ho47 _ (va_at.lt hf43))
  have he52 : H37.size = s.heap.size + 3 := by omega
  rw [he52] at hO45 ⊢
  refine k_putF (A := (fun q => q = m0 ∨ s.heap.size ≤ q)) (C := RX8) (T := TX8) (N := 22) (ty := .array .int) (v := .ref (s.heap.size + 3)) hx hb hts hiX8 tyX8 tyX8_ok nmX8 hown hK.1 hf48 (Or.inl rfl) hS rfl 6 (by decide) (hts (.fieldLink RX8 23 "HouseWorkersModel" "failsAt" "[I") (by decide +kernel)) (fun _ h9 => h9) rfl hin rfl (by decide +kernel) rfl rfl (Nat.le_of_ble_eq_true rfl) dX8_init_39 (fun H53 locs hO54 hz55 hq56 hS => ?_)
  have hf57 := va_at.kept hf49 (hq56 s.heap.size (by omega))
  have hf58 := va_at.kept hf50 (hq56 (s.heap.size + 1) (by omega))
  have hf59 := va_at.kept hf51 (hq56 (s.heap.size + 2) (by omega))
  have hf60 := va_at.kept hO45 (hq56 (s.heap.size + 3) (by omega))
  refine lv_aload_n hx hb dX8_init_42 rfl (lv_at hl 0 rfl) ?_
  refine lv_bipush (v := 30) hx hb dX8_init_43 (by decide) ?_
  refine k_newa (A := (fun q => q = m0 ∨ s.heap.size ≤ q)) hx hb hK (hts (.arrayClass .int) (by decide +kernel)) hS 30 rfl (by decide) (Nat.le_of_ble_eq_true rfl) (Nat.le_of_ble_eq_true rfl) dX8_init_45 (fun H61 hO62 hz63 ho64 hS => ?_)
  have hf65 := va_at.kept hO54 (ho64 _ (va_at.lt hO54))
  have hf66 := va_at.kept hf57 (ho64 _ (va_at.lt hf57))
  have hf67 := va_at.kept hf58 (ho64 _ (va_at.lt hf58))
  have hf68 := va_at.kept hf59 (ho64 _ (va_at.lt hf59))
  have hf69 := va_at.kept hf60 (ho64 _ (va_at.lt hf60))
  have he70 : H53.size = s.heap.size + 4 := by omega
  rw [he70] at hO62 ⊢
  refine k_putF (A := (fun q => q = m0 ∨ s.heap.size ≤ q)) (C := RX8) (T := TX8) (N := 22) (ty := .array .int) (v := .ref (s.heap.size + 4)) hx hb hts hiX8 tyX8 tyX8_ok nmX8 hown hK.1 hf65 (Or.inl rfl) hS rfl 7 (by decide) (hts (.fieldLink RX8 26 "HouseWorkersModel" "first" "[I") (by decide +kernel)) (fun _ h9 => h9) rfl hin rfl (by decide +kernel) rfl rfl (Nat.le_of_ble_eq_true rfl) dX8_init_47 (fun H71 locs hO72 hz73 hq74 hS => ?_)
  have hf75 := va_at.kept hf66 (hq74 s.heap.size (by omega))
  have hf76 := va_at.kept hf67 (hq74 (s.heap.size + 1) (by omega))
  have hf77 := va_at.kept hf68 (hq74 (s.heap.size + 2) (by omega))
  have hf78 := va_at.kept hf69 (hq74 (s.heap.size + 3) (by omega))
  have hf79 := va_at.kept hO62 (hq74 (s.heap.size + 4) (by omega))
  refine lv_aload_n hx hb dX8_init_50 rfl (lv_at hl 0 rfl) ?_
  refine lv_bipush (v := 30) hx hb dX8_init_51 (by decide) ?_
  refine k_newa (A := (fun q => q = m0 ∨ s.heap.size ≤ q)) hx hb hK (hts (.arrayClass .int) (by decide +kernel)) hS 30 rfl (by decide) (Nat.le_of_ble_eq_true rfl) (Nat.le_of_ble_eq_true rfl) dX8_init_53 (fun H80 hO81 hz82 ho83 hS => ?_)
  have hf84 := va_at.kept hO72 (ho83 _ (va_at.lt hO72))
  have hf85 := va_at.kept hf75 (ho83 _ (va_at.lt hf75))
  have hf86 := va_at.kept hf76 (ho83 _ (va_at.lt hf76))
  have hf87 := va_at.kept hf77 (ho83 _ (va_at.lt hf77))
  have hf88 := va_at.kept hf78 (ho83 _ (va_at.lt hf78))
  have hf89 := va_at.kept hf79 (ho83 _ (va_at.lt hf79))
  have he90 : H71.size = s.heap.size + 5 := by omega
  rw [he90] at hO81 ⊢
  refine k_putF (A := (fun q => q = m0 ∨ s.heap.size ≤ q)) (C := RX8) (T := TX8) (N := 22) (ty := .array .int) (v := .ref (s.heap.size + 5)) hx hb hts hiX8 tyX8 tyX8_ok nmX8 hown hK.1 hf84 (Or.inl rfl) hS rfl 8 (by decide) (hts (.fieldLink RX8 29 "HouseWorkersModel" "by" "[I") (by decide +kernel)) (fun _ h9 => h9) rfl hin rfl (by decide +kernel) rfl rfl (Nat.le_of_ble_eq_true rfl) dX8_init_55 (fun H91 locs hO92 hz93 hq94 hS => ?_)
  have hf95 := va_at.kept hf85 (hq94 s.heap.size (by omega))
  have hf96 := va_at.kept hf86 (hq94 (s.heap.size + 1) (by omega))
  have hf97 := va_at.kept hf87 (hq94 (s.heap.size + 2) (by omega))
  have hf98 := va_at.kept hf88 (hq94 (s.heap.size + 3) (by omega))
  have hf99 := va_at.kept hf89 (hq94 (s.heap.size + 4) (by omega))
  have hf100 := va_at.kept hO81 (hq94 (s.heap.size + 5) (by omega))
  refine lv_aload_n hx hb dX8_init_58 rfl (lv_at hl 0 rfl) ?_
  refine lv_bipush (v := 30) hx hb dX8_init_59 (by decide) ?_
  refine k_newa (A := (fun q => q = m0 ∨ s.heap.size ≤ q)) hx hb hK (hts (.arrayClass .int) (by decide +kernel)) hS 30 rfl (by decide) (Nat.le_of_ble_eq_true rfl) (Nat.le_of_ble_eq_true rfl) dX8_init_61 (fun H101 hO102 hz103 ho104 hS => ?_)
  have hf105 := va_at.kept hO92 (ho104 _ (va_at.lt hO92))
  have hf106 := va_at.kept hf95 (ho104 _ (va_at.lt hf95))
  have hf107 := va_at.kept hf96 (ho104 _ (va_at.lt hf96))
  have hf108 := va_at.kept hf97 (ho104 _ (va_at.lt hf97))
  have hf109 := va_at.kept hf98 (ho104 _ (va_at.lt hf98))
  have hf110 := va_at.kept hf99 (ho104 _ (va_at.lt hf99))
  have hf111 := va_at.kept hf100 (ho104 _ (va_at.lt hf100))
  have he112 : H91.size = s.heap.size + 6 := by omega
  rw [he112] at hO102 ⊢
  refine k_putF (A := (fun q => q = m0 ∨ s.heap.size ≤ q)) (C := RX8) (T := TX8) (N := 22) (ty := .array .int) (v := .ref (s.heap.size + 6)) hx hb hts hiX8 tyX8 tyX8_ok nmX8 hown hK.1 hf105 (Or.inl rfl) hS rfl 9 (by decide) (hts (.fieldLink RX8 32 "HouseWorkersModel" "done" "[I") (by decide +kernel)) (fun _ h9 => h9) rfl hin rfl (by decide +kernel) rfl rfl (Nat.le_of_ble_eq_true rfl) dX8_init_63 (fun H113 locs hO114 hz115 hq116 hS => ?_)
  have hf117 := va_at.kept hf106 (hq116 s.heap.size (by omega))
  have hf118 := va_at.kept hf107 (hq116 (s.heap.size + 1) (by omega))
  have hf119 := va_at.kept hf108 (hq116 (s.heap.size + 2) (by omega))
  have hf120 := va_at.kept hf109 (hq116 (s.heap.size + 3) (by omega))
  have hf121 := va_at.kept hf110 (hq116 (s.heap.size + 4) (by omega))
  have hf122 := va_at.kept hf111 (hq116 (s.heap.size + 5) (by omega))
  have hf123 := va_at.kept hO102 (hq116 (s.heap.size + 6) (by omega))
  refine lv_aload_n hx hb dX8_init_66 rfl (lv_at hl 0 rfl) ?_
  refine lv_bipush (v := 30) hx hb dX8_init_67 (by decide) ?_
  refine k_newa (A := (fun q => q = m0 ∨ s.heap.size ≤ q)) hx hb hK (hts (.arrayClass .int) (by decide +kernel)) hS 30 rfl (by decide) (Nat.le_of_ble_eq_true rfl) (Nat.le_of_ble_eq_true rfl) dX8_init_69 (fun H124 hO125 hz126 ho127 hS => ?_)
  have hf128 := va_at.kept hO114 (ho127 _ (va_at.lt hO114))
  have hf129 := va_at.kept hf117 (ho127 _ (va_at.lt hf117))
  have hf130 := va_at.kept hf118 (ho127 _ (va_at.lt hf118))
  have hf131 := va_at.kept hf119 (ho127 _ (va_at.lt hf119))
  have hf132 := va_at.kept hf120 (ho127 _ (va_at.lt hf120))
  have hf133 := va_at.kept hf121 (ho127 _ (va_at.lt hf121))
  have hf134 := va_at.kept hf122 (ho127 _ (va_at.lt hf122))
  have hf135 := va_at.kept hf123 (ho127 _ (va_at.lt hf123))
  have he136 : H113.size = s.heap.size + 7 := by omega
  rw [he136] at hO125 ⊢
  refine k_putF (A := (fun q => q = m0 ∨ s.heap.size ≤ q)) (C := RX8) (T := TX8) (N := 22) (ty := .array .int) (v := .ref (s.heap.size + 7)) hx hb hts hiX8 tyX8 tyX8_ok nmX8 hown hK.1 hf128 (Or.inl rfl) hS rfl 10 (by decide) (hts (.fieldLink RX8 35 "HouseWorkersModel" "answer" "[I") (by decide +kernel)) (fun _ h9 => h9) rfl hin rfl (by decide +kernel) rfl rfl (Nat.le_of_ble_eq_true rfl) dX8_init_71 (fun H137 locs hO138 hz139 hq140 hS => ?_)
  have hf141 := va_at.kept hf129 (hq140 s.heap.size (by omega))
  have hf142 := va_at.kept hf130 (hq140 (s.heap.size + 1) (by omega))
  have hf143 := va_at.kept hf131 (hq140 (s.heap.size + 2) (by omega))
  have hf144 := va_at.kept hf132 (hq140 (s.heap.size + 3) (by omega))
  have hf145 := va_at.kept hf133 (hq140 (s.heap.size + 4) (by omega))
  have hf146 := va_at.kept hf134 (hq140 (s.heap.size + 5) (by omega))
  have hf147 := va_at.kept hf135 (hq140 (s.heap.size + 6) (by omega))
  have hf148 := va_at.kept hO125 (hq140 (s.heap.size + 7) (by omega))
  refine lv_aload_n hx hb dX8_init_74 rfl (lv_at hl 0 rfl) ?_
  refine lv_bipush (v := 30) hx hb dX8_init_75 (by decide) ?_
  refine k_newa (A := (fun q => q = m0 ∨ s.heap.size ≤ q)) hx hb hK (hts (.arrayClass .int) (by decide +kernel)) hS 30 rfl (by decide) (Nat.le_of_ble_eq_true rfl) (Nat.le_of_ble_eq_true rfl) dX8_init_77 (fun H149 hO150 hz151 ho152 hS => ?_)
  have hf153 := va_at.kept hO138 (ho152 _ (va_at.lt hO138))
  have hf154 := va_at.kept hf141 (ho152 _ (va_at.lt hf141))
  have hf155 := va_at.kept hf142 (ho152 _ (va_at.lt hf142))
  have hf156 := va_at.kept hf143 (ho152 _ (va_at.lt hf143))
  have hf157 := va_at.kept hf144 (ho152 _ (va_at.lt hf144))
  have hf158 := va_at.kept hf145 (ho152 _ (va_at.lt hf145))
  have hf159 := va_at.kept hf146 (ho152 _ (va_at.lt hf146))
  have hf160 := va_at.kept hf147 (ho152 _ (va_at.lt hf147))
  have hf161 := va_at.kept hf148 (ho152 _ (va_at.lt hf148))
  have he162 : H137.size = s.heap.size + 8 := by omega
  rw [he162] at hO150 ⊢
  refine k_putF (A := (fun q => q = m0 ∨ s.heap.size ≤ q)) (C := RX8) (T := TX8) (N := 22) (ty := .array .int) (v := .ref (s.heap.size + 8)) hx hb hts hiX8 tyX8 tyX8_ok nmX8 hown hK.1 hf153 (Or.inl rfl) hS rfl 11 (by decide) (hts (.fieldLink RX8 38 "HouseWorkersModel" "version" "[I") (by decide +kernel)) (fun _ h9 => h9) rfl hin rfl (by decide +kernel) rfl rfl (Nat.le_of_ble_eq_true rfl) dX8_init_79 (fun H163 locs hO164 hz165 hq166 hS => ?_)
  have hf167 := va_at.kept hf154 (hq166 s.heap.size (by omega))
  have hf168 := va_at.kept hf155 (hq166 (s.heap.size + 1) (by omega))
  have hf169 := va_at.kept hf156 (hq166 (s.heap.size + 2) (by omega))
  have hf170 := va_at.kept hf157 (hq166 (s.heap.size + 3) (by omega))
  have hf171 := va_at.kept hf158 (hq166 (s.heap.size + 4) (by omega))
  have hf172 := va_at.kept hf159 (hq166 (s.heap.size + 5) (by omega))
  have hf173 := va_at.kept hf160 (hq166 (s.heap.size + 6) (by omega))
  have hf174 := va_at.kept hf161 (hq166 (s.heap.size + 7) (by omega))
  have hf175 := va_at.kept hO150 (hq166 (s.heap.size + 8) (by omega))
  refine lv_aload_n hx hb dX8_init_82 rfl (lv_at hl 0 rfl) ?_
  refine lv_bipush (v := 30) hx hb dX8_init_83 (by decide) ?_
  refine k_newa (A := (fun q => q = m0 ∨ s.heap.size ≤ q)) hx hb hK (hts (.arrayClass .int) (by decide +kernel)) hS 30 rfl (by decide) (Nat.le_of_ble_eq_true rfl) (Nat.le_of_ble_eq_true rfl) dX8_init_85 (fun H176 hO177 hz178 ho179 hS => ?_)
  have hf180 := va_at.kept hO164 (ho179 _ (va_at.lt hO164))
  have hf181 := va_at.kept hf167 (ho179 _ (va_at.lt hf167))
  have hf182 := va_at.kept hf168 (ho179 _ (va_at.lt hf168))
  have hf183 := va_at.kept hf169 (ho179 _ (va_at.lt hf169))
  have hf184 := va_at.kept hf170 (ho179 _ (va_at.lt hf170))
  have hf185 := va_at.kept hf171 (ho179 _ (va_at.lt hf171))
  have hf186 := va_at.kept hf172 (ho179 _ (va_at.lt hf172))
  have hf187 := va_at.kept hf173 (ho179 _ (va_at.lt hf173))
  have hf188 := va_at.kept hf174 (ho179 _ (va_at.lt hf174))
  have hf189 := va_at.kept hf175 (ho179 _ (va_at.lt hf175))
  have he190 : H163.size = s.heap.size + 9 := by omega
  rw [he190] at hO177 ⊢
  refine k_putF (A := (fun q => q = m0 ∨ s.heap.size ≤ q)) (C := RX8) (T := TX8) (N := 22) (ty := .array .int) (v := .ref (s.heap.size + 9)) hx hb hts hiX8 tyX8 tyX8_ok nmX8 hown hK.1 hf180 (Or.inl rfl) hS rfl 12 (by decide) (hts (.fieldLink RX8 41 "HouseWorkersModel" "end" "[I") (by decide +kernel)) (fun _ h9 => h9) rfl hin rfl (by decide +kernel) rfl rfl (Nat.le_of_ble_eq_true rfl) dX8_init_87 (fun H191 locs hO192 hz193 hq194 hS => ?_)
  have hf195 := va_at.kept hf181 (hq194 s.heap.size (by omega))
  have hf196 := va_at.kept hf182 (hq194 (s.heap.size + 1) (by omega))
  have hf197 := va_at.kept hf183 (hq194 (s.heap.size + 2) (by omega))
  have hf198 := va_at.kept hf184 (hq194 (s.heap.size + 3) (by omega))
  have hf199 := va_at.kept hf185 (hq194 (s.heap.size + 4) (by omega))
  have hf200 := va_at.kept hf186 (hq194 (s.heap.size + 5) (by omega))
  have hf201 := va_at.kept hf187 (hq194 (s.heap.size + 6) (by omega))
  have hf202 := va_at.kept hf188 (hq194 (s.heap.size + 7) (by omega))
  have hf203 := va_at.kept hf189 (hq194 (s.heap.size + 8) (by omega))
  have hf204 := va_at.kept hO177 (hq194 (s.heap.size + 9) (by omega))
  refine lv_aload_n hx hb dX8_init_90 rfl (lv_at hl 0 rfl) ?_
  refine lv_bipush (v := 30) hx hb dX8_init_91 (by decide) ?_
  refine k_newz (A := (fun q => q = m0 ∨ s.heap.size ≤ q)) hx hb hK (hts (.arrayClass .boolean) (by decide +kernel)) hS 30 rfl (by decide) (Nat.le_of_ble_eq_true rfl) (Nat.le_of_ble_eq_true rfl) dX8_init_93 (fun H205 hO206 hz207 ho208 hS => ?_)
  have hf209 := va_at.kept hO192 (ho208 _ (va_at.lt hO192))
  have hf210 := va_at.kept hf195 (ho208 _ (va_at.lt hf195))
  have hf211 := va_at.kept hf196 (ho208 _ (va_at.lt hf196))
  have hf212 := va_at.kept hf197 (ho208 _ (va_at.lt hf197))
  have hf213 := va_at.kept hf198 (ho208 _ (va_at.lt hf198))
  have hf214 := va_at.kept hf199 (ho208 _ (va_at.lt hf199))
  have hf215 := va_at.kept hf200 (ho208 _ (va_at.lt hf200))
  have hf216 := va_at.kept hf201 (ho208 _ (va_at.lt hf201))
  have hf217 := va_at.kept hf202 (ho208 _ (va_at.lt hf202))
  have hf218 := va_at.kept hf203 (ho208 _ (va_at.lt hf203))
  have hf219 := va_at.kept hf204 (ho208 _ (va_at.lt hf204))
  have he220 : H191.size = s.heap.size + 10 := by omega
  rw [he220] at hO206 ⊢
  refine k_putF (A := (fun q => q = m0 ∨ s.heap.size ≤ q)) (C := RX8) (T := TX8) (N := 22) (ty := .array .boolean) (v := .ref (s.heap.size + 10)) hx hb hts hiX8 tyX8 tyX8_ok nmX8 hown hK.1 hf209 (Or.inl rfl) hS rfl 13 (by decide) (hts (.fieldLink RX8 44 "HouseWorkersModel" "told" "[Z") (by decide +kernel)) (fun _ h9 => h9) rfl hin rfl (by decide +kernel) rfl rfl (Nat.le_of_ble_eq_true rfl) dX8_init_95 (fun H221 locs hO222 hz223 hq224 hS => ?_)
  have hf225 := va_at.kept hf210 (hq224 s.heap.size (by omega))
  have hf226 := va_at.kept hf211 (hq224 (s.heap.size + 1) (by omega))
  have hf227 := va_at.kept hf212 (hq224 (s.heap.size + 2) (by omega))
  have hf228 := va_at.kept hf213 (hq224 (s.heap.size + 3) (by omega))
  have hf229 := va_at.kept hf214 (hq224 (s.heap.size + 4) (by omega))
  have hf230 := va_at.kept hf215 (hq224 (s.heap.size + 5) (by omega))
  have hf231 := va_at.kept hf216 (hq224 (s.heap.size + 6) (by omega))
  have hf232 := va_at.kept hf217 (hq224 (s.heap.size + 7) (by omega))
  have hf233 := va_at.kept hf218 (hq224 (s.heap.size + 8) (by omega))
  have hf234 := va_at.kept hf219 (hq224 (s.heap.size + 9) (by omega))
  have hf235 := va_at.kept hO206 (hq224 (s.heap.size + 10) (by omega))
  refine lv_aload_n hx hb dX8_init_98 rfl (lv_at hl 0 rfl) ?_
  refine lv_sipush (v := 480) hx hb dX8_init_99 (by decide) ?_
  refine k_newa (A := (fun q => q = m0 ∨ s.heap.size ≤ q)) hx hb hK (hts (.arrayClass .int) (by decide +kernel)) hS 480 rfl (by decide) (Nat.le_of_ble_eq_true rfl) (Nat.le_of_ble_eq_true rfl) dX8_init_102 (fun H236 hO237 hz238 ho239 hS => ?_)
  have hf240 := va_at.kept hO222 (ho239 _ (va_at.lt hO222))
  have hf241 := va_at.kept hf225 (ho239 _ (va_at.lt hf225))
  have hf242 := va_at.kept hf226 (ho239 _ (va_at.lt hf226))
  have hf243 := va_at.kept hf227 (ho239 _ (va_at.lt hf227))
  have hf244 := va_at.kept hf228 (ho239 _ (va_at.lt hf228))
  have hf245 := va_at.kept hf229 (ho239 _ (va_at.lt hf229))
  have hf246 := va_at.kept hf230 (ho239 _ (va_at.lt hf230))
  have hf247 := va_at.kept hf231 (ho239 _ (va_at.lt hf231))
  have hf248 := va_at.kept hf232 (ho239 _ (va_at.lt hf232))
  have hf249 := va_at.kept hf233 (ho239 _ (va_at.lt hf233))
  have hf250 := va_at.kept hf234 (ho239 _ (va_at.lt hf234))
  have hf251 := va_at.kept hf235 (ho239 _ (va_at.lt hf235))
  have he252 : H221.size = s.heap.size + 11 := by omega
  rw [he252] at hO237 ⊢
  refine k_putF (A := (fun q => q = m0 ∨ s.heap.size ≤ q)) (C := RX8) (T := TX8) (N := 22) (ty := .array .int) (v := .ref (s.heap.size + 11)) hx hb hts hiX8 tyX8 tyX8_ok nmX8 hown hK.1 hf240 (Or.inl rfl) hS rfl 14 (by decide) (hts (.fieldLink RX8 48 "HouseWorkersModel" "draft" "[I") (by decide +kernel)) (fun _ h9 => h9) rfl hin rfl (by decide +kernel) rfl rfl (Nat.le_of_ble_eq_true rfl) dX8_init_104 (fun H253 locs hO254 hz255 hq256 hS => ?_)
  have hf257 := va_at.kept hf241 (hq256 s.heap.size (by omega))
  have hf258 := va_at.kept hf242 (hq256 (s.heap.size + 1) (by omega))
  have hf259 := va_at.kept hf243 (hq256 (s.heap.size + 2) (by omega))
  have hf260 := va_at.kept hf244 (hq256 (s.heap.size + 3) (by omega))
  have hf261 := va_at.kept hf245 (hq256 (s.heap.size + 4) (by omega))
  have hf262 := va_at.kept hf246 (hq256 (s.heap.size + 5) (by omega))
  have hf263 := va_at.kept hf247 (hq256 (s.heap.size + 6) (by omega))
  have hf264 := va_at.kept hf248 (hq256 (s.heap.size + 7) (by omega))
  have hf265 := va_at.kept hf249 (hq256 (s.heap.size + 8) (by omega))
  have hf266 := va_at.kept hf250 (hq256 (s.heap.size + 9) (by omega))
  have hf267 := va_at.kept hf251 (hq256 (s.heap.size + 10) (by omega))
  have hf268 := va_at.kept hO237 (hq256 (s.heap.size + 11) (by omega))
  refine lv_aload_n hx hb dX8_init_107 rfl (lv_at hl 0 rfl) ?_
  refine lv_bipush (v := 16) hx hb dX8_init_108 (by decide) ?_
  refine k_newa (A := (fun q => q = m0 ∨ s.heap.size ≤ q)) hx hb hK (hts (.arrayClass .int) (by decide +kernel)) hS 16 rfl (by decide) (Nat.le_of_ble_eq_true rfl) (Nat.le_of_ble_eq_true rfl) dX8_init_110 (fun H269 hO270 hz271 ho272 hS => ?_)
  have hf273 := va_at.kept hO254 (ho272 _ (va_at.lt hO254))
  have hf274 := va_at.kept hf257 (ho272 _ (va_at.lt hf257))
  have hf275 := va_at.kept hf258 (ho272 _ (va_at.lt hf258))
  have hf276 := va_at.kept hf259 (ho272 _ (va_at.lt hf259))
  have hf277 := va_at.kept hf260 (ho272 _ (va_at.lt hf260))
  have hf278 := va_at.kept hf261 (ho272 _ (va_at.lt hf261))
  have hf279 := va_at.kept hf262 (ho272 _ (va_at.lt hf262))
  have hf280 := va_at.kept hf263 (ho272 _ (va_at.lt hf263))
  have hf281 := va_at.kept hf264 (ho272 _ (va_at.lt hf264))
  have hf282 := va_at.kept hf265 (ho272 _ (va_at.lt hf265))
  have hf283 := va_at.kept hf266 (ho272 _ (va_at.lt hf266))
  have hf284 := va_at.kept hf267 (ho272 _ (va_at.lt hf267))
  have hf285 := va_at.kept hf268 (ho272 _ (va_at.lt hf268))
  have he286 : H253.size = s.heap.size + 12 := by omega
  rw [he286] at hO270 ⊢
  refine k_putF (A := (fun q => q = m0 ∨ s.heap.size ≤ q)) (C := RX8) (T := TX8) (N := 22) (ty := .array .int) (v := .ref (s.heap.size + 12)) hx hb hts hiX8 tyX8 tyX8_ok nmX8 hown hK.1 hf273 (Or.inl rfl) hS rfl 15 (by decide) (hts (.fieldLink RX8 51 "HouseWorkersModel" "before" "[I") (by decide +kernel)) (fun _ h9 => h9) rfl hin rfl (by decide +kernel) rfl rfl (Nat.le_of_ble_eq_true rfl) dX8_init_112 (fun H287 locs hO288 hz289 hq290 hS => ?_)
  have hf291 := va_at.kept hf274 (hq290 s.heap.size (by omega))
  have hf292 := va_at.kept hf275 (hq290 (s.heap.size + 1) (by omega))
  have hf293 := va_at.kept hf276 (hq290 (s.heap.size + 2) (by omega))
  have hf294 := va_at.kept hf277 (hq290 (s.heap.size + 3) (by omega))
  have hf295 := va_at.kept hf278 (hq290 (s.heap.size + 4) (by omega))
  have hf296 := va_at.kept hf279 (hq290 (s.heap.size + 5) (by omega))
  have hf297 := va_at.kept hf280 (hq290 (s.heap.size + 6) (by omega))
  have hf298 := va_at.kept hf281 (hq290 (s.heap.size + 7) (by omega))
  have hf299 := va_at.kept hf282 (hq290 (s.heap.size + 8) (by omega))
  have hf300 := va_at.kept hf283 (hq290 (s.heap.size + 9) (by omega))
  have hf301 := va_at.kept hf284 (hq290 (s.heap.size + 10) (by omega))
  have hf302 := va_at.kept hf285 (hq290 (s.heap.size + 11) (by omega))
  have hf303 := va_at.kept hO270 (hq290 (s.heap.size + 12) (by omega))
  refine lv_aload_n hx hb dX8_init_115 rfl (lv_at hl 0 rfl) ?_
  refine lv_bipush (v := 30) hx hb dX8_init_116 (by decide) ?_
  refine k_newa (A := (fun q => q = m0 ∨ s.heap.size ≤ q)) hx hb hK (hts (.arrayClass .int) (by decide +kernel)) hS 30 rfl (by decide) (Nat.le_of_ble_eq_true rfl) (Nat.le_of_ble_eq_true rfl) dX8_init_118 (fun H304 hO305 hz306 ho307 hS => ?_)
  have hf308 := va_at.kept hO288 (ho307 _ (va_at.lt hO288))
  have hf309 := va_at.kept hf291 (ho307 _ (va_at.lt hf291))
  have hf310 := va_at.kept hf292 (ho307 _ (va_at.lt hf292))
  have hf311 := va_at.kept hf293 (ho307 _ (va_at.lt hf293))
  have hf312 := va_at.kept hf294 (ho307 _ (va_at.lt hf294))
  have hf313 := va_at.kept hf295 (ho307 _ (va_at.lt hf295))
  have hf314 := va_at.kept hf296 (ho307 _ (va_at.lt hf296))
  have hf315 := va_at.kept hf297 (ho307 _ (va_at.lt hf297))
  have hf316 := va_at.kept hf298 (ho307 _ (va_at.lt hf298))
  have hf317 := va_at.kept hf299 (ho307 _ (va_at.lt hf299))
  have hf318 := va_at.kept hf300 (ho307 _ (va_at.lt hf300))
  have hf319 := va_at.kept hf301 (ho307 _ (va_at.lt hf301))
  have hf320 := va_at.kept hf302 (ho307 _ (va_at.lt hf302))
  have hf321 := va_at.kept hf303 (ho307 _ (va_at.lt hf303))
  have he322 : H287.size = s.heap.size + 13 := by omega
  rw [he322] at hO305 ⊢
  refine k_putF (A := (fun q => q = m0 ∨ s.heap.size ≤ q)) (C := RX8) (T := TX8) (N := 22) (ty := .array .int) (v := .ref (s.heap.size + 13)) hx hb hts hiX8 tyX8 tyX8_ok nmX8 hown hK.1 hf308 (Or.inl rfl) hS rfl 17 (by decide) (hts (.fieldLink RX8 54 "HouseWorkersModel" "endWho" "[I") (by decide +kernel)) (fun _ h9 => h9) rfl hin rfl (by decide +kernel) rfl rfl (Nat.le_of_ble_eq_true rfl) dX8_init_120 (fun H323 locs hO324 hz325 hq326 hS => ?_)
  have hf327 := va_at.kept hf309 (hq326 s.heap.size (by omega))
  have hf328 := va_at.kept hf310 (hq326 (s.heap.size + 1) (by omega))
  have hf329 := va_at.kept hf311 (hq326 (s.heap.size + 2) (by omega))
  have hf330 := va_at.kept hf312 (hq326 (s.heap.size + 3) (by omega))
  have hf331 := va_at.kept hf313 (hq326 (s.heap.size + 4) (by omega))
  have hf332 := va_at.kept hf314 (hq326 (s.heap.size + 5) (by omega))
  have hf333 := va_at.kept hf315 (hq326 (s.heap.size + 6) (by omega))
  have hf334 := va_at.kept hf316 (hq326 (s.heap.size + 7) (by omega))
  have hf335 := va_at.kept hf317 (hq326 (s.heap.size + 8) (by omega))
  have hf336 := va_at.kept hf318 (hq326 (s.heap.size + 9) (by omega))
  have hf337 := va_at.kept hf319 (hq326 (s.heap.size + 10) (by omega))
  have hf338 := va_at.kept hf320 (hq326 (s.heap.size + 11) (by omega))
  have hf339 := va_at.kept hf321 (hq326 (s.heap.size + 12) (by omega))
  have hf340 := va_at.kept hO305 (hq326 (s.heap.size + 13) (by omega))
  refine lv_aload_n hx hb dX8_init_123 rfl (lv_at hl 0 rfl) ?_
  refine lv_bipush (v := 30) hx hb dX8_init_124 (by decide) ?_
  refine k_newa (A := (fun q => q = m0 ∨ s.heap.size ≤ q)) hx hb hK (hts (.arrayClass .int) (by decide +kernel)) hS 30 rfl (by decide) (Nat.le_of_ble_eq_true rfl) (Nat.le_of_ble_eq_true rfl) dX8_init_126 (fun H341 hO342 hz343 ho344 hS => ?_)
  have hf345 := va_at.kept hO324 (ho344 _ (va_at.lt hO324))
  have hf346 := va_at.kept hf327 (ho344 _ (va_at.lt hf327))
  have hf347 := va_at.kept hf328 (ho344 _ (va_at.lt hf328))
  have hf348 := va_at.kept hf329 (ho344 _ (va_at.lt hf329))
  have hf349 := va_at.kept hf330 (ho344 _ (va_at.lt hf330))
  have hf350 := va_at.kept hf331 (ho344 _ (va_at.lt hf331))
  have hf351 := va_at.kept hf332 (ho344 _ (va_at.lt hf332))
  have hf352 := va_at.kept hf333 (ho344 _ (va_at.lt hf333))
  have hf353 := va_at.kept hf334 (ho344 _ (va_at.lt hf334))
  have hf354 := va_at.kept hf335 (ho344 _ (va_at.lt hf335))
  have hf355 := va_at.kept hf336 (ho344 _ (va_at.lt hf336))
  have hf356 := va_at.kept hf337 (ho344 _ (va_at.lt hf337))
  have hf357 := va_at.kept hf338 (ho344 _ (va_at.lt hf338))
  have hf358 := va_at.kept hf339 (ho344 _ (va_at.lt hf339))
  have hf359 := va_at.kept hf340 (ho344 _ (va_at.lt hf340))
  have he360 : H323.size = s.heap.size + 14 := by omega
  rw [he360] at hO342 ⊢
  refine k_putF (A := (fun q => q = m0 ∨ s.heap.size ≤ q)) (C := RX8) (T := TX8) (N := 22) (ty := .array .int) (v := .ref (s.heap.size + 14)) hx hb hts hiX8 tyX8 tyX8_ok nmX8 hown hK.1 hf345 (Or.inl rfl) hS rfl 18 (by decide) (hts (.fieldLink RX8 57 "HouseWorkersModel" "endHow" "[I") (by decide +kernel)) (fun _ h9 => h9) rfl hin rfl (by decide +kernel) rfl rfl (Nat.le_of_ble_eq_true rfl) dX8_init_128 (fun H361 locs hO362 hz363 hq364 hS => ?_)
  have hf365 := va_at.kept hf346 (hq364 s.heap.size (by omega))
  have hf366 := va_at.kept hf347 (hq364 (s.heap.size + 1) (by omega))
  have hf367 := va_at.kept hf348 (hq364 (s.heap.size + 2) (by omega))
  have hf368 := va_at.kept hf349 (hq364 (s.heap.size + 3) (by omega))
  have hf369 := va_at.kept hf350 (hq364 (s.heap.size + 4) (by omega))
  have hf370 := va_at.kept hf351 (hq364 (s.heap.size + 5) (by omega))
  have hf371 := va_at.kept hf352 (hq364 (s.heap.size + 6) (by omega))
  have hf372 := va_at.kept hf353 (hq364 (s.heap.size + 7) (by omega))
  have hf373 := va_at.kept hf354 (hq364 (s.heap.size + 8) (by omega))
  have hf374 := va_at.kept hf355 (hq364 (s.heap.size + 9) (by omega))
  have hf375 := va_at.kept hf356 (hq364 (s.heap.size + 10) (by omega))
  have hf376 := va_at.kept hf357 (hq364 (s.heap.size + 11) (by omega))
  have hf377 := va_at.kept hf358 (hq364 (s.heap.size + 12) (by omega))
  have hf378 := va_at.kept hf359 (hq364 (s.heap.size + 13) (by omega))
  have hf379 := va_at.kept hO342 (hq364 (s.heap.size + 14) (by omega))
  refine lv_aload_n hx hb dX8_init_131 rfl (lv_at hl 0 rfl) ?_
  refine lv_bipush (v := 30) hx hb dX8_init_132 (by decide) ?_
  refine k_newa (A := (fun q => q = m0 ∨ s.heap.size ≤ q)) hx hb hK (hts (.arrayClass .int) (by decide +kernel)) hS 30 rfl (by decide) (Nat.le_of_ble_eq_true rfl) (Nat.le_of_ble_eq_true rfl) dX8_init_134 (fun H380 hO381 hz382 ho383 hS => ?_)
  have hf384 := va_at.kept hO362 (ho383 _ (va_at.lt hO362))
  have hf385 := va_at.kept hf365 (ho383 _ (va_at.lt hf365))
  have hf386 := va_at.kept hf366 (ho383 _ (va_at.lt hf366))
  have hf387 := va_at.kept hf367 (ho383 _ (va_at.lt hf367))
  have hf388 := va_at.kept hf368 (ho383 _ (va_at.lt hf368))
  have hf389 := va_at.kept hf369 (ho383 _ (va_at.lt hf369))
  have hf390 := va_at.kept hf370 (ho383 _ (va_at.lt hf370))
  have hf391 := va_at.kept hf371 (ho383 _ (va_at.lt hf371))
  have hf392 := va_at.kept hf372 (ho383 _ (va_at.lt hf372))
  have hf393 := va_at.kept hf373 (ho383 _ (va_at.lt hf373))
  have hf394 := va_at.kept hf374 (ho383 _ (va_at.lt hf374))
  have hf395 := va_at.kept hf375 (ho383 _ (va_at.lt hf375))
  have hf396 := va_at.kept hf376 (ho383 _ (va_at.lt hf376))
  have hf397 := va_at.kept hf377 (ho383 _ (va_at.lt hf377))
  have hf398 := va_at.kept hf378 (ho383 _ (va_at.lt hf378))
  have hf399 := va_at.kept hf379 (ho383 _ (va_at.lt hf379))
  have he400 : H361.size = s.heap.size + 15 := by omega
  rw [he400] at hO381 ⊢
  refine k_putF (A := (fun q => q = m0 ∨ s.heap.size ≤ q)) (C := RX8) (T := TX8) (N := 22) (ty := .array .int) (v := .ref (s.heap.size + 15)) hx hb hts hiX8 tyX8 tyX8_ok nmX8 hown hK.1 hf384 (Or.inl rfl) hS rfl 19 (by decide) (hts (.fieldLink RX8 60 "HouseWorkersModel" "endWhen" "[I") (by decide +kernel)) (fun _ h9 => h9) rfl hin rfl (by decide +kernel) rfl rfl (Nat.le_of_ble_eq_true rfl) dX8_init_136 (fun H401 locs hO402 hz403 hq404 hS => ?_)
  have hf405 := va_at.kept hf385 (hq404 s.heap.size (by omega))
  have hf406 := va_at.kept hf386 (hq404 (s.heap.size + 1) (by omega))
  have hf407 := va_at.kept hf387 (hq404 (s.heap.size + 2) (by omega))
  have hf408 := va_at.kept hf388 (hq404 (s.heap.size + 3) (by omega))
  have hf409 := va_at.kept hf389 (hq404 (s.heap.size + 4) (by omega))
  have hf410 := va_at.kept hf390 (hq404 (s.heap.size + 5) (by omega))
  have hf411 := va_at.kept hf391 (hq404 (s.heap.size + 6) (by omega))
  have hf412 := va_at.kept hf392 (hq404 (s.heap.size + 7) (by omega))
  have hf413 := va_at.kept hf393 (hq404 (s.heap.size + 8) (by omega))
  have hf414 := va_at.kept hf394 (hq404 (s.heap.size + 9) (by omega))
  have hf415 := va_at.kept hf395 (hq404 (s.heap.size + 10) (by omega))
  have hf416 := va_at.kept hf396 (hq404 (s.heap.size + 11) (by omega))
  have hf417 := va_at.kept hf397 (hq404 (s.heap.size + 12) (by omega))
  have hf418 := va_at.kept hf398 (hq404 (s.heap.size + 13) (by omega))
  have hf419 := va_at.kept hf399 (hq404 (s.heap.size + 14) (by omega))
  have hf420 := va_at.kept hO381 (hq404 (s.heap.size + 15) (by omega))
  refine W.widen (k := 16) (n := 1526) (by decide) (by decide) ?_
  have hz0 : sg0 = fun k i => if k = 1 ∧ i = 0 then 1 else 0 := rfl
  have hA : ∀ k, mI k = true → Ai D cI (s.heap.size + mpos k) (mlen k) (sg0 k) H401 := fun k hk => match k, hk with | 0, _ => hf405 | 4, _ => hf406 | 5, _ => hf407 | 6, _ => hf408 | 7, _ => hf409 | 8, _ => hf410 | 9, _ => hf411 | 10, _ => hf412 | 11, _ => hf413 | 12, _ => hf414 | 14, _ => hf416 | 15, _ => hf417 | 17, _ => hf418 | 18, _ => hf419 | 19, _ => hf420 | 1, h => absurd h (by decide) | 2, h => absurd h (by decide) | 3, h => absurd h (by decide) | 13, h => absurd h (by decide) | 16, h => absurd h (by decide) | k + 20, h => absurd (mA_le (by unfold mA; rw [h]; rfl)) (by omega)
  exact k_retv hx hb hr hlocks ⟨hO402, hA, hf415, fun j k hj hk e => mpos_inj j (mA_le hj) k (mA_le hk) hj hk (by have e : s.heap.size + mpos j = s.heap.size + mpos k := e; omega), fun k hk => by show s.heap.size + mpos k ≠ m0; omega⟩ hS dX8_init_139
