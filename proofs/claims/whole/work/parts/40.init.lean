theorem inv_0 : Inv sg0 0 1 0 := ⟨rfl, rfl, rfl, by decide, by decide, by decide, rfl, Or.inl rfl, fun j h => absurd h (by omega), fun j _ => ⟨rfl, rfl, rfl, rfl⟩, fun i _ => rfl, fun i h => absurd h (by omega)⟩
theorem HR_nar {D : va_G} {cI cO : ClassId} {eA h0 : Nat} {B B' : Nat → Prop} {wa : Nat → Nat} {σ : Sg} {nW nV nE : Nat} {H H1 : Heap} (h : HR D cI cO eA B h0 wa σ nW nV nE H) (hk : ∀ q : Nat, q < H.size → H1[q]? = H[q]?) (hz : H.size ≤ H1.size) (hB : ∀ q, q < H.size → B q → B' q) (hn : ∀ q, H1.size ≤ q → B' q) : HR D cI cO eA B' h0 wa σ nW nV nE H1 := by
  obtain ⟨hs, hc, hw, he, ec, ew, ee, pc, pw, pe, gc, gw, ge, va, da, ra, te, pn, rl, R1, R2, ⟨R3, R3g⟩, ⟨R4, R4g⟩, ⟨R5, R5g⟩, R6, R7, R8, R9, RT, RB, RN, RL, R12, R13⟩ := h
  obtain ⟨k1, k2, k3, k4, k5, k6, k7, k8⟩ := HR_keep (H1 := H1) (fun _ => False) R1 R2 R3 R4 R5 R6 R7 R9 RT (fun p _ h2 => hk p h2)
  exact ⟨hs, hc, hw, he, ec, ew, ee, pc, pw, pe, gc, gw, ge, va, da, ra, te, pn, rl, k1 id, k2 id, ⟨k3 id id, R3g⟩, ⟨k4 id id, R4g⟩, ⟨k5 id id, R5g⟩, k6 id id (fun _ _ _ => ⟨id, id⟩), fun i hi => k7 i hi id, fun i hi hk4 => by obtain ⟨f, f1, f2⟩ := R8 i hi hk4; exact ⟨f, k8 i hi hk4 id id f f1, f2⟩, R9, RT, fun q hq => hB q (Nat.lt_of_not_le (fun z => by have := RL q z; omega)) (RB q hq), hn, fun q hq => RL q (by omega), R12, R13⟩
set_option maxHeartbeats 4000000 in
set_option maxRecDepth 100000 in
theorem c_X7_init (l : Launch) {D : va_G} {cI cZ cO : ClassId} {mi eA : Nat} {B : Nat → Prop} (H : Heap) (h0 : Nat) (ho : Ob D h0 7 [.null, .null, .null, .int 0, .int 0, .int 0] H) (hB0 : B h0) (hBn : ∀ q, H.size ≤ q → B q) : Met l yX7_init wsX7_init ({ frames := 5, cells := 6, slots := 29, locals := 110 }) (Pz D cI cZ cO mi eA B [.ref h0] H) (Qkv (fun H1 => HR D cI cO eA B h0 (fun _ => 0) sg0 0 1 0 H1) B) 6 29 B := by
  refine Met.ofW (cc := cX7_init) (maxL := 1) (ret := none) (by decide) rfl ?_
  intro p e s m args below meth c s₁ Bd hml hv
  obtain ⟨rfl, rfl, hK, hZ⟩ := hv
  have hx := Bd.exec
  have hb := Bd.bytes
  have hr := Bd.returns
  have hts := atoms_spec (ws := wsX7_init) Bd.pre
  have hown : s.vm.findClass RX7 = some m.cls := findClass_of_methodNamed Bd.named
  have hlocks := Bd.notSynchronized
  have hin : meth.name = "<init>" := (name_of_methodNamed Bd.named Bd.method).1
  have hS : va_S B s.heap s.heap [] := va_S.rf
  have hl := lv_entry ([.ref h0]) (n := 1) (Nat.le_of_ble_eq_true rfl)
  rw [lg_entry_eq]
  generalize (lg_sl ([.ref h0]) ++ List.replicate (1 - (lg_sl ([.ref h0])).length) Slot.unset).toArray = ls at hl ⊢
  have hl : lv_has ls 1 [(0, .ref h0)] := hl
  have hiX7 : ∀ w ∈ wsX70, w ∈ wsX7_init := by decide +kernel
  have hiX3 : ∀ w ∈ wsX30, w ∈ wsX7_init := by decide +kernel
  have hiJx4a65c : ∀ w ∈ wsJx4a65c0, w ∈ wsX7_init := by decide +kernel
  have hl0 : h0 < s.heap.size := va_at.lt ho
  refine lv_aload_n hx hb dX7_init_0 rfl (lv_at hl 0 rfl) ?_
  refine W.objInit hx hb hown (hts (.methodLink RX7 3 objectInit) (by decide +kernel)) (hts (.instanceMethod objectInit) (by decide +kernel)) (hts (.code objectInit ⟨#[0xb1]⟩ 1 none) (by decide +kernel)) rfl (by rw [hml]; exact hl.1) rfl dX7_init_1 (Nat.le_of_ble_eq_true rfl) (Nat.le_of_ble_eq_true rfl) ?_
  refine W.eq (g2 := F0 m 4 ls []) rfl ?_
  refine lv_aload_n hx hb dX7_init_4 rfl (lv_at hl 0 rfl) ?_
  refine k_new (A := B) (ci := 4) (C := RX3) (T := TX3) (N := 3) (fs := [.null, .null, .null]) hx hb hts hiX3 tyX3 tyX3_ok hown (hts (.classLink RX7 9 RX3) (by decide +kernel)) (hts (.instantiable RX3 3) (by decide +kernel)) (hts (.initialized RX3) (by decide +kernel)) hK.1 hS rfl (fun j hj => by rcases (show j = 0 ∨ j = 1 ∨ j = 2 by omega) with rfl | rfl | rfl <;> rfl) (Nat.le_of_ble_eq_true rfl) (Nat.le_of_ble_eq_true rfl) dX7_init_5 (fun H1 hO2 hz3 ho4 hS => ?_)
  have hf5 := va_at.kept ho (ho4 _ (va_at.lt ho))
  refine lv_dup hx hb dX7_init_8 rfl ?_
  have hZc : ZZ eA B s H1 := hZ.S (fun q h => h) hS
  refine k_callv (va_runIN (As := []) (rest := [.ref s.heap.size, .ref h0]) ⟨hx, hb, hml, hown, hts⟩ (c_X3_init l _ s.heap.size hO2 (hBn _ (Nat.le_refl _)) (fun q h => hBn q (by omega))) ⟨va_cnB 0 hts gX7_init_X3_init_n11 rfl rfl rfl (hK.2.2.2.1 (RX7, 11, yX3_init, "HouseWorkers") (by decide +kernel)) (hts (.initialized RX3) (by decide +kernel)) (by decide +kernel) ⟨Nat.le_of_ble_eq_true rfl, Nat.le_of_ble_eq_true rfl⟩, rfl, hts (.instanceMethod yX3_init) (by decide +kernel)⟩ (z_preS hK hZc) rfl rfl hl.1 rfl (lv_room (Nat.le_of_ble_eq_true rfl)) dX7_init_9 ⟨Nat.le_of_ble_eq_true rfl, Nat.le_of_ble_eq_true rfl⟩) hS (fun q h => h.elim (fun h => by rw [h]; exact hBn _ (Nat.le_refl _)) (fun h => hBn q (by omega))) (fun Ha locs hpa hza hka hS => ?_)
  have hh0a := va_at.kept hf5 (hka h0 (va_at.lt hf5) (fun q => by omega))
  have hzs : H1.size = s.heap.size + 1 := by omega
  rw [hzs] at hpa
  obtain ⟨p1, p2, p3, p4, p5⟩ := hpa
  refine k_putF (A := B) (C := RX7) (T := TX7) (N := 6) (ty := .object "HouseWorkers$Store") (v := .ref s.heap.size) hx hb hts hiX7 tyX7 tyX7_ok nmX7 hown hK.1 hh0a hB0 hS rfl 0 (by decide) (hts (.fieldLink RX7 12 "HouseWorkers" "store" "LHouseWorkers$Store;") (by decide +kernel)) (fun _ h9 => h9) rfl hin rfl (by decide +kernel) rfl rfl (Nat.le_of_ble_eq_true rfl) dX7_init_12 (fun H6 locs hO7 hz8 hq9 hS => ?_)
  have hf10 := va_at.kept p1 (hq9 s.heap.size (by omega))
  have hf11 := va_at.kept p2 (hq9 (s.heap.size + 1) (by omega))
  have hf12 := va_at.kept p3 (hq9 (s.heap.size + 2) (by omega))
  have hf13 := va_at.kept p4 (hq9 (s.heap.size + 3) (by omega))
  refine lv_aload_n hx hb dX7_init_15 rfl (lv_at hl 0 rfl) ?_
  refine k_new (A := B) (ci := 0) (C := RJx4a65c) (T := TJx4a65c) (N := 3) (fs := [.int 0, .null, .int 0]) hx hb hts hiJx4a65c tyJx4a65c tyJx4a65c_ok hown (hts (.classLink RX7 16 RJx4a65c) (by decide +kernel)) (hts (.instantiable RJx4a65c 3) (by decide +kernel)) (hts (.initialized RJx4a65c) (by decide +kernel)) hK.1 hS rfl (fun j hj => by rcases (show j = 0 ∨ j = 1 ∨ j = 2 by omega) with rfl | rfl | rfl <;> rfl) (Nat.le_of_ble_eq_true rfl) (Nat.le_of_ble_eq_true rfl) dX7_init_16 (fun H14 hO15 hz16 ho17 hS => ?_)
  have hf18 := va_at.kept hO7 (ho17 _ (va_at.lt hO7))
  have hf19 := va_at.kept hf10 (ho17 _ (va_at.lt hf10))
  have hf20 := va_at.kept hf11 (ho17 _ (va_at.lt hf11))
  have hf21 := va_at.kept hf12 (ho17 _ (va_at.lt hf12))
  have hf22 := va_at.kept hf13 (ho17 _ (va_at.lt hf13))
  have he23 : H6.size = s.heap.size + 4 := by omega
  rw [he23] at hO15 ⊢
  refine lv_dup hx hb dX7_init_19 rfl ?_
  have hZc : ZZ eA B s H14 := hZ.S (fun q h => h) hS
  refine k_callv (va_runI (As := []) (rest := [.ref (s.heap.size + 4), .ref h0]) ⟨hx, hb, hml, hown, hts⟩ (c_AL_init l _ (s.heap.size + 4) hO15 (hBn _ (by omega))) (cwI 0 hts gX7_init_Jx4a65c_init_da8c8 rfl rfl rfl (hts (.initialized RJx4a65c) (by decide +kernel)) (hts (.methodLink RX7 18 yJx4a65c_init_da8c8) (by decide +kernel)) (hts (.instanceMethod yJx4a65c_init_da8c8) (by decide +kernel)) rfl (by decide +kernel) ⟨Nat.le_of_ble_eq_true rfl, Nat.le_of_ble_eq_true rfl⟩) (z_preS hK hZc) rfl rfl hl.1 rfl (lv_room (Nat.le_of_ble_eq_true rfl)) dX7_init_20 ⟨Nat.le_of_ble_eq_true rfl, Nat.le_of_ble_eq_true rfl⟩) hS (fun q h => by rw [h]; exact hBn _ (by omega)) (fun Hb1 locs hpb1 hzb1 hkb1 hS => ?_)
  have hf24 := va_at.kept hf18 (hkb1 _ (va_at.lt hf18) (by omega))
  have hf25 := va_at.kept hf19 (hkb1 _ (va_at.lt hf19) (by omega))
  have hf26 := va_at.kept hf20 (hkb1 _ (va_at.lt hf20) (by omega))
  have hf27 := va_at.kept hf21 (hkb1 _ (va_at.lt hf21) (by omega))
  have hf28 := va_at.kept hf22 (hkb1 _ (va_at.lt hf22) (by omega))
  obtain ⟨hal1, hsz1⟩ := hpb1
  refine k_putF (A := B) (C := RX7) (T := TX7) (N := 6) (ty := .object "java/util/ArrayList") (v := .ref (s.heap.size + 4)) hx hb hts hiX7 tyX7 tyX7_ok nmX7 hown hK.1 hf24 hB0 hS rfl 1 (by decide) (hts (.fieldLink RX7 19 "HouseWorkers" "works" "Ljava/util/ArrayList;") (by decide +kernel)) (fun _ h9 => h9) rfl hin rfl (by decide +kernel) rfl rfl (Nat.le_of_ble_eq_true rfl) dX7_init_23 (fun H29 locs hO30 hz31 hq32 hS => ?_)
  have hf33 := va_at.kept hf25 (hq32 s.heap.size (by omega))
  have hf34 := va_at.kept hf26 (hq32 (s.heap.size + 1) (by omega))
  have hf35 := va_at.kept hf27 (hq32 (s.heap.size + 2) (by omega))
  have hf36 := va_at.kept hf28 (hq32 (s.heap.size + 3) (by omega))
  have hf37 := va_at.kept hal1 (hq32 (s.heap.size + 4) (by omega))
  refine lv_aload_n hx hb dX7_init_26 rfl (lv_at hl 0 rfl) ?_
  refine k_new (A := B) (ci := 0) (C := RJx4a65c) (T := TJx4a65c) (N := 3) (fs := [.int 0, .null, .int 0]) hx hb hts hiJx4a65c tyJx4a65c tyJx4a65c_ok hown (hts (.classLink RX7 16 RJx4a65c) (by decide +kernel)) (hts (.instantiable RJx4a65c 3) (by decide +kernel)) (hts (.initialized RJx4a65c) (by decide +kernel)) hK.1 hS rfl (fun j hj => by rcases (show j = 0 ∨ j = 1 ∨ j = 2 by omega) with rfl | rfl | rfl <;> rfl) (Nat.le_of_ble_eq_true rfl) (Nat.le_of_ble_eq_true rfl) dX7_init_27 (fun H38 hO39 hz40 ho41 hS => ?_)
  have hf42 := va_at.kept hO30 (ho41 _ (va_at.lt hO30))
  have hf43 := va_at.kept hf33 (ho41 _ (va_at.lt hf33))
  have hf44 := va_at.kept hf34 (ho41 _ (va_at.lt hf34))
  have hf45 := va_at.kept hf35 (ho41 _ (va_at.lt hf35))
  have hf46 := va_at.kept hf36 (ho41 _ (va_at.lt hf36))
  have hf47 := va_at.kept hf37 (ho41 _ (va_at.lt hf37))
  have he48 : H29.size = s.heap.size + 5 := by omega
  rw [he48] at hO39 ⊢
  refine lv_dup hx hb dX7_init_30 rfl ?_
  have hZc : ZZ eA B s H38 := hZ.S (fun q h => h) hS
  refine k_callv (va_runI (As := []) (rest := [.ref (s.heap.size + 5), .ref h0]) ⟨hx, hb, hml, hown, hts⟩ (c_AL_init l _ (s.heap.size + 5) hO39 (hBn _ (by omega))) (cwI 0 hts gX7_init_Jx4a65c_init_da8c8 rfl rfl rfl (hts (.initialized RJx4a65c) (by decide +kernel)) (hts (.methodLink RX7 18 yJx4a65c_init_da8c8) (by decide +kernel)) (hts (.instanceMethod yJx4a65c_init_da8c8) (by decide +kernel)) rfl (by decide +kernel) ⟨Nat.le_of_ble_eq_true rfl, Nat.le_of_ble_eq_true rfl⟩) (z_preS hK hZc) rfl rfl hl.1 rfl (lv_room (Nat.le_of_ble_eq_true rfl)) dX7_init_31 ⟨Nat.le_of_ble_eq_true rfl, Nat.le_of_ble_eq_true rfl⟩) hS (fun q h => by rw [h]; exact hBn _ (by omega)) (fun Hb2 locs hpb2 hzb2 hkb2 hS => ?_)
  have hf49 := va_at.kept hf42 (hkb2 _ (va_at.lt hf42) (by omega))
  have hf50 := va_at.kept hf43 (hkb2 _ (va_at.lt hf43) (by omega))
  have hf51 := va_at.kept hf44 (hkb2 _ (va_at.lt hf44) (by omega))
  have hf52 := va_at.kept hf45 (hkb2 _ (va_at.lt hf45) (by omega))
  have hf53 := va_at.kept hf46 (hkb2 _ (va_at.lt hf46) (by omega))
  have hf54 := va_at.kept hf47 (hkb2 _ (va_at.lt hf47) (by omega))
  obtain ⟨hal2, hsz2⟩ := hpb2
  refine k_putF (A := B) (C := RX7) (T := TX7) (N := 6) (ty := .object "java/util/ArrayList") (v := .ref (s.heap.size + 5)) hx hb hts hiX7 tyX7 tyX7_ok nmX7 hown hK.1 hf49 hB0 hS rfl 2 (by decide) (hts (.fieldLink RX7 23 "HouseWorkers" "ends" "Ljava/util/ArrayList;") (by decide +kernel)) (fun _ h9 => h9) rfl hin rfl (by decide +kernel) rfl rfl (Nat.le_of_ble_eq_true rfl) dX7_init_34 (fun H55 locs hO56 hz57 hq58 hS => ?_)
  have hf59 := va_at.kept hf50 (hq58 s.heap.size (by omega))
  have hf60 := va_at.kept hf51 (hq58 (s.heap.size + 1) (by omega))
  have hf61 := va_at.kept hf52 (hq58 (s.heap.size + 2) (by omega))
  have hf62 := va_at.kept hf53 (hq58 (s.heap.size + 3) (by omega))
  have hf63 := va_at.kept hf54 (hq58 (s.heap.size + 4) (by omega))
  have hf64 := va_at.kept hal2 (hq58 (s.heap.size + 5) (by omega))
  refine W.widen (k := 6) (n := 29) (by decide) (by decide) ?_
  obtain ⟨rl, hrl⟩ : ∃ r : Nat → Nat, r = fun p => if p = h0 then 0 else if p = s.heap.size then 1 else if p = s.heap.size + 1 then 8 else if p = s.heap.size + 2 then 9 else if p = s.heap.size + 3 then 2 else if p = s.heap.size + 4 then 3 else if p = s.heap.size + 5 then 4 else 1000 := ⟨_, rfl⟩
  have hrr : ∀ p, rl p = if p = h0 then 0 else if p = s.heap.size then 1 else if p = s.heap.size + 1 then 8 else if p = s.heap.size + 2 then 9 else if p = s.heap.size + 3 then 2 else if p = s.heap.size + 4 then 3 else if p = s.heap.size + 5 then 4 else 1000 := fun p => by rw [hrl]
  have r0 : rl h0 = 0 := by rw [hrr, if_pos rfl]
  have r1 : rl s.heap.size = 1 := by rw [hrr, if_neg (by omega), if_pos rfl]
  have r8 : rl (s.heap.size + 1) = 8 := by rw [hrr, if_neg (by omega), if_neg (by omega), if_pos rfl]
  have r9 : rl (s.heap.size + 2) = 9 := by rw [hrr, if_neg (by omega), if_neg (by omega), if_neg (by omega), if_pos rfl]
  have r2 : rl (s.heap.size + 3) = 2 := by rw [hrr, if_neg (by omega), if_neg (by omega), if_neg (by omega), if_neg (by omega), if_pos rfl]
  have r3 : rl (s.heap.size + 4) = 3 := by rw [hrr, if_neg (by omega), if_neg (by omega), if_neg (by omega), if_neg (by omega), if_neg (by omega), if_pos rfl]
  have r4 : rl (s.heap.size + 5) = 4 := by rw [hrr, if_neg (by omega), if_neg (by omega), if_neg (by omega), if_neg (by omega), if_neg (by omega), if_neg (by omega), if_pos rfl]
  have hro : ∀ p, rl p < 1000 → B p := fun p hp => by
    rw [hrr] at hp
    by_cases a : p = h0
    · rw [a]; exact hB0
    · rw [if_neg a] at hp
      refine hBn p (Nat.le_of_not_lt (fun z => ?_))
      rw [if_neg (by omega), if_neg (by omega), if_neg (by omega), if_neg (by omega), if_neg (by omega), if_neg (by omega)] at hp
      omega
  have hzf : H55.size = s.heap.size + 6 := by omega
  exact k_retv hx hb hr hlocks ⟨s.heap.size, s.heap.size + 3, s.heap.size + 4, s.heap.size + 5, eA, eA, eA, 0, 0, 0, fun _ => none, fun _ => none, fun _ => none, fun _ => s.heap.size + 1, fun _ => 0, fun _ => s.heap.size + 2, fun _ => 0, fun _ => 0, rl, hO56, hf59, ⟨⟨⟨0, hf62⟩, Or.inl ⟨rfl, rfl, rfl⟩⟩, fun i hi => absurd hi (by omega)⟩, ⟨⟨⟨0, hf63⟩, Or.inl ⟨rfl, rfl, rfl⟩⟩, fun i hi => absurd hi (by omega)⟩, ⟨⟨⟨0, hf64⟩, Or.inl ⟨rfl, rfl, rfl⟩⟩, fun i hi => absurd hi (by omega)⟩, fun v _ => ⟨hf60, Ai.congr hf61 (fun j _ => rfl)⟩, fun i hi => absurd hi (by omega), fun i hi => absurd hi (by omega), fun v h1 h2 => absurd h2 (by omega), ⟨r0, r1, r2, r3, r4, fun q => absurd q (by omega), fun q => absurd q (by omega), fun q => absurd q (by omega), r8, r9, fun i hi => absurd hi (by omega), fun i hi => absurd hi (by omega)⟩, hro, fun q h => hBn q (by omega), fun q h => by rw [hrr, if_neg (by omega), if_neg (by omega), if_neg (by omega), if_neg (by omega), if_neg (by omega), if_neg (by omega), if_neg (by omega)], fun i hi => absurd hi (by omega), fun i hi => absurd hi (by omega)⟩ hS dX7_init_37
