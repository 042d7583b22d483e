set_option maxHeartbeats 4000000 in
set_option maxRecDepth 100000 in
theorem c_X3_find (l : Launch) {D : va_G} {cI cZ cO : ClassId} {mi : Nat} (H : Heap) {eA : Nat} (hs st0 hc lt e0 n cap : Nat) (g : Nat → Option Nat) (v : Int32) (ho : Ob D hs 4 [.ref st0, .ref hc, .ref lt] H) (hal : AL D cO eA hc e0 n cap g H) (hel : ∀ i, i < n → ∃ y, g i = some y ∧ ∃ fs, Ob D y 1 fs H) (hn : n ≤ 33) : Met l yX3_find wsX3_find ({ frames := 3, cells := 0, slots := 0, locals := 64 }) (Pk D cI cZ cO mi [.ref hs, .int v] H) (Qpq H (fnd st0 g n v)) 0 0 (fun _ => False) := by
  refine Met.ofW (cc := cX3_find) (maxL := 2) (ret := (some (.object "HouseWorkers$Cells"))) (by decide) rfl ?_
  intro p e s m args below meth c s₁ Bd hml hv
  obtain ⟨rfl, rfl, hK⟩ := hv
  have hx := Bd.exec
  have hb := Bd.bytes
  have hr := Bd.returns
  have hts := atoms_spec (ws := wsX3_find) Bd.pre
  have hown : s.vm.findClass RX3 = some m.cls := findClass_of_methodNamed Bd.named
  have hlocks := Bd.notSynchronized
  have hS : va_S (fun _ => False) s.heap s.heap [] := va_S.rf
  have hl := lv_entry ([.ref hs, .int v]) (n := 2) (Nat.le_of_ble_eq_true rfl)
  rw [lg_entry_eq]
  generalize (lg_sl ([.ref hs, .int v]) ++ List.replicate (2 - (lg_sl ([.ref hs, .int v])).length) Slot.unset).toArray = ls at hl ⊢
  have hl : lv_has ls 2 [(0, .ref hs), (1, .int v)] := hl
  have hiX3 : ∀ w ∈ wsX30, w ∈ wsX3_find := by decide +kernel
  obtain ⟨⟨mv, hcm⟩, hmode⟩ := hal
  refine lv_iload_n hx hb dX3_find_0 rfl (lv_at hl 1 rfl) ?_
  refine lv_if_ne (tgt := 9) hx hb dX3_find_1 (by decide) (fun c1 => ?_) (fun c1 => ?_)
  · refine lv_iload_n hx hb dX3_find_9 rfl (lv_at hl 1 rfl) ?_
    refine lv_if_lt (tgt := 24) hx hb dX3_find_10 (by decide) (fun c10 => ?_) (fun c10 => ?_)
    · refine lv_null hx hb dX3_find_24 ?_
      exact k_retq hx hb hr (Or.inl ⟨_, rfl⟩) hlocks (none) ⟨by unfold fnd; rw [if_neg c1, if_pos c10], rfl⟩ hS dX3_find_25
    · refine lv_iload_n hx hb dX3_find_13 rfl (lv_at hl 1 rfl) ?_
      refine lv_aload_n hx hb dX3_find_14 rfl (lv_at hl 0 rfl) ?_
      refine k_get (C := RX3) (T := TX3) (N := 3) (v := .ref hc) hx hb hts hiX3 hown hK.1 ho rfl 1 (by decide) (hts (.fieldLink RX3 19 "HouseWorkers$Store" "committed" "Ljava/util/ArrayList;") (by decide +kernel)) (fun _ h9 => h9) rfl dX3_find_15 ?_
      refine k_callpi (v := nI n) (va_runV (As := []) (rest := [.int v]) ⟨hx, hb, hml, hown, hts⟩ (c_AL_size l _ hc e0 n mv hcm) (cwV 0 hts gX3_find_Jx4a65c_size_8abf5 rfl rfl rfl (by decide +kernel) ⟨Nat.le_of_ble_eq_true rfl, Nat.le_of_ble_eq_true rfl⟩) (k_preV hK (k_recv hK.1 hcm rfl)) rfl rfl hl.1 rfl (lv_room (Nat.le_of_ble_eq_true rfl)) dX3_find_18 ⟨(Nat.zero_le _), (Nat.zero_le _)⟩) hS (fun locs hS => ?_)
      refine lv_icmp_le (tgt := 26) hx hb dX3_find_21 (by decide) (fun c21 => ?_) (fun c21 => ?_)
      · have c21 := Int32.not_lt.mpr c21
        refine lv_aload_n hx hb dX3_find_26 rfl (lv_at hl 0 rfl) ?_
        refine k_get (C := RX3) (T := TX3) (N := 3) (v := .ref hc) hx hb hts hiX3 hown hK.1 ho rfl 1 (by decide) (hts (.fieldLink RX3 19 "HouseWorkers$Store" "committed" "Ljava/util/ArrayList;") (by decide +kernel)) (fun _ h9 => h9) rfl dX3_find_27 ?_
        refine lv_iload_n hx hb dX3_find_30 rfl (lv_at hl 1 rfl) ?_
        refine lv_iconst (v := 1) hx hb dX3_find_31 (by decide) ?_
        refine lv_isub hx hb dX3_find_32 ?_
        obtain ⟨k, hk, rfl⟩ := nI_of c10
        have hk0 : 0 < k := Nat.pos_of_ne_zero (fun q => c1 (by rw [q]; rfl))
        have hkn : k ≤ n := Nat.le_of_not_lt (fun q => c21 (nI_lt q hk))
        have e9 : nI k - 1 = nI (k - 1) := pk_sub (b := 1) hk0
        rw [e9]
        rcases hmode with ⟨hn0, -, -⟩ | ⟨hnp, hnc, hcs, har, -⟩
        · exact absurd hkn (by omega)
        obtain ⟨y, hy, fs, hyo⟩ := hel (k - 1) (by omega)
        refine k_callpq (v := g (k - 1)) (va_runV (As := [.int (nI (k - 1))]) (rest := []) ⟨hx, hb, hml, hown, hts⟩ (c_AL_get l _ hc e0 n cap (k - 1) mv g hcm har (by omega) hnc (by omega)) (cwV 1 hts gX3_find_Jx4a65c_get_915e3 rfl rfl rfl (by decide +kernel) ⟨Nat.le_of_ble_eq_true rfl, Nat.le_of_ble_eq_true rfl⟩) (k_preV hK (k_recv hK.1 hcm rfl)) rfl rfl hl.1 rfl (lv_room (Nat.le_of_ble_eq_true rfl)) dX3_find_33 ⟨(Nat.zero_le _), (Nat.zero_le _)⟩) hS (fun locs hS => ?_)
        rw [hy]
        refine W.eq (g2 := F0 m 36 ls [.ref y]) rfl ?_
        refine va_castS hx hb hown (hts (.classLink RX3 7 RX0) (by decide +kernel)) (hK.1.1 1 _ rfl).2 (k_recv hK.1 hyo rfl) dX3_find_36 ?_
        exact k_retq hx hb hr (Or.inl ⟨_, rfl⟩) hlocks (some y) ⟨by unfold fnd; rw [if_neg c1, if_neg c10, if_neg c21, nat_nI hk]; exact hy.symm, rfl⟩ hS dX3_find_39
      · have c21 := Int32.not_le.mp c21
        refine lv_null hx hb dX3_find_24 ?_
        exact k_retq hx hb hr (Or.inl ⟨_, rfl⟩) hlocks (none) ⟨by unfold fnd; rw [if_neg c1, if_neg c10, if_pos c21], rfl⟩ hS dX3_find_25
  · refine lv_aload_n hx hb dX3_find_4 rfl (lv_at hl 0 rfl) ?_
    refine k_get (C := RX3) (T := TX3) (N := 3) (v := .ref st0) hx hb hts hiX3 hown hK.1 ho rfl 0 (by decide) (hts (.fieldLink RX3 10 "HouseWorkers$Store" "start" "LHouseWorkers$Cells;") (by decide +kernel)) (fun _ h9 => h9) rfl dX3_find_5 ?_
    exact k_retq hx hb hr (Or.inl ⟨_, rfl⟩) hlocks (some st0) ⟨by unfold fnd; rw [if_pos c1], rfl⟩ hS dX3_find_8
set_option maxHeartbeats 4000000 in
set_option maxRecDepth 100000 in
theorem c_X3_commit (l : Launch) {D : va_G} {cI cZ cO : ClassId} {mi eA : Nat} {B : Nat → Prop} (H : Heap) (hs st0 hc lt e0 n cap x : Nat) (g : Nat → Option Nat) (ho : Ob D hs 4 [.ref st0, .ref hc, .ref lt] H) (hAL : AL D cO eA hc e0 n cap g H) (hn : n ≤ 32) (hxo : ElO D x H) (hel : ∀ i, i < n → ∃ y, g i = some y ∧ ElO D y H ∧ y ≠ hc) (hae : 0 < n → hc ≠ e0) (hxa : x ≠ hc) (hxe : 0 < n → x ≠ e0) (hBa : B hc) (hBn : ∀ q, H.size ≤ q → B q) (hs1 : hs ≠ hc) (hs2 : 0 < n → hs ≠ e0) : Met l yX3_commit wsX3_commit ({ frames := 7, cells := 1, slots := 33, locals := 191 }) (Pz D cI cZ cO mi eA B [.ref hs, .ref x] H) (Qki (fun r H1 => r = nI (n + 1) ∧ Ob D hs 4 [.ref st0, .ref hc, .ref x] H1 ∧ ∃ e1 cap1 g1, AL D cO eA hc e1 (n + 1) cap1 g1 H1 ∧ (∀ i, i < n → g1 i = g i) ∧ g1 n = some x ∧ ((e1 = e0 ∧ 0 < n) ∨ H.size ≤ e1)) (fun q => q = hs ∨ q = hc ∨ (q = e0 ∧ 0 < n) ∨ H.size ≤ q)) 1 33 (fun q => q = hs ∨ q = hc ∨ (q = e0 ∧ 0 < n) ∨ H.size ≤ q) := by
  refine Met.ofW (cc := cX3_commit) (maxL := 2) (ret := (some .int)) (by decide) rfl ?_
  intro p e s m args below meth c s₁ Bd hml hv
  obtain ⟨rfl, rfl, hK, hZ⟩ := hv
  have hx := Bd.exec
  have hb := Bd.bytes
  have hr := Bd.returns
  have hts := atoms_spec (ws := wsX3_commit) Bd.pre
  have hown : s.vm.findClass RX3 = some m.cls := findClass_of_methodNamed Bd.named
  have hlocks := Bd.notSynchronized
  have hS : va_S (fun q => q = hs ∨ q = hc ∨ (q = e0 ∧ 0 < n) ∨ s.heap.size ≤ q) s.heap s.heap [] := va_S.rf
  have hl := lv_entry ([.ref hs, .ref x]) (n := 2) (Nat.le_of_ble_eq_true rfl)
  rw [lg_entry_eq]
  generalize (lg_sl ([.ref hs, .ref x]) ++ List.replicate (2 - (lg_sl ([.ref hs, .ref x])).length) Slot.unset).toArray = ls at hl ⊢
  have hl : lv_has ls 2 [(0, .ref hs), (1, .ref x)] := hl
  have hiX3 : ∀ w ∈ wsX30, w ∈ wsX3_commit := by decide +kernel
  have hls : hs < s.heap.size := va_at.lt ho
  have hZc := hZ
  obtain ⟨mv0, hcm0⟩ := hAL.1
  refine lv_aload_n hx hb dX3_commit_0 rfl (lv_at hl 0 rfl) ?_
  refine k_get (C := RX3) (T := TX3) (N := 3) (v := .ref hc) hx hb hts hiX3 hown hK.1 ho rfl 1 (by decide) (hts (.fieldLink RX3 19 "HouseWorkers$Store" "committed" "Ljava/util/ArrayList;") (by decide +kernel)) (fun _ h9 => h9) rfl dX3_commit_1 ?_
  refine lv_aload_n hx hb dX3_commit_4 rfl (lv_at hl 1 rfl) ?_
  refine k_calli (va_runV (As := [.ref x]) (rest := []) ⟨hx, hb, hml, hown, hts⟩ (c_AL_add l _ hc e0 n cap x g hAL hn hxo hel hae hxa hxe hBa hBn) (cwV 1 hts gX3_commit_Jx4a65c_add_9ea2d rfl rfl rfl (by decide +kernel) ⟨Nat.le_of_ble_eq_true rfl, Nat.le_of_ble_eq_true rfl⟩) (z_preV hK hZc (k_recv hK.1 hcm0 rfl)) rfl rfl hl.1 rfl (lv_room (Nat.le_of_ble_eq_true rfl)) dX3_commit_5 ⟨Nat.le_of_ble_eq_true rfl, Nat.le_of_ble_eq_true rfl⟩) hS (fun q h => h.elim (fun h => Or.inr (Or.inl h)) (fun h => Or.inr (Or.inr h))) (fun r9 H2 locs hp9 hz2 hk2 hS => ?_)
  obtain ⟨rfl, e1, cap1, g1, hAL1, hg1, hg2, he1⟩ := hp9
  have ho2 := va_at.kept ho (hk2 hs hls (fun h => h.elim hs1 (fun h => h.elim (fun h => hs2 h.2 h.1) (fun h => by omega))))
  refine lv_pop hx hb dX3_commit_8 rfl ?_
  refine lv_aload_n hx hb dX3_commit_9 rfl (lv_at hl 0 rfl) ?_
  refine lv_aload_n hx hb dX3_commit_10 rfl (lv_at hl 1 rfl) ?_
  refine k_put (A := (fun q => q = hs ∨ q = hc ∨ (q = e0 ∧ 0 < n) ∨ s.heap.size ≤ q)) (C := RX3) (T := TX3) (N := 3) (ty := .object "HouseWorkers$Cells") (v := .ref x) hx hb hts hiX3 tyX3 tyX3_ok nmX3 hown hK.1 ho2 (Or.inl rfl) hS rfl 2 (by decide) (hts (.fieldLink RX3 23 "HouseWorkers$Store" "latest" "LHouseWorkers$Cells;") (by decide +kernel)) (fun _ h9 => h9) rfl (by decide +kernel) rfl rfl (Nat.le_of_ble_eq_true rfl) dX3_commit_11 (fun H1 locs hO2 hz3 hq4 hS => ?_)
  have hne1 : hs ≠ e1 := he1.elim (fun h => by rw [h.1]; exact hs2 h.2) (fun h => by omega)
  have hAL3 : AL D cO eA hc e1 (n + 1) cap1 g1 H1 := ⟨by obtain ⟨mv3, q⟩ := hAL1.1; exact ⟨mv3, va_at.kept q (hq4 hc hs1.symm)⟩, by rcases hAL1.2 with q | ⟨q1, q2, q3, q4, q5⟩; (exact absurd q.1 (by omega)); exact Or.inr ⟨q1, q2, q3, va_at.kept q4 (hq4 e1 hne1.symm), q5⟩⟩
  refine lv_aload_n hx hb dX3_commit_14 rfl (lv_at hl 0 rfl) ?_
  refine k_get (C := RX3) (T := TX3) (N := 3) (v := .ref hc) hx hb hts hiX3 hown hK.1 hO2 rfl 1 (by decide) (hts (.fieldLink RX3 19 "HouseWorkers$Store" "committed" "Ljava/util/ArrayList;") (by decide +kernel)) (fun _ h9 => h9) rfl dX3_commit_15 ?_
  obtain ⟨mv2, hcm2⟩ := hAL3.1
  refine k_callpi (v := nI (n + 1)) (va_runV (As := []) (rest := []) ⟨hx, hb, hml, hown, hts⟩ (c_AL_size l _ hc e1 (n + 1) mv2 hcm2) (cwV 0 hts gX3_commit_Jx4a65c_size_8abf5 rfl rfl rfl (by decide +kernel) ⟨Nat.le_of_ble_eq_true rfl, Nat.le_of_ble_eq_true rfl⟩) (k_preV hK (k_recv hK.1 hcm2 rfl)) rfl rfl hl.1 rfl (lv_room (Nat.le_of_ble_eq_true rfl)) dX3_commit_18 ⟨Nat.le_of_ble_eq_true rfl, Nat.le_of_ble_eq_true rfl⟩) hS (fun locs hS => ?_)
  exact k_reti hx hb hr hlocks ⟨rfl, hO2, e1, cap1, g1, hAL3, hg1, hg2, he1⟩ hS dX3_commit_21
set_option maxHeartbeats 4000000 in
set_option maxRecDepth 100000 in
theorem c_X3_init (l : Launch) {D : va_G} {cI cZ cO : ClassId} {mi eA : Nat} {B : Nat → Prop} (H : Heap) (hs : Nat) (ho : Ob D hs 4 [.null, .null, .null] H) (hBs : B hs) (hBn : ∀ q, H.size ≤ q → B q) : Met l yX3_init wsX3_init ({ frames := 4, cells := 3, slots := 20, locals := 90 }) (Pz D cI cZ cO mi eA B [.ref hs] H) (Qkv (fun H1 => Ob D hs 4 [.ref H.size, .ref (H.size + 2), .ref H.size] H1 ∧ Ob D H.size 1 [.ref (H.size + 1)] H1 ∧ Ai D cI (H.size + 1) 16 (fun _ => 0) H1 ∧ Ob D (H.size + 2) 0 [.int 0, .ref eA, .int 0] H1 ∧ H1.size = H.size + 3) (fun q => q = hs ∨ H.size ≤ q)) 3 20 (fun q => q = hs ∨ H.size ≤ q) := by
  refine Met.ofW (cc := cX3_init) (maxL := 1) (ret := none) (by decide) rfl ?_
  intro p e s m args below meth c s₁ Bd hml hv
  obtain ⟨rfl, rfl, hK, hZ⟩ := hv
  have hx := Bd.exec
  have hb := Bd.bytes
  have hr := Bd.returns
  have hts := atoms_spec (ws := wsX3_init) Bd.pre
  have hown : s.vm.findClass RX3 = some m.cls := findClass_of_methodNamed Bd.named
  have hlocks := Bd.notSynchronized
  have hin : meth.name = "<init>" := (name_of_methodNamed Bd.named Bd.method).1
  have hS : va_S (fun q => q = hs ∨ s.heap.size ≤ q) s.heap s.heap [] := va_S.rf
  have hl := lv_entry ([.ref hs]) (n := 1) (Nat.le_of_ble_eq_true rfl)
  rw [lg_entry_eq]
  generalize (lg_sl ([.ref hs]) ++ List.replicate (1 - (lg_sl ([.ref hs])).length) Slot.unset).toArray = ls at hl ⊢
  have hl : lv_has ls 1 [(0, .ref hs)] := hl
  have hiX3 : ∀ w ∈ wsX30, w ∈ wsX3_init := by decide +kernel
  have hiX0 : ∀ w ∈ wsX00, w ∈ wsX3_init := by decide +kernel
  have hiJx4a65c : ∀ w ∈ wsJx4a65c0, w ∈ wsX3_init := by decide +kernel
  have hls : hs < s.heap.size := va_at.lt ho
  refine lv_aload_n hx hb dX3_init_0 rfl (lv_at hl 0 rfl) ?_
  refine W.objInit hx hb hown (hts (.methodLink RX3 1 objectInit) (by decide +kernel)) (hts (.instanceMethod objectInit) (by decide +kernel)) (hts (.code objectInit ⟨#[0xb1]⟩ 1 none) (by decide +kernel)) rfl (by rw [hml]; exact hl.1) rfl dX3_init_1 (Nat.le_of_ble_eq_true rfl) (Nat.le_of_ble_eq_true rfl) ?_
  refine W.eq (g2 := F0 m 4 ls []) rfl ?_
  refine lv_aload_n hx hb dX3_init_4 rfl (lv_at hl 0 rfl) ?_
  refine k_new (A := (fun q => q = hs ∨ s.heap.size ≤ q)) (ci := 1) (C := RX0) (T := TX0) (N := 1) (fs := [.null]) hx hb hts hiX0 tyX0 tyX0_ok hown (hts (.classLink RX3 7 RX0) (by decide +kernel)) (hts (.instantiable RX0 1) (by decide +kernel)) (hts (.initialized RX0) (by decide +kernel)) hK.1 hS rfl (fun j hj => by rcases (show j = 0 by omega) with rfl <;> rfl) (Nat.le_of_ble_eq_true rfl) (Nat.le_of_ble_eq_true rfl) dX3_init_5 (fun H1 hO2 hz3 ho4 hS => ?_)
  have hf5 := va_at.kept ho (ho4 _ (va_at.lt ho))
  refine lv_dup hx hb dX3_init_8 rfl ?_
  refine k_callv (va_runIN (As := []) (rest := [.ref s.heap.size, .ref hs]) ⟨hx, hb, hml, hown, hts⟩ (c_X0_init l _ s.heap.size hO2) ⟨va_cnB 0 hts gX3_init_X0_init_n9 rfl rfl rfl (hK.2.2.2.1 (RX3, 9, yX0_init, "HouseWorkers") (by decide +kernel)) (hts (.initialized RX0) (by decide +kernel)) (by decide +kernel) ⟨Nat.le_of_ble_eq_true rfl, Nat.le_of_ble_eq_true rfl⟩, rfl, hts (.instanceMethod yX0_init) (by decide +kernel)⟩ (k_preS hK) rfl rfl hl.1 rfl (lv_room (Nat.le_of_ble_eq_true rfl)) dX3_init_9 ⟨Nat.le_of_ble_eq_true rfl, Nat.le_of_ble_eq_true rfl⟩) hS (fun q h => Or.inr (h.elim (fun h => by omega) (fun h => by omega))) (fun H2 locs hp hz2 hk2 hS => ?_)
  have hsz1 : H1.size = s.heap.size + 1 := by omega
  rw [hsz1] at hp
  obtain ⟨hp1, hp2, hp3⟩ := hp
  have ho2 := va_at.kept hf5 (hk2 hs (by omega) (fun h => by omega))
  refine k_putF (A := (fun q => q = hs ∨ s.heap.size ≤ q)) (C := RX3) (T := TX3) (N := 3) (ty := .object "HouseWorkers$Cells") (v := .ref s.heap.size) hx hb hts hiX3 tyX3 tyX3_ok nmX3 hown hK.1 ho2 (Or.inl rfl) hS rfl 0 (by decide) (hts (.fieldLink RX3 10 "HouseWorkers$Store" "start" "LHouseWorkers$Cells;") (by decide +kernel)) (fun _ h9 => h9) rfl hin rfl (by decide +kernel) rfl rfl (Nat.le_of_ble_eq_true rfl) dX3_init_12 (fun H6 locs hO7 hz8 hq9 hS => ?_)
  have hf10 := va_at.kept hp1 (hq9 s.heap.size (by omega))
  have hf11 := va_at.kept hp2 (hq9 (s.heap.size + 1) (by omega))
  refine lv_aload_n hx hb dX3_init_15 rfl (lv_at hl 0 rfl) ?_
  refine k_new (A := (fun q => q = hs ∨ s.heap.size ≤ q)) (ci := 0) (C := RJx4a65c) (T := TJx4a65c) (N := 3) (fs := [.int 0, .null, .int 0]) hx hb hts hiJx4a65c tyJx4a65c tyJx4a65c_ok hown (hts (.classLink RX3 16 RJx4a65c) (by decide +kernel)) (hts (.instantiable RJx4a65c 3) (by decide +kernel)) (hts (.initialized RJx4a65c) (by decide +kernel)) hK.1 hS rfl (fun j hj => by rcases (show j = 0 ∨ j = 1 ∨ j = 2 by omega) with rfl | rfl | rfl <;> rfl) (Nat.le_of_ble_eq_true rfl) (Nat.le_of_ble_eq_true rfl) dX3_init_16 (fun H12 hO13 hz14 ho15 hS => ?_)
  have hf16 := va_at.kept hO7 (ho15 _ (va_at.lt hO7))
  have hf17 := va_at.kept hf10 (ho15 _ (va_at.lt hf10))
  have hf18 := va_at.kept hf11 (ho15 _ (va_at.lt hf11))
  have he19 : H6.size = s.heap.size + 2 := by omega
  rw [he19] at hO13 ⊢
  refine lv_dup hx hb dX3_init_19 rfl ?_
  have hZc : ZZ eA B s H12 := hZ.S (A := (fun q => q = hs ∨ s.heap.size ≤ q)) (fun q h => h.elim (fun h => by rw [h]; exact hBs) (hBn q)) hS
  refine k_callv (va_runI (As := []) (rest := [.ref (s.heap.size + 2), .ref hs]) ⟨hx, hb, hml, hown, hts⟩ (c_AL_init l _ (s.heap.size + 2) hO13 (hBn _ (by omega))) (cwI 0 hts gX3_init_Jx4a65c_init_da8c8 rfl rfl rfl (hts (.initialized RJx4a65c) (by decide +kernel)) (hts (.methodLink RX3 18 yJx4a65c_init_da8c8) (by decide +kernel)) (hts (.instanceMethod yJx4a65c_init_da8c8) (by decide +kernel)) rfl (by decide +kernel) ⟨Nat.le_of_ble_eq_true rfl, Nat.le_of_ble_eq_true rfl⟩) (z_preS hK hZc) rfl rfl hl.1 rfl (lv_room (Nat.le_of_ble_eq_true rfl)) dX3_init_20 ⟨Nat.le_of_ble_eq_true rfl, Nat.le_of_ble_eq_true rfl⟩) hS (fun q h => Or.inr (by omega)) (fun H3 locs hpl hz3 hk3 hS => ?_)
  have hg20 := va_at.kept hf16 (hk3 _ (va_at.lt hf16) (by show ¬ hs = s.heap.size + 2; omega))
  have hg21 := va_at.kept hf17 (hk3 _ (va_at.lt hf17) (by show ¬ s.heap.size = s.heap.size + 2; omega))
  have hg22 := va_at.kept hf18 (hk3 _ (va_at.lt hf18) (by show ¬ (s.heap.size + 1) = s.heap.size + 2; omega))
  refine k_putF (A := (fun q => q = hs ∨ s.heap.size ≤ q)) (C := RX3) (T := TX3) (N := 3) (ty := .object "java/util/ArrayList") (v := .ref (s.heap.size + 2)) hx hb hts hiX3 tyX3 tyX3_ok nmX3 hown hK.1 hg20 (Or.inl rfl) hS rfl 1 (by decide) (hts (.fieldLink RX3 19 "HouseWorkers$Store" "committed" "Ljava/util/ArrayList;") (by decide +kernel)) (fun _ h9 => h9) rfl hin rfl (by decide +kernel) rfl rfl (Nat.le_of_ble_eq_true rfl) dX3_init_23 (fun H23 locs hO24 hz25 hq26 hS => ?_)
  have hf27 := va_at.kept hg21 (hq26 s.heap.size (by omega))
  have hf28 := va_at.kept hg22 (hq26 (s.heap.size + 1) (by omega))
  have hf29 := va_at.kept hpl.1 (hq26 (s.heap.size + 2) (by omega))
  refine lv_aload_n hx hb dX3_init_26 rfl (lv_at hl 0 rfl) ?_
  refine lv_aload_n hx hb dX3_init_27 rfl (lv_at hl 0 rfl) ?_
  refine k_get (C := RX3) (T := TX3) (N := 3) (v := .ref s.heap.size) hx hb hts hiX3 hown hK.1 hO24 rfl 0 (by decide) (hts (.fieldLink RX3 10 "HouseWorkers$Store" "start" "LHouseWorkers$Cells;") (by decide +kernel)) (fun _ h9 => h9) rfl dX3_init_28 ?_
  refine k_put (A := (fun q => q = hs ∨ s.heap.size ≤ q)) (C := RX3) (T := TX3) (N := 3) (ty := .object "HouseWorkers$Cells") (v := .ref s.heap.size) hx hb hts hiX3 tyX3 tyX3_ok nmX3 hown hK.1 hO24 (Or.inl rfl) hS rfl 2 (by decide) (hts (.fieldLink RX3 23 "HouseWorkers$Store" "latest" "LHouseWorkers$Cells;") (by decide +kernel)) (fun _ h9 => h9) rfl (by decide +kernel) rfl rfl (Nat.le_of_ble_eq_true rfl) dX3_init_31 (fun H30 locs hO31 hz32 hq33 hS => ?_)
  have hf34 := va_at.kept hf27 (hq33 s.heap.size (by omega))
  have hf35 := va_at.kept hf28 (hq33 (s.heap.size + 1) (by omega))
  have hf36 := va_at.kept hf29 (hq33 (s.heap.size + 2) (by omega))
  refine W.widen (k := 3) (n := 20) (by decide) (by decide) ?_
  have hsz := hpl.2
  exact k_retv hx hb hr hlocks ⟨hO31, hf34, hf35, hf36, by omega⟩ hS dX3_init_34
