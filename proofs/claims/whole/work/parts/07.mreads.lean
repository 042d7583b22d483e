theorem b2_0 {b : Bool} (h : b2 b = 0) : b = false := by cases b; rfl; exact absurd h (by decide)
theorem b2_n {b : Bool} (h : ¬ b2 b = 0) : b = true := by cases b; exact absurd rfl h; rfl
theorem b2_f {b : Bool} (h : b = false) : b2 b = 0 := by rw [h]; rfl
theorem b2_t {b : Bool} (h : b = true) : b2 b = 1 := by rw [h]; rfl
theorem nxA_0 {σ : Sg} {i : Nat} (h : nxA σ i = false) : nxA σ (i + 1) = false := by rw [nxA, h]; rfl
theorem nxA_s {σ : Sg} {i : Nat} {b : Bool} (h : nxA σ i = true) (h2 : nx1 σ i = b) : nxA σ (i + 1) = b := by rw [nxA, h, h2]; rfl
theorem ipF_1 {σ : Sg} {v : Int32} {i : Nat} (h : ipF σ v i = true) : ipF σ v (i + 1) = true := by rw [ipF, h]; rfl
theorem ipF_s {σ : Sg} {v : Int32} {i : Nat} {b : Bool} (h : ipF σ v i = false) (h2 : decide (pin σ i = v) = b) : ipF σ v (i + 1) = b := by rw [ipF, h, h2]; rfl
theorem kpF_1 {σ : Sg} {v : Int32} {i n : Nat} (h : kpF σ v n i = true) : kpF σ v n (i + 1) = true := by rw [kpF, h]; rfl
theorem kpF_s {σ : Sg} {v : Int32} {i n : Nat} {b : Bool} (h : kpF σ v n i = false) (h2 : kp1 σ v i = b) : kpF σ v n (i + 1) = b := by rw [kpF, h, h2]; rfl
set_option maxHeartbeats 4000000 in
set_option maxRecDepth 100000 in
theorem c_X8_in (l : Launch) {D : va_G} {cI cZ cO : ClassId} {mi : Nat} (H : Heap) (v lo hi : Int32)  : Met l yX8_in wsX8_in ({ frames := 0, cells := 0, slots := 0, locals := 0 }) (Pk D cI cZ cO mi [.int v, .int lo, .int hi] H) (Qpi H (b2 (inB v lo hi))) 0 0 (fun _ => False) := by
  refine Met.ofW (cc := cX8_in) (maxL := 3) (ret := (some .boolean)) (by decide) rfl ?_
  intro p e s m args below meth c s₁ B hml hv
  obtain ⟨rfl, rfl, hK⟩ := hv
  have hx := B.exec
  have hb := B.bytes
  have hr := B.returns
  have hts := atoms_spec (ws := wsX8_in) B.pre
  have hown : s.vm.findClass RX8 = some m.cls := findClass_of_methodNamed B.named
  have hlocks := B.notSynchronized
  have hS : va_S (fun _ => False) s.heap s.heap [] := va_S.rf
  have hl := lv_entry ([.int v, .int lo, .int hi]) (n := 3) (Nat.le_of_ble_eq_true rfl)
  rw [lg_entry_eq]
  generalize (lg_sl ([.int v, .int lo, .int hi]) ++ List.replicate (3 - (lg_sl ([.int v, .int lo, .int hi])).length) Slot.unset).toArray = ls at hl ⊢
  have hl : lv_has ls 3 [(0, .int v), (1, .int lo), (2, .int hi)] := hl
  refine lv_iload_n hx hb dX8_in_0 rfl (lv_at hl 0 rfl) ?_
  refine lv_iload_n hx hb dX8_in_1 rfl (lv_at hl 1 rfl) ?_
  refine lv_icmp_lt (tgt := 14) hx hb dX8_in_2 (by decide) (fun c2 => ?_) (fun c2 => ?_)
  · refine lv_iconst (v := 0) hx hb dX8_in_14 (by decide) ?_
    exact k_retz hx hb hr hlocks (by decide) ⟨(b2_f (by simp [inB, c2])).symm, rfl⟩ hS dX8_in_15
  · refine lv_iload_n hx hb dX8_in_5 rfl (lv_at hl 0 rfl) ?_
    refine lv_iload_n hx hb dX8_in_6 rfl (lv_at hl 2 rfl) ?_
    refine lv_icmp_gt (tgt := 14) hx hb dX8_in_7 (by decide) (fun c7 => ?_) (fun c7 => ?_)
    · refine lv_iconst (v := 0) hx hb dX8_in_14 (by decide) ?_
      exact k_retz hx hb hr hlocks (by decide) ⟨(b2_f (by simp [inB, c2, c7])).symm, rfl⟩ hS dX8_in_15
    · refine lv_iconst (v := 1) hx hb dX8_in_10 (by decide) ?_
      refine lv_goto (tgt := 15) hx hb dX8_in_11 (by decide) ?_
      exact k_retz hx hb hr hlocks (by decide) ⟨(b2_t (by simp [inB, c2, c7])).symm, rfl⟩ hS dX8_in_15
set_option maxHeartbeats 4000000 in
set_option maxRecDepth 100000 in
theorem c_X8_isNext (l : Launch) {D : va_G} {cI cZ cO : ClassId} {mi : Nat} (H : Heap) (m0 : Nat) (ad : Nat → Nat) (σ : Sg) (j : Nat) (hM : MD D cI cZ m0 ad σ H) (hj : j ≤ 30) : Met l yX8_isNext wsX8_isNext ({ frames := 0, cells := 0, slots := 0, locals := 0 }) (Pk D cI cZ cO mi [.ref m0, .int (nI j)] H) (Qpi H (b2 (nxA σ j))) 0 0 (fun _ => False) := by
  refine Met.ofW (cc := cX8_isNext) (maxL := 4) (ret := (some .boolean)) (by decide) rfl ?_
  intro p e s m args below meth c s₁ B hml hv
  obtain ⟨rfl, rfl, hK⟩ := hv
  have hx := B.exec
  have hb := B.bytes
  have hr := B.returns
  have hts := atoms_spec (ws := wsX8_isNext) B.pre
  have hown : s.vm.findClass RX8 = some m.cls := findClass_of_methodNamed B.named
  have hlocks := B.notSynchronized
  have hS : va_S (fun _ => False) s.heap s.heap [] := va_S.rf
  have hl := lv_entry ([.ref m0, .int (nI j)]) (n := 4) (Nat.le_of_ble_eq_true rfl)
  rw [lg_entry_eq]
  generalize (lg_sl ([.ref m0, .int (nI j)]) ++ List.replicate (4 - (lg_sl ([.ref m0, .int (nI j)])).length) Slot.unset).toArray = ls at hl ⊢
  have hl : lv_has ls 4 [(0, .ref m0), (1, .int (nI j))] := hl
  have hiX8 : ∀ w ∈ wsX80, w ∈ wsX8_isNext := by decide +kernel
  refine lv_iconst (v := 1) hx hb dX8_isNext_0 (by decide) ?_
  refine lv_istore_n (lv' := [(2, .int 1), (0, .ref m0), (1, .int (nI j))]) hx hb dX8_isNext_1 rfl hl (by decide) rfl (fun ls hl => ?_)
  refine lv_iconst (v := 0) hx hb dX8_isNext_2 (by decide) ?_
  refine lv_istore_n (lv' := [(3, .int 0), (2, .int 1), (0, .ref m0), (1, .int (nI j))]) hx hb dX8_isNext_3 rfl hl (by decide) rfl (fun ls hl => ?_)
  generalize ([] : List Loc) = locs at hS ⊢
  have loop : ∀ (n : Nat), ∀ (i : Nat), i ≤ j → j + 1 ≤ i + n → ∀ (locs : List Loc), va_S (fun _ => False) s.heap s.heap locs → ∀ ls : Array Slot, lv_has ls 4 [(3, .int (nI i)), (2, .int (b2 (nxA σ i))), (0, .ref m0), (1, .int (nI j))] → W p l e (headSpec wsX8_isNext ({ frames := 0, cells := 0, slots := 0, locals := 0 })).room s m ([.ref m0, .int (nI j)] : List Value).toArray below meth c s.heap locs 0 0 (MQ below (Qpi s.heap (b2 (nxA σ j))) ([.ref m0, .int (nI j)] : List Value).toArray s 0 0 (fun _ => False)) (F0 m 4 ls []) := by
    intro n
    induction n with
    | zero => intro i h1 h2; exact absurd h2 (by omega)
    | succ n ih =>
      intro i hi hn locs hS ls hl
      refine lv_iload_n hx hb dX8_isNext_4 rfl (lv_at hl 0 rfl) ?_
      refine lv_iload_n hx hb dX8_isNext_5 rfl (lv_at hl 3 rfl) ?_
      refine lv_icmp_ge (tgt := 53) hx hb dX8_isNext_6 (by decide) (fun c6 => ?_) (fun c6 => ?_)
      · have c6 := Int32.not_lt.mpr c6
        have hij : i = j := Nat.le_antisymm (by omega) (Nat.le_of_not_lt (fun q => c6 (nI_lt q (by omega))))
        subst hij
        refine lv_iload_n hx hb dX8_isNext_53 rfl (lv_at hl 1 rfl) ?_
        exact k_retz hx hb hr hlocks (b2_nar _) ⟨rfl, rfl⟩ hS dX8_isNext_54
      · have c6 := Int32.not_le.mp c6
        have hlt : i < j := (nI_ltI (by omega) (by omega)).mp c6
        refine lv_iload_n hx hb dX8_isNext_9 rfl (lv_at hl 1 rfl) ?_
        refine lv_if_eq (tgt := 45) hx hb dX8_isNext_10 (by decide) (fun c10 => ?_) (fun c10 => ?_)
        · refine lv_iconst (v := 0) hx hb dX8_isNext_45 (by decide) ?_
          refine lv_istore_n (lv' := [(2, .int 0), (3, .int (nI i)), (0, .ref m0), (1, .int (nI j))]) hx hb dX8_isNext_46 rfl hl (by decide) rfl (fun ls hl => ?_)
          refine lv_iinc (v := nI (i + 1)) (lv' := [(3, .int (nI (i + 1))), (2, .int 0), (0, .ref m0), (1, .int (nI j))]) hx hb dX8_isNext_47 hl (k := 1) rfl (by rw [← nI_1]; rfl) (by decide) rfl (fun ls hl => ?_)
          refine lv_goto (tgt := 4) hx hb dX8_isNext_50 (by decide) ?_
          exact ih (i + 1) (by omega) (by omega) locs hS ls (by rw [(b2_f (nxA_0 (b2_0 c10)))]; exact lv_sub hl [0, 1, 2, 3] rfl)
        · refine lv_aload_n hx hb dX8_isNext_13 rfl (lv_at hl 2 rfl) ?_
          refine k_get (C := RX8) (T := TX8) (N := 22) (v := .ref (ad 12)) hx hb hts hiX8 hown hK.1 hM.1 rfl 12 (by decide) (hts (.fieldLink RX8 41 "HouseWorkersModel" "end" "[I") (by decide +kernel)) (fun _ h9 => h9) rfl dX8_isNext_14 ?_
          refine lv_iload_n hx hb dX8_isNext_17 rfl (lv_at hl 0 rfl) ?_
          refine k_iald (n := 30) (f := (σ 12)) hx hb hK.1 0 (hM.2.1 12 rfl) rfl i rfl (by omega) (by decide) dX8_isNext_18 ?_
          refine lv_if_gt (tgt := 41) hx hb dX8_isNext_19 (by decide) (fun c19 => ?_) (fun c19 => ?_)
          · refine lv_iconst (v := 1) hx hb dX8_isNext_41 (by decide) ?_
            refine lv_goto (tgt := 46) hx hb dX8_isNext_42 (by decide) ?_
            refine lv_istore_n (lv' := [(2, .int 1), (3, .int (nI i)), (0, .ref m0), (1, .int (nI j))]) hx hb dX8_isNext_46 rfl hl (by decide) rfl (fun ls hl => ?_)
            refine lv_iinc (v := nI (i + 1)) (lv' := [(3, .int (nI (i + 1))), (2, .int 1), (0, .ref m0), (1, .int (nI j))]) hx hb dX8_isNext_47 hl (k := 1) rfl (by rw [← nI_1]; rfl) (by decide) rfl (fun ls hl => ?_)
            refine lv_goto (tgt := 4) hx hb dX8_isNext_50 (by decide) ?_
            exact ih (i + 1) (by omega) (by omega) locs hS ls (by rw [(b2_t (nxA_s (b2_n c10) (by simp [nx1, c19])))]; exact lv_sub hl [0, 1, 2, 3] rfl)
          · refine lv_aload_n hx hb dX8_isNext_22 rfl (lv_at hl 2 rfl) ?_
            refine k_get (C := RX8) (T := TX8) (N := 22) (v := .ref (ad 4)) hx hb hts hiX8 hown hK.1 hM.1 rfl 4 (by decide) (hts (.fieldLink RX8 17 "HouseWorkersModel" "kind" "[I") (by decide +kernel)) (fun _ h9 => h9) rfl dX8_isNext_23 ?_
            refine lv_iload_n hx hb dX8_isNext_26 rfl (lv_at hl 0 rfl) ?_
            refine k_iald (n := 30) (f := (σ 4)) hx hb hK.1 0 (hM.2.1 4 rfl) rfl i rfl (by omega) (by decide) dX8_isNext_27 ?_
            refine lv_if_eq (tgt := 41) hx hb dX8_isNext_28 (by decide) (fun c28 => ?_) (fun c28 => ?_)
            · refine lv_iconst (v := 1) hx hb dX8_isNext_41 (by decide) ?_
              refine lv_goto (tgt := 46) hx hb dX8_isNext_42 (by decide) ?_
              refine lv_istore_n (lv' := [(2, .int 1), (3, .int (nI i)), (0, .ref m0), (1, .int (nI j))]) hx hb dX8_isNext_46 rfl hl (by decide) rfl (fun ls hl => ?_)
              refine lv_iinc (v := nI (i + 1)) (lv' := [(3, .int (nI (i + 1))), (2, .int 1), (0, .ref m0), (1, .int (nI j))]) hx hb dX8_isNext_47 hl (k := 1) rfl (by rw [← nI_1]; rfl) (by decide) rfl (fun ls hl => ?_)
              refine lv_goto (tgt := 4) hx hb dX8_isNext_50 (by decide) ?_
              exact ih (i + 1) (by omega) (by omega) locs hS ls (by rw [(b2_t (nxA_s (b2_n c10) (by simp [nx1, c19, c28])))]; exact lv_sub hl [0, 1, 2, 3] rfl)
            · refine lv_aload_n hx hb dX8_isNext_31 rfl (lv_at hl 2 rfl) ?_
              refine k_get (C := RX8) (T := TX8) (N := 22) (v := .ref (ad 4)) hx hb hts hiX8 hown hK.1 hM.1 rfl 4 (by decide) (hts (.fieldLink RX8 17 "HouseWorkersModel" "kind" "[I") (by decide +kernel)) (fun _ h9 => h9) rfl dX8_isNext_32 ?_
              refine lv_iload_n hx hb dX8_isNext_35 rfl (lv_at hl 0 rfl) ?_
              refine k_iald (n := 30) (f := (σ 4)) hx hb hK.1 0 (hM.2.1 4 rfl) rfl i rfl (by omega) (by decide) dX8_isNext_36 ?_
              refine lv_iconst (v := 3) hx hb dX8_isNext_37 (by decide) ?_
              refine lv_icmp_ne (tgt := 45) hx hb dX8_isNext_38 (by decide) (fun c38 => ?_) (fun c38 => ?_)
              · refine lv_iconst (v := 0) hx hb dX8_isNext_45 (by decide) ?_
                refine lv_istore_n (lv' := [(2, .int 0), (3, .int (nI i)), (0, .ref m0), (1, .int (nI j))]) hx hb dX8_isNext_46 rfl hl (by decide) rfl (fun ls hl => ?_)
                refine lv_iinc (v := nI (i + 1)) (lv' := [(3, .int (nI (i + 1))), (2, .int 0), (0, .ref m0), (1, .int (nI j))]) hx hb dX8_isNext_47 hl (k := 1) rfl (by rw [← nI_1]; rfl) (by decide) rfl (fun ls hl => ?_)
                refine lv_goto (tgt := 4) hx hb dX8_isNext_50 (by decide) ?_
                exact ih (i + 1) (by omega) (by omega) locs hS ls (by rw [(b2_f (nxA_s (b2_n c10) (by simp [nx1, c19, c28, c38])))]; exact lv_sub hl [0, 1, 2, 3] rfl)
              · refine lv_iconst (v := 1) hx hb dX8_isNext_41 (by decide) ?_
                refine lv_goto (tgt := 46) hx hb dX8_isNext_42 (by decide) ?_
                refine lv_istore_n (lv' := [(2, .int 1), (3, .int (nI i)), (0, .ref m0), (1, .int (nI j))]) hx hb dX8_isNext_46 rfl hl (by decide) rfl (fun ls hl => ?_)
                refine lv_iinc (v := nI (i + 1)) (lv' := [(3, .int (nI (i + 1))), (2, .int 1), (0, .ref m0), (1, .int (nI j))]) hx hb dX8_isNext_47 hl (k := 1) rfl (by rw [← nI_1]; rfl) (by decide) rfl (fun ls hl => ?_)
                refine lv_goto (tgt := 4) hx hb dX8_isNext_50 (by decide) ?_
                exact ih (i + 1) (by omega) (by omega) locs hS ls (by rw [(b2_t (nxA_s (b2_n c10) (by simp [nx1, c19, c28, c38])))]; exact lv_sub hl [0, 1, 2, 3] rfl)
  exact loop (j + 1) 0 (Nat.zero_le _) (by omega) locs hS ls (lv_sub hl [0, 1, 2, 3] rfl)
theorem tb_out {x : Int32} (h1 : ¬ x = 1) (h2 : ¬ x = 2) (h3 : ¬ x = 3) : x.toInt < 1 ∨ 3 < x.toInt := by
  have a1 : ¬ x.toInt = 1 := lv_neT h1 rfl
  have a2 : ¬ x.toInt = 2 := lv_neT h2 rfl
  have a3 : ¬ x.toInt = 3 := lv_neT h3 rfl
  omega
set_option maxHeartbeats 4000000 in
set_option maxRecDepth 100000 in
theorem c_X8_waits (l : Launch) {D : va_G} {cI cZ cO : ClassId} {mi : Nat} (H : Heap) (m0 : Nat) (ad : Nat → Nat) (σ : Sg) (j : Nat) (hM : MD D cI cZ m0 ad σ H) (hj : j < 30) : Met l yX8_waits wsX8_waits ({ frames := 1, cells := 0, slots := 0, locals := 23 }) (Pk D cI cZ cO mi [.ref m0, .int (nI j)] H) (Qpi H (b2 (wt σ j))) 0 0 (fun _ => False) := by
  refine Met.ofW (cc := cX8_waits) (maxL := 2) (ret := (some .boolean)) (by decide) rfl ?_
  intro p e s m args below meth c s₁ B hml hv
  obtain ⟨rfl, rfl, hK⟩ := hv
  have hx := B.exec
  have hb := B.bytes
  have hr := B.returns
  have hts := atoms_spec (ws := wsX8_waits) B.pre
  have hown : s.vm.findClass RX8 = some m.cls := findClass_of_methodNamed B.named
  have hlocks := B.notSynchronized
  have hS : va_S (fun _ => False) s.heap s.heap [] := va_S.rf
  have hl := lv_entry ([.ref m0, .int (nI j)]) (n := 2) (Nat.le_of_ble_eq_true rfl)
  rw [lg_entry_eq]
  generalize (lg_sl ([.ref m0, .int (nI j)]) ++ List.replicate (2 - (lg_sl ([.ref m0, .int (nI j)])).length) Slot.unset).toArray = ls at hl ⊢
  have hl : lv_has ls 2 [(0, .ref m0), (1, .int (nI j))] := hl
  have hiX8 : ∀ w ∈ wsX80, w ∈ wsX8_waits := by decide +kernel
  refine lv_aload_n hx hb dX8_waits_0 rfl (lv_at hl 0 rfl) ?_
  refine k_get (C := RX8) (T := TX8) (N := 22) (v := .ref (ad 12)) hx hb hts hiX8 hown hK.1 hM.1 rfl 12 (by decide) (hts (.fieldLink RX8 41 "HouseWorkersModel" "end" "[I") (by decide +kernel)) (fun _ h9 => h9) rfl dX8_waits_1 ?_
  refine lv_iload_n hx hb dX8_waits_4 rfl (lv_at hl 1 rfl) ?_
  refine k_iald (n := 30) (f := (σ 12)) hx hb hK.1 0 (hM.2.1 12 rfl) rfl j rfl (by omega) (by decide) dX8_waits_5 ?_
  refine lv_if_le (tgt := 11) hx hb dX8_waits_6 (by decide) (fun c6 => ?_) (fun c6 => ?_)
  · have c6 := Int32.not_lt.mpr c6
    refine lv_aload_n hx hb dX8_waits_11 rfl (lv_at hl 0 rfl) ?_
    refine k_get (C := RX8) (T := TX8) (N := 22) (v := .ref (ad 13)) hx hb hts hiX8 hown hK.1 hM.1 rfl 13 (by decide) (hts (.fieldLink RX8 44 "HouseWorkersModel" "told" "[Z") (by decide +kernel)) (fun _ h9 => h9) rfl dX8_waits_12 ?_
    refine lv_iload_n hx hb dX8_waits_15 rfl (lv_at hl 1 rfl) ?_
    refine k_zald (n := 30) (f := (σ 13)) hx hb hK.1 1 hM.2.2.1 rfl j rfl (by omega) (by decide) dX8_waits_16 ?_
    refine lv_if_eq (tgt := 22) hx hb dX8_waits_17 (by decide) (fun c17 => ?_) (fun c17 => ?_)
    · refine lv_aload_n hx hb dX8_waits_22 rfl (lv_at hl 0 rfl) ?_
      refine k_get (C := RX8) (T := TX8) (N := 22) (v := .ref (ad 4)) hx hb hts hiX8 hown hK.1 hM.1 rfl 4 (by decide) (hts (.fieldLink RX8 17 "HouseWorkersModel" "kind" "[I") (by decide +kernel)) (fun _ h9 => h9) rfl dX8_waits_23 ?_
      refine lv_iload_n hx hb dX8_waits_26 rfl (lv_at hl 1 rfl) ?_
      refine k_iald (n := 30) (f := (σ 4)) hx hb hK.1 0 (hM.2.1 4 rfl) rfl j rfl (by omega) (by decide) dX8_waits_27 ?_
      by_cases k1 : σ 4 j = 1
      · rw [k1]
        refine lv_tableIn (off := 28) (tgt := 56) hx hb dX8_waits_28 (by decide) (by decide) (by decide) (by decide) ?_
        refine lv_aload_n hx hb dX8_waits_56 rfl (lv_at hl 0 rfl) ?_
        refine k_get (C := RX8) (T := TX8) (N := 22) (v := .ref (ad 9)) hx hb hts hiX8 hown hK.1 hM.1 rfl 9 (by decide) (hts (.fieldLink RX8 32 "HouseWorkersModel" "done" "[I") (by decide +kernel)) (fun _ h9 => h9) rfl dX8_waits_57 ?_
        refine lv_iload_n hx hb dX8_waits_60 rfl (lv_at hl 1 rfl) ?_
        refine k_iald (n := 30) (f := (σ 9)) hx hb hK.1 0 (hM.2.1 9 rfl) rfl j rfl (by omega) (by decide) dX8_waits_61 ?_
        refine lv_aload_n hx hb dX8_waits_62 rfl (lv_at hl 0 rfl) ?_
        refine k_get (C := RX8) (T := TX8) (N := 22) (v := .ref (ad 5)) hx hb hts hiX8 hown hK.1 hM.1 rfl 5 (by decide) (hts (.fieldLink RX8 20 "HouseWorkersModel" "steps" "[I") (by decide +kernel)) (fun _ h9 => h9) rfl dX8_waits_63 ?_
        refine lv_iload_n hx hb dX8_waits_66 rfl (lv_at hl 1 rfl) ?_
        refine k_iald (n := 30) (f := (σ 5)) hx hb hK.1 0 (hM.2.1 5 rfl) rfl j rfl (by omega) (by decide) dX8_waits_67 ?_
        refine lv_icmp_ne (tgt := 83) hx hb dX8_waits_68 (by decide) (fun c68 => ?_) (fun c68 => ?_)
        · refine lv_iconst (v := 0) hx hb dX8_waits_83 (by decide) ?_
          exact k_retz hx hb hr hlocks (by decide) ⟨(b2_f (by simp [wt, c6, c17, c68, k1])).symm, rfl⟩ hS dX8_waits_84
        · refine lv_aload_n hx hb dX8_waits_71 rfl (lv_at hl 0 rfl) ?_
          refine lv_iload_n hx hb dX8_waits_72 rfl (lv_at hl 1 rfl) ?_
          refine k_callpi (v := b2 (nxA σ j)) (va_runV (As := [.int (nI j)]) (rest := []) ⟨hx, hb, hml, hown, hts⟩ (c_X8_isNext l _ m0 ad σ j hM (by omega)) (cwV 1 hts gX8_waits_X8_isNext rfl rfl rfl (by decide +kernel) ⟨Nat.le_of_ble_eq_true rfl, Nat.le_of_ble_eq_true rfl⟩) (k_preV hK (k_recv hK.1 hM.1 rfl)) rfl rfl hl.1 rfl (lv_room (Nat.le_of_ble_eq_true rfl)) dX8_waits_73 ⟨(Nat.zero_le _), (Nat.zero_le _)⟩) hS (fun locs hS => ?_)
          refine lv_if_ne (tgt := 83) hx hb dX8_waits_76 (by decide) (fun c76 => ?_) (fun c76 => ?_)
          · refine lv_iconst (v := 0) hx hb dX8_waits_83 (by decide) ?_
            exact k_retz hx hb hr hlocks (by decide) ⟨(b2_f (by simp [wt, c6, c17, c68, b2_n c76, k1])).symm, rfl⟩ hS dX8_waits_84
          · refine lv_iconst (v := 1) hx hb dX8_waits_79 (by decide) ?_
            refine lv_goto (tgt := 84) hx hb dX8_waits_80 (by decide) ?_
            exact k_retz hx hb hr hlocks (by decide) ⟨(b2_t (by simp [wt, c6, c17, c68, b2_0 c76, k1])).symm, rfl⟩ hS dX8_waits_84
      by_cases k2 : σ 4 j = 2
      · rw [k2]
        refine lv_tableIn (off := 57) (tgt := 85) hx hb dX8_waits_28 (by decide) (by decide) (by decide) (by decide) ?_
        refine lv_aload_n hx hb dX8_waits_85 rfl (lv_at hl 0 rfl) ?_
        refine k_get (C := RX8) (T := TX8) (N := 22) (v := .ref (ad 9)) hx hb hts hiX8 hown hK.1 hM.1 rfl 9 (by decide) (hts (.fieldLink RX8 32 "HouseWorkersModel" "done" "[I") (by decide +kernel)) (fun _ h9 => h9) rfl dX8_waits_86 ?_
        refine lv_iload_n hx hb dX8_waits_89 rfl (lv_at hl 1 rfl) ?_
        refine k_iald (n := 30) (f := (σ 9)) hx hb hK.1 0 (hM.2.1 9 rfl) rfl j rfl (by omega) (by decide) dX8_waits_90 ?_
        refine lv_if_ne (tgt := 106) hx hb dX8_waits_91 (by decide) (fun c91 => ?_) (fun c91 => ?_)
        · refine lv_iconst (v := 0) hx hb dX8_waits_106 (by decide) ?_
          exact k_retz hx hb hr hlocks (by decide) ⟨(b2_f (by simp [wt, c6, c17, c91, k1, k2])).symm, rfl⟩ hS dX8_waits_107
        · refine lv_aload_n hx hb dX8_waits_94 rfl (lv_at hl 0 rfl) ?_
          refine lv_iload_n hx hb dX8_waits_95 rfl (lv_at hl 1 rfl) ?_
          refine k_callpi (v := b2 (nxA σ j)) (va_runV (As := [.int (nI j)]) (rest := []) ⟨hx, hb, hml, hown, hts⟩ (c_X8_isNext l _ m0 ad σ j hM (by omega)) (cwV 1 hts gX8_waits_X8_isNext rfl rfl rfl (by decide +kernel) ⟨Nat.le_of_ble_eq_true rfl, Nat.le_of_ble_eq_true rfl⟩) (k_preV hK (k_recv hK.1 hM.1 rfl)) rfl rfl hl.1 rfl (lv_room (Nat.le_of_ble_eq_true rfl)) dX8_waits_96 ⟨(Nat.zero_le _), (Nat.zero_le _)⟩) hS (fun locs hS => ?_)
          refine lv_if_ne (tgt := 106) hx hb dX8_waits_99 (by decide) (fun c99 => ?_) (fun c99 => ?_)
          · refine lv_iconst (v := 0) hx hb dX8_waits_106 (by decide) ?_
            exact k_retz hx hb hr hlocks (by decide) ⟨(b2_f (by simp [wt, c6, c17, c91, b2_n c99, k1, k2])).symm, rfl⟩ hS dX8_waits_107
          · refine lv_iconst (v := 1) hx hb dX8_waits_102 (by decide) ?_
            refine lv_goto (tgt := 107) hx hb dX8_waits_103 (by decide) ?_
            exact k_retz hx hb hr hlocks (by decide) ⟨(b2_t (by simp [wt, c6, c17, c91, b2_0 c99, k1, k2])).symm, rfl⟩ hS dX8_waits_107
      by_cases k3 : σ 4 j = 3
      · rw [k3]
        refine lv_tableIn (off := 80) (tgt := 108) hx hb dX8_waits_28 (by decide) (by decide) (by decide) (by decide) ?_
        refine lv_aload_n hx hb dX8_waits_108 rfl (lv_at hl 0 rfl) ?_
        refine k_get (C := RX8) (T := TX8) (N := 22) (v := .ref (ad 11)) hx hb hts hiX8 hown hK.1 hM.1 rfl 11 (by decide) (hts (.fieldLink RX8 38 "HouseWorkersModel" "version" "[I") (by decide +kernel)) (fun _ h9 => h9) rfl dX8_waits_109 ?_
        refine lv_iload_n hx hb dX8_waits_112 rfl (lv_at hl 1 rfl) ?_
        refine k_iald (n := 30) (f := (σ 11)) hx hb hK.1 0 (hM.2.1 11 rfl) rfl j rfl (by omega) (by decide) dX8_waits_113 ?_
        refine lv_aload_n hx hb dX8_waits_114 rfl (lv_at hl 0 rfl) ?_
        refine k_get (C := RX8) (T := TX8) (N := 22) (v := .int (σ 1 0)) hx hb hts hiX8 hown hK.1 hM.1 rfl 1 (by decide) (hts (.fieldLink RX8 13 "HouseWorkersModel" "versions" "I") (by decide +kernel)) (fun _ h9 => h9) rfl dX8_waits_115 ?_
        refine lv_iconst (v := 1) hx hb dX8_waits_118 (by decide) ?_
        refine lv_isub hx hb dX8_waits_119 ?_
        refine lv_icmp_ne (tgt := 127) hx hb dX8_waits_120 (by decide) (fun c120 => ?_) (fun c120 => ?_)
        · refine lv_iconst (v := 0) hx hb dX8_waits_127 (by decide) ?_
          exact k_retz hx hb hr hlocks (by decide) ⟨(b2_f (by simp [wt, c6, c17, c120, k1, k2, k3])).symm, rfl⟩ hS dX8_waits_128
        · refine lv_iconst (v := 1) hx hb dX8_waits_123 (by decide) ?_
          refine lv_goto (tgt := 128) hx hb dX8_waits_124 (by decide) ?_
          exact k_retz hx hb hr hlocks (by decide) ⟨(b2_t (by simp [wt, c6, c17, c120, k1, k2, k3])).symm, rfl⟩ hS dX8_waits_128
      refine lv_tableOut (tgt := 129) hx hb dX8_waits_28 (tb_out k1 k2 k3) (by decide) ?_
      refine lv_iconst (v := 0) hx hb dX8_waits_129 (by decide) ?_
      exact k_retz hx hb hr hlocks (by decide) ⟨(b2_f (by simp [wt, c6, c17, k1, k2, k3])).symm, rfl⟩ hS dX8_waits_130
    · refine lv_iconst (v := 0) hx hb dX8_waits_20 (by decide) ?_
      exact k_retz hx hb hr hlocks (by decide) ⟨(b2_f (by simp [wt, c6, c17])).symm, rfl⟩ hS dX8_waits_21
  · have c6 := Int32.not_le.mp c6
    refine lv_iconst (v := 1) hx hb dX8_waits_9 (by decide) ?_
    exact k_retz hx hb hr hlocks (by decide) ⟨(b2_t (by simp [wt, c6])).symm, rfl⟩ hS dX8_waits_10
set_option maxHeartbeats 4000000 in
set_option maxRecDepth 100000 in
theorem c_X8_pinned (l : Launch) {D : va_G} {cI cZ cO : ClassId} {mi : Nat} (H : Heap) (m0 : Nat) (ad : Nat → Nat) (σ : Sg) (j : Nat) (hM : MD D cI cZ m0 ad σ H) (hj : j < 30) : Met l yX8_pinned wsX8_pinned ({ frames := 0, cells := 0, slots := 0, locals := 0 }) (Pk D cI cZ cO mi [.ref m0, .int (nI j)] H) (Qpi H (pin σ j)) 0 0 (fun _ => False) := by
  refine Met.ofW (cc := cX8_pinned) (maxL := 3) (ret := (some .int)) (by decide) rfl ?_
  intro p e s m args below meth c s₁ B hml hv
  obtain ⟨rfl, rfl, hK⟩ := hv
  have hx := B.exec
  have hb := B.bytes
  have hr := B.returns
  have hts := atoms_spec (ws := wsX8_pinned) B.pre
  have hown : s.vm.findClass RX8 = some m.cls := findClass_of_methodNamed B.named
  have hlocks := B.notSynchronized
  have hS : va_S (fun _ => False) s.heap s.heap [] := va_S.rf
  have hl := lv_entry ([.ref m0, .int (nI j)]) (n := 3) (Nat.le_of_ble_eq_true rfl)
  rw [lg_entry_eq]
  generalize (lg_sl ([.ref m0, .int (nI j)]) ++ List.replicate (3 - (lg_sl ([.ref m0, .int (nI j)])).length) Slot.unset).toArray = ls at hl ⊢
  have hl : lv_has ls 3 [(0, .ref m0), (1, .int (nI j))] := hl
  have hiX8 : ∀ w ∈ wsX80, w ∈ wsX8_pinned := by decide +kernel
  refine lv_aload_n hx hb dX8_pinned_0 rfl (lv_at hl 0 rfl) ?_
  refine k_get (C := RX8) (T := TX8) (N := 22) (v := .ref (ad 12)) hx hb hts hiX8 hown hK.1 hM.1 rfl 12 (by decide) (hts (.fieldLink RX8 41 "HouseWorkersModel" "end" "[I") (by decide +kernel)) (fun _ h9 => h9) rfl dX8_pinned_1 ?_
  refine lv_iload_n hx hb dX8_pinned_4 rfl (lv_at hl 1 rfl) ?_
  refine k_iald (n := 30) (f := (σ 12)) hx hb hK.1 0 (hM.2.1 12 rfl) rfl j rfl (by omega) (by decide) dX8_pinned_5 ?_
  refine lv_if_ne (tgt := 32) hx hb dX8_pinned_6 (by decide) (fun c6 => ?_) (fun c6 => ?_)
  · refine lv_iconst (v := 0) hx hb dX8_pinned_32 (by decide) ?_
    refine lv_istore_n (lv' := [(2, .int 0), (0, .ref m0), (1, .int (nI j))]) hx hb dX8_pinned_33 rfl hl (by decide) rfl (fun ls hl => ?_)
    refine lv_iload_n hx hb dX8_pinned_34 rfl (lv_at hl 0 rfl) ?_
    refine lv_if_eq (tgt := 47) hx hb dX8_pinned_35 (by decide) (fun c35 => ?_) (fun c35 => ?_)
    · refine lv_iconst (v := -1) hx hb dX8_pinned_47 (by decide) ?_
      exact k_reti hx hb hr hlocks ⟨by simp [pin, c6], rfl⟩ hS dX8_pinned_48
    · exact absurd c35 (by decide)
  · refine lv_aload_n hx hb dX8_pinned_9 rfl (lv_at hl 0 rfl) ?_
    refine k_get (C := RX8) (T := TX8) (N := 22) (v := .ref (ad 4)) hx hb hts hiX8 hown hK.1 hM.1 rfl 4 (by decide) (hts (.fieldLink RX8 17 "HouseWorkersModel" "kind" "[I") (by decide +kernel)) (fun _ h9 => h9) rfl dX8_pinned_10 ?_
    refine lv_iload_n hx hb dX8_pinned_13 rfl (lv_at hl 1 rfl) ?_
    refine k_iald (n := 30) (f := (σ 4)) hx hb hK.1 0 (hM.2.1 4 rfl) rfl j rfl (by omega) (by decide) dX8_pinned_14 ?_
    refine lv_if_eq (tgt := 28) hx hb dX8_pinned_15 (by decide) (fun c15 => ?_) (fun c15 => ?_)
    · refine lv_iconst (v := 1) hx hb dX8_pinned_28 (by decide) ?_
      refine lv_goto (tgt := 33) hx hb dX8_pinned_29 (by decide) ?_
      refine lv_istore_n (lv' := [(2, .int 1), (0, .ref m0), (1, .int (nI j))]) hx hb dX8_pinned_33 rfl hl (by decide) rfl (fun ls hl => ?_)
      refine lv_iload_n hx hb dX8_pinned_34 rfl (lv_at hl 0 rfl) ?_
      refine lv_if_eq (tgt := 47) hx hb dX8_pinned_35 (by decide) (fun c35 => ?_) (fun c35 => ?_)
      · exact absurd c35 (by decide)
      · refine lv_aload_n hx hb dX8_pinned_38 rfl (lv_at hl 1 rfl) ?_
        refine k_get (C := RX8) (T := TX8) (N := 22) (v := .ref (ad 11)) hx hb hts hiX8 hown hK.1 hM.1 rfl 11 (by decide) (hts (.fieldLink RX8 38 "HouseWorkersModel" "version" "[I") (by decide +kernel)) (fun _ h9 => h9) rfl dX8_pinned_39 ?_
        refine lv_iload_n hx hb dX8_pinned_42 rfl (lv_at hl 2 rfl) ?_
        refine k_iald (n := 30) (f := (σ 11)) hx hb hK.1 0 (hM.2.1 11 rfl) rfl j rfl (by omega) (by decide) dX8_pinned_43 ?_
        refine lv_goto (tgt := 48) hx hb dX8_pinned_44 (by decide) ?_
        exact k_reti hx hb hr hlocks ⟨by simp [pin, c6, c15], rfl⟩ hS dX8_pinned_48
    · refine lv_aload_n hx hb dX8_pinned_18 rfl (lv_at hl 0 rfl) ?_
      refine k_get (C := RX8) (T := TX8) (N := 22) (v := .ref (ad 4)) hx hb hts hiX8 hown hK.1 hM.1 rfl 4 (by decide) (hts (.fieldLink RX8 17 "HouseWorkersModel" "kind" "[I") (by decide +kernel)) (fun _ h9 => h9) rfl dX8_pinned_19 ?_
      refine lv_iload_n hx hb dX8_pinned_22 rfl (lv_at hl 1 rfl) ?_
      refine k_iald (n := 30) (f := (σ 4)) hx hb hK.1 0 (hM.2.1 4 rfl) rfl j rfl (by omega) (by decide) dX8_pinned_23 ?_
      refine lv_iconst (v := 2) hx hb dX8_pinned_24 (by decide) ?_
      refine lv_icmp_ne (tgt := 32) hx hb dX8_pinned_25 (by decide) (fun c25 => ?_) (fun c25 => ?_)
      · refine lv_iconst (v := 0) hx hb dX8_pinned_32 (by decide) ?_
        refine lv_istore_n (lv' := [(2, .int 0), (0, .ref m0), (1, .int (nI j))]) hx hb dX8_pinned_33 rfl hl (by decide) rfl (fun ls hl => ?_)
        refine lv_iload_n hx hb dX8_pinned_34 rfl (lv_at hl 0 rfl) ?_
        refine lv_if_eq (tgt := 47) hx hb dX8_pinned_35 (by decide) (fun c35 => ?_) (fun c35 => ?_)
        · refine lv_iconst (v := -1) hx hb dX8_pinned_47 (by decide) ?_
          exact k_reti hx hb hr hlocks ⟨by simp [pin, c6, c15, c25], rfl⟩ hS dX8_pinned_48
        · exact absurd c35 (by decide)
      · refine lv_iconst (v := 1) hx hb dX8_pinned_28 (by decide) ?_
        refine lv_goto (tgt := 33) hx hb dX8_pinned_29 (by decide) ?_
        refine lv_istore_n (lv' := [(2, .int 1), (0, .ref m0), (1, .int (nI j))]) hx hb dX8_pinned_33 rfl hl (by decide) rfl (fun ls hl => ?_)
        refine lv_iload_n hx hb dX8_pinned_34 rfl (lv_at hl 0 rfl) ?_
        refine lv_if_eq (tgt := 47) hx hb dX8_pinned_35 (by decide) (fun c35 => ?_) (fun c35 => ?_)
        · exact absurd c35 (by decide)
        · refine lv_aload_n hx hb dX8_pinned_38 rfl (lv_at hl 1 rfl) ?_
          refine k_get (C := RX8) (T := TX8) (N := 22) (v := .ref (ad 11)) hx hb hts hiX8 hown hK.1 hM.1 rfl 11 (by decide) (hts (.fieldLink RX8 38 "HouseWorkersModel" "version" "[I") (by decide +kernel)) (fun _ h9 => h9) rfl dX8_pinned_39 ?_
          refine lv_iload_n hx hb dX8_pinned_42 rfl (lv_at hl 2 rfl) ?_
          refine k_iald (n := 30) (f := (σ 11)) hx hb hK.1 0 (hM.2.1 11 rfl) rfl j rfl (by omega) (by decide) dX8_pinned_43 ?_
          refine lv_goto (tgt := 48) hx hb dX8_pinned_44 (by decide) ?_
          exact k_reti hx hb hr hlocks ⟨by simp [pin, c6, c15, c25], rfl⟩ hS dX8_pinned_48
set_option maxHeartbeats 4000000 in
set_option maxRecDepth 100000 in
theorem c_X8_isPinned (l : Launch) {D : va_G} {cI cZ cO : ClassId} {mi : Nat} (H : Heap) (m0 : Nat) (ad : Nat → Nat) (σ : Sg) (nW : Nat) (v : Int32) (hM : MD D cI cZ m0 ad σ H) (hW : σ 3 0 = nI nW) (hn : nW ≤ 30) : Met l yX8_isPinned wsX8_isPinned ({ frames := 1, cells := 0, slots := 0, locals := 22 }) (Pk D cI cZ cO mi [.ref m0, .int v] H) (Qpi H (b2 (ipF σ v nW))) 0 0 (fun _ => False) := by
  refine Met.ofW (cc := cX8_isPinned) (maxL := 4) (ret := (some .boolean)) (by decide) rfl ?_
  intro p e s m args below meth c s₁ B hml hv
  obtain ⟨rfl, rfl, hK⟩ := hv
  have hx := B.exec
  have hb := B.bytes
  have hr := B.returns
  have hts := atoms_spec (ws := wsX8_isPinned) B.pre
  have hown : s.vm.findClass RX8 = some m.cls := findClass_of_methodNamed B.named
  have hlocks := B.notSynchronized
  have hS : va_S (fun _ => False) s.heap s.heap [] := va_S.rf
  have hl := lv_entry ([.ref m0, .int v]) (n := 4) (Nat.le_of_ble_eq_true rfl)
  rw [lg_entry_eq]
  generalize (lg_sl ([.ref m0, .int v]) ++ List.replicate (4 - (lg_sl ([.ref m0, .int v])).length) Slot.unset).toArray = ls at hl ⊢
  have hl : lv_has ls 4 [(0, .ref m0), (1, .int v)] := hl
  have hiX8 : ∀ w ∈ wsX80, w ∈ wsX8_isPinned := by decide +kernel
  refine lv_iconst (v := 0) hx hb dX8_isPinned_0 (by decide) ?_
  refine lv_istore_n (lv' := [(2, .int 0), (0, .ref m0), (1, .int v)]) hx hb dX8_isPinned_1 rfl hl (by decide) rfl (fun ls hl => ?_)
  refine lv_iconst (v := 0) hx hb dX8_isPinned_2 (by decide) ?_
  refine lv_istore_n (lv' := [(3, .int 0), (2, .int 0), (0, .ref m0), (1, .int v)]) hx hb dX8_isPinned_3 rfl hl (by decide) rfl (fun ls hl => ?_)
  generalize ([] : List Loc) = locs at hS ⊢
  have loop : ∀ (n : Nat), ∀ (i : Nat), i ≤ nW → nW + 1 ≤ i + n → ∀ (locs : List Loc), va_S (fun _ => False) s.heap s.heap locs → ∀ ls : Array Slot, lv_has ls 4 [(3, .int (nI i)), (2, .int (b2 (ipF σ v i))), (0, .ref m0), (1, .int v)] → W p l e (headSpec wsX8_isPinned ({ frames := 1, cells := 0, slots := 0, locals := 22 })).room s m ([.ref m0, .int v] : List Value).toArray below meth c s.heap locs 0 0 (MQ below (Qpi s.heap (b2 (ipF σ v nW))) ([.ref m0, .int v] : List Value).toArray s 0 0 (fun _ => False)) (F0 m 4 ls []) := by
    intro n
    induction n with
    | zero => intro i h1 h2; exact absurd h2 (by omega)
    | succ n ih =>
      intro i hi hn2 locs hS ls hl
      refine lv_iload_n hx hb dX8_isPinned_4 rfl (lv_at hl 0 rfl) ?_
      refine lv_aload_n hx hb dX8_isPinned_5 rfl (lv_at hl 2 rfl) ?_
      refine k_get (C := RX8) (T := TX8) (N := 22) (v := .int (σ 3 0)) hx hb hts hiX8 hown hK.1 hM.1 rfl 3 (by decide) (hts (.fieldLink RX8 67 "HouseWorkersModel" "workers" "I") (by decide +kernel)) (fun _ h9 => h9) rfl dX8_isPinned_6 ?_
      refine lv_icmp_ge (tgt := 37) hx hb dX8_isPinned_9 (by decide) (fun c9 => ?_) (fun c9 => ?_)
      · have c9 := Int32.not_lt.mpr c9
        rw [hW] at c9
        have hij : i = nW := Nat.le_antisymm (by omega) (Nat.le_of_not_lt (fun q => c9 (nI_lt q (by omega))))
        subst hij
        refine lv_iload_n hx hb dX8_isPinned_37 rfl (lv_at hl 1 rfl) ?_
        exact k_retz hx hb hr hlocks (b2_nar _) ⟨rfl, rfl⟩ hS dX8_isPinned_38
      · have c9 := Int32.not_le.mp c9
        rw [hW] at c9
        have hlt : i < nW := (nI_ltI (by omega) (by omega)).mp c9
        refine lv_iload_n hx hb dX8_isPinned_12 rfl (lv_at hl 1 rfl) ?_
        refine lv_if_ne (tgt := 25) hx hb dX8_isPinned_13 (by decide) (fun c13 => ?_) (fun c13 => ?_)
        · refine lv_iconst (v := 1) hx hb dX8_isPinned_25 (by decide) ?_
          refine lv_goto (tgt := 30) hx hb dX8_isPinned_26 (by decide) ?_
          refine lv_istore_n (lv' := [(2, .int 1), (3, .int (nI i)), (0, .ref m0), (1, .int v)]) hx hb dX8_isPinned_30 rfl hl (by decide) rfl (fun ls hl => ?_)
          refine lv_iinc (v := nI (i + 1)) (lv' := [(3, .int (nI (i + 1))), (2, .int 1), (0, .ref m0), (1, .int v)]) hx hb dX8_isPinned_31 hl (k := 1) rfl (by rw [← nI_1]; rfl) (by decide) rfl (fun ls hl => ?_)
          refine lv_goto (tgt := 4) hx hb dX8_isPinned_34 (by decide) ?_
          exact ih (i + 1) (by omega) (by omega) locs hS ls (by rw [(b2_t (ipF_1 (b2_n c13)))]; exact lv_sub hl [0, 1, 2, 3] rfl)
        · refine lv_aload_n hx hb dX8_isPinned_16 rfl (lv_at hl 2 rfl) ?_
          refine lv_iload_n hx hb dX8_isPinned_17 rfl (lv_at hl 0 rfl) ?_
          refine k_callpi (v := pin σ i) (va_runV (As := [.int (nI i)]) (rest := []) ⟨hx, hb, hml, hown, hts⟩ (c_X8_pinned l _ m0 ad σ i hM (by omega)) (cwV 1 hts gX8_isPinned_X8_pinned rfl rfl rfl (by decide +kernel) ⟨Nat.le_of_ble_eq_true rfl, Nat.le_of_ble_eq_true rfl⟩) (k_preV hK (k_recv hK.1 hM.1 rfl)) rfl rfl hl.1 rfl (lv_room (Nat.le_of_ble_eq_true rfl)) dX8_isPinned_18 ⟨(Nat.zero_le _), (Nat.zero_le _)⟩) hS (fun locs hS => ?_)
          refine lv_iload_n hx hb dX8_isPinned_21 rfl (lv_at hl 3 rfl) ?_
          refine lv_icmp_ne (tgt := 29) hx hb dX8_isPinned_22 (by decide) (fun c22 => ?_) (fun c22 => ?_)
          · refine lv_iconst (v := 0) hx hb dX8_isPinned_29 (by decide) ?_
            refine lv_istore_n (lv' := [(2, .int 0), (3, .int (nI i)), (0, .ref m0), (1, .int v)]) hx hb dX8_isPinned_30 rfl hl (by decide) rfl (fun ls hl => ?_)
            refine lv_iinc (v := nI (i + 1)) (lv' := [(3, .int (nI (i + 1))), (2, .int 0), (0, .ref m0), (1, .int v)]) hx hb dX8_isPinned_31 hl (k := 1) rfl (by rw [← nI_1]; rfl) (by decide) rfl (fun ls hl => ?_)
            refine lv_goto (tgt := 4) hx hb dX8_isPinned_34 (by decide) ?_
            exact ih (i + 1) (by omega) (by omega) locs hS ls (by rw [(b2_f (ipF_s (b2_0 c13) (by simp [c22])))]; exact lv_sub hl [0, 1, 2, 3] rfl)
          · refine lv_iconst (v := 1) hx hb dX8_isPinned_25 (by decide) ?_
            refine lv_goto (tgt := 30) hx hb dX8_isPinned_26 (by decide) ?_
            refine lv_istore_n (lv' := [(2, .int 1), (3, .int (nI i)), (0, .ref m0), (1, .int v)]) hx hb dX8_isPinned_30 rfl hl (by decide) rfl (fun ls hl => ?_)
            refine lv_iinc (v := nI (i + 1)) (lv' := [(3, .int (nI (i + 1))), (2, .int 1), (0, .ref m0), (1, .int v)]) hx hb dX8_isPinned_31 hl (k := 1) rfl (by rw [← nI_1]; rfl) (by decide) rfl (fun ls hl => ?_)
            refine lv_goto (tgt := 4) hx hb dX8_isPinned_34 (by decide) ?_
            exact ih (i + 1) (by omega) (by omega) locs hS ls (by rw [(b2_t (ipF_s (b2_0 c13) (by simp [c22])))]; exact lv_sub hl [0, 1, 2, 3] rfl)
  exact loop (nW + 1) 0 (Nat.zero_le _) (by omega) locs hS ls (lv_sub hl [0, 1, 2, 3] rfl)
set_option maxHeartbeats 4000000 in
set_option maxRecDepth 100000 in
theorem c_X8_isKept (l : Launch) {D : va_G} {cI cZ cO : ClassId} {mi : Nat} (H : Heap) (m0 : Nat) (ad : Nat → Nat) (σ : Sg) (nW : Nat) (v : Int32) (hM : MD D cI cZ m0 ad σ H) (hW : σ 3 0 = nI nW) (hn : nW ≤ 30) : Met l yX8_isKept wsX8_isKept ({ frames := 2, cells := 0, slots := 0, locals := 45 }) (Pk D cI cZ cO mi [.ref m0, .int v] H) (Qpi H (b2 (kept σ v nW))) 0 0 (fun _ => False) := by
  refine Met.ofW (cc := cX8_isKept) (maxL := 4) (ret := (some .boolean)) (by decide) rfl ?_
  intro p e s m args below meth c s₁ B hml hv
  obtain ⟨rfl, rfl, hK⟩ := hv
  have hx := B.exec
  have hb := B.bytes
  have hr := B.returns
  have hts := atoms_spec (ws := wsX8_isKept) B.pre
  have hown : s.vm.findClass RX8 = some m.cls := findClass_of_methodNamed B.named
  have hlocks := B.notSynchronized
  have hS : va_S (fun _ => False) s.heap s.heap [] := va_S.rf
  have hl := lv_entry ([.ref m0, .int v]) (n := 4) (Nat.le_of_ble_eq_true rfl)
  rw [lg_entry_eq]
  generalize (lg_sl ([.ref m0, .int v]) ++ List.replicate (4 - (lg_sl ([.ref m0, .int v])).length) Slot.unset).toArray = ls at hl ⊢
  have hl : lv_has ls 4 [(0, .ref m0), (1, .int v)] := hl
  have hiX8 : ∀ w ∈ wsX80, w ∈ wsX8_isKept := by decide +kernel
  have loop : ∀ (n : Nat), ∀ (i : Nat), i ≤ nW → nW + 1 ≤ i + n → ∀ (locs : List Loc), va_S (fun _ => False) s.heap s.heap locs → ∀ ls : Array Slot, lv_has ls 4 [(3, .int (nI i)), (2, .int (b2 (kpF σ v nW i))), (0, .ref m0), (1, .int v)] → W p l e (headSpec wsX8_isKept ({ frames := 2, cells := 0, slots := 0, locals := 45 })).room s m ([.ref m0, .int v] : List Value).toArray below meth c s.heap locs 0 0 (MQ below (Qpi s.heap (b2 (kept σ v nW))) ([.ref m0, .int v] : List Value).toArray s 0 0 (fun _ => False)) (F0 m 26 ls []) := by
    intro n
    induction n with
    | zero => intro i h1 h2; exact absurd h2 (by omega)
    | succ n ih =>
      intro i hi hn2 locs hS ls hl
      refine lv_iload_n hx hb dX8_isKept_26 rfl (lv_at hl 0 rfl) ?_
      refine lv_aload_n hx hb dX8_isKept_27 rfl (lv_at hl 2 rfl) ?_
      refine k_get (C := RX8) (T := TX8) (N := 22) (v := .int (σ 3 0)) hx hb hts hiX8 hown hK.1 hM.1 rfl 3 (by decide) (hts (.fieldLink RX8 67 "HouseWorkersModel" "workers" "I") (by decide +kernel)) (fun _ h9 => h9) rfl dX8_isKept_28 ?_
      refine lv_icmp_ge (tgt := 79) hx hb dX8_isKept_31 (by decide) (fun c31 => ?_) (fun c31 => ?_)
      · have c31 := Int32.not_lt.mpr c31
        rw [hW] at c31
        have hij : i = nW := Nat.le_antisymm (by omega) (Nat.le_of_not_lt (fun q => c31 (nI_lt q (by omega))))
        subst hij
        refine lv_iload_n hx hb dX8_isKept_79 rfl (lv_at hl 1 rfl) ?_
        exact k_retz hx hb hr hlocks (b2_nar _) ⟨rfl, rfl⟩ hS dX8_isKept_80
      · have c31 := Int32.not_le.mp c31
        rw [hW] at c31
        have hlt : i < nW := (nI_ltI (by omega) (by omega)).mp c31
        refine lv_iload_n hx hb dX8_isKept_34 rfl (lv_at hl 1 rfl) ?_
        refine lv_if_ne (tgt := 67) hx hb dX8_isKept_35 (by decide) (fun c35 => ?_) (fun c35 => ?_)
        · refine lv_iconst (v := 1) hx hb dX8_isKept_67 (by decide) ?_
          refine lv_goto (tgt := 72) hx hb dX8_isKept_68 (by decide) ?_
          refine lv_istore_n (lv' := [(2, .int 1), (3, .int (nI i)), (0, .ref m0), (1, .int v)]) hx hb dX8_isKept_72 rfl hl (by decide) rfl (fun ls hl => ?_)
          refine lv_iinc (v := nI (i + 1)) (lv' := [(3, .int (nI (i + 1))), (2, .int 1), (0, .ref m0), (1, .int v)]) hx hb dX8_isKept_73 hl (k := 1) rfl (by rw [← nI_1]; rfl) (by decide) rfl (fun ls hl => ?_)
          refine lv_goto (tgt := 26) hx hb dX8_isKept_76 (by decide) ?_
          exact ih (i + 1) (by omega) (by omega) locs hS ls (by rw [(b2_t (kpF_1 (b2_n c35)))]; exact lv_sub hl [0, 1, 2, 3] rfl)
        · refine lv_aload_n hx hb dX8_isKept_38 rfl (lv_at hl 2 rfl) ?_
          refine k_get (C := RX8) (T := TX8) (N := 22) (v := .ref (ad 4)) hx hb hts hiX8 hown hK.1 hM.1 rfl 4 (by decide) (hts (.fieldLink RX8 17 "HouseWorkersModel" "kind" "[I") (by decide +kernel)) (fun _ h9 => h9) rfl dX8_isKept_39 ?_
          refine lv_iload_n hx hb dX8_isKept_42 rfl (lv_at hl 0 rfl) ?_
          refine k_iald (n := 30) (f := (σ 4)) hx hb hK.1 0 (hM.2.1 4 rfl) rfl i rfl (by omega) (by decide) dX8_isKept_43 ?_
          refine lv_iconst (v := 3) hx hb dX8_isKept_44 (by decide) ?_
          refine lv_icmp_ne (tgt := 71) hx hb dX8_isKept_45 (by decide) (fun c45 => ?_) (fun c45 => ?_)
          · refine lv_iconst (v := 0) hx hb dX8_isKept_71 (by decide) ?_
            refine lv_istore_n (lv' := [(2, .int 0), (3, .int (nI i)), (0, .ref m0), (1, .int v)]) hx hb dX8_isKept_72 rfl hl (by decide) rfl (fun ls hl => ?_)
            refine lv_iinc (v := nI (i + 1)) (lv' := [(3, .int (nI (i + 1))), (2, .int 0), (0, .ref m0), (1, .int v)]) hx hb dX8_isKept_73 hl (k := 1) rfl (by rw [← nI_1]; rfl) (by decide) rfl (fun ls hl => ?_)
            refine lv_goto (tgt := 26) hx hb dX8_isKept_76 (by decide) ?_
            exact ih (i + 1) (by omega) (by omega) locs hS ls (by rw [(b2_f (kpF_s (b2_0 c35) (by simp [kp1, c45])))]; exact lv_sub hl [0, 1, 2, 3] rfl)
          · refine lv_aload_n hx hb dX8_isKept_48 rfl (lv_at hl 2 rfl) ?_
            refine k_get (C := RX8) (T := TX8) (N := 22) (v := .ref (ad 12)) hx hb hts hiX8 hown hK.1 hM.1 rfl 12 (by decide) (hts (.fieldLink RX8 41 "HouseWorkersModel" "end" "[I") (by decide +kernel)) (fun _ h9 => h9) rfl dX8_isKept_49 ?_
            refine lv_iload_n hx hb dX8_isKept_52 rfl (lv_at hl 0 rfl) ?_
            refine k_iald (n := 30) (f := (σ 12)) hx hb hK.1 0 (hM.2.1 12 rfl) rfl i rfl (by omega) (by decide) dX8_isKept_53 ?_
            refine lv_if_ne (tgt := 71) hx hb dX8_isKept_54 (by decide) (fun c54 => ?_) (fun c54 => ?_)
            · refine lv_iconst (v := 0) hx hb dX8_isKept_71 (by decide) ?_
              refine lv_istore_n (lv' := [(2, .int 0), (3, .int (nI i)), (0, .ref m0), (1, .int v)]) hx hb dX8_isKept_72 rfl hl (by decide) rfl (fun ls hl => ?_)
              refine lv_iinc (v := nI (i + 1)) (lv' := [(3, .int (nI (i + 1))), (2, .int 0), (0, .ref m0), (1, .int v)]) hx hb dX8_isKept_73 hl (k := 1) rfl (by rw [← nI_1]; rfl) (by decide) rfl (fun ls hl => ?_)
              refine lv_goto (tgt := 26) hx hb dX8_isKept_76 (by decide) ?_
              exact ih (i + 1) (by omega) (by omega) locs hS ls (by rw [(b2_f (kpF_s (b2_0 c35) (by simp [kp1, c45, c54])))]; exact lv_sub hl [0, 1, 2, 3] rfl)
            · refine lv_aload_n hx hb dX8_isKept_57 rfl (lv_at hl 2 rfl) ?_
              refine k_get (C := RX8) (T := TX8) (N := 22) (v := .ref (ad 11)) hx hb hts hiX8 hown hK.1 hM.1 rfl 11 (by decide) (hts (.fieldLink RX8 38 "HouseWorkersModel" "version" "[I") (by decide +kernel)) (fun _ h9 => h9) rfl dX8_isKept_58 ?_
              refine lv_iload_n hx hb dX8_isKept_61 rfl (lv_at hl 0 rfl) ?_
              refine k_iald (n := 30) (f := (σ 11)) hx hb hK.1 0 (hM.2.1 11 rfl) rfl i rfl (by omega) (by decide) dX8_isKept_62 ?_
              refine lv_iload_n hx hb dX8_isKept_63 rfl (lv_at hl 3 rfl) ?_
              refine lv_icmp_ge (tgt := 71) hx hb dX8_isKept_64 (by decide) (fun c64 => ?_) (fun c64 => ?_)
              · have c64 := Int32.not_lt.mpr c64
                refine lv_iconst (v := 0) hx hb dX8_isKept_71 (by decide) ?_
                refine lv_istore_n (lv' := [(2, .int 0), (3, .int (nI i)), (0, .ref m0), (1, .int v)]) hx hb dX8_isKept_72 rfl hl (by decide) rfl (fun ls hl => ?_)
                refine lv_iinc (v := nI (i + 1)) (lv' := [(3, .int (nI (i + 1))), (2, .int 0), (0, .ref m0), (1, .int v)]) hx hb dX8_isKept_73 hl (k := 1) rfl (by rw [← nI_1]; rfl) (by decide) rfl (fun ls hl => ?_)
                refine lv_goto (tgt := 26) hx hb dX8_isKept_76 (by decide) ?_
                exact ih (i + 1) (by omega) (by omega) locs hS ls (by rw [(b2_f (kpF_s (b2_0 c35) (by simp [kp1, c45, c54, c64])))]; exact lv_sub hl [0, 1, 2, 3] rfl)
              · have c64 := Int32.not_le.mp c64
                refine lv_iconst (v := 1) hx hb dX8_isKept_67 (by decide) ?_
                refine lv_goto (tgt := 72) hx hb dX8_isKept_68 (by decide) ?_
                refine lv_istore_n (lv' := [(2, .int 1), (3, .int (nI i)), (0, .ref m0), (1, .int v)]) hx hb dX8_isKept_72 rfl hl (by decide) rfl (fun ls hl => ?_)
                refine lv_iinc (v := nI (i + 1)) (lv' := [(3, .int (nI (i + 1))), (2, .int 1), (0, .ref m0), (1, .int v)]) hx hb dX8_isKept_73 hl (k := 1) rfl (by rw [← nI_1]; rfl) (by decide) rfl (fun ls hl => ?_)
                refine lv_goto (tgt := 26) hx hb dX8_isKept_76 (by decide) ?_
                exact ih (i + 1) (by omega) (by omega) locs hS ls (by rw [(b2_t (kpF_s (b2_0 c35) (by simp [kp1, c45, c54, c64])))]; exact lv_sub hl [0, 1, 2, 3] rfl)
  refine lv_iload_n hx hb dX8_isKept_0 rfl (lv_at hl 1 rfl) ?_
  refine lv_aload_n hx hb dX8_isKept_1 rfl (lv_at hl 0 rfl) ?_
  refine k_get (C := RX8) (T := TX8) (N := 22) (v := .int (σ 1 0)) hx hb hts hiX8 hown hK.1 hM.1 rfl 1 (by decide) (hts (.fieldLink RX8 13 "HouseWorkersModel" "versions" "I") (by decide +kernel)) (fun _ h9 => h9) rfl dX8_isKept_2 ?_
  refine lv_iconst (v := 1) hx hb dX8_isKept_5 (by decide) ?_
  refine lv_isub hx hb dX8_isKept_6 ?_
  refine lv_icmp_eq (tgt := 18) hx hb dX8_isKept_7 (by decide) (fun c7 => ?_) (fun c7 => ?_)
  · refine lv_iconst (v := 1) hx hb dX8_isKept_18 (by decide) ?_
    refine lv_goto (tgt := 23) hx hb dX8_isKept_19 (by decide) ?_
    refine lv_istore_n (lv' := [(2, .int 1), (0, .ref m0), (1, .int v)]) hx hb dX8_isKept_23 rfl hl (by decide) rfl (fun ls hl => ?_)
    refine lv_iconst (v := 0) hx hb dX8_isKept_24 (by decide) ?_
    refine lv_istore_n (lv' := [(3, .int 0), (2, .int 1), (0, .ref m0), (1, .int v)]) hx hb dX8_isKept_25 rfl hl (by decide) rfl (fun ls hl => ?_)
    exact loop (nW + 1) 0 (Nat.zero_le _) (by omega) _ hS ls (by rw [(b2_t (show kpF σ v nW 0 = true by simp [kpF, c7]))]; exact lv_sub hl [0, 1, 2, 3] rfl)
  · refine lv_aload_n hx hb dX8_isKept_10 rfl (lv_at hl 0 rfl) ?_
    refine lv_iload_n hx hb dX8_isKept_11 rfl (lv_at hl 1 rfl) ?_
    refine k_callpi (v := b2 (ipF σ v nW)) (va_runV (As := [.int v]) (rest := []) ⟨hx, hb, hml, hown, hts⟩ (c_X8_isPinned l _ m0 ad σ nW v hM hW hn) (cwV 1 hts gX8_isKept_X8_isPinned rfl rfl rfl (by decide +kernel) ⟨Nat.le_of_ble_eq_true rfl, Nat.le_of_ble_eq_true rfl⟩) (k_preV hK (k_recv hK.1 hM.1 rfl)) rfl rfl hl.1 rfl (lv_room (Nat.le_of_ble_eq_true rfl)) dX8_isKept_12 ⟨(Nat.zero_le _), (Nat.zero_le _)⟩) hS (fun locs hS => ?_)
    refine lv_if_eq (tgt := 22) hx hb dX8_isKept_15 (by decide) (fun c15 => ?_) (fun c15 => ?_)
    · refine lv_iconst (v := 0) hx hb dX8_isKept_22 (by decide) ?_
      refine lv_istore_n (lv' := [(2, .int 0), (0, .ref m0), (1, .int v)]) hx hb dX8_isKept_23 rfl hl (by decide) rfl (fun ls hl => ?_)
      refine lv_iconst (v := 0) hx hb dX8_isKept_24 (by decide) ?_
      refine lv_istore_n (lv' := [(3, .int 0), (2, .int 0), (0, .ref m0), (1, .int v)]) hx hb dX8_isKept_25 rfl hl (by decide) rfl (fun ls hl => ?_)
      exact loop (nW + 1) 0 (Nat.zero_le _) (by omega) _ hS ls (by rw [(b2_f (show kpF σ v nW 0 = false by simp [kpF, c7, b2_0 c15]))]; exact lv_sub hl [0, 1, 2, 3] rfl)
    · refine lv_iconst (v := 1) hx hb dX8_isKept_18 (by decide) ?_
      refine lv_goto (tgt := 23) hx hb dX8_isKept_19 (by decide) ?_
      refine lv_istore_n (lv' := [(2, .int 1), (0, .ref m0), (1, .int v)]) hx hb dX8_isKept_23 rfl hl (by decide) rfl (fun ls hl => ?_)
      refine lv_iconst (v := 0) hx hb dX8_isKept_24 (by decide) ?_
      refine lv_istore_n (lv' := [(3, .int 0), (2, .int 1), (0, .ref m0), (1, .int v)]) hx hb dX8_isKept_25 rfl hl (by decide) rfl (fun ls hl => ?_)
      exact loop (nW + 1) 0 (Nat.zero_le _) (by omega) _ hS ls (by rw [(b2_t (show kpF σ v nW 0 = true by simp [kpF, c7, b2_n c15]))]; exact lv_sub hl [0, 1, 2, 3] rfl)
