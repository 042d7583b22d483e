set_option maxHeartbeats 4000000 in
set_option maxRecDepth 100000 in
theorem c_X8_close (l : Launch) {D : va_G} {cI cZ cO : ClassId} {mi : Nat} (H : Heap) (m0 : Nat) (ad : Nat → Nat) (σ : Sg) (nW nV nE : Nat) (hM : MD D cI cZ m0 ad σ H) (hI : Inv σ nW nV nE) : Met l yX8_close wsX8_close ({ frames := 1, cells := 0, slots := 0, locals := 22 }) (Pk D cI cZ cO mi [.ref m0] H) (Qki (fun r H1 => r = (mCls σ nW).1 ∧ MD D cI cZ m0 ad (mCls σ nW).2 H1) (Am m0 ad)) 0 0 (Am m0 ad) := by
  refine Met.ofW (cc := cX8_close) (maxL := 3) (ret := (some .int)) (by decide) rfl ?_
  intro p e s m args below meth c s₁ B hml hv
  obtain ⟨rfl, rfl, hK⟩ := hv
  have hx := B.exec
  have hb := B.bytes
  have hr := B.returns
  have hts := atoms_spec (ws := wsX8_close) B.pre
  have hown : s.vm.findClass RX8 = some m.cls := findClass_of_methodNamed B.named
  have hlocks := B.notSynchronized
  have hS : va_S (Am m0 ad) s.heap s.heap [] := va_S.rf
  have hl := lv_entry ([.ref m0]) (n := 3) (Nat.le_of_ble_eq_true rfl)
  rw [lg_entry_eq]
  generalize (lg_sl ([.ref m0]) ++ List.replicate (3 - (lg_sl ([.ref m0])).length) Slot.unset).toArray = ls at hl ⊢
  have hl : lv_has ls 3 [(0, .ref m0)] := hl
  have hiX8 : ∀ w ∈ wsX80, w ∈ wsX8_close := by decide +kernel
  refine lv_aload_n hx hb dX8_close_0 rfl (lv_at hl 0 rfl) ?_
  refine k_get (C := RX8) (T := TX8) (N := 22) (v := .int (σ 2 0)) hx hb hts hiX8 hown hK.1 hM.1 rfl 2 (by decide) (hts (.fieldLink RX8 70 "HouseWorkersModel" "closed" "Z") (by decide +kernel)) (fun _ h9 => h9) rfl dX8_close_1 ?_
  refine lv_if_eq (tgt := 10) hx hb dX8_close_4 (by decide) (fun c4 => ?_) (fun c4 => ?_)
  · refine lv_aload_n hx hb dX8_close_10 rfl (lv_at hl 0 rfl) ?_
    refine lv_iconst (v := 1) hx hb dX8_close_11 (by decide) ?_
    refine k_put (A := (Am m0 ad)) (C := RX8) (T := TX8) (N := 22) (ty := .boolean) (v := .int 1) hx hb hts hiX8 tyX8 tyX8_ok nmX8 hown hK.1 hM.1 Am.ob hS rfl 2 (by decide) (hts (.fieldLink RX8 70 "HouseWorkersModel" "closed" "Z") (by decide +kernel)) (fun _ h9 => h9) rfl (by decide +kernel) rfl rfl (Nat.le_of_ble_eq_true rfl) dX8_close_12 (fun H1 locs hO2 hz3 hq4 hS => ?_)
    have hM := MD.fld 2 (v := 1) hM rfl hO2 hq4
    refine lv_iconst (v := 0) hx hb dX8_close_15 (by decide) ?_
    refine lv_istore_n (lv' := [(1, .int 0), (0, .ref m0)]) hx hb dX8_close_16 rfl hl (by decide) rfl (fun ls hl => ?_)
    refine lv_iconst (v := 0) hx hb dX8_close_17 (by decide) ?_
    refine lv_istore_n (lv' := [(2, .int 0), (1, .int 0), (0, .ref m0)]) hx hb dX8_close_18 rfl hl (by decide) rfl (fun ls hl => ?_)
    have hc0 := c4
    obtain ⟨τ, hτ⟩ : ∃ z : Sg, z = u2 σ 2 0 1 := ⟨_, rfl⟩
    rw [← hτ] at hM
    have hIτ : Inv τ nW nV nE := by rw [hτ]; exact inv_closed hI
    have hn30 := hI.n30
    have loop : ∀ (n : Nat), ∀ (i : Nat), i ≤ nW → nW + 1 ≤ i + n → ∀ (H : Heap) (locs : List Loc), MD D cI cZ m0 ad (clsF i τ).2 H → va_S (Am m0 ad) s.heap H locs → ∀ ls : Array Slot, lv_has ls 3 [(2, .int (nI i)), (1, .int (nI (clsF i τ).1)), (0, .ref m0)] → W p l e (headSpec wsX8_close ({ frames := 1, cells := 0, slots := 0, locals := 22 })).room s m ([.ref m0] : List Value).toArray below meth c H locs 0 0 (MQ below (Qki (fun r H1 => r = (mCls σ nW).1 ∧ MD D cI cZ m0 ad (mCls σ nW).2 H1) (Am m0 ad)) ([.ref m0] : List Value).toArray s 0 0 (Am m0 ad)) (F0 m 19 ls []) := by
      intro n
      induction n with
      | zero => intro i h1 h2; exact absurd h2 (by omega)
      | succ n ih =>
        intro i hi hn H locs hM hS ls hl
        obtain ⟨e1, hI1, he1, -⟩ := inv_cls hIτ i hi
        have hn30 := hI1.n30
        have heW := hI1.eW
        refine lv_iload_n hx hb dX8_close_19 rfl (lv_at hl 0 rfl) ?_
        refine lv_aload_n hx hb dX8_close_20 rfl (lv_at hl 2 rfl) ?_
        refine k_get (C := RX8) (T := TX8) (N := 22) (v := .int ((clsF i τ).2 3 0)) hx hb hts hiX8 hown hK.1 hM.1 rfl 3 (by decide) (hts (.fieldLink RX8 67 "HouseWorkersModel" "workers" "I") (by decide +kernel)) (fun _ h9 => h9) rfl dX8_close_21 ?_
        refine lv_icmp_ge (tgt := 51) hx hb dX8_close_24 (by decide) (fun c24 => ?_) (fun c24 => ?_)
        · have c24 := Int32.not_lt.mpr c24
          rw [hI1.1] at c24
          have hij : i = nW := Nat.le_antisymm (by omega) (Nat.le_of_not_lt (fun q => c24 (nI_lt q (by omega))))
          subst hij
          refine lv_iload_n hx hb dX8_close_51 rfl (lv_at hl 1 rfl) ?_
          exact k_reti hx hb hr hlocks ⟨by unfold mCls; rw [if_neg (fun q => q hc0), hτ], by unfold mCls; rw [if_neg (fun q => q hc0), ← hτ]; exact hM⟩ hS dX8_close_52
        · have c24 := Int32.not_le.mp c24
          rw [hI1.1] at c24
          have hlt : i < nW := (nI_ltI (by omega) (by omega)).mp c24
          refine lv_aload_n hx hb dX8_close_27 rfl (lv_at hl 2 rfl) ?_
          refine k_get (C := RX8) (T := TX8) (N := 22) (v := .ref (ad 12)) hx hb hts hiX8 hown hK.1 hM.1 rfl 12 (by decide) (hts (.fieldLink RX8 41 "HouseWorkersModel" "end" "[I") (by decide +kernel)) (fun _ h9 => h9) rfl dX8_close_28 ?_
          refine lv_iload_n hx hb dX8_close_31 rfl (lv_at hl 0 rfl) ?_
          refine k_iald (n := 30) (f := ((clsF i τ).2 12)) hx hb hK.1 0 (hM.2.1 12 rfl) rfl i rfl (by omega) (by decide) dX8_close_32 ?_
          refine lv_if_ne (tgt := 45) hx hb dX8_close_33 (by decide) (fun c33 => ?_) (fun c33 => ?_)
          · refine lv_iinc (v := nI (i + 1)) (lv' := [(2, .int (nI (i + 1))), (1, .int (nI (clsF i τ).1)), (0, .ref m0)]) hx hb dX8_close_45 hl (k := 0) rfl (by rw [← nI_1]; rfl) (by decide) rfl (fun ls hl => ?_)
            refine lv_goto (tgt := 19) hx hb dX8_close_48 (by decide) ?_
            have hcu := cls_n c33
            exact ih (i + 1) (by omega) (by omega) _ locs (by rw [hcu]; exact hM) hS ls (by rw [hcu]; exact lv_sub hl [0, 1, 2] rfl)
          · have hlE := hI1.lt hlt (by rw [c33]; decide)
            refine lv_aload_n hx hb dX8_close_36 rfl (lv_at hl 2 rfl) ?_
            refine lv_iload_n hx hb dX8_close_37 rfl (lv_at hl 0 rfl) ?_
            refine lv_iconst (v := 4) hx hb dX8_close_38 (by decide) ?_
            refine k_callv (va_runV (As := [.int (nI i), .int 4]) (rest := []) ⟨hx, hb, hml, hown, hts⟩ (c_X8_finish l _ m0 ad (clsF i τ).2 e1 i 4 hM (by omega) hI1.2.2.1 (by omega)) (cwV 2 hts gX8_close_X8_finish rfl rfl rfl (by decide +kernel) ⟨Nat.le_of_ble_eq_true rfl, Nat.le_of_ble_eq_true rfl⟩) (k_preV hK (k_recv hK.1 hM.1 rfl)) rfl rfl hl.1 rfl (lv_room (Nat.le_of_ble_eq_true rfl)) dX8_close_39 ⟨(Nat.zero_le _), (Nat.zero_le _)⟩) hS (fun _ h => h) (fun H5 locs hM _ _ hS => ?_)
            refine lv_iinc (v := nI ((clsF i τ).1 + 1)) (lv' := [(1, .int (nI ((clsF i τ).1 + 1))), (2, .int (nI i)), (0, .ref m0)]) hx hb dX8_close_42 hl (k := 1) rfl (by rw [← nI_1]; rfl) (by decide) rfl (fun ls hl => ?_)
            refine lv_iinc (v := nI (i + 1)) (lv' := [(2, .int (nI (i + 1))), (1, .int (nI ((clsF i τ).1 + 1))), (0, .ref m0)]) hx hb dX8_close_45 hl (k := 1) rfl (by rw [← nI_1]; rfl) (by decide) rfl (fun ls hl => ?_)
            refine lv_goto (tgt := 19) hx hb dX8_close_48 (by decide) ?_
            have hcu := cls_u c33
            rw [hI1.2.2.1, nat_nI (by omega)] at hcu
            exact ih (i + 1) (by omega) (by omega) _ locs (by rw [hcu]; exact hM) hS ls (by rw [hcu]; exact lv_sub hl [0, 1, 2] rfl)
    exact loop (nW + 1) 0 (Nat.zero_le _) (by omega) _ _ hM hS ls (lv_sub hl [0, 1, 2] rfl)
  · refine lv_bipush (v := -2) hx hb dX8_close_7 (by decide) ?_
    exact k_reti hx hb hr hlocks ⟨by unfold mCls; rw [if_pos c4], by unfold mCls; rw [if_pos c4]; exact hM⟩ hS dX8_close_9
set_option maxHeartbeats 4000000 in
set_option maxRecDepth 100000 in
theorem c_X8_run (l : Launch) {D : va_G} {cI cZ cO : ClassId} {mi : Nat} (H : Heap) (m0 : Nat) (ad : Nat → Nat) (σ : Sg) (nW nV nE : Nat) (x : Int32) (hM : MD D cI cZ m0 ad σ H) (hI : Inv σ nW nV nE) : Met l yX8_run wsX8_run ({ frames := 3, cells := 0, slots := 0, locals := 69 }) (Pk D cI cZ cO mi [.ref m0, .int x] H) (Qki (fun r H1 => r = (mRun σ nW x).1 ∧ MD D cI cZ m0 ad (mRun σ nW x).2 H1) (Am m0 ad)) 0 0 (Am m0 ad) := by
  refine Met.ofW (cc := cX8_run) (maxL := 5) (ret := (some .int)) (by decide) rfl ?_
  intro p e s m args below meth c s₁ B hml hv
  obtain ⟨rfl, rfl, hK⟩ := hv
  have hx := B.exec
  have hb := B.bytes
  have hr := B.returns
  have hts := atoms_spec (ws := wsX8_run) B.pre
  have hown : s.vm.findClass RX8 = some m.cls := findClass_of_methodNamed B.named
  have hlocks := B.notSynchronized
  have hS : va_S (Am m0 ad) s.heap s.heap [] := va_S.rf
  have hl := lv_entry ([.ref m0, .int x]) (n := 5) (Nat.le_of_ble_eq_true rfl)
  rw [lg_entry_eq]
  generalize (lg_sl ([.ref m0, .int x]) ++ List.replicate (5 - (lg_sl ([.ref m0, .int x])).length) Slot.unset).toArray = ls at hl ⊢
  have hl : lv_has ls 5 [(0, .ref m0), (1, .int x)] := hl
  have hiX8 : ∀ w ∈ wsX80, w ∈ wsX8_run := by decide +kernel
  refine lv_iload_n hx hb dX8_run_0 rfl (lv_at hl 1 rfl) ?_
  refine lv_iconst (v := 0) hx hb dX8_run_1 (by decide) ?_
  refine lv_sipush (v := 1000) hx hb dX8_run_2 (by decide) ?_
  refine k_callpi (v := b2 (inB x 0 1000)) (va_runS (As := [.int x, .int 0, .int 1000]) (rest := []) ⟨hx, hb, hml, hown, hts⟩ (c_X8_in l _ x 0 1000) (va_cwS 3 hts gX8_run_X8_in rfl rfl rfl (by decide +kernel) ⟨Nat.le_of_ble_eq_true rfl, Nat.le_of_ble_eq_true rfl⟩) (k_preS hK) rfl rfl hl.1 rfl (lv_room (Nat.le_of_ble_eq_true rfl)) dX8_run_5 ⟨(Nat.zero_le _), (Nat.zero_le _)⟩) hS (fun locs hS => ?_)
  refine lv_if_ne (tgt := 13) hx hb dX8_run_8 (by decide) (fun c8 => ?_) (fun c8 => ?_)
  · have b8 := b2_n c8
    obtain ⟨most, hmost, hxm⟩ := inB_c (n := 1000) rfl rfl (by decide) b8
    subst hxm
    have hmR : mRun σ nW (nI most) = (nI (runF most nW (most + 2) (0, true, σ)).1, (runF most nW (most + 2) (0, true, σ)).2.2) := by unfold mRun; rw [if_pos b8, nat_nI (by omega)]
    refine lv_iconst (v := 0) hx hb dX8_run_13 (by decide) ?_
    refine lv_istore_n (lv' := [(2, .int 0), (0, .ref m0), (1, .int (nI most))]) hx hb dX8_run_14 rfl hl (by decide) rfl (fun ls hl => ?_)
    refine lv_iconst (v := 1) hx hb dX8_run_15 (by decide) ?_
    refine lv_istore_n (lv' := [(3, .int 1), (2, .int 0), (0, .ref m0), (1, .int (nI most))]) hx hb dX8_run_16 rfl hl (by decide) rfl (fun ls hl => ?_)
    have loop : ∀ (n : Nat), ∀ (y : Nat × Bool × Sg), runF most nW n y = runF most nW (most + 2) (0, true, σ) → ∀ (v8 e8 : Nat), Inv y.2.2 nW v8 e8 → y.1 ≤ most → (y.2.1 = true → most + 2 ≤ y.1 + n) → (y.2.1 = false → 1 ≤ n) → ∀ (H : Heap) (locs : List Loc), MD D cI cZ m0 ad y.2.2 H → va_S (Am m0 ad) s.heap H locs → ∀ ls : Array Slot, lv_has ls 5 [(3, .int (b2 y.2.1)), (2, .int (nI y.1)), (0, .ref m0), (1, .int (nI most))] → W p l e (headSpec wsX8_run ({ frames := 3, cells := 0, slots := 0, locals := 69 })).room s m ([.ref m0, .int (nI most)] : List Value).toArray below meth c H locs 0 0 (MQ below (Qki (fun r H1 => r = (mRun σ nW (nI most)).1 ∧ MD D cI cZ m0 ad (mRun σ nW (nI most)).2 H1) (Am m0 ad)) ([.ref m0, .int (nI most)] : List Value).toArray s 0 0 (Am m0 ad)) (F0 m 17 ls []) := by
      intro n
      induction n with
      | zero => intro y _ _ _ _ h1 h2 h3; cases hb9 : y.2.1 with | true => (have := h2 hb9; omega) | false => (have := h3 hb9; omega)
      | succ n ih =>
        intro y hF v e9 hIy hyl hf1 hf0 H locs hM hS ls hl
        refine lv_iload_n hx hb dX8_run_17 rfl (lv_at hl 0 rfl) ?_
        refine lv_if_eq (tgt := 68) hx hb dX8_run_18 (by decide) (fun c18 => ?_) (fun c18 => ?_)
        · have hsb := b2_0 c18
          refine lv_iload_n hx hb dX8_run_68 rfl (lv_at hl 1 rfl) ?_
          rw [run_e (fun q => absurd (hsb.symm.trans q.1) (by decide))] at hF
          exact k_reti hx hb hr hlocks ⟨by rw [hmR, ← hF], by rw [hmR, ← hF]; exact hM⟩ hS dX8_run_69
        · have hsb := b2_n c18
          refine lv_iload_n hx hb dX8_run_21 rfl (lv_at hl 1 rfl) ?_
          refine lv_iload_n hx hb dX8_run_22 rfl (lv_at hl 3 rfl) ?_
          refine lv_icmp_ge (tgt := 68) hx hb dX8_run_23 (by decide) (fun c23 => ?_) (fun c23 => ?_)
          · have c23 := Int32.not_lt.mpr c23
            have hge : ¬ y.1 < most := fun q => c23 (nI_lt q (by omega))
            refine lv_iload_n hx hb dX8_run_68 rfl (lv_at hl 1 rfl) ?_
            rw [run_e (fun q => hge q.2)] at hF
            exact k_reti hx hb hr hlocks ⟨by rw [hmR, ← hF], by rw [hmR, ← hF]; exact hM⟩ hS dX8_run_69
          · have c23 := Int32.not_le.mp c23
            have hyl2 : y.1 < most := (nI_ltI (by omega) (by omega)).mp c23
            refine lv_iconst (v := 0) hx hb dX8_run_26 (by decide) ?_
            refine lv_istore_n (lv' := [(3, .int 0), (2, .int (nI y.1)), (0, .ref m0), (1, .int (nI most))]) hx hb dX8_run_27 rfl hl (by decide) rfl (fun ls hl => ?_)
            refine lv_iconst (v := 0) hx hb dX8_run_28 (by decide) ?_
            refine lv_istore (lv' := [(4, .int 0), (3, .int 0), (2, .int (nI y.1)), (0, .ref m0), (1, .int (nI most))]) hx hb dX8_run_29 hl (by decide) rfl (fun ls hl => ?_)
            have loop2 : ∀ (n2 : Nat), ∀ (i : Nat), i ≤ nW → nW + 1 ≤ i + n2 → ∀ (H : Heap) (locs : List Loc), MD D cI cZ m0 ad (rowF most i (y.1, false, y.2.2)).2.2 H → va_S (Am m0 ad) s.heap H locs → ∀ ls : Array Slot, lv_has ls 5 [(4, .int (nI i)), (3, .int (b2 (rowF most i (y.1, false, y.2.2)).2.1)), (2, .int (nI (rowF most i (y.1, false, y.2.2)).1)), (0, .ref m0), (1, .int (nI most))] → W p l e (headSpec wsX8_run ({ frames := 3, cells := 0, slots := 0, locals := 69 })).room s m ([.ref m0, .int (nI most)] : List Value).toArray below meth c H locs 0 0 (MQ below (Qki (fun r H1 => r = (mRun σ nW (nI most)).1 ∧ MD D cI cZ m0 ad (mRun σ nW (nI most)).2 H1) (Am m0 ad)) ([.ref m0, .int (nI most)] : List Value).toArray s 0 0 (Am m0 ad)) (F0 m 31 ls []) := by
              intro n2
              induction n2 with
              | zero => intro i h1 h2; exact absurd h2 (by omega)
              | succ n2 ih2 =>
                intro i hi hn3 H locs hM hS ls hl
                obtain ⟨v1, e1, hI1, -⟩ := inv_row (most := most) (a := y.1) (b := false) hIy i hi
                obtain ⟨g1, g2, g3⟩ := row_ge (most := most) (y.1, false, y.2.2) i
                have g3 : (rowF most i (y.1, false, y.2.2)).1 ≤ most := g3 (by show y.1 ≤ most; omega)
                have g1 : y.1 ≤ (rowF most i (y.1, false, y.2.2)).1 := g1
                have hn30 := hI1.n30
                refine lv_iload hx hb dX8_run_31 (lv_at hl 0 rfl) ?_
                refine lv_aload_n hx hb dX8_run_33 rfl (lv_at hl 3 rfl) ?_
                refine k_get (C := RX8) (T := TX8) (N := 22) (v := .int ((rowF most i (y.1, false, y.2.2)).2.2 3 0)) hx hb hts hiX8 hown hK.1 hM.1 rfl 3 (by decide) (hts (.fieldLink RX8 67 "HouseWorkersModel" "workers" "I") (by decide +kernel)) (fun _ h9 => h9) rfl dX8_run_34 ?_
                refine lv_icmp_ge (tgt := 65) hx hb dX8_run_37 (by decide) (fun c37 => ?_) (fun c37 => ?_)
                · have c37 := Int32.not_lt.mpr c37
                  rw [hI1.1] at c37
                  have hij : i = nW := Nat.le_antisymm hi (Nat.le_of_not_lt (fun q => c37 (nI_lt q (by omega))))
                  have hre : rowF most nW (y.1, false, y.2.2) = (rowF most i (y.1, false, y.2.2)) := by rw [hij]
                  refine lv_goto (tgt := 17) hx hb dX8_run_65 (by decide) ?_
                  refine ih (rowF most i (y.1, false, y.2.2)) ?_ v1 e1 hI1 g3 ?_ ?_ _ locs hM hS ls (lv_sub hl [1, 2, 3, 4] rfl)
                  · rw [← hre]; exact (run_s hsb hyl2).symm.trans hF
                  · intro q; rcases g2 q with q2 | q2; (exact absurd q2 Bool.false_ne_true); (have q2 : y.1 + 1 ≤ (rowF most i (y.1, false, y.2.2)).1 := q2; have := hf1 hsb; omega)
                  · intro _; have := hf1 hsb; omega
                · have c37 := Int32.not_le.mp c37
                  rw [hI1.1] at c37
                  have hlt : i < nW := (nI_ltI (by omega) (by omega)).mp c37
                  refine lv_iload_n hx hb dX8_run_40 rfl (lv_at hl 2 rfl) ?_
                  refine lv_iload_n hx hb dX8_run_41 rfl (lv_at hl 4 rfl) ?_
                  refine lv_icmp_ge (tgt := 65) hx hb dX8_run_42 (by decide) (fun c42 => ?_) (fun c42 => ?_)
                  · have c42 := Int32.not_lt.mpr c42
                    have hge : ¬ (rowF most i (y.1, false, y.2.2)).1 < most := fun q => c42 (nI_lt q (by omega))
                    have hre : rowF most nW (y.1, false, y.2.2) = (rowF most i (y.1, false, y.2.2)) := row_end (by omega) hge
                    refine lv_goto (tgt := 17) hx hb dX8_run_65 (by decide) ?_
                    refine ih (rowF most i (y.1, false, y.2.2)) ?_ v1 e1 hI1 g3 ?_ ?_ _ locs hM hS ls (lv_sub hl [1, 2, 3, 4] rfl)
                    · rw [← hre]; exact (run_s hsb hyl2).symm.trans hF
                    · intro q; rcases g2 q with q2 | q2; (exact absurd q2 Bool.false_ne_true); (have q2 : y.1 + 1 ≤ (rowF most i (y.1, false, y.2.2)).1 := q2; have := hf1 hsb; omega)
                    · intro _; have := hf1 hsb; omega
                  · have c42 := Int32.not_le.mp c42
                    have hay : (rowF most i (y.1, false, y.2.2)).1 < most := (nI_ltI (by omega) (by omega)).mp c42
                    refine lv_aload_n hx hb dX8_run_45 rfl (lv_at hl 3 rfl) ?_
                    refine lv_iload hx hb dX8_run_46 (lv_at hl 0 rfl) ?_
                    refine k_calli (va_runV (As := [.int (nI i)]) (rest := []) ⟨hx, hb, hml, hown, hts⟩ (c_X8_turn l _ m0 ad (rowF most i (y.1, false, y.2.2)).2.2 nW v1 e1 (nI i) hM hI1) (cwV 1 hts gX8_run_X8_turn rfl rfl rfl (by decide +kernel) ⟨Nat.le_of_ble_eq_true rfl, Nat.le_of_ble_eq_true rfl⟩) (k_preV hK (k_recv hK.1 hM.1 rfl)) rfl rfl hl.1 rfl (lv_room (Nat.le_of_ble_eq_true rfl)) dX8_run_48 ⟨(Nat.zero_le _), (Nat.zero_le _)⟩) hS (fun _ h => h) (fun r9 H1 locs hp9 _ _ hS => ?_)
                    have hinb := inB_not (n := nW) hlt (by omega)
                    rw [← hI1.1] at hinb
                    rw [if_pos hinb, if_pos hinb, nat_nI (by omega), ← tnS_eq hI1] at hp9
                    obtain ⟨hr9, hM⟩ := hp9
                    refine lv_if_le (tgt := 59) hx hb dX8_run_51 (by decide) (fun c51 => ?_) (fun c51 => ?_)
                    · have c51 := Int32.not_lt.mpr c51
                      have hr9p := c51
                      rw [hr9] at hr9p
                      refine lv_iinc (v := nI (i + 1)) (lv' := [(4, .int (nI (i + 1))), (3, .int (b2 (rowF most i (y.1, false, y.2.2)).2.1)), (2, .int (nI (rowF most i (y.1, false, y.2.2)).1)), (0, .ref m0), (1, .int (nI most))]) hx hb dX8_run_59 hl (k := 0) rfl (by rw [← nI_1]; rfl) (by decide) rfl (fun ls hl => ?_)
                      refine lv_goto (tgt := 31) hx hb dX8_run_62 (by decide) ?_
                      have hru := row_n hay hr9p
                      exact ih2 (i + 1) (by omega) (by omega) _ locs (by rw [hru]; exact hM) hS ls (by rw [hru]; exact lv_sub hl [0, 1, 2, 3, 4] rfl)
                    · have c51 := Int32.not_le.mp c51
                      have hr9p := c51
                      rw [hr9] at hr9p
                      refine lv_iinc (v := nI ((rowF most i (y.1, false, y.2.2)).1 + 1)) (lv' := [(2, .int (nI ((rowF most i (y.1, false, y.2.2)).1 + 1))), (4, .int (nI i)), (3, .int (b2 (rowF most i (y.1, false, y.2.2)).2.1)), (0, .ref m0), (1, .int (nI most))]) hx hb dX8_run_54 hl (k := 2) rfl (by rw [← nI_1]; rfl) (by decide) rfl (fun ls hl => ?_)
                      refine lv_iconst (v := 1) hx hb dX8_run_57 (by decide) ?_
                      refine lv_istore_n (lv' := [(3, .int 1), (2, .int (nI ((rowF most i (y.1, false, y.2.2)).1 + 1))), (4, .int (nI i)), (0, .ref m0), (1, .int (nI most))]) hx hb dX8_run_58 rfl hl (by decide) rfl (fun ls hl => ?_)
                      refine lv_iinc (v := nI (i + 1)) (lv' := [(4, .int (nI (i + 1))), (3, .int 1), (2, .int (nI ((rowF most i (y.1, false, y.2.2)).1 + 1))), (0, .ref m0), (1, .int (nI most))]) hx hb dX8_run_59 hl (k := 2) rfl (by rw [← nI_1]; rfl) (by decide) rfl (fun ls hl => ?_)
                      refine lv_goto (tgt := 31) hx hb dX8_run_62 (by decide) ?_
                      have hru := row_y hay hr9p
                      exact ih2 (i + 1) (by omega) (by omega) _ locs (by rw [hru]; exact hM) hS ls (by rw [hru]; exact lv_sub hl [0, 1, 2, 3, 4] rfl)
            exact loop2 (nW + 1) 0 (Nat.zero_le _) (by omega) _ _ hM hS ls (lv_sub hl [0, 1, 2, 3, 4] rfl)
    exact loop (most + 2) (0, true, σ) rfl nV nE hI (Nat.zero_le _) (fun _ => by show most + 2 ≤ 0 + (most + 2); omega) (fun q => absurd q.symm Bool.false_ne_true) _ _ hM hS ls (lv_sub hl [0, 1, 2, 3] rfl)
  · have b8 := b2_0 c8
    refine lv_iconst (v := -1) hx hb dX8_run_11 (by decide) ?_
    exact k_reti hx hb hr hlocks ⟨by unfold mRun; rw [if_neg (by rw [b8]; decide)], by unfold mRun; rw [if_neg (by rw [b8]; decide)]; exact hM⟩ hS dX8_run_12
