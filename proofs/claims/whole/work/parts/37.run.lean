set_option maxHeartbeats 4000000 in
set_option maxRecDepth 100000 in
theorem c_run (l : Launch) {D : va_G} {cI cZ cO : ClassId} {mi eA : Nat} {B : Nat → Prop} (H : Heap) (h0 : Nat) (wa : Nat → Nat) (σ : Sg) (nW nV nE : Nat) (x : Int32) (hR : HR D cI cO eA B h0 wa σ nW nV nE H) (hI : Inv σ nW nV nE) : Met l yX7_run wsX7_run ({ frames := 12, cells := 60, slots := 1980, locals := 299 }) (Pz D cI cZ cO mi eA B [.ref h0, .int x] H) (Qki (fun r H1 => r = (mRun σ nW x).1 ∧ ∃ nV' nE', HR D cI cO eA B h0 wa (mRun σ nW x).2 nW nV' nE' H1 ∧ Inv (mRun σ nW x).2 nW nV' nE') B) 60 1980 B := by
  refine Met.ofW (cc := cX7_run) (maxL := 5) (ret := (some .int)) (by decide) rfl ?_
  intro p e s m args below meth c s₁ Bd hml hv
  obtain ⟨rfl, rfl, hK, hZ⟩ := hv
  have hx := Bd.exec
  have hb := Bd.bytes
  have hr := Bd.returns
  have hts := atoms_spec (ws := wsX7_run) Bd.pre
  have hown : s.vm.findClass RX7 = some m.cls := findClass_of_methodNamed Bd.named
  have hlocks := Bd.notSynchronized
  have hS : va_S B s.heap s.heap [] := va_S.rf
  have hl := lv_entry ([.ref h0, .int x]) (n := 5) (Nat.le_of_ble_eq_true rfl)
  rw [lg_entry_eq]
  generalize (lg_sl ([.ref h0, .int x]) ++ List.replicate (5 - (lg_sl ([.ref h0, .int x])).length) Slot.unset).toArray = ls at hl ⊢
  have hl : lv_has ls 5 [(0, .ref h0), (1, .int x)] := hl
  have hiX7 : ∀ w ∈ wsX70, w ∈ wsX7_run := by decide +kernel
  have hW30 := hI.n30
  refine lv_iload_n hx hb dX7_run_0 rfl (lv_at hl 1 rfl) ?_
  refine lv_if_lt (tgt := 11) hx hb dX7_run_1 (by decide) (fun c1 => ?_) (fun c1 => ?_)
  · refine lv_iconst (v := -1) hx hb dX7_run_11 (by decide) ?_
    refine W.widen (k := 60) (n := 1980) (by omega) (by omega) ?_
    have hX : mRun σ nW x = (-1, σ) := by unfold mRun; rw [if_neg (by unfold inB; rw [decide_eq_false (show ¬ ¬ x < 0 from fun q => q c1), Bool.false_and]; decide)]
    exact k_reti hx hb hr hlocks ⟨by rw [hX], nV, nE, by rw [hX]; exact hR, by rw [hX]; exact hI⟩ hS dX7_run_12
  · refine lv_iload_n hx hb dX7_run_4 rfl (lv_at hl 1 rfl) ?_
    refine lv_sipush (v := 1000) hx hb dX7_run_5 (by decide) ?_
    refine lv_icmp_le (tgt := 13) hx hb dX7_run_8 (by decide) (fun c8 => ?_) (fun c8 => ?_)
    · have c8 := Int32.not_lt.mpr c8
      obtain ⟨most, hmb, hxm⟩ := nI_of c1
      subst hxm
      have hm : most ≤ 1000 := Nat.le_of_not_lt (fun q => c8 (nI_lt (a := 1000) q hmb))
      have hin : inB (nI most) 0 1000 = true := by unfold inB; rw [decide_eq_true c1, decide_eq_true c8]; rfl
      have hmR : mRun σ nW (nI most) = (nI (runF most nW (most + 2) (0, true, σ)).1, (runF most nW (most + 2) (0, true, σ)).2.2) := by unfold mRun; rw [if_pos hin, nat_nI (by omega)]
      refine lv_iconst (v := 0) hx hb dX7_run_13 (by decide) ?_
      refine lv_istore_n (lv' := [(2, .int 0), (0, .ref h0), (1, .int (nI most))]) hx hb dX7_run_14 rfl hl (by decide) rfl (fun ls hl => ?_)
      refine lv_iconst (v := 0) hx hb dX7_run_15 (by decide) ?_
      refine lv_istore_n (lv' := [(3, .int 0), (2, .int 0), (0, .ref h0), (1, .int (nI most))]) hx hb dX7_run_16 rfl hl (by decide) rfl (fun ls hl => ?_)
      have loop : ∀ (n : Nat), ∀ (k : Nat) (y : Nat × Bool × Sg), k ≤ most → most + 1 ≤ k + n → runF most nW (most + 2 - k) y = (runF most nW (most + 2) (0, true, σ)) → y.2.1 = true → k ≤ y.1 → y.1 ≤ most → ∀ (v1 e1 : Nat), Inv y.2.2 nW v1 e1 → nE ≤ e1 → ∀ (H : Heap) (locs : List Loc), HR D cI cO eA B h0 wa y.2.2 nW v1 e1 H → va_S B s.heap H locs → ∀ ls : Array Slot, lv_has ls 5 [(3, .int (nI k)), (2, .int (nI y.1)), (0, .ref h0), (1, .int (nI most))] → W p l e (headSpec wsX7_run ({ frames := 12, cells := 60, slots := 1980, locals := 299 })).room s m ([.ref h0, .int (nI most)] : List Value).toArray below meth c H locs (2 * (e1 - nE)) (66 * (e1 - nE)) (MQ below (Qki (fun r H1 => r = (mRun σ nW (nI most)).1 ∧ ∃ nV' nE', HR D cI cO eA B h0 wa (mRun σ nW (nI most)).2 nW nV' nE' H1 ∧ Inv (mRun σ nW (nI most)).2 nW nV' nE') B) ([.ref h0, .int (nI most)] : List Value).toArray s 60 1980 B) (F0 m 17 ls []) := by
        intro n
        induction n with
        | zero => intro k y h1 h2; exact absurd h2 (by omega)
        | succ n ih =>
          intro k y hk hn hF hyt hky hyl v1 e1 hI1 hge1 H locs hR1 hS ls hl
          have hle8 := hI1.le
          have hge8 := hge1
          obtain ⟨fs1, hO⟩ := hR1.o
          refine lv_iload_n hx hb dX7_run_17 rfl (lv_at hl 0 rfl) ?_
          refine lv_iload_n hx hb dX7_run_18 rfl (lv_at hl 3 rfl) ?_
          refine lv_icmp_ge (tgt := 50) hx hb dX7_run_19 (by decide) (fun c19 => ?_) (fun c19 => ?_)
          · have c19 := Int32.not_lt.mpr c19
            have hkm : ¬ k < most := fun q => c19 (nI_lt q (by omega))
            rw [run_e (fun q => by have := q.2; omega)] at hF
            refine lv_iload_n hx hb dX7_run_50 rfl (lv_at hl 1 rfl) ?_
            refine W.widen (k := 60) (n := 1980) (by omega) (by omega) ?_
            exact k_reti hx hb hr hlocks ⟨by rw [hmR, ← hF], v1, e1, by rw [hmR, ← hF]; exact hR1, by rw [hmR, ← hF]; exact hI1⟩ hS dX7_run_51
          · have c19 := Int32.not_le.mp c19
            have hlt : k < most := (nI_ltI (by omega) (by omega)).mp c19
            refine lv_aload_n hx hb dX7_run_22 rfl (lv_at hl 2 rfl) ?_
            refine lv_iload_n hx hb dX7_run_23 rfl (lv_at hl 3 rfl) ?_
            refine lv_iload_n hx hb dX7_run_24 rfl (lv_at hl 1 rfl) ?_
            refine lv_isub hx hb dX7_run_25 ?_
            rw [show nI most - nI y.1 = nI (most - y.1) from pk_sub hyl]
            obtain ⟨vr, er, hIr, her⟩ := inv_row (most := most - y.1) (a := 0) (b := false) hI1 nW (Nat.le_refl _)
            have hle9 := hIr.le
            have hZc : ZZ eA B s H := hZ.S (fun q h => h) hS
            have hd16 : (rowF (most - y.1) nW (0, false, y.2.2)).2.2 16 0 = nI (e1 + (er - e1)) := by rw [hIr.2.2.1, show e1 + (er - e1) = er by omega]
            have hcq : 2 * (e1 - nE) + 2 * (er - e1) ≤ 60 := by omega
            have hsq : 66 * (e1 - nE) + 66 * (er - e1) ≤ 1980 := by omega
            refine k_calli (va_runV (As := [.int (nI (most - y.1))]) (rest := []) ⟨hx, hb, hml, hown, hts⟩ (c_giveRow l _ h0 wa y.2.2 nW v1 e1 (most - y.1) (er - e1) hR1 hI1 (by omega) hd16 (by omega)) (cwV 1 hts gX7_run_X7_giveRow rfl rfl rfl (by decide +kernel) ⟨Nat.le_of_ble_eq_true rfl, Nat.le_of_ble_eq_true rfl⟩) (z_preV hK hZc (k_recv hK.1 hO rfl)) rfl rfl hl.1 rfl (lv_room (Nat.le_of_ble_eq_true rfl)) dX7_run_26 ⟨hcq, hsq⟩) hS (fun q h => h) (fun r9 H2 locs hp9 hz2 hk2 hS => ?_)
            obtain ⟨hr9, v2, hR2, hI2⟩ := hp9
            subst hr9
            rw [show e1 + (er - e1) = er by omega] at hR2 hI2
            obtain ⟨s1, s2, s3⟩ := row_sh (m := most) (nW := nW) (b := false) (σ := y.2.2) hyl nW
            obtain ⟨g1, g2, g3⟩ := row_ge (most := most - y.1) (0, false, y.2.2) nW
            have g3 : (rowF (most - y.1) nW (0, false, y.2.2)).1 ≤ most - y.1 := g3 (Nat.zero_le _)
            refine lv_istore (lv' := [(4, .int (nI (rowF (most - y.1) nW (0, false, y.2.2)).1)), (3, .int (nI k)), (2, .int (nI y.1)), (0, .ref h0), (1, .int (nI most))]) hx hb dX7_run_29 hl (by decide) rfl (fun ls hl => ?_)
            refine lv_iload hx hb dX7_run_31 (lv_at hl 0 rfl) ?_
            refine lv_if_ne (tgt := 39) hx hb dX7_run_33 (by decide) (fun c33 => ?_) (fun c33 => ?_)
            · have hrp : 0 < (rowF (most - y.1) nW (0, false, y.2.2)).1 := Nat.pos_of_ne_zero (fun q => c33 (by rw [q]; rfl))
              have hylt : y.1 < most := by omega
              refine lv_iload_n hx hb dX7_run_39 rfl (lv_at hl 2 rfl) ?_
              refine lv_iload hx hb dX7_run_40 (lv_at hl 0 rfl) ?_
              refine lv_iadd hx hb dX7_run_42 ?_
              rw [show nI y.1 + nI (rowF (most - y.1) nW (0, false, y.2.2)).1 = nI (rowF most nW (y.1, false, y.2.2)).1 by rw [nI_add, s1]]
              refine lv_istore_n (lv' := [(2, .int (nI (rowF most nW (y.1, false, y.2.2)).1)), (4, .int (nI (rowF (most - y.1) nW (0, false, y.2.2)).1)), (3, .int (nI k)), (0, .ref h0), (1, .int (nI most))]) hx hb dX7_run_43 rfl hl (by decide) rfl (fun ls hl => ?_)
              refine lv_iinc (v := nI (k + 1)) (lv' := [(3, .int (nI (k + 1))), (2, .int (nI (rowF most nW (y.1, false, y.2.2)).1)), (4, .int (nI (rowF (most - y.1) nW (0, false, y.2.2)).1)), (0, .ref h0), (1, .int (nI most))]) hx hb dX7_run_44 hl (k := 2) rfl (by rw [← nI_1]; rfl) (by decide) rfl (fun ls hl => ?_)
              refine lv_goto (tgt := 17) hx hb dX7_run_47 (by decide) ?_
              refine W.widen (k := 2 * (er - nE)) (n := 66 * (er - nE)) (by omega) (by omega) ?_
              refine ih (k + 1) (rowF most nW (y.1, false, y.2.2)) (by omega) (by omega) ?_ ?_ (by rw [s1]; omega) (by rw [s1]; omega) v2 er (by rw [s2]; exact hI2) (by omega) _ locs (by rw [s2]; exact hR2) hS ls (lv_sub hl [0, 1, 3, 4] rfl)
              · rw [show most + 2 - k = (most + 2 - (k + 1)) + 1 by omega, run_s hyt hylt] at hF; exact hF
              · rw [s3, decide_eq_true hrp]; rfl
            · have hr0 : (rowF (most - y.1) nW (0, false, y.2.2)).1 = 0 := (nI_eq (by omega) (by decide)).mp (c33.trans nI_0.symm)
              have hfin : (runF most nW (most + 2) (0, true, σ)).1 = y.1 ∧ (runF most nW (most + 2) (0, true, σ)).2.2 = (rowF (most - y.1) nW (0, false, y.2.2)).2.2 := by
                by_cases q : y.1 < most
                · rw [show most + 2 - k = (most + 1 - k) + 1 by omega, run_s hyt q] at hF
                  have s4 : (rowF most nW (y.1, false, y.2.2)).2.1 = false := by rw [s3, hr0]; rfl
                  rw [run_e (fun z => by rw [s4] at z; exact absurd z.1 Bool.false_ne_true)] at hF
                  rw [← hF]; exact ⟨by rw [s1, hr0]; rfl, s2⟩
                · rw [run_e (fun z => q z.2)] at hF
                  rw [← hF]; refine ⟨rfl, ?_⟩
                  rw [row_end (w := 0) (Nat.zero_le _) (show ¬ 0 < most - y.1 by omega)]; rfl
              refine lv_goto (tgt := 50) hx hb dX7_run_36 (by decide) ?_
              refine lv_iload_n hx hb dX7_run_50 rfl (lv_at hl 2 rfl) ?_
              refine W.widen (k := 60) (n := 1980) (by omega) (by omega) ?_
              exact k_reti hx hb hr hlocks ⟨by rw [hmR, hfin.1], v2, er, by rw [hmR]; show HR D cI cO eA B h0 wa (runF most nW (most + 2) (0, true, σ)).2.2 nW v2 er H2; rw [hfin.2]; exact hR2, by rw [hmR]; show Inv (runF most nW (most + 2) (0, true, σ)).2.2 nW v2 er; rw [hfin.2]; exact hI2⟩ hS dX7_run_51
      exact W.widen (k := 2 * (nE - nE)) (n := 66 * (nE - nE)) (by omega) (by omega) (loop (most + 1) 0 (0, true, σ) (Nat.zero_le _) (by omega) rfl rfl (Nat.zero_le _) (Nat.zero_le _) nV nE hI (Nat.le_refl _) _ _ hR hS ls (lv_sub hl [0, 1, 2, 3] rfl))
    · have c8 := Int32.not_le.mp c8
      refine lv_iconst (v := -1) hx hb dX7_run_11 (by decide) ?_
      refine W.widen (k := 60) (n := 1980) (by omega) (by omega) ?_
      have hX : mRun σ nW x = (-1, σ) := by unfold mRun; rw [if_neg (by unfold inB; rw [decide_eq_false (show ¬ ¬ (1000 : Int32) < x from fun q => q c8), Bool.and_false]; decide)]
      exact k_reti hx hb hr hlocks ⟨by rw [hX], nV, nE, by rw [hX]; exact hR, by rw [hX]; exact hI⟩ hS dX7_run_12
set_option maxHeartbeats 4000000 in
set_option maxRecDepth 100000 in
theorem c_close (l : Launch) {D : va_G} {cI cZ cO : ClassId} {mi eA : Nat} {B : Nat → Prop} (H : Heap) (h0 : Nat) (wa : Nat → Nat) (σ : Sg) (nW nV nE : Nat) (hR : HR D cI cO eA B h0 wa σ nW nV nE H) (hI : Inv σ nW nV nE) : Met l yX7_close wsX7_close ({ frames := 8, cells := 30, slots := 990, locals := 213 }) (Pz D cI cZ cO mi eA B [.ref h0] H) (Qki (fun r H1 => r = (mCls σ nW).1 ∧ ∃ nV' nE', HR D cI cO eA B h0 wa (mCls σ nW).2 nW nV' nE' H1 ∧ Inv (mCls σ nW).2 nW nV' nE') B) 30 990 B := by
  refine Met.ofW (cc := cX7_close) (maxL := 4) (ret := (some .int)) (by decide) rfl ?_
  intro p e s m args below meth c s₁ Bd hml hv
  obtain ⟨rfl, rfl, hK, hZ⟩ := hv
  have hx := Bd.exec
  have hb := Bd.bytes
  have hr := Bd.returns
  have hts := atoms_spec (ws := wsX7_close) Bd.pre
  have hown : s.vm.findClass RX7 = some m.cls := findClass_of_methodNamed Bd.named
  have hlocks := Bd.notSynchronized
  have hS : va_S B s.heap s.heap [] := va_S.rf
  have hl := lv_entry ([.ref h0]) (n := 4) (Nat.le_of_ble_eq_true rfl)
  rw [lg_entry_eq]
  generalize (lg_sl ([.ref h0]) ++ List.replicate (4 - (lg_sl ([.ref h0])).length) Slot.unset).toArray = ls at hl ⊢
  have hl : lv_has ls 4 [(0, .ref h0)] := hl
  have hiX7 : ∀ w ∈ wsX70, w ∈ wsX7_close := by decide +kernel
  have hR0 := hR
  obtain ⟨hs, hc, hw, he, ec, ew, ee, pc, pw, pe, gc, gw, ge, va, da, ra, te, pn, rl, R1, R2, ⟨R3, R3g⟩, ⟨R4, R4g⟩, ⟨R5, R5g⟩, R6, R7, R8, R9, RT, RB, RN, RL, R12, R13⟩ := hR
  have hn30 := hI.n30
  have heW := hI.eW
  have hvE := hI.2.2.2.2.2.1
  have hv1 := hI.2.2.2.2.1
  have hiX1 : ∀ w ∈ wsX10, w ∈ wsX7_close := by decide +kernel
  have hiX2 : ∀ w ∈ wsX20, w ∈ wsX7_close := by decide +kernel
  have hiX4 : ∀ w ∈ wsX40, w ∈ wsX7_close := by decide +kernel
  have hiX6 : ∀ w ∈ wsX60, w ∈ wsX7_close := by decide +kernel
  have hBh : B h0 := RB _ (by rw [RT.1]; omega)
  refine lv_aload_n hx hb dX7_close_0 rfl (lv_at hl 0 rfl) ?_
  refine k_get (C := RX7) (T := TX7) (N := 6) (v := .int (σ 2 0)) hx hb hts hiX7 hown hK.1 R1 rfl 3 (by decide) (hts (.fieldLink RX7 99 "HouseWorkers" "closed" "Z") (by decide +kernel)) (fun _ h9 => h9) rfl dX7_close_1 ?_
  refine lv_if_eq (tgt := 10) hx hb dX7_close_4 (by decide) (fun c4 => ?_) (fun c4 => ?_)
  · refine lv_aload_n hx hb dX7_close_10 rfl (lv_at hl 0 rfl) ?_
    refine lv_iconst (v := 1) hx hb dX7_close_11 (by decide) ?_
    refine k_put (A := B) (C := RX7) (T := TX7) (N := 6) (ty := .boolean) (v := .int 1) hx hb hts hiX7 tyX7 tyX7_ok nmX7 hown hK.1 R1 hBh hS rfl 3 (by decide) (hts (.fieldLink RX7 99 "HouseWorkers" "closed" "Z") (by decide +kernel)) (fun _ h9 => h9) rfl (by decide +kernel) rfl rfl (Nat.le_of_ble_eq_true rfl) dX7_close_12 (fun H1 locs hO2 hz3 hq4 hS => ?_)
    have hRk : HR D cI cO eA B h0 wa (u2 σ 2 0 1) nW nV nE H1 := HR_f R1 R2 R3 R3g R4 R4g R5 R5g R6 R7 R8 R9 RT RB RN RL R12 R13 (by omega) hO2 hq4 hz3
    have hc0 := c4
    obtain ⟨τ, hτ⟩ : ∃ z : Sg, z = u2 σ 2 0 1 := ⟨_, rfl⟩
    rw [← hτ] at hRk
    have hIτ : Inv τ nW nV nE := by rw [hτ]; exact inv_closed hI
    refine lv_iconst (v := 0) hx hb dX7_close_15 (by decide) ?_
    refine lv_istore_n (lv' := [(1, .int 0), (0, .ref h0)]) hx hb dX7_close_16 rfl hl (by decide) rfl (fun ls hl => ?_)
    refine lv_iconst (v := 0) hx hb dX7_close_17 (by decide) ?_
    refine lv_istore_n (lv' := [(2, .int 0), (1, .int 0), (0, .ref h0)]) hx hb dX7_close_18 rfl hl (by decide) rfl (fun ls hl => ?_)
    have loop : ∀ (n : Nat), ∀ (i : Nat), i ≤ nW → nW + 1 ≤ i + n → ∀ (e1 : Nat), e1 = nE + (clsF i τ).1 → ∀ (H : Heap) (locs : List Loc), HR D cI cO eA B h0 wa (clsF i τ).2 nW nV e1 H → va_S B s.heap H locs → ∀ ls : Array Slot, lv_has ls 4 [(2, .int (nI i)), (1, .int (nI (clsF i τ).1)), (0, .ref h0)] → W p l e (headSpec wsX7_close ({ frames := 8, cells := 30, slots := 990, locals := 213 })).room s m ([.ref h0] : List Value).toArray below meth c H locs (clsF i τ).1 (33 * (clsF i τ).1) (MQ below (Qki (fun r H1 => r = (mCls σ nW).1 ∧ ∃ nV' nE', HR D cI cO eA B h0 wa (mCls σ nW).2 nW nV' nE' H1 ∧ Inv (mCls σ nW).2 nW nV' nE') B) ([.ref h0] : List Value).toArray s 30 990 B) (F0 m 19 ls []) := by
      intro n
      induction n with
      | zero => intro i h1 h2; exact absurd h2 (by omega)
      | succ n ih =>
        intro i hi hn e1 he1 H locs hR1 hS ls hl
        obtain ⟨e2, hI1, he2, -⟩ := inv_cls hIτ i hi
        have hee : e1 = e2 := by omega
        subst hee
        have hRc := hR1
        obtain ⟨hs, hc, hw, he, ec, ew, ee, pc, pw, pe, gc, gw, ge, va, da, ra, te, pn, rl, R1, R2, ⟨R3, R3g⟩, ⟨R4, R4g⟩, ⟨R5, R5g⟩, R6, R7, R8, R9, RT, RB, RN, RL, R12, R13⟩ := hR1
        have hn30 := hI1.n30
        have heW := hI1.eW
        have hvE := hI1.2.2.2.2.2.1
        have hv1 := hI1.2.2.2.2.1
        obtain ⟨⟨mw, hwo⟩, hwm⟩ := id R4
        have hcp : (clsF i τ).1 ≤ 30 := by omega
        have hsp : 33 * (clsF i τ).1 ≤ 990 := by omega
        refine lv_iload_n hx hb dX7_close_19 rfl (lv_at hl 0 rfl) ?_
        refine lv_aload_n hx hb dX7_close_20 rfl (lv_at hl 2 rfl) ?_
        refine k_get (C := RX7) (T := TX7) (N := 6) (v := .ref hw) hx hb hts hiX7 hown hK.1 R1 rfl 1 (by decide) (hts (.fieldLink RX7 19 "HouseWorkers" "works" "Ljava/util/ArrayList;") (by decide +kernel)) (fun _ h9 => h9) rfl dX7_close_21 ?_
        refine k_callpi (v := nI nW) (va_runV (As := []) (rest := [.int (nI i)]) ⟨hx, hb, hml, hown, hts⟩ (c_AL_size l _ hw ew nW mw hwo) (cwV 0 hts gX7_close_Jx4a65c_size_8abf5 rfl rfl rfl (by decide +kernel) ⟨Nat.le_of_ble_eq_true rfl, Nat.le_of_ble_eq_true rfl⟩) (k_preV hK (k_recv hK.1 hwo rfl)) rfl rfl hl.1 rfl (lv_room (Nat.le_of_ble_eq_true rfl)) dX7_close_24 ⟨hcp, hsp⟩) hS (fun locs hS => ?_)
        refine lv_icmp_ge (tgt := 64) hx hb dX7_close_27 (by decide) (fun c27 => ?_) (fun c27 => ?_)
        · have c27 := Int32.not_lt.mpr c27
          have hij : i = nW := Nat.le_antisymm hi (Nat.le_of_not_lt (fun q => c27 (nI_lt q (by omega))))
          rw [hij] at hRc hI1
          refine lv_iload_n hx hb dX7_close_64 rfl (lv_at hl 1 rfl) ?_
          refine W.widen (k := 30) (n := 990) (by omega) (by omega) ?_
          exact k_reti hx hb hr hlocks ⟨by unfold mCls; rw [if_neg (fun q => q hc0), hij, hτ], nV, e1, by unfold mCls; rw [if_neg (fun q => q hc0), ← hτ]; exact hRc, by unfold mCls; rw [if_neg (fun q => q hc0), ← hτ]; exact hI1⟩ hS dX7_close_65
        · have c27 := Int32.not_le.mp c27
          have hlt : i < nW := (nI_ltI (by omega) (by omega)).mp c27
          refine lv_aload_n hx hb dX7_close_30 rfl (lv_at hl 2 rfl) ?_
          refine k_get (C := RX7) (T := TX7) (N := 6) (v := .ref hw) hx hb hts hiX7 hown hK.1 R1 rfl 1 (by decide) (hts (.fieldLink RX7 19 "HouseWorkers" "works" "Ljava/util/ArrayList;") (by decide +kernel)) (fun _ h9 => h9) rfl dX7_close_31 ?_
          refine lv_iload_n hx hb dX7_close_34 rfl (lv_at hl 0 rfl) ?_
          obtain ⟨hnp, hnc, hcs, har, -⟩ : 0 < nW ∧ nW ≤ pw ∧ (pw = 10 ∨ pw = 15 ∨ pw = 22 ∨ pw = 33) ∧ Ar D cO ew pw gw H ∧ ∀ i, nW ≤ i → gw i = none := hwm.elim (fun q => absurd hlt (by omega)) id
          refine k_callpq (v := gw i) (va_runV (As := [.int (nI i)]) (rest := []) ⟨hx, hb, hml, hown, hts⟩ (c_AL_get l _ hw ew nW pw i mw gw hwo har hlt hnc (by omega)) (cwV 1 hts gX7_close_Jx4a65c_get_915e3 rfl rfl rfl (by decide +kernel) ⟨Nat.le_of_ble_eq_true rfl, Nat.le_of_ble_eq_true rfl⟩) (k_preV hK (k_recv hK.1 hwo rfl)) rfl rfl hl.1 rfl (lv_room (Nat.le_of_ble_eq_true rfl)) dX7_close_35 ⟨hcp, hsp⟩) hS (fun locs hS => ?_)
          rw [R4g i hlt]
          refine W.eq (g2 := F0 m 38 ls [.ref (wa i)]) rfl ?_
          obtain ⟨ci, ex, hvc, hob⟩ := (R7 i hlt).ob
          refine w_recv hK hob hvc hown hx hb (hts (.classLink RX7 91 "HouseWorkers$Work") (by decide +kernel)) dX7_close_38 ?_
          refine lv_astore_n (lv' := [(3, .ref (wa i)), (2, .int (nI i)), (1, .int (nI (clsF i τ).1)), (0, .ref h0)]) hx hb dX7_close_41 rfl hl (by decide) rfl (fun ls hl => ?_)
          refine lv_aload_n hx hb dX7_close_42 rfl (lv_at hl 0 rfl) ?_
          refine w_hasEnded (x := wx (clsF i τ).2 te pn i) (rest := [])  ⟨hx, hb, hml, hown, hts⟩ gX7_close_X5_hasEnded_u90X1 gX7_close_X5_hasEnded_u90X2 gX7_close_X5_hasEnded_u90X4 gX7_close_X5_hasEnded_u90X6 hK hob hvc  ⟨Nat.le_of_ble_eq_true rfl, Nat.le_of_ble_eq_true rfl⟩ ⟨Nat.le_of_ble_eq_true rfl, Nat.le_of_ble_eq_true rfl⟩ ⟨Nat.le_of_ble_eq_true rfl, Nat.le_of_ble_eq_true rfl⟩ ⟨Nat.le_of_ble_eq_true rfl, Nat.le_of_ble_eq_true rfl⟩ (Nat.le_of_ble_eq_true rfl) hl.1 ⟨hcp, hsp⟩ hS dX7_close_43 (fun locs hS => ?_)
          refine W.eq (g2 := F0 m 46 ls [.int (b2 (decide (¬ (clsF i τ).2 12 i = 0)))]) rfl ?_
          refine lv_if_ne (tgt := 58) hx hb dX7_close_46 (by decide) (fun c46 => ?_) (fun c46 => ?_)
          · have c46 : ¬ (clsF i τ).2 12 i = 0 := of_decide_eq_true (b2_n c46)
            refine lv_iinc (v := nI (i + 1)) (lv' := [(2, .int (nI (i + 1))), (3, .ref (wa i)), (1, .int (nI (clsF i τ).1)), (0, .ref h0)]) hx hb dX7_close_58 hl (k := 1) rfl (by rw [← nI_1]; rfl) (by decide) rfl (fun ls hl => ?_)
            refine lv_goto (tgt := 19) hx hb dX7_close_61 (by decide) ?_
            have hcu := cls_n c46
            refine W.widen (k := (clsF (i + 1) τ).1) (n := 33 * (clsF (i + 1) τ).1) (by rw [hcu]; exact Nat.le_refl _) (by rw [hcu]; exact Nat.le_refl _) ?_
            exact ih (i + 1) (by omega) (by omega) e1 (by rw [hcu]; exact he1) _ locs (by rw [hcu]; exact hRc) hS ls (by rw [hcu]; exact lv_sub hl [0, 2, 3] rfl)
          · have c46 : (clsF i τ).2 12 i = 0 := Decidable.byContradiction (of_decide_eq_false (b2_0 c46))
            refine lv_aload_n hx hb dX7_close_49 rfl (lv_at hl 3 rfl) ?_
            refine lv_aload_n hx hb dX7_close_50 rfl (lv_at hl 0 rfl) ?_
            refine lv_iconst (v := 4) hx hb dX7_close_51 (by decide) ?_
            have hEe := HR_E hRc hlt c46 (Or.inr (Or.inr rfl)) (fun q => absurd q (by decide)) (hI1.e17 c46)
            have hZc : ZZ eA B s H := hZ.S (fun q h => h) hS
            have hcl := cls_le τ i
            have hcq : (clsF i τ).1 + 1 ≤ 30 := by omega
            have hsq : 33 * (clsF i τ).1 + 33 ≤ 990 := by omega
            refine k_callv (va_runV (As := [.ref (wa i), .int 4]) (rest := []) ⟨hx, hb, hml, hown, hts⟩ (c_endWork l _ h0 wa (clsF i τ).2 nW nV e1 i 4 hEe hlt hn30 (by omega)) (cwV 2 hts gX7_close_X7_endWork rfl rfl rfl (by decide +kernel) ⟨Nat.le_of_ble_eq_true rfl, Nat.le_of_ble_eq_true rfl⟩) (z_preV hK hZc (k_recv hK.1 R1 rfl)) rfl rfl hl.1 rfl (lv_room (Nat.le_of_ble_eq_true rfl)) dX7_close_52 ⟨hcq, hsq⟩) hS (fun q h => h) (fun H2 locs hRb hzb hkb hS => ?_)
            refine lv_iinc (v := nI ((clsF i τ).1 + 1)) (lv' := [(1, .int (nI ((clsF i τ).1 + 1))), (3, .ref (wa i)), (2, .int (nI i)), (0, .ref h0)]) hx hb dX7_close_55 hl (k := 2) rfl (by rw [← nI_1]; rfl) (by decide) rfl (fun ls hl => ?_)
            refine lv_iinc (v := nI (i + 1)) (lv' := [(2, .int (nI (i + 1))), (1, .int (nI ((clsF i τ).1 + 1))), (3, .ref (wa i)), (0, .ref h0)]) hx hb dX7_close_58 hl (k := 2) rfl (by rw [← nI_1]; rfl) (by decide) rfl (fun ls hl => ?_)
            refine lv_goto (tgt := 19) hx hb dX7_close_61 (by decide) ?_
            have hcu := cls_u c46
            rw [hI1.2.2.1, nat_nI (by omega)] at hcu
            refine W.widen (k := (clsF (i + 1) τ).1) (n := 33 * (clsF (i + 1) τ).1) (by rw [hcu]; show _ ≤ (clsF i τ).1 + 1; omega) (by rw [hcu]; show _ ≤ 33 * ((clsF i τ).1 + 1); omega) ?_
            exact ih (i + 1) (by omega) (by omega) (e1 + 1) (by rw [hcu]; show e1 + 1 = nE + ((clsF i τ).1 + 1); omega) _ locs (by rw [hcu]; exact hRb) hS ls (by rw [hcu]; exact lv_sub hl [0, 1, 3] rfl)
    exact loop (nW + 1) 0 (Nat.zero_le _) (by omega) nE rfl _ _ hRk hS ls (lv_sub hl [0, 1, 2] rfl)
  · refine lv_bipush (v := -2) hx hb dX7_close_7 (by decide) ?_
    refine W.widen (k := 30) (n := 990) (by omega) (by omega) ?_
    exact k_reti hx hb hr hlocks ⟨by unfold mCls; rw [if_pos c4], nV, nE, by unfold mCls; rw [if_pos c4]; exact hR0, by unfold mCls; rw [if_pos c4]; exact hI⟩ hS dX7_close_9
