theorem inB_1 {w : Int32} (h : inB w 1 20 = true) : ∃ j, 1 ≤ j ∧ j ≤ 20 ∧ w = nI j := by
  have h0 : inB w 0 20 = true := by
    unfold inB at h ⊢
    rw [Bool.and_eq_true] at h ⊢
    refine ⟨decide_eq_true (fun q => of_decide_eq_true h.1 ?_), h.2⟩
    exact Int32.lt_trans q (by decide)
  obtain ⟨j, hj, e⟩ := inB_c (n := 20) rfl rfl (by decide) h0
  refine ⟨j, Nat.pos_of_ne_zero (fun q => ?_), hj, e⟩
  rw [e, q] at h
  exact absurd h (by decide)
set_option maxHeartbeats 4000000 in
set_option maxRecDepth 100000 in
theorem c_question (l : Launch) {D : va_G} {cI cZ cO : ClassId} {mi eA : Nat} {B : Nat → Prop} (H : Heap) (h0 : Nat) (wa : Nat → Nat) (σ : Sg) (nW nV nE : Nat) (many fails frm : Int32) (hR : HR D cI cO eA B h0 wa σ nW nV nE H) (hI : Inv σ nW nV nE) : Met l yX7_question wsX7_question ({ frames := 7, cells := 2, slots := 46, locals := 191 }) (Pz D cI cZ cO mi eA B [.ref h0, .int many, .int fails, .int frm] H) (Qki (fun r H1 => r = (mQue σ nW many fails frm).1 ∧ ∃ wa' nW' nV' nE', HR D cI cO eA B h0 wa' (mQue σ nW many fails frm).2 nW' nV' nE' H1 ∧ Inv (mQue σ nW many fails frm).2 nW' nV' nE') B) 2 46 B := by
  refine Met.ofW (cc := cX7_question) (maxL := 5) (ret := (some .int)) (by decide) rfl ?_
  intro p e s m args below meth c s₁ Bd hml hv
  obtain ⟨rfl, rfl, hK, hZ⟩ := hv
  have hx := Bd.exec
  have hb := Bd.bytes
  have hr := Bd.returns
  have hts := atoms_spec (ws := wsX7_question) Bd.pre
  have hown : s.vm.findClass RX7 = some m.cls := findClass_of_methodNamed Bd.named
  have hlocks := Bd.notSynchronized
  have hS : va_S B s.heap s.heap [] := va_S.rf
  have hl := lv_entry ([.ref h0, .int many, .int fails, .int frm]) (n := 5) (Nat.le_of_ble_eq_true rfl)
  rw [lg_entry_eq]
  generalize (lg_sl ([.ref h0, .int many, .int fails, .int frm]) ++ List.replicate (5 - (lg_sl ([.ref h0, .int many, .int fails, .int frm])).length) Slot.unset).toArray = ls at hl ⊢
  have hl : lv_has ls 5 [(0, .ref h0), (1, .int many), (2, .int fails), (3, .int frm)] := hl
  have hiX7 : ∀ w ∈ wsX70, w ∈ wsX7_question := by decide +kernel
  have hiX1 : ∀ w ∈ wsX10, w ∈ wsX7_question := by decide +kernel
  have hR0 := hR
  obtain ⟨hs, hc, hw, he, ec, ew, ee, pc, pw, pe, gc, gw, ge, va, da, ra, te, pn, rl, R1, R2, ⟨R3, R3g⟩, ⟨R4, R4g⟩, ⟨R5, R5g⟩, R6, R7, R8, R9, RT, RB, RN, RL, R12, R13⟩ := hR
  have hn30 := hI.n30
  have heW := hI.eW
  have hvE := hI.2.2.2.2.2.1
  have hv1 := hI.2.2.2.2.1
  obtain ⟨⟨mw, hwo⟩, hwm⟩ := id R4
  obtain ⟨⟨mcv, hco⟩, hcm⟩ := id R3
  obtain ⟨t0, t1, t2, t3, t4, t5, t6, t7, t8, t9, tw, td⟩ := id RT
  refine lv_iload_n hx hb dX7_question_0 rfl (lv_at hl 1 rfl) ?_
  refine k_callpi (v := b2 (inB many 1 20)) (va_runS (As := [.int many]) (rest := []) ⟨hx, hb, hml, hown, hts⟩ (c_areSteps l _ many) (va_cwS 1 hts gX7_question_X7_areSteps rfl rfl rfl (by decide +kernel) ⟨Nat.le_of_ble_eq_true rfl, Nat.le_of_ble_eq_true rfl⟩) (k_preS hK) rfl rfl hl.1 rfl (lv_room (Nat.le_of_ble_eq_true rfl)) dX7_question_1 ⟨(Nat.zero_le _), (Nat.zero_le _)⟩) hS (fun locs hS => ?_)
  refine lv_if_eq (tgt := 21) hx hb dX7_question_4 (by decide) (fun c4 => ?_) (fun c4 => ?_)
  · have hb1n := b2_0 c4
    refine lv_iconst (v := -1) hx hb dX7_question_21 (by decide) ?_
    refine W.widen (k := 2) (n := 46) (by decide) (by decide) ?_
    have hX : (mQue σ nW many fails frm) = (-1, σ) := by unfold mQue; rw [if_neg (fun q => absurd (hb1n.symm.trans q.1) Bool.false_ne_true)]
    exact k_reti hx hb hr hlocks ⟨by rw [hX], wa, nW, nV, nE, by rw [hX]; exact hR0, by rw [hX]; exact hI⟩ hS dX7_question_22
  · have hb1 := b2_n c4
    refine lv_iload_n hx hb dX7_question_7 rfl (lv_at hl 2 rfl) ?_
    refine k_callpi (v := b2 (inB fails 0 30)) (va_runS (As := [.int fails]) (rest := []) ⟨hx, hb, hml, hown, hts⟩ (c_isFailsAt l _ fails) (va_cwS 1 hts gX7_question_X7_isFailsAt rfl rfl rfl (by decide +kernel) ⟨Nat.le_of_ble_eq_true rfl, Nat.le_of_ble_eq_true rfl⟩) (k_preS hK) rfl rfl hl.1 rfl (lv_room (Nat.le_of_ble_eq_true rfl)) dX7_question_8 ⟨(Nat.zero_le _), (Nat.zero_le _)⟩) hS (fun locs hS => ?_)
    refine lv_if_eq (tgt := 21) hx hb dX7_question_11 (by decide) (fun c11 => ?_) (fun c11 => ?_)
    · have hb2n := b2_0 c11
      refine lv_iconst (v := -1) hx hb dX7_question_21 (by decide) ?_
      refine W.widen (k := 2) (n := 46) (by decide) (by decide) ?_
      have hX : (mQue σ nW many fails frm) = (-1, σ) := by unfold mQue; rw [if_neg (fun q => absurd (hb2n.symm.trans q.2.1) Bool.false_ne_true)]
      exact k_reti hx hb hr hlocks ⟨by rw [hX], wa, nW, nV, nE, by rw [hX]; exact hR0, by rw [hX]; exact hI⟩ hS dX7_question_22
    · have hb2 := b2_n c11
      refine lv_iload_n hx hb dX7_question_14 rfl (lv_at hl 3 rfl) ?_
      refine k_callpi (v := b2 (inB frm 0 15)) (va_runS (As := [.int frm]) (rest := []) ⟨hx, hb, hml, hown, hts⟩ (c_isCell l _ frm) (va_cwS 1 hts gX7_question_X7_isCell rfl rfl rfl (by decide +kernel) ⟨Nat.le_of_ble_eq_true rfl, Nat.le_of_ble_eq_true rfl⟩) (k_preS hK) rfl rfl hl.1 rfl (lv_room (Nat.le_of_ble_eq_true rfl)) dX7_question_15 ⟨(Nat.zero_le _), (Nat.zero_le _)⟩) hS (fun locs hS => ?_)
      refine lv_if_ne (tgt := 23) hx hb dX7_question_18 (by decide) (fun c18 => ?_) (fun c18 => ?_)
      · have hb3 := b2_n c18
        refine lv_aload_n hx hb dX7_question_23 rfl (lv_at hl 0 rfl) ?_
        refine k_callpi (va_runV (As := []) (rest := []) ⟨hx, hb, hml, hown, hts⟩ (c_nextNumber l _ h0 wa σ nW nV nE hR0 hI) (cwV 0 hts gX7_question_X7_nextNumber rfl rfl rfl (by decide +kernel) ⟨Nat.le_of_ble_eq_true rfl, Nat.le_of_ble_eq_true rfl⟩) (k_preV hK (k_recv hK.1 R1 rfl)) rfl rfl hl.1 rfl (lv_room (Nat.le_of_ble_eq_true rfl)) dX7_question_24 ⟨(Nat.zero_le _), (Nat.zero_le _)⟩) hS (fun locs hS => ?_)
        have hM : (mQue σ nW many fails frm) = beg σ nW 0 many fails frm 0 := by unfold mQue; rw [if_pos ⟨hb1, hb2, hb3⟩]
        by_cases h20 : σ 2 0 = 0
        · by_cases h30 : nW = 30
          · rw [show (if ¬ σ 2 0 = 0 then (-2 : Int32) else if nW = 30 then (-3) else nI nW) = (-3) by rw [if_neg (fun z => z h20), if_pos h30]]
            refine W.eq (g2 := F0 m 27 ls [.int (-3)]) rfl ?_
            have hX : (mQue σ nW many fails frm) = (-3, σ) := by rw [hM]; unfold beg; rw [if_neg (fun z => z h20), if_pos h30]
            refine lv_istore (lv' := [(4, .int (-3)), (0, .ref h0), (1, .int many), (2, .int fails), (3, .int frm)]) hx hb dX7_question_27 hl (by decide) rfl (fun ls hl => ?_)
            refine lv_iload hx hb dX7_question_29 (lv_at hl 0 rfl) ?_
            refine lv_if_lt (tgt := 58) hx hb dX7_question_31 (by decide) (fun c31 => ?_) (fun c31 => ?_)
            · refine lv_iload hx hb dX7_question_58 (lv_at hl 0 rfl) ?_
              refine W.widen (k := 2) (n := 46) (by decide) (by decide) ?_
              exact k_reti hx hb hr hlocks ⟨by rw [hX], wa, nW, nV, nE, by rw [hX]; exact hR0, by rw [hX]; exact hI⟩ hS dX7_question_60
            · exact absurd c31 (by decide)
          · rw [show (if ¬ σ 2 0 = 0 then (-2 : Int32) else if nW = 30 then (-3) else nI nW) = (nI nW) by rw [if_neg (fun z => z h20), if_neg h30]]
            refine W.eq (g2 := F0 m 27 ls [.int (nI nW)]) rfl ?_
            have hX : (mQue σ nW many fails frm) = (nI nW, (begS σ nW 0 many fails frm 0)) := by rw [hM]; unfold beg; rw [if_neg (fun z => z h20), if_neg h30]
            refine lv_istore (lv' := [(4, .int (nI nW)), (0, .ref h0), (1, .int many), (2, .int fails), (3, .int frm)]) hx hb dX7_question_27 hl (by decide) rfl (fun ls hl => ?_)
            refine lv_iload hx hb dX7_question_29 (lv_at hl 0 rfl) ?_
            refine lv_if_lt (tgt := 58) hx hb dX7_question_31 (by decide) (fun c31 => ?_) (fun c31 => ?_)
            · exact absurd c31 (nI_pos (by omega))
            · refine lv_aload_n hx hb dX7_question_34 rfl (lv_at hl 1 rfl) ?_
              refine k_get (C := RX7) (T := TX7) (N := 6) (v := .ref hw) hx hb hts hiX7 hown hK.1 R1 rfl 1 (by decide) (hts (.fieldLink RX7 19 "HouseWorkers" "works" "Ljava/util/ArrayList;") (by decide +kernel)) (fun _ h9 => h9) rfl dX7_question_35 ?_
              refine k_new (A := B) (ci := 2) (C := RX1) (T := TX1) (N := 13) (fs := [.int 0, .int 0, .int 0, .int 0, .int 0, .int 0, .int 0, .int 0, .int 0, .int 0, .int 0, .int 0, .null]) hx hb hts hiX1 tyX1 tyX1_ok hown (hts (.classLink RX7 54 RX1) (by decide +kernel)) (hts (.instantiable RX1 13) (by decide +kernel)) (hts (.initialized RX1) (by decide +kernel)) hK.1 hS rfl (fun j hj => by rcases (show j = 0 ∨ j = 1 ∨ j = 2 ∨ j = 3 ∨ j = 4 ∨ j = 5 ∨ j = 6 ∨ j = 7 ∨ j = 8 ∨ j = 9 ∨ j = 10 ∨ j = 11 ∨ j = 12 by omega) with rfl | rfl | rfl | rfl | rfl | rfl | rfl | rfl | rfl | rfl | rfl | rfl | rfl <;> rfl) (Nat.le_of_ble_eq_true rfl) (Nat.le_of_ble_eq_true rfl) dX7_question_38 (fun H1 hO2 hz3 ho4 hS => ?_)
              have hf5 := va_at.kept R1 (ho4 _ (va_at.lt R1))
              have hf6 := va_at.kept R2 (ho4 _ (va_at.lt R2))
              have hf7 := va_at.kept hco (ho4 _ (va_at.lt hco))
              refine lv_dup hx hb dX7_question_41 rfl ?_
              refine lv_iload hx hb dX7_question_42 (lv_at hl 0 rfl) ?_
              refine lv_iload_n hx hb dX7_question_44 rfl (lv_at hl 2 rfl) ?_
              refine lv_iload_n hx hb dX7_question_45 rfl (lv_at hl 3 rfl) ?_
              refine lv_iload_n hx hb dX7_question_46 rfl (lv_at hl 4 rfl) ?_
              refine lv_aload_n hx hb dX7_question_47 rfl (lv_at hl 1 rfl) ?_
              refine k_get (C := RX7) (T := TX7) (N := 6) (v := .ref hs) hx hb hts hiX7 hown hK.1 hf5 rfl 0 (by decide) (hts (.fieldLink RX7 12 "HouseWorkers" "store" "LHouseWorkers$Store;") (by decide +kernel)) (fun _ h9 => h9) rfl dX7_question_48 ?_
              have hob1 := hO2
              refine k_callv (va_runI (As := [.int (nI nW), .int many, .int fails, .int frm, .ref hs]) (rest := [.ref s.heap.size, .ref hw]) ⟨hx, hb, hml, hown, hts⟩ (c_X1_init l _ s.heap.size (nI nW) many fails frm hs (va 0) hc (va (nV - 1)) ec (nV - 1) mcv hob1 hf6 hf7 (Nat.ne_of_lt (va_at.lt R2)) (Nat.ne_of_lt (va_at.lt hco))) (cwI 5 hts gX7_question_X1_init rfl rfl rfl (hts (.initialized RX1) (by decide +kernel)) (hts (.methodLink RX7 56 yX1_init) (by decide +kernel)) (hts (.instanceMethod yX1_init) (by decide +kernel)) rfl (by decide +kernel) ⟨Nat.le_of_ble_eq_true rfl, Nat.le_of_ble_eq_true rfl⟩) (k_preS hK) rfl rfl hl.1 rfl (lv_room (Nat.le_of_ble_eq_true rfl)) dX7_question_51 ⟨Nat.le_of_ble_eq_true rfl, Nat.le_of_ble_eq_true rfl⟩) hS (fun q h => by rw [h]; exact RN _ (Nat.le_refl _)) (fun H3 locs hp3 hzI hk3 hS => ?_)
              have hag3 : ∀ p : Nat, p < s.heap.size → H3[p]? = s.heap[p]? := fun p hp => (hk3 p (by omega) (by omega)).trans (ho4 p hp)
              obtain ⟨hw3, hs3⟩ := hp3
              rw [show H1.size = s.heap.size + 1 from hz3] at hs3
              have helo : ElO D s.heap.size H3 := ⟨2, _, by decide, hw3⟩
              have R4c := R4.kept (hag3 _ R4.lt) (fun q => hag3 _ (R4.lte q))
              obtain ⟨mw3, hwo3⟩ := R4c.1
              have hZc : ZZ eA B s H3 := hZ.S (fun q h => h) hS
              have helb : ∀ i, i < nW → ∃ y, gw i = some y ∧ ElO D y H3 ∧ y ≠ hw := fun i hi => by have hk7 := R7 i hi; obtain ⟨c1, x1, v1, o1⟩ := (hk7.kept (hag3 _ hk7.lt)).ob; exact ⟨_, R4g i hi, v1.elo o1, tag_ne (tw i hi) t3 (by omega)⟩
              refine k_calli (va_runV (As := [.ref s.heap.size]) (rest := []) ⟨hx, hb, hml, hown, hts⟩ (c_AL_add l _ hw ew nW pw s.heap.size gw R4c (by omega) helo helb (fun q => tag_ne t3 (t6 q) (by omega)) (fun q => absurd R4.lt (by omega)) (fun q z => absurd (R4.lte q) (by omega)) (RB _ (by omega)) (fun q h => RN q (by omega))) (cwV 1 hts gX7_question_Jx4a65c_add_9ea2d rfl rfl rfl (by decide +kernel) ⟨Nat.le_of_ble_eq_true rfl, Nat.le_of_ble_eq_true rfl⟩) (z_preV hK hZc (k_recv hK.1 hwo3 rfl)) rfl rfl hl.1 rfl (lv_room (Nat.le_of_ble_eq_true rfl)) dX7_question_54 ⟨Nat.le_of_ble_eq_true rfl, Nat.le_of_ble_eq_true rfl⟩) hS (fun q h => h.elim (fun h => by rw [h]; exact RB _ (by omega)) (fun h => h.elim (fun h => by rw [h.1]; exact RB _ (by rw [t6 h.2]; omega)) (fun h => RN q (by omega)))) (fun r9 H4 locs hp9 hz4 hk4 hS => ?_)
              obtain ⟨rfl, e1, p1, g1, hAL1, hg1, hg2, he1⟩ := hp9
              have hag4 : ∀ p, rl p ≠ 3 → rl p ≠ 6 → p < s.heap.size → H4[p]? = s.heap[p]? := fun p z1 z2 z3 => (hk4 p (by omega) (fun q => q.elim (fun q => z1 (by rw [q]; exact t3)) (fun q => q.elim (fun q => z2 (by rw [q.1]; exact t6 q.2)) (fun q => by omega)))).trans (hag3 p z3)
              have hw4 := va_at.kept hw3 (hk4 (s.heap.size) (va_at.lt hw3) (fun q => q.elim (fun q => absurd R4.lt (by omega)) (fun q => q.elim (fun q => absurd (R4.lte q.2) (by omega)) (fun q => absurd (va_at.lt hw3) (by omega)))))
              obtain ⟨z9, z10, z12, z13⟩ := hI.2.2.2.2.2.2.2.2.2.1 nW (Nat.le_refl _)
              obtain ⟨τ, hτ⟩ : ∃ z : Sg, z = (begS σ nW 0 many fails frm 0) := ⟨_, rfl⟩
              have T4 : τ 4 nW = 0 := by rw [hτ]; exact beg_4
              have T5 : τ 5 nW = many := by rw [hτ]; exact beg_5
              have T6 : τ 6 nW = fails := by rw [hτ]; exact beg_6
              have T7 : τ 7 nW = frm := by rw [hτ]; exact beg_7
              have T8 : τ 8 nW = 0 := by rw [hτ]; exact beg_8
              have T11 : τ 11 nW = nI (nV - 1) := by rw [hτ, beg_11, if_pos (by decide), hI.2.1]; exact pk_sub (b := 1) hv1
              have TK : ∀ k i, k ≠ 3 → k ≠ 4 → k ≠ 5 → k ≠ 6 → k ≠ 7 → k ≠ 8 → k ≠ 11 → τ k i = σ k i := fun k i a b c d e f g => by rw [hτ]; exact beg_k i a b c d e f g
              have TJ : ∀ k i, i ≠ nW → k ≠ 3 → τ k i = σ k i := fun k i a b => by rw [hτ]; exact beg_o i a b
              have T9 : τ 9 nW = 0 := (TK 9 nW (by decide) (by decide) (by decide) (by decide) (by decide) (by decide) (by decide)).trans z9
              have T10 : τ 10 nW = 0 := (TK 10 nW (by decide) (by decide) (by decide) (by decide) (by decide) (by decide) (by decide)).trans z10
              have T12 : τ 12 nW = 0 := (TK 12 nW (by decide) (by decide) (by decide) (by decide) (by decide) (by decide) (by decide)).trans z12
              have T13 : τ 13 nW = 0 := (TK 13 nW (by decide) (by decide) (by decide) (by decide) (by decide) (by decide) (by decide)).trans z13
              have hpv : (nI (nV - 1)) = pin τ nW := by unfold pin; rw [T12, T4, T11]; rfl
              have hwx : ∀ ex, WFs (wx τ (upd te nW 0) (upd pn nW (nI (nV - 1))) nW) ex = WFs (w0 (nI nW) 0 many fails (nI (nV - 1)) (nI (nV - 1))) ex := fun ex => WFs_cg (fun k hk => by
                match k, hk with
                | 0, _ => rfl
                | 1, _ => exact T4
                | 2, _ => exact T5
                | 3, _ => exact T6
                | 4, _ => exact T9
                | 5, _ => exact T10
                | 6, _ => show hvr τ nW = (nI (nV - 1)); unfold hvr; rw [if_neg (fun q => by rw [T4] at q; exact absurd q.1 (by decide)), T11]
                | 7, _ => exact upd_at
                | 8, _ => exact T13
                | 9, _ => exact T12
                | 10, _ => exact upd_at
                | k + 11, h => exact absurd h (by omega))
              have hwk : WK D va (va_up da nW (s.heap.size + 1)) (upd te nW 0) (upd pn nW (nI (nV - 1))) τ nV nW s.heap.size H4 := Or.inl ⟨T4, nV - 1, by omega, T11, by rw [hwx, T7]; exact hw4⟩
              have hdr : false = true → CLs D cI (va_up ra (s.heap.size + 1) (s.heap.size + 2)) (s.heap.size + 1) (fun _ => 0) H4 := fun q => absurd q Bool.false_ne_true
              have hRn := HR_new (te := te) (pn := pn) R1 R2 R3 R3g R4 R4g R5 R5g R6 R7 R8 R9 RT RB RN RL R12 R13 (by omega) (fun i hi => (hI.e17 z12 i hi).2) TJ TK false (fun q => by rw [T4] at q; exact absurd q (by decide)) hag4 (by show s.heap.size + 1 ≤ H4.size; omega) hAL1 hg1 hg2 (he1.elim Or.inl (fun q => Or.inr (by show s.heap.size + 1 ≤ e1; omega))) hwk hpv hdr (fun c => hI.2.2.2.2.2.2.2.2.2.2.1 _ (by omega)) z12
              obtain ⟨fa, hfa, hf⟩ := inB_c (n := 30) rfl rfl (by decide) hb2
              obtain ⟨sp, hs1, hs2, hm⟩ := inB_1 hb1
              obtain ⟨a0, ha0, ha⟩ := inB_c (n := 15) rfl rfl (by decide) hb3
              have hIn : Inv τ (nW + 1) nV nE := by rw [hτ]; exact inv_beg hI (by omega) hm hf ha hfa ha0 (Or.inl ⟨Or.inl rfl, hs1, hs2⟩)
              rw [← hτ] at hX
              refine lv_pop hx hb dX7_question_57 rfl ?_
              refine lv_iload hx hb dX7_question_58 (lv_at hl 0 rfl) ?_
              refine W.widen (k := 2) (n := 46) (by decide) (by decide) ?_
              exact k_reti hx hb hr hlocks ⟨by rw [hX], _, nW + 1, nV, nE, by rw [hX]; exact hRn, by rw [hX]; exact hIn⟩ hS dX7_question_60
        · rw [show (if ¬ σ 2 0 = 0 then (-2 : Int32) else if nW = 30 then (-3) else nI nW) = (-2) by rw [if_pos h20]]
          refine W.eq (g2 := F0 m 27 ls [.int (-2)]) rfl ?_
          have hX : (mQue σ nW many fails frm) = (-2, σ) := by rw [hM]; unfold beg; rw [if_pos h20]
          refine lv_istore (lv' := [(4, .int (-2)), (0, .ref h0), (1, .int many), (2, .int fails), (3, .int frm)]) hx hb dX7_question_27 hl (by decide) rfl (fun ls hl => ?_)
          refine lv_iload hx hb dX7_question_29 (lv_at hl 0 rfl) ?_
          refine lv_if_lt (tgt := 58) hx hb dX7_question_31 (by decide) (fun c31 => ?_) (fun c31 => ?_)
          · refine lv_iload hx hb dX7_question_58 (lv_at hl 0 rfl) ?_
            refine W.widen (k := 2) (n := 46) (by decide) (by decide) ?_
            exact k_reti hx hb hr hlocks ⟨by rw [hX], wa, nW, nV, nE, by rw [hX]; exact hR0, by rw [hX]; exact hI⟩ hS dX7_question_60
          · exact absurd c31 (by decide)
      · have hb3n := b2_0 c18
        refine lv_iconst (v := -1) hx hb dX7_question_21 (by decide) ?_
        refine W.widen (k := 2) (n := 46) (by decide) (by decide) ?_
        have hX : (mQue σ nW many fails frm) = (-1, σ) := by unfold mQue; rw [if_neg (fun q => absurd (hb3n.symm.trans q.2.2) Bool.false_ne_true)]
        exact k_reti hx hb hr hlocks ⟨by rw [hX], wa, nW, nV, nE, by rw [hX]; exact hR0, by rw [hX]; exact hI⟩ hS dX7_question_22
set_option maxHeartbeats 4000000 in
set_option maxRecDepth 100000 in
theorem c_writer (l : Launch) {D : va_G} {cI cZ cO : ClassId} {mi eA : Nat} {B : Nat → Prop} (H : Heap) (h0 : Nat) (wa : Nat → Nat) (σ : Sg) (nW nV nE : Nat) (many fails frm more : Int32) (hR : HR D cI cO eA B h0 wa σ nW nV nE H) (hI : Inv σ nW nV nE) : Met l yX7_writer wsX7_writer ({ frames := 7, cells := 4, slots := 64, locals := 191 }) (Pz D cI cZ cO mi eA B [.ref h0, .int many, .int fails, .int frm, .int more] H) (Qki (fun r H1 => r = (mWri σ nW many fails frm more).1 ∧ ∃ wa' nW' nV' nE', HR D cI cO eA B h0 wa' (mWri σ nW many fails frm more).2 nW' nV' nE' H1 ∧ Inv (mWri σ nW many fails frm more).2 nW' nV' nE') B) 4 64 B := by
  refine Met.ofW (cc := cX7_writer) (maxL := 6) (ret := (some .int)) (by decide) rfl ?_
  intro p e s m args below meth c s₁ Bd hml hv
  obtain ⟨rfl, rfl, hK, hZ⟩ := hv
  have hx := Bd.exec
  have hb := Bd.bytes
  have hr := Bd.returns
  have hts := atoms_spec (ws := wsX7_writer) Bd.pre
  have hown : s.vm.findClass RX7 = some m.cls := findClass_of_methodNamed Bd.named
  have hlocks := Bd.notSynchronized
  have hS : va_S B s.heap s.heap [] := va_S.rf
  have hl := lv_entry ([.ref h0, .int many, .int fails, .int frm, .int more]) (n := 6) (Nat.le_of_ble_eq_true rfl)
  rw [lg_entry_eq]
  generalize (lg_sl ([.ref h0, .int many, .int fails, .int frm, .int more]) ++ List.replicate (6 - (lg_sl ([.ref h0, .int many, .int fails, .int frm, .int more])).length) Slot.unset).toArray = ls at hl ⊢
  have hl : lv_has ls 6 [(0, .ref h0), (1, .int many), (2, .int fails), (3, .int frm), (4, .int more)] := hl
  have hiX7 : ∀ w ∈ wsX70, w ∈ wsX7_writer := by decide +kernel
  have hiX6 : ∀ w ∈ wsX60, w ∈ wsX7_writer := by decide +kernel
  have hR0 := hR
  obtain ⟨hs, hc, hw, he, ec, ew, ee, pc, pw, pe, gc, gw, ge, va, da, ra, te, pn, rl, R1, R2, ⟨R3, R3g⟩, ⟨R4, R4g⟩, ⟨R5, R5g⟩, R6, R7, R8, R9, RT, RB, RN, RL, R12, R13⟩ := hR
  have hn30 := hI.n30
  have heW := hI.eW
  have hvE := hI.2.2.2.2.2.1
  have hv1 := hI.2.2.2.2.1
  obtain ⟨⟨mw, hwo⟩, hwm⟩ := id R4
  obtain ⟨⟨mcv, hco⟩, hcm⟩ := id R3
  obtain ⟨t0, t1, t2, t3, t4, t5, t6, t7, t8, t9, tw, td⟩ := id RT
  refine lv_iload_n hx hb dX7_writer_0 rfl (lv_at hl 1 rfl) ?_
  refine k_callpi (v := b2 (inB many 1 20)) (va_runS (As := [.int many]) (rest := []) ⟨hx, hb, hml, hown, hts⟩ (c_areSteps l _ many) (va_cwS 1 hts gX7_writer_X7_areSteps rfl rfl rfl (by decide +kernel) ⟨Nat.le_of_ble_eq_true rfl, Nat.le_of_ble_eq_true rfl⟩) (k_preS hK) rfl rfl hl.1 rfl (lv_room (Nat.le_of_ble_eq_true rfl)) dX7_writer_1 ⟨(Nat.zero_le _), (Nat.zero_le _)⟩) hS (fun locs hS => ?_)
  refine lv_if_eq (tgt := 21) hx hb dX7_writer_4 (by decide) (fun c4 => ?_) (fun c4 => ?_)
  · have hb1n := b2_0 c4
    refine lv_iconst (v := -1) hx hb dX7_writer_21 (by decide) ?_
    refine W.widen (k := 4) (n := 64) (by decide) (by decide) ?_
    have hX : (mWri σ nW many fails frm more) = (-1, σ) := by unfold mWri; rw [if_neg (fun q => absurd (hb1n.symm.trans q.1) Bool.false_ne_true)]
    exact k_reti hx hb hr hlocks ⟨by rw [hX], wa, nW, nV, nE, by rw [hX]; exact hR0, by rw [hX]; exact hI⟩ hS dX7_writer_22
  · have hb1 := b2_n c4
    refine lv_iload_n hx hb dX7_writer_7 rfl (lv_at hl 2 rfl) ?_
    refine k_callpi (v := b2 (inB fails 0 30)) (va_runS (As := [.int fails]) (rest := []) ⟨hx, hb, hml, hown, hts⟩ (c_isFailsAt l _ fails) (va_cwS 1 hts gX7_writer_X7_isFailsAt rfl rfl rfl (by decide +kernel) ⟨Nat.le_of_ble_eq_true rfl, Nat.le_of_ble_eq_true rfl⟩) (k_preS hK) rfl rfl hl.1 rfl (lv_room (Nat.le_of_ble_eq_true rfl)) dX7_writer_8 ⟨(Nat.zero_le _), (Nat.zero_le _)⟩) hS (fun locs hS => ?_)
    refine lv_if_eq (tgt := 21) hx hb dX7_writer_11 (by decide) (fun c11 => ?_) (fun c11 => ?_)
    · have hb2n := b2_0 c11
      refine lv_iconst (v := -1) hx hb dX7_writer_21 (by decide) ?_
      refine W.widen (k := 4) (n := 64) (by decide) (by decide) ?_
      have hX : (mWri σ nW many fails frm more) = (-1, σ) := by unfold mWri; rw [if_neg (fun q => absurd (hb2n.symm.trans q.2.1) Bool.false_ne_true)]
      exact k_reti hx hb hr hlocks ⟨by rw [hX], wa, nW, nV, nE, by rw [hX]; exact hR0, by rw [hX]; exact hI⟩ hS dX7_writer_22
    · have hb2 := b2_n c11
      refine lv_iload_n hx hb dX7_writer_14 rfl (lv_at hl 3 rfl) ?_
      refine k_callpi (v := b2 (inB frm 0 15)) (va_runS (As := [.int frm]) (rest := []) ⟨hx, hb, hml, hown, hts⟩ (c_isCell l _ frm) (va_cwS 1 hts gX7_writer_X7_isCell rfl rfl rfl (by decide +kernel) ⟨Nat.le_of_ble_eq_true rfl, Nat.le_of_ble_eq_true rfl⟩) (k_preS hK) rfl rfl hl.1 rfl (lv_room (Nat.le_of_ble_eq_true rfl)) dX7_writer_15 ⟨(Nat.zero_le _), (Nat.zero_le _)⟩) hS (fun locs hS => ?_)
      refine lv_if_ne (tgt := 23) hx hb dX7_writer_18 (by decide) (fun c18 => ?_) (fun c18 => ?_)
      · have hb3 := b2_n c18
        refine lv_aload_n hx hb dX7_writer_23 rfl (lv_at hl 0 rfl) ?_
        refine k_callpi (va_runV (As := []) (rest := []) ⟨hx, hb, hml, hown, hts⟩ (c_nextNumber l _ h0 wa σ nW nV nE hR0 hI) (cwV 0 hts gX7_writer_X7_nextNumber rfl rfl rfl (by decide +kernel) ⟨Nat.le_of_ble_eq_true rfl, Nat.le_of_ble_eq_true rfl⟩) (k_preV hK (k_recv hK.1 R1 rfl)) rfl rfl hl.1 rfl (lv_room (Nat.le_of_ble_eq_true rfl)) dX7_writer_24 ⟨(Nat.zero_le _), (Nat.zero_le _)⟩) hS (fun locs hS => ?_)
        have hM : (mWri σ nW many fails frm more) = beg σ nW 1 many fails frm more := by unfold mWri; rw [if_pos ⟨hb1, hb2, hb3⟩]
        by_cases h20 : σ 2 0 = 0
        · by_cases h30 : nW = 30
          · rw [show (if ¬ σ 2 0 = 0 then (-2 : Int32) else if nW = 30 then (-3) else nI nW) = (-3) by rw [if_neg (fun z => z h20), if_pos h30]]
            refine W.eq (g2 := F0 m 27 ls [.int (-3)]) rfl ?_
            have hX : (mWri σ nW many fails frm more) = (-3, σ) := by rw [hM]; unfold beg; rw [if_neg (fun z => z h20), if_pos h30]
            refine lv_istore (lv' := [(5, .int (-3)), (0, .ref h0), (1, .int many), (2, .int fails), (3, .int frm), (4, .int more)]) hx hb dX7_writer_27 hl (by decide) rfl (fun ls hl => ?_)
            refine lv_iload hx hb dX7_writer_29 (lv_at hl 0 rfl) ?_
            refine lv_if_lt (tgt := 56) hx hb dX7_writer_31 (by decide) (fun c31 => ?_) (fun c31 => ?_)
            · refine lv_iload hx hb dX7_writer_56 (lv_at hl 0 rfl) ?_
              refine W.widen (k := 4) (n := 64) (by decide) (by decide) ?_
              exact k_reti hx hb hr hlocks ⟨by rw [hX], wa, nW, nV, nE, by rw [hX]; exact hR0, by rw [hX]; exact hI⟩ hS dX7_writer_58
            · exact absurd c31 (by decide)
          · rw [show (if ¬ σ 2 0 = 0 then (-2 : Int32) else if nW = 30 then (-3) else nI nW) = (nI nW) by rw [if_neg (fun z => z h20), if_neg h30]]
            refine W.eq (g2 := F0 m 27 ls [.int (nI nW)]) rfl ?_
            have hX : (mWri σ nW many fails frm more) = (nI nW, (begS σ nW 1 many fails frm more)) := by rw [hM]; unfold beg; rw [if_neg (fun z => z h20), if_neg h30]
            refine lv_istore (lv' := [(5, .int (nI nW)), (0, .ref h0), (1, .int many), (2, .int fails), (3, .int frm), (4, .int more)]) hx hb dX7_writer_27 hl (by decide) rfl (fun ls hl => ?_)
            refine lv_iload hx hb dX7_writer_29 (lv_at hl 0 rfl) ?_
            refine lv_if_lt (tgt := 56) hx hb dX7_writer_31 (by decide) (fun c31 => ?_) (fun c31 => ?_)
            · exact absurd c31 (nI_pos (by omega))
            · refine lv_aload_n hx hb dX7_writer_34 rfl (lv_at hl 1 rfl) ?_
              refine k_get (C := RX7) (T := TX7) (N := 6) (v := .ref hw) hx hb hts hiX7 hown hK.1 R1 rfl 1 (by decide) (hts (.fieldLink RX7 19 "HouseWorkers" "works" "Ljava/util/ArrayList;") (by decide +kernel)) (fun _ h9 => h9) rfl dX7_writer_35 ?_
              refine k_new (A := B) (ci := 6) (C := RX6) (T := TX6) (N := 14) (fs := [.int 0, .int 0, .int 0, .int 0, .int 0, .int 0, .int 0, .int 0, .int 0, .int 0, .int 0, .int 0, .int 0, .null]) hx hb hts hiX6 tyX6 tyX6_ok hown (hts (.classLink RX7 63 RX6) (by decide +kernel)) (hts (.instantiable RX6 14) (by decide +kernel)) (hts (.initialized RX6) (by decide +kernel)) hK.1 hS rfl (fun j hj => by rcases (show j = 0 ∨ j = 1 ∨ j = 2 ∨ j = 3 ∨ j = 4 ∨ j = 5 ∨ j = 6 ∨ j = 7 ∨ j = 8 ∨ j = 9 ∨ j = 10 ∨ j = 11 ∨ j = 12 ∨ j = 13 by omega) with rfl | rfl | rfl | rfl | rfl | rfl | rfl | rfl | rfl | rfl | rfl | rfl | rfl | rfl <;> rfl) (Nat.le_of_ble_eq_true rfl) (Nat.le_of_ble_eq_true rfl) dX7_writer_38 (fun H1 hO2 hz3 ho4 hS => ?_)
              have hf5 := va_at.kept R1 (ho4 _ (va_at.lt R1))
              have hf6 := va_at.kept R2 (ho4 _ (va_at.lt R2))
              have hf7 := va_at.kept hco (ho4 _ (va_at.lt hco))
              refine lv_dup hx hb dX7_writer_41 rfl ?_
              refine lv_iload hx hb dX7_writer_42 (lv_at hl 0 rfl) ?_
              refine lv_iload_n hx hb dX7_writer_44 rfl (lv_at hl 2 rfl) ?_
              refine lv_iload_n hx hb dX7_writer_45 rfl (lv_at hl 3 rfl) ?_
              refine lv_iload_n hx hb dX7_writer_46 rfl (lv_at hl 4 rfl) ?_
              refine lv_iload hx hb dX7_writer_47 (lv_at hl 5 rfl) ?_
              have hob1 := hO2
              refine k_callv (va_runI (As := [.int (nI nW), .int many, .int fails, .int frm, .int more]) (rest := [.ref s.heap.size, .ref hw]) ⟨hx, hb, hml, hown, hts⟩ (c_X6_init l _ s.heap.size (nI nW) many fails frm more hob1) (cwI 5 hts gX7_writer_X6_init rfl rfl rfl (hts (.initialized RX6) (by decide +kernel)) (hts (.methodLink RX7 65 yX6_init) (by decide +kernel)) (hts (.instanceMethod yX6_init) (by decide +kernel)) rfl (by decide +kernel) ⟨Nat.le_of_ble_eq_true rfl, Nat.le_of_ble_eq_true rfl⟩) (k_preS hK) rfl rfl hl.1 rfl (lv_room (Nat.le_of_ble_eq_true rfl)) dX7_writer_49 ⟨Nat.le_of_ble_eq_true rfl, Nat.le_of_ble_eq_true rfl⟩) hS (fun q h => h.elim (fun h => by rw [h]; exact RN _ (Nat.le_refl _)) (fun h => RN q (by omega))) (fun H3 locs hp3 hzI hk3 hS => ?_)
              have hag3 : ∀ p : Nat, p < s.heap.size → H3[p]? = s.heap[p]? := fun p hp => (hk3 p (by omega) (fun q => by omega)).trans (ho4 p hp)
              obtain ⟨hw3, hd3, hr3, hs3⟩ := hp3
              rw [show H1.size = s.heap.size + 1 from hz3] at hw3 hd3 hr3 hs3
              have helo : ElO D s.heap.size H3 := ⟨6, _, by decide, hw3⟩
              have R4c := R4.kept (hag3 _ R4.lt) (fun q => hag3 _ (R4.lte q))
              obtain ⟨mw3, hwo3⟩ := R4c.1
              have hZc : ZZ eA B s H3 := hZ.S (fun q h => h) hS
              have helb : ∀ i, i < nW → ∃ y, gw i = some y ∧ ElO D y H3 ∧ y ≠ hw := fun i hi => by have hk7 := R7 i hi; obtain ⟨c1, x1, v1, o1⟩ := (hk7.kept (hag3 _ hk7.lt)).ob; exact ⟨_, R4g i hi, v1.elo o1, tag_ne (tw i hi) t3 (by omega)⟩
              refine k_calli (va_runV (As := [.ref s.heap.size]) (rest := []) ⟨hx, hb, hml, hown, hts⟩ (c_AL_add l _ hw ew nW pw s.heap.size gw R4c (by omega) helo helb (fun q => tag_ne t3 (t6 q) (by omega)) (fun q => absurd R4.lt (by omega)) (fun q z => absurd (R4.lte q) (by omega)) (RB _ (by omega)) (fun q h => RN q (by omega))) (cwV 1 hts gX7_writer_Jx4a65c_add_9ea2d rfl rfl rfl (by decide +kernel) ⟨Nat.le_of_ble_eq_true rfl, Nat.le_of_ble_eq_true rfl⟩) (z_preV hK hZc (k_recv hK.1 hwo3 rfl)) rfl rfl hl.1 rfl (lv_room (Nat.le_of_ble_eq_true rfl)) dX7_writer_52 ⟨Nat.le_of_ble_eq_true rfl, Nat.le_of_ble_eq_true rfl⟩) hS (fun q h => h.elim (fun h => by rw [h]; exact RB _ (by omega)) (fun h => h.elim (fun h => by rw [h.1]; exact RB _ (by rw [t6 h.2]; omega)) (fun h => RN q (by omega)))) (fun r9 H4 locs hp9 hz4 hk4 hS => ?_)
              obtain ⟨rfl, e1, p1, g1, hAL1, hg1, hg2, he1⟩ := hp9
              have hag4 : ∀ p, rl p ≠ 3 → rl p ≠ 6 → p < s.heap.size → H4[p]? = s.heap[p]? := fun p z1 z2 z3 => (hk4 p (by omega) (fun q => q.elim (fun q => z1 (by rw [q]; exact t3)) (fun q => q.elim (fun q => z2 (by rw [q.1]; exact t6 q.2)) (fun q => by omega)))).trans (hag3 p z3)
              have hw4 := va_at.kept hw3 (hk4 (s.heap.size) (va_at.lt hw3) (fun q => q.elim (fun q => absurd R4.lt (by omega)) (fun q => q.elim (fun q => absurd (R4.lte q.2) (by omega)) (fun q => absurd (va_at.lt hw3) (by omega)))))
              obtain ⟨z9, z10, z12, z13⟩ := hI.2.2.2.2.2.2.2.2.2.1 nW (Nat.le_refl _)
              obtain ⟨τ, hτ⟩ : ∃ z : Sg, z = (begS σ nW 1 many fails frm more) := ⟨_, rfl⟩
              have T4 : τ 4 nW = 1 := by rw [hτ]; exact beg_4
              have T5 : τ 5 nW = many := by rw [hτ]; exact beg_5
              have T6 : τ 6 nW = fails := by rw [hτ]; exact beg_6
              have T7 : τ 7 nW = frm := by rw [hτ]; exact beg_7
              have T8 : τ 8 nW = more := by rw [hτ]; exact beg_8
              have T11 : τ 11 nW = (-1) := by rw [hτ, beg_11, if_neg (by decide)]
              have TK : ∀ k i, k ≠ 3 → k ≠ 4 → k ≠ 5 → k ≠ 6 → k ≠ 7 → k ≠ 8 → k ≠ 11 → τ k i = σ k i := fun k i a b c d e f g => by rw [hτ]; exact beg_k i a b c d e f g
              have TJ : ∀ k i, i ≠ nW → k ≠ 3 → τ k i = σ k i := fun k i a b => by rw [hτ]; exact beg_o i a b
              have T9 : τ 9 nW = 0 := (TK 9 nW (by decide) (by decide) (by decide) (by decide) (by decide) (by decide) (by decide)).trans z9
              have T10 : τ 10 nW = 0 := (TK 10 nW (by decide) (by decide) (by decide) (by decide) (by decide) (by decide) (by decide)).trans z10
              have T12 : τ 12 nW = 0 := (TK 12 nW (by decide) (by decide) (by decide) (by decide) (by decide) (by decide) (by decide)).trans z12
              have T13 : τ 13 nW = 0 := (TK 13 nW (by decide) (by decide) (by decide) (by decide) (by decide) (by decide) (by decide)).trans z13
              have hpv : (-1) = pin τ nW := by unfold pin; rw [T12, T4]; rfl
              have hwx : ∀ ex, WFs (wx τ (upd te nW 0) (upd pn nW (-1)) nW) ex = WFs (w0 (nI nW) 1 many fails (-1) (-1)) ex := fun ex => WFs_cg (fun k hk => by
                match k, hk with
                | 0, _ => rfl
                | 1, _ => exact T4
                | 2, _ => exact T5
                | 3, _ => exact T6
                | 4, _ => exact T9
                | 5, _ => exact T10
                | 6, _ => show hvr τ nW = (-1); unfold hvr; rw [if_neg (fun q => by rw [T4] at q; exact absurd q.1 (by decide)), T11]
                | 7, _ => exact upd_at
                | 8, _ => exact T13
                | 9, _ => exact T12
                | 10, _ => exact upd_at
                | k + 11, h => exact absurd h (by omega))
              have hwk : WK D va (va_up da nW (s.heap.size + 1)) (upd te nW 0) (upd pn nW (-1)) τ nV nW s.heap.size H4 := Or.inr (Or.inl ⟨T4, by rw [hwx, T7, T8, up_at]; exact hw4⟩)
              have hd4 := va_at.kept hd3 (hk4 (s.heap.size + 1) (va_at.lt hd3) (fun q => q.elim (fun q => absurd R4.lt (by omega)) (fun q => q.elim (fun q => absurd (R4.lte q.2) (by omega)) (fun q => absurd (va_at.lt hd3) (by omega)))))
              have hr4 := va_at.kept hr3 (hk4 (s.heap.size + 1 + 1) (va_at.lt hr3) (fun q => q.elim (fun q => absurd R4.lt (by omega)) (fun q => q.elim (fun q => absurd (R4.lte q.2) (by omega)) (fun q => absurd (va_at.lt hr3) (by omega)))))
              have hdr : true = true → CLs D cI (va_up ra (s.heap.size + 1) (s.heap.size + 2)) (s.heap.size + 1) (fun _ => 0) H4 := fun _ => by unfold CLs; rw [up_at]; exact ⟨hd4, hr4⟩
              have hRn := HR_new (te := te) (pn := pn) R1 R2 R3 R3g R4 R4g R5 R5g R6 R7 R8 R9 RT RB RN RL R12 R13 (by omega) (fun i hi => (hI.e17 z12 i hi).2) TJ TK true (fun _ => rfl) hag4 (by show s.heap.size + 3 ≤ H4.size; omega) hAL1 hg1 hg2 (he1.elim Or.inl (fun q => Or.inr (by show s.heap.size + 3 ≤ e1; omega))) hwk hpv hdr (fun c => hI.2.2.2.2.2.2.2.2.2.2.1 _ (by omega)) z12
              obtain ⟨fa, hfa, hf⟩ := inB_c (n := 30) rfl rfl (by decide) hb2
              obtain ⟨sp, hs1, hs2, hm⟩ := inB_1 hb1
              obtain ⟨a0, ha0, ha⟩ := inB_c (n := 15) rfl rfl (by decide) hb3
              have hIn : Inv τ (nW + 1) nV nE := by rw [hτ]; exact inv_beg hI (by omega) hm hf ha hfa ha0 (Or.inl ⟨Or.inr (Or.inl rfl), hs1, hs2⟩)
              rw [← hτ] at hX
              refine lv_pop hx hb dX7_writer_55 rfl ?_
              refine lv_iload hx hb dX7_writer_56 (lv_at hl 0 rfl) ?_
              refine W.widen (k := 4) (n := 64) (by decide) (by decide) ?_
              exact k_reti hx hb hr hlocks ⟨by rw [hX], _, nW + 1, nV, nE, by rw [hX]; exact hRn, by rw [hX]; exact hIn⟩ hS dX7_writer_58
        · rw [show (if ¬ σ 2 0 = 0 then (-2 : Int32) else if nW = 30 then (-3) else nI nW) = (-2) by rw [if_pos h20]]
          refine W.eq (g2 := F0 m 27 ls [.int (-2)]) rfl ?_
          have hX : (mWri σ nW many fails frm more) = (-2, σ) := by rw [hM]; unfold beg; rw [if_pos h20]
          refine lv_istore (lv' := [(5, .int (-2)), (0, .ref h0), (1, .int many), (2, .int fails), (3, .int frm), (4, .int more)]) hx hb dX7_writer_27 hl (by decide) rfl (fun ls hl => ?_)
          refine lv_iload hx hb dX7_writer_29 (lv_at hl 0 rfl) ?_
          refine lv_if_lt (tgt := 56) hx hb dX7_writer_31 (by decide) (fun c31 => ?_) (fun c31 => ?_)
          · refine lv_iload hx hb dX7_writer_56 (lv_at hl 0 rfl) ?_
            refine W.widen (k := 4) (n := 64) (by decide) (by decide) ?_
            exact k_reti hx hb hr hlocks ⟨by rw [hX], wa, nW, nV, nE, by rw [hX]; exact hR0, by rw [hX]; exact hI⟩ hS dX7_writer_58
          · exact absurd c31 (by decide)
      · have hb3n := b2_0 c18
        refine lv_iconst (v := -1) hx hb dX7_writer_21 (by decide) ?_
        refine W.widen (k := 4) (n := 64) (by decide) (by decide) ?_
        have hX : (mWri σ nW many fails frm more) = (-1, σ) := by unfold mWri; rw [if_neg (fun q => absurd (hb3n.symm.trans q.2.2) Bool.false_ne_true)]
        exact k_reti hx hb hr hlocks ⟨by rw [hX], wa, nW, nV, nE, by rw [hX]; exact hR0, by rw [hX]; exact hI⟩ hS dX7_writer_22
set_option maxHeartbeats 4000000 in
set_option maxRecDepth 100000 in
theorem c_reason (l : Launch) {D : va_G} {cI cZ cO : ClassId} {mi eA : Nat} {B : Nat → Prop} (H : Heap) (h0 : Nat) (wa : Nat → Nat) (σ : Sg) (nW nV nE : Nat) (many fails : Int32) (hR : HR D cI cO eA B h0 wa σ nW nV nE H) (hI : Inv σ nW nV nE) : Met l yX7_reason wsX7_reason ({ frames := 7, cells := 4, slots := 62, locals := 191 }) (Pz D cI cZ cO mi eA B [.ref h0, .int many, .int fails] H) (Qki (fun r H1 => r = (mRea σ nW many fails).1 ∧ ∃ wa' nW' nV' nE', HR D cI cO eA B h0 wa' (mRea σ nW many fails).2 nW' nV' nE' H1 ∧ Inv (mRea σ nW many fails).2 nW' nV' nE') B) 4 62 B := by
  refine Met.ofW (cc := cX7_reason) (maxL := 4) (ret := (some .int)) (by decide) rfl ?_
  intro p e s m args below meth c s₁ Bd hml hv
  obtain ⟨rfl, rfl, hK, hZ⟩ := hv
  have hx := Bd.exec
  have hb := Bd.bytes
  have hr := Bd.returns
  have hts := atoms_spec (ws := wsX7_reason) Bd.pre
  have hown : s.vm.findClass RX7 = some m.cls := findClass_of_methodNamed Bd.named
  have hlocks := Bd.notSynchronized
  have hS : va_S B s.heap s.heap [] := va_S.rf
  have hl := lv_entry ([.ref h0, .int many, .int fails]) (n := 4) (Nat.le_of_ble_eq_true rfl)
  rw [lg_entry_eq]
  generalize (lg_sl ([.ref h0, .int many, .int fails]) ++ List.replicate (4 - (lg_sl ([.ref h0, .int many, .int fails])).length) Slot.unset).toArray = ls at hl ⊢
  have hl : lv_has ls 4 [(0, .ref h0), (1, .int many), (2, .int fails)] := hl
  have hiX7 : ∀ w ∈ wsX70, w ∈ wsX7_reason := by decide +kernel
  have hiX2 : ∀ w ∈ wsX20, w ∈ wsX7_reason := by decide +kernel
  have hR0 := hR
  obtain ⟨hs, hc, hw, he, ec, ew, ee, pc, pw, pe, gc, gw, ge, va, da, ra, te, pn, rl, R1, R2, ⟨R3, R3g⟩, ⟨R4, R4g⟩, ⟨R5, R5g⟩, R6, R7, R8, R9, RT, RB, RN, RL, R12, R13⟩ := hR
  have hn30 := hI.n30
  have heW := hI.eW
  have hvE := hI.2.2.2.2.2.1
  have hv1 := hI.2.2.2.2.1
  obtain ⟨⟨mw, hwo⟩, hwm⟩ := id R4
  obtain ⟨⟨mcv, hco⟩, hcm⟩ := id R3
  obtain ⟨t0, t1, t2, t3, t4, t5, t6, t7, t8, t9, tw, td⟩ := id RT
  refine lv_iload_n hx hb dX7_reason_0 rfl (lv_at hl 1 rfl) ?_
  refine k_callpi (v := b2 (inB many 1 20)) (va_runS (As := [.int many]) (rest := []) ⟨hx, hb, hml, hown, hts⟩ (c_areSteps l _ many) (va_cwS 1 hts gX7_reason_X7_areSteps rfl rfl rfl (by decide +kernel) ⟨Nat.le_of_ble_eq_true rfl, Nat.le_of_ble_eq_true rfl⟩) (k_preS hK) rfl rfl hl.1 rfl (lv_room (Nat.le_of_ble_eq_true rfl)) dX7_reason_1 ⟨(Nat.zero_le _), (Nat.zero_le _)⟩) hS (fun locs hS => ?_)
  refine lv_if_eq (tgt := 14) hx hb dX7_reason_4 (by decide) (fun c4 => ?_) (fun c4 => ?_)
  · have hb1n := b2_0 c4
    refine lv_iconst (v := -1) hx hb dX7_reason_14 (by decide) ?_
    refine W.widen (k := 4) (n := 62) (by decide) (by decide) ?_
    have hX : (mRea σ nW many fails) = (-1, σ) := by unfold mRea; rw [if_neg (fun q => absurd (hb1n.symm.trans q.1) Bool.false_ne_true)]
    exact k_reti hx hb hr hlocks ⟨by rw [hX], wa, nW, nV, nE, by rw [hX]; exact hR0, by rw [hX]; exact hI⟩ hS dX7_reason_15
  · have hb1 := b2_n c4
    refine lv_iload_n hx hb dX7_reason_7 rfl (lv_at hl 2 rfl) ?_
    refine k_callpi (v := b2 (inB fails 0 30)) (va_runS (As := [.int fails]) (rest := []) ⟨hx, hb, hml, hown, hts⟩ (c_isFailsAt l _ fails) (va_cwS 1 hts gX7_reason_X7_isFailsAt rfl rfl rfl (by decide +kernel) ⟨Nat.le_of_ble_eq_true rfl, Nat.le_of_ble_eq_true rfl⟩) (k_preS hK) rfl rfl hl.1 rfl (lv_room (Nat.le_of_ble_eq_true rfl)) dX7_reason_8 ⟨(Nat.zero_le _), (Nat.zero_le _)⟩) hS (fun locs hS => ?_)
    refine lv_if_ne (tgt := 16) hx hb dX7_reason_11 (by decide) (fun c11 => ?_) (fun c11 => ?_)
    · have hb2 := b2_n c11
      refine lv_aload_n hx hb dX7_reason_16 rfl (lv_at hl 0 rfl) ?_
      refine k_callpi (va_runV (As := []) (rest := []) ⟨hx, hb, hml, hown, hts⟩ (c_nextNumber l _ h0 wa σ nW nV nE hR0 hI) (cwV 0 hts gX7_reason_X7_nextNumber rfl rfl rfl (by decide +kernel) ⟨Nat.le_of_ble_eq_true rfl, Nat.le_of_ble_eq_true rfl⟩) (k_preV hK (k_recv hK.1 R1 rfl)) rfl rfl hl.1 rfl (lv_room (Nat.le_of_ble_eq_true rfl)) dX7_reason_17 ⟨(Nat.zero_le _), (Nat.zero_le _)⟩) hS (fun locs hS => ?_)
      have hM : (mRea σ nW many fails) = beg σ nW 2 many fails 0 0 := by unfold mRea; rw [if_pos ⟨hb1, hb2⟩]
      by_cases h20 : σ 2 0 = 0
      · by_cases h30 : nW = 30
        · rw [show (if ¬ σ 2 0 = 0 then (-2 : Int32) else if nW = 30 then (-3) else nI nW) = (-3) by rw [if_neg (fun z => z h20), if_pos h30]]
          refine W.eq (g2 := F0 m 20 ls [.int (-3)]) rfl ?_
          have hX : (mRea σ nW many fails) = (-3, σ) := by rw [hM]; unfold beg; rw [if_neg (fun z => z h20), if_pos h30]
          refine lv_istore_n (lv' := [(3, .int (-3)), (0, .ref h0), (1, .int many), (2, .int fails)]) hx hb dX7_reason_20 rfl hl (by decide) rfl (fun ls hl => ?_)
          refine lv_iload_n hx hb dX7_reason_21 rfl (lv_at hl 0 rfl) ?_
          refine lv_if_lt (tgt := 43) hx hb dX7_reason_22 (by decide) (fun c22 => ?_) (fun c22 => ?_)
          · refine lv_iload_n hx hb dX7_reason_43 rfl (lv_at hl 0 rfl) ?_
            refine W.widen (k := 4) (n := 62) (by decide) (by decide) ?_
            exact k_reti hx hb hr hlocks ⟨by rw [hX], wa, nW, nV, nE, by rw [hX]; exact hR0, by rw [hX]; exact hI⟩ hS dX7_reason_44
          · exact absurd c22 (by decide)
        · rw [show (if ¬ σ 2 0 = 0 then (-2 : Int32) else if nW = 30 then (-3) else nI nW) = (nI nW) by rw [if_neg (fun z => z h20), if_neg h30]]
          refine W.eq (g2 := F0 m 20 ls [.int (nI nW)]) rfl ?_
          have hX : (mRea σ nW many fails) = (nI nW, (begS σ nW 2 many fails 0 0)) := by rw [hM]; unfold beg; rw [if_neg (fun z => z h20), if_neg h30]
          refine lv_istore_n (lv' := [(3, .int (nI nW)), (0, .ref h0), (1, .int many), (2, .int fails)]) hx hb dX7_reason_20 rfl hl (by decide) rfl (fun ls hl => ?_)
          refine lv_iload_n hx hb dX7_reason_21 rfl (lv_at hl 0 rfl) ?_
          refine lv_if_lt (tgt := 43) hx hb dX7_reason_22 (by decide) (fun c22 => ?_) (fun c22 => ?_)
          · exact absurd c22 (nI_pos (by omega))
          · refine lv_aload_n hx hb dX7_reason_25 rfl (lv_at hl 1 rfl) ?_
            refine k_get (C := RX7) (T := TX7) (N := 6) (v := .ref hw) hx hb hts hiX7 hown hK.1 R1 rfl 1 (by decide) (hts (.fieldLink RX7 19 "HouseWorkers" "works" "Ljava/util/ArrayList;") (by decide +kernel)) (fun _ h9 => h9) rfl dX7_reason_26 ?_
            refine k_new (A := B) (ci := 3) (C := RX2) (T := TX2) (N := 12) (fs := [.int 0, .int 0, .int 0, .int 0, .int 0, .int 0, .int 0, .int 0, .int 0, .int 0, .int 0, .null]) hx hb hts hiX2 tyX2 tyX2_ok hown (hts (.classLink RX7 68 RX2) (by decide +kernel)) (hts (.instantiable RX2 12) (by decide +kernel)) (hts (.initialized RX2) (by decide +kernel)) hK.1 hS rfl (fun j hj => by rcases (show j = 0 ∨ j = 1 ∨ j = 2 ∨ j = 3 ∨ j = 4 ∨ j = 5 ∨ j = 6 ∨ j = 7 ∨ j = 8 ∨ j = 9 ∨ j = 10 ∨ j = 11 by omega) with rfl | rfl | rfl | rfl | rfl | rfl | rfl | rfl | rfl | rfl | rfl | rfl <;> rfl) (Nat.le_of_ble_eq_true rfl) (Nat.le_of_ble_eq_true rfl) dX7_reason_29 (fun H1 hO2 hz3 ho4 hS => ?_)
            have hf5 := va_at.kept R1 (ho4 _ (va_at.lt R1))
            have hf6 := va_at.kept R2 (ho4 _ (va_at.lt R2))
            have hf7 := va_at.kept hco (ho4 _ (va_at.lt hco))
            refine lv_dup hx hb dX7_reason_32 rfl ?_
            refine lv_iload_n hx hb dX7_reason_33 rfl (lv_at hl 0 rfl) ?_
            refine lv_iload_n hx hb dX7_reason_34 rfl (lv_at hl 2 rfl) ?_
            refine lv_iload_n hx hb dX7_reason_35 rfl (lv_at hl 3 rfl) ?_
            have hob1 := hO2
            refine k_callv (va_runI (As := [.int (nI nW), .int many, .int fails]) (rest := [.ref s.heap.size, .ref hw]) ⟨hx, hb, hml, hown, hts⟩ (c_X2_init l _ s.heap.size (nI nW) many fails hob1) (cwI 3 hts gX7_reason_X2_init rfl rfl rfl (hts (.initialized RX2) (by decide +kernel)) (hts (.methodLink RX7 70 yX2_init) (by decide +kernel)) (hts (.instanceMethod yX2_init) (by decide +kernel)) rfl (by decide +kernel) ⟨Nat.le_of_ble_eq_true rfl, Nat.le_of_ble_eq_true rfl⟩) (k_preS hK) rfl rfl hl.1 rfl (lv_room (Nat.le_of_ble_eq_true rfl)) dX7_reason_36 ⟨Nat.le_of_ble_eq_true rfl, Nat.le_of_ble_eq_true rfl⟩) hS (fun q h => h.elim (fun h => by rw [h]; exact RN _ (Nat.le_refl _)) (fun h => RN q (by omega))) (fun H3 locs hp3 hzI hk3 hS => ?_)
            have hag3 : ∀ p : Nat, p < s.heap.size → H3[p]? = s.heap[p]? := fun p hp => (hk3 p (by omega) (fun q => by omega)).trans (ho4 p hp)
            obtain ⟨hw3, hd3, hr3, hs3⟩ := hp3
            rw [show H1.size = s.heap.size + 1 from hz3] at hw3 hd3 hr3 hs3
            have helo : ElO D s.heap.size H3 := ⟨3, _, by decide, hw3⟩
            have R4c := R4.kept (hag3 _ R4.lt) (fun q => hag3 _ (R4.lte q))
            obtain ⟨mw3, hwo3⟩ := R4c.1
            have hZc : ZZ eA B s H3 := hZ.S (fun q h => h) hS
            have helb : ∀ i, i < nW → ∃ y, gw i = some y ∧ ElO D y H3 ∧ y ≠ hw := fun i hi => by have hk7 := R7 i hi; obtain ⟨c1, x1, v1, o1⟩ := (hk7.kept (hag3 _ hk7.lt)).ob; exact ⟨_, R4g i hi, v1.elo o1, tag_ne (tw i hi) t3 (by omega)⟩
            refine k_calli (va_runV (As := [.ref s.heap.size]) (rest := []) ⟨hx, hb, hml, hown, hts⟩ (c_AL_add l _ hw ew nW pw s.heap.size gw R4c (by omega) helo helb (fun q => tag_ne t3 (t6 q) (by omega)) (fun q => absurd R4.lt (by omega)) (fun q z => absurd (R4.lte q) (by omega)) (RB _ (by omega)) (fun q h => RN q (by omega))) (cwV 1 hts gX7_reason_Jx4a65c_add_9ea2d rfl rfl rfl (by decide +kernel) ⟨Nat.le_of_ble_eq_true rfl, Nat.le_of_ble_eq_true rfl⟩) (z_preV hK hZc (k_recv hK.1 hwo3 rfl)) rfl rfl hl.1 rfl (lv_room (Nat.le_of_ble_eq_true rfl)) dX7_reason_39 ⟨Nat.le_of_ble_eq_true rfl, Nat.le_of_ble_eq_true rfl⟩) hS (fun q h => h.elim (fun h => by rw [h]; exact RB _ (by omega)) (fun h => h.elim (fun h => by rw [h.1]; exact RB _ (by rw [t6 h.2]; omega)) (fun h => RN q (by omega)))) (fun r9 H4 locs hp9 hz4 hk4 hS => ?_)
            obtain ⟨rfl, e1, p1, g1, hAL1, hg1, hg2, he1⟩ := hp9
            have hag4 : ∀ p, rl p ≠ 3 → rl p ≠ 6 → p < s.heap.size → H4[p]? = s.heap[p]? := fun p z1 z2 z3 => (hk4 p (by omega) (fun q => q.elim (fun q => z1 (by rw [q]; exact t3)) (fun q => q.elim (fun q => z2 (by rw [q.1]; exact t6 q.2)) (fun q => by omega)))).trans (hag3 p z3)
            have hw4 := va_at.kept hw3 (hk4 (s.heap.size) (va_at.lt hw3) (fun q => q.elim (fun q => absurd R4.lt (by omega)) (fun q => q.elim (fun q => absurd (R4.lte q.2) (by omega)) (fun q => absurd (va_at.lt hw3) (by omega)))))
            obtain ⟨z9, z10, z12, z13⟩ := hI.2.2.2.2.2.2.2.2.2.1 nW (Nat.le_refl _)
            obtain ⟨τ, hτ⟩ : ∃ z : Sg, z = (begS σ nW 2 many fails 0 0) := ⟨_, rfl⟩
            have T4 : τ 4 nW = 2 := by rw [hτ]; exact beg_4
            have T5 : τ 5 nW = many := by rw [hτ]; exact beg_5
            have T6 : τ 6 nW = fails := by rw [hτ]; exact beg_6
            have T7 : τ 7 nW = 0 := by rw [hτ]; exact beg_7
            have T8 : τ 8 nW = 0 := by rw [hτ]; exact beg_8
            have T11 : τ 11 nW = (-1) := by rw [hτ, beg_11, if_neg (by decide)]
            have TK : ∀ k i, k ≠ 3 → k ≠ 4 → k ≠ 5 → k ≠ 6 → k ≠ 7 → k ≠ 8 → k ≠ 11 → τ k i = σ k i := fun k i a b c d e f g => by rw [hτ]; exact beg_k i a b c d e f g
            have TJ : ∀ k i, i ≠ nW → k ≠ 3 → τ k i = σ k i := fun k i a b => by rw [hτ]; exact beg_o i a b
            have T9 : τ 9 nW = 0 := (TK 9 nW (by decide) (by decide) (by decide) (by decide) (by decide) (by decide) (by decide)).trans z9
            have T10 : τ 10 nW = 0 := (TK 10 nW (by decide) (by decide) (by decide) (by decide) (by decide) (by decide) (by decide)).trans z10
            have T12 : τ 12 nW = 0 := (TK 12 nW (by decide) (by decide) (by decide) (by decide) (by decide) (by decide) (by decide)).trans z12
            have T13 : τ 13 nW = 0 := (TK 13 nW (by decide) (by decide) (by decide) (by decide) (by decide) (by decide) (by decide)).trans z13
            have hpv : (-1) = pin τ nW := by unfold pin; rw [T12, T4, T11]; rfl
            have hwx : ∀ ex, WFs (wx τ (upd te nW 0) (upd pn nW (-1)) nW) ex = WFs (w0 (nI nW) 2 many fails (-1) (-1)) ex := fun ex => WFs_cg (fun k hk => by
              match k, hk with
              | 0, _ => rfl
              | 1, _ => exact T4
              | 2, _ => exact T5
              | 3, _ => exact T6
              | 4, _ => exact T9
              | 5, _ => exact T10
              | 6, _ => show hvr τ nW = (-1); unfold hvr; rw [if_pos ⟨T4, by rw [T12]; decide⟩]
              | 7, _ => exact upd_at
              | 8, _ => exact T13
              | 9, _ => exact T12
              | 10, _ => exact upd_at
              | k + 11, h => exact absurd h (by omega))
            have hwk : WK D va (va_up da nW (s.heap.size + 1)) (upd te nW 0) (upd pn nW (-1)) τ nV nW s.heap.size H4 := Or.inr (Or.inr (Or.inl ⟨T4, by rw [hwx, up_at]; exact hw4⟩))
            have hd4 := va_at.kept hd3 (hk4 (s.heap.size + 1) (va_at.lt hd3) (fun q => q.elim (fun q => absurd R4.lt (by omega)) (fun q => q.elim (fun q => absurd (R4.lte q.2) (by omega)) (fun q => absurd (va_at.lt hd3) (by omega)))))
            have hr4 := va_at.kept hr3 (hk4 (s.heap.size + 1 + 1) (va_at.lt hr3) (fun q => q.elim (fun q => absurd R4.lt (by omega)) (fun q => q.elim (fun q => absurd (R4.lte q.2) (by omega)) (fun q => absurd (va_at.lt hr3) (by omega)))))
            have hdr : true = true → CLs D cI (va_up ra (s.heap.size + 1) (s.heap.size + 2)) (s.heap.size + 1) (fun _ => 0) H4 := fun _ => by unfold CLs; rw [up_at]; exact ⟨hd4, hr4⟩
            have hRn := HR_new (te := te) (pn := pn) R1 R2 R3 R3g R4 R4g R5 R5g R6 R7 R8 R9 RT RB RN RL R12 R13 (by omega) (fun i hi => (hI.e17 z12 i hi).2) TJ TK true (fun _ => rfl) hag4 (by show s.heap.size + 3 ≤ H4.size; omega) hAL1 hg1 hg2 (he1.elim Or.inl (fun q => Or.inr (by show s.heap.size + 3 ≤ e1; omega))) hwk hpv hdr (fun c => hI.2.2.2.2.2.2.2.2.2.2.1 _ (by omega)) z12
            obtain ⟨fa, hfa, hf⟩ := inB_c (n := 30) rfl rfl (by decide) hb2
            obtain ⟨sp, hs1, hs2, hm⟩ := inB_1 hb1
            have hIn : Inv τ (nW + 1) nV nE := by rw [hτ]; exact inv_beg hI (by omega) hm hf (a := 0) rfl hfa (by decide) (Or.inl ⟨Or.inr (Or.inr rfl), hs1, hs2⟩)
            rw [← hτ] at hX
            refine lv_pop hx hb dX7_reason_42 rfl ?_
            refine lv_iload_n hx hb dX7_reason_43 rfl (lv_at hl 0 rfl) ?_
            refine W.widen (k := 4) (n := 62) (by decide) (by decide) ?_
            exact k_reti hx hb hr hlocks ⟨by rw [hX], _, nW + 1, nV, nE, by rw [hX]; exact hRn, by rw [hX]; exact hIn⟩ hS dX7_reason_44
      · rw [show (if ¬ σ 2 0 = 0 then (-2 : Int32) else if nW = 30 then (-3) else nI nW) = (-2) by rw [if_pos h20]]
        refine W.eq (g2 := F0 m 20 ls [.int (-2)]) rfl ?_
        have hX : (mRea σ nW many fails) = (-2, σ) := by rw [hM]; unfold beg; rw [if_pos h20]
        refine lv_istore_n (lv' := [(3, .int (-2)), (0, .ref h0), (1, .int many), (2, .int fails)]) hx hb dX7_reason_20 rfl hl (by decide) rfl (fun ls hl => ?_)
        refine lv_iload_n hx hb dX7_reason_21 rfl (lv_at hl 0 rfl) ?_
        refine lv_if_lt (tgt := 43) hx hb dX7_reason_22 (by decide) (fun c22 => ?_) (fun c22 => ?_)
        · refine lv_iload_n hx hb dX7_reason_43 rfl (lv_at hl 0 rfl) ?_
          refine W.widen (k := 4) (n := 62) (by decide) (by decide) ?_
          exact k_reti hx hb hr hlocks ⟨by rw [hX], wa, nW, nV, nE, by rw [hX]; exact hR0, by rw [hX]; exact hI⟩ hS dX7_reason_44
        · exact absurd c22 (by decide)
    · have hb2n := b2_0 c11
      refine lv_iconst (v := -1) hx hb dX7_reason_14 (by decide) ?_
      refine W.widen (k := 4) (n := 62) (by decide) (by decide) ?_
      have hX : (mRea σ nW many fails) = (-1, σ) := by unfold mRea; rw [if_neg (fun q => absurd (hb2n.symm.trans q.2) Bool.false_ne_true)]
      exact k_reti hx hb hr hlocks ⟨by rw [hX], wa, nW, nV, nE, by rw [hX]; exact hR0, by rw [hX]; exact hI⟩ hS dX7_reason_15
set_option maxHeartbeats 4000000 in
set_option maxRecDepth 100000 in
theorem c_stream (l : Launch) {D : va_G} {cI cZ cO : ClassId} {mi eA : Nat} {B : Nat → Prop} (H : Heap) (h0 : Nat) (wa : Nat → Nat) (σ : Sg) (nW nV nE : Nat)  (hR : HR D cI cO eA B h0 wa σ nW nV nE H) (hI : Inv σ nW nV nE) : Met l yX7_stream wsX7_stream ({ frames := 7, cells := 2, slots := 44, locals := 191 }) (Pz D cI cZ cO mi eA B [.ref h0] H) (Qki (fun r H1 => r = (beg σ nW 3 0 0 0 0).1 ∧ ∃ wa' nW' nV' nE', HR D cI cO eA B h0 wa' (beg σ nW 3 0 0 0 0).2 nW' nV' nE' H1 ∧ Inv (beg σ nW 3 0 0 0 0).2 nW' nV' nE') B) 2 44 B := by
  refine Met.ofW (cc := cX7_stream) (maxL := 2) (ret := (some .int)) (by decide) rfl ?_
  intro p e s m args below meth c s₁ Bd hml hv
  obtain ⟨rfl, rfl, hK, hZ⟩ := hv
  have hx := Bd.exec
  have hb := Bd.bytes
  have hr := Bd.returns
  have hts := atoms_spec (ws := wsX7_stream) Bd.pre
  have hown : s.vm.findClass RX7 = some m.cls := findClass_of_methodNamed Bd.named
  have hlocks := Bd.notSynchronized
  have hS : va_S B s.heap s.heap [] := va_S.rf
  have hl := lv_entry ([.ref h0]) (n := 2) (Nat.le_of_ble_eq_true rfl)
  rw [lg_entry_eq]
  generalize (lg_sl ([.ref h0]) ++ List.replicate (2 - (lg_sl ([.ref h0])).length) Slot.unset).toArray = ls at hl ⊢
  have hl : lv_has ls 2 [(0, .ref h0)] := hl
  have hiX7 : ∀ w ∈ wsX70, w ∈ wsX7_stream := by decide +kernel
  have hiX4 : ∀ w ∈ wsX40, w ∈ wsX7_stream := by decide +kernel
  have hR0 := hR
  obtain ⟨hs, hc, hw, he, ec, ew, ee, pc, pw, pe, gc, gw, ge, va, da, ra, te, pn, rl, R1, R2, ⟨R3, R3g⟩, ⟨R4, R4g⟩, ⟨R5, R5g⟩, R6, R7, R8, R9, RT, RB, RN, RL, R12, R13⟩ := hR
  have hn30 := hI.n30
  have heW := hI.eW
  have hvE := hI.2.2.2.2.2.1
  have hv1 := hI.2.2.2.2.1
  obtain ⟨⟨mw, hwo⟩, hwm⟩ := id R4
  obtain ⟨⟨mcv, hco⟩, hcm⟩ := id R3
  obtain ⟨t0, t1, t2, t3, t4, t5, t6, t7, t8, t9, tw, td⟩ := id RT
  refine lv_aload_n hx hb dX7_stream_0 rfl (lv_at hl 0 rfl) ?_
  refine k_callpi (va_runV (As := []) (rest := []) ⟨hx, hb, hml, hown, hts⟩ (c_nextNumber l _ h0 wa σ nW nV nE hR0 hI) (cwV 0 hts gX7_stream_X7_nextNumber rfl rfl rfl (by decide +kernel) ⟨Nat.le_of_ble_eq_true rfl, Nat.le_of_ble_eq_true rfl⟩) (k_preV hK (k_recv hK.1 R1 rfl)) rfl rfl hl.1 rfl (lv_room (Nat.le_of_ble_eq_true rfl)) dX7_stream_1 ⟨(Nat.zero_le _), (Nat.zero_le _)⟩) hS (fun locs hS => ?_)
  by_cases h20 : σ 2 0 = 0
  · by_cases h30 : nW = 30
    · rw [show (if ¬ σ 2 0 = 0 then (-2 : Int32) else if nW = 30 then (-3) else nI nW) = (-3) by rw [if_neg (fun z => z h20), if_pos h30]]
      refine W.eq (g2 := F0 m 4 ls [.int (-3)]) rfl ?_
      have hX : (beg σ nW 3 0 0 0 0) = (-3, σ) := by unfold beg; rw [if_neg (fun z => z h20), if_pos h30]
      refine lv_istore_n (lv' := [(1, .int (-3)), (0, .ref h0)]) hx hb dX7_stream_4 rfl hl (by decide) rfl (fun ls hl => ?_)
      refine lv_iload_n hx hb dX7_stream_5 rfl (lv_at hl 0 rfl) ?_
      refine lv_if_lt (tgt := 29) hx hb dX7_stream_6 (by decide) (fun c6 => ?_) (fun c6 => ?_)
      · refine lv_iload_n hx hb dX7_stream_29 rfl (lv_at hl 0 rfl) ?_
        refine W.widen (k := 2) (n := 44) (by decide) (by decide) ?_
        exact k_reti hx hb hr hlocks ⟨by rw [hX], wa, nW, nV, nE, by rw [hX]; exact hR0, by rw [hX]; exact hI⟩ hS dX7_stream_30
      · exact absurd c6 (by decide)
    · rw [show (if ¬ σ 2 0 = 0 then (-2 : Int32) else if nW = 30 then (-3) else nI nW) = (nI nW) by rw [if_neg (fun z => z h20), if_neg h30]]
      refine W.eq (g2 := F0 m 4 ls [.int (nI nW)]) rfl ?_
      have hX : (beg σ nW 3 0 0 0 0) = (nI nW, (begS σ nW 3 0 0 0 0)) := by unfold beg; rw [if_neg (fun z => z h20), if_neg h30]
      refine lv_istore_n (lv' := [(1, .int (nI nW)), (0, .ref h0)]) hx hb dX7_stream_4 rfl hl (by decide) rfl (fun ls hl => ?_)
      refine lv_iload_n hx hb dX7_stream_5 rfl (lv_at hl 0 rfl) ?_
      refine lv_if_lt (tgt := 29) hx hb dX7_stream_6 (by decide) (fun c6 => ?_) (fun c6 => ?_)
      · exact absurd c6 (nI_pos (by omega))
      · refine lv_aload_n hx hb dX7_stream_9 rfl (lv_at hl 1 rfl) ?_
        refine k_get (C := RX7) (T := TX7) (N := 6) (v := .ref hw) hx hb hts hiX7 hown hK.1 R1 rfl 1 (by decide) (hts (.fieldLink RX7 19 "HouseWorkers" "works" "Ljava/util/ArrayList;") (by decide +kernel)) (fun _ h9 => h9) rfl dX7_stream_10 ?_
        refine k_new (A := B) (ci := 5) (C := RX4) (T := TX4) (N := 11) (fs := [.int 0, .int 0, .int 0, .int 0, .int 0, .int 0, .int 0, .int 0, .int 0, .int 0, .int 0]) hx hb hts hiX4 tyX4 tyX4_ok hown (hts (.classLink RX7 73 RX4) (by decide +kernel)) (hts (.instantiable RX4 11) (by decide +kernel)) (hts (.initialized RX4) (by decide +kernel)) hK.1 hS rfl (fun j hj => by rcases (show j = 0 ∨ j = 1 ∨ j = 2 ∨ j = 3 ∨ j = 4 ∨ j = 5 ∨ j = 6 ∨ j = 7 ∨ j = 8 ∨ j = 9 ∨ j = 10 by omega) with rfl | rfl | rfl | rfl | rfl | rfl | rfl | rfl | rfl | rfl | rfl <;> rfl) (Nat.le_of_ble_eq_true rfl) (Nat.le_of_ble_eq_true rfl) dX7_stream_13 (fun H1 hO2 hz3 ho4 hS => ?_)
        have hf5 := va_at.kept R1 (ho4 _ (va_at.lt R1))
        have hf6 := va_at.kept R2 (ho4 _ (va_at.lt R2))
        have hf7 := va_at.kept hco (ho4 _ (va_at.lt hco))
        refine lv_dup hx hb dX7_stream_16 rfl ?_
        refine lv_iload_n hx hb dX7_stream_17 rfl (lv_at hl 0 rfl) ?_
        refine lv_aload_n hx hb dX7_stream_18 rfl (lv_at hl 1 rfl) ?_
        refine k_get (C := RX7) (T := TX7) (N := 6) (v := .ref hs) hx hb hts hiX7 hown hK.1 hf5 rfl 0 (by decide) (hts (.fieldLink RX7 12 "HouseWorkers" "store" "LHouseWorkers$Store;") (by decide +kernel)) (fun _ h9 => h9) rfl dX7_stream_19 ?_
        have hob1 := hO2
        refine k_callv (va_runI (As := [.int (nI nW), .ref hs]) (rest := [.ref s.heap.size, .ref hw]) ⟨hx, hb, hml, hown, hts⟩ (c_X4_init l _ s.heap.size (nI nW) hs (va 0) hc (va (nV - 1)) ec (nV - 1) mcv hob1 hf6 hf7 (Nat.ne_of_lt (va_at.lt R2)) (Nat.ne_of_lt (va_at.lt hco))) (cwI 2 hts gX7_stream_X4_init rfl rfl rfl (hts (.initialized RX4) (by decide +kernel)) (hts (.methodLink RX7 75 yX4_init) (by decide +kernel)) (hts (.instanceMethod yX4_init) (by decide +kernel)) rfl (by decide +kernel) ⟨Nat.le_of_ble_eq_true rfl, Nat.le_of_ble_eq_true rfl⟩) (k_preS hK) rfl rfl hl.1 rfl (lv_room (Nat.le_of_ble_eq_true rfl)) dX7_stream_22 ⟨Nat.le_of_ble_eq_true rfl, Nat.le_of_ble_eq_true rfl⟩) hS (fun q h => by rw [h]; exact RN _ (Nat.le_refl _)) (fun H3 locs hp3 hzI hk3 hS => ?_)
        have hag3 : ∀ p : Nat, p < s.heap.size → H3[p]? = s.heap[p]? := fun p hp => (hk3 p (by omega) (by omega)).trans (ho4 p hp)
        obtain ⟨hw3, hs3⟩ := hp3
        rw [show H1.size = s.heap.size + 1 from hz3] at hs3
        have helo : ElO D s.heap.size H3 := ⟨5, _, by decide, hw3⟩
        have R4c := R4.kept (hag3 _ R4.lt) (fun q => hag3 _ (R4.lte q))
        obtain ⟨mw3, hwo3⟩ := R4c.1
        have hZc : ZZ eA B s H3 := hZ.S (fun q h => h) hS
        have helb : ∀ i, i < nW → ∃ y, gw i = some y ∧ ElO D y H3 ∧ y ≠ hw := fun i hi => by have hk7 := R7 i hi; obtain ⟨c1, x1, v1, o1⟩ := (hk7.kept (hag3 _ hk7.lt)).ob; exact ⟨_, R4g i hi, v1.elo o1, tag_ne (tw i hi) t3 (by omega)⟩
        refine k_calli (va_runV (As := [.ref s.heap.size]) (rest := []) ⟨hx, hb, hml, hown, hts⟩ (c_AL_add l _ hw ew nW pw s.heap.size gw R4c (by omega) helo helb (fun q => tag_ne t3 (t6 q) (by omega)) (fun q => absurd R4.lt (by omega)) (fun q z => absurd (R4.lte q) (by omega)) (RB _ (by omega)) (fun q h => RN q (by omega))) (cwV 1 hts gX7_stream_Jx4a65c_add_9ea2d rfl rfl rfl (by decide +kernel) ⟨Nat.le_of_ble_eq_true rfl, Nat.le_of_ble_eq_true rfl⟩) (z_preV hK hZc (k_recv hK.1 hwo3 rfl)) rfl rfl hl.1 rfl (lv_room (Nat.le_of_ble_eq_true rfl)) dX7_stream_25 ⟨Nat.le_of_ble_eq_true rfl, Nat.le_of_ble_eq_true rfl⟩) hS (fun q h => h.elim (fun h => by rw [h]; exact RB _ (by omega)) (fun h => h.elim (fun h => by rw [h.1]; exact RB _ (by rw [t6 h.2]; omega)) (fun h => RN q (by omega)))) (fun r9 H4 locs hp9 hz4 hk4 hS => ?_)
        obtain ⟨rfl, e1, p1, g1, hAL1, hg1, hg2, he1⟩ := hp9
        have hag4 : ∀ p, rl p ≠ 3 → rl p ≠ 6 → p < s.heap.size → H4[p]? = s.heap[p]? := fun p z1 z2 z3 => (hk4 p (by omega) (fun q => q.elim (fun q => z1 (by rw [q]; exact t3)) (fun q => q.elim (fun q => z2 (by rw [q.1]; exact t6 q.2)) (fun q => by omega)))).trans (hag3 p z3)
        have hw4 := va_at.kept hw3 (hk4 (s.heap.size) (va_at.lt hw3) (fun q => q.elim (fun q => absurd R4.lt (by omega)) (fun q => q.elim (fun q => absurd (R4.lte q.2) (by omega)) (fun q => absurd (va_at.lt hw3) (by omega)))))
        obtain ⟨z9, z10, z12, z13⟩ := hI.2.2.2.2.2.2.2.2.2.1 nW (Nat.le_refl _)
        obtain ⟨τ, hτ⟩ : ∃ z : Sg, z = (begS σ nW 3 0 0 0 0) := ⟨_, rfl⟩
        have T4 : τ 4 nW = 3 := by rw [hτ]; exact beg_4
        have T5 : τ 5 nW = 0 := by rw [hτ]; exact beg_5
        have T6 : τ 6 nW = 0 := by rw [hτ]; exact beg_6
        have T7 : τ 7 nW = 0 := by rw [hτ]; exact beg_7
        have T8 : τ 8 nW = 0 := by rw [hτ]; exact beg_8
        have T11 : τ 11 nW = nI (nV - 1) := by rw [hτ, beg_11, if_pos (by decide), hI.2.1]; exact pk_sub (b := 1) hv1
        have TK : ∀ k i, k ≠ 3 → k ≠ 4 → k ≠ 5 → k ≠ 6 → k ≠ 7 → k ≠ 8 → k ≠ 11 → τ k i = σ k i := fun k i a b c d e f g => by rw [hτ]; exact beg_k i a b c d e f g
        have TJ : ∀ k i, i ≠ nW → k ≠ 3 → τ k i = σ k i := fun k i a b => by rw [hτ]; exact beg_o i a b
        have T9 : τ 9 nW = 0 := (TK 9 nW (by decide) (by decide) (by decide) (by decide) (by decide) (by decide) (by decide)).trans z9
        have T10 : τ 10 nW = 0 := (TK 10 nW (by decide) (by decide) (by decide) (by decide) (by decide) (by decide) (by decide)).trans z10
        have T12 : τ 12 nW = 0 := (TK 12 nW (by decide) (by decide) (by decide) (by decide) (by decide) (by decide) (by decide)).trans z12
        have T13 : τ 13 nW = 0 := (TK 13 nW (by decide) (by decide) (by decide) (by decide) (by decide) (by decide) (by decide)).trans z13
        have hpv : (-1) = pin τ nW := by unfold pin; rw [T12, T4]; rfl
        have hwx : ∀ ex, WFs (wx τ (upd te nW 0) (upd pn nW (-1)) nW) ex = WFs (w0 (nI nW) 3 0 0 (nI (nV - 1)) (-1)) ex := fun ex => WFs_cg (fun k hk => by
          match k, hk with
          | 0, _ => rfl
          | 1, _ => exact T4
          | 2, _ => exact T5
          | 3, _ => exact T6
          | 4, _ => exact T9
          | 5, _ => exact T10
          | 6, _ => show hvr τ nW = (nI (nV - 1)); unfold hvr; rw [if_neg (fun q => by rw [T4] at q; exact absurd q.1 (by decide)), T11]
          | 7, _ => exact upd_at
          | 8, _ => exact T13
          | 9, _ => exact T12
          | 10, _ => exact upd_at
          | k + 11, h => exact absurd h (by omega))
        have hwk : WK D va (va_up da nW (s.heap.size + 1)) (upd te nW 0) (upd pn nW (-1)) τ nV nW s.heap.size H4 := Or.inr (Or.inr (Or.inr ⟨T4, by rw [hwx]; exact hw4⟩))
        have hdr : false = true → CLs D cI (va_up ra (s.heap.size + 1) (s.heap.size + 2)) (s.heap.size + 1) (fun _ => 0) H4 := fun q => absurd q Bool.false_ne_true
        have hRn := HR_new (te := te) (pn := pn) R1 R2 R3 R3g R4 R4g R5 R5g R6 R7 R8 R9 RT RB RN RL R12 R13 (by omega) (fun i hi => (hI.e17 z12 i hi).2) TJ TK false (fun q => by rw [T4] at q; exact absurd q (by decide)) hag4 (by show s.heap.size + 1 ≤ H4.size; omega) hAL1 hg1 hg2 (he1.elim Or.inl (fun q => Or.inr (by show s.heap.size + 1 ≤ e1; omega))) hwk hpv hdr (fun c => hI.2.2.2.2.2.2.2.2.2.2.1 _ (by omega)) z12
        have hIn : Inv τ (nW + 1) nV nE := by rw [hτ]; exact inv_beg hI (by omega) (st := 0) rfl (fa := 0) rfl (a := 0) rfl (by decide) (by decide) (Or.inr ⟨rfl, rfl, rfl⟩)
        rw [← hτ] at hX
        refine lv_pop hx hb dX7_stream_28 rfl ?_
        refine lv_iload_n hx hb dX7_stream_29 rfl (lv_at hl 0 rfl) ?_
        refine W.widen (k := 2) (n := 44) (by decide) (by decide) ?_
        exact k_reti hx hb hr hlocks ⟨by rw [hX], _, nW + 1, nV, nE, by rw [hX]; exact hRn, by rw [hX]; exact hIn⟩ hS dX7_stream_30
  · rw [show (if ¬ σ 2 0 = 0 then (-2 : Int32) else if nW = 30 then (-3) else nI nW) = (-2) by rw [if_pos h20]]
    refine W.eq (g2 := F0 m 4 ls [.int (-2)]) rfl ?_
    have hX : (beg σ nW 3 0 0 0 0) = (-2, σ) := by unfold beg; rw [if_pos h20]
    refine lv_istore_n (lv' := [(1, .int (-2)), (0, .ref h0)]) hx hb dX7_stream_4 rfl hl (by decide) rfl (fun ls hl => ?_)
    refine lv_iload_n hx hb dX7_stream_5 rfl (lv_at hl 0 rfl) ?_
    refine lv_if_lt (tgt := 29) hx hb dX7_stream_6 (by decide) (fun c6 => ?_) (fun c6 => ?_)
    · refine lv_iload_n hx hb dX7_stream_29 rfl (lv_at hl 0 rfl) ?_
      refine W.widen (k := 2) (n := 44) (by decide) (by decide) ?_
      exact k_reti hx hb hr hlocks ⟨by rw [hX], wa, nW, nV, nE, by rw [hX]; exact hR0, by rw [hX]; exact hI⟩ hS dX7_stream_30
    · exact absurd c6 (by decide)
