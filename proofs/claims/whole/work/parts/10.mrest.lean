def mPut (σ : Sg) (cl v : Int32) : Int32 × Sg := if inB cl 0 15 = true then (if 0 < σ 3 0 then (-2, σ) else (1, u2 σ 0 (nat cl) v)) else (-1, σ)
def mQue (σ : Sg) (nW : Nat) (many fails frm : Int32) : Int32 × Sg := if inB many 1 20 = true ∧ inB fails 0 30 = true ∧ inB frm 0 15 = true then beg σ nW 0 many fails frm 0 else (-1, σ)
def mWri (σ : Sg) (nW : Nat) (many fails frm more : Int32) : Int32 × Sg := if inB many 1 20 = true ∧ inB fails 0 30 = true ∧ inB frm 0 15 = true then beg σ nW 1 many fails frm more else (-1, σ)
def mRea (σ : Sg) (nW : Nat) (many fails : Int32) : Int32 × Sg := if inB many 1 20 = true ∧ inB fails 0 30 = true then beg σ nW 2 many fails 0 0 else (-1, σ)
def mCan (σ : Sg) (x : Int32) : Int32 × Sg := if inB x 0 (σ 3 0 - 1) = true then cnc σ (nat x) else (-1, σ)
def mTld (σ : Sg) (x what : Int32) : Int32 := if inB x 0 (σ 3 0 - 1) = true ∧ inB what 0 5 = true then tld σ (nat x) what else -1
def mEnd (σ : Sg) (i what : Int32) : Int32 := if inB what 0 2 = true then (if inB i 0 (σ 16 0 - 1) = true then (if what = 0 then σ 17 (nat i) else if what = 1 then σ 18 (nat i) else σ 19 (nat i)) else -2) else -1
def mCel (σ : Sg) (nW : Nat) (v cl : Int32) : Int32 := if inB cl 0 15 = true ∧ inB v 0 (σ 1 0 - 1) = true then (if kept σ v nW = true then σ 0 (16 * nat v + nat cl) else -2) else -1
def mCnt (σ : Sg) (nW nV : Nat) (what : Int32) : Int32 := if what = 0 then σ 1 0 else if what = 1 then nI (cntF (fun v => kept σ (nI v) nW) nV) else if what = 2 then nI (cntF (fun v => ipF σ (nI v) nW) nV) else if what = 3 then σ 20 0 else if what = 4 then σ 21 0 else if what = 5 then nI (cntF (fun w => decide (σ 12 w = 0)) nW) else -1
theorem inB_c {w : Int32} {lo hi : Int32} {n : Nat} (hlo : lo = 0) (hhi : hi = nI n) (hn : n ≤ 1000) (h : inB w lo hi = true) : ∃ j, j ≤ n ∧ w = nI j := by
  subst hlo hhi
  unfold inB at h
  rw [Bool.and_eq_true, decide_eq_true_eq, decide_eq_true_eq] at h
  obtain ⟨j, hj, rfl⟩ := nI_of h.1
  refine ⟨j, ?_, rfl⟩
  rcases Nat.lt_or_ge n j with q | q
  · exact absurd (nI_lt q hj) h.2
  · exact q
theorem cntF_s1 {f : Nat → Bool} {i : Nat} (h : f i = true) : nI (cntF f i) + 1 = nI (cntF f (i + 1)) := by rw [cntF, h, nI_1]; rfl
theorem cntF_s0 {f : Nat → Bool} {i : Nat} (h : f i = false) : nI (cntF f i) + 0 = nI (cntF f (i + 1)) := by rw [cntF, h]; exact nI_add _ 0
theorem tb_out6 {x : Int32} {n : Int} (h : ∀ k : Int, 0 ≤ k → k ≤ n → ¬ x.toInt = k) : x.toInt < 0 ∨ n < x.toInt := by
  rcases Int.lt_or_le x.toInt 0 with q | q
  · exact Or.inl q
  · rcases Int.lt_or_le n x.toInt with q2 | q2
    · exact Or.inr q2
    · exact absurd rfl (h _ q q2)
theorem tb5 {x : Int32} (h0 : ¬ x = 0) (h1 : ¬ x = 1) (h2 : ¬ x = 2) (h3 : ¬ x = 3) (h4 : ¬ x = 4) (h5 : ¬ x = 5) : x.toInt < 0 ∨ 5 < x.toInt := by
  have a0 : ¬ x.toInt = 0 := lv_neT h0 rfl
  have a1 : ¬ x.toInt = 1 := lv_neT h1 rfl
  have a2 : ¬ x.toInt = 2 := lv_neT h2 rfl
  have a3 : ¬ x.toInt = 3 := lv_neT h3 rfl
  have a4 : ¬ x.toInt = 4 := lv_neT h4 rfl
  have a5 : ¬ x.toInt = 5 := lv_neT h5 rfl
  omega
theorem tb4 {x : Int32} (h0 : ¬ x = 0) (h1 : ¬ x = 1) (h2 : ¬ x = 2) (h3 : ¬ x = 3) (h4 : ¬ x = 4) : x.toInt < 0 ∨ 4 < x.toInt := by
  have a0 : ¬ x.toInt = 0 := lv_neT h0 rfl
  have a1 : ¬ x.toInt = 1 := lv_neT h1 rfl
  have a2 : ¬ x.toInt = 2 := lv_neT h2 rfl
  have a3 : ¬ x.toInt = 3 := lv_neT h3 rfl
  have a4 : ¬ x.toInt = 4 := lv_neT h4 rfl
  omega
set_option maxHeartbeats 4000000 in
set_option maxRecDepth 100000 in
theorem c_X8_put (l : Launch) {D : va_G} {cI cZ cO : ClassId} {mi : Nat} (H : Heap) (m0 : Nat) (ad : Nat → Nat) (σ : Sg) (cl v : Int32) (hM : MD D cI cZ m0 ad σ H) : Met l yX8_put wsX8_put ({ frames := 1, cells := 0, slots := 0, locals := 22 }) (Pk D cI cZ cO mi [.ref m0, .int cl, .int v] H) (Qki (fun r H1 => r = (mPut σ cl v).1 ∧ MD D cI cZ m0 ad (mPut σ cl v).2 H1) (Am m0 ad)) 0 0 (Am m0 ad) := by
  refine Met.ofW (cc := cX8_put) (maxL := 3) (ret := (some .int)) (by decide) rfl ?_
  intro p e s m args below meth c s₁ B hml hv
  obtain ⟨rfl, rfl, hK⟩ := hv
  have hx := B.exec
  have hb := B.bytes
  have hr := B.returns
  have hts := atoms_spec (ws := wsX8_put) B.pre
  have hown : s.vm.findClass RX8 = some m.cls := findClass_of_methodNamed B.named
  have hlocks := B.notSynchronized
  have hS : va_S (Am m0 ad) s.heap s.heap [] := va_S.rf
  have hl := lv_entry ([.ref m0, .int cl, .int v]) (n := 3) (Nat.le_of_ble_eq_true rfl)
  rw [lg_entry_eq]
  generalize (lg_sl ([.ref m0, .int cl, .int v]) ++ List.replicate (3 - (lg_sl ([.ref m0, .int cl, .int v])).length) Slot.unset).toArray = ls at hl ⊢
  have hl : lv_has ls 3 [(0, .ref m0), (1, .int cl), (2, .int v)] := hl
  have hiX8 : ∀ w ∈ wsX80, w ∈ wsX8_put := by decide +kernel
  refine lv_iload_n hx hb dX8_put_0 rfl (lv_at hl 1 rfl) ?_
  refine lv_iconst (v := 0) hx hb dX8_put_1 (by decide) ?_
  refine lv_bipush (v := 15) hx hb dX8_put_2 (by decide) ?_
  refine k_callpi (v := b2 (inB cl 0 15)) (va_runS (As := [.int cl, .int 0, .int 15]) (rest := []) ⟨hx, hb, hml, hown, hts⟩ (c_X8_in l _ cl 0 15) (va_cwS 3 hts gX8_put_X8_in rfl rfl rfl (by decide +kernel) ⟨Nat.le_of_ble_eq_true rfl, Nat.le_of_ble_eq_true rfl⟩) (k_preS hK) rfl rfl hl.1 rfl (lv_room (Nat.le_of_ble_eq_true rfl)) dX8_put_4 ⟨(Nat.zero_le _), (Nat.zero_le _)⟩) hS (fun locs hS => ?_)
  refine lv_if_ne (tgt := 12) hx hb dX8_put_7 (by decide) (fun c7 => ?_) (fun c7 => ?_)
  · have b7 := b2_n c7
    refine lv_aload_n hx hb dX8_put_12 rfl (lv_at hl 0 rfl) ?_
    refine k_get (C := RX8) (T := TX8) (N := 22) (v := .int (σ 3 0)) hx hb hts hiX8 hown hK.1 hM.1 rfl 3 (by decide) (hts (.fieldLink RX8 67 "HouseWorkersModel" "workers" "I") (by decide +kernel)) (fun _ h9 => h9) rfl dX8_put_13 ?_
    refine lv_if_le (tgt := 22) hx hb dX8_put_16 (by decide) (fun c16 => ?_) (fun c16 => ?_)
    · have c16 := Int32.not_lt.mpr c16
      refine lv_aload_n hx hb dX8_put_22 rfl (lv_at hl 0 rfl) ?_
      refine k_get (C := RX8) (T := TX8) (N := 22) (v := .ref (ad 0)) hx hb hts hiX8 hown hK.1 hM.1 rfl 0 (by decide) (hts (.fieldLink RX8 7 "HouseWorkersModel" "cells" "[I") (by decide +kernel)) (fun _ h9 => h9) rfl dX8_put_23 ?_
      refine lv_iload_n hx hb dX8_put_26 rfl (lv_at hl 1 rfl) ?_
      refine lv_iload_n hx hb dX8_put_27 rfl (lv_at hl 2 rfl) ?_
      refine k_iast (A := (Am m0 ad)) (n := 640) (f := (σ 0)) (x := v) hx hb hK.1 0 (hM.2.1 0 rfl) (Am.arr 0 rfl) hS rfl (nat cl) (by obtain ⟨z, hz, rfl⟩ := inB_c (n := 15) rfl rfl (by decide) b7; rw [nat_nI (by omega)]) (by obtain ⟨z, hz, rfl⟩ := inB_c (n := 15) rfl rfl (by decide) b7; rw [nat_nI (by omega)]; omega) (by decide) dX8_put_28 (fun H1 locs hO2 hz3 hq4 hS => ?_)
      have hM := MD.arr 0 (i := nat cl) (v := v) hM rfl hO2 hq4
      refine lv_iconst (v := 1) hx hb dX8_put_29 (by decide) ?_
      have hX : mPut σ cl v = (1, (u2 σ 0 (nat cl) v)) := by unfold mPut; rw [if_pos b7, if_neg c16]
      exact k_reti hx hb hr hlocks ⟨by rw [hX], by rw [hX]; exact hM⟩ hS dX8_put_30
    · have c16 := Int32.not_le.mp c16
      refine lv_bipush (v := -2) hx hb dX8_put_19 (by decide) ?_
      have hX : mPut σ cl v = ((-2), σ) := by unfold mPut; rw [if_pos b7, if_pos c16]
      exact k_reti hx hb hr hlocks ⟨by rw [hX], by rw [hX]; exact hM⟩ hS dX8_put_21
  · have b7 := b2_0 c7
    refine lv_iconst (v := -1) hx hb dX8_put_10 (by decide) ?_
    have hX : mPut σ cl v = ((-1), σ) := by unfold mPut; rw [if_neg (by rw [b7]; decide)]
    exact k_reti hx hb hr hlocks ⟨by rw [hX], by rw [hX]; exact hM⟩ hS dX8_put_11
set_option maxHeartbeats 4000000 in
set_option maxRecDepth 100000 in
theorem c_X8_begin (l : Launch) {D : va_G} {cI cZ cO : ClassId} {mi : Nat} (H : Heap) (m0 : Nat) (ad : Nat → Nat) (σ : Sg) (nW : Nat) (kd many fails frm more : Int32) (hM : MD D cI cZ m0 ad σ H) (hW : σ 3 0 = nI nW) (hn : nW ≤ 30) : Met l yX8_begin wsX8_begin ({ frames := 0, cells := 0, slots := 0, locals := 0 }) (Pk D cI cZ cO mi [.ref m0, .int kd, .int many, .int fails, .int frm, .int more] H) (Qki (fun r H1 => r = (beg σ nW kd many fails frm more).1 ∧ MD D cI cZ m0 ad (beg σ nW kd many fails frm more).2 H1) (Am m0 ad)) 0 0 (Am m0 ad) := by
  refine Met.ofW (cc := cX8_begin) (maxL := 7) (ret := (some .int)) (by decide) rfl ?_
  intro p e s m args below meth c s₁ B hml hv
  obtain ⟨rfl, rfl, hK⟩ := hv
  have hx := B.exec
  have hb := B.bytes
  have hr := B.returns
  have hts := atoms_spec (ws := wsX8_begin) B.pre
  have hown : s.vm.findClass RX8 = some m.cls := findClass_of_methodNamed B.named
  have hlocks := B.notSynchronized
  have hS : va_S (Am m0 ad) s.heap s.heap [] := va_S.rf
  have hl := lv_entry ([.ref m0, .int kd, .int many, .int fails, .int frm, .int more]) (n := 7) (Nat.le_of_ble_eq_true rfl)
  rw [lg_entry_eq]
  generalize (lg_sl ([.ref m0, .int kd, .int many, .int fails, .int frm, .int more]) ++ List.replicate (7 - (lg_sl ([.ref m0, .int kd, .int many, .int fails, .int frm, .int more])).length) Slot.unset).toArray = ls at hl ⊢
  have hl : lv_has ls 7 [(0, .ref m0), (1, .int kd), (2, .int many), (3, .int fails), (4, .int frm), (5, .int more)] := hl
  have hiX8 : ∀ w ∈ wsX80, w ∈ wsX8_begin := by decide +kernel
  refine lv_aload_n hx hb dX8_begin_0 rfl (lv_at hl 0 rfl) ?_
  refine k_get (C := RX8) (T := TX8) (N := 22) (v := .int (σ 2 0)) hx hb hts hiX8 hown hK.1 hM.1 rfl 2 (by decide) (hts (.fieldLink RX8 70 "HouseWorkersModel" "closed" "Z") (by decide +kernel)) (fun _ h9 => h9) rfl dX8_begin_1 ?_
  refine lv_if_eq (tgt := 10) hx hb dX8_begin_4 (by decide) (fun c4 => ?_) (fun c4 => ?_)
  · refine lv_aload_n hx hb dX8_begin_10 rfl (lv_at hl 0 rfl) ?_
    refine k_get (C := RX8) (T := TX8) (N := 22) (v := .int (σ 3 0)) hx hb hts hiX8 hown hK.1 hM.1 rfl 3 (by decide) (hts (.fieldLink RX8 67 "HouseWorkersModel" "workers" "I") (by decide +kernel)) (fun _ h9 => h9) rfl dX8_begin_11 ?_
    refine lv_bipush (v := 30) hx hb dX8_begin_14 (by decide) ?_
    refine lv_icmp_ne (tgt := 22) hx hb dX8_begin_16 (by decide) (fun c16 => ?_) (fun c16 => ?_)
    · have hlt : nW < 30 := by rcases Nat.lt_or_ge nW 30 with q | q; exact q; exact absurd (by rw [hW, show nW = 30 by omega]; rfl) c16
      refine lv_aload_n hx hb dX8_begin_22 rfl (lv_at hl 0 rfl) ?_
      refine k_get (C := RX8) (T := TX8) (N := 22) (v := .int (σ 3 0)) hx hb hts hiX8 hown hK.1 hM.1 rfl 3 (by decide) (hts (.fieldLink RX8 67 "HouseWorkersModel" "workers" "I") (by decide +kernel)) (fun _ h9 => h9) rfl dX8_begin_23 ?_
      refine lv_istore (lv' := [(6, .int (σ 3 0)), (0, .ref m0), (1, .int kd), (2, .int many), (3, .int fails), (4, .int frm), (5, .int more)]) hx hb dX8_begin_26 hl (by decide) rfl (fun ls hl => ?_)
      refine lv_aload_n hx hb dX8_begin_28 rfl (lv_at hl 1 rfl) ?_
      refine k_get (C := RX8) (T := TX8) (N := 22) (v := .ref (ad 4)) hx hb hts hiX8 hown hK.1 hM.1 rfl 4 (by decide) (hts (.fieldLink RX8 17 "HouseWorkersModel" "kind" "[I") (by decide +kernel)) (fun _ h9 => h9) rfl dX8_begin_29 ?_
      refine lv_iload hx hb dX8_begin_32 (lv_at hl 0 rfl) ?_
      refine lv_iload_n hx hb dX8_begin_34 rfl (lv_at hl 2 rfl) ?_
      refine k_iast (A := (Am m0 ad)) (n := 30) (f := (σ 4)) (x := kd) hx hb hK.1 0 (hM.2.1 4 rfl) (Am.arr 4 rfl) hS rfl nW hW hlt (by decide) dX8_begin_35 (fun H1 locs hO2 hz3 hq4 hS => ?_)
      have hM := MD.arr 4 (i := nW) (v := kd) hM rfl hO2 hq4
      refine lv_aload_n hx hb dX8_begin_36 rfl (lv_at hl 1 rfl) ?_
      refine k_get (C := RX8) (T := TX8) (N := 22) (v := .ref (ad 5)) hx hb hts hiX8 hown hK.1 hM.1 rfl 5 (by decide) (hts (.fieldLink RX8 20 "HouseWorkersModel" "steps" "[I") (by decide +kernel)) (fun _ h9 => h9) rfl dX8_begin_37 ?_
      refine lv_iload hx hb dX8_begin_40 (lv_at hl 0 rfl) ?_
      refine lv_iload_n hx hb dX8_begin_42 rfl (lv_at hl 3 rfl) ?_
      refine k_iast (A := (Am m0 ad)) (n := 30) (f := ((u2 σ 4 nW kd) 5)) (x := many) hx hb hK.1 0 (hM.2.1 5 rfl) (Am.arr 5 rfl) hS rfl nW hW hlt (by decide) dX8_begin_43 (fun H5 locs hO6 hz7 hq8 hS => ?_)
      have hM := MD.arr 5 (i := nW) (v := many) hM rfl hO6 hq8
      refine lv_aload_n hx hb dX8_begin_44 rfl (lv_at hl 1 rfl) ?_
      refine k_get (C := RX8) (T := TX8) (N := 22) (v := .ref (ad 6)) hx hb hts hiX8 hown hK.1 hM.1 rfl 6 (by decide) (hts (.fieldLink RX8 23 "HouseWorkersModel" "failsAt" "[I") (by decide +kernel)) (fun _ h9 => h9) rfl dX8_begin_45 ?_
      refine lv_iload hx hb dX8_begin_48 (lv_at hl 0 rfl) ?_
      refine lv_iload_n hx hb dX8_begin_50 rfl (lv_at hl 4 rfl) ?_
      refine k_iast (A := (Am m0 ad)) (n := 30) (f := ((u2 (u2 σ 4 nW kd) 5 nW many) 6)) (x := fails) hx hb hK.1 0 (hM.2.1 6 rfl) (Am.arr 6 rfl) hS rfl nW hW hlt (by decide) dX8_begin_51 (fun H9 locs hO10 hz11 hq12 hS => ?_)
      have hM := MD.arr 6 (i := nW) (v := fails) hM rfl hO10 hq12
      refine lv_aload_n hx hb dX8_begin_52 rfl (lv_at hl 1 rfl) ?_
      refine k_get (C := RX8) (T := TX8) (N := 22) (v := .ref (ad 7)) hx hb hts hiX8 hown hK.1 hM.1 rfl 7 (by decide) (hts (.fieldLink RX8 26 "HouseWorkersModel" "first" "[I") (by decide +kernel)) (fun _ h9 => h9) rfl dX8_begin_53 ?_
      refine lv_iload hx hb dX8_begin_56 (lv_at hl 0 rfl) ?_
      refine lv_iload hx hb dX8_begin_58 (lv_at hl 5 rfl) ?_
      refine k_iast (A := (Am m0 ad)) (n := 30) (f := ((u2 (u2 (u2 σ 4 nW kd) 5 nW many) 6 nW fails) 7)) (x := frm) hx hb hK.1 0 (hM.2.1 7 rfl) (Am.arr 7 rfl) hS rfl nW hW hlt (by decide) dX8_begin_60 (fun H13 locs hO14 hz15 hq16 hS => ?_)
      have hM := MD.arr 7 (i := nW) (v := frm) hM rfl hO14 hq16
      refine lv_aload_n hx hb dX8_begin_61 rfl (lv_at hl 1 rfl) ?_
      refine k_get (C := RX8) (T := TX8) (N := 22) (v := .ref (ad 8)) hx hb hts hiX8 hown hK.1 hM.1 rfl 8 (by decide) (hts (.fieldLink RX8 29 "HouseWorkersModel" "by" "[I") (by decide +kernel)) (fun _ h9 => h9) rfl dX8_begin_62 ?_
      refine lv_iload hx hb dX8_begin_65 (lv_at hl 0 rfl) ?_
      refine lv_iload hx hb dX8_begin_67 (lv_at hl 6 rfl) ?_
      refine k_iast (A := (Am m0 ad)) (n := 30) (f := ((u2 (u2 (u2 (u2 σ 4 nW kd) 5 nW many) 6 nW fails) 7 nW frm) 8)) (x := more) hx hb hK.1 0 (hM.2.1 8 rfl) (Am.arr 8 rfl) hS rfl nW hW hlt (by decide) dX8_begin_69 (fun H17 locs hO18 hz19 hq20 hS => ?_)
      have hM := MD.arr 8 (i := nW) (v := more) hM rfl hO18 hq20
      refine lv_aload_n hx hb dX8_begin_70 rfl (lv_at hl 1 rfl) ?_
      refine k_get (C := RX8) (T := TX8) (N := 22) (v := .ref (ad 11)) hx hb hts hiX8 hown hK.1 hM.1 rfl 11 (by decide) (hts (.fieldLink RX8 38 "HouseWorkersModel" "version" "[I") (by decide +kernel)) (fun _ h9 => h9) rfl dX8_begin_71 ?_
      refine lv_iload hx hb dX8_begin_74 (lv_at hl 0 rfl) ?_
      refine lv_iload_n hx hb dX8_begin_76 rfl (lv_at hl 2 rfl) ?_
      refine lv_if_eq (tgt := 85) hx hb dX8_begin_77 (by decide) (fun c77 => ?_) (fun c77 => ?_)
      · refine lv_aload_n hx hb dX8_begin_85 rfl (lv_at hl 1 rfl) ?_
        refine k_get (C := RX8) (T := TX8) (N := 22) (v := .int ((u2 (u2 (u2 (u2 (u2 σ 4 nW kd) 5 nW many) 6 nW fails) 7 nW frm) 8 nW more) 1 0)) hx hb hts hiX8 hown hK.1 hM.1 rfl 1 (by decide) (hts (.fieldLink RX8 13 "HouseWorkersModel" "versions" "I") (by decide +kernel)) (fun _ h9 => h9) rfl dX8_begin_86 ?_
        refine lv_iconst (v := 1) hx hb dX8_begin_89 (by decide) ?_
        refine lv_isub hx hb dX8_begin_90 ?_
        refine lv_goto (tgt := 95) hx hb dX8_begin_91 (by decide) ?_
        refine k_iast (A := (Am m0 ad)) (n := 30) (f := ((u2 (u2 (u2 (u2 (u2 σ 4 nW kd) 5 nW many) 6 nW fails) 7 nW frm) 8 nW more) 11)) (x := (((u2 (u2 (u2 (u2 (u2 σ 4 nW kd) 5 nW many) 6 nW fails) 7 nW frm) 8 nW more) 1 0) - 1)) hx hb hK.1 0 (hM.2.1 11 rfl) (Am.arr 11 rfl) hS rfl nW hW hlt (by decide) dX8_begin_95 (fun H21 locs hO22 hz23 hq24 hS => ?_)
        have hM := MD.arr 11 (i := nW) (v := (((u2 (u2 (u2 (u2 (u2 σ 4 nW kd) 5 nW many) 6 nW fails) 7 nW frm) 8 nW more) 1 0) - 1)) hM rfl hO22 hq24
        refine lv_aload_n hx hb dX8_begin_96 rfl (lv_at hl 1 rfl) ?_
        refine lv_dup hx hb dX8_begin_97 rfl ?_
        refine k_get (C := RX8) (T := TX8) (N := 22) (v := .int ((u2 (u2 (u2 (u2 (u2 (u2 σ 4 nW kd) 5 nW many) 6 nW fails) 7 nW frm) 8 nW more) 11 nW (((u2 (u2 (u2 (u2 (u2 σ 4 nW kd) 5 nW many) 6 nW fails) 7 nW frm) 8 nW more) 1 0) - 1)) 3 0)) hx hb hts hiX8 hown hK.1 hM.1 rfl 3 (by decide) (hts (.fieldLink RX8 67 "HouseWorkersModel" "workers" "I") (by decide +kernel)) (fun _ h9 => h9) rfl dX8_begin_98 ?_
        refine lv_iconst (v := 1) hx hb dX8_begin_101 (by decide) ?_
        refine lv_iadd hx hb dX8_begin_102 ?_
        refine k_put (A := (Am m0 ad)) (C := RX8) (T := TX8) (N := 22) (ty := .int) (v := .int (((u2 (u2 (u2 (u2 (u2 (u2 σ 4 nW kd) 5 nW many) 6 nW fails) 7 nW frm) 8 nW more) 11 nW (((u2 (u2 (u2 (u2 (u2 σ 4 nW kd) 5 nW many) 6 nW fails) 7 nW frm) 8 nW more) 1 0) - 1)) 3 0) + 1)) hx hb hts hiX8 tyX8 tyX8_ok nmX8 hown hK.1 hM.1 Am.ob hS rfl 3 (by decide) (hts (.fieldLink RX8 67 "HouseWorkersModel" "workers" "I") (by decide +kernel)) (fun _ h9 => h9) rfl (by decide +kernel) rfl rfl (Nat.le_of_ble_eq_true rfl) dX8_begin_103 (fun H25 locs hO26 hz27 hq28 hS => ?_)
        have hM := MD.fld 3 (v := (((u2 (u2 (u2 (u2 (u2 (u2 σ 4 nW kd) 5 nW many) 6 nW fails) 7 nW frm) 8 nW more) 11 nW (((u2 (u2 (u2 (u2 (u2 σ 4 nW kd) 5 nW many) 6 nW fails) 7 nW frm) 8 nW more) 1 0) - 1)) 3 0) + 1)) hM rfl hO26 hq28
        refine lv_iload hx hb dX8_begin_106 (lv_at hl 0 rfl) ?_
        have hX : beg σ nW kd many fails frm more = (σ 3 0, (u2 (u2 (u2 (u2 (u2 (u2 (u2 σ 4 nW kd) 5 nW many) 6 nW fails) 7 nW frm) 8 nW more) 11 nW (((u2 (u2 (u2 (u2 (u2 σ 4 nW kd) 5 nW many) 6 nW fails) 7 nW frm) 8 nW more) 1 0) - 1)) 3 0 (((u2 (u2 (u2 (u2 (u2 (u2 σ 4 nW kd) 5 nW many) 6 nW fails) 7 nW frm) 8 nW more) 11 nW (((u2 (u2 (u2 (u2 (u2 σ 4 nW kd) 5 nW many) 6 nW fails) 7 nW frm) 8 nW more) 1 0) - 1)) 3 0) + 1))) := by unfold beg; rw [if_neg (fun q => q c4), if_neg (by omega)]; unfold begS; rw [if_pos (Or.inl c77)]; exact Prod.ext hW.symm rfl
        exact k_reti hx hb hr hlocks ⟨by rw [hX], by rw [hX]; exact hM⟩ hS dX8_begin_108
      · refine lv_iload_n hx hb dX8_begin_80 rfl (lv_at hl 2 rfl) ?_
        refine lv_iconst (v := 3) hx hb dX8_begin_81 (by decide) ?_
        refine lv_icmp_ne (tgt := 94) hx hb dX8_begin_82 (by decide) (fun c82 => ?_) (fun c82 => ?_)
        · refine lv_iconst (v := -1) hx hb dX8_begin_94 (by decide) ?_
          refine k_iast (A := (Am m0 ad)) (n := 30) (f := ((u2 (u2 (u2 (u2 (u2 σ 4 nW kd) 5 nW many) 6 nW fails) 7 nW frm) 8 nW more) 11)) (x := (-1)) hx hb hK.1 0 (hM.2.1 11 rfl) (Am.arr 11 rfl) hS rfl nW hW hlt (by decide) dX8_begin_95 (fun H29 locs hO30 hz31 hq32 hS => ?_)
          have hM := MD.arr 11 (i := nW) (v := (-1)) hM rfl hO30 hq32
          refine lv_aload_n hx hb dX8_begin_96 rfl (lv_at hl 1 rfl) ?_
          refine lv_dup hx hb dX8_begin_97 rfl ?_
          refine k_get (C := RX8) (T := TX8) (N := 22) (v := .int ((u2 (u2 (u2 (u2 (u2 (u2 σ 4 nW kd) 5 nW many) 6 nW fails) 7 nW frm) 8 nW more) 11 nW (-1)) 3 0)) hx hb hts hiX8 hown hK.1 hM.1 rfl 3 (by decide) (hts (.fieldLink RX8 67 "HouseWorkersModel" "workers" "I") (by decide +kernel)) (fun _ h9 => h9) rfl dX8_begin_98 ?_
          refine lv_iconst (v := 1) hx hb dX8_begin_101 (by decide) ?_
          refine lv_iadd hx hb dX8_begin_102 ?_
          refine k_put (A := (Am m0 ad)) (C := RX8) (T := TX8) (N := 22) (ty := .int) (v := .int (((u2 (u2 (u2 (u2 (u2 (u2 σ 4 nW kd) 5 nW many) 6 nW fails) 7 nW frm) 8 nW more) 11 nW (-1)) 3 0) + 1)) hx hb hts hiX8 tyX8 tyX8_ok nmX8 hown hK.1 hM.1 Am.ob hS rfl 3 (by decide) (hts (.fieldLink RX8 67 "HouseWorkersModel" "workers" "I") (by decide +kernel)) (fun _ h9 => h9) rfl (by decide +kernel) rfl rfl (Nat.le_of_ble_eq_true rfl) dX8_begin_103 (fun H33 locs hO34 hz35 hq36 hS => ?_)
          have hM := MD.fld 3 (v := (((u2 (u2 (u2 (u2 (u2 (u2 σ 4 nW kd) 5 nW many) 6 nW fails) 7 nW frm) 8 nW more) 11 nW (-1)) 3 0) + 1)) hM rfl hO34 hq36
          refine lv_iload hx hb dX8_begin_106 (lv_at hl 0 rfl) ?_
          have hX : beg σ nW kd many fails frm more = (σ 3 0, (u2 (u2 (u2 (u2 (u2 (u2 (u2 σ 4 nW kd) 5 nW many) 6 nW fails) 7 nW frm) 8 nW more) 11 nW (-1)) 3 0 (((u2 (u2 (u2 (u2 (u2 (u2 σ 4 nW kd) 5 nW many) 6 nW fails) 7 nW frm) 8 nW more) 11 nW (-1)) 3 0) + 1))) := by unfold beg; rw [if_neg (fun q => q c4), if_neg (by omega)]; unfold begS; rw [if_neg (fun q => q.elim c77 c82)]; exact Prod.ext hW.symm rfl
          exact k_reti hx hb hr hlocks ⟨by rw [hX], by rw [hX]; exact hM⟩ hS dX8_begin_108
        · refine lv_aload_n hx hb dX8_begin_85 rfl (lv_at hl 1 rfl) ?_
          refine k_get (C := RX8) (T := TX8) (N := 22) (v := .int ((u2 (u2 (u2 (u2 (u2 σ 4 nW kd) 5 nW many) 6 nW fails) 7 nW frm) 8 nW more) 1 0)) hx hb hts hiX8 hown hK.1 hM.1 rfl 1 (by decide) (hts (.fieldLink RX8 13 "HouseWorkersModel" "versions" "I") (by decide +kernel)) (fun _ h9 => h9) rfl dX8_begin_86 ?_
          refine lv_iconst (v := 1) hx hb dX8_begin_89 (by decide) ?_
          refine lv_isub hx hb dX8_begin_90 ?_
          refine lv_goto (tgt := 95) hx hb dX8_begin_91 (by decide) ?_
          refine k_iast (A := (Am m0 ad)) (n := 30) (f := ((u2 (u2 (u2 (u2 (u2 σ 4 nW kd) 5 nW many) 6 nW fails) 7 nW frm) 8 nW more) 11)) (x := (((u2 (u2 (u2 (u2 (u2 σ 4 nW kd) 5 nW many) 6 nW fails) 7 nW frm) 8 nW more) 1 0) - 1)) hx hb hK.1 0 (hM.2.1 11 rfl) (Am.arr 11 rfl) hS rfl nW hW hlt (by decide) dX8_begin_95 (fun H37 locs hO38 hz39 hq40 hS => ?_)
          have hM := MD.arr 11 (i := nW) (v := (((u2 (u2 (u2 (u2 (u2 σ 4 nW kd) 5 nW many) 6 nW fails) 7 nW frm) 8 nW more) 1 0) - 1)) hM rfl hO38 hq40
          refine lv_aload_n hx hb dX8_begin_96 rfl (lv_at hl 1 rfl) ?_
          refine lv_dup hx hb dX8_begin_97 rfl ?_
          refine k_get (C := RX8) (T := TX8) (N := 22) (v := .int ((u2 (u2 (u2 (u2 (u2 (u2 σ 4 nW kd) 5 nW many) 6 nW fails) 7 nW frm) 8 nW more) 11 nW (((u2 (u2 (u2 (u2 (u2 σ 4 nW kd) 5 nW many) 6 nW fails) 7 nW frm) 8 nW more) 1 0) - 1)) 3 0)) hx hb hts hiX8 hown hK.1 hM.1 rfl 3 (by decide) (hts (.fieldLink RX8 67 "HouseWorkersModel" "workers" "I") (by decide +kernel)) (fun _ h9 => h9) rfl dX8_begin_98 ?_
          refine lv_iconst (v := 1) hx hb dX8_begin_101 (by decide) ?_
          refine lv_iadd hx hb dX8_begin_102 ?_
          refine k_put (A := (Am m0 ad)) (C := RX8) (T := TX8) (N := 22) (ty := .int) (v := .int (((u2 (u2 (u2 (u2 (u2 (u2 σ 4 nW kd) 5 nW many) 6 nW fails) 7 nW frm) 8 nW more) 11 nW (((u2 (u2 (u2 (u2 (u2 σ 4 nW kd) 5 nW many) 6 nW fails) 7 nW frm) 8 nW more) 1 0) - 1)) 3 0) + 1)) hx hb hts hiX8 tyX8 tyX8_ok nmX8 hown hK.1 hM.1 Am.ob hS rfl 3 (by decide) (hts (.fieldLink RX8 67 "HouseWorkersModel" "workers" "I") (by decide +kernel)) (fun _ h9 => h9) rfl (by decide +kernel) rfl rfl (Nat.le_of_ble_eq_true rfl) dX8_begin_103 (fun H41 locs hO42 hz43 hq44 hS => ?_)
          have hM := MD.fld 3 (v := (((u2 (u2 (u2 (u2 (u2 (u2 σ 4 nW kd) 5 nW many) 6 nW fails) 7 nW frm) 8 nW more) 11 nW (((u2 (u2 (u2 (u2 (u2 σ 4 nW kd) 5 nW many) 6 nW fails) 7 nW frm) 8 nW more) 1 0) - 1)) 3 0) + 1)) hM rfl hO42 hq44
          refine lv_iload hx hb dX8_begin_106 (lv_at hl 0 rfl) ?_
          have hX : beg σ nW kd many fails frm more = (σ 3 0, (u2 (u2 (u2 (u2 (u2 (u2 (u2 σ 4 nW kd) 5 nW many) 6 nW fails) 7 nW frm) 8 nW more) 11 nW (((u2 (u2 (u2 (u2 (u2 σ 4 nW kd) 5 nW many) 6 nW fails) 7 nW frm) 8 nW more) 1 0) - 1)) 3 0 (((u2 (u2 (u2 (u2 (u2 (u2 σ 4 nW kd) 5 nW many) 6 nW fails) 7 nW frm) 8 nW more) 11 nW (((u2 (u2 (u2 (u2 (u2 σ 4 nW kd) 5 nW many) 6 nW fails) 7 nW frm) 8 nW more) 1 0) - 1)) 3 0) + 1))) := by unfold beg; rw [if_neg (fun q => q c4), if_neg (by omega)]; unfold begS; rw [if_pos (Or.inr c82)]; exact Prod.ext hW.symm rfl
          exact k_reti hx hb hr hlocks ⟨by rw [hX], by rw [hX]; exact hM⟩ hS dX8_begin_108
    · have h30 : nW = 30 := (nI_eq (by omega) (by decide)).mp (hW.symm.trans c16)
      refine lv_bipush (v := -3) hx hb dX8_begin_19 (by decide) ?_
      have hX : beg σ nW kd many fails frm more = ((-3), σ) := by unfold beg; rw [if_neg (fun q => q c4), if_pos h30]
      exact k_reti hx hb hr hlocks ⟨by rw [hX], by rw [hX]; exact hM⟩ hS dX8_begin_21
  · refine lv_bipush (v := -2) hx hb dX8_begin_7 (by decide) ?_
    have hX : beg σ nW kd many fails frm more = ((-2), σ) := by unfold beg; rw [if_pos c4]
    exact k_reti hx hb hr hlocks ⟨by rw [hX], by rw [hX]; exact hM⟩ hS dX8_begin_9
set_option maxHeartbeats 4000000 in
set_option maxRecDepth 100000 in
theorem c_X8_question (l : Launch) {D : va_G} {cI cZ cO : ClassId} {mi : Nat} (H : Heap) (m0 : Nat) (ad : Nat → Nat) (σ : Sg) (nW : Nat) (many fails frm : Int32) (hM : MD D cI cZ m0 ad σ H) (hW : σ 3 0 = nI nW) (hn : nW ≤ 30) : Met l yX8_question wsX8_question ({ frames := 1, cells := 0, slots := 0, locals := 26 }) (Pk D cI cZ cO mi [.ref m0, .int many, .int fails, .int frm] H) (Qki (fun r H1 => r = (mQue σ nW many fails frm).1 ∧ MD D cI cZ m0 ad (mQue σ nW many fails frm).2 H1) (Am m0 ad)) 0 0 (Am m0 ad) := by
  refine Met.ofW (cc := cX8_question) (maxL := 4) (ret := (some .int)) (by decide) rfl ?_
  intro p e s m args below meth c s₁ B hml hv
  obtain ⟨rfl, rfl, hK⟩ := hv
  have hx := B.exec
  have hb := B.bytes
  have hr := B.returns
  have hts := atoms_spec (ws := wsX8_question) B.pre
  have hown : s.vm.findClass RX8 = some m.cls := findClass_of_methodNamed B.named
  have hlocks := B.notSynchronized
  have hS : va_S (Am m0 ad) s.heap s.heap [] := va_S.rf
  have hl := lv_entry ([.ref m0, .int many, .int fails, .int frm]) (n := 4) (Nat.le_of_ble_eq_true rfl)
  rw [lg_entry_eq]
  generalize (lg_sl ([.ref m0, .int many, .int fails, .int frm]) ++ List.replicate (4 - (lg_sl ([.ref m0, .int many, .int fails, .int frm])).length) Slot.unset).toArray = ls at hl ⊢
  have hl : lv_has ls 4 [(0, .ref m0), (1, .int many), (2, .int fails), (3, .int frm)] := hl
  have hiX8 : ∀ w ∈ wsX80, w ∈ wsX8_question := by decide +kernel
  refine lv_iload_n hx hb dX8_question_0 rfl (lv_at hl 1 rfl) ?_
  refine lv_iconst (v := 1) hx hb dX8_question_1 (by decide) ?_
  refine lv_bipush (v := 20) hx hb dX8_question_2 (by decide) ?_
  refine k_callpi (v := b2 (inB many 1 20)) (va_runS (As := [.int many, .int 1, .int 20]) (rest := []) ⟨hx, hb, hml, hown, hts⟩ (c_X8_in l _ many 1 20) (va_cwS 3 hts gX8_question_X8_in rfl rfl rfl (by decide +kernel) ⟨Nat.le_of_ble_eq_true rfl, Nat.le_of_ble_eq_true rfl⟩) (k_preS hK) rfl rfl hl.1 rfl (lv_room (Nat.le_of_ble_eq_true rfl)) dX8_question_4 ⟨(Nat.zero_le _), (Nat.zero_le _)⟩) hS (fun locs hS => ?_)
  refine lv_if_eq (tgt := 30) hx hb dX8_question_7 (by decide) (fun c7 => ?_) (fun c7 => ?_)
  · have b7 := b2_0 c7
    refine lv_iconst (v := -1) hx hb dX8_question_30 (by decide) ?_
    refine lv_goto (tgt := 43) hx hb dX8_question_31 (by decide) ?_
    have hX : mQue σ nW many fails frm = (-1, σ) := by unfold mQue; rw [if_neg (fun q => absurd (q.1.symm.trans b7) (by decide))]
    exact k_reti hx hb hr hlocks ⟨by rw [hX], by rw [hX]; exact hM⟩ hS dX8_question_43
  · have b7 := b2_n c7
    refine lv_iload_n hx hb dX8_question_10 rfl (lv_at hl 2 rfl) ?_
    refine lv_iconst (v := 0) hx hb dX8_question_11 (by decide) ?_
    refine lv_bipush (v := 30) hx hb dX8_question_12 (by decide) ?_
    refine k_callpi (v := b2 (inB fails 0 30)) (va_runS (As := [.int fails, .int 0, .int 30]) (rest := []) ⟨hx, hb, hml, hown, hts⟩ (c_X8_in l _ fails 0 30) (va_cwS 3 hts gX8_question_X8_in rfl rfl rfl (by decide +kernel) ⟨Nat.le_of_ble_eq_true rfl, Nat.le_of_ble_eq_true rfl⟩) (k_preS hK) rfl rfl hl.1 rfl (lv_room (Nat.le_of_ble_eq_true rfl)) dX8_question_14 ⟨(Nat.zero_le _), (Nat.zero_le _)⟩) hS (fun locs hS => ?_)
    refine lv_if_eq (tgt := 30) hx hb dX8_question_17 (by decide) (fun c17 => ?_) (fun c17 => ?_)
    · have b17 := b2_0 c17
      refine lv_iconst (v := -1) hx hb dX8_question_30 (by decide) ?_
      refine lv_goto (tgt := 43) hx hb dX8_question_31 (by decide) ?_
      have hX : mQue σ nW many fails frm = (-1, σ) := by unfold mQue; rw [if_neg (fun q => absurd (q.2.1.symm.trans b17) (by decide))]
      exact k_reti hx hb hr hlocks ⟨by rw [hX], by rw [hX]; exact hM⟩ hS dX8_question_43
    · have b17 := b2_n c17
      refine lv_iload_n hx hb dX8_question_20 rfl (lv_at hl 3 rfl) ?_
      refine lv_iconst (v := 0) hx hb dX8_question_21 (by decide) ?_
      refine lv_bipush (v := 15) hx hb dX8_question_22 (by decide) ?_
      refine k_callpi (v := b2 (inB frm 0 15)) (va_runS (As := [.int frm, .int 0, .int 15]) (rest := []) ⟨hx, hb, hml, hown, hts⟩ (c_X8_in l _ frm 0 15) (va_cwS 3 hts gX8_question_X8_in rfl rfl rfl (by decide +kernel) ⟨Nat.le_of_ble_eq_true rfl, Nat.le_of_ble_eq_true rfl⟩) (k_preS hK) rfl rfl hl.1 rfl (lv_room (Nat.le_of_ble_eq_true rfl)) dX8_question_24 ⟨(Nat.zero_le _), (Nat.zero_le _)⟩) hS (fun locs hS => ?_)
      refine lv_if_ne (tgt := 34) hx hb dX8_question_27 (by decide) (fun c27 => ?_) (fun c27 => ?_)
      · have b27 := b2_n c27
        refine lv_aload_n hx hb dX8_question_34 rfl (lv_at hl 0 rfl) ?_
        refine lv_iconst (v := 0) hx hb dX8_question_35 (by decide) ?_
        refine lv_iload_n hx hb dX8_question_36 rfl (lv_at hl 1 rfl) ?_
        refine lv_iload_n hx hb dX8_question_37 rfl (lv_at hl 2 rfl) ?_
        refine lv_iload_n hx hb dX8_question_38 rfl (lv_at hl 3 rfl) ?_
        refine lv_iconst (v := 0) hx hb dX8_question_39 (by decide) ?_
        refine k_calli (va_runV (As := [.int 0, .int many, .int fails, .int frm, .int 0]) (rest := []) ⟨hx, hb, hml, hown, hts⟩ (c_X8_begin l _ m0 ad σ nW 0 many fails frm 0 hM hW hn) (cwV 5 hts gX8_question_X8_begin rfl rfl rfl (by decide +kernel) ⟨Nat.le_of_ble_eq_true rfl, Nat.le_of_ble_eq_true rfl⟩) (k_preV hK (k_recv hK.1 hM.1 rfl)) rfl rfl hl.1 rfl (lv_room (Nat.le_of_ble_eq_true rfl)) dX8_question_40 ⟨(Nat.zero_le _), (Nat.zero_le _)⟩) hS (fun _ h => h) (fun r9 H2 locs hp9 _ _ hS => ?_)
        exact k_reti hx hb hr hlocks (by unfold mQue; rw [if_pos ⟨b7, b17, b27⟩]; exact hp9) hS dX8_question_43
      · have b27 := b2_0 c27
        refine lv_iconst (v := -1) hx hb dX8_question_30 (by decide) ?_
        refine lv_goto (tgt := 43) hx hb dX8_question_31 (by decide) ?_
        have hX : mQue σ nW many fails frm = (-1, σ) := by unfold mQue; rw [if_neg (fun q => absurd (q.2.2.symm.trans b27) (by decide))]
        exact k_reti hx hb hr hlocks ⟨by rw [hX], by rw [hX]; exact hM⟩ hS dX8_question_43
set_option maxHeartbeats 4000000 in
set_option maxRecDepth 100000 in
theorem c_X8_writer (l : Launch) {D : va_G} {cI cZ cO : ClassId} {mi : Nat} (H : Heap) (m0 : Nat) (ad : Nat → Nat) (σ : Sg) (nW : Nat) (many fails frm more : Int32) (hM : MD D cI cZ m0 ad σ H) (hW : σ 3 0 = nI nW) (hn : nW ≤ 30) : Met l yX8_writer wsX8_writer ({ frames := 1, cells := 0, slots := 0, locals := 26 }) (Pk D cI cZ cO mi [.ref m0, .int many, .int fails, .int frm, .int more] H) (Qki (fun r H1 => r = (mWri σ nW many fails frm more).1 ∧ MD D cI cZ m0 ad (mWri σ nW many fails frm more).2 H1) (Am m0 ad)) 0 0 (Am m0 ad) := by
  refine Met.ofW (cc := cX8_writer) (maxL := 5) (ret := (some .int)) (by decide) rfl ?_
  intro p e s m args below meth c s₁ B hml hv
  obtain ⟨rfl, rfl, hK⟩ := hv
  have hx := B.exec
  have hb := B.bytes
  have hr := B.returns
  have hts := atoms_spec (ws := wsX8_writer) B.pre
  have hown : s.vm.findClass RX8 = some m.cls := findClass_of_methodNamed B.named
  have hlocks := B.notSynchronized
  have hS : va_S (Am m0 ad) s.heap s.heap [] := va_S.rf
  have hl := lv_entry ([.ref m0, .int many, .int fails, .int frm, .int more]) (n := 5) (Nat.le_of_ble_eq_true rfl)
  rw [lg_entry_eq]
  generalize (lg_sl ([.ref m0, .int many, .int fails, .int frm, .int more]) ++ List.replicate (5 - (lg_sl ([.ref m0, .int many, .int fails, .int frm, .int more])).length) Slot.unset).toArray = ls at hl ⊢
  have hl : lv_has ls 5 [(0, .ref m0), (1, .int many), (2, .int fails), (3, .int frm), (4, .int more)] := hl
  have hiX8 : ∀ w ∈ wsX80, w ∈ wsX8_writer := by decide +kernel
  refine lv_iload_n hx hb dX8_writer_0 rfl (lv_at hl 1 rfl) ?_
  refine lv_iconst (v := 1) hx hb dX8_writer_1 (by decide) ?_
  refine lv_bipush (v := 20) hx hb dX8_writer_2 (by decide) ?_
  refine k_callpi (v := b2 (inB many 1 20)) (va_runS (As := [.int many, .int 1, .int 20]) (rest := []) ⟨hx, hb, hml, hown, hts⟩ (c_X8_in l _ many 1 20) (va_cwS 3 hts gX8_writer_X8_in rfl rfl rfl (by decide +kernel) ⟨Nat.le_of_ble_eq_true rfl, Nat.le_of_ble_eq_true rfl⟩) (k_preS hK) rfl rfl hl.1 rfl (lv_room (Nat.le_of_ble_eq_true rfl)) dX8_writer_4 ⟨(Nat.zero_le _), (Nat.zero_le _)⟩) hS (fun locs hS => ?_)
  refine lv_if_eq (tgt := 30) hx hb dX8_writer_7 (by decide) (fun c7 => ?_) (fun c7 => ?_)
  · have b7 := b2_0 c7
    refine lv_iconst (v := -1) hx hb dX8_writer_30 (by decide) ?_
    refine lv_goto (tgt := 44) hx hb dX8_writer_31 (by decide) ?_
    have hX : mWri σ nW many fails frm more = (-1, σ) := by unfold mWri; rw [if_neg (fun q => absurd (q.1.symm.trans b7) (by decide))]
    exact k_reti hx hb hr hlocks ⟨by rw [hX], by rw [hX]; exact hM⟩ hS dX8_writer_44
  · have b7 := b2_n c7
    refine lv_iload_n hx hb dX8_writer_10 rfl (lv_at hl 2 rfl) ?_
    refine lv_iconst (v := 0) hx hb dX8_writer_11 (by decide) ?_
    refine lv_bipush (v := 30) hx hb dX8_writer_12 (by decide) ?_
    refine k_callpi (v := b2 (inB fails 0 30)) (va_runS (As := [.int fails, .int 0, .int 30]) (rest := []) ⟨hx, hb, hml, hown, hts⟩ (c_X8_in l _ fails 0 30) (va_cwS 3 hts gX8_writer_X8_in rfl rfl rfl (by decide +kernel) ⟨Nat.le_of_ble_eq_true rfl, Nat.le_of_ble_eq_true rfl⟩) (k_preS hK) rfl rfl hl.1 rfl (lv_room (Nat.le_of_ble_eq_true rfl)) dX8_writer_14 ⟨(Nat.zero_le _), (Nat.zero_le _)⟩) hS (fun locs hS => ?_)
    refine lv_if_eq (tgt := 30) hx hb dX8_writer_17 (by decide) (fun c17 => ?_) (fun c17 => ?_)
    · have b17 := b2_0 c17
      refine lv_iconst (v := -1) hx hb dX8_writer_30 (by decide) ?_
      refine lv_goto (tgt := 44) hx hb dX8_writer_31 (by decide) ?_
      have hX : mWri σ nW many fails frm more = (-1, σ) := by unfold mWri; rw [if_neg (fun q => absurd (q.2.1.symm.trans b17) (by decide))]
      exact k_reti hx hb hr hlocks ⟨by rw [hX], by rw [hX]; exact hM⟩ hS dX8_writer_44
    · have b17 := b2_n c17
      refine lv_iload_n hx hb dX8_writer_20 rfl (lv_at hl 3 rfl) ?_
      refine lv_iconst (v := 0) hx hb dX8_writer_21 (by decide) ?_
      refine lv_bipush (v := 15) hx hb dX8_writer_22 (by decide) ?_
      refine k_callpi (v := b2 (inB frm 0 15)) (va_runS (As := [.int frm, .int 0, .int 15]) (rest := []) ⟨hx, hb, hml, hown, hts⟩ (c_X8_in l _ frm 0 15) (va_cwS 3 hts gX8_writer_X8_in rfl rfl rfl (by decide +kernel) ⟨Nat.le_of_ble_eq_true rfl, Nat.le_of_ble_eq_true rfl⟩) (k_preS hK) rfl rfl hl.1 rfl (lv_room (Nat.le_of_ble_eq_true rfl)) dX8_writer_24 ⟨(Nat.zero_le _), (Nat.zero_le _)⟩) hS (fun locs hS => ?_)
      refine lv_if_ne (tgt := 34) hx hb dX8_writer_27 (by decide) (fun c27 => ?_) (fun c27 => ?_)
      · have b27 := b2_n c27
        refine lv_aload_n hx hb dX8_writer_34 rfl (lv_at hl 0 rfl) ?_
        refine lv_iconst (v := 1) hx hb dX8_writer_35 (by decide) ?_
        refine lv_iload_n hx hb dX8_writer_36 rfl (lv_at hl 1 rfl) ?_
        refine lv_iload_n hx hb dX8_writer_37 rfl (lv_at hl 2 rfl) ?_
        refine lv_iload_n hx hb dX8_writer_38 rfl (lv_at hl 3 rfl) ?_
        refine lv_iload hx hb dX8_writer_39 (lv_at hl 4 rfl) ?_
        refine k_calli (va_runV (As := [.int 1, .int many, .int fails, .int frm, .int more]) (rest := []) ⟨hx, hb, hml, hown, hts⟩ (c_X8_begin l _ m0 ad σ nW 1 many fails frm more hM hW hn) (cwV 5 hts gX8_writer_X8_begin rfl rfl rfl (by decide +kernel) ⟨Nat.le_of_ble_eq_true rfl, Nat.le_of_ble_eq_true rfl⟩) (k_preV hK (k_recv hK.1 hM.1 rfl)) rfl rfl hl.1 rfl (lv_room (Nat.le_of_ble_eq_true rfl)) dX8_writer_41 ⟨(Nat.zero_le _), (Nat.zero_le _)⟩) hS (fun _ h => h) (fun r9 H2 locs hp9 _ _ hS => ?_)
        exact k_reti hx hb hr hlocks (by unfold mWri; rw [if_pos ⟨b7, b17, b27⟩]; exact hp9) hS dX8_writer_44
      · have b27 := b2_0 c27
        refine lv_iconst (v := -1) hx hb dX8_writer_30 (by decide) ?_
        refine lv_goto (tgt := 44) hx hb dX8_writer_31 (by decide) ?_
        have hX : mWri σ nW many fails frm more = (-1, σ) := by unfold mWri; rw [if_neg (fun q => absurd (q.2.2.symm.trans b27) (by decide))]
        exact k_reti hx hb hr hlocks ⟨by rw [hX], by rw [hX]; exact hM⟩ hS dX8_writer_44
set_option maxHeartbeats 4000000 in
set_option maxRecDepth 100000 in
theorem c_X8_reason (l : Launch) {D : va_G} {cI cZ cO : ClassId} {mi : Nat} (H : Heap) (m0 : Nat) (ad : Nat → Nat) (σ : Sg) (nW : Nat) (many fails : Int32) (hM : MD D cI cZ m0 ad σ H) (hW : σ 3 0 = nI nW) (hn : nW ≤ 30) : Met l yX8_reason wsX8_reason ({ frames := 1, cells := 0, slots := 0, locals := 26 }) (Pk D cI cZ cO mi [.ref m0, .int many, .int fails] H) (Qki (fun r H1 => r = (mRea σ nW many fails).1 ∧ MD D cI cZ m0 ad (mRea σ nW many fails).2 H1) (Am m0 ad)) 0 0 (Am m0 ad) := by
  refine Met.ofW (cc := cX8_reason) (maxL := 3) (ret := (some .int)) (by decide) rfl ?_
  intro p e s m args below meth c s₁ B hml hv
  obtain ⟨rfl, rfl, hK⟩ := hv
  have hx := B.exec
  have hb := B.bytes
  have hr := B.returns
  have hts := atoms_spec (ws := wsX8_reason) B.pre
  have hown : s.vm.findClass RX8 = some m.cls := findClass_of_methodNamed B.named
  have hlocks := B.notSynchronized
  have hS : va_S (Am m0 ad) s.heap s.heap [] := va_S.rf
  have hl := lv_entry ([.ref m0, .int many, .int fails]) (n := 3) (Nat.le_of_ble_eq_true rfl)
  rw [lg_entry_eq]
  generalize (lg_sl ([.ref m0, .int many, .int fails]) ++ List.replicate (3 - (lg_sl ([.ref m0, .int many, .int fails])).length) Slot.unset).toArray = ls at hl ⊢
  have hl : lv_has ls 3 [(0, .ref m0), (1, .int many), (2, .int fails)] := hl
  have hiX8 : ∀ w ∈ wsX80, w ∈ wsX8_reason := by decide +kernel
  refine lv_iload_n hx hb dX8_reason_0 rfl (lv_at hl 1 rfl) ?_
  refine lv_iconst (v := 1) hx hb dX8_reason_1 (by decide) ?_
  refine lv_bipush (v := 20) hx hb dX8_reason_2 (by decide) ?_
  refine k_callpi (v := b2 (inB many 1 20)) (va_runS (As := [.int many, .int 1, .int 20]) (rest := []) ⟨hx, hb, hml, hown, hts⟩ (c_X8_in l _ many 1 20) (va_cwS 3 hts gX8_reason_X8_in rfl rfl rfl (by decide +kernel) ⟨Nat.le_of_ble_eq_true rfl, Nat.le_of_ble_eq_true rfl⟩) (k_preS hK) rfl rfl hl.1 rfl (lv_room (Nat.le_of_ble_eq_true rfl)) dX8_reason_4 ⟨(Nat.zero_le _), (Nat.zero_le _)⟩) hS (fun locs hS => ?_)
  refine lv_if_eq (tgt := 20) hx hb dX8_reason_7 (by decide) (fun c7 => ?_) (fun c7 => ?_)
  · have b7 := b2_0 c7
    refine lv_iconst (v := -1) hx hb dX8_reason_20 (by decide) ?_
    refine lv_goto (tgt := 33) hx hb dX8_reason_21 (by decide) ?_
    have hX : mRea σ nW many fails = (-1, σ) := by unfold mRea; rw [if_neg (fun q => absurd (q.1.symm.trans b7) (by decide))]
    exact k_reti hx hb hr hlocks ⟨by rw [hX], by rw [hX]; exact hM⟩ hS dX8_reason_33
  · have b7 := b2_n c7
    refine lv_iload_n hx hb dX8_reason_10 rfl (lv_at hl 2 rfl) ?_
    refine lv_iconst (v := 0) hx hb dX8_reason_11 (by decide) ?_
    refine lv_bipush (v := 30) hx hb dX8_reason_12 (by decide) ?_
    refine k_callpi (v := b2 (inB fails 0 30)) (va_runS (As := [.int fails, .int 0, .int 30]) (rest := []) ⟨hx, hb, hml, hown, hts⟩ (c_X8_in l _ fails 0 30) (va_cwS 3 hts gX8_reason_X8_in rfl rfl rfl (by decide +kernel) ⟨Nat.le_of_ble_eq_true rfl, Nat.le_of_ble_eq_true rfl⟩) (k_preS hK) rfl rfl hl.1 rfl (lv_room (Nat.le_of_ble_eq_true rfl)) dX8_reason_14 ⟨(Nat.zero_le _), (Nat.zero_le _)⟩) hS (fun locs hS => ?_)
    refine lv_if_ne (tgt := 24) hx hb dX8_reason_17 (by decide) (fun c17 => ?_) (fun c17 => ?_)
    · have b17 := b2_n c17
      refine lv_aload_n hx hb dX8_reason_24 rfl (lv_at hl 0 rfl) ?_
      refine lv_iconst (v := 2) hx hb dX8_reason_25 (by decide) ?_
      refine lv_iload_n hx hb dX8_reason_26 rfl (lv_at hl 1 rfl) ?_
      refine lv_iload_n hx hb dX8_reason_27 rfl (lv_at hl 2 rfl) ?_
      refine lv_iconst (v := 0) hx hb dX8_reason_28 (by decide) ?_
      refine lv_iconst (v := 0) hx hb dX8_reason_29 (by decide) ?_
      refine k_calli (va_runV (As := [.int 2, .int many, .int fails, .int 0, .int 0]) (rest := []) ⟨hx, hb, hml, hown, hts⟩ (c_X8_begin l _ m0 ad σ nW 2 many fails 0 0 hM hW hn) (cwV 5 hts gX8_reason_X8_begin rfl rfl rfl (by decide +kernel) ⟨Nat.le_of_ble_eq_true rfl, Nat.le_of_ble_eq_true rfl⟩) (k_preV hK (k_recv hK.1 hM.1 rfl)) rfl rfl hl.1 rfl (lv_room (Nat.le_of_ble_eq_true rfl)) dX8_reason_30 ⟨(Nat.zero_le _), (Nat.zero_le _)⟩) hS (fun _ h => h) (fun r9 H2 locs hp9 _ _ hS => ?_)
      exact k_reti hx hb hr hlocks (by unfold mRea; rw [if_pos ⟨b7, b17⟩]; exact hp9) hS dX8_reason_33
    · have b17 := b2_0 c17
      refine lv_iconst (v := -1) hx hb dX8_reason_20 (by decide) ?_
      refine lv_goto (tgt := 33) hx hb dX8_reason_21 (by decide) ?_
      have hX : mRea σ nW many fails = (-1, σ) := by unfold mRea; rw [if_neg (fun q => absurd (q.2.symm.trans b17) (by decide))]
      exact k_reti hx hb hr hlocks ⟨by rw [hX], by rw [hX]; exact hM⟩ hS dX8_reason_33
set_option maxHeartbeats 4000000 in
set_option maxRecDepth 100000 in
theorem c_X8_stream (l : Launch) {D : va_G} {cI cZ cO : ClassId} {mi : Nat} (H : Heap) (m0 : Nat) (ad : Nat → Nat) (σ : Sg) (nW : Nat) (hM : MD D cI cZ m0 ad σ H) (hW : σ 3 0 = nI nW) (hn : nW ≤ 30) : Met l yX8_stream wsX8_stream ({ frames := 1, cells := 0, slots := 0, locals := 26 }) (Pk D cI cZ cO mi [.ref m0] H) (Qki (fun r H1 => r = (beg σ nW 3 0 0 0 0).1 ∧ MD D cI cZ m0 ad (beg σ nW 3 0 0 0 0).2 H1) (Am m0 ad)) 0 0 (Am m0 ad) := by
  refine Met.ofW (cc := cX8_stream) (maxL := 1) (ret := (some .int)) (by decide) rfl ?_
  intro p e s m args below meth c s₁ B hml hv
  obtain ⟨rfl, rfl, hK⟩ := hv
  have hx := B.exec
  have hb := B.bytes
  have hr := B.returns
  have hts := atoms_spec (ws := wsX8_stream) B.pre
  have hown : s.vm.findClass RX8 = some m.cls := findClass_of_methodNamed B.named
  have hlocks := B.notSynchronized
  have hS : va_S (Am m0 ad) s.heap s.heap [] := va_S.rf
  have hl := lv_entry ([.ref m0]) (n := 1) (Nat.le_of_ble_eq_true rfl)
  rw [lg_entry_eq]
  generalize (lg_sl ([.ref m0]) ++ List.replicate (1 - (lg_sl ([.ref m0])).length) Slot.unset).toArray = ls at hl ⊢
  have hl : lv_has ls 1 [(0, .ref m0)] := hl
  have hiX8 : ∀ w ∈ wsX80, w ∈ wsX8_stream := by decide +kernel
  refine lv_aload_n hx hb dX8_stream_0 rfl (lv_at hl 0 rfl) ?_
  refine lv_iconst (v := 3) hx hb dX8_stream_1 (by decide) ?_
  refine lv_iconst (v := 0) hx hb dX8_stream_2 (by decide) ?_
  refine lv_iconst (v := 0) hx hb dX8_stream_3 (by decide) ?_
  refine lv_iconst (v := 0) hx hb dX8_stream_4 (by decide) ?_
  refine lv_iconst (v := 0) hx hb dX8_stream_5 (by decide) ?_
  refine k_calli (va_runV (As := [.int 3, .int 0, .int 0, .int 0, .int 0]) (rest := []) ⟨hx, hb, hml, hown, hts⟩ (c_X8_begin l _ m0 ad σ nW 3 0 0 0 0 hM hW hn) (cwV 5 hts gX8_stream_X8_begin rfl rfl rfl (by decide +kernel) ⟨Nat.le_of_ble_eq_true rfl, Nat.le_of_ble_eq_true rfl⟩) (k_preV hK (k_recv hK.1 hM.1 rfl)) rfl rfl hl.1 rfl (lv_room (Nat.le_of_ble_eq_true rfl)) dX8_stream_6 ⟨(Nat.zero_le _), (Nat.zero_le _)⟩) hS (fun _ h => h) (fun r9 H2 locs hp9 _ _ hS => ?_)
  exact k_reti hx hb hr hlocks (by skip; exact hp9) hS dX8_stream_9
set_option maxHeartbeats 4000000 in
set_option maxRecDepth 100000 in
theorem c_X8_cancel (l : Launch) {D : va_G} {cI cZ cO : ClassId} {mi : Nat} (H : Heap) (m0 : Nat) (ad : Nat → Nat) (σ : Sg) (nW nV nE : Nat) (x : Int32) (hM : MD D cI cZ m0 ad σ H) (hI : Inv σ nW nV nE) : Met l yX8_cancel wsX8_cancel ({ frames := 1, cells := 0, slots := 0, locals := 22 }) (Pk D cI cZ cO mi [.ref m0, .int x] H) (Qki (fun r H1 => r = (mCan σ x).1 ∧ MD D cI cZ m0 ad (mCan σ x).2 H1) (Am m0 ad)) 0 0 (Am m0 ad) := by
  refine Met.ofW (cc := cX8_cancel) (maxL := 2) (ret := (some .int)) (by decide) rfl ?_
  intro p e s m args below meth c s₁ B hml hv
  obtain ⟨rfl, rfl, hK⟩ := hv
  have hx := B.exec
  have hb := B.bytes
  have hr := B.returns
  have hts := atoms_spec (ws := wsX8_cancel) B.pre
  have hown : s.vm.findClass RX8 = some m.cls := findClass_of_methodNamed B.named
  have hlocks := B.notSynchronized
  have hS : va_S (Am m0 ad) s.heap s.heap [] := va_S.rf
  have hl := lv_entry ([.ref m0, .int x]) (n := 2) (Nat.le_of_ble_eq_true rfl)
  rw [lg_entry_eq]
  generalize (lg_sl ([.ref m0, .int x]) ++ List.replicate (2 - (lg_sl ([.ref m0, .int x])).length) Slot.unset).toArray = ls at hl ⊢
  have hl : lv_has ls 2 [(0, .ref m0), (1, .int x)] := hl
  have hiX8 : ∀ w ∈ wsX80, w ∈ wsX8_cancel := by decide +kernel
  refine lv_iload_n hx hb dX8_cancel_0 rfl (lv_at hl 1 rfl) ?_
  refine lv_iconst (v := 0) hx hb dX8_cancel_1 (by decide) ?_
  refine lv_aload_n hx hb dX8_cancel_2 rfl (lv_at hl 0 rfl) ?_
  refine k_get (C := RX8) (T := TX8) (N := 22) (v := .int (σ 3 0)) hx hb hts hiX8 hown hK.1 hM.1 rfl 3 (by decide) (hts (.fieldLink RX8 67 "HouseWorkersModel" "workers" "I") (by decide +kernel)) (fun _ h9 => h9) rfl dX8_cancel_3 ?_
  refine lv_iconst (v := 1) hx hb dX8_cancel_6 (by decide) ?_
  refine lv_isub hx hb dX8_cancel_7 ?_
  refine k_callpi (v := b2 (inB x 0 ((σ 3 0) - 1))) (va_runS (As := [.int x, .int 0, .int ((σ 3 0) - 1)]) (rest := []) ⟨hx, hb, hml, hown, hts⟩ (c_X8_in l _ x 0 ((σ 3 0) - 1)) (va_cwS 3 hts gX8_cancel_X8_in rfl rfl rfl (by decide +kernel) ⟨Nat.le_of_ble_eq_true rfl, Nat.le_of_ble_eq_true rfl⟩) (k_preS hK) rfl rfl hl.1 rfl (lv_room (Nat.le_of_ble_eq_true rfl)) dX8_cancel_8 ⟨(Nat.zero_le _), (Nat.zero_le _)⟩) hS (fun locs hS => ?_)
  refine lv_if_ne (tgt := 16) hx hb dX8_cancel_11 (by decide) (fun c11 => ?_) (fun c11 => ?_)
  · have b11 := b2_n c11
    have hin := b11
    rw [hI.1] at hin
    obtain ⟨j, hjW, hxj⟩ := inB_idx (by have := hI.2.2.2.1; omega) hin
    subst hxj
    have hn30 := hI.2.2.2.1
    refine lv_aload_n hx hb dX8_cancel_16 rfl (lv_at hl 0 rfl) ?_
    refine k_get (C := RX8) (T := TX8) (N := 22) (v := .ref (ad 12)) hx hb hts hiX8 hown hK.1 hM.1 rfl 12 (by decide) (hts (.fieldLink RX8 41 "HouseWorkersModel" "end" "[I") (by decide +kernel)) (fun _ h9 => h9) rfl dX8_cancel_17 ?_
    refine lv_iload_n hx hb dX8_cancel_20 rfl (lv_at hl 1 rfl) ?_
    refine k_iald (n := 30) (f := (σ 12)) hx hb hK.1 0 (hM.2.1 12 rfl) rfl j rfl (by omega) (by decide) dX8_cancel_21 ?_
    refine lv_if_gt (tgt := 34) hx hb dX8_cancel_22 (by decide) (fun c22 => ?_) (fun c22 => ?_)
    · refine lv_iconst (v := 0) hx hb dX8_cancel_34 (by decide) ?_
      have hX : mCan σ (nI j) = (0, σ) := by unfold mCan; rw [if_pos b11, nat_nI (by omega)]; unfold cnc; rw [if_pos c22]
      exact k_reti hx hb hr hlocks ⟨by rw [hX], by rw [hX]; exact hM⟩ hS dX8_cancel_35
    · refine lv_aload_n hx hb dX8_cancel_25 rfl (lv_at hl 0 rfl) ?_
      refine k_get (C := RX8) (T := TX8) (N := 22) (v := .ref (ad 13)) hx hb hts hiX8 hown hK.1 hM.1 rfl 13 (by decide) (hts (.fieldLink RX8 44 "HouseWorkersModel" "told" "[Z") (by decide +kernel)) (fun _ h9 => h9) rfl dX8_cancel_26 ?_
      refine lv_iload_n hx hb dX8_cancel_29 rfl (lv_at hl 1 rfl) ?_
      refine k_zald (n := 30) (f := (σ 13)) hx hb hK.1 1 hM.2.2.1 rfl j rfl (by omega) (by decide) dX8_cancel_30 ?_
      refine lv_if_eq (tgt := 36) hx hb dX8_cancel_31 (by decide) (fun c31 => ?_) (fun c31 => ?_)
      · refine lv_aload_n hx hb dX8_cancel_36 rfl (lv_at hl 0 rfl) ?_
        refine k_get (C := RX8) (T := TX8) (N := 22) (v := .ref (ad 13)) hx hb hts hiX8 hown hK.1 hM.1 rfl 13 (by decide) (hts (.fieldLink RX8 44 "HouseWorkersModel" "told" "[Z") (by decide +kernel)) (fun _ h9 => h9) rfl dX8_cancel_37 ?_
        refine lv_iload_n hx hb dX8_cancel_40 rfl (lv_at hl 1 rfl) ?_
        refine lv_iconst (v := 1) hx hb dX8_cancel_41 (by decide) ?_
        refine k_zast (A := (Am m0 ad)) (n := 30) (f := (σ 13)) (x := 1) hx hb hK.1 1 hM.2.2.1 (Am.arr 13 rfl) hS rfl j rfl (by omega) (by decide) (by decide) dX8_cancel_42 (fun H1 locs hO2 hz3 hq4 hS => ?_)
        have hM := MD.told (i := j) (v := 1) hM hO2 hq4
        refine lv_iconst (v := 1) hx hb dX8_cancel_43 (by decide) ?_
        have hX : mCan σ (nI j) = (1, (u2 σ 13 j 1)) := by unfold mCan; rw [if_pos b11, nat_nI (by omega)]; unfold cnc; rw [if_neg c22, if_neg (fun q => q c31)]
        exact k_reti hx hb hr hlocks ⟨by rw [hX], by rw [hX]; exact hM⟩ hS dX8_cancel_44
      · refine lv_iconst (v := 0) hx hb dX8_cancel_34 (by decide) ?_
        have hX : mCan σ (nI j) = (0, σ) := by unfold mCan; rw [if_pos b11, nat_nI (by omega)]; unfold cnc; rw [if_neg c22, if_pos c31]
        exact k_reti hx hb hr hlocks ⟨by rw [hX], by rw [hX]; exact hM⟩ hS dX8_cancel_35
  · have b11 := b2_0 c11
    refine lv_iconst (v := -1) hx hb dX8_cancel_14 (by decide) ?_
    have hX : mCan σ x = (-1, σ) := by unfold mCan; rw [if_neg (by rw [b11]; decide)]
    exact k_reti hx hb hr hlocks ⟨by rw [hX], by rw [hX]; exact hM⟩ hS dX8_cancel_15
set_option maxHeartbeats 4000000 in
set_option maxRecDepth 100000 in
theorem c_X8_told (l : Launch) {D : va_G} {cI cZ cO : ClassId} {mi : Nat} (H : Heap) (m0 : Nat) (ad : Nat → Nat) (σ : Sg) (nW nV nE : Nat) (x what : Int32) (hM : MD D cI cZ m0 ad σ H) (hI : Inv σ nW nV nE) : Met l yX8_told wsX8_told ({ frames := 2, cells := 0, slots := 0, locals := 44 }) (Pk D cI cZ cO mi [.ref m0, .int x, .int what] H) (Qpi H (mTld σ x what)) 0 0 (fun _ => False) := by
  refine Met.ofW (cc := cX8_told) (maxL := 3) (ret := (some .int)) (by decide) rfl ?_
  intro p e s m args below meth c s₁ B hml hv
  obtain ⟨rfl, rfl, hK⟩ := hv
  have hx := B.exec
  have hb := B.bytes
  have hr := B.returns
  have hts := atoms_spec (ws := wsX8_told) B.pre
  have hown : s.vm.findClass RX8 = some m.cls := findClass_of_methodNamed B.named
  have hlocks := B.notSynchronized
  have hS : va_S (fun _ => False) s.heap s.heap [] := va_S.rf
  have hl := lv_entry ([.ref m0, .int x, .int what]) (n := 3) (Nat.le_of_ble_eq_true rfl)
  rw [lg_entry_eq]
  generalize (lg_sl ([.ref m0, .int x, .int what]) ++ List.replicate (3 - (lg_sl ([.ref m0, .int x, .int what])).length) Slot.unset).toArray = ls at hl ⊢
  have hl : lv_has ls 3 [(0, .ref m0), (1, .int x), (2, .int what)] := hl
  have hiX8 : ∀ w ∈ wsX80, w ∈ wsX8_told := by decide +kernel
  refine lv_iload_n hx hb dX8_told_0 rfl (lv_at hl 1 rfl) ?_
  refine lv_iconst (v := 0) hx hb dX8_told_1 (by decide) ?_
  refine lv_aload_n hx hb dX8_told_2 rfl (lv_at hl 0 rfl) ?_
  refine k_get (C := RX8) (T := TX8) (N := 22) (v := .int (σ 3 0)) hx hb hts hiX8 hown hK.1 hM.1 rfl 3 (by decide) (hts (.fieldLink RX8 67 "HouseWorkersModel" "workers" "I") (by decide +kernel)) (fun _ h9 => h9) rfl dX8_told_3 ?_
  refine lv_iconst (v := 1) hx hb dX8_told_6 (by decide) ?_
  refine lv_isub hx hb dX8_told_7 ?_
  refine k_callpi (v := b2 (inB x 0 ((σ 3 0) - 1))) (va_runS (As := [.int x, .int 0, .int ((σ 3 0) - 1)]) (rest := []) ⟨hx, hb, hml, hown, hts⟩ (c_X8_in l _ x 0 ((σ 3 0) - 1)) (va_cwS 3 hts gX8_told_X8_in rfl rfl rfl (by decide +kernel) ⟨Nat.le_of_ble_eq_true rfl, Nat.le_of_ble_eq_true rfl⟩) (k_preS hK) rfl rfl hl.1 rfl (lv_room (Nat.le_of_ble_eq_true rfl)) dX8_told_8 ⟨(Nat.zero_le _), (Nat.zero_le _)⟩) hS (fun locs hS => ?_)
  refine lv_if_eq (tgt := 23) hx hb dX8_told_11 (by decide) (fun c11 => ?_) (fun c11 => ?_)
  · have b11 := b2_0 c11
    refine lv_iconst (v := -1) hx hb dX8_told_23 (by decide) ?_
    exact k_reti hx hb hr hlocks ⟨by unfold mTld; rw [if_neg (fun q => absurd (q.1.symm.trans b11) (by decide))], rfl⟩ hS dX8_told_24
  · have b11 := b2_n c11
    refine lv_iload_n hx hb dX8_told_14 rfl (lv_at hl 2 rfl) ?_
    refine lv_iconst (v := 0) hx hb dX8_told_15 (by decide) ?_
    refine lv_iconst (v := 5) hx hb dX8_told_16 (by decide) ?_
    refine k_callpi (v := b2 (inB what 0 5)) (va_runS (As := [.int what, .int 0, .int 5]) (rest := []) ⟨hx, hb, hml, hown, hts⟩ (c_X8_in l _ what 0 5) (va_cwS 3 hts gX8_told_X8_in rfl rfl rfl (by decide +kernel) ⟨Nat.le_of_ble_eq_true rfl, Nat.le_of_ble_eq_true rfl⟩) (k_preS hK) rfl rfl hl.1 rfl (lv_room (Nat.le_of_ble_eq_true rfl)) dX8_told_17 ⟨(Nat.zero_le _), (Nat.zero_le _)⟩) hS (fun locs hS => ?_)
    refine lv_if_ne (tgt := 25) hx hb dX8_told_20 (by decide) (fun c20 => ?_) (fun c20 => ?_)
    · have b20 := b2_n c20
      have hin := b11
      rw [hI.1] at hin
      obtain ⟨j, hjW, hxj⟩ := inB_idx (by have := hI.2.2.2.1; omega) hin
      subst hxj
      have hn30 := hI.2.2.2.1
      refine lv_iload_n hx hb dX8_told_25 rfl (lv_at hl 2 rfl) ?_
      by_cases k0 : what = 0
      · refine lv_tableIn (off := 34) (tgt := 60) hx hb dX8_told_26 (by rw [k0]; decide) (by rw [k0]; decide) (by rw [k0]; decide) (by decide) ?_
        refine lv_aload_n hx hb dX8_told_60 rfl (lv_at hl 0 rfl) ?_
        refine k_get (C := RX8) (T := TX8) (N := 22) (v := .ref (ad 4)) hx hb hts hiX8 hown hK.1 hM.1 rfl 4 (by decide) (hts (.fieldLink RX8 17 "HouseWorkersModel" "kind" "[I") (by decide +kernel)) (fun _ h9 => h9) rfl dX8_told_61 ?_
        refine lv_iload_n hx hb dX8_told_64 rfl (lv_at hl 1 rfl) ?_
        refine k_iald (n := 30) (f := (σ 4)) hx hb hK.1 0 (hM.2.1 4 rfl) rfl j rfl (by omega) (by decide) dX8_told_65 ?_
        exact k_reti hx hb hr hlocks ⟨by unfold mTld; rw [if_pos ⟨b11, b20⟩, nat_nI (by omega)]; unfold tld; rw [if_pos k0], rfl⟩ hS dX8_told_66
      by_cases k1 : what = 1
      · refine lv_tableIn (off := 41) (tgt := 67) hx hb dX8_told_26 (by rw [k1]; decide) (by rw [k1]; decide) (by rw [k1]; decide) (by decide) ?_
        refine lv_aload_n hx hb dX8_told_67 rfl (lv_at hl 0 rfl) ?_
        refine k_get (C := RX8) (T := TX8) (N := 22) (v := .ref (ad 12)) hx hb hts hiX8 hown hK.1 hM.1 rfl 12 (by decide) (hts (.fieldLink RX8 41 "HouseWorkersModel" "end" "[I") (by decide +kernel)) (fun _ h9 => h9) rfl dX8_told_68 ?_
        refine lv_iload_n hx hb dX8_told_71 rfl (lv_at hl 1 rfl) ?_
        refine k_iald (n := 30) (f := (σ 12)) hx hb hK.1 0 (hM.2.1 12 rfl) rfl j rfl (by omega) (by decide) dX8_told_72 ?_
        exact k_reti hx hb hr hlocks ⟨by unfold mTld; rw [if_pos ⟨b11, b20⟩, nat_nI (by omega)]; unfold tld; rw [if_neg k0, if_pos k1], rfl⟩ hS dX8_told_73
      by_cases k2 : what = 2
      · refine lv_tableIn (off := 48) (tgt := 74) hx hb dX8_told_26 (by rw [k2]; decide) (by rw [k2]; decide) (by rw [k2]; decide) (by decide) ?_
        refine lv_aload_n hx hb dX8_told_74 rfl (lv_at hl 0 rfl) ?_
        refine k_get (C := RX8) (T := TX8) (N := 22) (v := .ref (ad 9)) hx hb hts hiX8 hown hK.1 hM.1 rfl 9 (by decide) (hts (.fieldLink RX8 32 "HouseWorkersModel" "done" "[I") (by decide +kernel)) (fun _ h9 => h9) rfl dX8_told_75 ?_
        refine lv_iload_n hx hb dX8_told_78 rfl (lv_at hl 1 rfl) ?_
        refine k_iald (n := 30) (f := (σ 9)) hx hb hK.1 0 (hM.2.1 9 rfl) rfl j rfl (by omega) (by decide) dX8_told_79 ?_
        exact k_reti hx hb hr hlocks ⟨by unfold mTld; rw [if_pos ⟨b11, b20⟩, nat_nI (by omega)]; unfold tld; rw [if_neg k0, if_neg k1, if_pos k2], rfl⟩ hS dX8_told_80
      by_cases k3 : what = 3
      · refine lv_tableIn (off := 55) (tgt := 81) hx hb dX8_told_26 (by rw [k3]; decide) (by rw [k3]; decide) (by rw [k3]; decide) (by decide) ?_
        refine lv_aload_n hx hb dX8_told_81 rfl (lv_at hl 0 rfl) ?_
        refine k_get (C := RX8) (T := TX8) (N := 22) (v := .ref (ad 10)) hx hb hts hiX8 hown hK.1 hM.1 rfl 10 (by decide) (hts (.fieldLink RX8 35 "HouseWorkersModel" "answer" "[I") (by decide +kernel)) (fun _ h9 => h9) rfl dX8_told_82 ?_
        refine lv_iload_n hx hb dX8_told_85 rfl (lv_at hl 1 rfl) ?_
        refine k_iald (n := 30) (f := (σ 10)) hx hb hK.1 0 (hM.2.1 10 rfl) rfl j rfl (by omega) (by decide) dX8_told_86 ?_
        exact k_reti hx hb hr hlocks ⟨by unfold mTld; rw [if_pos ⟨b11, b20⟩, nat_nI (by omega)]; unfold tld; rw [if_neg k0, if_neg k1, if_neg k2, if_pos k3], rfl⟩ hS dX8_told_87
      by_cases k4 : what = 4
      · refine lv_tableIn (off := 62) (tgt := 88) hx hb dX8_told_26 (by rw [k4]; decide) (by rw [k4]; decide) (by rw [k4]; decide) (by decide) ?_
        refine lv_aload_n hx hb dX8_told_88 rfl (lv_at hl 0 rfl) ?_
        refine k_get (C := RX8) (T := TX8) (N := 22) (v := .ref (ad 4)) hx hb hts hiX8 hown hK.1 hM.1 rfl 4 (by decide) (hts (.fieldLink RX8 17 "HouseWorkersModel" "kind" "[I") (by decide +kernel)) (fun _ h9 => h9) rfl dX8_told_89 ?_
        refine lv_iload_n hx hb dX8_told_92 rfl (lv_at hl 1 rfl) ?_
        refine k_iald (n := 30) (f := (σ 4)) hx hb hK.1 0 (hM.2.1 4 rfl) rfl j rfl (by omega) (by decide) dX8_told_93 ?_
        refine lv_iconst (v := 2) hx hb dX8_told_94 (by decide) ?_
        refine lv_icmp_ne (tgt := 112) hx hb dX8_told_95 (by decide) (fun c95 => ?_) (fun c95 => ?_)
        · refine lv_aload_n hx hb dX8_told_112 rfl (lv_at hl 0 rfl) ?_
          refine k_get (C := RX8) (T := TX8) (N := 22) (v := .ref (ad 11)) hx hb hts hiX8 hown hK.1 hM.1 rfl 11 (by decide) (hts (.fieldLink RX8 38 "HouseWorkersModel" "version" "[I") (by decide +kernel)) (fun _ h9 => h9) rfl dX8_told_113 ?_
          refine lv_iload_n hx hb dX8_told_116 rfl (lv_at hl 1 rfl) ?_
          refine k_iald (n := 30) (f := (σ 11)) hx hb hK.1 0 (hM.2.1 11 rfl) rfl j rfl (by omega) (by decide) dX8_told_117 ?_
          exact k_reti hx hb hr hlocks ⟨by unfold mTld; rw [if_pos ⟨b11, b20⟩, nat_nI (by omega)]; unfold tld; rw [if_neg k0, if_neg k1, if_neg k2, if_neg k3, if_pos k4]; rw [if_neg (fun q => c95 q.1)], rfl⟩ hS dX8_told_118
        · refine lv_aload_n hx hb dX8_told_98 rfl (lv_at hl 0 rfl) ?_
          refine k_get (C := RX8) (T := TX8) (N := 22) (v := .ref (ad 12)) hx hb hts hiX8 hown hK.1 hM.1 rfl 12 (by decide) (hts (.fieldLink RX8 41 "HouseWorkersModel" "end" "[I") (by decide +kernel)) (fun _ h9 => h9) rfl dX8_told_99 ?_
          refine lv_iload_n hx hb dX8_told_102 rfl (lv_at hl 1 rfl) ?_
          refine k_iald (n := 30) (f := (σ 12)) hx hb hK.1 0 (hM.2.1 12 rfl) rfl j rfl (by omega) (by decide) dX8_told_103 ?_
          refine lv_iconst (v := 2) hx hb dX8_told_104 (by decide) ?_
          refine lv_icmp_eq (tgt := 112) hx hb dX8_told_105 (by decide) (fun c105 => ?_) (fun c105 => ?_)
          · refine lv_aload_n hx hb dX8_told_112 rfl (lv_at hl 0 rfl) ?_
            refine k_get (C := RX8) (T := TX8) (N := 22) (v := .ref (ad 11)) hx hb hts hiX8 hown hK.1 hM.1 rfl 11 (by decide) (hts (.fieldLink RX8 38 "HouseWorkersModel" "version" "[I") (by decide +kernel)) (fun _ h9 => h9) rfl dX8_told_113 ?_
            refine lv_iload_n hx hb dX8_told_116 rfl (lv_at hl 1 rfl) ?_
            refine k_iald (n := 30) (f := (σ 11)) hx hb hK.1 0 (hM.2.1 11 rfl) rfl j rfl (by omega) (by decide) dX8_told_117 ?_
            exact k_reti hx hb hr hlocks ⟨by unfold mTld; rw [if_pos ⟨b11, b20⟩, nat_nI (by omega)]; unfold tld; rw [if_neg k0, if_neg k1, if_neg k2, if_neg k3, if_pos k4]; rw [if_neg (fun q => q.2 c105)], rfl⟩ hS dX8_told_118
          · refine lv_iconst (v := -1) hx hb dX8_told_108 (by decide) ?_
            refine lv_goto (tgt := 118) hx hb dX8_told_109 (by decide) ?_
            exact k_reti hx hb hr hlocks ⟨by unfold mTld; rw [if_pos ⟨b11, b20⟩, nat_nI (by omega)]; unfold tld; rw [if_neg k0, if_neg k1, if_neg k2, if_neg k3, if_pos k4]; rw [if_pos ⟨c95, c105⟩], rfl⟩ hS dX8_told_118
      refine lv_tableOut (tgt := 119) hx hb dX8_told_26 (tb4 k0 k1 k2 k3 k4) (by decide) ?_
      refine lv_aload_n hx hb dX8_told_119 rfl (lv_at hl 0 rfl) ?_
      refine lv_iload_n hx hb dX8_told_120 rfl (lv_at hl 1 rfl) ?_
      refine k_callpi (v := b2 (wt σ j)) (va_runV (As := [.int (nI j)]) (rest := []) ⟨hx, hb, hml, hown, hts⟩ (c_X8_waits l _ m0 ad σ j hM (by omega)) (cwV 1 hts gX8_told_X8_waits rfl rfl rfl (by decide +kernel) ⟨Nat.le_of_ble_eq_true rfl, Nat.le_of_ble_eq_true rfl⟩) (k_preV hK (k_recv hK.1 hM.1 rfl)) rfl rfl hl.1 rfl (lv_room (Nat.le_of_ble_eq_true rfl)) dX8_told_121 ⟨(Nat.zero_le _), (Nat.zero_le _)⟩) hS (fun locs hS => ?_)
      refine lv_if_eq (tgt := 131) hx hb dX8_told_124 (by decide) (fun c124 => ?_) (fun c124 => ?_)
      · refine lv_iconst (v := 0) hx hb dX8_told_131 (by decide) ?_
        exact k_reti hx hb hr hlocks ⟨by unfold mTld; rw [if_pos ⟨b11, b20⟩, nat_nI (by omega)]; unfold tld; rw [if_neg k0, if_neg k1, if_neg k2, if_neg k3, if_neg k4]; exact (b2_f (b2_0 c124)).symm, rfl⟩ hS dX8_told_132
      · refine lv_iconst (v := 1) hx hb dX8_told_127 (by decide) ?_
        refine lv_goto (tgt := 132) hx hb dX8_told_128 (by decide) ?_
        exact k_reti hx hb hr hlocks ⟨by unfold mTld; rw [if_pos ⟨b11, b20⟩, nat_nI (by omega)]; unfold tld; rw [if_neg k0, if_neg k1, if_neg k2, if_neg k3, if_neg k4]; exact (b2_t (b2_n c124)).symm, rfl⟩ hS dX8_told_132
    · have b20 := b2_0 c20
      refine lv_iconst (v := -1) hx hb dX8_told_23 (by decide) ?_
      exact k_reti hx hb hr hlocks ⟨by unfold mTld; rw [if_neg (fun q => absurd (q.2.symm.trans b20) (by decide))], rfl⟩ hS dX8_told_24
set_option maxHeartbeats 4000000 in
set_option maxRecDepth 100000 in
theorem c_X8_ended (l : Launch) {D : va_G} {cI cZ cO : ClassId} {mi : Nat} (H : Heap) (m0 : Nat) (ad : Nat → Nat) (σ : Sg) (nW nV nE : Nat) (x what : Int32) (hM : MD D cI cZ m0 ad σ H) (hI : Inv σ nW nV nE) : Met l yX8_ended wsX8_ended ({ frames := 1, cells := 0, slots := 0, locals := 22 }) (Pk D cI cZ cO mi [.ref m0, .int x, .int what] H) (Qpi H (mEnd σ x what)) 0 0 (fun _ => False) := by
  refine Met.ofW (cc := cX8_ended) (maxL := 3) (ret := (some .int)) (by decide) rfl ?_
  intro p e s m args below meth c s₁ B hml hv
  obtain ⟨rfl, rfl, hK⟩ := hv
  have hx := B.exec
  have hb := B.bytes
  have hr := B.returns
  have hts := atoms_spec (ws := wsX8_ended) B.pre
  have hown : s.vm.findClass RX8 = some m.cls := findClass_of_methodNamed B.named
  have hlocks := B.notSynchronized
  have hS : va_S (fun _ => False) s.heap s.heap [] := va_S.rf
  have hl := lv_entry ([.ref m0, .int x, .int what]) (n := 3) (Nat.le_of_ble_eq_true rfl)
  rw [lg_entry_eq]
  generalize (lg_sl ([.ref m0, .int x, .int what]) ++ List.replicate (3 - (lg_sl ([.ref m0, .int x, .int what])).length) Slot.unset).toArray = ls at hl ⊢
  have hl : lv_has ls 3 [(0, .ref m0), (1, .int x), (2, .int what)] := hl
  have hiX8 : ∀ w ∈ wsX80, w ∈ wsX8_ended := by decide +kernel
  refine lv_iload_n hx hb dX8_ended_0 rfl (lv_at hl 2 rfl) ?_
  refine lv_iconst (v := 0) hx hb dX8_ended_1 (by decide) ?_
  refine lv_iconst (v := 2) hx hb dX8_ended_2 (by decide) ?_
  refine k_callpi (v := b2 (inB what 0 2)) (va_runS (As := [.int what, .int 0, .int 2]) (rest := []) ⟨hx, hb, hml, hown, hts⟩ (c_X8_in l _ what 0 2) (va_cwS 3 hts gX8_ended_X8_in rfl rfl rfl (by decide +kernel) ⟨Nat.le_of_ble_eq_true rfl, Nat.le_of_ble_eq_true rfl⟩) (k_preS hK) rfl rfl hl.1 rfl (lv_room (Nat.le_of_ble_eq_true rfl)) dX8_ended_3 ⟨(Nat.zero_le _), (Nat.zero_le _)⟩) hS (fun locs hS => ?_)
  refine lv_if_ne (tgt := 11) hx hb dX8_ended_6 (by decide) (fun c6 => ?_) (fun c6 => ?_)
  · have b6 := b2_n c6
    refine lv_iload_n hx hb dX8_ended_11 rfl (lv_at hl 1 rfl) ?_
    refine lv_iconst (v := 0) hx hb dX8_ended_12 (by decide) ?_
    refine lv_aload_n hx hb dX8_ended_13 rfl (lv_at hl 0 rfl) ?_
    refine k_get (C := RX8) (T := TX8) (N := 22) (v := .int (σ 16 0)) hx hb hts hiX8 hown hK.1 hM.1 rfl 16 (by decide) (hts (.fieldLink RX8 82 "HouseWorkersModel" "ends" "I") (by decide +kernel)) (fun _ h9 => h9) rfl dX8_ended_14 ?_
    refine lv_iconst (v := 1) hx hb dX8_ended_17 (by decide) ?_
    refine lv_isub hx hb dX8_ended_18 ?_
    refine k_callpi (v := b2 (inB x 0 ((σ 16 0) - 1))) (va_runS (As := [.int x, .int 0, .int ((σ 16 0) - 1)]) (rest := []) ⟨hx, hb, hml, hown, hts⟩ (c_X8_in l _ x 0 ((σ 16 0) - 1)) (va_cwS 3 hts gX8_ended_X8_in rfl rfl rfl (by decide +kernel) ⟨Nat.le_of_ble_eq_true rfl, Nat.le_of_ble_eq_true rfl⟩) (k_preS hK) rfl rfl hl.1 rfl (lv_room (Nat.le_of_ble_eq_true rfl)) dX8_ended_19 ⟨(Nat.zero_le _), (Nat.zero_le _)⟩) hS (fun locs hS => ?_)
    refine lv_if_ne (tgt := 28) hx hb dX8_ended_22 (by decide) (fun c22 => ?_) (fun c22 => ?_)
    · have b22 := b2_n c22
      have hin := b22
      rw [hI.2.2.1] at hin
      have heW := hI.eW
      have hn30 := hI.2.2.2.1
      obtain ⟨j, hjW, hxj⟩ := inB_idx (by omega) hin
      subst hxj
      refine lv_iload_n hx hb dX8_ended_28 rfl (lv_at hl 2 rfl) ?_
      refine lv_if_ne (tgt := 41) hx hb dX8_ended_29 (by decide) (fun c29 => ?_) (fun c29 => ?_)
      · refine lv_iload_n hx hb dX8_ended_41 rfl (lv_at hl 2 rfl) ?_
        refine lv_iconst (v := 1) hx hb dX8_ended_42 (by decide) ?_
        refine lv_icmp_ne (tgt := 55) hx hb dX8_ended_43 (by decide) (fun c43 => ?_) (fun c43 => ?_)
        · refine lv_aload_n hx hb dX8_ended_55 rfl (lv_at hl 0 rfl) ?_
          refine k_get (C := RX8) (T := TX8) (N := 22) (v := .ref (ad 19)) hx hb hts hiX8 hown hK.1 hM.1 rfl 19 (by decide) (hts (.fieldLink RX8 60 "HouseWorkersModel" "endWhen" "[I") (by decide +kernel)) (fun _ h9 => h9) rfl dX8_ended_56 ?_
          refine lv_iload_n hx hb dX8_ended_59 rfl (lv_at hl 1 rfl) ?_
          refine k_iald (n := 30) (f := (σ 19)) hx hb hK.1 0 (hM.2.1 19 rfl) rfl j rfl (by omega) (by decide) dX8_ended_60 ?_
          exact k_reti hx hb hr hlocks ⟨by unfold mEnd; rw [if_pos b6, if_pos b22, nat_nI (by omega), if_neg c29, if_neg c43], rfl⟩ hS dX8_ended_61
        · refine lv_aload_n hx hb dX8_ended_46 rfl (lv_at hl 0 rfl) ?_
          refine k_get (C := RX8) (T := TX8) (N := 22) (v := .ref (ad 18)) hx hb hts hiX8 hown hK.1 hM.1 rfl 18 (by decide) (hts (.fieldLink RX8 57 "HouseWorkersModel" "endHow" "[I") (by decide +kernel)) (fun _ h9 => h9) rfl dX8_ended_47 ?_
          refine lv_iload_n hx hb dX8_ended_50 rfl (lv_at hl 1 rfl) ?_
          refine k_iald (n := 30) (f := (σ 18)) hx hb hK.1 0 (hM.2.1 18 rfl) rfl j rfl (by omega) (by decide) dX8_ended_51 ?_
          refine lv_goto (tgt := 61) hx hb dX8_ended_52 (by decide) ?_
          exact k_reti hx hb hr hlocks ⟨by unfold mEnd; rw [if_pos b6, if_pos b22, nat_nI (by omega), if_neg c29, if_pos c43], rfl⟩ hS dX8_ended_61
      · refine lv_aload_n hx hb dX8_ended_32 rfl (lv_at hl 0 rfl) ?_
        refine k_get (C := RX8) (T := TX8) (N := 22) (v := .ref (ad 17)) hx hb hts hiX8 hown hK.1 hM.1 rfl 17 (by decide) (hts (.fieldLink RX8 54 "HouseWorkersModel" "endWho" "[I") (by decide +kernel)) (fun _ h9 => h9) rfl dX8_ended_33 ?_
        refine lv_iload_n hx hb dX8_ended_36 rfl (lv_at hl 1 rfl) ?_
        refine k_iald (n := 30) (f := (σ 17)) hx hb hK.1 0 (hM.2.1 17 rfl) rfl j rfl (by omega) (by decide) dX8_ended_37 ?_
        refine lv_goto (tgt := 61) hx hb dX8_ended_38 (by decide) ?_
        exact k_reti hx hb hr hlocks ⟨by unfold mEnd; rw [if_pos b6, if_pos b22, nat_nI (by omega), if_pos c29], rfl⟩ hS dX8_ended_61
    · have b22 := b2_0 c22
      refine lv_bipush (v := -2) hx hb dX8_ended_25 (by decide) ?_
      exact k_reti hx hb hr hlocks ⟨by unfold mEnd; rw [if_pos b6, if_neg (by rw [b22]; decide)], rfl⟩ hS dX8_ended_27
  · have b6 := b2_0 c6
    refine lv_iconst (v := -1) hx hb dX8_ended_9 (by decide) ?_
    exact k_reti hx hb hr hlocks ⟨by unfold mEnd; rw [if_neg (by rw [b6]; decide)], rfl⟩ hS dX8_ended_10
set_option maxHeartbeats 4000000 in
set_option maxRecDepth 100000 in
theorem c_X8_cell (l : Launch) {D : va_G} {cI cZ cO : ClassId} {mi : Nat} (H : Heap) (m0 : Nat) (ad : Nat → Nat) (σ : Sg) (nW nV nE : Nat) (v cl : Int32) (hM : MD D cI cZ m0 ad σ H) (hI : Inv σ nW nV nE) : Met l yX8_cell wsX8_cell ({ frames := 3, cells := 0, slots := 0, locals := 68 }) (Pk D cI cZ cO mi [.ref m0, .int v, .int cl] H) (Qpi H (mCel σ nW v cl)) 0 0 (fun _ => False) := by
  refine Met.ofW (cc := cX8_cell) (maxL := 3) (ret := (some .int)) (by decide) rfl ?_
  intro p e s m args below meth c s₁ B hml hv
  obtain ⟨rfl, rfl, hK⟩ := hv
  have hx := B.exec
  have hb := B.bytes
  have hr := B.returns
  have hts := atoms_spec (ws := wsX8_cell) B.pre
  have hown : s.vm.findClass RX8 = some m.cls := findClass_of_methodNamed B.named
  have hlocks := B.notSynchronized
  have hS : va_S (fun _ => False) s.heap s.heap [] := va_S.rf
  have hl := lv_entry ([.ref m0, .int v, .int cl]) (n := 3) (Nat.le_of_ble_eq_true rfl)
  rw [lg_entry_eq]
  generalize (lg_sl ([.ref m0, .int v, .int cl]) ++ List.replicate (3 - (lg_sl ([.ref m0, .int v, .int cl])).length) Slot.unset).toArray = ls at hl ⊢
  have hl : lv_has ls 3 [(0, .ref m0), (1, .int v), (2, .int cl)] := hl
  have hiX8 : ∀ w ∈ wsX80, w ∈ wsX8_cell := by decide +kernel
  refine lv_iload_n hx hb dX8_cell_0 rfl (lv_at hl 2 rfl) ?_
  refine lv_iconst (v := 0) hx hb dX8_cell_1 (by decide) ?_
  refine lv_bipush (v := 15) hx hb dX8_cell_2 (by decide) ?_
  refine k_callpi (v := b2 (inB cl 0 15)) (va_runS (As := [.int cl, .int 0, .int 15]) (rest := []) ⟨hx, hb, hml, hown, hts⟩ (c_X8_in l _ cl 0 15) (va_cwS 3 hts gX8_cell_X8_in rfl rfl rfl (by decide +kernel) ⟨Nat.le_of_ble_eq_true rfl, Nat.le_of_ble_eq_true rfl⟩) (k_preS hK) rfl rfl hl.1 rfl (lv_room (Nat.le_of_ble_eq_true rfl)) dX8_cell_4 ⟨(Nat.zero_le _), (Nat.zero_le _)⟩) hS (fun locs hS => ?_)
  refine lv_if_eq (tgt := 24) hx hb dX8_cell_7 (by decide) (fun c7 => ?_) (fun c7 => ?_)
  · have b7 := b2_0 c7
    refine lv_iconst (v := -1) hx hb dX8_cell_24 (by decide) ?_
    exact k_reti hx hb hr hlocks ⟨by unfold mCel; rw [if_neg (fun q => absurd (q.1.symm.trans b7) (by decide))], rfl⟩ hS dX8_cell_25
  · have b7 := b2_n c7
    refine lv_iload_n hx hb dX8_cell_10 rfl (lv_at hl 1 rfl) ?_
    refine lv_iconst (v := 0) hx hb dX8_cell_11 (by decide) ?_
    refine lv_aload_n hx hb dX8_cell_12 rfl (lv_at hl 0 rfl) ?_
    refine k_get (C := RX8) (T := TX8) (N := 22) (v := .int (σ 1 0)) hx hb hts hiX8 hown hK.1 hM.1 rfl 1 (by decide) (hts (.fieldLink RX8 13 "HouseWorkersModel" "versions" "I") (by decide +kernel)) (fun _ h9 => h9) rfl dX8_cell_13 ?_
    refine lv_iconst (v := 1) hx hb dX8_cell_16 (by decide) ?_
    refine lv_isub hx hb dX8_cell_17 ?_
    refine k_callpi (v := b2 (inB v 0 ((σ 1 0) - 1))) (va_runS (As := [.int v, .int 0, .int ((σ 1 0) - 1)]) (rest := []) ⟨hx, hb, hml, hown, hts⟩ (c_X8_in l _ v 0 ((σ 1 0) - 1)) (va_cwS 3 hts gX8_cell_X8_in rfl rfl rfl (by decide +kernel) ⟨Nat.le_of_ble_eq_true rfl, Nat.le_of_ble_eq_true rfl⟩) (k_preS hK) rfl rfl hl.1 rfl (lv_room (Nat.le_of_ble_eq_true rfl)) dX8_cell_18 ⟨(Nat.zero_le _), (Nat.zero_le _)⟩) hS (fun locs hS => ?_)
    refine lv_if_ne (tgt := 26) hx hb dX8_cell_21 (by decide) (fun c21 => ?_) (fun c21 => ?_)
    · have b21 := b2_n c21
      refine lv_aload_n hx hb dX8_cell_26 rfl (lv_at hl 0 rfl) ?_
      refine lv_iload_n hx hb dX8_cell_27 rfl (lv_at hl 1 rfl) ?_
      refine k_callpi (v := b2 (kept σ v nW)) (va_runV (As := [.int v]) (rest := []) ⟨hx, hb, hml, hown, hts⟩ (c_X8_isKept l _ m0 ad σ nW v hM hI.1 hI.2.2.2.1) (cwV 1 hts gX8_cell_X8_isKept rfl rfl rfl (by decide +kernel) ⟨Nat.le_of_ble_eq_true rfl, Nat.le_of_ble_eq_true rfl⟩) (k_preV hK (k_recv hK.1 hM.1 rfl)) rfl rfl hl.1 rfl (lv_room (Nat.le_of_ble_eq_true rfl)) dX8_cell_28 ⟨(Nat.zero_le _), (Nat.zero_le _)⟩) hS (fun locs hS => ?_)
      refine lv_if_eq (tgt := 48) hx hb dX8_cell_31 (by decide) (fun c31 => ?_) (fun c31 => ?_)
      · have b31 := b2_0 c31
        refine lv_bipush (v := -2) hx hb dX8_cell_48 (by decide) ?_
        exact k_reti hx hb hr hlocks ⟨by unfold mCel; rw [if_pos ⟨b7, b21⟩, if_neg (by rw [b31]; decide)], rfl⟩ hS dX8_cell_50
      · have b31 := b2_n c31
        have hin := b21
        rw [hI.2.1] at hin
        have heW := hI.eW
        have hn30 := hI.2.2.2.1
        have hvE := hI.2.2.2.2.2.1
        obtain ⟨zv, hzvW, hzv⟩ := inB_idx (by omega) hin
        obtain ⟨zc, hzcW, hzc⟩ := inB_c (n := 15) rfl rfl (by decide) b7
        refine lv_aload_n hx hb dX8_cell_34 rfl (lv_at hl 0 rfl) ?_
        refine k_get (C := RX8) (T := TX8) (N := 22) (v := .ref (ad 0)) hx hb hts hiX8 hown hK.1 hM.1 rfl 0 (by decide) (hts (.fieldLink RX8 7 "HouseWorkersModel" "cells" "[I") (by decide +kernel)) (fun _ h9 => h9) rfl dX8_cell_35 ?_
        refine lv_bipush (v := 16) hx hb dX8_cell_38 (by decide) ?_
        refine lv_iload_n hx hb dX8_cell_40 rfl (lv_at hl 1 rfl) ?_
        refine lv_imul hx hb dX8_cell_41 ?_
        refine lv_iload_n hx hb dX8_cell_42 rfl (lv_at hl 2 rfl) ?_
        refine lv_iadd hx hb dX8_cell_43 ?_
        refine k_iald (n := 640) (f := (σ 0)) hx hb hK.1 0 (hM.2.1 0 rfl) rfl (16 * nat v + nat cl) (by rw [hzv, hzc, nat_nI (by omega), nat_nI (by omega)]; exact ix16 _ _) (by rw [hzv, hzc, nat_nI (by omega), nat_nI (by omega)]; omega) (by decide) dX8_cell_44 ?_
        refine lv_goto (tgt := 50) hx hb dX8_cell_45 (by decide) ?_
        exact k_reti hx hb hr hlocks ⟨by unfold mCel; rw [if_pos ⟨b7, b21⟩, if_pos b31], rfl⟩ hS dX8_cell_50
    · have b21 := b2_0 c21
      refine lv_iconst (v := -1) hx hb dX8_cell_24 (by decide) ?_
      exact k_reti hx hb hr hlocks ⟨by unfold mCel; rw [if_neg (fun q => absurd (q.2.symm.trans b21) (by decide))], rfl⟩ hS dX8_cell_25
set_option maxHeartbeats 4000000 in
set_option maxRecDepth 100000 in
theorem c_X8_count (l : Launch) {D : va_G} {cI cZ cO : ClassId} {mi : Nat} (H : Heap) (m0 : Nat) (ad : Nat → Nat) (σ : Sg) (nW nV nE : Nat) (what : Int32) (hM : MD D cI cZ m0 ad σ H) (hI : Inv σ nW nV nE) : Met l yX8_count wsX8_count ({ frames := 3, cells := 0, slots := 0, locals := 68 }) (Pk D cI cZ cO mi [.ref m0, .int what] H) (Qpi H (mCnt σ nW nV what)) 0 0 (fun _ => False) := by
  refine Met.ofW (cc := cX8_count) (maxL := 4) (ret := (some .int)) (by decide) rfl ?_
  intro p e s m args below meth c s₁ B hml hv
  obtain ⟨rfl, rfl, hK⟩ := hv
  have hx := B.exec
  have hb := B.bytes
  have hr := B.returns
  have hts := atoms_spec (ws := wsX8_count) B.pre
  have hown : s.vm.findClass RX8 = some m.cls := findClass_of_methodNamed B.named
  have hlocks := B.notSynchronized
  have hS : va_S (fun _ => False) s.heap s.heap [] := va_S.rf
  have hl := lv_entry ([.ref m0, .int what]) (n := 4) (Nat.le_of_ble_eq_true rfl)
  rw [lg_entry_eq]
  generalize (lg_sl ([.ref m0, .int what]) ++ List.replicate (4 - (lg_sl ([.ref m0, .int what])).length) Slot.unset).toArray = ls at hl ⊢
  have hl : lv_has ls 4 [(0, .ref m0), (1, .int what)] := hl
  have hiX8 : ∀ w ∈ wsX80, w ∈ wsX8_count := by decide +kernel
  have hn30 := hI.2.2.2.1
  have heW := hI.eW
  have hvE := hI.2.2.2.2.2.1
  refine lv_iconst (v := 0) hx hb dX8_count_0 (by decide) ?_
  refine lv_istore_n (lv' := [(2, .int 0), (0, .ref m0), (1, .int what)]) hx hb dX8_count_1 rfl hl (by decide) rfl (fun ls hl => ?_)
  refine lv_iload_n hx hb dX8_count_2 rfl (lv_at hl 2 rfl) ?_
  by_cases k0 : what = 0
  · refine lv_tableIn (off := 37) (tgt := 40) hx hb dX8_count_3 (by rw [k0]; decide) (by rw [k0]; decide) (by rw [k0]; decide) (by decide) ?_
    refine lv_aload_n hx hb dX8_count_40 rfl (lv_at hl 1 rfl) ?_
    refine k_get (C := RX8) (T := TX8) (N := 22) (v := .int (σ 1 0)) hx hb hts hiX8 hown hK.1 hM.1 rfl 1 (by decide) (hts (.fieldLink RX8 13 "HouseWorkersModel" "versions" "I") (by decide +kernel)) (fun _ h9 => h9) rfl dX8_count_41 ?_
    exact k_reti hx hb hr hlocks ⟨by unfold mCnt; rw [if_pos k0], rfl⟩ hS dX8_count_44
  by_cases k1 : what = 1
  · refine lv_tableIn (off := 42) (tgt := 45) hx hb dX8_count_3 (by rw [k1]; decide) (by rw [k1]; decide) (by rw [k1]; decide) (by decide) ?_
    refine lv_iconst (v := 0) hx hb dX8_count_45 (by decide) ?_
    refine lv_istore_n (lv' := [(3, .int 0), (2, .int 0), (0, .ref m0), (1, .int what)]) hx hb dX8_count_46 rfl hl (by decide) rfl (fun ls hl => ?_)
    generalize ([] : List Loc) = locs at hS ⊢
    have loop : ∀ (n : Nat), ∀ (i : Nat), i ≤ nV → nV + 1 ≤ i + n → ∀ (locs : List Loc), va_S (fun _ => False) s.heap s.heap locs → ∀ ls : Array Slot, lv_has ls 4 [(3, .int (nI i)), (2, .int (nI (cntF (fun v => kept σ (nI v) nW) i))), (0, .ref m0), (1, .int what)] → W p l e (headSpec wsX8_count ({ frames := 3, cells := 0, slots := 0, locals := 68 })).room s m ([.ref m0, .int what] : List Value).toArray below meth c s.heap locs 0 0 (MQ below (Qpi s.heap (mCnt σ nW nV what)) ([.ref m0, .int what] : List Value).toArray s 0 0 (fun _ => False)) (F0 m 47 ls []) := by
      intro n
      induction n with
      | zero => intro i h1 h2; exact absurd h2 (by omega)
      | succ n ih =>
        intro i hi hn2 locs hS ls hl
        refine lv_iload_n hx hb dX8_count_47 rfl (lv_at hl 0 rfl) ?_
        refine lv_aload_n hx hb dX8_count_48 rfl (lv_at hl 2 rfl) ?_
        refine k_get (C := RX8) (T := TX8) (N := 22) (v := .int (σ 1 0)) hx hb hts hiX8 hown hK.1 hM.1 rfl 1 (by decide) (hts (.fieldLink RX8 13 "HouseWorkersModel" "versions" "I") (by decide +kernel)) (fun _ h9 => h9) rfl dX8_count_49 ?_
        refine lv_icmp_ge (tgt := 77) hx hb dX8_count_52 (by decide) (fun c52 => ?_) (fun c52 => ?_)
        · have c52 := Int32.not_lt.mpr c52
          rw [hI.2.1] at c52
          have hij : i = nV := Nat.le_antisymm (by omega) (Nat.le_of_not_lt (fun q => c52 (nI_lt q (by omega))))
          subst hij
          refine lv_iload_n hx hb dX8_count_77 rfl (lv_at hl 1 rfl) ?_
          exact k_reti hx hb hr hlocks ⟨by unfold mCnt; rw [if_neg k0, if_pos k1], rfl⟩ hS dX8_count_78
        · have c52 := Int32.not_le.mp c52
          rw [hI.2.1] at c52
          have hlt : i < nV := (nI_ltI (by omega) (by omega)).mp c52
          refine lv_iload_n hx hb dX8_count_55 rfl (lv_at hl 1 rfl) ?_
          refine lv_aload_n hx hb dX8_count_56 rfl (lv_at hl 2 rfl) ?_
          refine lv_iload_n hx hb dX8_count_57 rfl (lv_at hl 0 rfl) ?_
          refine k_callpi (v := b2 (kept σ (nI i) nW)) (va_runV (As := [.int (nI i)]) (rest := [.int (nI (cntF (fun v => kept σ (nI v) nW) i))]) ⟨hx, hb, hml, hown, hts⟩ (c_X8_isKept l _ m0 ad σ nW (nI i) hM hI.1 hI.2.2.2.1) (cwV 1 hts gX8_count_X8_isKept rfl rfl rfl (by decide +kernel) ⟨Nat.le_of_ble_eq_true rfl, Nat.le_of_ble_eq_true rfl⟩) (k_preV hK (k_recv hK.1 hM.1 rfl)) rfl rfl hl.1 rfl (lv_room (Nat.le_of_ble_eq_true rfl)) dX8_count_58 ⟨(Nat.zero_le _), (Nat.zero_le _)⟩) hS (fun locs hS => ?_)
          refine lv_if_eq (tgt := 68) hx hb dX8_count_61 (by decide) (fun c61 => ?_) (fun c61 => ?_)
          · refine lv_iconst (v := 0) hx hb dX8_count_68 (by decide) ?_
            refine lv_iadd hx hb dX8_count_69 ?_
            refine lv_istore_n (lv' := [(2, .int ((nI (cntF (fun v => kept σ (nI v) nW) i)) + 0)), (3, .int (nI i)), (0, .ref m0), (1, .int what)]) hx hb dX8_count_70 rfl hl (by decide) rfl (fun ls hl => ?_)
            refine lv_iinc (v := nI (i + 1)) (lv' := [(3, .int (nI (i + 1))), (2, .int ((nI (cntF (fun v => kept σ (nI v) nW) i)) + 0)), (0, .ref m0), (1, .int what)]) hx hb dX8_count_71 hl (k := 1) rfl (by rw [← nI_1]; rfl) (by decide) rfl (fun ls hl => ?_)
            refine lv_goto (tgt := 47) hx hb dX8_count_74 (by decide) ?_
            exact ih (i + 1) (by omega) (by omega) locs hS ls (by rw [cntF_s0 (f := (fun v => kept σ (nI v) nW)) (b2_0 c61)] at hl; exact lv_sub hl [0, 1, 2, 3] rfl)
          · refine lv_iconst (v := 1) hx hb dX8_count_64 (by decide) ?_
            refine lv_goto (tgt := 69) hx hb dX8_count_65 (by decide) ?_
            refine lv_iadd hx hb dX8_count_69 ?_
            refine lv_istore_n (lv' := [(2, .int ((nI (cntF (fun v => kept σ (nI v) nW) i)) + 1)), (3, .int (nI i)), (0, .ref m0), (1, .int what)]) hx hb dX8_count_70 rfl hl (by decide) rfl (fun ls hl => ?_)
            refine lv_iinc (v := nI (i + 1)) (lv' := [(3, .int (nI (i + 1))), (2, .int ((nI (cntF (fun v => kept σ (nI v) nW) i)) + 1)), (0, .ref m0), (1, .int what)]) hx hb dX8_count_71 hl (k := 1) rfl (by rw [← nI_1]; rfl) (by decide) rfl (fun ls hl => ?_)
            refine lv_goto (tgt := 47) hx hb dX8_count_74 (by decide) ?_
            exact ih (i + 1) (by omega) (by omega) locs hS ls (by rw [cntF_s1 (f := (fun v => kept σ (nI v) nW)) (b2_n c61)] at hl; exact lv_sub hl [0, 1, 2, 3] rfl)
    exact loop (nV + 1) 0 (Nat.zero_le _) (by omega) locs hS ls (lv_sub hl [0, 1, 2, 3] rfl)
  by_cases k2 : what = 2
  · refine lv_tableIn (off := 76) (tgt := 79) hx hb dX8_count_3 (by rw [k2]; decide) (by rw [k2]; decide) (by rw [k2]; decide) (by decide) ?_
    refine lv_iconst (v := 0) hx hb dX8_count_79 (by decide) ?_
    refine lv_istore_n (lv' := [(3, .int 0), (2, .int 0), (0, .ref m0), (1, .int what)]) hx hb dX8_count_80 rfl hl (by decide) rfl (fun ls hl => ?_)
    generalize ([] : List Loc) = locs at hS ⊢
    have loop : ∀ (n : Nat), ∀ (i : Nat), i ≤ nV → nV + 1 ≤ i + n → ∀ (locs : List Loc), va_S (fun _ => False) s.heap s.heap locs → ∀ ls : Array Slot, lv_has ls 4 [(3, .int (nI i)), (2, .int (nI (cntF (fun v => ipF σ (nI v) nW) i))), (0, .ref m0), (1, .int what)] → W p l e (headSpec wsX8_count ({ frames := 3, cells := 0, slots := 0, locals := 68 })).room s m ([.ref m0, .int what] : List Value).toArray below meth c s.heap locs 0 0 (MQ below (Qpi s.heap (mCnt σ nW nV what)) ([.ref m0, .int what] : List Value).toArray s 0 0 (fun _ => False)) (F0 m 81 ls []) := by
      intro n
      induction n with
      | zero => intro i h1 h2; exact absurd h2 (by omega)
      | succ n ih =>
        intro i hi hn2 locs hS ls hl
        refine lv_iload_n hx hb dX8_count_81 rfl (lv_at hl 0 rfl) ?_
        refine lv_aload_n hx hb dX8_count_82 rfl (lv_at hl 2 rfl) ?_
        refine k_get (C := RX8) (T := TX8) (N := 22) (v := .int (σ 1 0)) hx hb hts hiX8 hown hK.1 hM.1 rfl 1 (by decide) (hts (.fieldLink RX8 13 "HouseWorkersModel" "versions" "I") (by decide +kernel)) (fun _ h9 => h9) rfl dX8_count_83 ?_
        refine lv_icmp_ge (tgt := 111) hx hb dX8_count_86 (by decide) (fun c86 => ?_) (fun c86 => ?_)
        · have c86 := Int32.not_lt.mpr c86
          rw [hI.2.1] at c86
          have hij : i = nV := Nat.le_antisymm (by omega) (Nat.le_of_not_lt (fun q => c86 (nI_lt q (by omega))))
          subst hij
          refine lv_iload_n hx hb dX8_count_111 rfl (lv_at hl 1 rfl) ?_
          exact k_reti hx hb hr hlocks ⟨by unfold mCnt; rw [if_neg k0, if_neg k1, if_pos k2], rfl⟩ hS dX8_count_112
        · have c86 := Int32.not_le.mp c86
          rw [hI.2.1] at c86
          have hlt : i < nV := (nI_ltI (by omega) (by omega)).mp c86
          refine lv_iload_n hx hb dX8_count_89 rfl (lv_at hl 1 rfl) ?_
          refine lv_aload_n hx hb dX8_count_90 rfl (lv_at hl 2 rfl) ?_
          refine lv_iload_n hx hb dX8_count_91 rfl (lv_at hl 0 rfl) ?_
          refine k_callpi (v := b2 (ipF σ (nI i) nW)) (va_runV (As := [.int (nI i)]) (rest := [.int (nI (cntF (fun v => ipF σ (nI v) nW) i))]) ⟨hx, hb, hml, hown, hts⟩ (c_X8_isPinned l _ m0 ad σ nW (nI i) hM hI.1 hI.2.2.2.1) (cwV 1 hts gX8_count_X8_isPinned rfl rfl rfl (by decide +kernel) ⟨Nat.le_of_ble_eq_true rfl, Nat.le_of_ble_eq_true rfl⟩) (k_preV hK (k_recv hK.1 hM.1 rfl)) rfl rfl hl.1 rfl (lv_room (Nat.le_of_ble_eq_true rfl)) dX8_count_92 ⟨(Nat.zero_le _), (Nat.zero_le _)⟩) hS (fun locs hS => ?_)
          refine lv_if_eq (tgt := 102) hx hb dX8_count_95 (by decide) (fun c95 => ?_) (fun c95 => ?_)
          · refine lv_iconst (v := 0) hx hb dX8_count_102 (by decide) ?_
            refine lv_iadd hx hb dX8_count_103 ?_
            refine lv_istore_n (lv' := [(2, .int ((nI (cntF (fun v => ipF σ (nI v) nW) i)) + 0)), (3, .int (nI i)), (0, .ref m0), (1, .int what)]) hx hb dX8_count_104 rfl hl (by decide) rfl (fun ls hl => ?_)
            refine lv_iinc (v := nI (i + 1)) (lv' := [(3, .int (nI (i + 1))), (2, .int ((nI (cntF (fun v => ipF σ (nI v) nW) i)) + 0)), (0, .ref m0), (1, .int what)]) hx hb dX8_count_105 hl (k := 1) rfl (by rw [← nI_1]; rfl) (by decide) rfl (fun ls hl => ?_)
            refine lv_goto (tgt := 81) hx hb dX8_count_108 (by decide) ?_
            exact ih (i + 1) (by omega) (by omega) locs hS ls (by rw [cntF_s0 (f := (fun v => ipF σ (nI v) nW)) (b2_0 c95)] at hl; exact lv_sub hl [0, 1, 2, 3] rfl)
          · refine lv_iconst (v := 1) hx hb dX8_count_98 (by decide) ?_
            refine lv_goto (tgt := 103) hx hb dX8_count_99 (by decide) ?_
            refine lv_iadd hx hb dX8_count_103 ?_
            refine lv_istore_n (lv' := [(2, .int ((nI (cntF (fun v => ipF σ (nI v) nW) i)) + 1)), (3, .int (nI i)), (0, .ref m0), (1, .int what)]) hx hb dX8_count_104 rfl hl (by decide) rfl (fun ls hl => ?_)
            refine lv_iinc (v := nI (i + 1)) (lv' := [(3, .int (nI (i + 1))), (2, .int ((nI (cntF (fun v => ipF σ (nI v) nW) i)) + 1)), (0, .ref m0), (1, .int what)]) hx hb dX8_count_105 hl (k := 1) rfl (by rw [← nI_1]; rfl) (by decide) rfl (fun ls hl => ?_)
            refine lv_goto (tgt := 81) hx hb dX8_count_108 (by decide) ?_
            exact ih (i + 1) (by omega) (by omega) locs hS ls (by rw [cntF_s1 (f := (fun v => ipF σ (nI v) nW)) (b2_n c95)] at hl; exact lv_sub hl [0, 1, 2, 3] rfl)
    exact loop (nV + 1) 0 (Nat.zero_le _) (by omega) locs hS ls (lv_sub hl [0, 1, 2, 3] rfl)
  by_cases k3 : what = 3
  · refine lv_tableIn (off := 110) (tgt := 113) hx hb dX8_count_3 (by rw [k3]; decide) (by rw [k3]; decide) (by rw [k3]; decide) (by decide) ?_
    refine lv_aload_n hx hb dX8_count_113 rfl (lv_at hl 1 rfl) ?_
    refine k_get (C := RX8) (T := TX8) (N := 22) (v := .int (σ 20 0)) hx hb hts hiX8 hown hK.1 hM.1 rfl 20 (by decide) (hts (.fieldLink RX8 85 "HouseWorkersModel" "did" "I") (by decide +kernel)) (fun _ h9 => h9) rfl dX8_count_114 ?_
    exact k_reti hx hb hr hlocks ⟨by unfold mCnt; rw [if_neg k0, if_neg k1, if_neg k2, if_pos k3], rfl⟩ hS dX8_count_117
  by_cases k4 : what = 4
  · refine lv_tableIn (off := 115) (tgt := 118) hx hb dX8_count_3 (by rw [k4]; decide) (by rw [k4]; decide) (by rw [k4]; decide) (by decide) ?_
    refine lv_aload_n hx hb dX8_count_118 rfl (lv_at hl 1 rfl) ?_
    refine k_get (C := RX8) (T := TX8) (N := 22) (v := .int (σ 21 0)) hx hb hts hiX8 hown hK.1 hM.1 rfl 21 (by decide) (hts (.fieldLink RX8 95 "HouseWorkersModel" "didNothing" "I") (by decide +kernel)) (fun _ h9 => h9) rfl dX8_count_119 ?_
    exact k_reti hx hb hr hlocks ⟨by unfold mCnt; rw [if_neg k0, if_neg k1, if_neg k2, if_neg k3, if_pos k4], rfl⟩ hS dX8_count_122
  by_cases k5 : what = 5
  · refine lv_tableIn (off := 120) (tgt := 123) hx hb dX8_count_3 (by rw [k5]; decide) (by rw [k5]; decide) (by rw [k5]; decide) (by decide) ?_
    refine lv_iconst (v := 0) hx hb dX8_count_123 (by decide) ?_
    refine lv_istore_n (lv' := [(3, .int 0), (2, .int 0), (0, .ref m0), (1, .int what)]) hx hb dX8_count_124 rfl hl (by decide) rfl (fun ls hl => ?_)
    generalize ([] : List Loc) = locs at hS ⊢
    have loop : ∀ (n : Nat), ∀ (i : Nat), i ≤ nW → nW + 1 ≤ i + n → ∀ (locs : List Loc), va_S (fun _ => False) s.heap s.heap locs → ∀ ls : Array Slot, lv_has ls 4 [(3, .int (nI i)), (2, .int (nI (cntF (fun w => decide (σ 12 w = 0)) i))), (0, .ref m0), (1, .int what)] → W p l e (headSpec wsX8_count ({ frames := 3, cells := 0, slots := 0, locals := 68 })).room s m ([.ref m0, .int what] : List Value).toArray below meth c s.heap locs 0 0 (MQ below (Qpi s.heap (mCnt σ nW nV what)) ([.ref m0, .int what] : List Value).toArray s 0 0 (fun _ => False)) (F0 m 125 ls []) := by
      intro n
      induction n with
      | zero => intro i h1 h2; exact absurd h2 (by omega)
      | succ n ih =>
        intro i hi hn2 locs hS ls hl
        refine lv_iload_n hx hb dX8_count_125 rfl (lv_at hl 0 rfl) ?_
        refine lv_aload_n hx hb dX8_count_126 rfl (lv_at hl 2 rfl) ?_
        refine k_get (C := RX8) (T := TX8) (N := 22) (v := .int (σ 3 0)) hx hb hts hiX8 hown hK.1 hM.1 rfl 3 (by decide) (hts (.fieldLink RX8 67 "HouseWorkersModel" "workers" "I") (by decide +kernel)) (fun _ h9 => h9) rfl dX8_count_127 ?_
        refine lv_icmp_ge (tgt := 156) hx hb dX8_count_130 (by decide) (fun c130 => ?_) (fun c130 => ?_)
        · have c130 := Int32.not_lt.mpr c130
          rw [hI.1] at c130
          have hij : i = nW := Nat.le_antisymm (by omega) (Nat.le_of_not_lt (fun q => c130 (nI_lt q (by omega))))
          subst hij
          refine lv_iload_n hx hb dX8_count_156 rfl (lv_at hl 1 rfl) ?_
          exact k_reti hx hb hr hlocks ⟨by unfold mCnt; rw [if_neg k0, if_neg k1, if_neg k2, if_neg k3, if_neg k4, if_pos k5], rfl⟩ hS dX8_count_157
        · have c130 := Int32.not_le.mp c130
          rw [hI.1] at c130
          have hlt : i < nW := (nI_ltI (by omega) (by omega)).mp c130
          refine lv_iload_n hx hb dX8_count_133 rfl (lv_at hl 1 rfl) ?_
          refine lv_aload_n hx hb dX8_count_134 rfl (lv_at hl 2 rfl) ?_
          refine k_get (C := RX8) (T := TX8) (N := 22) (v := .ref (ad 12)) hx hb hts hiX8 hown hK.1 hM.1 rfl 12 (by decide) (hts (.fieldLink RX8 41 "HouseWorkersModel" "end" "[I") (by decide +kernel)) (fun _ h9 => h9) rfl dX8_count_135 ?_
          refine lv_iload_n hx hb dX8_count_138 rfl (lv_at hl 0 rfl) ?_
          refine k_iald (n := 30) (f := (σ 12)) hx hb hK.1 0 (hM.2.1 12 rfl) rfl i rfl (by omega) (by decide) dX8_count_139 ?_
          refine lv_if_ne (tgt := 147) hx hb dX8_count_140 (by decide) (fun c140 => ?_) (fun c140 => ?_)
          · refine lv_iconst (v := 0) hx hb dX8_count_147 (by decide) ?_
            refine lv_iadd hx hb dX8_count_148 ?_
            refine lv_istore_n (lv' := [(2, .int ((nI (cntF (fun w => decide (σ 12 w = 0)) i)) + 0)), (3, .int (nI i)), (0, .ref m0), (1, .int what)]) hx hb dX8_count_149 rfl hl (by decide) rfl (fun ls hl => ?_)
            refine lv_iinc (v := nI (i + 1)) (lv' := [(3, .int (nI (i + 1))), (2, .int ((nI (cntF (fun w => decide (σ 12 w = 0)) i)) + 0)), (0, .ref m0), (1, .int what)]) hx hb dX8_count_150 hl (k := 1) rfl (by rw [← nI_1]; rfl) (by decide) rfl (fun ls hl => ?_)
            refine lv_goto (tgt := 125) hx hb dX8_count_153 (by decide) ?_
            exact ih (i + 1) (by omega) (by omega) locs hS ls (by rw [cntF_s0 (f := (fun w => decide (σ 12 w = 0))) (by simp [c140])] at hl; exact lv_sub hl [0, 1, 2, 3] rfl)
          · refine lv_iconst (v := 1) hx hb dX8_count_143 (by decide) ?_
            refine lv_goto (tgt := 148) hx hb dX8_count_144 (by decide) ?_
            refine lv_iadd hx hb dX8_count_148 ?_
            refine lv_istore_n (lv' := [(2, .int ((nI (cntF (fun w => decide (σ 12 w = 0)) i)) + 1)), (3, .int (nI i)), (0, .ref m0), (1, .int what)]) hx hb dX8_count_149 rfl hl (by decide) rfl (fun ls hl => ?_)
            refine lv_iinc (v := nI (i + 1)) (lv' := [(3, .int (nI (i + 1))), (2, .int ((nI (cntF (fun w => decide (σ 12 w = 0)) i)) + 1)), (0, .ref m0), (1, .int what)]) hx hb dX8_count_150 hl (k := 1) rfl (by rw [← nI_1]; rfl) (by decide) rfl (fun ls hl => ?_)
            refine lv_goto (tgt := 125) hx hb dX8_count_153 (by decide) ?_
            exact ih (i + 1) (by omega) (by omega) locs hS ls (by rw [cntF_s1 (f := (fun w => decide (σ 12 w = 0))) (by simp [c140])] at hl; exact lv_sub hl [0, 1, 2, 3] rfl)
    exact loop (nW + 1) 0 (Nat.zero_le _) (by omega) locs hS ls (lv_sub hl [0, 1, 2, 3] rfl)
  refine lv_tableOut (tgt := 158) hx hb dX8_count_3 (tb5 k0 k1 k2 k3 k4 k5) (by decide) ?_
  refine lv_iconst (v := -1) hx hb dX8_count_158 (by decide) ?_
  exact k_reti hx hb hr hlocks ⟨by unfold mCnt; rw [if_neg k0, if_neg k1, if_neg k2, if_neg k3, if_neg k4, if_neg k5], rfl⟩ hS dX8_count_159
