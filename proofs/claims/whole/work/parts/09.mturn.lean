/-- a worker's numbers are in their bounds -/
def WI (σ : Sg) (nV j : Nat) : Prop := ∃ st fa a dn : Nat, σ 5 j = nI st ∧ σ 6 j = nI fa ∧ σ 7 j = nI a ∧ σ 9 j = nI dn ∧ fa ≤ 30 ∧ a ≤ 15 ∧ (σ 12 j = 0 ∨ σ 12 j = 2 ∨ σ 12 j = 3 ∨ σ 12 j = 4) ∧ (σ 13 j = 0 ∨ σ 13 j = 1) ∧
  ((σ 4 j = 0 ∧ 1 ≤ st ∧ st ≤ 20 ∧ dn ≤ st ∧ (σ 12 j = 0 → dn < st) ∧ ∃ v, v < nV ∧ σ 11 j = nI v) ∨
   (σ 4 j = 1 ∧ 1 ≤ st ∧ st ≤ 20 ∧ dn ≤ st ∧ (¬ σ 12 j = 2 → σ 11 j = (-1)) ∧ (σ 12 j = 2 → ∃ v, 1 ≤ v ∧ v < nV ∧ σ 11 j = nI v)) ∨
   (σ 4 j = 2 ∧ 1 ≤ st ∧ st ≤ 20 ∧ dn ≤ st ∧ (dn = 0 → σ 11 j = (-1)) ∧ (¬ dn = 0 → ∃ v, v < nV ∧ σ 11 j = nI v)) ∨
   (σ 4 j = 3 ∧ st = 0 ∧ fa = 0 ∧ ∃ v, v < nV ∧ dn ≤ v ∧ σ 11 j = nI v))
def Inv (σ : Sg) (nW nV nE : Nat) : Prop := σ 3 0 = nI nW ∧ σ 1 0 = nI nV ∧ σ 16 0 = nI nE ∧ nW ≤ 30 ∧ 1 ≤ nV ∧ nV ≤ nE + 1 ∧ nE = cntF (fun i => decide (0 < σ 12 i)) nW ∧ (σ 2 0 = 0 ∨ σ 2 0 = 1) ∧ (∀ j, j < nW → WI σ nV j) ∧ (∀ j, nW ≤ j → σ 9 j = 0 ∧ σ 10 j = 0 ∧ σ 12 j = 0 ∧ σ 13 j = 0) ∧ (∀ i, 16 * nW ≤ i → σ 14 i = 0) ∧ ∀ i, i < nE → ∃ w, w < nW ∧ σ 17 i = nI w ∧ σ 18 i = σ 12 w ∧ 0 < σ 12 w
theorem cntF_le (f : Nat → Bool) : ∀ n, cntF f n ≤ n
  | 0 => Nat.le_refl 0
  | n + 1 => by
    have h := cntF_le f n
    rw [cntF]
    cases f n <;> simp <;> omega
theorem cntF_lt {f : Nat → Bool} {j : Nat} (h : f j = false) : ∀ n, j < n → cntF f n < n
  | 0, q => absurd q (Nat.not_lt_zero j)
  | n + 1, q => by
    rw [cntF]
    by_cases e : j = n
    · subst e
      rw [h]
      have h2 := cntF_le f j
      simp
      omega
    · have h2 := cntF_lt h n (by omega)
      cases f n <;> simp <;> omega
theorem Inv.eW {σ : Sg} {nW nV nE : Nat} (h : Inv σ nW nV nE) : nE ≤ nW := by rw [h.2.2.2.2.2.2.1]; exact cntF_le _ _
theorem Inv.lt {σ : Sg} {nW nV nE j : Nat} (h : Inv σ nW nV nE) (hj : j < nW) (h0 : ¬ 0 < σ 12 j) : nE < nW := by
  have h1 := h.2.2.2.2.2.2.1
  have h2 := cntF_lt (f := fun i => decide (0 < σ 12 i)) (j := j) (by simp [h0]) nW hj
  omega
theorem inB_idx {w : Int32} {n : Nat} (hn : n ≤ 1000) (h : inB w 0 (nI n - 1) = true) : ∃ j, j < n ∧ w = nI j := by
  unfold inB at h
  rw [Bool.and_eq_true, decide_eq_true_eq, decide_eq_true_eq] at h
  obtain ⟨h1, h2⟩ := h
  obtain ⟨j, hj, rfl⟩ := nI_of h1
  refine ⟨j, ?_, rfl⟩
  rcases n with _ | n
  · exfalso
    apply h2
    rw [show nI 0 - 1 = (-1) from by decide, Int32.lt_iff_toInt_lt, nI_toInt hj]
    have : ((-1 : Int32)).toInt = -1 := by decide
    omega
  · rw [nI_pred] at h2
    rcases Nat.lt_or_ge j (n + 1) with q | q
    · exact q
    · exact absurd (nI_lt (a := n) (b := j) (by omega) hj) h2
theorem inB_not {j n : Nat} (hj : j < n) (hn : n ≤ 1000) : inB (nI j) 0 (nI n - 1) = true := by
  unfold inB
  rcases n with _ | n
  · omega
  · rw [nI_pred, Bool.and_eq_true, decide_eq_true_eq, decide_eq_true_eq]
    exact ⟨nI_pos (by omega), nI_nlt (by omega) (by omega)⟩
theorem atN {σ : Sg} {j a d : Nat} (h7 : σ 7 j = nI a) (h9 : σ 9 j = nI d) (ha : a ≤ 15) (hd : d ≤ 31) : (σ 7 j + σ 9 j) - (σ 7 j + σ 9 j) / 16 * 16 = nI (aN σ j) := by
  unfold aN
  rw [h7, h9, nat_nI (by omega), nat_nI (by omega), nI_add]
  exact pk_rem (a := a + d) (d := 16) (by omega) (by decide) (by decide)
theorem tb_out2 {x : Int32} (h0 : ¬ x = 0) (h1 : ¬ x = 1) (h2 : ¬ x = 2) : x.toInt < 0 ∨ 2 < x.toInt := by
  have a1 : ¬ x.toInt = 0 := lv_neT h0 rfl
  have a2 : ¬ x.toInt = 1 := lv_neT h1 rfl
  have a3 : ¬ x.toInt = 2 := lv_neT h2 rfl
  omega
theorem rd_k {σ : Sg} {nv j k : Nat} (i : Nat) (h1 : k ≠ 14) (h2 : k ≠ 15) (h3 : k ≠ 11) : rd σ nv j k i = σ k i := by
  unfold rd
  rw [spr_k _ _ _ h1, bfr_k _ _ _ h2]
  unfold rdT
  split
  · rw [tk_k _ _ _ _ h1, u2_ne _ _ (fun q => h3 q.1)]
  · rfl
theorem stB_k {σ : Sg} {nv j k : Nat} (i : Nat) (h1 : k ≠ 14) (h2 : k ≠ 15) (h3 : k ≠ 11) (h4 : k ≠ 10) : stB σ nv j k i = σ k i := by
  unfold stB
  split
  · rw [u2_ne _ _ (fun q => h4 q.1)]
  · split
    · rw [u2_ne _ _ (fun q => h1 q.1)]
    · split
      · exact rd_k i h1 h2 h3
      · rw [u2_ne _ _ (fun q => h4 q.1), u2_ne _ _ (fun q => h3 q.1)]
theorem stp_k {σ : Sg} {nv j k : Nat} (i : Nat) (h1 : k ≠ 14) (h2 : k ≠ 15) (h3 : k ≠ 11) (h4 : k ≠ 10) (h5 : k ≠ 9) : stp σ nv j k i = σ k i := by
  unfold stp
  rw [u2_ne _ _ (fun q => h5 q.1), stB_k i h1 h2 h3 h4]
set_option maxHeartbeats 4000000 in
set_option maxRecDepth 100000 in
theorem c_X8_step (l : Launch) {D : va_G} {cI cZ cO : ClassId} {mi : Nat} (H : Heap) (m0 : Nat) (ad : Nat → Nat) (σ : Sg) (nv j a d : Nat) (hM : MD D cI cZ m0 ad σ H) (hj : j < 30) (hv : σ 1 0 = nI nv) (hv1 : 1 ≤ nv) (hv2 : nv ≤ 39) (h7 : σ 7 j = nI a) (ha : a ≤ 15) (h9 : σ 9 j = nI d) (hd : d ≤ 31) (hk0 : σ 4 j = 0 → ∃ v, v ≤ 38 ∧ σ 11 j = nI v) (hk3 : ¬ σ 4 j = 0 → ¬ σ 4 j = 1 → ¬ σ 4 j = 2 → ∃ v, v ≤ 38 ∧ σ 11 j = nI v) : Met l yX8_step wsX8_step ({ frames := 1, cells := 0, slots := 0, locals := 23 }) (Pk D cI cZ cO mi [.ref m0, .int (nI j)] H) (Qkv (fun H1 => MD D cI cZ m0 ad (stp σ nv j) H1) (Am m0 ad)) 0 0 (Am m0 ad) := by
  refine Met.ofW (cc := cX8_step) (maxL := 5) (ret := none) (by decide) rfl ?_
  intro p e s m args below meth c s₁ B hml hv
  obtain ⟨rfl, rfl, hK⟩ := hv
  have hx := B.exec
  have hb := B.bytes
  have hr := B.returns
  have hts := atoms_spec (ws := wsX8_step) B.pre
  have hown : s.vm.findClass RX8 = some m.cls := findClass_of_methodNamed B.named
  have hlocks := B.notSynchronized
  have hS : va_S (Am m0 ad) s.heap s.heap [] := va_S.rf
  have hl := lv_entry ([.ref m0, .int (nI j)]) (n := 5) (Nat.le_of_ble_eq_true rfl)
  rw [lg_entry_eq]
  generalize (lg_sl ([.ref m0, .int (nI j)]) ++ List.replicate (5 - (lg_sl ([.ref m0, .int (nI j)])).length) Slot.unset).toArray = ls at hl ⊢
  have hl : lv_has ls 5 [(0, .ref m0), (1, .int (nI j))] := hl
  have hiX8 : ∀ w ∈ wsX80, w ∈ wsX8_step := by decide +kernel
  refine lv_aload_n hx hb dX8_step_0 rfl (lv_at hl 0 rfl) ?_
  refine k_get (C := RX8) (T := TX8) (N := 22) (v := .ref (ad 7)) hx hb hts hiX8 hown hK.1 hM.1 rfl 7 (by decide) (hts (.fieldLink RX8 26 "HouseWorkersModel" "first" "[I") (by decide +kernel)) (fun _ h9 => h9) rfl dX8_step_1 ?_
  refine lv_iload_n hx hb dX8_step_4 rfl (lv_at hl 1 rfl) ?_
  refine k_iald (n := 30) (f := (σ 7)) hx hb hK.1 0 (hM.2.1 7 rfl) rfl j rfl (by omega) (by decide) dX8_step_5 ?_
  refine lv_aload_n hx hb dX8_step_6 rfl (lv_at hl 0 rfl) ?_
  refine k_get (C := RX8) (T := TX8) (N := 22) (v := .ref (ad 9)) hx hb hts hiX8 hown hK.1 hM.1 rfl 9 (by decide) (hts (.fieldLink RX8 32 "HouseWorkersModel" "done" "[I") (by decide +kernel)) (fun _ h9 => h9) rfl dX8_step_7 ?_
  refine lv_iload_n hx hb dX8_step_10 rfl (lv_at hl 1 rfl) ?_
  refine k_iald (n := 30) (f := (σ 9)) hx hb hK.1 0 (hM.2.1 9 rfl) rfl j rfl (by omega) (by decide) dX8_step_11 ?_
  refine lv_iadd hx hb dX8_step_12 ?_
  refine lv_bipush (v := 16) hx hb dX8_step_13 (by decide) ?_
  refine lv_irem hx hb dX8_step_15 (by decide) ?_
  rw [atN h7 h9 ha hd]
  have haN : aN σ j < 16 := Nat.mod_lt _ (by decide)
  refine lv_istore_n (lv' := [(2, .int (nI (aN σ j))), (0, .ref m0), (1, .int (nI j))]) hx hb dX8_step_16 rfl hl (by decide) rfl (fun ls hl => ?_)
  refine lv_aload_n hx hb dX8_step_17 rfl (lv_at hl 1 rfl) ?_
  refine k_get (C := RX8) (T := TX8) (N := 22) (v := .ref (ad 4)) hx hb hts hiX8 hown hK.1 hM.1 rfl 4 (by decide) (hts (.fieldLink RX8 17 "HouseWorkersModel" "kind" "[I") (by decide +kernel)) (fun _ h9 => h9) rfl dX8_step_18 ?_
  refine lv_iload_n hx hb dX8_step_21 rfl (lv_at hl 2 rfl) ?_
  refine k_iald (n := 30) (f := (σ 4)) hx hb hK.1 0 (hM.2.1 4 rfl) rfl j rfl (by omega) (by decide) dX8_step_22 ?_
  by_cases k0 : σ 4 j = 0
  · refine lv_tableIn (off := 25) (tgt := 48) hx hb dX8_step_23 (by rw [k0]; decide) (by rw [k0]; decide) (by rw [k0]; decide) (by decide) ?_
    obtain ⟨v, hvv, h11⟩ := hk0 k0
    refine lv_aload_n hx hb dX8_step_48 rfl (lv_at hl 1 rfl) ?_
    refine k_get (C := RX8) (T := TX8) (N := 22) (v := .ref (ad 10)) hx hb hts hiX8 hown hK.1 hM.1 rfl 10 (by decide) (hts (.fieldLink RX8 35 "HouseWorkersModel" "answer" "[I") (by decide +kernel)) (fun _ h9 => h9) rfl dX8_step_49 ?_
    refine lv_iload_n hx hb dX8_step_52 rfl (lv_at hl 2 rfl) ?_
    refine lv_bipush (v := 31) hx hb dX8_step_53 (by decide) ?_
    refine lv_aload_n hx hb dX8_step_55 rfl (lv_at hl 1 rfl) ?_
    refine k_get (C := RX8) (T := TX8) (N := 22) (v := .ref (ad 10)) hx hb hts hiX8 hown hK.1 hM.1 rfl 10 (by decide) (hts (.fieldLink RX8 35 "HouseWorkersModel" "answer" "[I") (by decide +kernel)) (fun _ h9 => h9) rfl dX8_step_56 ?_
    refine lv_iload_n hx hb dX8_step_59 rfl (lv_at hl 2 rfl) ?_
    refine k_iald (n := 30) (f := (σ 10)) hx hb hK.1 0 (hM.2.1 10 rfl) rfl j rfl (by omega) (by decide) dX8_step_60 ?_
    refine lv_imul hx hb dX8_step_61 ?_
    refine lv_aload_n hx hb dX8_step_62 rfl (lv_at hl 1 rfl) ?_
    refine k_get (C := RX8) (T := TX8) (N := 22) (v := .ref (ad 0)) hx hb hts hiX8 hown hK.1 hM.1 rfl 0 (by decide) (hts (.fieldLink RX8 7 "HouseWorkersModel" "cells" "[I") (by decide +kernel)) (fun _ h9 => h9) rfl dX8_step_63 ?_
    refine lv_bipush (v := 16) hx hb dX8_step_66 (by decide) ?_
    refine lv_aload_n hx hb dX8_step_68 rfl (lv_at hl 1 rfl) ?_
    refine k_get (C := RX8) (T := TX8) (N := 22) (v := .ref (ad 11)) hx hb hts hiX8 hown hK.1 hM.1 rfl 11 (by decide) (hts (.fieldLink RX8 38 "HouseWorkersModel" "version" "[I") (by decide +kernel)) (fun _ h9 => h9) rfl dX8_step_69 ?_
    refine lv_iload_n hx hb dX8_step_72 rfl (lv_at hl 2 rfl) ?_
    refine k_iald (n := 30) (f := (σ 11)) hx hb hK.1 0 (hM.2.1 11 rfl) rfl j rfl (by omega) (by decide) dX8_step_73 ?_
    refine lv_imul hx hb dX8_step_74 ?_
    refine lv_iload_n hx hb dX8_step_75 rfl (lv_at hl 0 rfl) ?_
    refine lv_iadd hx hb dX8_step_76 ?_
    refine k_iald (n := 640) (f := (σ 0)) hx hb hK.1 0 (hM.2.1 0 rfl) rfl (16 * nat (σ 11 j) + aN σ j) (by rw [h11, nat_nI (by omega)]; exact ix16 _ _) (by rw [h11, nat_nI (by omega)]; omega) (by decide) dX8_step_77 ?_
    refine lv_iadd hx hb dX8_step_78 ?_
    refine k_iast (A := (Am m0 ad)) (n := 30) (f := (σ 10)) (x := ((31 * (σ 10 j)) + (σ 0 (16 * nat (σ 11 j) + aN σ j)))) hx hb hK.1 0 (hM.2.1 10 rfl) (Am.arr 10 rfl) hS rfl j rfl (by omega) (by decide) dX8_step_79 (fun H1 locs hO2 hz3 hq4 hS => ?_)
    have hM := MD.arr 10 (i := j) (v := ((31 * (σ 10 j)) + (σ 0 (16 * nat (σ 11 j) + aN σ j)))) hM rfl hO2 hq4
    refine lv_goto (tgt := 179) hx hb dX8_step_80 (by decide) ?_
    refine lv_aload_n hx hb dX8_step_179 rfl (lv_at hl 1 rfl) ?_
    refine k_get (C := RX8) (T := TX8) (N := 22) (v := .ref (ad 9)) hx hb hts hiX8 hown hK.1 hM.1 rfl 9 (by decide) (hts (.fieldLink RX8 32 "HouseWorkersModel" "done" "[I") (by decide +kernel)) (fun _ h9 => h9) rfl dX8_step_180 ?_
    refine lv_iload_n hx hb dX8_step_183 rfl (lv_at hl 2 rfl) ?_
    refine lv_dup2_11 hx hb dX8_step_184 rfl rfl ?_
    refine k_iald (n := 30) (f := ((u2 σ 10 j ((31 * (σ 10 j)) + (σ 0 (16 * nat (σ 11 j) + aN σ j)))) 9)) hx hb hK.1 0 (hM.2.1 9 rfl) rfl j rfl (by omega) (by decide) dX8_step_185 ?_
    refine lv_iconst (v := 1) hx hb dX8_step_186 (by decide) ?_
    refine lv_iadd hx hb dX8_step_187 ?_
    refine k_iast (A := (Am m0 ad)) (n := 30) (f := ((u2 σ 10 j ((31 * (σ 10 j)) + (σ 0 (16 * nat (σ 11 j) + aN σ j)))) 9)) (x := (((u2 σ 10 j ((31 * (σ 10 j)) + (σ 0 (16 * nat (σ 11 j) + aN σ j)))) 9 j) + 1)) hx hb hK.1 0 (hM.2.1 9 rfl) (Am.arr 9 rfl) hS rfl j rfl (by omega) (by decide) dX8_step_188 (fun H5 locs hO6 hz7 hq8 hS => ?_)
    have hM := MD.arr 9 (i := j) (v := (((u2 σ 10 j ((31 * (σ 10 j)) + (σ 0 (16 * nat (σ 11 j) + aN σ j)))) 9 j) + 1)) hM rfl hO6 hq8
    exact k_retv hx hb hr hlocks (hM.eq (by unfold stp stB; rw [if_pos k0])) hS dX8_step_189
  by_cases k1 : σ 4 j = 1
  · refine lv_tableIn (off := 60) (tgt := 83) hx hb dX8_step_23 (by rw [k1]; decide) (by rw [k1]; decide) (by rw [k1]; decide) (by decide) ?_
    refine lv_aload_n hx hb dX8_step_83 rfl (lv_at hl 1 rfl) ?_
    refine k_get (C := RX8) (T := TX8) (N := 22) (v := .ref (ad 14)) hx hb hts hiX8 hown hK.1 hM.1 rfl 14 (by decide) (hts (.fieldLink RX8 48 "HouseWorkersModel" "draft" "[I") (by decide +kernel)) (fun _ h9 => h9) rfl dX8_step_84 ?_
    refine lv_bipush (v := 16) hx hb dX8_step_87 (by decide) ?_
    refine lv_iload_n hx hb dX8_step_89 rfl (lv_at hl 2 rfl) ?_
    refine lv_imul hx hb dX8_step_90 ?_
    refine lv_iload_n hx hb dX8_step_91 rfl (lv_at hl 0 rfl) ?_
    refine lv_iadd hx hb dX8_step_92 ?_
    refine lv_dup2_11 hx hb dX8_step_93 rfl rfl ?_
    refine k_iald (n := 480) (f := (σ 14)) hx hb hK.1 0 (hM.2.1 14 rfl) rfl (16 * j + aN σ j) (ix16 _ _) (by omega) (by decide) dX8_step_94 ?_
    refine lv_aload_n hx hb dX8_step_95 rfl (lv_at hl 1 rfl) ?_
    refine k_get (C := RX8) (T := TX8) (N := 22) (v := .ref (ad 8)) hx hb hts hiX8 hown hK.1 hM.1 rfl 8 (by decide) (hts (.fieldLink RX8 29 "HouseWorkersModel" "by" "[I") (by decide +kernel)) (fun _ h9 => h9) rfl dX8_step_96 ?_
    refine lv_iload_n hx hb dX8_step_99 rfl (lv_at hl 2 rfl) ?_
    refine k_iald (n := 30) (f := (σ 8)) hx hb hK.1 0 (hM.2.1 8 rfl) rfl j rfl (by omega) (by decide) dX8_step_100 ?_
    refine lv_iadd hx hb dX8_step_101 ?_
    refine k_iast (A := (Am m0 ad)) (n := 480) (f := (σ 14)) (x := ((σ 14 (16 * j + aN σ j)) + (σ 8 j))) hx hb hK.1 0 (hM.2.1 14 rfl) (Am.arr 14 rfl) hS rfl (16 * j + aN σ j) (ix16 _ _) (by omega) (by decide) dX8_step_102 (fun H9 locs hO10 hz11 hq12 hS => ?_)
    have hM := MD.arr 14 (i := 16 * j + aN σ j) (v := ((σ 14 (16 * j + aN σ j)) + (σ 8 j))) hM rfl hO10 hq12
    refine lv_goto (tgt := 179) hx hb dX8_step_103 (by decide) ?_
    refine lv_aload_n hx hb dX8_step_179 rfl (lv_at hl 1 rfl) ?_
    refine k_get (C := RX8) (T := TX8) (N := 22) (v := .ref (ad 9)) hx hb hts hiX8 hown hK.1 hM.1 rfl 9 (by decide) (hts (.fieldLink RX8 32 "HouseWorkersModel" "done" "[I") (by decide +kernel)) (fun _ h9 => h9) rfl dX8_step_180 ?_
    refine lv_iload_n hx hb dX8_step_183 rfl (lv_at hl 2 rfl) ?_
    refine lv_dup2_11 hx hb dX8_step_184 rfl rfl ?_
    refine k_iald (n := 30) (f := ((u2 σ 14 (16 * j + aN σ j) ((σ 14 (16 * j + aN σ j)) + (σ 8 j))) 9)) hx hb hK.1 0 (hM.2.1 9 rfl) rfl j rfl (by omega) (by decide) dX8_step_185 ?_
    refine lv_iconst (v := 1) hx hb dX8_step_186 (by decide) ?_
    refine lv_iadd hx hb dX8_step_187 ?_
    refine k_iast (A := (Am m0 ad)) (n := 30) (f := ((u2 σ 14 (16 * j + aN σ j) ((σ 14 (16 * j + aN σ j)) + (σ 8 j))) 9)) (x := (((u2 σ 14 (16 * j + aN σ j) ((σ 14 (16 * j + aN σ j)) + (σ 8 j))) 9 j) + 1)) hx hb hK.1 0 (hM.2.1 9 rfl) (Am.arr 9 rfl) hS rfl j rfl (by omega) (by decide) dX8_step_188 (fun H13 locs hO14 hz15 hq16 hS => ?_)
    have hM := MD.arr 9 (i := j) (v := (((u2 σ 14 (16 * j + aN σ j) ((σ 14 (16 * j + aN σ j)) + (σ 8 j))) 9 j) + 1)) hM rfl hO14 hq16
    exact k_retv hx hb hr hlocks (hM.eq (by unfold stp stB; rw [if_neg k0, if_pos k1])) hS dX8_step_189
  by_cases k2 : σ 4 j = 2
  · refine lv_tableIn (off := 83) (tgt := 106) hx hb dX8_step_23 (by rw [k2]; decide) (by rw [k2]; decide) (by rw [k2]; decide) (by decide) ?_
    refine lv_aload_n hx hb dX8_step_106 rfl (lv_at hl 1 rfl) ?_
    refine lv_iload_n hx hb dX8_step_107 rfl (lv_at hl 2 rfl) ?_
    refine k_callv (va_runV (As := [.int (nI j)]) (rest := []) ⟨hx, hb, hml, hown, hts⟩ (c_X8_round l _ m0 ad σ nv j hM hj hv hv1 hv2) (cwV 1 hts gX8_step_X8_round rfl rfl rfl (by decide +kernel) ⟨Nat.le_of_ble_eq_true rfl, Nat.le_of_ble_eq_true rfl⟩) (k_preV hK (k_recv hK.1 hM.1 rfl)) rfl rfl hl.1 rfl (lv_room (Nat.le_of_ble_eq_true rfl)) dX8_step_108 ⟨(Nat.zero_le _), (Nat.zero_le _)⟩) hS (fun _ h => h) (fun H2 locs hM _ _ hS => ?_)
    refine lv_goto (tgt := 179) hx hb dX8_step_111 (by decide) ?_
    refine lv_aload_n hx hb dX8_step_179 rfl (lv_at hl 1 rfl) ?_
    refine k_get (C := RX8) (T := TX8) (N := 22) (v := .ref (ad 9)) hx hb hts hiX8 hown hK.1 hM.1 rfl 9 (by decide) (hts (.fieldLink RX8 32 "HouseWorkersModel" "done" "[I") (by decide +kernel)) (fun _ h9 => h9) rfl dX8_step_180 ?_
    refine lv_iload_n hx hb dX8_step_183 rfl (lv_at hl 2 rfl) ?_
    refine lv_dup2_11 hx hb dX8_step_184 rfl rfl ?_
    refine k_iald (n := 30) (f := ((rd σ nv j) 9)) hx hb hK.1 0 (hM.2.1 9 rfl) rfl j rfl (by omega) (by decide) dX8_step_185 ?_
    refine lv_iconst (v := 1) hx hb dX8_step_186 (by decide) ?_
    refine lv_iadd hx hb dX8_step_187 ?_
    refine k_iast (A := (Am m0 ad)) (n := 30) (f := ((rd σ nv j) 9)) (x := (((rd σ nv j) 9 j) + 1)) hx hb hK.1 0 (hM.2.1 9 rfl) (Am.arr 9 rfl) hS rfl j rfl (by omega) (by decide) dX8_step_188 (fun H17 locs hO18 hz19 hq20 hS => ?_)
    have hM := MD.arr 9 (i := j) (v := (((rd σ nv j) 9 j) + 1)) hM rfl hO18 hq20
    exact k_retv hx hb hr hlocks (hM.eq (by unfold stp stB; rw [if_neg k0, if_neg k1, if_pos k2])) hS dX8_step_189
  refine lv_tableOut (tgt := 114) hx hb dX8_step_23 (tb_out2 k0 k1 k2) (by decide) ?_
  refine lv_aload_n hx hb dX8_step_114 rfl (lv_at hl 1 rfl) ?_
  refine k_get (C := RX8) (T := TX8) (N := 22) (v := .ref (ad 11)) hx hb hts hiX8 hown hK.1 hM.1 rfl 11 (by decide) (hts (.fieldLink RX8 38 "HouseWorkersModel" "version" "[I") (by decide +kernel)) (fun _ h9 => h9) rfl dX8_step_115 ?_
  refine lv_iload_n hx hb dX8_step_118 rfl (lv_at hl 2 rfl) ?_
  refine lv_dup2_11 hx hb dX8_step_119 rfl rfl ?_
  refine k_iald (n := 30) (f := (σ 11)) hx hb hK.1 0 (hM.2.1 11 rfl) rfl j rfl (by omega) (by decide) dX8_step_120 ?_
  refine lv_iconst (v := 1) hx hb dX8_step_121 (by decide) ?_
  refine lv_iadd hx hb dX8_step_122 ?_
  refine k_iast (A := (Am m0 ad)) (n := 30) (f := (σ 11)) (x := ((σ 11 j) + 1)) hx hb hK.1 0 (hM.2.1 11 rfl) (Am.arr 11 rfl) hS rfl j rfl (by omega) (by decide) dX8_step_123 (fun H21 locs hO22 hz23 hq24 hS => ?_)
  have hM := MD.arr 11 (i := j) (v := ((σ 11 j) + 1)) hM rfl hO22 hq24
  refine lv_iconst (v := 0) hx hb dX8_step_124 (by decide) ?_
  refine lv_istore_n (lv' := [(3, .int 0), (2, .int (nI (aN σ j))), (0, .ref m0), (1, .int (nI j))]) hx hb dX8_step_125 rfl hl (by decide) rfl (fun ls hl => ?_)
  refine lv_iconst (v := 0) hx hb dX8_step_126 (by decide) ?_
  refine lv_istore (lv' := [(4, .int 0), (3, .int 0), (2, .int (nI (aN σ j))), (0, .ref m0), (1, .int (nI j))]) hx hb dX8_step_127 hl (by decide) rfl (fun ls hl => ?_)
  obtain ⟨v, hvv, h11⟩ := hk3 k0 k1 k2
  obtain ⟨τ, hτ⟩ : ∃ z : Sg, z = (u2 σ 11 j ((σ 11 j) + 1)) := ⟨_, rfl⟩
  rw [← hτ] at hM
  have hn1 : nat (σ 11 j + 1) = v + 1 := by rw [h11, nI_1]; exact nat_nI (by omega)
  have hτ11 : τ 11 j = nI (v + 1) := by rw [hτ, u2_same, h11, nI_1]
  have loop : ∀ (n : Nat), ∀ (i : Nat), i ≤ 16 → 17 ≤ i + n → ∀ (H : Heap) (locs : List Loc), MD D cI cZ m0 ad τ H → va_S (Am m0 ad) s.heap H locs → ∀ ls : Array Slot, lv_has ls 5 [(4, .int (nI i)), (3, .int (isum (fun c => σ 0 (16 * nat (σ 11 j + 1) + c)) i)), (2, .int (nI (aN σ j))), (0, .ref m0), (1, .int (nI j))] → W p l e (headSpec wsX8_step ({ frames := 1, cells := 0, slots := 0, locals := 23 })).room s m ([.ref m0, .int (nI j)] : List Value).toArray below meth c H locs 0 0 (MQ below (Qkv (fun H1 => MD D cI cZ m0 ad (stp σ nv j) H1) (Am m0 ad)) ([.ref m0, .int (nI j)] : List Value).toArray s 0 0 (Am m0 ad)) (F0 m 129 ls []) := by
    intro n
    induction n with
    | zero => intro i h1 h2; exact absurd h2 (by omega)
    | succ n ih =>
      intro i hi hn H locs hM hS ls hl
      refine lv_iload hx hb dX8_step_129 (lv_at hl 0 rfl) ?_
      refine lv_bipush (v := 16) hx hb dX8_step_131 (by decide) ?_
      refine lv_icmp_ge (tgt := 162) hx hb dX8_step_133 (by decide) (fun c133 => ?_) (fun c133 => ?_)
      · have c133 := Int32.not_lt.mpr c133
        have c133 : ¬ nI i < nI 16 := c133
        have hij : i = 16 := Nat.le_antisymm (by omega) (Nat.le_of_not_lt (fun q => c133 (nI_lt q (by omega))))
        subst hij
        refine lv_aload_n hx hb dX8_step_162 rfl (lv_at hl 3 rfl) ?_
        refine k_get (C := RX8) (T := TX8) (N := 22) (v := .ref (ad 10)) hx hb hts hiX8 hown hK.1 hM.1 rfl 10 (by decide) (hts (.fieldLink RX8 35 "HouseWorkersModel" "answer" "[I") (by decide +kernel)) (fun _ h9 => h9) rfl dX8_step_163 ?_
        refine lv_iload_n hx hb dX8_step_166 rfl (lv_at hl 4 rfl) ?_
        refine lv_bipush (v := 31) hx hb dX8_step_167 (by decide) ?_
        refine lv_aload_n hx hb dX8_step_169 rfl (lv_at hl 3 rfl) ?_
        refine k_get (C := RX8) (T := TX8) (N := 22) (v := .ref (ad 10)) hx hb hts hiX8 hown hK.1 hM.1 rfl 10 (by decide) (hts (.fieldLink RX8 35 "HouseWorkersModel" "answer" "[I") (by decide +kernel)) (fun _ h9 => h9) rfl dX8_step_170 ?_
        refine lv_iload_n hx hb dX8_step_173 rfl (lv_at hl 4 rfl) ?_
        refine k_iald (n := 30) (f := (τ 10)) hx hb hK.1 0 (hM.2.1 10 rfl) rfl j rfl (by omega) (by decide) dX8_step_174 ?_
        refine lv_imul hx hb dX8_step_175 ?_
        refine lv_iload_n hx hb dX8_step_176 rfl (lv_at hl 1 rfl) ?_
        refine lv_iadd hx hb dX8_step_177 ?_
        refine k_iast (A := (Am m0 ad)) (n := 30) (f := (τ 10)) (x := ((31 * (τ 10 j)) + (isum (fun c => σ 0 (16 * nat (σ 11 j + 1) + c)) 16))) hx hb hK.1 0 (hM.2.1 10 rfl) (Am.arr 10 rfl) hS rfl j rfl (by omega) (by decide) dX8_step_178 (fun H25 locs hO26 hz27 hq28 hS => ?_)
        have hM := MD.arr 10 (i := j) (v := ((31 * (τ 10 j)) + (isum (fun c => σ 0 (16 * nat (σ 11 j + 1) + c)) 16))) hM rfl hO26 hq28
        refine lv_aload_n hx hb dX8_step_179 rfl (lv_at hl 3 rfl) ?_
        refine k_get (C := RX8) (T := TX8) (N := 22) (v := .ref (ad 9)) hx hb hts hiX8 hown hK.1 hM.1 rfl 9 (by decide) (hts (.fieldLink RX8 32 "HouseWorkersModel" "done" "[I") (by decide +kernel)) (fun _ h9 => h9) rfl dX8_step_180 ?_
        refine lv_iload_n hx hb dX8_step_183 rfl (lv_at hl 4 rfl) ?_
        refine lv_dup2_11 hx hb dX8_step_184 rfl rfl ?_
        refine k_iald (n := 30) (f := ((u2 τ 10 j ((31 * (τ 10 j)) + (isum (fun c => σ 0 (16 * nat (σ 11 j + 1) + c)) 16))) 9)) hx hb hK.1 0 (hM.2.1 9 rfl) rfl j rfl (by omega) (by decide) dX8_step_185 ?_
        refine lv_iconst (v := 1) hx hb dX8_step_186 (by decide) ?_
        refine lv_iadd hx hb dX8_step_187 ?_
        refine k_iast (A := (Am m0 ad)) (n := 30) (f := ((u2 τ 10 j ((31 * (τ 10 j)) + (isum (fun c => σ 0 (16 * nat (σ 11 j + 1) + c)) 16))) 9)) (x := (((u2 τ 10 j ((31 * (τ 10 j)) + (isum (fun c => σ 0 (16 * nat (σ 11 j + 1) + c)) 16))) 9 j) + 1)) hx hb hK.1 0 (hM.2.1 9 rfl) (Am.arr 9 rfl) hS rfl j rfl (by omega) (by decide) dX8_step_188 (fun H29 locs hO30 hz31 hq32 hS => ?_)
        have hM := MD.arr 9 (i := j) (v := (((u2 τ 10 j ((31 * (τ 10 j)) + (isum (fun c => σ 0 (16 * nat (σ 11 j + 1) + c)) 16))) 9 j) + 1)) hM rfl hO30 hq32
        exact k_retv hx hb hr hlocks (hM.eq (by unfold stp stB; rw [if_neg k0, if_neg k1, if_neg k2]; rw [hτ]; rfl)) hS dX8_step_189
      · have c133 := Int32.not_le.mp c133
        have hlt : i < 16 := (nI_ltI (by omega) (by omega)).mp c133
        refine lv_iload_n hx hb dX8_step_136 rfl (lv_at hl 1 rfl) ?_
        refine lv_aload_n hx hb dX8_step_137 rfl (lv_at hl 3 rfl) ?_
        refine k_get (C := RX8) (T := TX8) (N := 22) (v := .ref (ad 0)) hx hb hts hiX8 hown hK.1 hM.1 rfl 0 (by decide) (hts (.fieldLink RX8 7 "HouseWorkersModel" "cells" "[I") (by decide +kernel)) (fun _ h9 => h9) rfl dX8_step_138 ?_
        refine lv_bipush (v := 16) hx hb dX8_step_141 (by decide) ?_
        refine lv_aload_n hx hb dX8_step_143 rfl (lv_at hl 3 rfl) ?_
        refine k_get (C := RX8) (T := TX8) (N := 22) (v := .ref (ad 11)) hx hb hts hiX8 hown hK.1 hM.1 rfl 11 (by decide) (hts (.fieldLink RX8 38 "HouseWorkersModel" "version" "[I") (by decide +kernel)) (fun _ h9 => h9) rfl dX8_step_144 ?_
        refine lv_iload_n hx hb dX8_step_147 rfl (lv_at hl 4 rfl) ?_
        refine k_iald (n := 30) (f := (τ 11)) hx hb hK.1 0 (hM.2.1 11 rfl) rfl j rfl (by omega) (by decide) dX8_step_148 ?_
        refine lv_imul hx hb dX8_step_149 ?_
        refine lv_iload hx hb dX8_step_150 (lv_at hl 0 rfl) ?_
        refine lv_iadd hx hb dX8_step_152 ?_
        refine k_iald (n := 640) (f := (τ 0)) hx hb hK.1 0 (hM.2.1 0 rfl) rfl (16 * nat (σ 11 j + 1) + i) (by rw [hτ11, hn1]; exact ix16 _ _) (by rw [hn1]; omega) (by decide) dX8_step_153 ?_
        refine lv_iadd hx hb dX8_step_154 ?_
        rw [show τ 0 = σ 0 by rw [hτ]; rfl]
        refine lv_istore_n (lv' := [(3, .int (isum (fun c => σ 0 (16 * nat (σ 11 j + 1) + c)) (i + 1))), (4, .int (nI i)), (2, .int (nI (aN σ j))), (0, .ref m0), (1, .int (nI j))]) hx hb dX8_step_155 rfl hl (by decide) rfl (fun ls hl => ?_)
        refine lv_iinc (v := nI (i + 1)) (lv' := [(4, .int (nI (i + 1))), (3, .int (isum (fun c => σ 0 (16 * nat (σ 11 j + 1) + c)) (i + 1))), (2, .int (nI (aN σ j))), (0, .ref m0), (1, .int (nI j))]) hx hb dX8_step_156 hl (k := 1) rfl (by rw [← nI_1]; rfl) (by decide) rfl (fun ls hl => ?_)
        refine lv_goto (tgt := 129) hx hb dX8_step_159 (by decide) ?_
        exact ih (i + 1) (by omega) (by omega) H locs hM hS ls (lv_sub hl [0, 1, 2, 3, 4] rfl)
  exact loop 17 0 (Nat.zero_le _) (by omega) _ _ hM hS ls (lv_sub hl [0, 1, 2, 3, 4] rfl)
set_option maxHeartbeats 4000000 in
set_option maxRecDepth 100000 in
theorem c_X8_turn (l : Launch) {D : va_G} {cI cZ cO : ClassId} {mi : Nat} (H : Heap) (m0 : Nat) (ad : Nat → Nat) (σ : Sg) (nW nV nE : Nat) (x : Int32) (hM : MD D cI cZ m0 ad σ H) (hI : Inv σ nW nV nE) : Met l yX8_turn wsX8_turn ({ frames := 2, cells := 0, slots := 0, locals := 47 }) (Pk D cI cZ cO mi [.ref m0, .int x] H) (Qki (fun r H1 => r = (if inB x 0 (σ 3 0 - 1) = true then (tn σ nV nE (nat x)).1 else -1) ∧ MD D cI cZ m0 ad (if inB x 0 (σ 3 0 - 1) = true then (tn σ nV nE (nat x)).2 else σ) H1) (Am m0 ad)) 0 0 (Am m0 ad) := by
  refine Met.ofW (cc := cX8_turn) (maxL := 3) (ret := (some .int)) (by decide) rfl ?_
  intro p e s m args below meth c s₁ B hml hv
  obtain ⟨rfl, rfl, hK⟩ := hv
  have hx := B.exec
  have hb := B.bytes
  have hr := B.returns
  have hts := atoms_spec (ws := wsX8_turn) B.pre
  have hown : s.vm.findClass RX8 = some m.cls := findClass_of_methodNamed B.named
  have hlocks := B.notSynchronized
  have hS : va_S (Am m0 ad) s.heap s.heap [] := va_S.rf
  have hl := lv_entry ([.ref m0, .int x]) (n := 3) (Nat.le_of_ble_eq_true rfl)
  rw [lg_entry_eq]
  generalize (lg_sl ([.ref m0, .int x]) ++ List.replicate (3 - (lg_sl ([.ref m0, .int x])).length) Slot.unset).toArray = ls at hl ⊢
  have hl : lv_has ls 3 [(0, .ref m0), (1, .int x)] := hl
  have hiX8 : ∀ w ∈ wsX80, w ∈ wsX8_turn := by decide +kernel
  refine lv_iload_n hx hb dX8_turn_0 rfl (lv_at hl 1 rfl) ?_
  refine lv_iconst (v := 0) hx hb dX8_turn_1 (by decide) ?_
  refine lv_aload_n hx hb dX8_turn_2 rfl (lv_at hl 0 rfl) ?_
  refine k_get (C := RX8) (T := TX8) (N := 22) (v := .int (σ 3 0)) hx hb hts hiX8 hown hK.1 hM.1 rfl 3 (by decide) (hts (.fieldLink RX8 67 "HouseWorkersModel" "workers" "I") (by decide +kernel)) (fun _ h9 => h9) rfl dX8_turn_3 ?_
  refine lv_iconst (v := 1) hx hb dX8_turn_6 (by decide) ?_
  refine lv_isub hx hb dX8_turn_7 ?_
  refine k_callpi (v := b2 (inB x 0 (σ 3 0 - 1))) (va_runS (As := [.int x, .int 0, .int ((σ 3 0) - 1)]) (rest := []) ⟨hx, hb, hml, hown, hts⟩ (c_X8_in l _ x 0 (σ 3 0 - 1)) (va_cwS 3 hts gX8_turn_X8_in rfl rfl rfl (by decide +kernel) ⟨Nat.le_of_ble_eq_true rfl, Nat.le_of_ble_eq_true rfl⟩) (k_preS hK) rfl rfl hl.1 rfl (lv_room (Nat.le_of_ble_eq_true rfl)) dX8_turn_8 ⟨(Nat.zero_le _), (Nat.zero_le _)⟩) hS (fun locs hS => ?_)
  refine lv_if_ne (tgt := 16) hx hb dX8_turn_11 (by decide) (fun c11 => ?_) (fun c11 => ?_)
  · have hin : inB x 0 (σ 3 0 - 1) = true := b2_n c11
    rw [hI.1] at hin
    obtain ⟨j, hjW, hxj⟩ := inB_idx (by have := hI.2.2.2.1; omega) hin
    rw [← hI.1] at hin
    subst hxj
    have hn30 := hI.2.2.2.1
    have hvE := hI.2.2.2.2.2.1
    have heW := hI.eW
    rw [nat_nI (by omega)]
    rw [if_pos hin, if_pos hin]
    refine lv_aload_n hx hb dX8_turn_16 rfl (lv_at hl 0 rfl) ?_
    refine lv_iload_n hx hb dX8_turn_17 rfl (lv_at hl 1 rfl) ?_
    refine k_callpi (v := b2 (wt σ j)) (va_runV (As := [.int (nI j)]) (rest := []) ⟨hx, hb, hml, hown, hts⟩ (c_X8_waits l _ m0 ad σ j hM (by omega)) (cwV 1 hts gX8_turn_X8_waits rfl rfl rfl (by decide +kernel) ⟨Nat.le_of_ble_eq_true rfl, Nat.le_of_ble_eq_true rfl⟩) (k_preV hK (k_recv hK.1 hM.1 rfl)) rfl rfl hl.1 rfl (lv_room (Nat.le_of_ble_eq_true rfl)) dX8_turn_18 ⟨(Nat.zero_le _), (Nat.zero_le _)⟩) hS (fun locs hS => ?_)
    refine lv_if_eq (tgt := 49) hx hb dX8_turn_21 (by decide) (fun c21 => ?_) (fun c21 => ?_)
    · have hwt : wt σ j = false := b2_0 c21
      have hne : ¬ 0 < σ 12 j := fun q => by simp [wt, q] at hwt
      have hE := hI.lt hjW hne
      refine lv_aload_n hx hb dX8_turn_49 rfl (lv_at hl 0 rfl) ?_
      refine lv_dup hx hb dX8_turn_50 rfl ?_
      refine k_get (C := RX8) (T := TX8) (N := 22) (v := .int (σ 20 0)) hx hb hts hiX8 hown hK.1 hM.1 rfl 20 (by decide) (hts (.fieldLink RX8 85 "HouseWorkersModel" "did" "I") (by decide +kernel)) (fun _ h9 => h9) rfl dX8_turn_51 ?_
      refine lv_iconst (v := 1) hx hb dX8_turn_54 (by decide) ?_
      refine lv_iadd hx hb dX8_turn_55 ?_
      refine k_put (A := (Am m0 ad)) (C := RX8) (T := TX8) (N := 22) (ty := .int) (v := .int ((σ 20 0) + 1)) hx hb hts hiX8 tyX8 tyX8_ok nmX8 hown hK.1 hM.1 Am.ob hS rfl 20 (by decide) (hts (.fieldLink RX8 85 "HouseWorkersModel" "did" "I") (by decide +kernel)) (fun _ h9 => h9) rfl (by decide +kernel) rfl rfl (Nat.le_of_ble_eq_true rfl) dX8_turn_56 (fun H1 locs hO2 hz3 hq4 hS => ?_)
      have hM := MD.fld 20 (v := ((σ 20 0) + 1)) hM rfl hO2 hq4
      refine lv_iconst (v := 1) hx hb dX8_turn_59 (by decide) ?_
      refine lv_istore_n (lv' := [(2, .int 1), (0, .ref m0), (1, .int (nI j))]) hx hb dX8_turn_60 rfl hl (by decide) rfl (fun ls hl => ?_)
      refine lv_aload_n hx hb dX8_turn_61 rfl (lv_at hl 1 rfl) ?_
      refine k_get (C := RX8) (T := TX8) (N := 22) (v := .ref (ad 13)) hx hb hts hiX8 hown hK.1 hM.1 rfl 13 (by decide) (hts (.fieldLink RX8 44 "HouseWorkersModel" "told" "[Z") (by decide +kernel)) (fun _ h9 => h9) rfl dX8_turn_62 ?_
      refine lv_iload_n hx hb dX8_turn_65 rfl (lv_at hl 2 rfl) ?_
      refine k_zald (n := 30) (f := ((u2 σ 20 0 ((σ 20 0) + 1)) 13)) hx hb hK.1 1 hM.2.2.1 rfl j rfl (by omega) (by decide) dX8_turn_66 ?_
      refine lv_if_eq (tgt := 75) hx hb dX8_turn_67 (by decide) (fun c67 => ?_) (fun c67 => ?_)
      · refine lv_aload_n hx hb dX8_turn_75 rfl (lv_at hl 1 rfl) ?_
        refine k_get (C := RX8) (T := TX8) (N := 22) (v := .ref (ad 9)) hx hb hts hiX8 hown hK.1 hM.1 rfl 9 (by decide) (hts (.fieldLink RX8 32 "HouseWorkersModel" "done" "[I") (by decide +kernel)) (fun _ h9 => h9) rfl dX8_turn_76 ?_
        refine lv_iload_n hx hb dX8_turn_79 rfl (lv_at hl 2 rfl) ?_
        refine k_iald (n := 30) (f := ((u2 σ 20 0 ((σ 20 0) + 1)) 9)) hx hb hK.1 0 (hM.2.1 9 rfl) rfl j rfl (by omega) (by decide) dX8_turn_80 ?_
        refine lv_aload_n hx hb dX8_turn_81 rfl (lv_at hl 1 rfl) ?_
        refine k_get (C := RX8) (T := TX8) (N := 22) (v := .ref (ad 5)) hx hb hts hiX8 hown hK.1 hM.1 rfl 5 (by decide) (hts (.fieldLink RX8 20 "HouseWorkersModel" "steps" "[I") (by decide +kernel)) (fun _ h9 => h9) rfl dX8_turn_82 ?_
        refine lv_iload_n hx hb dX8_turn_85 rfl (lv_at hl 2 rfl) ?_
        refine k_iald (n := 30) (f := ((u2 σ 20 0 ((σ 20 0) + 1)) 5)) hx hb hK.1 0 (hM.2.1 5 rfl) rfl j rfl (by omega) (by decide) dX8_turn_86 ?_
        refine lv_icmp_ne (tgt := 110) hx hb dX8_turn_87 (by decide) (fun c87 => ?_) (fun c87 => ?_)
        · refine lv_aload_n hx hb dX8_turn_110 rfl (lv_at hl 1 rfl) ?_
          refine k_get (C := RX8) (T := TX8) (N := 22) (v := .ref (ad 6)) hx hb hts hiX8 hown hK.1 hM.1 rfl 6 (by decide) (hts (.fieldLink RX8 23 "HouseWorkersModel" "failsAt" "[I") (by decide +kernel)) (fun _ h9 => h9) rfl dX8_turn_111 ?_
          refine lv_iload_n hx hb dX8_turn_114 rfl (lv_at hl 2 rfl) ?_
          refine k_iald (n := 30) (f := ((u2 σ 20 0 ((σ 20 0) + 1)) 6)) hx hb hK.1 0 (hM.2.1 6 rfl) rfl j rfl (by omega) (by decide) dX8_turn_115 ?_
          refine lv_aload_n hx hb dX8_turn_116 rfl (lv_at hl 1 rfl) ?_
          refine k_get (C := RX8) (T := TX8) (N := 22) (v := .ref (ad 9)) hx hb hts hiX8 hown hK.1 hM.1 rfl 9 (by decide) (hts (.fieldLink RX8 32 "HouseWorkersModel" "done" "[I") (by decide +kernel)) (fun _ h9 => h9) rfl dX8_turn_117 ?_
          refine lv_iload_n hx hb dX8_turn_120 rfl (lv_at hl 2 rfl) ?_
          refine k_iald (n := 30) (f := ((u2 σ 20 0 ((σ 20 0) + 1)) 9)) hx hb hK.1 0 (hM.2.1 9 rfl) rfl j rfl (by omega) (by decide) dX8_turn_121 ?_
          refine lv_iconst (v := 1) hx hb dX8_turn_122 (by decide) ?_
          refine lv_iadd hx hb dX8_turn_123 ?_
          refine lv_icmp_ne (tgt := 132) hx hb dX8_turn_124 (by decide) (fun c124 => ?_) (fun c124 => ?_)
          · refine lv_aload_n hx hb dX8_turn_132 rfl (lv_at hl 1 rfl) ?_
            refine lv_iload_n hx hb dX8_turn_133 rfl (lv_at hl 2 rfl) ?_
            obtain ⟨zst, zfa, za, zd, z5, z6, z7, z9, z1, z2, z3, z4, zc⟩ := hI.2.2.2.2.2.2.2.2.1 j hjW
            refine k_callv (va_runV (As := [.int (nI j)]) (rest := []) ⟨hx, hb, hml, hown, hts⟩ (c_X8_step l _ m0 ad (u2 σ 20 0 ((σ 20 0) + 1)) nV j za zd hM (by omega) hI.2.1 hI.2.2.2.2.1 (by omega) z7 z2 z9 (by omega) (fun k => by rcases zc with zc | zc | zc | zc; (obtain ⟨v, q1, q2⟩ := zc.2.2.2.2.2; exact ⟨v, by omega, q2⟩); (exact absurd (zc.1.symm.trans k) (by decide)); (exact absurd (zc.1.symm.trans k) (by decide)); (exact absurd (zc.1.symm.trans k) (by decide))) (fun k0 k1 k2 => by rcases zc with zc | zc | zc | zc; (exact absurd zc.1 k0); (exact absurd zc.1 k1); (exact absurd zc.1 k2); (obtain ⟨v, q1, q2, q3⟩ := zc.2.2.2; exact ⟨v, by omega, q3⟩))) (cwV 1 hts gX8_turn_X8_step rfl rfl rfl (by decide +kernel) ⟨Nat.le_of_ble_eq_true rfl, Nat.le_of_ble_eq_true rfl⟩) (k_preV hK (k_recv hK.1 hM.1 rfl)) rfl rfl hl.1 rfl (lv_room (Nat.le_of_ble_eq_true rfl)) dX8_turn_134 ⟨(Nat.zero_le _), (Nat.zero_le _)⟩) hS (fun _ h => h) (fun H5 locs hM _ _ hS => ?_)
            refine lv_aload_n hx hb dX8_turn_137 rfl (lv_at hl 1 rfl) ?_
            refine k_get (C := RX8) (T := TX8) (N := 22) (v := .ref (ad 4)) hx hb hts hiX8 hown hK.1 hM.1 rfl 4 (by decide) (hts (.fieldLink RX8 17 "HouseWorkersModel" "kind" "[I") (by decide +kernel)) (fun _ h9 => h9) rfl dX8_turn_138 ?_
            refine lv_iload_n hx hb dX8_turn_141 rfl (lv_at hl 2 rfl) ?_
            refine k_iald (n := 30) (f := ((stp (u2 σ 20 0 ((σ 20 0) + 1)) nV j) 4)) hx hb hK.1 0 (hM.2.1 4 rfl) rfl j rfl (by omega) (by decide) dX8_turn_142 ?_
            refine lv_if_ne (tgt := 165) hx hb dX8_turn_143 (by decide) (fun c143 => ?_) (fun c143 => ?_)
            · refine lv_iconst (v := 1) hx hb dX8_turn_165 (by decide) ?_
              refine lv_istore_n (lv' := [(2, .int 1), (0, .ref m0), (1, .int (nI j))]) hx hb dX8_turn_166 rfl hl (by decide) rfl (fun ls hl => ?_)
              refine lv_iload_n hx hb dX8_turn_167 rfl (lv_at hl 0 rfl) ?_
              refine lv_iconst (v := 1) hx hb dX8_turn_168 (by decide) ?_
              refine lv_icmp_le (tgt := 178) hx hb dX8_turn_169 (by decide) (fun c169 => ?_) (fun c169 => ?_)
              · refine lv_iload_n hx hb dX8_turn_178 rfl (lv_at hl 0 rfl) ?_
                have ht : tn σ nV nE j = (1, (stp (u2 σ 20 0 ((σ 20 0) + 1)) nV j)) := by rw [tn, hwt, cond_false]; unfold tnD; rw [if_neg (fun q => q c67), if_neg (fun q => c87 q.1), if_neg c124, if_neg (fun q => c143 q.1)]
                exact k_reti hx hb hr hlocks ⟨by rw [ht], by rw [ht]; exact hM⟩ hS dX8_turn_179
              · exact absurd c169 (by decide)
            · refine lv_aload_n hx hb dX8_turn_146 rfl (lv_at hl 1 rfl) ?_
              refine k_get (C := RX8) (T := TX8) (N := 22) (v := .ref (ad 9)) hx hb hts hiX8 hown hK.1 hM.1 rfl 9 (by decide) (hts (.fieldLink RX8 32 "HouseWorkersModel" "done" "[I") (by decide +kernel)) (fun _ h9 => h9) rfl dX8_turn_147 ?_
              refine lv_iload_n hx hb dX8_turn_150 rfl (lv_at hl 2 rfl) ?_
              refine k_iald (n := 30) (f := ((stp (u2 σ 20 0 ((σ 20 0) + 1)) nV j) 9)) hx hb hK.1 0 (hM.2.1 9 rfl) rfl j rfl (by omega) (by decide) dX8_turn_151 ?_
              refine lv_aload_n hx hb dX8_turn_152 rfl (lv_at hl 1 rfl) ?_
              refine k_get (C := RX8) (T := TX8) (N := 22) (v := .ref (ad 5)) hx hb hts hiX8 hown hK.1 hM.1 rfl 5 (by decide) (hts (.fieldLink RX8 20 "HouseWorkersModel" "steps" "[I") (by decide +kernel)) (fun _ h9 => h9) rfl dX8_turn_153 ?_
              refine lv_iload_n hx hb dX8_turn_156 rfl (lv_at hl 2 rfl) ?_
              refine k_iald (n := 30) (f := ((stp (u2 σ 20 0 ((σ 20 0) + 1)) nV j) 5)) hx hb hK.1 0 (hM.2.1 5 rfl) rfl j rfl (by omega) (by decide) dX8_turn_157 ?_
              refine lv_icmp_ne (tgt := 165) hx hb dX8_turn_158 (by decide) (fun c158 => ?_) (fun c158 => ?_)
              · refine lv_iconst (v := 1) hx hb dX8_turn_165 (by decide) ?_
                refine lv_istore_n (lv' := [(2, .int 1), (0, .ref m0), (1, .int (nI j))]) hx hb dX8_turn_166 rfl hl (by decide) rfl (fun ls hl => ?_)
                refine lv_iload_n hx hb dX8_turn_167 rfl (lv_at hl 0 rfl) ?_
                refine lv_iconst (v := 1) hx hb dX8_turn_168 (by decide) ?_
                refine lv_icmp_le (tgt := 178) hx hb dX8_turn_169 (by decide) (fun c169 => ?_) (fun c169 => ?_)
                · refine lv_iload_n hx hb dX8_turn_178 rfl (lv_at hl 0 rfl) ?_
                  have ht : tn σ nV nE j = (1, (stp (u2 σ 20 0 ((σ 20 0) + 1)) nV j)) := by rw [tn, hwt, cond_false]; unfold tnD; rw [if_neg (fun q => q c67), if_neg (fun q => c87 q.1), if_neg c124, if_neg (fun q => c158 q.2)]
                  exact k_reti hx hb hr hlocks ⟨by rw [ht], by rw [ht]; exact hM⟩ hS dX8_turn_179
                · exact absurd c169 (by decide)
              · refine lv_iconst (v := 2) hx hb dX8_turn_161 (by decide) ?_
                refine lv_goto (tgt := 166) hx hb dX8_turn_162 (by decide) ?_
                refine lv_istore_n (lv' := [(2, .int 2), (0, .ref m0), (1, .int (nI j))]) hx hb dX8_turn_166 rfl hl (by decide) rfl (fun ls hl => ?_)
                refine lv_iload_n hx hb dX8_turn_167 rfl (lv_at hl 0 rfl) ?_
                refine lv_iconst (v := 1) hx hb dX8_turn_168 (by decide) ?_
                refine lv_icmp_le (tgt := 178) hx hb dX8_turn_169 (by decide) (fun c169 => ?_) (fun c169 => ?_)
                · exact absurd c169 (by decide)
                · refine lv_aload_n hx hb dX8_turn_172 rfl (lv_at hl 1 rfl) ?_
                  refine lv_iload_n hx hb dX8_turn_173 rfl (lv_at hl 2 rfl) ?_
                  refine lv_iload_n hx hb dX8_turn_174 rfl (lv_at hl 0 rfl) ?_
                  refine k_callv (va_runV (As := [.int (nI j), .int 2]) (rest := []) ⟨hx, hb, hml, hown, hts⟩ (c_X8_finish l _ m0 ad (stp (u2 σ 20 0 ((σ 20 0) + 1)) nV j) nE j 2 hM (by omega) (show ((stp (u2 σ 20 0 ((σ 20 0) + 1)) nV j)) 16 0 = nI nE from (stp_k 0 (by decide) (by decide) (by decide) (by decide) (by decide)).trans hI.2.2.1) (by omega)) (cwV 2 hts gX8_turn_X8_finish rfl rfl rfl (by decide +kernel) ⟨Nat.le_of_ble_eq_true rfl, Nat.le_of_ble_eq_true rfl⟩) (k_preV hK (k_recv hK.1 hM.1 rfl)) rfl rfl hl.1 rfl (lv_room (Nat.le_of_ble_eq_true rfl)) dX8_turn_175 ⟨(Nat.zero_le _), (Nat.zero_le _)⟩) hS (fun _ h => h) (fun H6 locs hM _ _ hS => ?_)
                  refine lv_iload_n hx hb dX8_turn_178 rfl (lv_at hl 0 rfl) ?_
                  have ht : tn σ nV nE j = (2, (fin (stp (u2 σ 20 0 ((σ 20 0) + 1)) nV j) nE j 2)) := by rw [tn, hwt, cond_false]; unfold tnD; rw [if_neg (fun q => q c67), if_neg (fun q => c87 q.1), if_neg c124, if_pos ⟨c143, c158⟩]
                  exact k_reti hx hb hr hlocks ⟨by rw [ht], by rw [ht]; exact hM⟩ hS dX8_turn_179
          · refine lv_iconst (v := 3) hx hb dX8_turn_127 (by decide) ?_
            refine lv_istore_n (lv' := [(2, .int 3), (0, .ref m0), (1, .int (nI j))]) hx hb dX8_turn_128 rfl hl (by decide) rfl (fun ls hl => ?_)
            refine lv_goto (tgt := 167) hx hb dX8_turn_129 (by decide) ?_
            refine lv_iload_n hx hb dX8_turn_167 rfl (lv_at hl 0 rfl) ?_
            refine lv_iconst (v := 1) hx hb dX8_turn_168 (by decide) ?_
            refine lv_icmp_le (tgt := 178) hx hb dX8_turn_169 (by decide) (fun c169 => ?_) (fun c169 => ?_)
            · exact absurd c169 (by decide)
            · refine lv_aload_n hx hb dX8_turn_172 rfl (lv_at hl 1 rfl) ?_
              refine lv_iload_n hx hb dX8_turn_173 rfl (lv_at hl 2 rfl) ?_
              refine lv_iload_n hx hb dX8_turn_174 rfl (lv_at hl 0 rfl) ?_
              refine k_callv (va_runV (As := [.int (nI j), .int 3]) (rest := []) ⟨hx, hb, hml, hown, hts⟩ (c_X8_finish l _ m0 ad (u2 σ 20 0 ((σ 20 0) + 1)) nE j 3 hM (by omega) (show ((u2 σ 20 0 ((σ 20 0) + 1))) 16 0 = nI nE from hI.2.2.1) (by omega)) (cwV 2 hts gX8_turn_X8_finish rfl rfl rfl (by decide +kernel) ⟨Nat.le_of_ble_eq_true rfl, Nat.le_of_ble_eq_true rfl⟩) (k_preV hK (k_recv hK.1 hM.1 rfl)) rfl rfl hl.1 rfl (lv_room (Nat.le_of_ble_eq_true rfl)) dX8_turn_175 ⟨(Nat.zero_le _), (Nat.zero_le _)⟩) hS (fun _ h => h) (fun H7 locs hM _ _ hS => ?_)
              refine lv_iload_n hx hb dX8_turn_178 rfl (lv_at hl 0 rfl) ?_
              have ht : tn σ nV nE j = (3, (fin (u2 σ 20 0 ((σ 20 0) + 1)) nE j 3)) := by rw [tn, hwt, cond_false]; unfold tnD; rw [if_neg (fun q => q c67), if_neg (fun q => c87 q.1), if_pos c124]
              exact k_reti hx hb hr hlocks ⟨by rw [ht], by rw [ht]; exact hM⟩ hS dX8_turn_179
        · refine lv_aload_n hx hb dX8_turn_90 rfl (lv_at hl 1 rfl) ?_
          refine k_get (C := RX8) (T := TX8) (N := 22) (v := .ref (ad 4)) hx hb hts hiX8 hown hK.1 hM.1 rfl 4 (by decide) (hts (.fieldLink RX8 17 "HouseWorkersModel" "kind" "[I") (by decide +kernel)) (fun _ h9 => h9) rfl dX8_turn_91 ?_
          refine lv_iload_n hx hb dX8_turn_94 rfl (lv_at hl 2 rfl) ?_
          refine k_iald (n := 30) (f := ((u2 σ 20 0 ((σ 20 0) + 1)) 4)) hx hb hK.1 0 (hM.2.1 4 rfl) rfl j rfl (by omega) (by decide) dX8_turn_95 ?_
          refine lv_iconst (v := 3) hx hb dX8_turn_96 (by decide) ?_
          refine lv_icmp_eq (tgt := 110) hx hb dX8_turn_97 (by decide) (fun c97 => ?_) (fun c97 => ?_)
          · refine lv_aload_n hx hb dX8_turn_110 rfl (lv_at hl 1 rfl) ?_
            refine k_get (C := RX8) (T := TX8) (N := 22) (v := .ref (ad 6)) hx hb hts hiX8 hown hK.1 hM.1 rfl 6 (by decide) (hts (.fieldLink RX8 23 "HouseWorkersModel" "failsAt" "[I") (by decide +kernel)) (fun _ h9 => h9) rfl dX8_turn_111 ?_
            refine lv_iload_n hx hb dX8_turn_114 rfl (lv_at hl 2 rfl) ?_
            refine k_iald (n := 30) (f := ((u2 σ 20 0 ((σ 20 0) + 1)) 6)) hx hb hK.1 0 (hM.2.1 6 rfl) rfl j rfl (by omega) (by decide) dX8_turn_115 ?_
            refine lv_aload_n hx hb dX8_turn_116 rfl (lv_at hl 1 rfl) ?_
            refine k_get (C := RX8) (T := TX8) (N := 22) (v := .ref (ad 9)) hx hb hts hiX8 hown hK.1 hM.1 rfl 9 (by decide) (hts (.fieldLink RX8 32 "HouseWorkersModel" "done" "[I") (by decide +kernel)) (fun _ h9 => h9) rfl dX8_turn_117 ?_
            refine lv_iload_n hx hb dX8_turn_120 rfl (lv_at hl 2 rfl) ?_
            refine k_iald (n := 30) (f := ((u2 σ 20 0 ((σ 20 0) + 1)) 9)) hx hb hK.1 0 (hM.2.1 9 rfl) rfl j rfl (by omega) (by decide) dX8_turn_121 ?_
            refine lv_iconst (v := 1) hx hb dX8_turn_122 (by decide) ?_
            refine lv_iadd hx hb dX8_turn_123 ?_
            refine lv_icmp_ne (tgt := 132) hx hb dX8_turn_124 (by decide) (fun c124 => ?_) (fun c124 => ?_)
            · refine lv_aload_n hx hb dX8_turn_132 rfl (lv_at hl 1 rfl) ?_
              refine lv_iload_n hx hb dX8_turn_133 rfl (lv_at hl 2 rfl) ?_
              obtain ⟨zst, zfa, za, zd, z5, z6, z7, z9, z1, z2, z3, z4, zc⟩ := hI.2.2.2.2.2.2.2.2.1 j hjW
              refine k_callv (va_runV (As := [.int (nI j)]) (rest := []) ⟨hx, hb, hml, hown, hts⟩ (c_X8_step l _ m0 ad (u2 σ 20 0 ((σ 20 0) + 1)) nV j za zd hM (by omega) hI.2.1 hI.2.2.2.2.1 (by omega) z7 z2 z9 (by omega) (fun k => by rcases zc with zc | zc | zc | zc; (obtain ⟨v, q1, q2⟩ := zc.2.2.2.2.2; exact ⟨v, by omega, q2⟩); (exact absurd (zc.1.symm.trans k) (by decide)); (exact absurd (zc.1.symm.trans k) (by decide)); (exact absurd (zc.1.symm.trans k) (by decide))) (fun k0 k1 k2 => by rcases zc with zc | zc | zc | zc; (exact absurd zc.1 k0); (exact absurd zc.1 k1); (exact absurd zc.1 k2); (obtain ⟨v, q1, q2, q3⟩ := zc.2.2.2; exact ⟨v, by omega, q3⟩))) (cwV 1 hts gX8_turn_X8_step rfl rfl rfl (by decide +kernel) ⟨Nat.le_of_ble_eq_true rfl, Nat.le_of_ble_eq_true rfl⟩) (k_preV hK (k_recv hK.1 hM.1 rfl)) rfl rfl hl.1 rfl (lv_room (Nat.le_of_ble_eq_true rfl)) dX8_turn_134 ⟨(Nat.zero_le _), (Nat.zero_le _)⟩) hS (fun _ h => h) (fun H8 locs hM _ _ hS => ?_)
              refine lv_aload_n hx hb dX8_turn_137 rfl (lv_at hl 1 rfl) ?_
              refine k_get (C := RX8) (T := TX8) (N := 22) (v := .ref (ad 4)) hx hb hts hiX8 hown hK.1 hM.1 rfl 4 (by decide) (hts (.fieldLink RX8 17 "HouseWorkersModel" "kind" "[I") (by decide +kernel)) (fun _ h9 => h9) rfl dX8_turn_138 ?_
              refine lv_iload_n hx hb dX8_turn_141 rfl (lv_at hl 2 rfl) ?_
              refine k_iald (n := 30) (f := ((stp (u2 σ 20 0 ((σ 20 0) + 1)) nV j) 4)) hx hb hK.1 0 (hM.2.1 4 rfl) rfl j rfl (by omega) (by decide) dX8_turn_142 ?_
              refine lv_if_ne (tgt := 165) hx hb dX8_turn_143 (by decide) (fun c143 => ?_) (fun c143 => ?_)
              · refine lv_iconst (v := 1) hx hb dX8_turn_165 (by decide) ?_
                refine lv_istore_n (lv' := [(2, .int 1), (0, .ref m0), (1, .int (nI j))]) hx hb dX8_turn_166 rfl hl (by decide) rfl (fun ls hl => ?_)
                refine lv_iload_n hx hb dX8_turn_167 rfl (lv_at hl 0 rfl) ?_
                refine lv_iconst (v := 1) hx hb dX8_turn_168 (by decide) ?_
                refine lv_icmp_le (tgt := 178) hx hb dX8_turn_169 (by decide) (fun c169 => ?_) (fun c169 => ?_)
                · refine lv_iload_n hx hb dX8_turn_178 rfl (lv_at hl 0 rfl) ?_
                  have ht : tn σ nV nE j = (1, (stp (u2 σ 20 0 ((σ 20 0) + 1)) nV j)) := by rw [tn, hwt, cond_false]; unfold tnD; rw [if_neg (fun q => q c67), if_neg (fun q => q.2 c97), if_neg c124, if_neg (fun q => c143 q.1)]
                  exact k_reti hx hb hr hlocks ⟨by rw [ht], by rw [ht]; exact hM⟩ hS dX8_turn_179
                · exact absurd c169 (by decide)
              · refine lv_aload_n hx hb dX8_turn_146 rfl (lv_at hl 1 rfl) ?_
                refine k_get (C := RX8) (T := TX8) (N := 22) (v := .ref (ad 9)) hx hb hts hiX8 hown hK.1 hM.1 rfl 9 (by decide) (hts (.fieldLink RX8 32 "HouseWorkersModel" "done" "[I") (by decide +kernel)) (fun _ h9 => h9) rfl dX8_turn_147 ?_
                refine lv_iload_n hx hb dX8_turn_150 rfl (lv_at hl 2 rfl) ?_
                refine k_iald (n := 30) (f := ((stp (u2 σ 20 0 ((σ 20 0) + 1)) nV j) 9)) hx hb hK.1 0 (hM.2.1 9 rfl) rfl j rfl (by omega) (by decide) dX8_turn_151 ?_
                refine lv_aload_n hx hb dX8_turn_152 rfl (lv_at hl 1 rfl) ?_
                refine k_get (C := RX8) (T := TX8) (N := 22) (v := .ref (ad 5)) hx hb hts hiX8 hown hK.1 hM.1 rfl 5 (by decide) (hts (.fieldLink RX8 20 "HouseWorkersModel" "steps" "[I") (by decide +kernel)) (fun _ h9 => h9) rfl dX8_turn_153 ?_
                refine lv_iload_n hx hb dX8_turn_156 rfl (lv_at hl 2 rfl) ?_
                refine k_iald (n := 30) (f := ((stp (u2 σ 20 0 ((σ 20 0) + 1)) nV j) 5)) hx hb hK.1 0 (hM.2.1 5 rfl) rfl j rfl (by omega) (by decide) dX8_turn_157 ?_
                refine lv_icmp_ne (tgt := 165) hx hb dX8_turn_158 (by decide) (fun c158 => ?_) (fun c158 => ?_)
                · refine lv_iconst (v := 1) hx hb dX8_turn_165 (by decide) ?_
                  refine lv_istore_n (lv' := [(2, .int 1), (0, .ref m0), (1, .int (nI j))]) hx hb dX8_turn_166 rfl hl (by decide) rfl (fun ls hl => ?_)
                  refine lv_iload_n hx hb dX8_turn_167 rfl (lv_at hl 0 rfl) ?_
                  refine lv_iconst (v := 1) hx hb dX8_turn_168 (by decide) ?_
                  refine lv_icmp_le (tgt := 178) hx hb dX8_turn_169 (by decide) (fun c169 => ?_) (fun c169 => ?_)
                  · refine lv_iload_n hx hb dX8_turn_178 rfl (lv_at hl 0 rfl) ?_
                    have ht : tn σ nV nE j = (1, (stp (u2 σ 20 0 ((σ 20 0) + 1)) nV j)) := by rw [tn, hwt, cond_false]; unfold tnD; rw [if_neg (fun q => q c67), if_neg (fun q => q.2 c97), if_neg c124, if_neg (fun q => c158 q.2)]
                    exact k_reti hx hb hr hlocks ⟨by rw [ht], by rw [ht]; exact hM⟩ hS dX8_turn_179
                  · exact absurd c169 (by decide)
                · refine lv_iconst (v := 2) hx hb dX8_turn_161 (by decide) ?_
                  refine lv_goto (tgt := 166) hx hb dX8_turn_162 (by decide) ?_
                  refine lv_istore_n (lv' := [(2, .int 2), (0, .ref m0), (1, .int (nI j))]) hx hb dX8_turn_166 rfl hl (by decide) rfl (fun ls hl => ?_)
                  refine lv_iload_n hx hb dX8_turn_167 rfl (lv_at hl 0 rfl) ?_
                  refine lv_iconst (v := 1) hx hb dX8_turn_168 (by decide) ?_
                  refine lv_icmp_le (tgt := 178) hx hb dX8_turn_169 (by decide) (fun c169 => ?_) (fun c169 => ?_)
                  · exact absurd c169 (by decide)
                  · refine lv_aload_n hx hb dX8_turn_172 rfl (lv_at hl 1 rfl) ?_
                    refine lv_iload_n hx hb dX8_turn_173 rfl (lv_at hl 2 rfl) ?_
                    refine lv_iload_n hx hb dX8_turn_174 rfl (lv_at hl 0 rfl) ?_
                    refine k_callv (va_runV (As := [.int (nI j), .int 2]) (rest := []) ⟨hx, hb, hml, hown, hts⟩ (c_X8_finish l _ m0 ad (stp (u2 σ 20 0 ((σ 20 0) + 1)) nV j) nE j 2 hM (by omega) (show ((stp (u2 σ 20 0 ((σ 20 0) + 1)) nV j)) 16 0 = nI nE from (stp_k 0 (by decide) (by decide) (by decide) (by decide) (by decide)).trans hI.2.2.1) (by omega)) (cwV 2 hts gX8_turn_X8_finish rfl rfl rfl (by decide +kernel) ⟨Nat.le_of_ble_eq_true rfl, Nat.le_of_ble_eq_true rfl⟩) (k_preV hK (k_recv hK.1 hM.1 rfl)) rfl rfl hl.1 rfl (lv_room (Nat.le_of_ble_eq_true rfl)) dX8_turn_175 ⟨(Nat.zero_le _), (Nat.zero_le _)⟩) hS (fun _ h => h) (fun H9 locs hM _ _ hS => ?_)
                    refine lv_iload_n hx hb dX8_turn_178 rfl (lv_at hl 0 rfl) ?_
                    have ht : tn σ nV nE j = (2, (fin (stp (u2 σ 20 0 ((σ 20 0) + 1)) nV j) nE j 2)) := by rw [tn, hwt, cond_false]; unfold tnD; rw [if_neg (fun q => q c67), if_neg (fun q => q.2 c97), if_neg c124, if_pos ⟨c143, c158⟩]
                    exact k_reti hx hb hr hlocks ⟨by rw [ht], by rw [ht]; exact hM⟩ hS dX8_turn_179
            · refine lv_iconst (v := 3) hx hb dX8_turn_127 (by decide) ?_
              refine lv_istore_n (lv' := [(2, .int 3), (0, .ref m0), (1, .int (nI j))]) hx hb dX8_turn_128 rfl hl (by decide) rfl (fun ls hl => ?_)
              refine lv_goto (tgt := 167) hx hb dX8_turn_129 (by decide) ?_
              refine lv_iload_n hx hb dX8_turn_167 rfl (lv_at hl 0 rfl) ?_
              refine lv_iconst (v := 1) hx hb dX8_turn_168 (by decide) ?_
              refine lv_icmp_le (tgt := 178) hx hb dX8_turn_169 (by decide) (fun c169 => ?_) (fun c169 => ?_)
              · exact absurd c169 (by decide)
              · refine lv_aload_n hx hb dX8_turn_172 rfl (lv_at hl 1 rfl) ?_
                refine lv_iload_n hx hb dX8_turn_173 rfl (lv_at hl 2 rfl) ?_
                refine lv_iload_n hx hb dX8_turn_174 rfl (lv_at hl 0 rfl) ?_
                refine k_callv (va_runV (As := [.int (nI j), .int 3]) (rest := []) ⟨hx, hb, hml, hown, hts⟩ (c_X8_finish l _ m0 ad (u2 σ 20 0 ((σ 20 0) + 1)) nE j 3 hM (by omega) (show ((u2 σ 20 0 ((σ 20 0) + 1))) 16 0 = nI nE from hI.2.2.1) (by omega)) (cwV 2 hts gX8_turn_X8_finish rfl rfl rfl (by decide +kernel) ⟨Nat.le_of_ble_eq_true rfl, Nat.le_of_ble_eq_true rfl⟩) (k_preV hK (k_recv hK.1 hM.1 rfl)) rfl rfl hl.1 rfl (lv_room (Nat.le_of_ble_eq_true rfl)) dX8_turn_175 ⟨(Nat.zero_le _), (Nat.zero_le _)⟩) hS (fun _ h => h) (fun H10 locs hM _ _ hS => ?_)
                refine lv_iload_n hx hb dX8_turn_178 rfl (lv_at hl 0 rfl) ?_
                have ht : tn σ nV nE j = (3, (fin (u2 σ 20 0 ((σ 20 0) + 1)) nE j 3)) := by rw [tn, hwt, cond_false]; unfold tnD; rw [if_neg (fun q => q c67), if_neg (fun q => q.2 c97), if_pos c124]
                exact k_reti hx hb hr hlocks ⟨by rw [ht], by rw [ht]; exact hM⟩ hS dX8_turn_179
          · refine lv_aload_n hx hb dX8_turn_100 rfl (lv_at hl 1 rfl) ?_
            refine lv_iload_n hx hb dX8_turn_101 rfl (lv_at hl 2 rfl) ?_
            refine k_callv (va_runV (As := [.int (nI j)]) (rest := []) ⟨hx, hb, hml, hown, hts⟩ (c_X8_commit l _ m0 ad (u2 σ 20 0 ((σ 20 0) + 1)) nV j hM (by omega) hI.2.1 hI.2.2.2.2.1 (by omega)) (cwV 1 hts gX8_turn_X8_commit rfl rfl rfl (by decide +kernel) ⟨Nat.le_of_ble_eq_true rfl, Nat.le_of_ble_eq_true rfl⟩) (k_preV hK (k_recv hK.1 hM.1 rfl)) rfl rfl hl.1 rfl (lv_room (Nat.le_of_ble_eq_true rfl)) dX8_turn_102 ⟨(Nat.zero_le _), (Nat.zero_le _)⟩) hS (fun _ h => h) (fun H11 locs hM _ _ hS => ?_)
            refine lv_iconst (v := 2) hx hb dX8_turn_105 (by decide) ?_
            refine lv_istore_n (lv' := [(2, .int 2), (0, .ref m0), (1, .int (nI j))]) hx hb dX8_turn_106 rfl hl (by decide) rfl (fun ls hl => ?_)
            refine lv_goto (tgt := 167) hx hb dX8_turn_107 (by decide) ?_
            refine lv_iload_n hx hb dX8_turn_167 rfl (lv_at hl 0 rfl) ?_
            refine lv_iconst (v := 1) hx hb dX8_turn_168 (by decide) ?_
            refine lv_icmp_le (tgt := 178) hx hb dX8_turn_169 (by decide) (fun c169 => ?_) (fun c169 => ?_)
            · exact absurd c169 (by decide)
            · refine lv_aload_n hx hb dX8_turn_172 rfl (lv_at hl 1 rfl) ?_
              refine lv_iload_n hx hb dX8_turn_173 rfl (lv_at hl 2 rfl) ?_
              refine lv_iload_n hx hb dX8_turn_174 rfl (lv_at hl 0 rfl) ?_
              refine k_callv (va_runV (As := [.int (nI j), .int 2]) (rest := []) ⟨hx, hb, hml, hown, hts⟩ (c_X8_finish l _ m0 ad (cmt (u2 σ 20 0 ((σ 20 0) + 1)) nV j) nE j 2 hM (by omega) (show ((cmt (u2 σ 20 0 ((σ 20 0) + 1)) nV j)) 16 0 = nI nE from hI.2.2.1) (by omega)) (cwV 2 hts gX8_turn_X8_finish rfl rfl rfl (by decide +kernel) ⟨Nat.le_of_ble_eq_true rfl, Nat.le_of_ble_eq_true rfl⟩) (k_preV hK (k_recv hK.1 hM.1 rfl)) rfl rfl hl.1 rfl (lv_room (Nat.le_of_ble_eq_true rfl)) dX8_turn_175 ⟨(Nat.zero_le _), (Nat.zero_le _)⟩) hS (fun _ h => h) (fun H12 locs hM _ _ hS => ?_)
              refine lv_iload_n hx hb dX8_turn_178 rfl (lv_at hl 0 rfl) ?_
              have ht : tn σ nV nE j = (2, (fin (cmt (u2 σ 20 0 ((σ 20 0) + 1)) nV j) nE j 2)) := by rw [tn, hwt, cond_false]; unfold tnD; rw [if_neg (fun q => q c67), if_pos ⟨c87, c97⟩]
              exact k_reti hx hb hr hlocks ⟨by rw [ht], by rw [ht]; exact hM⟩ hS dX8_turn_179
      · refine lv_iconst (v := 4) hx hb dX8_turn_70 (by decide) ?_
        refine lv_istore_n (lv' := [(2, .int 4), (0, .ref m0), (1, .int (nI j))]) hx hb dX8_turn_71 rfl hl (by decide) rfl (fun ls hl => ?_)
        refine lv_goto (tgt := 167) hx hb dX8_turn_72 (by decide) ?_
        refine lv_iload_n hx hb dX8_turn_167 rfl (lv_at hl 0 rfl) ?_
        refine lv_iconst (v := 1) hx hb dX8_turn_168 (by decide) ?_
        refine lv_icmp_le (tgt := 178) hx hb dX8_turn_169 (by decide) (fun c169 => ?_) (fun c169 => ?_)
        · exact absurd c169 (by decide)
        · refine lv_aload_n hx hb dX8_turn_172 rfl (lv_at hl 1 rfl) ?_
          refine lv_iload_n hx hb dX8_turn_173 rfl (lv_at hl 2 rfl) ?_
          refine lv_iload_n hx hb dX8_turn_174 rfl (lv_at hl 0 rfl) ?_
          refine k_callv (va_runV (As := [.int (nI j), .int 4]) (rest := []) ⟨hx, hb, hml, hown, hts⟩ (c_X8_finish l _ m0 ad (u2 σ 20 0 ((σ 20 0) + 1)) nE j 4 hM (by omega) (show ((u2 σ 20 0 ((σ 20 0) + 1))) 16 0 = nI nE from hI.2.2.1) (by omega)) (cwV 2 hts gX8_turn_X8_finish rfl rfl rfl (by decide +kernel) ⟨Nat.le_of_ble_eq_true rfl, Nat.le_of_ble_eq_true rfl⟩) (k_preV hK (k_recv hK.1 hM.1 rfl)) rfl rfl hl.1 rfl (lv_room (Nat.le_of_ble_eq_true rfl)) dX8_turn_175 ⟨(Nat.zero_le _), (Nat.zero_le _)⟩) hS (fun _ h => h) (fun H13 locs hM _ _ hS => ?_)
          refine lv_iload_n hx hb dX8_turn_178 rfl (lv_at hl 0 rfl) ?_
          have ht : tn σ nV nE j = (4, (fin (u2 σ 20 0 ((σ 20 0) + 1)) nE j 4)) := by rw [tn, hwt, cond_false]; unfold tnD; rw [if_pos c67]
          exact k_reti hx hb hr hlocks ⟨by rw [ht], by rw [ht]; exact hM⟩ hS dX8_turn_179
    · have hwt : wt σ j = true := b2_n c21
      refine lv_aload_n hx hb dX8_turn_24 rfl (lv_at hl 0 rfl) ?_
      refine lv_dup hx hb dX8_turn_25 rfl ?_
      refine k_get (C := RX8) (T := TX8) (N := 22) (v := .int (σ 21 0)) hx hb hts hiX8 hown hK.1 hM.1 rfl 21 (by decide) (hts (.fieldLink RX8 95 "HouseWorkersModel" "didNothing" "I") (by decide +kernel)) (fun _ h9 => h9) rfl dX8_turn_26 ?_
      refine lv_aload_n hx hb dX8_turn_29 rfl (lv_at hl 0 rfl) ?_
      refine k_get (C := RX8) (T := TX8) (N := 22) (v := .ref (ad 12)) hx hb hts hiX8 hown hK.1 hM.1 rfl 12 (by decide) (hts (.fieldLink RX8 41 "HouseWorkersModel" "end" "[I") (by decide +kernel)) (fun _ h9 => h9) rfl dX8_turn_30 ?_
      refine lv_iload_n hx hb dX8_turn_33 rfl (lv_at hl 1 rfl) ?_
      refine k_iald (n := 30) (f := (σ 12)) hx hb hK.1 0 (hM.2.1 12 rfl) rfl j rfl (by omega) (by decide) dX8_turn_34 ?_
      refine lv_if_le (tgt := 42) hx hb dX8_turn_35 (by decide) (fun c35 => ?_) (fun c35 => ?_)
      · have c35 := Int32.not_lt.mpr c35
        refine lv_iconst (v := 1) hx hb dX8_turn_42 (by decide) ?_
        refine lv_iadd hx hb dX8_turn_43 ?_
        refine k_put (A := (Am m0 ad)) (C := RX8) (T := TX8) (N := 22) (ty := .int) (v := .int ((σ 21 0) + 1)) hx hb hts hiX8 tyX8 tyX8_ok nmX8 hown hK.1 hM.1 Am.ob hS rfl 21 (by decide) (hts (.fieldLink RX8 95 "HouseWorkersModel" "didNothing" "I") (by decide +kernel)) (fun _ h9 => h9) rfl (by decide +kernel) rfl rfl (Nat.le_of_ble_eq_true rfl) dX8_turn_44 (fun H14 locs hO15 hz16 hq17 hS => ?_)
        have hM := MD.fld 21 (v := ((σ 21 0) + 1)) hM rfl hO15 hq17
        refine lv_iconst (v := 0) hx hb dX8_turn_47 (by decide) ?_
        have ht : tn σ nV nE j = (0, (u2 σ 21 0 ((σ 21 0) + 1))) := by simp [tn, hwt, c35]
        exact k_reti hx hb hr hlocks ⟨by rw [ht], by rw [ht]; exact hM⟩ hS dX8_turn_48
      · have c35 := Int32.not_le.mp c35
        refine lv_iconst (v := 0) hx hb dX8_turn_38 (by decide) ?_
        refine lv_goto (tgt := 43) hx hb dX8_turn_39 (by decide) ?_
        refine lv_iadd hx hb dX8_turn_43 ?_
        refine k_put (A := (Am m0 ad)) (C := RX8) (T := TX8) (N := 22) (ty := .int) (v := .int ((σ 21 0) + 0)) hx hb hts hiX8 tyX8 tyX8_ok nmX8 hown hK.1 hM.1 Am.ob hS rfl 21 (by decide) (hts (.fieldLink RX8 95 "HouseWorkersModel" "didNothing" "I") (by decide +kernel)) (fun _ h9 => h9) rfl (by decide +kernel) rfl rfl (Nat.le_of_ble_eq_true rfl) dX8_turn_44 (fun H18 locs hO19 hz20 hq21 hS => ?_)
        have hM := MD.fld 21 (v := ((σ 21 0) + 0)) hM rfl hO19 hq21
        refine lv_iconst (v := 0) hx hb dX8_turn_47 (by decide) ?_
        have ht : tn σ nV nE j = (0, (u2 σ 21 0 ((σ 21 0) + 0))) := by simp [tn, hwt, c35]
        exact k_reti hx hb hr hlocks ⟨by rw [ht], by rw [ht]; exact hM⟩ hS dX8_turn_48
  · have hin := b2_0 c11
    have hnn : ¬ inB x 0 (σ 3 0 - 1) = true := by rw [hin]; decide
    rw [if_neg hnn, if_neg hnn]
    refine lv_iconst (v := -1) hx hb dX8_turn_14 (by decide) ?_
    exact k_reti hx hb hr hlocks ⟨rfl, hM⟩ hS dX8_turn_15
