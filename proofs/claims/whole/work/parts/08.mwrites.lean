theorem blk_s {σ : Sg} {nv j c : Nat} {x : Int32} (hx : x = (if σ 4 j = 1 then σ 0 (16 * nv - 16 + c) else 0) + σ 14 (16 * j + c)) (hv : 1 ≤ nv) : u2 (blk σ nv j c) 0 (16 * nv + c) x = blk σ nv j (c + 1) := by
  funext k i
  rw [u2_if]
  unfold blk
  by_cases h1 : k = 0
  · subst h1
    by_cases h2 : i = 16 * nv + c
    · subst h2
      rw [if_pos ⟨rfl, rfl⟩, if_pos ⟨rfl, by omega, by omega⟩, hx, show 16 * nv + c - 16 = 16 * nv - 16 + c by omega, show 16 * nv + c - 16 * nv = c by omega]
    · rw [if_neg (fun q => h2 q.2)]
      by_cases h3 : 16 * nv ≤ i ∧ i < 16 * nv + c
      · rw [if_pos (show 0 = 0 ∧ 16 * nv ≤ i ∧ i < 16 * nv + c from ⟨rfl, h3⟩), if_pos (show 0 = 0 ∧ 16 * nv ≤ i ∧ i < 16 * nv + (c + 1) from ⟨rfl, h3.1, by omega⟩)]
      · rw [if_neg (show ¬ (0 = 0 ∧ 16 * nv ≤ i ∧ i < 16 * nv + c) from fun q => h3 q.2), if_neg (show ¬ (0 = 0 ∧ 16 * nv ≤ i ∧ i < 16 * nv + (c + 1)) from fun q => h3 ⟨q.2.1, by omega⟩)]
  · rw [if_neg (fun q => h1 q.1), if_neg (fun q => h1 q.1), if_neg (fun q => h1 q.1)]
theorem blk_0 (σ : Sg) (nv j : Nat) : blk σ nv j 0 = σ := by
  funext k i
  unfold blk
  rw [if_neg (fun q => by omega)]
theorem blk_k (σ : Sg) (nv j c : Nat) {k : Nat} (h : k ≠ 0) (i : Nat) : blk σ nv j c k i = σ k i := by unfold blk; rw [if_neg (fun q => h q.1)]
theorem blk_i (σ : Sg) (nv j c : Nat) {i : Nat} (h : i < 16 * nv) : blk σ nv j c 0 i = σ 0 i := by unfold blk; rw [if_neg (fun q => by omega)]
theorem tk_s {σ : Sg} {vv j c : Nat} {x : Int32} (hx : x = σ 0 (16 * vv + c)) : u2 (tk σ vv j c) 14 (16 * j + c) x = tk σ vv j (c + 1) := by
  funext k i
  rw [u2_if]
  unfold tk
  by_cases h1 : k = 14
  · subst h1
    by_cases h2 : i = 16 * j + c
    · subst h2
      rw [if_pos ⟨rfl, rfl⟩, if_pos ⟨rfl, by omega, by omega⟩, hx, show 16 * j + c - 16 * j = c by omega]
    · rw [if_neg (fun q => h2 q.2)]
      by_cases h3 : 16 * j ≤ i ∧ i < 16 * j + c
      · rw [if_pos ⟨rfl, h3⟩, if_pos ⟨rfl, h3.1, by omega⟩]
      · rw [if_neg (fun q => h3 q.2), if_neg (fun q => h3 ⟨q.2.1, by omega⟩)]
  · rw [if_neg (fun q => h1 q.1), if_neg (fun q => h1 q.1), if_neg (fun q => h1 q.1)]
theorem tk_0 (σ : Sg) (vv j : Nat) : tk σ vv j 0 = σ := by
  funext k i
  unfold tk
  rw [if_neg (fun q => by omega)]
theorem tk_k (σ : Sg) (vv j c : Nat) {k : Nat} (h : k ≠ 14) (i : Nat) : tk σ vv j c k i = σ k i := by unfold tk; rw [if_neg (fun q => h q.1)]
theorem bfr_s {σ : Sg} {j c : Nat} {x : Int32} (hx : x = σ 14 (16 * j + c)) : u2 (bfr σ j c) 15 c x = bfr σ j (c + 1) := by
  funext k i
  rw [u2_if]
  unfold bfr
  by_cases h1 : k = 15
  · subst h1
    by_cases h2 : i = c
    · subst h2
      rw [if_pos ⟨rfl, rfl⟩, if_pos ⟨rfl, by omega⟩, hx]
    · rw [if_neg (fun q => h2 q.2)]
      by_cases h3 : i < c
      · rw [if_pos ⟨rfl, h3⟩, if_pos ⟨rfl, by omega⟩]
      · rw [if_neg (fun q => h3 q.2), if_neg (fun q => h3 (by omega))]
  · rw [if_neg (fun q => h1 q.1), if_neg (fun q => h1 q.1), if_neg (fun q => h1 q.1)]
theorem bfr_0 (σ : Sg) (j : Nat) : bfr σ j 0 = σ := by
  funext k i
  unfold bfr
  rw [if_neg (fun q => by omega)]
theorem bfr_k (σ : Sg) (j c : Nat) {k : Nat} (h : k ≠ 15) (i : Nat) : bfr σ j c k i = σ k i := by unfold bfr; rw [if_neg (fun q => h q.1)]
theorem spr_s {σ : Sg} {j c : Nat} {x : Int32} (hx : x = rnd (σ 15) c) : u2 (spr σ j c) 14 (16 * j + c) x = spr σ j (c + 1) := by
  funext k i
  rw [u2_if]
  unfold spr
  by_cases h1 : k = 14
  · subst h1
    by_cases h2 : i = 16 * j + c
    · subst h2
      rw [if_pos ⟨rfl, rfl⟩, if_pos ⟨rfl, by omega, by omega⟩, hx, show 16 * j + c - 16 * j = c by omega]
    · rw [if_neg (fun q => h2 q.2)]
      by_cases h3 : 16 * j ≤ i ∧ i < 16 * j + c
      · rw [if_pos ⟨rfl, h3⟩, if_pos ⟨rfl, h3.1, by omega⟩]
      · rw [if_neg (fun q => h3 q.2), if_neg (fun q => h3 ⟨q.2.1, by omega⟩)]
  · rw [if_neg (fun q => h1 q.1), if_neg (fun q => h1 q.1), if_neg (fun q => h1 q.1)]
theorem spr_0 (σ : Sg) (j : Nat) : spr σ j 0 = σ := by
  funext k i
  unfold spr
  rw [if_neg (fun q => by omega)]
theorem spr_k (σ : Sg) (j c : Nat) {k : Nat} (h : k ≠ 14) (i : Nat) : spr σ j c k i = σ k i := by unfold spr; rw [if_neg (fun q => h q.1)]
theorem ix16 (a c : Nat) : (16 : Int32) * nI a + nI c = nI (16 * a + c) := by
  rw [show (16 : Int32) = nI 16 from rfl, pk_mul, nI_add]
set_option maxHeartbeats 4000000 in
set_option maxRecDepth 100000 in
theorem c_X8_finish (l : Launch) {D : va_G} {cI cZ cO : ClassId} {mi : Nat} (H : Heap) (m0 : Nat) (ad : Nat → Nat) (σ : Sg) (e0 j : Nat) (how : Int32) (hM : MD D cI cZ m0 ad σ H) (hj : j < 30) (he : σ 16 0 = nI e0) (he2 : e0 < 30) : Met l yX8_finish wsX8_finish ({ frames := 0, cells := 0, slots := 0, locals := 0 }) (Pk D cI cZ cO mi [.ref m0, .int (nI j), .int how] H) (Qkv (fun H1 => MD D cI cZ m0 ad (fin σ e0 j how) H1) (Am m0 ad)) 0 0 (Am m0 ad) := by
  refine Met.ofW (cc := cX8_finish) (maxL := 3) (ret := none) (by decide) rfl ?_
  intro p e s m args below meth c s₁ B hml hv
  obtain ⟨rfl, rfl, hK⟩ := hv
  have hx := B.exec
  have hb := B.bytes
  have hr := B.returns
  have hts := atoms_spec (ws := wsX8_finish) B.pre
  have hown : s.vm.findClass RX8 = some m.cls := findClass_of_methodNamed B.named
  have hlocks := B.notSynchronized
  have hS : va_S (Am m0 ad) s.heap s.heap [] := va_S.rf
  have hl := lv_entry ([.ref m0, .int (nI j), .int how]) (n := 3) (Nat.le_of_ble_eq_true rfl)
  rw [lg_entry_eq]
  generalize (lg_sl ([.ref m0, .int (nI j), .int how]) ++ List.replicate (3 - (lg_sl ([.ref m0, .int (nI j), .int how])).length) Slot.unset).toArray = ls at hl ⊢
  have hl : lv_has ls 3 [(0, .ref m0), (1, .int (nI j)), (2, .int how)] := hl
  have hiX8 : ∀ w ∈ wsX80, w ∈ wsX8_finish := by decide +kernel
  refine lv_aload_n hx hb dX8_finish_0 rfl (lv_at hl 0 rfl) ?_
  refine k_get (C := RX8) (T := TX8) (N := 22) (v := .ref (ad 12)) hx hb hts hiX8 hown hK.1 hM.1 rfl 12 (by decide) (hts (.fieldLink RX8 41 "HouseWorkersModel" "end" "[I") (by decide +kernel)) (fun _ h9 => h9) rfl dX8_finish_1 ?_
  refine lv_iload_n hx hb dX8_finish_4 rfl (lv_at hl 1 rfl) ?_
  refine lv_iload_n hx hb dX8_finish_5 rfl (lv_at hl 2 rfl) ?_
  refine k_iast (A := (Am m0 ad)) (n := 30) (f := (σ 12)) (x := how) hx hb hK.1 0 (hM.2.1 12 rfl) (Am.arr 12 rfl) hS rfl j rfl (by omega) (by decide) dX8_finish_6 (fun H1 locs hO2 hz3 hq4 hS => ?_)
  have hM := MD.arr 12 (i := j) (v := how) hM rfl hO2 hq4
  refine lv_aload_n hx hb dX8_finish_7 rfl (lv_at hl 0 rfl) ?_
  refine k_get (C := RX8) (T := TX8) (N := 22) (v := .ref (ad 17)) hx hb hts hiX8 hown hK.1 hM.1 rfl 17 (by decide) (hts (.fieldLink RX8 54 "HouseWorkersModel" "endWho" "[I") (by decide +kernel)) (fun _ h9 => h9) rfl dX8_finish_8 ?_
  refine lv_aload_n hx hb dX8_finish_11 rfl (lv_at hl 0 rfl) ?_
  refine k_get (C := RX8) (T := TX8) (N := 22) (v := .int ((u2 σ 12 j how) 16 0)) hx hb hts hiX8 hown hK.1 hM.1 rfl 16 (by decide) (hts (.fieldLink RX8 82 "HouseWorkersModel" "ends" "I") (by decide +kernel)) (fun _ h9 => h9) rfl dX8_finish_12 ?_
  refine lv_iload_n hx hb dX8_finish_15 rfl (lv_at hl 1 rfl) ?_
  refine k_iast (A := (Am m0 ad)) (n := 30) (f := ((u2 σ 12 j how) 17)) (x := (nI j)) hx hb hK.1 0 (hM.2.1 17 rfl) (Am.arr 17 rfl) hS rfl e0 he he2 (by decide) dX8_finish_16 (fun H5 locs hO6 hz7 hq8 hS => ?_)
  have hM := MD.arr 17 (i := e0) (v := (nI j)) hM rfl hO6 hq8
  refine lv_aload_n hx hb dX8_finish_17 rfl (lv_at hl 0 rfl) ?_
  refine k_get (C := RX8) (T := TX8) (N := 22) (v := .ref (ad 18)) hx hb hts hiX8 hown hK.1 hM.1 rfl 18 (by decide) (hts (.fieldLink RX8 57 "HouseWorkersModel" "endHow" "[I") (by decide +kernel)) (fun _ h9 => h9) rfl dX8_finish_18 ?_
  refine lv_aload_n hx hb dX8_finish_21 rfl (lv_at hl 0 rfl) ?_
  refine k_get (C := RX8) (T := TX8) (N := 22) (v := .int ((u2 (u2 σ 12 j how) 17 e0 (nI j)) 16 0)) hx hb hts hiX8 hown hK.1 hM.1 rfl 16 (by decide) (hts (.fieldLink RX8 82 "HouseWorkersModel" "ends" "I") (by decide +kernel)) (fun _ h9 => h9) rfl dX8_finish_22 ?_
  refine lv_iload_n hx hb dX8_finish_25 rfl (lv_at hl 2 rfl) ?_
  refine k_iast (A := (Am m0 ad)) (n := 30) (f := ((u2 (u2 σ 12 j how) 17 e0 (nI j)) 18)) (x := how) hx hb hK.1 0 (hM.2.1 18 rfl) (Am.arr 18 rfl) hS rfl e0 he he2 (by decide) dX8_finish_26 (fun H9 locs hO10 hz11 hq12 hS => ?_)
  have hM := MD.arr 18 (i := e0) (v := how) hM rfl hO10 hq12
  refine lv_aload_n hx hb dX8_finish_27 rfl (lv_at hl 0 rfl) ?_
  refine k_get (C := RX8) (T := TX8) (N := 22) (v := .ref (ad 19)) hx hb hts hiX8 hown hK.1 hM.1 rfl 19 (by decide) (hts (.fieldLink RX8 60 "HouseWorkersModel" "endWhen" "[I") (by decide +kernel)) (fun _ h9 => h9) rfl dX8_finish_28 ?_
  refine lv_aload_n hx hb dX8_finish_31 rfl (lv_at hl 0 rfl) ?_
  refine k_get (C := RX8) (T := TX8) (N := 22) (v := .int ((u2 (u2 (u2 σ 12 j how) 17 e0 (nI j)) 18 e0 how) 16 0)) hx hb hts hiX8 hown hK.1 hM.1 rfl 16 (by decide) (hts (.fieldLink RX8 82 "HouseWorkersModel" "ends" "I") (by decide +kernel)) (fun _ h9 => h9) rfl dX8_finish_32 ?_
  refine lv_aload_n hx hb dX8_finish_35 rfl (lv_at hl 0 rfl) ?_
  refine k_get (C := RX8) (T := TX8) (N := 22) (v := .int ((u2 (u2 (u2 σ 12 j how) 17 e0 (nI j)) 18 e0 how) 20 0)) hx hb hts hiX8 hown hK.1 hM.1 rfl 20 (by decide) (hts (.fieldLink RX8 85 "HouseWorkersModel" "did" "I") (by decide +kernel)) (fun _ h9 => h9) rfl dX8_finish_36 ?_
  refine k_iast (A := (Am m0 ad)) (n := 30) (f := ((u2 (u2 (u2 σ 12 j how) 17 e0 (nI j)) 18 e0 how) 19)) (x := ((u2 (u2 (u2 σ 12 j how) 17 e0 (nI j)) 18 e0 how) 20 0)) hx hb hK.1 0 (hM.2.1 19 rfl) (Am.arr 19 rfl) hS rfl e0 he he2 (by decide) dX8_finish_39 (fun H13 locs hO14 hz15 hq16 hS => ?_)
  have hM := MD.arr 19 (i := e0) (v := ((u2 (u2 (u2 σ 12 j how) 17 e0 (nI j)) 18 e0 how) 20 0)) hM rfl hO14 hq16
  refine lv_aload_n hx hb dX8_finish_40 rfl (lv_at hl 0 rfl) ?_
  refine lv_dup hx hb dX8_finish_41 rfl ?_
  refine k_get (C := RX8) (T := TX8) (N := 22) (v := .int ((u2 (u2 (u2 (u2 σ 12 j how) 17 e0 (nI j)) 18 e0 how) 19 e0 ((u2 (u2 (u2 σ 12 j how) 17 e0 (nI j)) 18 e0 how) 20 0)) 16 0)) hx hb hts hiX8 hown hK.1 hM.1 rfl 16 (by decide) (hts (.fieldLink RX8 82 "HouseWorkersModel" "ends" "I") (by decide +kernel)) (fun _ h9 => h9) rfl dX8_finish_42 ?_
  refine lv_iconst (v := 1) hx hb dX8_finish_45 (by decide) ?_
  refine lv_iadd hx hb dX8_finish_46 ?_
  refine k_put (A := (Am m0 ad)) (C := RX8) (T := TX8) (N := 22) (ty := .int) (v := .int (((u2 (u2 (u2 (u2 σ 12 j how) 17 e0 (nI j)) 18 e0 how) 19 e0 ((u2 (u2 (u2 σ 12 j how) 17 e0 (nI j)) 18 e0 how) 20 0)) 16 0) + 1)) hx hb hts hiX8 tyX8 tyX8_ok nmX8 hown hK.1 hM.1 Am.ob hS rfl 16 (by decide) (hts (.fieldLink RX8 82 "HouseWorkersModel" "ends" "I") (by decide +kernel)) (fun _ h9 => h9) rfl (by decide +kernel) rfl rfl (Nat.le_of_ble_eq_true rfl) dX8_finish_47 (fun H17 locs hO18 hz19 hq20 hS => ?_)
  have hM := MD.fld 16 (v := (((u2 (u2 (u2 (u2 σ 12 j how) 17 e0 (nI j)) 18 e0 how) 19 e0 ((u2 (u2 (u2 σ 12 j how) 17 e0 (nI j)) 18 e0 how) 20 0)) 16 0) + 1)) hM rfl hO18 hq20
  exact k_retv hx hb hr hlocks hM hS dX8_finish_50
set_option maxHeartbeats 4000000 in
set_option maxRecDepth 100000 in
theorem c_X8_commit (l : Launch) {D : va_G} {cI cZ cO : ClassId} {mi : Nat} (H : Heap) (m0 : Nat) (ad : Nat → Nat) (σ : Sg) (nv j : Nat) (hM : MD D cI cZ m0 ad σ H) (hj : j < 30) (hv : σ 1 0 = nI nv) (hv1 : 1 ≤ nv) (hv2 : nv ≤ 39) : Met l yX8_commit wsX8_commit ({ frames := 0, cells := 0, slots := 0, locals := 0 }) (Pk D cI cZ cO mi [.ref m0, .int (nI j)] H) (Qkv (fun H1 => MD D cI cZ m0 ad (cmt σ nv j) H1) (Am m0 ad)) 0 0 (Am m0 ad) := by
  refine Met.ofW (cc := cX8_commit) (maxL := 4) (ret := none) (by decide) rfl ?_
  intro p e s m args below meth c s₁ B hml hv
  obtain ⟨rfl, rfl, hK⟩ := hv
  have hx := B.exec
  have hb := B.bytes
  have hr := B.returns
  have hts := atoms_spec (ws := wsX8_commit) B.pre
  have hown : s.vm.findClass RX8 = some m.cls := findClass_of_methodNamed B.named
  have hlocks := B.notSynchronized
  have hS : va_S (Am m0 ad) s.heap s.heap [] := va_S.rf
  have hl := lv_entry ([.ref m0, .int (nI j)]) (n := 4) (Nat.le_of_ble_eq_true rfl)
  rw [lg_entry_eq]
  generalize (lg_sl ([.ref m0, .int (nI j)]) ++ List.replicate (4 - (lg_sl ([.ref m0, .int (nI j)])).length) Slot.unset).toArray = ls at hl ⊢
  have hl : lv_has ls 4 [(0, .ref m0), (1, .int (nI j))] := hl
  have hiX8 : ∀ w ∈ wsX80, w ∈ wsX8_commit := by decide +kernel
  refine lv_bipush (v := 16) hx hb dX8_commit_0 (by decide) ?_
  refine lv_aload_n hx hb dX8_commit_2 rfl (lv_at hl 0 rfl) ?_
  refine k_get (C := RX8) (T := TX8) (N := 22) (v := .int (σ 1 0)) hx hb hts hiX8 hown hK.1 hM.1 rfl 1 (by decide) (hts (.fieldLink RX8 13 "HouseWorkersModel" "versions" "I") (by decide +kernel)) (fun _ h9 => h9) rfl dX8_commit_3 ?_
  refine lv_imul hx hb dX8_commit_6 ?_
  rw [show (16 : Int32) * σ 1 0 = nI (16 * nv) by rw [hv]; exact pk_mul 16 nv]
  refine lv_istore_n (lv' := [(2, .int (nI (16 * nv))), (0, .ref m0), (1, .int (nI j))]) hx hb dX8_commit_7 rfl hl (by decide) rfl (fun ls hl => ?_)
  refine lv_iconst (v := 0) hx hb dX8_commit_8 (by decide) ?_
  refine lv_istore_n (lv' := [(3, .int 0), (2, .int (nI (16 * nv))), (0, .ref m0), (1, .int (nI j))]) hx hb dX8_commit_9 rfl hl (by decide) rfl (fun ls hl => ?_)
  have loop : ∀ (n : Nat), ∀ (i : Nat), i ≤ 16 → 17 ≤ i + n → ∀ (H : Heap) (locs : List Loc), MD D cI cZ m0 ad (blk σ nv j i) H → va_S (Am m0 ad) s.heap H locs → ∀ ls : Array Slot, lv_has ls 4 [(3, .int (nI i)), (2, .int (nI (16 * nv))), (0, .ref m0), (1, .int (nI j))] → W p l e (headSpec wsX8_commit ({ frames := 0, cells := 0, slots := 0, locals := 0 })).room s m ([.ref m0, .int (nI j)] : List Value).toArray below meth c H locs 0 0 (MQ below (Qkv (fun H1 => MD D cI cZ m0 ad (cmt σ nv j) H1) (Am m0 ad)) ([.ref m0, .int (nI j)] : List Value).toArray s 0 0 (Am m0 ad)) (F0 m 10 ls []) := by
    intro n
    induction n with
    | zero => intro i h1 h2; exact absurd h2 (by omega)
    | succ n ih =>
      intro i hi hn H locs hM hS ls hl
      refine lv_iload_n hx hb dX8_commit_10 rfl (lv_at hl 0 rfl) ?_
      refine lv_bipush (v := 16) hx hb dX8_commit_11 (by decide) ?_
      refine lv_icmp_ge (tgt := 67) hx hb dX8_commit_13 (by decide) (fun c13 => ?_) (fun c13 => ?_)
      · have c13 := Int32.not_lt.mpr c13
        have c13 : ¬ nI i < nI 16 := c13
        have hij : i = 16 := Nat.le_antisymm (by omega) (Nat.le_of_not_lt (fun q => c13 (nI_lt q (by omega))))
        subst hij
        refine lv_aload_n hx hb dX8_commit_67 rfl (lv_at hl 2 rfl) ?_
        refine k_get (C := RX8) (T := TX8) (N := 22) (v := .ref (ad 11)) hx hb hts hiX8 hown hK.1 hM.1 rfl 11 (by decide) (hts (.fieldLink RX8 38 "HouseWorkersModel" "version" "[I") (by decide +kernel)) (fun _ h9 => h9) rfl dX8_commit_68 ?_
        refine lv_iload_n hx hb dX8_commit_71 rfl (lv_at hl 3 rfl) ?_
        refine lv_aload_n hx hb dX8_commit_72 rfl (lv_at hl 2 rfl) ?_
        refine k_get (C := RX8) (T := TX8) (N := 22) (v := .int ((blk σ nv j 16) 1 0)) hx hb hts hiX8 hown hK.1 hM.1 rfl 1 (by decide) (hts (.fieldLink RX8 13 "HouseWorkersModel" "versions" "I") (by decide +kernel)) (fun _ h9 => h9) rfl dX8_commit_73 ?_
        refine k_iast (A := (Am m0 ad)) (n := 30) (f := ((blk σ nv j 16) 11)) (x := ((blk σ nv j 16) 1 0)) hx hb hK.1 0 (hM.2.1 11 rfl) (Am.arr 11 rfl) hS rfl j rfl (by omega) (by decide) dX8_commit_76 (fun H1 locs hO2 hz3 hq4 hS => ?_)
        have hM := MD.arr 11 (i := j) (v := ((blk σ nv j 16) 1 0)) hM rfl hO2 hq4
        refine lv_aload_n hx hb dX8_commit_77 rfl (lv_at hl 2 rfl) ?_
        refine lv_dup hx hb dX8_commit_78 rfl ?_
        refine k_get (C := RX8) (T := TX8) (N := 22) (v := .int ((u2 (blk σ nv j 16) 11 j ((blk σ nv j 16) 1 0)) 1 0)) hx hb hts hiX8 hown hK.1 hM.1 rfl 1 (by decide) (hts (.fieldLink RX8 13 "HouseWorkersModel" "versions" "I") (by decide +kernel)) (fun _ h9 => h9) rfl dX8_commit_79 ?_
        refine lv_iconst (v := 1) hx hb dX8_commit_82 (by decide) ?_
        refine lv_iadd hx hb dX8_commit_83 ?_
        refine k_put (A := (Am m0 ad)) (C := RX8) (T := TX8) (N := 22) (ty := .int) (v := .int (((u2 (blk σ nv j 16) 11 j ((blk σ nv j 16) 1 0)) 1 0) + 1)) hx hb hts hiX8 tyX8 tyX8_ok nmX8 hown hK.1 hM.1 Am.ob hS rfl 1 (by decide) (hts (.fieldLink RX8 13 "HouseWorkersModel" "versions" "I") (by decide +kernel)) (fun _ h9 => h9) rfl (by decide +kernel) rfl rfl (Nat.le_of_ble_eq_true rfl) dX8_commit_84 (fun H5 locs hO6 hz7 hq8 hS => ?_)
        have hM := MD.fld 1 (v := (((u2 (blk σ nv j 16) 11 j ((blk σ nv j 16) 1 0)) 1 0) + 1)) hM rfl hO6 hq8
        exact k_retv hx hb hr hlocks hM hS dX8_commit_87
      · have c13 := Int32.not_le.mp c13
        have hlt : i < 16 := (nI_ltI (by omega) (by omega)).mp c13
        have hlt2 : 16 * nv - 16 + i < 16 * nv := by omega
        refine lv_aload_n hx hb dX8_commit_16 rfl (lv_at hl 2 rfl) ?_
        refine k_get (C := RX8) (T := TX8) (N := 22) (v := .ref (ad 0)) hx hb hts hiX8 hown hK.1 hM.1 rfl 0 (by decide) (hts (.fieldLink RX8 7 "HouseWorkersModel" "cells" "[I") (by decide +kernel)) (fun _ h9 => h9) rfl dX8_commit_17 ?_
        refine lv_iload_n hx hb dX8_commit_20 rfl (lv_at hl 1 rfl) ?_
        refine lv_iload_n hx hb dX8_commit_21 rfl (lv_at hl 0 rfl) ?_
        refine lv_iadd hx hb dX8_commit_22 ?_
        refine lv_aload_n hx hb dX8_commit_23 rfl (lv_at hl 2 rfl) ?_
        refine k_get (C := RX8) (T := TX8) (N := 22) (v := .ref (ad 4)) hx hb hts hiX8 hown hK.1 hM.1 rfl 4 (by decide) (hts (.fieldLink RX8 17 "HouseWorkersModel" "kind" "[I") (by decide +kernel)) (fun _ h9 => h9) rfl dX8_commit_24 ?_
        refine lv_iload_n hx hb dX8_commit_27 rfl (lv_at hl 3 rfl) ?_
        refine k_iald (n := 30) (f := ((blk σ nv j i) 4)) hx hb hK.1 0 (hM.2.1 4 rfl) rfl j rfl (by omega) (by decide) dX8_commit_28 ?_
        refine lv_iconst (v := 1) hx hb dX8_commit_29 (by decide) ?_
        refine lv_icmp_ne (tgt := 47) hx hb dX8_commit_30 (by decide) (fun c30 => ?_) (fun c30 => ?_)
        · have c30 : ¬ σ 4 j = 1 := fun q => c30 ((blk_k σ nv j i (by decide) j).trans q)
          refine lv_iconst (v := 0) hx hb dX8_commit_47 (by decide) ?_
          refine lv_aload_n hx hb dX8_commit_48 rfl (lv_at hl 2 rfl) ?_
          refine k_get (C := RX8) (T := TX8) (N := 22) (v := .ref (ad 14)) hx hb hts hiX8 hown hK.1 hM.1 rfl 14 (by decide) (hts (.fieldLink RX8 48 "HouseWorkersModel" "draft" "[I") (by decide +kernel)) (fun _ h9 => h9) rfl dX8_commit_49 ?_
          refine lv_bipush (v := 16) hx hb dX8_commit_52 (by decide) ?_
          refine lv_iload_n hx hb dX8_commit_54 rfl (lv_at hl 3 rfl) ?_
          refine lv_imul hx hb dX8_commit_55 ?_
          refine lv_iload_n hx hb dX8_commit_56 rfl (lv_at hl 0 rfl) ?_
          refine lv_iadd hx hb dX8_commit_57 ?_
          refine k_iald (n := 480) (f := ((blk σ nv j i) 14)) hx hb hK.1 0 (hM.2.1 14 rfl) rfl (16 * j + i) (ix16 _ _) (by omega) (by decide) dX8_commit_58 ?_
          refine lv_iadd hx hb dX8_commit_59 ?_
          refine k_iast (A := (Am m0 ad)) (n := 640) (f := ((blk σ nv j i) 0)) (x := (0 + ((blk σ nv j i) 14 (16 * j + i)))) hx hb hK.1 0 (hM.2.1 0 rfl) (Am.arr 0 rfl) hS rfl (16 * nv + i) (nI_add _ _) (by omega) (by decide) dX8_commit_60 (fun H9 locs hO10 hz11 hq12 hS => ?_)
          have hM := MD.arr 0 (i := 16 * nv + i) (v := (0 + ((blk σ nv j i) 14 (16 * j + i)))) hM rfl hO10 hq12
          refine lv_iinc (v := nI (i + 1)) (lv' := [(3, .int (nI (i + 1))), (2, .int (nI (16 * nv))), (0, .ref m0), (1, .int (nI j))]) hx hb dX8_commit_61 hl (k := 0) rfl (by rw [← nI_1]; rfl) (by decide) rfl (fun ls hl => ?_)
          refine lv_goto (tgt := 10) hx hb dX8_commit_64 (by decide) ?_
          exact ih (i + 1) (by omega) (by omega) _ locs (hM.eq (blk_s (by simp [blk_k, blk_i, hlt2, c30]) hv1)) hS ls (lv_sub hl [0, 1, 2, 3] rfl)
        · have c30 : σ 4 j = 1 := (blk_k σ nv j i (by decide) j).symm.trans c30
          refine lv_aload_n hx hb dX8_commit_33 rfl (lv_at hl 2 rfl) ?_
          refine k_get (C := RX8) (T := TX8) (N := 22) (v := .ref (ad 0)) hx hb hts hiX8 hown hK.1 hM.1 rfl 0 (by decide) (hts (.fieldLink RX8 7 "HouseWorkersModel" "cells" "[I") (by decide +kernel)) (fun _ h9 => h9) rfl dX8_commit_34 ?_
          refine lv_iload_n hx hb dX8_commit_37 rfl (lv_at hl 1 rfl) ?_
          refine lv_bipush (v := 16) hx hb dX8_commit_38 (by decide) ?_
          refine lv_isub hx hb dX8_commit_40 ?_
          refine lv_iload_n hx hb dX8_commit_41 rfl (lv_at hl 0 rfl) ?_
          refine lv_iadd hx hb dX8_commit_42 ?_
          refine k_iald (n := 640) (f := ((blk σ nv j i) 0)) hx hb hK.1 0 (hM.2.1 0 rfl) rfl (16 * nv - 16 + i) (by rw [show (16 : Int32) = nI 16 from rfl, pk_sub (by omega), nI_add]) (by omega) (by decide) dX8_commit_43 ?_
          refine lv_goto (tgt := 48) hx hb dX8_commit_44 (by decide) ?_
          refine lv_aload_n hx hb dX8_commit_48 rfl (lv_at hl 2 rfl) ?_
          refine k_get (C := RX8) (T := TX8) (N := 22) (v := .ref (ad 14)) hx hb hts hiX8 hown hK.1 hM.1 rfl 14 (by decide) (hts (.fieldLink RX8 48 "HouseWorkersModel" "draft" "[I") (by decide +kernel)) (fun _ h9 => h9) rfl dX8_commit_49 ?_
          refine lv_bipush (v := 16) hx hb dX8_commit_52 (by decide) ?_
          refine lv_iload_n hx hb dX8_commit_54 rfl (lv_at hl 3 rfl) ?_
          refine lv_imul hx hb dX8_commit_55 ?_
          refine lv_iload_n hx hb dX8_commit_56 rfl (lv_at hl 0 rfl) ?_
          refine lv_iadd hx hb dX8_commit_57 ?_
          refine k_iald (n := 480) (f := ((blk σ nv j i) 14)) hx hb hK.1 0 (hM.2.1 14 rfl) rfl (16 * j + i) (ix16 _ _) (by omega) (by decide) dX8_commit_58 ?_
          refine lv_iadd hx hb dX8_commit_59 ?_
          refine k_iast (A := (Am m0 ad)) (n := 640) (f := ((blk σ nv j i) 0)) (x := (((blk σ nv j i) 0 (16 * nv - 16 + i)) + ((blk σ nv j i) 14 (16 * j + i)))) hx hb hK.1 0 (hM.2.1 0 rfl) (Am.arr 0 rfl) hS rfl (16 * nv + i) (nI_add _ _) (by omega) (by decide) dX8_commit_60 (fun H13 locs hO14 hz15 hq16 hS => ?_)
          have hM := MD.arr 0 (i := 16 * nv + i) (v := (((blk σ nv j i) 0 (16 * nv - 16 + i)) + ((blk σ nv j i) 14 (16 * j + i)))) hM rfl hO14 hq16
          refine lv_iinc (v := nI (i + 1)) (lv' := [(3, .int (nI (i + 1))), (2, .int (nI (16 * nv))), (0, .ref m0), (1, .int (nI j))]) hx hb dX8_commit_61 hl (k := 0) rfl (by rw [← nI_1]; rfl) (by decide) rfl (fun ls hl => ?_)
          refine lv_goto (tgt := 10) hx hb dX8_commit_64 (by decide) ?_
          exact ih (i + 1) (by omega) (by omega) _ locs (hM.eq (blk_s (by simp [blk_k, blk_i, hlt2, c30]) hv1)) hS ls (lv_sub hl [0, 1, 2, 3] rfl)
  exact loop 17 0 (Nat.zero_le _) (by omega) _ _ (hM.eq (blk_0 σ nv j).symm) hS ls (lv_sub hl [0, 1, 2, 3] rfl)
set_option maxHeartbeats 4000000 in
set_option maxRecDepth 100000 in
theorem c_X8_round (l : Launch) {D : va_G} {cI cZ cO : ClassId} {mi : Nat} (H : Heap) (m0 : Nat) (ad : Nat → Nat) (σ : Sg) (nv j : Nat) (hM : MD D cI cZ m0 ad σ H) (hj : j < 30) (hv : σ 1 0 = nI nv) (hv1 : 1 ≤ nv) (hv2 : nv ≤ 39) : Met l yX8_round wsX8_round ({ frames := 0, cells := 0, slots := 0, locals := 0 }) (Pk D cI cZ cO mi [.ref m0, .int (nI j)] H) (Qkv (fun H1 => MD D cI cZ m0 ad (rd σ nv j) H1) (Am m0 ad)) 0 0 (Am m0 ad) := by
  refine Met.ofW (cc := cX8_round) (maxL := 4) (ret := none) (by decide) rfl ?_
  intro p e s m args below meth c s₁ B hml hv
  obtain ⟨rfl, rfl, hK⟩ := hv
  have hx := B.exec
  have hb := B.bytes
  have hr := B.returns
  have hts := atoms_spec (ws := wsX8_round) B.pre
  have hown : s.vm.findClass RX8 = some m.cls := findClass_of_methodNamed B.named
  have hlocks := B.notSynchronized
  have hS : va_S (Am m0 ad) s.heap s.heap [] := va_S.rf
  have hl := lv_entry ([.ref m0, .int (nI j)]) (n := 4) (Nat.le_of_ble_eq_true rfl)
  rw [lg_entry_eq]
  generalize (lg_sl ([.ref m0, .int (nI j)]) ++ List.replicate (4 - (lg_sl ([.ref m0, .int (nI j)])).length) Slot.unset).toArray = ls at hl ⊢
  have hl : lv_has ls 4 [(0, .ref m0), (1, .int (nI j))] := hl
  have hiX8 : ∀ w ∈ wsX80, w ∈ wsX8_round := by decide +kernel
  have loop3 : ∀ (n : Nat), ∀ (i : Nat) (β : Sg), β = bfr (rdT σ nv j) j 16 → i ≤ 16 → 17 ≤ i + n → ∀ (H : Heap) (locs : List Loc), MD D cI cZ m0 ad (spr β j i) H → va_S (Am m0 ad) s.heap H locs → ∀ ls : Array Slot, lv_has ls 4 [(2, .int (nI i)), (0, .ref m0), (1, .int (nI j))] → W p l e (headSpec wsX8_round ({ frames := 0, cells := 0, slots := 0, locals := 0 })).room s m ([.ref m0, .int (nI j)] : List Value).toArray below meth c H locs 0 0 (MQ below (Qkv (fun H1 => MD D cI cZ m0 ad (rd σ nv j) H1) (Am m0 ad)) ([.ref m0, .int (nI j)] : List Value).toArray s 0 0 (Am m0 ad)) (F0 m 95 ls []) := by
    intro n
    induction n with
    | zero => intro i β _ h1 h2; exact absurd h2 (by omega)
    | succ n ih =>
      intro i β hβ hi hn H locs hM hS ls hl
      refine lv_iload_n hx hb dX8_round_95 rfl (lv_at hl 0 rfl) ?_
      refine lv_bipush (v := 16) hx hb dX8_round_96 (by decide) ?_
      refine lv_icmp_ge (tgt := 151) hx hb dX8_round_98 (by decide) (fun c98 => ?_) (fun c98 => ?_)
      · have c98 := Int32.not_lt.mpr c98
        have c98 : ¬ nI i < nI 16 := c98
        have hij : i = 16 := Nat.le_antisymm (by omega) (Nat.le_of_not_lt (fun q => c98 (nI_lt q (by omega))))
        subst hij
        exact k_retv hx hb hr hlocks (hM.eq (by rw [hβ]; rfl)) hS dX8_round_151
      · have c98 := Int32.not_le.mp c98
        have hlt : i < 16 := (nI_ltI (by omega) (by omega)).mp c98
        refine lv_aload_n hx hb dX8_round_101 rfl (lv_at hl 1 rfl) ?_
        refine k_get (C := RX8) (T := TX8) (N := 22) (v := .ref (ad 15)) hx hb hts hiX8 hown hK.1 hM.1 rfl 15 (by decide) (hts (.fieldLink RX8 51 "HouseWorkersModel" "before" "[I") (by decide +kernel)) (fun _ h9 => h9) rfl dX8_round_102 ?_
        refine lv_iload_n hx hb dX8_round_105 rfl (lv_at hl 0 rfl) ?_
        refine lv_bipush (v := 15) hx hb dX8_round_106 (by decide) ?_
        refine lv_iadd hx hb dX8_round_108 ?_
        refine lv_bipush (v := 16) hx hb dX8_round_109 (by decide) ?_
        refine lv_irem hx hb dX8_round_111 (by decide) ?_
        refine k_iald (n := 16) (f := ((spr β j i) 15)) hx hb hK.1 0 (hM.2.1 15 rfl) rfl ((i + 15) % 16) (by rw [show (15 : Int32) = nI 15 from rfl, show (16 : Int32) = nI 16 from rfl, nI_add]; exact pk_rem (by omega) (by decide) (by decide)) (Nat.mod_lt _ (by decide)) (by decide) dX8_round_112 ?_
        refine lv_istore_n (lv' := [(3, .int ((spr β j i) 15 ((i + 15) % 16))), (2, .int (nI i)), (0, .ref m0), (1, .int (nI j))]) hx hb dX8_round_113 rfl hl (by decide) rfl (fun ls hl => ?_)
        refine lv_aload_n hx hb dX8_round_114 rfl (lv_at hl 2 rfl) ?_
        refine k_get (C := RX8) (T := TX8) (N := 22) (v := .ref (ad 14)) hx hb hts hiX8 hown hK.1 hM.1 rfl 14 (by decide) (hts (.fieldLink RX8 48 "HouseWorkersModel" "draft" "[I") (by decide +kernel)) (fun _ h9 => h9) rfl dX8_round_115 ?_
        refine lv_bipush (v := 16) hx hb dX8_round_118 (by decide) ?_
        refine lv_iload_n hx hb dX8_round_120 rfl (lv_at hl 3 rfl) ?_
        refine lv_imul hx hb dX8_round_121 ?_
        refine lv_iload_n hx hb dX8_round_122 rfl (lv_at hl 1 rfl) ?_
        refine lv_iadd hx hb dX8_round_123 ?_
        refine lv_iload_n hx hb dX8_round_124 rfl (lv_at hl 0 rfl) ?_
        refine lv_aload_n hx hb dX8_round_125 rfl (lv_at hl 2 rfl) ?_
        refine k_get (C := RX8) (T := TX8) (N := 22) (v := .ref (ad 15)) hx hb hts hiX8 hown hK.1 hM.1 rfl 15 (by decide) (hts (.fieldLink RX8 51 "HouseWorkersModel" "before" "[I") (by decide +kernel)) (fun _ h9 => h9) rfl dX8_round_126 ?_
        refine lv_iload_n hx hb dX8_round_129 rfl (lv_at hl 1 rfl) ?_
        refine k_iald (n := 16) (f := ((spr β j i) 15)) hx hb hK.1 0 (hM.2.1 15 rfl) rfl i rfl (by omega) (by decide) dX8_round_130 ?_
        refine lv_icmp_le (tgt := 138) hx hb dX8_round_131 (by decide) (fun c131 => ?_) (fun c131 => ?_)
        · have c131 := Int32.not_lt.mpr c131
          simp only [spr_k β j i (k := 15) (by decide)] at c131
          refine lv_aload_n hx hb dX8_round_138 rfl (lv_at hl 2 rfl) ?_
          refine k_get (C := RX8) (T := TX8) (N := 22) (v := .ref (ad 15)) hx hb hts hiX8 hown hK.1 hM.1 rfl 15 (by decide) (hts (.fieldLink RX8 51 "HouseWorkersModel" "before" "[I") (by decide +kernel)) (fun _ h9 => h9) rfl dX8_round_139 ?_
          refine lv_iload_n hx hb dX8_round_142 rfl (lv_at hl 1 rfl) ?_
          refine k_iald (n := 16) (f := ((spr β j i) 15)) hx hb hK.1 0 (hM.2.1 15 rfl) rfl i rfl (by omega) (by decide) dX8_round_143 ?_
          refine k_iast (A := (Am m0 ad)) (n := 480) (f := ((spr β j i) 14)) (x := ((spr β j i) 15 i)) hx hb hK.1 0 (hM.2.1 14 rfl) (Am.arr 14 rfl) hS rfl (16 * j + i) (ix16 _ _) (by omega) (by decide) dX8_round_144 (fun H1 locs hO2 hz3 hq4 hS => ?_)
          have hM := MD.arr 14 (i := 16 * j + i) (v := ((spr β j i) 15 i)) hM rfl hO2 hq4
          refine lv_iinc (v := nI (i + 1)) (lv' := [(2, .int (nI (i + 1))), (3, .int ((spr β j i) 15 ((i + 15) % 16))), (0, .ref m0), (1, .int (nI j))]) hx hb dX8_round_145 hl (k := 1) rfl (by rw [← nI_1]; rfl) (by decide) rfl (fun ls hl => ?_)
          refine lv_goto (tgt := 95) hx hb dX8_round_148 (by decide) ?_
          exact ih (i + 1) β hβ (by omega) (by omega) _ locs (hM.eq (spr_s (by simp [spr_k, rnd, mx, c131]))) hS ls (lv_sub hl [0, 2, 3] rfl)
        · have c131 := Int32.not_le.mp c131
          simp only [spr_k β j i (k := 15) (by decide)] at c131
          refine lv_iload_n hx hb dX8_round_134 rfl (lv_at hl 0 rfl) ?_
          refine lv_goto (tgt := 144) hx hb dX8_round_135 (by decide) ?_
          refine k_iast (A := (Am m0 ad)) (n := 480) (f := ((spr β j i) 14)) (x := ((spr β j i) 15 ((i + 15) % 16))) hx hb hK.1 0 (hM.2.1 14 rfl) (Am.arr 14 rfl) hS rfl (16 * j + i) (ix16 _ _) (by omega) (by decide) dX8_round_144 (fun H5 locs hO6 hz7 hq8 hS => ?_)
          have hM := MD.arr 14 (i := 16 * j + i) (v := ((spr β j i) 15 ((i + 15) % 16))) hM rfl hO6 hq8
          refine lv_iinc (v := nI (i + 1)) (lv' := [(2, .int (nI (i + 1))), (3, .int ((spr β j i) 15 ((i + 15) % 16))), (0, .ref m0), (1, .int (nI j))]) hx hb dX8_round_145 hl (k := 1) rfl (by rw [← nI_1]; rfl) (by decide) rfl (fun ls hl => ?_)
          refine lv_goto (tgt := 95) hx hb dX8_round_148 (by decide) ?_
          exact ih (i + 1) β hβ (by omega) (by omega) _ locs (hM.eq (spr_s (by simp [spr_k, rnd, mx, c131]))) hS ls (lv_sub hl [0, 2, 3] rfl)
  have loop2 : ∀ (n : Nat), ∀ (i : Nat) (ρ : Sg), ρ = rdT σ nv j → i ≤ 16 → 17 ≤ i + n → ∀ (H : Heap) (locs : List Loc), MD D cI cZ m0 ad (bfr ρ j i) H → va_S (Am m0 ad) s.heap H locs → ∀ ls : Array Slot, lv_has ls 4 [(2, .int (nI i)), (0, .ref m0), (1, .int (nI j))] → W p l e (headSpec wsX8_round ({ frames := 0, cells := 0, slots := 0, locals := 0 })).room s m ([.ref m0, .int (nI j)] : List Value).toArray below meth c H locs 0 0 (MQ below (Qkv (fun H1 => MD D cI cZ m0 ad (rd σ nv j) H1) (Am m0 ad)) ([.ref m0, .int (nI j)] : List Value).toArray s 0 0 (Am m0 ad)) (F0 m 64 ls []) := by
    intro n
    induction n with
    | zero => intro i ρ _ h1 h2; exact absurd h2 (by omega)
    | succ n ih =>
      intro i ρ hρ hi hn H locs hM hS ls hl
      refine lv_iload_n hx hb dX8_round_64 rfl (lv_at hl 0 rfl) ?_
      refine lv_bipush (v := 16) hx hb dX8_round_65 (by decide) ?_
      refine lv_icmp_ge (tgt := 93) hx hb dX8_round_67 (by decide) (fun c67 => ?_) (fun c67 => ?_)
      · have c67 := Int32.not_lt.mpr c67
        have c67 : ¬ nI i < nI 16 := c67
        have hij : i = 16 := Nat.le_antisymm (by omega) (Nat.le_of_not_lt (fun q => c67 (nI_lt q (by omega))))
        subst hij
        refine lv_iconst (v := 0) hx hb dX8_round_93 (by decide) ?_
        refine lv_istore_n (lv' := [(2, .int 0), (0, .ref m0), (1, .int (nI j))]) hx hb dX8_round_94 rfl hl (by decide) rfl (fun ls hl => ?_)
        exact loop3 17 0 _ (by rw [hρ]) (Nat.zero_le _) (by omega) _ _ (hM.eq (spr_0 _ j).symm) hS ls (lv_sub hl [0, 1, 2] rfl)
      · have c67 := Int32.not_le.mp c67
        have hlt : i < 16 := (nI_ltI (by omega) (by omega)).mp c67
        refine lv_aload_n hx hb dX8_round_70 rfl (lv_at hl 1 rfl) ?_
        refine k_get (C := RX8) (T := TX8) (N := 22) (v := .ref (ad 15)) hx hb hts hiX8 hown hK.1 hM.1 rfl 15 (by decide) (hts (.fieldLink RX8 51 "HouseWorkersModel" "before" "[I") (by decide +kernel)) (fun _ h9 => h9) rfl dX8_round_71 ?_
        refine lv_iload_n hx hb dX8_round_74 rfl (lv_at hl 0 rfl) ?_
        refine lv_aload_n hx hb dX8_round_75 rfl (lv_at hl 1 rfl) ?_
        refine k_get (C := RX8) (T := TX8) (N := 22) (v := .ref (ad 14)) hx hb hts hiX8 hown hK.1 hM.1 rfl 14 (by decide) (hts (.fieldLink RX8 48 "HouseWorkersModel" "draft" "[I") (by decide +kernel)) (fun _ h9 => h9) rfl dX8_round_76 ?_
        refine lv_bipush (v := 16) hx hb dX8_round_79 (by decide) ?_
        refine lv_iload_n hx hb dX8_round_81 rfl (lv_at hl 2 rfl) ?_
        refine lv_imul hx hb dX8_round_82 ?_
        refine lv_iload_n hx hb dX8_round_83 rfl (lv_at hl 0 rfl) ?_
        refine lv_iadd hx hb dX8_round_84 ?_
        refine k_iald (n := 480) (f := ((bfr ρ j i) 14)) hx hb hK.1 0 (hM.2.1 14 rfl) rfl (16 * j + i) (ix16 _ _) (by omega) (by decide) dX8_round_85 ?_
        refine k_iast (A := (Am m0 ad)) (n := 16) (f := ((bfr ρ j i) 15)) (x := ((bfr ρ j i) 14 (16 * j + i))) hx hb hK.1 0 (hM.2.1 15 rfl) (Am.arr 15 rfl) hS rfl i rfl (by omega) (by decide) dX8_round_86 (fun H9 locs hO10 hz11 hq12 hS => ?_)
        have hM := MD.arr 15 (i := i) (v := ((bfr ρ j i) 14 (16 * j + i))) hM rfl hO10 hq12
        refine lv_iinc (v := nI (i + 1)) (lv' := [(2, .int (nI (i + 1))), (0, .ref m0), (1, .int (nI j))]) hx hb dX8_round_87 hl (k := 0) rfl (by rw [← nI_1]; rfl) (by decide) rfl (fun ls hl => ?_)
        refine lv_goto (tgt := 64) hx hb dX8_round_90 (by decide) ?_
        exact ih (i + 1) ρ hρ (by omega) (by omega) _ locs (hM.eq (bfr_s (by simp [bfr_k]))) hS ls (lv_sub hl [0, 1, 2] rfl)
  refine lv_aload_n hx hb dX8_round_0 rfl (lv_at hl 0 rfl) ?_
  refine k_get (C := RX8) (T := TX8) (N := 22) (v := .ref (ad 9)) hx hb hts hiX8 hown hK.1 hM.1 rfl 9 (by decide) (hts (.fieldLink RX8 32 "HouseWorkersModel" "done" "[I") (by decide +kernel)) (fun _ h9 => h9) rfl dX8_round_1 ?_
  refine lv_iload_n hx hb dX8_round_4 rfl (lv_at hl 1 rfl) ?_
  refine k_iald (n := 30) (f := (σ 9)) hx hb hK.1 0 (hM.2.1 9 rfl) rfl j rfl (by omega) (by decide) dX8_round_5 ?_
  refine lv_if_ne (tgt := 62) hx hb dX8_round_6 (by decide) (fun c6 => ?_) (fun c6 => ?_)
  · refine lv_iconst (v := 0) hx hb dX8_round_62 (by decide) ?_
    refine lv_istore_n (lv' := [(2, .int 0), (0, .ref m0), (1, .int (nI j))]) hx hb dX8_round_63 rfl hl (by decide) rfl (fun ls hl => ?_)
    exact loop2 17 0 _ (by rw [rdT, if_neg c6]) (Nat.zero_le _) (by omega) _ _ (hM.eq (bfr_0 _ j).symm) hS ls (lv_sub hl [0, 1, 2] rfl)
  · refine lv_aload_n hx hb dX8_round_9 rfl (lv_at hl 0 rfl) ?_
    refine k_get (C := RX8) (T := TX8) (N := 22) (v := .ref (ad 11)) hx hb hts hiX8 hown hK.1 hM.1 rfl 11 (by decide) (hts (.fieldLink RX8 38 "HouseWorkersModel" "version" "[I") (by decide +kernel)) (fun _ h9 => h9) rfl dX8_round_10 ?_
    refine lv_iload_n hx hb dX8_round_13 rfl (lv_at hl 1 rfl) ?_
    refine lv_aload_n hx hb dX8_round_14 rfl (lv_at hl 0 rfl) ?_
    refine k_get (C := RX8) (T := TX8) (N := 22) (v := .int (σ 1 0)) hx hb hts hiX8 hown hK.1 hM.1 rfl 1 (by decide) (hts (.fieldLink RX8 13 "HouseWorkersModel" "versions" "I") (by decide +kernel)) (fun _ h9 => h9) rfl dX8_round_15 ?_
    refine lv_iconst (v := 1) hx hb dX8_round_18 (by decide) ?_
    refine lv_isub hx hb dX8_round_19 ?_
    refine k_iast (A := (Am m0 ad)) (n := 30) (f := (σ 11)) (x := ((σ 1 0) - 1)) hx hb hK.1 0 (hM.2.1 11 rfl) (Am.arr 11 rfl) hS rfl j rfl (by omega) (by decide) dX8_round_20 (fun H13 locs hO14 hz15 hq16 hS => ?_)
    have hM := MD.arr 11 (i := j) (v := ((σ 1 0) - 1)) hM rfl hO14 hq16
    refine lv_iconst (v := 0) hx hb dX8_round_21 (by decide) ?_
    refine lv_istore_n (lv' := [(2, .int 0), (0, .ref m0), (1, .int (nI j))]) hx hb dX8_round_22 rfl hl (by decide) rfl (fun ls hl => ?_)
    obtain ⟨τ, hτ⟩ : ∃ z : Sg, z = u2 σ 11 j (σ 1 0 - 1) := ⟨_, rfl⟩
    rw [← hτ] at hM
    have hτ11 : τ 11 j = nI (nv - 1) := by rw [hτ, u2_same, hv]; exact pk_sub (b := 1) hv1
    have loop : ∀ (n : Nat), ∀ (i : Nat), i ≤ 16 → 17 ≤ i + n → ∀ (H : Heap) (locs : List Loc), MD D cI cZ m0 ad (tk τ (nv - 1) j i) H → va_S (Am m0 ad) s.heap H locs → ∀ ls : Array Slot, lv_has ls 4 [(2, .int (nI i)), (0, .ref m0), (1, .int (nI j))] → W p l e (headSpec wsX8_round ({ frames := 0, cells := 0, slots := 0, locals := 0 })).room s m ([.ref m0, .int (nI j)] : List Value).toArray below meth c H locs 0 0 (MQ below (Qkv (fun H1 => MD D cI cZ m0 ad (rd σ nv j) H1) (Am m0 ad)) ([.ref m0, .int (nI j)] : List Value).toArray s 0 0 (Am m0 ad)) (F0 m 23 ls []) := by
      intro n
      induction n with
      | zero => intro i h1 h2; exact absurd h2 (by omega)
      | succ n ih =>
        intro i hi hn H locs hM hS ls hl
        refine lv_iload_n hx hb dX8_round_23 rfl (lv_at hl 0 rfl) ?_
        refine lv_bipush (v := 16) hx hb dX8_round_24 (by decide) ?_
        refine lv_icmp_ge (tgt := 62) hx hb dX8_round_26 (by decide) (fun c26 => ?_) (fun c26 => ?_)
        · have c26 := Int32.not_lt.mpr c26
          have c26 : ¬ nI i < nI 16 := c26
          have hij : i = 16 := Nat.le_antisymm (by omega) (Nat.le_of_not_lt (fun q => c26 (nI_lt q (by omega))))
          subst hij
          refine lv_iconst (v := 0) hx hb dX8_round_62 (by decide) ?_
          refine lv_istore_n (lv' := [(2, .int 0), (0, .ref m0), (1, .int (nI j))]) hx hb dX8_round_63 rfl hl (by decide) rfl (fun ls hl => ?_)
          exact loop2 17 0 _ (by rw [rdT, if_pos c6, hτ]) (Nat.zero_le _) (by omega) _ _ (hM.eq (bfr_0 _ j).symm) hS ls (lv_sub hl [0, 1, 2] rfl)
        · have c26 := Int32.not_le.mp c26
          have hlt : i < 16 := (nI_ltI (by omega) (by omega)).mp c26
          refine lv_aload_n hx hb dX8_round_29 rfl (lv_at hl 1 rfl) ?_
          refine k_get (C := RX8) (T := TX8) (N := 22) (v := .ref (ad 14)) hx hb hts hiX8 hown hK.1 hM.1 rfl 14 (by decide) (hts (.fieldLink RX8 48 "HouseWorkersModel" "draft" "[I") (by decide +kernel)) (fun _ h9 => h9) rfl dX8_round_30 ?_
          refine lv_bipush (v := 16) hx hb dX8_round_33 (by decide) ?_
          refine lv_iload_n hx hb dX8_round_35 rfl (lv_at hl 2 rfl) ?_
          refine lv_imul hx hb dX8_round_36 ?_
          refine lv_iload_n hx hb dX8_round_37 rfl (lv_at hl 0 rfl) ?_
          refine lv_iadd hx hb dX8_round_38 ?_
          refine lv_aload_n hx hb dX8_round_39 rfl (lv_at hl 1 rfl) ?_
          refine k_get (C := RX8) (T := TX8) (N := 22) (v := .ref (ad 0)) hx hb hts hiX8 hown hK.1 hM.1 rfl 0 (by decide) (hts (.fieldLink RX8 7 "HouseWorkersModel" "cells" "[I") (by decide +kernel)) (fun _ h9 => h9) rfl dX8_round_40 ?_
          refine lv_bipush (v := 16) hx hb dX8_round_43 (by decide) ?_
          refine lv_aload_n hx hb dX8_round_45 rfl (lv_at hl 1 rfl) ?_
          refine k_get (C := RX8) (T := TX8) (N := 22) (v := .ref (ad 11)) hx hb hts hiX8 hown hK.1 hM.1 rfl 11 (by decide) (hts (.fieldLink RX8 38 "HouseWorkersModel" "version" "[I") (by decide +kernel)) (fun _ h9 => h9) rfl dX8_round_46 ?_
          refine lv_iload_n hx hb dX8_round_49 rfl (lv_at hl 2 rfl) ?_
          refine k_iald (n := 30) (f := ((tk τ (nv - 1) j i) 11)) hx hb hK.1 0 (hM.2.1 11 rfl) rfl j rfl (by omega) (by decide) dX8_round_50 ?_
          refine lv_imul hx hb dX8_round_51 ?_
          refine lv_iload_n hx hb dX8_round_52 rfl (lv_at hl 0 rfl) ?_
          refine lv_iadd hx hb dX8_round_53 ?_
          refine k_iald (n := 640) (f := ((tk τ (nv - 1) j i) 0)) hx hb hK.1 0 (hM.2.1 0 rfl) rfl (16 * (nv - 1) + i) (by rw [tk_k τ (nv - 1) j i (by decide), hτ11]; exact ix16 _ _) (by omega) (by decide) dX8_round_54 ?_
          refine k_iast (A := (Am m0 ad)) (n := 480) (f := ((tk τ (nv - 1) j i) 14)) (x := ((tk τ (nv - 1) j i) 0 (16 * (nv - 1) + i))) hx hb hK.1 0 (hM.2.1 14 rfl) (Am.arr 14 rfl) hS rfl (16 * j + i) (ix16 _ _) (by omega) (by decide) dX8_round_55 (fun H17 locs hO18 hz19 hq20 hS => ?_)
          have hM := MD.arr 14 (i := 16 * j + i) (v := ((tk τ (nv - 1) j i) 0 (16 * (nv - 1) + i))) hM rfl hO18 hq20
          refine lv_iinc (v := nI (i + 1)) (lv' := [(2, .int (nI (i + 1))), (0, .ref m0), (1, .int (nI j))]) hx hb dX8_round_56 hl (k := 0) rfl (by rw [← nI_1]; rfl) (by decide) rfl (fun ls hl => ?_)
          refine lv_goto (tgt := 23) hx hb dX8_round_59 (by decide) ?_
          exact ih (i + 1) (by omega) (by omega) _ locs (hM.eq (tk_s (by simp [tk_k]))) hS ls (lv_sub hl [0, 1, 2] rfl)
    exact loop 17 0 (Nat.zero_le _) (by omega) _ _ (hM.eq (tk_0 τ _ j).symm) hS ls (lv_sub hl [0, 1, 2] rfl)
