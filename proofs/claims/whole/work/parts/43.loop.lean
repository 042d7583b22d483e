set_option maxHeartbeats 4000000 in
set_option maxRecDepth 100000 in
theorem law_loop {p : Program} {l : Launch} {e : Env} {s : State} {m : MethodId} {below : List Frame} {meth : Method} {c : Code} {D : va_G} {cI cZ cO : ClassId} {mi eA h0 m0 b L : Nat} {ad : Nat → Nat} {B : Nat → Prop} {xs : Nat → Int32} (hx : p.tables.exec = Jvm.exec) (hb : c.code = code) (hml : c.maxLocals = 4) (hown : s.vm.findClass RL = some m.cls) (hts : ∀ w ∈ wsL_law, w.before #[Value.ref b] s = true) (hK : KK D cI cZ cO mi s) (hZ : ZZ eA (fun q => s.heap.size ≤ q) s s.heap) (hX : va_X b L xs s s.heap) (hbl : b < s.heap.size) (hB : ∀ q, B q ↔ s.heap.size ≤ q ∧ ¬ Am m0 ad q) (hAm : ∀ q, Am m0 ad q → s.heap.size ≤ q) (hL : L ≤ 2560) (hr : meth.sig.returnType = ret) (hlocks : meth.locks = false) :
    ∀ (n i : Nat), i ≤ L → L + 1 ≤ i + n → ∀ (σ : Sg) (nW nV nE : Nat) (wa : Nat → Nat) (H : Heap) (locs : List Loc), Inv σ nW nV nE → HR D cI cO eA B h0 wa σ nW nV nE H → MD D cI cZ m0 ad σ H → va_S (fun q => s.heap.size ≤ q) s.heap H locs → ∀ ls : Array Slot, lv_has ls 4 [(0, .ref b), (1, .ref h0), (2, .ref m0), (3, .int (nI i))] → W p l e room_1 s m #[Value.ref b] below meth c H locs (24 + 60 * i) (1583 + 1980 * i) (lw_Z below #[Value.ref b] s) (F0 m 18 ls []) := by
  have hbA : ¬ (fun q : Nat => s.heap.size ≤ q) b := Nat.not_le.mpr hbl
  intro n
  induction n with
  | zero =>
    intro i h1 h2
    exact absurd h2 (by omega)
  | succ n ih =>
    intro i hi hn σ nW nV nE wa H locs hI hR hM hS ls hl
    refine lv_iload_n hx hb dL_law_18 rfl (lv_at hl 3 rfl) ?_
    refine lv_aload_n hx hb dL_law_19 rfl (lv_at hl 0 rfl) ?_
    refine va_slen hx hb hX hbl hbA hS dL_law_20 ?_
    refine lv_iconst (v := 5) hx hb dL_law_21 (by decide) ?_
    refine lv_isub hx hb dL_law_22 ?_
    refine lv_icmp_gt (tgt := 485) hx hb dL_law_23 (by decide) (fun c23 => ?_) (fun c23 => ?_)
    · refine lv_iconst (v := 1) hx hb dL_law_485 (by decide) ?_
      refine va_forget (fun q hq => hS.2.2 q hq) ?_
      refine W.widen (k := 600000) (n := 7302250) (by omega) (by omega) ?_
      exact lw_ret hx hb hr hlocks dL_law_486
    · have hi5 : i + 5 ≤ L := law_ix (by omega) hL c23
      have kk : lawK p l e s m below meth c D cI cZ cO eA h0 m0 b i ad B (lw_Z below #[Value.ref b] s) ls := by
        intro σ1 nW1 nV1 nE1 wa1 H1 locs1 hI1 hR1 hM1 hS1
        refine lv_iinc (v := nI (i + 5)) (lv' := [(3, .int (nI (i + 5))), (0, .ref b), (1, .ref h0), (2, .ref m0)]) hx hb dL_law_479 hl (k := 3) rfl (by rw [← nI_add]; rfl) (by decide) rfl (fun ls hl => ?_)
        refine lv_goto (tgt := 18) hx hb dL_law_482 (by decide) ?_
        exact ih (i + 5) hi5 (by omega) σ1 nW1 nV1 nE1 wa1 H1 locs1 hI1 hR1 hM1 hS1 ls (lv_sub hl [1, 2, 3, 0] rfl)
      refine lv_aload_n hx hb dL_law_26 rfl (lv_at hl 0 rfl) ?_
      refine lv_iload_n hx hb dL_law_27 rfl (lv_at hl 3 rfl) ?_
      refine va_sld hx hb hX hbl hbA hS (vp_in_nI (n := i) (N := L) (by omega) (by omega)) dL_law_28 ?_
      refine lv_bipush (v := 15) hx hb dL_law_29 (by decide) ?_
      refine lv_iand hx hb dL_law_31 ?_
      rw [ix_eq]
      have hz16 := ix_lt (xs (nI i).toNatClampNeg)
      generalize ix (xs (nI i).toNatClampNeg) = z at hz16 ⊢
      rcases (show z = 0 ∨ z = 1 ∨ z = 2 ∨ z = 3 ∨ z = 4 ∨ z = 5 ∨ z = 6 ∨ z = 7 ∨ z = 8 ∨ z = 9 ∨ z = 10 ∨ z = 11 ∨ z = 12 ∨ z = 13 ∨ z = 14 ∨ z = 15 by omega) with rfl | rfl | rfl | rfl | rfl | rfl | rfl | rfl | rfl | rfl | rfl | rfl | rfl | rfl | rfl | rfl
      · refine lv_tableIn (off := 68) (tgt := 100) hx hb dL_law_32 (by decide) (by decide) (by decide) (by decide) ?_
        exact law_put hx hb hml hown hts hK hZ hX hbl hB hAm hi5 hL hI hR hM hS hl kk
      · refine lv_tableIn (off := 101) (tgt := 133) hx hb dL_law_32 (by decide) (by decide) (by decide) (by decide) ?_
        exact law_question hx hb hml hown hts hK hZ hX hbl hB hAm hi5 hL hI hR hM hS hl kk
      · refine lv_tableIn (off := 144) (tgt := 176) hx hb dL_law_32 (by decide) (by decide) (by decide) (by decide) ?_
        exact law_writer hx hb hml hown hts hK hZ hX hbl hB hAm hi5 hL hI hR hM hS hl kk
      · refine lv_tableIn (off := 197) (tgt := 229) hx hb dL_law_32 (by decide) (by decide) (by decide) (by decide) ?_
        exact law_reason hx hb hml hown hts hK hZ hX hbl hB hAm hi5 hL hI hR hM hS hl kk
      · refine lv_tableIn (off := 230) (tgt := 262) hx hb dL_law_32 (by decide) (by decide) (by decide) (by decide) ?_
        exact law_stream hx hb hml hown hts hK hZ hX hbl hB hAm hi5 hL hI hR hM hS hl kk
      · refine lv_tableIn (off := 243) (tgt := 275) hx hb dL_law_32 (by decide) (by decide) (by decide) (by decide) ?_
        exact law_turn hx hb hml hown hts hK hZ hX hbl hB hAm hi5 hL hI hR hM hS hl kk
      · refine lv_tableIn (off := 266) (tgt := 298) hx hb dL_law_32 (by decide) (by decide) (by decide) (by decide) ?_
        exact law_run hx hb hml hown hts hK hZ hX hbl hB hAm hi5 hL hI hR hM hS hl kk
      · refine lv_tableIn (off := 289) (tgt := 321) hx hb dL_law_32 (by decide) (by decide) (by decide) (by decide) ?_
        exact law_cancel hx hb hml hown hts hK hZ hX hbl hB hAm hi5 hL hI hR hM hS hl kk
      · refine lv_tableIn (off := 312) (tgt := 344) hx hb dL_law_32 (by decide) (by decide) (by decide) (by decide) ?_
        exact law_close hx hb hml hown hts hK hZ hX hbl hB hAm hi5 hL hI hR hM hS hl kk
      · refine lv_tableIn (off := 325) (tgt := 357) hx hb dL_law_32 (by decide) (by decide) (by decide) (by decide) ?_
        exact law_told hx hb hml hown hts hK hZ hX hbl hB hAm hi5 hL hI hR hM hS hl kk
      · refine lv_tableIn (off := 358) (tgt := 390) hx hb dL_law_32 (by decide) (by decide) (by decide) (by decide) ?_
        exact law_ended hx hb hml hown hts hK hZ hX hbl hB hAm hi5 hL hI hR hM hS hl kk
      · refine lv_tableIn (off := 391) (tgt := 423) hx hb dL_law_32 (by decide) (by decide) (by decide) (by decide) ?_
        exact law_cell hx hb hml hown hts hK hZ hX hbl hB hAm hi5 hL hI hR hM hS hl kk
      · refine lv_tableIn (off := 424) (tgt := 456) hx hb dL_law_32 (by decide) (by decide) (by decide) (by decide) ?_
        exact law_count hx hb hml hown hts hK hZ hX hbl hB hAm hi5 hL hI hR hM hS hl kk
      · refine lv_tableOut (tgt := 479) hx hb dL_law_32 (Or.inr (by decide)) (by decide) ?_
        exact W.widen (k := 24 + 60 * (i + 5)) (n := 1583 + 1980 * (i + 5)) (by omega) (by omega) (kk σ nW nV nE wa H locs hI hR hM hS)
      · refine lv_tableOut (tgt := 479) hx hb dL_law_32 (Or.inr (by decide)) (by decide) ?_
        exact W.widen (k := 24 + 60 * (i + 5)) (n := 1583 + 1980 * (i + 5)) (by omega) (by omega) (kk σ nW nV nE wa H locs hI hR hM hS)
      · refine lv_tableOut (tgt := 479) hx hb dL_law_32 (Or.inr (by decide)) (by decide) ?_
        exact W.widen (k := 24 + 60 * (i + 5)) (n := 1583 + 1980 * (i + 5)) (by omega) (by omega) (kk σ nW nV nE wa H locs hI hR hM hS)
