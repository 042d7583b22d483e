theorem MD.ltA {D : va_G} {cI cZ : ClassId} {m0 : Nat} {ad : Nat → Nat} {σ : Sg} {H : Heap} (h : MD D cI cZ m0 ad σ H) {q : Nat} (hq : Am m0 ad q) : q < H.size := by
  obtain ⟨a1, a2, a3, a4, a5⟩ := h
  rcases hq with e | ⟨k, hk, e⟩
  · rw [e]; exact va_at.lt a1
  · rw [e]
    unfold mA at hk
    rw [Bool.or_eq_true] at hk
    rcases hk with z | z
    · exact va_at.lt (a2 k z)
    · have : k = 13 := by simpa using z
      rw [this]; exact va_at.lt a3
theorem HR.oth {D : va_G} {cI cO : ClassId} {eA h0 : Nat} {B : Nat → Prop} {wa : Nat → Nat} {σ : Sg} {nW nV nE : Nat} {H H1 : Heap} (h : HR D cI cO eA B h0 wa σ nW nV nE H) (hn : nW ≤ 30) (hk : ∀ q : Nat, q < H.size → B q → H1[q]? = H[q]?) (hz : H.size ≤ H1.size) : HR D cI cO eA B h0 wa σ nW nV nE H1 := by
  obtain ⟨hs, hc, hw, he, ec, ew, ee, pc, pw, pe, gc, gw, ge, va, da, ra, te, pn, rl, R1, R2, ⟨R3, R3g⟩, ⟨R4, R4g⟩, ⟨R5, R5g⟩, R6, R7, R8, R9, RT, RB, RN, RL, R12, R13⟩ := h
  obtain ⟨k1, k2, k3, k4, k5, k6, k7, k8⟩ := HR_keep (H1 := H1) (fun t => ¬ t < 1000) R1 R2 R3 R4 R5 R6 R7 R9 RT (fun p h1 h2 => hk p h2 (RB p (Decidable.byContradiction h1)))
  exact ⟨hs, hc, hw, he, ec, ew, ee, pc, pw, pe, gc, gw, ge, va, da, ra, te, pn, rl, k1 (by omega), k2 (by omega), ⟨k3 (by omega) (by omega), R3g⟩, ⟨k4 (by omega) (by omega), R4g⟩, ⟨k5 (by omega) (by omega), R5g⟩, k6 (by omega) (by omega) (fun _ _ _ => ⟨by omega, by omega⟩), fun i hi => k7 i hi (by omega), fun i hi hk4 => by obtain ⟨f, f1, f2⟩ := R8 i hi hk4; exact ⟨f, k8 i hi hk4 (by omega) (by omega) f f1, f2⟩, R9, RT, RB, fun q hq => RN q (by omega), fun q hq => RL q (by omega), R12, R13⟩
theorem law_ix {i L : Nat} (hi : i ≤ 2560) (hL : L ≤ 2560) (h : ¬ nI L - 5 < nI i) : i + 5 ≤ L := by
  by_cases q : 5 ≤ L
  · rw [show (5 : Int32) = nI 5 from rfl, show nI L - nI 5 = nI (L - 5) from pk_sub q] at h
    have : ¬ L - 5 < i := fun z => h (nI_lt z (by omega))
    omega
  · exfalso
    have h0 : (0 : Int32) ≤ nI i := Int32.not_lt.mp (nI_pos (by omega))
    refine h (Int32.lt_of_lt_of_le ?_ h0)
    rcases (show L = 0 ∨ L = 1 ∨ L = 2 ∨ L = 3 ∨ L = 4 by omega) with z | z | z | z | z <;> subst z <;> decide
/-- behind a call of both sides: the goal at the law's next call -/
def lawK (p : Program) (l : Launch) (e : Env) (s : State) (m : MethodId) (below : List Frame) (meth : Method) (c : Code) (D : va_G) (cI cZ cO : ClassId) (eA h0 m0 b i : Nat) (ad : Nat → Nat) (B : Nat → Prop) (Q : State → Prop) (ls : Array Slot) : Prop := ∀ (σ : Sg) (nW nV nE : Nat) (wa : Nat → Nat) (H : Heap) (locs : List Loc), Inv σ nW nV nE → HR D cI cO eA B h0 wa σ nW nV nE H → MD D cI cZ m0 ad σ H → va_S (fun q => s.heap.size ≤ q) s.heap H locs → W p l e room_1 s m #[Value.ref b] below meth c H locs (24 + 60 * (i + 5)) (1583 + 1980 * (i + 5)) Q (F0 m 479 ls [])
theorem inv_put {σ : Sg} {nW nV nE : Nat} {x v : Int32} (h : Inv σ nW nV nE) : Inv (mPut σ x v).2 nW nV nE := by
  unfold mPut
  split
  · split
    · exact h
    · exact inv_irr h (by omega)
  · exact h
theorem inv_can {σ : Sg} {nW nV nE : Nat} {x : Int32} (h : Inv σ nW nV nE) : Inv (mCan σ x).2 nW nV nE := by
  unfold mCan
  split
  · rename_i hin
    rw [h.1] at hin
    have h30 := h.n30
    obtain ⟨j, hj, hxj⟩ := inB_idx (by omega) hin
    unfold cnc
    split
    · exact h
    · split
      · exact h
      · rw [hxj, nat_nI (by omega)]
        obtain ⟨i1, i2, i3, i4, i5, i6, i7, i8, i9, i10, i11, i12⟩ := h
        refine ⟨i1, i2, i3, i4, i5, i6, i7, i8, fun i hi => ?_, fun i hi => ?_, i11, i12⟩
        · obtain ⟨st, fa, a, dn, a5, a6, a7, a9, b1, b2, b3, b4, hc⟩ := i9 i hi
          refine ⟨st, fa, a, dn, a5, a6, a7, a9, b1, b2, b3, ?_, hc⟩
          show u2 σ 13 j 1 13 i = 0 ∨ u2 σ 13 j 1 13 i = 1
          rw [u2_if]
          by_cases q : i = j
          · rw [if_pos ⟨rfl, q⟩]; exact Or.inr rfl
          · rw [if_neg (fun z => q z.2)]; exact b4
        · obtain ⟨y1, y2, y3, y4⟩ := i10 i hi
          exact ⟨y1, y2, y3, by show u2 σ 13 j 1 13 i = 0; rw [u2_ne _ _ (fun z => by omega)]; exact y4⟩
  · exact h
set_option maxHeartbeats 4000000 in
set_option maxRecDepth 100000 in
theorem law_put {p : Program} {l : Launch} {e : Env} {s : State} {m : MethodId} {below : List Frame} {meth : Method} {c : Code} {D : va_G} {cI cZ cO : ClassId} {mi eA h0 m0 b L i : Nat} {ad : Nat → Nat} {B : Nat → Prop} {xs : Nat → Int32} {Q : State → Prop} {ls : Array Slot} {H : Heap} {locs : List Loc} {σ : Sg} {nW nV nE : Nat} {wa : Nat → Nat} (hx : p.tables.exec = Jvm.exec) (hb : c.code = code) (hml : c.maxLocals = 4) (hown : s.vm.findClass RL = some m.cls) (hts : ∀ w ∈ wsL_law, w.before #[Value.ref b] s = true) (hK : KK D cI cZ cO mi s) (hZ : ZZ eA (fun q => s.heap.size ≤ q) s s.heap) (hX : va_X b L xs s s.heap) (hbl : b < s.heap.size) (hB : ∀ q, B q ↔ s.heap.size ≤ q ∧ ¬ Am m0 ad q) (hAm : ∀ q, Am m0 ad q → s.heap.size ≤ q) (hi : i + 5 ≤ L) (hL : L ≤ 2560) (hI : Inv σ nW nV nE) (hR : HR D cI cO eA B h0 wa σ nW nV nE H) (hM : MD D cI cZ m0 ad σ H) (hS : va_S (fun q => s.heap.size ≤ q) s.heap H locs) (hl : lv_has ls 4 [(0, .ref b), (1, .ref h0), (2, .ref m0), (3, .int (nI i))]) (kk : lawK p l e s m below meth c D cI cZ cO eA h0 m0 b i ad B Q ls) : W p l e room_1 s m #[Value.ref b] below meth c H locs (24 + 60 * i) (1583 + 1980 * i) Q (F0 m 100 ls []) := by
  have hc0 : 24 + 60 * i ≤ 600000 := by omega
  have hs0 : 1583 + 1980 * i ≤ 7302250 := by omega
  have hbA : ¬ (fun q : Nat => s.heap.size ≤ q) b := Nat.not_le.mpr hbl
  have ek1 : nI i + (1 : Int32) = nI (i + 1) := by rw [show (1 : Int32) = nI 1 from rfl, nI_add]
  have ek2 : nI i + (2 : Int32) = nI (i + 2) := by rw [show (2 : Int32) = nI 2 from rfl, nI_add]
  refine lv_aload_n hx hb dL_law_100 rfl (lv_at hl 1 rfl) ?_
  refine lv_aload_n hx hb dL_law_101 rfl (lv_at hl 0 rfl) ?_
  refine lv_iload_n hx hb dL_law_102 rfl (lv_at hl 3 rfl) ?_
  refine lv_iconst (v := 1) hx hb dL_law_103 (by decide) ?_
  refine lv_iadd hx hb dL_law_104 ?_
  rw [ek1]
  refine va_sld hx hb hX hbl hbA hS (vp_in_nI (n := i + 1) (N := L) (by omega) (by omega)) dL_law_105 ?_
  refine W.eq (g2 := F0 m 106 ls [.int (xs (nI (i + 1)).toNatClampNeg), .ref h0]) rfl ?_
  refine lv_aload_n hx hb dL_law_106 rfl (lv_at hl 0 rfl) ?_
  refine lv_iload_n hx hb dL_law_107 rfl (lv_at hl 3 rfl) ?_
  refine lv_iconst (v := 2) hx hb dL_law_108 (by decide) ?_
  refine lv_iadd hx hb dL_law_109 ?_
  rw [ek2]
  refine va_sld hx hb hX hbl hbA hS (vp_in_nI (n := i + 2) (N := L) (by omega) (by omega)) dL_law_110 ?_
  refine W.eq (g2 := F0 m 111 ls [.int (xs (nI (i + 2)).toNatClampNeg), .int (xs (nI (i + 1)).toNatClampNeg), .ref h0]) rfl ?_
  obtain ⟨fs0, hO⟩ := hR.o
  have hZc : ZZ eA B s H := (hZ.S (fun q h => h) hS).narrow (fun q h => ((hB q).mp h).1)
  have hcq : 24 + 60 * i + 0 ≤ 600000 := by omega
  have hsq : 1583 + 1980 * i + 0 ≤ 7302250 := by omega
  refine k_calli (va_runV (As := [.int (xs (nI (i + 1)).toNatClampNeg), .int (xs (nI (i + 2)).toNatClampNeg)]) (rest := []) ⟨hx, hb, hml, hown, hts⟩ (c_put l _ h0 wa σ nW nV nE (xs (nI (i + 1)).toNatClampNeg) (xs (nI (i + 2)).toNatClampNeg) hR hI) (cwV 2 hts gL_law_X7_put rfl rfl rfl (by decide +kernel) ⟨Nat.le_of_ble_eq_true rfl, Nat.le_of_ble_eq_true rfl⟩) (k_preV hK (k_recv hK.1 hO rfl)) rfl rfl hl.1 rfl (lv_room (Nat.le_of_ble_eq_true rfl)) dL_law_111 ⟨hcq, hsq⟩) hS (fun q h => ((hB q).mp h).1) (fun r9 H2 locs hp9 hz2 hk2 hS => ?_)
  have hM2 := hM.kept (H1 := H2) (fun q hq => hk2 q (hM.ltA hq) (fun z => ((hB q).mp z).2 hq))
  obtain ⟨hr9, hR2⟩ := hp9
  refine W.eq (g2 := F0 m 114 ls [.int r9]) rfl ?_
  refine lv_aload_n hx hb dL_law_114 rfl (lv_at hl 2 rfl) ?_
  refine lv_aload_n hx hb dL_law_115 rfl (lv_at hl 0 rfl) ?_
  refine lv_iload_n hx hb dL_law_116 rfl (lv_at hl 3 rfl) ?_
  refine lv_iconst (v := 1) hx hb dL_law_117 (by decide) ?_
  refine lv_iadd hx hb dL_law_118 ?_
  rw [ek1]
  refine va_sld hx hb hX hbl hbA hS (vp_in_nI (n := i + 1) (N := L) (by omega) (by omega)) dL_law_119 ?_
  refine W.eq (g2 := F0 m 120 ls [.int (xs (nI (i + 1)).toNatClampNeg), .ref m0, .int r9]) rfl ?_
  refine lv_aload_n hx hb dL_law_120 rfl (lv_at hl 0 rfl) ?_
  refine lv_iload_n hx hb dL_law_121 rfl (lv_at hl 3 rfl) ?_
  refine lv_iconst (v := 2) hx hb dL_law_122 (by decide) ?_
  refine lv_iadd hx hb dL_law_123 ?_
  rw [ek2]
  refine va_sld hx hb hX hbl hbA hS (vp_in_nI (n := i + 2) (N := L) (by omega) (by omega)) dL_law_124 ?_
  refine W.eq (g2 := F0 m 125 ls [.int (xs (nI (i + 2)).toNatClampNeg), .int (xs (nI (i + 1)).toNatClampNeg), .ref m0, .int r9]) rfl ?_
  refine k_calli (va_runV (As := [.int (xs (nI (i + 1)).toNatClampNeg), .int (xs (nI (i + 2)).toNatClampNeg)]) (rest := [.int r9]) ⟨hx, hb, hml, hown, hts⟩ (c_X8_put l _ m0 ad σ (xs (nI (i + 1)).toNatClampNeg) (xs (nI (i + 2)).toNatClampNeg) hM2) (cwV 2 hts gL_law_X8_put rfl rfl rfl (by decide +kernel) ⟨Nat.le_of_ble_eq_true rfl, Nat.le_of_ble_eq_true rfl⟩) (k_preV hK (k_recv hK.1 hM2.1 rfl)) rfl rfl hl.1 rfl (lv_room (Nat.le_of_ble_eq_true rfl)) dL_law_125 ⟨hcq, hsq⟩) hS (fun q h => hAm q h) (fun r8 H3 locs hp8 hz3 hk3 hS => ?_)
  obtain ⟨hr8, hM3⟩ := hp8
  refine W.eq (g2 := F0 m 128 ls [.int r8, .int r9]) rfl ?_
  refine lv_icmp_eq (tgt := 479) hx hb dL_law_128 (by decide) (fun c128 => ?_) (fun c128 => ?_)
  · refine W.widen (k := 24 + 60 * (i + 5)) (n := 1583 + 1980 * (i + 5)) (by omega) (by omega) ?_
    exact kk (mPut σ (xs (nI (i + 1)).toNatClampNeg) (xs (nI (i + 2)).toNatClampNeg)).2 nW nV nE wa _ _ (inv_put hI) (hR2.oth hI.n30 (fun q h1 h2 => hk3 q h1 (fun z => ((hB q).mp h2).2 z)) hz3) hM3 hS
  · exact absurd (hr9.trans hr8.symm) c128
set_option maxHeartbeats 4000000 in
set_option maxRecDepth 100000 in
theorem law_question {p : Program} {l : Launch} {e : Env} {s : State} {m : MethodId} {below : List Frame} {meth : Method} {c : Code} {D : va_G} {cI cZ cO : ClassId} {mi eA h0 m0 b L i : Nat} {ad : Nat → Nat} {B : Nat → Prop} {xs : Nat → Int32} {Q : State → Prop} {ls : Array Slot} {H : Heap} {locs : List Loc} {σ : Sg} {nW nV nE : Nat} {wa : Nat → Nat} (hx : p.tables.exec = Jvm.exec) (hb : c.code = code) (hml : c.maxLocals = 4) (hown : s.vm.findClass RL = some m.cls) (hts : ∀ w ∈ wsL_law, w.before #[Value.ref b] s = true) (hK : KK D cI cZ cO mi s) (hZ : ZZ eA (fun q => s.heap.size ≤ q) s s.heap) (hX : va_X b L xs s s.heap) (hbl : b < s.heap.size) (hB : ∀ q, B q ↔ s.heap.size ≤ q ∧ ¬ Am m0 ad q) (hAm : ∀ q, Am m0 ad q → s.heap.size ≤ q) (hi : i + 5 ≤ L) (hL : L ≤ 2560) (hI : Inv σ nW nV nE) (hR : HR D cI cO eA B h0 wa σ nW nV nE H) (hM : MD D cI cZ m0 ad σ H) (hS : va_S (fun q => s.heap.size ≤ q) s.heap H locs) (hl : lv_has ls 4 [(0, .ref b), (1, .ref h0), (2, .ref m0), (3, .int (nI i))]) (kk : lawK p l e s m below meth c D cI cZ cO eA h0 m0 b i ad B Q ls) : W p l e room_1 s m #[Value.ref b] below meth c H locs (24 + 60 * i) (1583 + 1980 * i) Q (F0 m 133 ls []) := by
  have hc0 : 24 + 60 * i ≤ 600000 := by omega
  have hs0 : 1583 + 1980 * i ≤ 7302250 := by omega
  have hbA : ¬ (fun q : Nat => s.heap.size ≤ q) b := Nat.not_le.mpr hbl
  have ek1 : nI i + (1 : Int32) = nI (i + 1) := by rw [show (1 : Int32) = nI 1 from rfl, nI_add]
  have ek2 : nI i + (2 : Int32) = nI (i + 2) := by rw [show (2 : Int32) = nI 2 from rfl, nI_add]
  have ek3 : nI i + (3 : Int32) = nI (i + 3) := by rw [show (3 : Int32) = nI 3 from rfl, nI_add]
  refine lv_aload_n hx hb dL_law_133 rfl (lv_at hl 1 rfl) ?_
  refine lv_aload_n hx hb dL_law_134 rfl (lv_at hl 0 rfl) ?_
  refine lv_iload_n hx hb dL_law_135 rfl (lv_at hl 3 rfl) ?_
  refine lv_iconst (v := 1) hx hb dL_law_136 (by decide) ?_
  refine lv_iadd hx hb dL_law_137 ?_
  rw [ek1]
  refine va_sld hx hb hX hbl hbA hS (vp_in_nI (n := i + 1) (N := L) (by omega) (by omega)) dL_law_138 ?_
  refine W.eq (g2 := F0 m 139 ls [.int (xs (nI (i + 1)).toNatClampNeg), .ref h0]) rfl ?_
  refine lv_aload_n hx hb dL_law_139 rfl (lv_at hl 0 rfl) ?_
  refine lv_iload_n hx hb dL_law_140 rfl (lv_at hl 3 rfl) ?_
  refine lv_iconst (v := 2) hx hb dL_law_141 (by decide) ?_
  refine lv_iadd hx hb dL_law_142 ?_
  rw [ek2]
  refine va_sld hx hb hX hbl hbA hS (vp_in_nI (n := i + 2) (N := L) (by omega) (by omega)) dL_law_143 ?_
  refine W.eq (g2 := F0 m 144 ls [.int (xs (nI (i + 2)).toNatClampNeg), .int (xs (nI (i + 1)).toNatClampNeg), .ref h0]) rfl ?_
  refine lv_aload_n hx hb dL_law_144 rfl (lv_at hl 0 rfl) ?_
  refine lv_iload_n hx hb dL_law_145 rfl (lv_at hl 3 rfl) ?_
  refine lv_iconst (v := 3) hx hb dL_law_146 (by decide) ?_
  refine lv_iadd hx hb dL_law_147 ?_
  rw [ek3]
  refine va_sld hx hb hX hbl hbA hS (vp_in_nI (n := i + 3) (N := L) (by omega) (by omega)) dL_law_148 ?_
  refine W.eq (g2 := F0 m 149 ls [.int (xs (nI (i + 3)).toNatClampNeg), .int (xs (nI (i + 2)).toNatClampNeg), .int (xs (nI (i + 1)).toNatClampNeg), .ref h0]) rfl ?_
  obtain ⟨fs0, hO⟩ := hR.o
  have hZc : ZZ eA B s H := (hZ.S (fun q h => h) hS).narrow (fun q h => ((hB q).mp h).1)
  have hcq : 24 + 60 * i + 2 ≤ 600000 := by omega
  have hsq : 1583 + 1980 * i + 46 ≤ 7302250 := by omega
  refine k_calli (va_runV (As := [.int (xs (nI (i + 1)).toNatClampNeg), .int (xs (nI (i + 2)).toNatClampNeg), .int (xs (nI (i + 3)).toNatClampNeg)]) (rest := []) ⟨hx, hb, hml, hown, hts⟩ (c_question l _ h0 wa σ nW nV nE (xs (nI (i + 1)).toNatClampNeg) (xs (nI (i + 2)).toNatClampNeg) (xs (nI (i + 3)).toNatClampNeg) hR hI) (cwV 3 hts gL_law_X7_question rfl rfl rfl (by decide +kernel) ⟨Nat.le_of_ble_eq_true rfl, Nat.le_of_ble_eq_true rfl⟩) (z_preV hK hZc (k_recv hK.1 hO rfl)) rfl rfl hl.1 rfl (lv_room (Nat.le_of_ble_eq_true rfl)) dL_law_149 ⟨hcq, hsq⟩) hS (fun q h => ((hB q).mp h).1) (fun r9 H2 locs hp9 hz2 hk2 hS => ?_)
  have hM2 := hM.kept (H1 := H2) (fun q hq => hk2 q (hM.ltA hq) (fun z => ((hB q).mp z).2 hq))
  obtain ⟨hr9, wa2, nW2, nV2, nE2, hR2, hI2⟩ := hp9
  refine W.eq (g2 := F0 m 152 ls [.int r9]) rfl ?_
  refine lv_aload_n hx hb dL_law_152 rfl (lv_at hl 2 rfl) ?_
  refine lv_aload_n hx hb dL_law_153 rfl (lv_at hl 0 rfl) ?_
  refine lv_iload_n hx hb dL_law_154 rfl (lv_at hl 3 rfl) ?_
  refine lv_iconst (v := 1) hx hb dL_law_155 (by decide) ?_
  refine lv_iadd hx hb dL_law_156 ?_
  rw [ek1]
  refine va_sld hx hb hX hbl hbA hS (vp_in_nI (n := i + 1) (N := L) (by omega) (by omega)) dL_law_157 ?_
  refine W.eq (g2 := F0 m 158 ls [.int (xs (nI (i + 1)).toNatClampNeg), .ref m0, .int r9]) rfl ?_
  refine lv_aload_n hx hb dL_law_158 rfl (lv_at hl 0 rfl) ?_
  refine lv_iload_n hx hb dL_law_159 rfl (lv_at hl 3 rfl) ?_
  refine lv_iconst (v := 2) hx hb dL_law_160 (by decide) ?_
  refine lv_iadd hx hb dL_law_161 ?_
  rw [ek2]
  refine va_sld hx hb hX hbl hbA hS (vp_in_nI (n := i + 2) (N := L) (by omega) (by omega)) dL_law_162 ?_
  refine W.eq (g2 := F0 m 163 ls [.int (xs (nI (i + 2)).toNatClampNeg), .int (xs (nI (i + 1)).toNatClampNeg), .ref m0, .int r9]) rfl ?_
  refine lv_aload_n hx hb dL_law_163 rfl (lv_at hl 0 rfl) ?_
  refine lv_iload_n hx hb dL_law_164 rfl (lv_at hl 3 rfl) ?_
  refine lv_iconst (v := 3) hx hb dL_law_165 (by decide) ?_
  refine lv_iadd hx hb dL_law_166 ?_
  rw [ek3]
  refine va_sld hx hb hX hbl hbA hS (vp_in_nI (n := i + 3) (N := L) (by omega) (by omega)) dL_law_167 ?_
  refine W.eq (g2 := F0 m 168 ls [.int (xs (nI (i + 3)).toNatClampNeg), .int (xs (nI (i + 2)).toNatClampNeg), .int (xs (nI (i + 1)).toNatClampNeg), .ref m0, .int r9]) rfl ?_
  refine k_calli (va_runV (As := [.int (xs (nI (i + 1)).toNatClampNeg), .int (xs (nI (i + 2)).toNatClampNeg), .int (xs (nI (i + 3)).toNatClampNeg)]) (rest := [.int r9]) ⟨hx, hb, hml, hown, hts⟩ (c_X8_question l _ m0 ad σ nW (xs (nI (i + 1)).toNatClampNeg) (xs (nI (i + 2)).toNatClampNeg) (xs (nI (i + 3)).toNatClampNeg) hM2 hI.1 hI.n30) (cwV 3 hts gL_law_X8_question rfl rfl rfl (by decide +kernel) ⟨Nat.le_of_ble_eq_true rfl, Nat.le_of_ble_eq_true rfl⟩) (k_preV hK (k_recv hK.1 hM2.1 rfl)) rfl rfl hl.1 rfl (lv_room (Nat.le_of_ble_eq_true rfl)) dL_law_168 ⟨hcq, hsq⟩) hS (fun q h => hAm q h) (fun r8 H3 locs hp8 hz3 hk3 hS => ?_)
  obtain ⟨hr8, hM3⟩ := hp8
  refine W.eq (g2 := F0 m 171 ls [.int r8, .int r9]) rfl ?_
  refine lv_icmp_eq (tgt := 479) hx hb dL_law_171 (by decide) (fun c171 => ?_) (fun c171 => ?_)
  · refine W.widen (k := 24 + 60 * (i + 5)) (n := 1583 + 1980 * (i + 5)) (by omega) (by omega) ?_
    exact kk (mQue σ nW (xs (nI (i + 1)).toNatClampNeg) (xs (nI (i + 2)).toNatClampNeg) (xs (nI (i + 3)).toNatClampNeg)).2 nW2 nV2 nE2 wa2 _ _ hI2 (hR2.oth hI2.n30 (fun q h1 h2 => hk3 q h1 (fun z => ((hB q).mp h2).2 z)) hz3) hM3 hS
  · exact absurd (hr9.trans hr8.symm) c171
set_option maxHeartbeats 4000000 in
set_option maxRecDepth 100000 in
theorem law_writer {p : Program} {l : Launch} {e : Env} {s : State} {m : MethodId} {below : List Frame} {meth : Method} {c : Code} {D : va_G} {cI cZ cO : ClassId} {mi eA h0 m0 b L i : Nat} {ad : Nat → Nat} {B : Nat → Prop} {xs : Nat → Int32} {Q : State → Prop} {ls : Array Slot} {H : Heap} {locs : List Loc} {σ : Sg} {nW nV nE : Nat} {wa : Nat → Nat} (hx : p.tables.exec = Jvm.exec) (hb : c.code = code) (hml : c.maxLocals = 4) (hown : s.vm.findClass RL = some m.cls) (hts : ∀ w ∈ wsL_law, w.before #[Value.ref b] s = true) (hK : KK D cI cZ cO mi s) (hZ : ZZ eA (fun q => s.heap.size ≤ q) s s.heap) (hX : va_X b L xs s s.heap) (hbl : b < s.heap.size) (hB : ∀ q, B q ↔ s.heap.size ≤ q ∧ ¬ Am m0 ad q) (hAm : ∀ q, Am m0 ad q → s.heap.size ≤ q) (hi : i + 5 ≤ L) (hL : L ≤ 2560) (hI : Inv σ nW nV nE) (hR : HR D cI cO eA B h0 wa σ nW nV nE H) (hM : MD D cI cZ m0 ad σ H) (hS : va_S (fun q => s.heap.size ≤ q) s.heap H locs) (hl : lv_has ls 4 [(0, .ref b), (1, .ref h0), (2, .ref m0), (3, .int (nI i))]) (kk : lawK p l e s m below meth c D cI cZ cO eA h0 m0 b i ad B Q ls) : W p l e room_1 s m #[Value.ref b] below meth c H locs (24 + 60 * i) (1583 + 1980 * i) Q (F0 m 176 ls []) := by
  have hc0 : 24 + 60 * i ≤ 600000 := by omega
  have hs0 : 1583 + 1980 * i ≤ 7302250 := by omega
  have hbA : ¬ (fun q : Nat => s.heap.size ≤ q) b := Nat.not_le.mpr hbl
  have ek1 : nI i + (1 : Int32) = nI (i + 1) := by rw [show (1 : Int32) = nI 1 from rfl, nI_add]
  have ek2 : nI i + (2 : Int32) = nI (i + 2) := by rw [show (2 : Int32) = nI 2 from rfl, nI_add]
  have ek3 : nI i + (3 : Int32) = nI (i + 3) := by rw [show (3 : Int32) = nI 3 from rfl, nI_add]
  have ek4 : nI i + (4 : Int32) = nI (i + 4) := by rw [show (4 : Int32) = nI 4 from rfl, nI_add]
  refine lv_aload_n hx hb dL_law_176 rfl (lv_at hl 1 rfl) ?_
  refine lv_aload_n hx hb dL_law_177 rfl (lv_at hl 0 rfl) ?_
  refine lv_iload_n hx hb dL_law_178 rfl (lv_at hl 3 rfl) ?_
  refine lv_iconst (v := 1) hx hb dL_law_179 (by decide) ?_
  refine lv_iadd hx hb dL_law_180 ?_
  rw [ek1]
  refine va_sld hx hb hX hbl hbA hS (vp_in_nI (n := i + 1) (N := L) (by omega) (by omega)) dL_law_181 ?_
  refine W.eq (g2 := F0 m 182 ls [.int (xs (nI (i + 1)).toNatClampNeg), .ref h0]) rfl ?_
  refine lv_aload_n hx hb dL_law_182 rfl (lv_at hl 0 rfl) ?_
  refine lv_iload_n hx hb dL_law_183 rfl (lv_at hl 3 rfl) ?_
  refine lv_iconst (v := 2) hx hb dL_law_184 (by decide) ?_
  refine lv_iadd hx hb dL_law_185 ?_
  rw [ek2]
  refine va_sld hx hb hX hbl hbA hS (vp_in_nI (n := i + 2) (N := L) (by omega) (by omega)) dL_law_186 ?_
  refine W.eq (g2 := F0 m 187 ls [.int (xs (nI (i + 2)).toNatClampNeg), .int (xs (nI (i + 1)).toNatClampNeg), .ref h0]) rfl ?_
  refine lv_aload_n hx hb dL_law_187 rfl (lv_at hl 0 rfl) ?_
  refine lv_iload_n hx hb dL_law_188 rfl (lv_at hl 3 rfl) ?_
  refine lv_iconst (v := 3) hx hb dL_law_189 (by decide) ?_
  refine lv_iadd hx hb dL_law_190 ?_
  rw [ek3]
  refine va_sld hx hb hX hbl hbA hS (vp_in_nI (n := i + 3) (N := L) (by omega) (by omega)) dL_law_191 ?_
  refine W.eq (g2 := F0 m 192 ls [.int (xs (nI (i + 3)).toNatClampNeg), .int (xs (nI (i + 2)).toNatClampNeg), .int (xs (nI (i + 1)).toNatClampNeg), .ref h0]) rfl ?_
  refine lv_aload_n hx hb dL_law_192 rfl (lv_at hl 0 rfl) ?_
  refine lv_iload_n hx hb dL_law_193 rfl (lv_at hl 3 rfl) ?_
  refine lv_iconst (v := 4) hx hb dL_law_194 (by decide) ?_
  refine lv_iadd hx hb dL_law_195 ?_
  rw [ek4]
  refine va_sld hx hb hX hbl hbA hS (vp_in_nI (n := i + 4) (N := L) (by omega) (by omega)) dL_law_196 ?_
  refine W.eq (g2 := F0 m 197 ls [.int (xs (nI (i + 4)).toNatClampNeg), .int (xs (nI (i + 3)).toNatClampNeg), .int (xs (nI (i + 2)).toNatClampNeg), .int (xs (nI (i + 1)).toNatClampNeg), .ref h0]) rfl ?_
  obtain ⟨fs0, hO⟩ := hR.o
  have hZc : ZZ eA B s H := (hZ.S (fun q h => h) hS).narrow (fun q h => ((hB q).mp h).1)
  have hcq : 24 + 60 * i + 4 ≤ 600000 := by omega
  have hsq : 1583 + 1980 * i + 64 ≤ 7302250 := by omega
  refine k_calli (va_runV (As := [.int (xs (nI (i + 1)).toNatClampNeg), .int (xs (nI (i + 2)).toNatClampNeg), .int (xs (nI (i + 3)).toNatClampNeg), .int (xs (nI (i + 4)).toNatClampNeg)]) (rest := []) ⟨hx, hb, hml, hown, hts⟩ (c_writer l _ h0 wa σ nW nV nE (xs (nI (i + 1)).toNatClampNeg) (xs (nI (i + 2)).toNatClampNeg) (xs (nI (i + 3)).toNatClampNeg) (xs (nI (i + 4)).toNatClampNeg) hR hI) (cwV 4 hts gL_law_X7_writer rfl rfl rfl (by decide +kernel) ⟨Nat.le_of_ble_eq_true rfl, Nat.le_of_ble_eq_true rfl⟩) (z_preV hK hZc (k_recv hK.1 hO rfl)) rfl rfl hl.1 rfl (lv_room (Nat.le_of_ble_eq_true rfl)) dL_law_197 ⟨hcq, hsq⟩) hS (fun q h => ((hB q).mp h).1) (fun r9 H2 locs hp9 hz2 hk2 hS => ?_)
  have hM2 := hM.kept (H1 := H2) (fun q hq => hk2 q (hM.ltA hq) (fun z => ((hB q).mp z).2 hq))
  obtain ⟨hr9, wa2, nW2, nV2, nE2, hR2, hI2⟩ := hp9
  refine W.eq (g2 := F0 m 200 ls [.int r9]) rfl ?_
  refine lv_aload_n hx hb dL_law_200 rfl (lv_at hl 2 rfl) ?_
  refine lv_aload_n hx hb dL_law_201 rfl (lv_at hl 0 rfl) ?_
  refine lv_iload_n hx hb dL_law_202 rfl (lv_at hl 3 rfl) ?_
  refine lv_iconst (v := 1) hx hb dL_law_203 (by decide) ?_
  refine lv_iadd hx hb dL_law_204 ?_
  rw [ek1]
  refine va_sld hx hb hX hbl hbA hS (vp_in_nI (n := i + 1) (N := L) (by omega) (by omega)) dL_law_205 ?_
  refine W.eq (g2 := F0 m 206 ls [.int (xs (nI (i + 1)).toNatClampNeg), .ref m0, .int r9]) rfl ?_
  refine lv_aload_n hx hb dL_law_206 rfl (lv_at hl 0 rfl) ?_
  refine lv_iload_n hx hb dL_law_207 rfl (lv_at hl 3 rfl) ?_
  refine lv_iconst (v := 2) hx hb dL_law_208 (by decide) ?_
  refine lv_iadd hx hb dL_law_209 ?_
  rw [ek2]
  refine va_sld hx hb hX hbl hbA hS (vp_in_nI (n := i + 2) (N := L) (by omega) (by omega)) dL_law_210 ?_
  refine W.eq (g2 := F0 m 211 ls [.int (xs (nI (i + 2)).toNatClampNeg), .int (xs (nI (i + 1)).toNatClampNeg), .ref m0, .int r9]) rfl ?_
  refine lv_aload_n hx hb dL_law_211 rfl (lv_at hl 0 rfl) ?_
  refine lv_iload_n hx hb dL_law_212 rfl (lv_at hl 3 rfl) ?_
  refine lv_iconst (v := 3) hx hb dL_law_213 (by decide) ?_
  refine lv_iadd hx hb dL_law_214 ?_
  rw [ek3]
  refine va_sld hx hb hX hbl hbA hS (vp_in_nI (n := i + 3) (N := L) (by omega) (by omega)) dL_law_215 ?_
  refine W.eq (g2 := F0 m 216 ls [.int (xs (nI (i + 3)).toNatClampNeg), .int (xs (nI (i + 2)).toNatClampNeg), .int (xs (nI (i + 1)).toNatClampNeg), .ref m0, .int r9]) rfl ?_
  refine lv_aload_n hx hb dL_law_216 rfl (lv_at hl 0 rfl) ?_
  refine lv_iload_n hx hb dL_law_217 rfl (lv_at hl 3 rfl) ?_
  refine lv_iconst (v := 4) hx hb dL_law_218 (by decide) ?_
  refine lv_iadd hx hb dL_law_219 ?_
  rw [ek4]
  refine va_sld hx hb hX hbl hbA hS (vp_in_nI (n := i + 4) (N := L) (by omega) (by omega)) dL_law_220 ?_
  refine W.eq (g2 := F0 m 221 ls [.int (xs (nI (i + 4)).toNatClampNeg), .int (xs (nI (i + 3)).toNatClampNeg), .int (xs (nI (i + 2)).toNatClampNeg), .int (xs (nI (i + 1)).toNatClampNeg), .ref m0, .int r9]) rfl ?_
  refine k_calli (va_runV (As := [.int (xs (nI (i + 1)).toNatClampNeg), .int (xs (nI (i + 2)).toNatClampNeg), .int (xs (nI (i + 3)).toNatClampNeg), .int (xs (nI (i + 4)).toNatClampNeg)]) (rest := [.int r9]) ⟨hx, hb, hml, hown, hts⟩ (c_X8_writer l _ m0 ad σ nW (xs (nI (i + 1)).toNatClampNeg) (xs (nI (i + 2)).toNatClampNeg) (xs (nI (i + 3)).toNatClampNeg) (xs (nI (i + 4)).toNatClampNeg) hM2 hI.1 hI.n30) (cwV 4 hts gL_law_X8_writer rfl rfl rfl (by decide +kernel) ⟨Nat.le_of_ble_eq_true rfl, Nat.le_of_ble_eq_true rfl⟩) (k_preV hK (k_recv hK.1 hM2.1 rfl)) rfl rfl hl.1 rfl (lv_room (Nat.le_of_ble_eq_true rfl)) dL_law_221 ⟨hcq, hsq⟩) hS (fun q h => hAm q h) (fun r8 H3 locs hp8 hz3 hk3 hS => ?_)
  obtain ⟨hr8, hM3⟩ := hp8
  refine W.eq (g2 := F0 m 224 ls [.int r8, .int r9]) rfl ?_
  refine lv_icmp_eq (tgt := 479) hx hb dL_law_224 (by decide) (fun c224 => ?_) (fun c224 => ?_)
  · refine W.widen (k := 24 + 60 * (i + 5)) (n := 1583 + 1980 * (i + 5)) (by omega) (by omega) ?_
    exact kk (mWri σ nW (xs (nI (i + 1)).toNatClampNeg) (xs (nI (i + 2)).toNatClampNeg) (xs (nI (i + 3)).toNatClampNeg) (xs (nI (i + 4)).toNatClampNeg)).2 nW2 nV2 nE2 wa2 _ _ hI2 (hR2.oth hI2.n30 (fun q h1 h2 => hk3 q h1 (fun z => ((hB q).mp h2).2 z)) hz3) hM3 hS
  · exact absurd (hr9.trans hr8.symm) c224
set_option maxHeartbeats 4000000 in
set_option maxRecDepth 100000 in
theorem law_reason {p : Program} {l : Launch} {e : Env} {s : State} {m : MethodId} {below : List Frame} {meth : Method} {c : Code} {D : va_G} {cI cZ cO : ClassId} {mi eA h0 m0 b L i : Nat} {ad : Nat → Nat} {B : Nat → Prop} {xs : Nat → Int32} {Q : State → Prop} {ls : Array Slot} {H : Heap} {locs : List Loc} {σ : Sg} {nW nV nE : Nat} {wa : Nat → Nat} (hx : p.tables.exec = Jvm.exec) (hb : c.code = code) (hml : c.maxLocals = 4) (hown : s.vm.findClass RL = some m.cls) (hts : ∀ w ∈ wsL_law, w.before #[Value.ref b] s = true) (hK : KK D cI cZ cO mi s) (hZ : ZZ eA (fun q => s.heap.size ≤ q) s s.heap) (hX : va_X b L xs s s.heap) (hbl : b < s.heap.size) (hB : ∀ q, B q ↔ s.heap.size ≤ q ∧ ¬ Am m0 ad q) (hAm : ∀ q, Am m0 ad q → s.heap.size ≤ q) (hi : i + 5 ≤ L) (hL : L ≤ 2560) (hI : Inv σ nW nV nE) (hR : HR D cI cO eA B h0 wa σ nW nV nE H) (hM : MD D cI cZ m0 ad σ H) (hS : va_S (fun q => s.heap.size ≤ q) s.heap H locs) (hl : lv_has ls 4 [(0, .ref b), (1, .ref h0), (2, .ref m0), (3, .int (nI i))]) (kk : lawK p l e s m below meth c D cI cZ cO eA h0 m0 b i ad B Q ls) : W p l e room_1 s m #[Value.ref b] below meth c H locs (24 + 60 * i) (1583 + 1980 * i) Q (F0 m 229 ls []) := by
  have hc0 : 24 + 60 * i ≤ 600000 := by omega
  have hs0 : 1583 + 1980 * i ≤ 7302250 := by omega
  have hbA : ¬ (fun q : Nat => s.heap.size ≤ q) b := Nat.not_le.mpr hbl
  have ek1 : nI i + (1 : Int32) = nI (i + 1) := by rw [show (1 : Int32) = nI 1 from rfl, nI_add]
  have ek2 : nI i + (2 : Int32) = nI (i + 2) := by rw [show (2 : Int32) = nI 2 from rfl, nI_add]
  refine lv_aload_n hx hb dL_law_229 rfl (lv_at hl 1 rfl) ?_
  refine lv_aload_n hx hb dL_law_230 rfl (lv_at hl 0 rfl) ?_
  refine lv_iload_n hx hb dL_law_231 rfl (lv_at hl 3 rfl) ?_
  refine lv_iconst (v := 1) hx hb dL_law_232 (by decide) ?_
  refine lv_iadd hx hb dL_law_233 ?_
  rw [ek1]
  refine va_sld hx hb hX hbl hbA hS (vp_in_nI (n := i + 1) (N := L) (by omega) (by omega)) dL_law_234 ?_
  refine W.eq (g2 := F0 m 235 ls [.int (xs (nI (i + 1)).toNatClampNeg), .ref h0]) rfl ?_
  refine lv_aload_n hx hb dL_law_235 rfl (lv_at hl 0 rfl) ?_
  refine lv_iload_n hx hb dL_law_236 rfl (lv_at hl 3 rfl) ?_
  refine lv_iconst (v := 2) hx hb dL_law_237 (by decide) ?_
  refine lv_iadd hx hb dL_law_238 ?_
  rw [ek2]
  refine va_sld hx hb hX hbl hbA hS (vp_in_nI (n := i + 2) (N := L) (by omega) (by omega)) dL_law_239 ?_
  refine W.eq (g2 := F0 m 240 ls [.int (xs (nI (i + 2)).toNatClampNeg), .int (xs (nI (i + 1)).toNatClampNeg), .ref h0]) rfl ?_
  obtain ⟨fs0, hO⟩ := hR.o
  have hZc : ZZ eA B s H := (hZ.S (fun q h => h) hS).narrow (fun q h => ((hB q).mp h).1)
  have hcq : 24 + 60 * i + 4 ≤ 600000 := by omega
  have hsq : 1583 + 1980 * i + 62 ≤ 7302250 := by omega
  refine k_calli (va_runV (As := [.int (xs (nI (i + 1)).toNatClampNeg), .int (xs (nI (i + 2)).toNatClampNeg)]) (rest := []) ⟨hx, hb, hml, hown, hts⟩ (c_reason l _ h0 wa σ nW nV nE (xs (nI (i + 1)).toNatClampNeg) (xs (nI (i + 2)).toNatClampNeg) hR hI) (cwV 2 hts gL_law_X7_reason rfl rfl rfl (by decide +kernel) ⟨Nat.le_of_ble_eq_true rfl, Nat.le_of_ble_eq_true rfl⟩) (z_preV hK hZc (k_recv hK.1 hO rfl)) rfl rfl hl.1 rfl (lv_room (Nat.le_of_ble_eq_true rfl)) dL_law_240 ⟨hcq, hsq⟩) hS (fun q h => ((hB q).mp h).1) (fun r9 H2 locs hp9 hz2 hk2 hS => ?_)
  have hM2 := hM.kept (H1 := H2) (fun q hq => hk2 q (hM.ltA hq) (fun z => ((hB q).mp z).2 hq))
  obtain ⟨hr9, wa2, nW2, nV2, nE2, hR2, hI2⟩ := hp9
  refine W.eq (g2 := F0 m 243 ls [.int r9]) rfl ?_
  refine lv_aload_n hx hb dL_law_243 rfl (lv_at hl 2 rfl) ?_
  refine lv_aload_n hx hb dL_law_244 rfl (lv_at hl 0 rfl) ?_
  refine lv_iload_n hx hb dL_law_245 rfl (lv_at hl 3 rfl) ?_
  refine lv_iconst (v := 1) hx hb dL_law_246 (by decide) ?_
  refine lv_iadd hx hb dL_law_247 ?_
  rw [ek1]
  refine va_sld hx hb hX hbl hbA hS (vp_in_nI (n := i + 1) (N := L) (by omega) (by omega)) dL_law_248 ?_
  refine W.eq (g2 := F0 m 249 ls [.int (xs (nI (i + 1)).toNatClampNeg), .ref m0, .int r9]) rfl ?_
  refine lv_aload_n hx hb dL_law_249 rfl (lv_at hl 0 rfl) ?_
  refine lv_iload_n hx hb dL_law_250 rfl (lv_at hl 3 rfl) ?_
  refine lv_iconst (v := 2) hx hb dL_law_251 (by decide) ?_
  refine lv_iadd hx hb dL_law_252 ?_
  rw [ek2]
  refine va_sld hx hb hX hbl hbA hS (vp_in_nI (n := i + 2) (N := L) (by omega) (by omega)) dL_law_253 ?_
  refine W.eq (g2 := F0 m 254 ls [.int (xs (nI (i + 2)).toNatClampNeg), .int (xs (nI (i + 1)).toNatClampNeg), .ref m0, .int r9]) rfl ?_
  refine k_calli (va_runV (As := [.int (xs (nI (i + 1)).toNatClampNeg), .int (xs (nI (i + 2)).toNatClampNeg)]) (rest := [.int r9]) ⟨hx, hb, hml, hown, hts⟩ (c_X8_reason l _ m0 ad σ nW (xs (nI (i + 1)).toNatClampNeg) (xs (nI (i + 2)).toNatClampNeg) hM2 hI.1 hI.n30) (cwV 2 hts gL_law_X8_reason rfl rfl rfl (by decide +kernel) ⟨Nat.le_of_ble_eq_true rfl, Nat.le_of_ble_eq_true rfl⟩) (k_preV hK (k_recv hK.1 hM2.1 rfl)) rfl rfl hl.1 rfl (lv_room (Nat.le_of_ble_eq_true rfl)) dL_law_254 ⟨hcq, hsq⟩) hS (fun q h => hAm q h) (fun r8 H3 locs hp8 hz3 hk3 hS => ?_)
  obtain ⟨hr8, hM3⟩ := hp8
  refine W.eq (g2 := F0 m 257 ls [.int r8, .int r9]) rfl ?_
  refine lv_icmp_eq (tgt := 479) hx hb dL_law_257 (by decide) (fun c257 => ?_) (fun c257 => ?_)
  · refine W.widen (k := 24 + 60 * (i + 5)) (n := 1583 + 1980 * (i + 5)) (by omega) (by omega) ?_
    exact kk (mRea σ nW (xs (nI (i + 1)).toNatClampNeg) (xs (nI (i + 2)).toNatClampNeg)).2 nW2 nV2 nE2 wa2 _ _ hI2 (hR2.oth hI2.n30 (fun q h1 h2 => hk3 q h1 (fun z => ((hB q).mp h2).2 z)) hz3) hM3 hS
  · exact absurd (hr9.trans hr8.symm) c257
set_option maxHeartbeats 4000000 in
set_option maxRecDepth 100000 in
theorem law_stream {p : Program} {l : Launch} {e : Env} {s : State} {m : MethodId} {below : List Frame} {meth : Method} {c : Code} {D : va_G} {cI cZ cO : ClassId} {mi eA h0 m0 b L i : Nat} {ad : Nat → Nat} {B : Nat → Prop} {xs : Nat → Int32} {Q : State → Prop} {ls : Array Slot} {H : Heap} {locs : List Loc} {σ : Sg} {nW nV nE : Nat} {wa : Nat → Nat} (hx : p.tables.exec = Jvm.exec) (hb : c.code = code) (hml : c.maxLocals = 4) (hown : s.vm.findClass RL = some m.cls) (hts : ∀ w ∈ wsL_law, w.before #[Value.ref b] s = true) (hK : KK D cI cZ cO mi s) (hZ : ZZ eA (fun q => s.heap.size ≤ q) s s.heap) (hX : va_X b L xs s s.heap) (hbl : b < s.heap.size) (hB : ∀ q, B q ↔ s.heap.size ≤ q ∧ ¬ Am m0 ad q) (hAm : ∀ q, Am m0 ad q → s.heap.size ≤ q) (hi : i + 5 ≤ L) (hL : L ≤ 2560) (hI : Inv σ nW nV nE) (hR : HR D cI cO eA B h0 wa σ nW nV nE H) (hM : MD D cI cZ m0 ad σ H) (hS : va_S (fun q => s.heap.size ≤ q) s.heap H locs) (hl : lv_has ls 4 [(0, .ref b), (1, .ref h0), (2, .ref m0), (3, .int (nI i))]) (kk : lawK p l e s m below meth c D cI cZ cO eA h0 m0 b i ad B Q ls) : W p l e room_1 s m #[Value.ref b] below meth c H locs (24 + 60 * i) (1583 + 1980 * i) Q (F0 m 262 ls []) := by
  have hc0 : 24 + 60 * i ≤ 600000 := by omega
  have hs0 : 1583 + 1980 * i ≤ 7302250 := by omega
  have hbA : ¬ (fun q : Nat => s.heap.size ≤ q) b := Nat.not_le.mpr hbl
  refine lv_aload_n hx hb dL_law_262 rfl (lv_at hl 1 rfl) ?_
  obtain ⟨fs0, hO⟩ := hR.o
  have hZc : ZZ eA B s H := (hZ.S (fun q h => h) hS).narrow (fun q h => ((hB q).mp h).1)
  have hcq : 24 + 60 * i + 2 ≤ 600000 := by omega
  have hsq : 1583 + 1980 * i + 44 ≤ 7302250 := by omega
  refine k_calli (va_runV (As := []) (rest := []) ⟨hx, hb, hml, hown, hts⟩ (c_stream l _ h0 wa σ nW nV nE  hR hI) (cwV 0 hts gL_law_X7_stream rfl rfl rfl (by decide +kernel) ⟨Nat.le_of_ble_eq_true rfl, Nat.le_of_ble_eq_true rfl⟩) (z_preV hK hZc (k_recv hK.1 hO rfl)) rfl rfl hl.1 rfl (lv_room (Nat.le_of_ble_eq_true rfl)) dL_law_263 ⟨hcq, hsq⟩) hS (fun q h => ((hB q).mp h).1) (fun r9 H2 locs hp9 hz2 hk2 hS => ?_)
  have hM2 := hM.kept (H1 := H2) (fun q hq => hk2 q (hM.ltA hq) (fun z => ((hB q).mp z).2 hq))
  obtain ⟨hr9, wa2, nW2, nV2, nE2, hR2, hI2⟩ := hp9
  refine W.eq (g2 := F0 m 266 ls [.int r9]) rfl ?_
  refine lv_aload_n hx hb dL_law_266 rfl (lv_at hl 2 rfl) ?_
  refine k_calli (va_runV (As := []) (rest := [.int r9]) ⟨hx, hb, hml, hown, hts⟩ (c_X8_stream l _ m0 ad σ nW hM2 hI.1 hI.n30) (cwV 0 hts gL_law_X8_stream rfl rfl rfl (by decide +kernel) ⟨Nat.le_of_ble_eq_true rfl, Nat.le_of_ble_eq_true rfl⟩) (k_preV hK (k_recv hK.1 hM2.1 rfl)) rfl rfl hl.1 rfl (lv_room (Nat.le_of_ble_eq_true rfl)) dL_law_267 ⟨hcq, hsq⟩) hS (fun q h => hAm q h) (fun r8 H3 locs hp8 hz3 hk3 hS => ?_)
  obtain ⟨hr8, hM3⟩ := hp8
  refine W.eq (g2 := F0 m 270 ls [.int r8, .int r9]) rfl ?_
  refine lv_icmp_eq (tgt := 479) hx hb dL_law_270 (by decide) (fun c270 => ?_) (fun c270 => ?_)
  · refine W.widen (k := 24 + 60 * (i + 5)) (n := 1583 + 1980 * (i + 5)) (by omega) (by omega) ?_
    exact kk (beg σ nW 3 0 0 0 0).2 nW2 nV2 nE2 wa2 _ _ hI2 (hR2.oth hI2.n30 (fun q h1 h2 => hk3 q h1 (fun z => ((hB q).mp h2).2 z)) hz3) hM3 hS
  · exact absurd (hr9.trans hr8.symm) c270
set_option maxHeartbeats 4000000 in
set_option maxRecDepth 100000 in
theorem law_turn {p : Program} {l : Launch} {e : Env} {s : State} {m : MethodId} {below : List Frame} {meth : Method} {c : Code} {D : va_G} {cI cZ cO : ClassId} {mi eA h0 m0 b L i : Nat} {ad : Nat → Nat} {B : Nat → Prop} {xs : Nat → Int32} {Q : State → Prop} {ls : Array Slot} {H : Heap} {locs : List Loc} {σ : Sg} {nW nV nE : Nat} {wa : Nat → Nat} (hx : p.tables.exec = Jvm.exec) (hb : c.code = code) (hml : c.maxLocals = 4) (hown : s.vm.findClass RL = some m.cls) (hts : ∀ w ∈ wsL_law, w.before #[Value.ref b] s = true) (hK : KK D cI cZ cO mi s) (hZ : ZZ eA (fun q => s.heap.size ≤ q) s s.heap) (hX : va_X b L xs s s.heap) (hbl : b < s.heap.size) (hB : ∀ q, B q ↔ s.heap.size ≤ q ∧ ¬ Am m0 ad q) (hAm : ∀ q, Am m0 ad q → s.heap.size ≤ q) (hi : i + 5 ≤ L) (hL : L ≤ 2560) (hI : Inv σ nW nV nE) (hR : HR D cI cO eA B h0 wa σ nW nV nE H) (hM : MD D cI cZ m0 ad σ H) (hS : va_S (fun q => s.heap.size ≤ q) s.heap H locs) (hl : lv_has ls 4 [(0, .ref b), (1, .ref h0), (2, .ref m0), (3, .int (nI i))]) (kk : lawK p l e s m below meth c D cI cZ cO eA h0 m0 b i ad B Q ls) : W p l e room_1 s m #[Value.ref b] below meth c H locs (24 + 60 * i) (1583 + 1980 * i) Q (F0 m 275 ls []) := by
  have hc0 : 24 + 60 * i ≤ 600000 := by omega
  have hs0 : 1583 + 1980 * i ≤ 7302250 := by omega
  have hbA : ¬ (fun q : Nat => s.heap.size ≤ q) b := Nat.not_le.mpr hbl
  have ek1 : nI i + (1 : Int32) = nI (i + 1) := by rw [show (1 : Int32) = nI 1 from rfl, nI_add]
  refine lv_aload_n hx hb dL_law_275 rfl (lv_at hl 1 rfl) ?_
  refine lv_aload_n hx hb dL_law_276 rfl (lv_at hl 0 rfl) ?_
  refine lv_iload_n hx hb dL_law_277 rfl (lv_at hl 3 rfl) ?_
  refine lv_iconst (v := 1) hx hb dL_law_278 (by decide) ?_
  refine lv_iadd hx hb dL_law_279 ?_
  rw [ek1]
  refine va_sld hx hb hX hbl hbA hS (vp_in_nI (n := i + 1) (N := L) (by omega) (by omega)) dL_law_280 ?_
  refine W.eq (g2 := F0 m 281 ls [.int (xs (nI (i + 1)).toNatClampNeg), .ref h0]) rfl ?_
  obtain ⟨fs0, hO⟩ := hR.o
  have hZc : ZZ eA B s H := (hZ.S (fun q h => h) hS).narrow (fun q h => ((hB q).mp h).1)
  have hcq : 24 + 60 * i + 2 ≤ 600000 := by omega
  have hsq : 1583 + 1980 * i + 66 ≤ 7302250 := by omega
  refine k_calli (va_runV (As := [.int (xs (nI (i + 1)).toNatClampNeg)]) (rest := []) ⟨hx, hb, hml, hown, hts⟩ (c_turn l _ h0 wa σ nW nV nE (xs (nI (i + 1)).toNatClampNeg) hR hI) (cwV 1 hts gL_law_X7_turn rfl rfl rfl (by decide +kernel) ⟨Nat.le_of_ble_eq_true rfl, Nat.le_of_ble_eq_true rfl⟩) (z_preV hK hZc (k_recv hK.1 hO rfl)) rfl rfl hl.1 rfl (lv_room (Nat.le_of_ble_eq_true rfl)) dL_law_281 ⟨hcq, hsq⟩) hS (fun q h => ((hB q).mp h).1) (fun r9 H2 locs hp9 hz2 hk2 hS => ?_)
  have hM2 := hM.kept (H1 := H2) (fun q hq => hk2 q (hM.ltA hq) (fun z => ((hB q).mp z).2 hq))
  obtain ⟨hr9, nV2, nE2, hR2, hI2⟩ := hp9
  refine W.eq (g2 := F0 m 284 ls [.int r9]) rfl ?_
  refine lv_aload_n hx hb dL_law_284 rfl (lv_at hl 2 rfl) ?_
  refine lv_aload_n hx hb dL_law_285 rfl (lv_at hl 0 rfl) ?_
  refine lv_iload_n hx hb dL_law_286 rfl (lv_at hl 3 rfl) ?_
  refine lv_iconst (v := 1) hx hb dL_law_287 (by decide) ?_
  refine lv_iadd hx hb dL_law_288 ?_
  rw [ek1]
  refine va_sld hx hb hX hbl hbA hS (vp_in_nI (n := i + 1) (N := L) (by omega) (by omega)) dL_law_289 ?_
  refine W.eq (g2 := F0 m 290 ls [.int (xs (nI (i + 1)).toNatClampNeg), .ref m0, .int r9]) rfl ?_
  refine k_calli (va_runV (As := [.int (xs (nI (i + 1)).toNatClampNeg)]) (rest := [.int r9]) ⟨hx, hb, hml, hown, hts⟩ (c_X8_turn l _ m0 ad σ nW nV nE (xs (nI (i + 1)).toNatClampNeg) hM2 hI) (cwV 1 hts gL_law_X8_turn rfl rfl rfl (by decide +kernel) ⟨Nat.le_of_ble_eq_true rfl, Nat.le_of_ble_eq_true rfl⟩) (k_preV hK (k_recv hK.1 hM2.1 rfl)) rfl rfl hl.1 rfl (lv_room (Nat.le_of_ble_eq_true rfl)) dL_law_290 ⟨hcq, hsq⟩) hS (fun q h => hAm q h) (fun r8 H3 locs hp8 hz3 hk3 hS => ?_)
  obtain ⟨hr8, hM3⟩ := hp8
  refine W.eq (g2 := F0 m 293 ls [.int r8, .int r9]) rfl ?_
  refine lv_icmp_eq (tgt := 479) hx hb dL_law_293 (by decide) (fun c293 => ?_) (fun c293 => ?_)
  · refine W.widen (k := 24 + 60 * (i + 5)) (n := 1583 + 1980 * (i + 5)) (by omega) (by omega) ?_
    exact kk _ nW nV2 nE2 wa _ _ hI2 (hR2.oth hI2.n30 (fun q h1 h2 => hk3 q h1 (fun z => ((hB q).mp h2).2 z)) hz3) hM3 hS
  · exact absurd (hr9.trans hr8.symm) c293
set_option maxHeartbeats 4000000 in
set_option maxRecDepth 100000 in
theorem law_run {p : Program} {l : Launch} {e : Env} {s : State} {m : MethodId} {below : List Frame} {meth : Method} {c : Code} {D : va_G} {cI cZ cO : ClassId} {mi eA h0 m0 b L i : Nat} {ad : Nat → Nat} {B : Nat → Prop} {xs : Nat → Int32} {Q : State → Prop} {ls : Array Slot} {H : Heap} {locs : List Loc} {σ : Sg} {nW nV nE : Nat} {wa : Nat → Nat} (hx : p.tables.exec = Jvm.exec) (hb : c.code = code) (hml : c.maxLocals = 4) (hown : s.vm.findClass RL = some m.cls) (hts : ∀ w ∈ wsL_law, w.before #[Value.ref b] s = true) (hK : KK D cI cZ cO mi s) (hZ : ZZ eA (fun q => s.heap.size ≤ q) s s.heap) (hX : va_X b L xs s s.heap) (hbl : b < s.heap.size) (hB : ∀ q, B q ↔ s.heap.size ≤ q ∧ ¬ Am m0 ad q) (hAm : ∀ q, Am m0 ad q → s.heap.size ≤ q) (hi : i + 5 ≤ L) (hL : L ≤ 2560) (hI : Inv σ nW nV nE) (hR : HR D cI cO eA B h0 wa σ nW nV nE H) (hM : MD D cI cZ m0 ad σ H) (hS : va_S (fun q => s.heap.size ≤ q) s.heap H locs) (hl : lv_has ls 4 [(0, .ref b), (1, .ref h0), (2, .ref m0), (3, .int (nI i))]) (kk : lawK p l e s m below meth c D cI cZ cO eA h0 m0 b i ad B Q ls) : W p l e room_1 s m #[Value.ref b] below meth c H locs (24 + 60 * i) (1583 + 1980 * i) Q (F0 m 298 ls []) := by
  have hc0 : 24 + 60 * i ≤ 600000 := by omega
  have hs0 : 1583 + 1980 * i ≤ 7302250 := by omega
  have hbA : ¬ (fun q : Nat => s.heap.size ≤ q) b := Nat.not_le.mpr hbl
  have ek1 : nI i + (1 : Int32) = nI (i + 1) := by rw [show (1 : Int32) = nI 1 from rfl, nI_add]
  refine lv_aload_n hx hb dL_law_298 rfl (lv_at hl 1 rfl) ?_
  refine lv_aload_n hx hb dL_law_299 rfl (lv_at hl 0 rfl) ?_
  refine lv_iload_n hx hb dL_law_300 rfl (lv_at hl 3 rfl) ?_
  refine lv_iconst (v := 1) hx hb dL_law_301 (by decide) ?_
  refine lv_iadd hx hb dL_law_302 ?_
  rw [ek1]
  refine va_sld hx hb hX hbl hbA hS (vp_in_nI (n := i + 1) (N := L) (by omega) (by omega)) dL_law_303 ?_
  refine W.eq (g2 := F0 m 304 ls [.int (xs (nI (i + 1)).toNatClampNeg), .ref h0]) rfl ?_
  obtain ⟨fs0, hO⟩ := hR.o
  have hZc : ZZ eA B s H := (hZ.S (fun q h => h) hS).narrow (fun q h => ((hB q).mp h).1)
  have hcq : 24 + 60 * i + 60 ≤ 600000 := by omega
  have hsq : 1583 + 1980 * i + 1980 ≤ 7302250 := by omega
  refine k_calli (va_runV (As := [.int (xs (nI (i + 1)).toNatClampNeg)]) (rest := []) ⟨hx, hb, hml, hown, hts⟩ (c_run l _ h0 wa σ nW nV nE (xs (nI (i + 1)).toNatClampNeg) hR hI) (cwV 1 hts gL_law_X7_run rfl rfl rfl (by decide +kernel) ⟨Nat.le_of_ble_eq_true rfl, Nat.le_of_ble_eq_true rfl⟩) (z_preV hK hZc (k_recv hK.1 hO rfl)) rfl rfl hl.1 rfl (lv_room (Nat.le_of_ble_eq_true rfl)) dL_law_304 ⟨hcq, hsq⟩) hS (fun q h => ((hB q).mp h).1) (fun r9 H2 locs hp9 hz2 hk2 hS => ?_)
  have hM2 := hM.kept (H1 := H2) (fun q hq => hk2 q (hM.ltA hq) (fun z => ((hB q).mp z).2 hq))
  obtain ⟨hr9, nV2, nE2, hR2, hI2⟩ := hp9
  refine W.eq (g2 := F0 m 307 ls [.int r9]) rfl ?_
  refine lv_aload_n hx hb dL_law_307 rfl (lv_at hl 2 rfl) ?_
  refine lv_aload_n hx hb dL_law_308 rfl (lv_at hl 0 rfl) ?_
  refine lv_iload_n hx hb dL_law_309 rfl (lv_at hl 3 rfl) ?_
  refine lv_iconst (v := 1) hx hb dL_law_310 (by decide) ?_
  refine lv_iadd hx hb dL_law_311 ?_
  rw [ek1]
  refine va_sld hx hb hX hbl hbA hS (vp_in_nI (n := i + 1) (N := L) (by omega) (by omega)) dL_law_312 ?_
  refine W.eq (g2 := F0 m 313 ls [.int (xs (nI (i + 1)).toNatClampNeg), .ref m0, .int r9]) rfl ?_
  refine k_calli (va_runV (As := [.int (xs (nI (i + 1)).toNatClampNeg)]) (rest := [.int r9]) ⟨hx, hb, hml, hown, hts⟩ (c_X8_run l _ m0 ad σ nW nV nE (xs (nI (i + 1)).toNatClampNeg) hM2 hI) (cwV 1 hts gL_law_X8_run rfl rfl rfl (by decide +kernel) ⟨Nat.le_of_ble_eq_true rfl, Nat.le_of_ble_eq_true rfl⟩) (k_preV hK (k_recv hK.1 hM2.1 rfl)) rfl rfl hl.1 rfl (lv_room (Nat.le_of_ble_eq_true rfl)) dL_law_313 ⟨hcq, hsq⟩) hS (fun q h => hAm q h) (fun r8 H3 locs hp8 hz3 hk3 hS => ?_)
  obtain ⟨hr8, hM3⟩ := hp8
  refine W.eq (g2 := F0 m 316 ls [.int r8, .int r9]) rfl ?_
  refine lv_icmp_eq (tgt := 479) hx hb dL_law_316 (by decide) (fun c316 => ?_) (fun c316 => ?_)
  · refine W.widen (k := 24 + 60 * (i + 5)) (n := 1583 + 1980 * (i + 5)) (by omega) (by omega) ?_
    exact kk (mRun σ nW (xs (nI (i + 1)).toNatClampNeg)).2 nW nV2 nE2 wa _ _ hI2 (hR2.oth hI2.n30 (fun q h1 h2 => hk3 q h1 (fun z => ((hB q).mp h2).2 z)) hz3) hM3 hS
  · exact absurd (hr9.trans hr8.symm) c316
set_option maxHeartbeats 4000000 in
set_option maxRecDepth 100000 in
theorem law_cancel {p : Program} {l : Launch} {e : Env} {s : State} {m : MethodId} {below : List Frame} {meth : Method} {c : Code} {D : va_G} {cI cZ cO : ClassId} {mi eA h0 m0 b L i : Nat} {ad : Nat → Nat} {B : Nat → Prop} {xs : Nat → Int32} {Q : State → Prop} {ls : Array Slot} {H : Heap} {locs : List Loc} {σ : Sg} {nW nV nE : Nat} {wa : Nat → Nat} (hx : p.tables.exec = Jvm.exec) (hb : c.code = code) (hml : c.maxLocals = 4) (hown : s.vm.findClass RL = some m.cls) (hts : ∀ w ∈ wsL_law, w.before #[Value.ref b] s = true) (hK : KK D cI cZ cO mi s) (hZ : ZZ eA (fun q => s.heap.size ≤ q) s s.heap) (hX : va_X b L xs s s.heap) (hbl : b < s.heap.size) (hB : ∀ q, B q ↔ s.heap.size ≤ q ∧ ¬ Am m0 ad q) (hAm : ∀ q, Am m0 ad q → s.heap.size ≤ q) (hi : i + 5 ≤ L) (hL : L ≤ 2560) (hI : Inv σ nW nV nE) (hR : HR D cI cO eA B h0 wa σ nW nV nE H) (hM : MD D cI cZ m0 ad σ H) (hS : va_S (fun q => s.heap.size ≤ q) s.heap H locs) (hl : lv_has ls 4 [(0, .ref b), (1, .ref h0), (2, .ref m0), (3, .int (nI i))]) (kk : lawK p l e s m below meth c D cI cZ cO eA h0 m0 b i ad B Q ls) : W p l e room_1 s m #[Value.ref b] below meth c H locs (24 + 60 * i) (1583 + 1980 * i) Q (F0 m 321 ls []) := by
  have hc0 : 24 + 60 * i ≤ 600000 := by omega
  have hs0 : 1583 + 1980 * i ≤ 7302250 := by omega
  have hbA : ¬ (fun q : Nat => s.heap.size ≤ q) b := Nat.not_le.mpr hbl
  have ek1 : nI i + (1 : Int32) = nI (i + 1) := by rw [show (1 : Int32) = nI 1 from rfl, nI_add]
  refine lv_aload_n hx hb dL_law_321 rfl (lv_at hl 1 rfl) ?_
  refine lv_aload_n hx hb dL_law_322 rfl (lv_at hl 0 rfl) ?_
  refine lv_iload_n hx hb dL_law_323 rfl (lv_at hl 3 rfl) ?_
  refine lv_iconst (v := 1) hx hb dL_law_324 (by decide) ?_
  refine lv_iadd hx hb dL_law_325 ?_
  rw [ek1]
  refine va_sld hx hb hX hbl hbA hS (vp_in_nI (n := i + 1) (N := L) (by omega) (by omega)) dL_law_326 ?_
  refine W.eq (g2 := F0 m 327 ls [.int (xs (nI (i + 1)).toNatClampNeg), .ref h0]) rfl ?_
  obtain ⟨fs0, hO⟩ := hR.o
  have hZc : ZZ eA B s H := (hZ.S (fun q h => h) hS).narrow (fun q h => ((hB q).mp h).1)
  have hcq : 24 + 60 * i + 0 ≤ 600000 := by omega
  have hsq : 1583 + 1980 * i + 0 ≤ 7302250 := by omega
  refine k_calli (va_runV (As := [.int (xs (nI (i + 1)).toNatClampNeg)]) (rest := []) ⟨hx, hb, hml, hown, hts⟩ (c_cancel l _ h0 wa σ nW nV nE (xs (nI (i + 1)).toNatClampNeg) hR hI) (cwV 1 hts gL_law_X7_cancel rfl rfl rfl (by decide +kernel) ⟨Nat.le_of_ble_eq_true rfl, Nat.le_of_ble_eq_true rfl⟩) (k_preV hK (k_recv hK.1 hO rfl)) rfl rfl hl.1 rfl (lv_room (Nat.le_of_ble_eq_true rfl)) dL_law_327 ⟨hcq, hsq⟩) hS (fun q h => ((hB q).mp h).1) (fun r9 H2 locs hp9 hz2 hk2 hS => ?_)
  have hM2 := hM.kept (H1 := H2) (fun q hq => hk2 q (hM.ltA hq) (fun z => ((hB q).mp z).2 hq))
  obtain ⟨hr9, hR2⟩ := hp9
  refine W.eq (g2 := F0 m 330 ls [.int r9]) rfl ?_
  refine lv_aload_n hx hb dL_law_330 rfl (lv_at hl 2 rfl) ?_
  refine lv_aload_n hx hb dL_law_331 rfl (lv_at hl 0 rfl) ?_
  refine lv_iload_n hx hb dL_law_332 rfl (lv_at hl 3 rfl) ?_
  refine lv_iconst (v := 1) hx hb dL_law_333 (by decide) ?_
  refine lv_iadd hx hb dL_law_334 ?_
  rw [ek1]
  refine va_sld hx hb hX hbl hbA hS (vp_in_nI (n := i + 1) (N := L) (by omega) (by omega)) dL_law_335 ?_
  refine W.eq (g2 := F0 m 336 ls [.int (xs (nI (i + 1)).toNatClampNeg), .ref m0, .int r9]) rfl ?_
  refine k_calli (va_runV (As := [.int (xs (nI (i + 1)).toNatClampNeg)]) (rest := [.int r9]) ⟨hx, hb, hml, hown, hts⟩ (c_X8_cancel l _ m0 ad σ nW nV nE (xs (nI (i + 1)).toNatClampNeg) hM2 hI) (cwV 1 hts gL_law_X8_cancel rfl rfl rfl (by decide +kernel) ⟨Nat.le_of_ble_eq_true rfl, Nat.le_of_ble_eq_true rfl⟩) (k_preV hK (k_recv hK.1 hM2.1 rfl)) rfl rfl hl.1 rfl (lv_room (Nat.le_of_ble_eq_true rfl)) dL_law_336 ⟨hcq, hsq⟩) hS (fun q h => hAm q h) (fun r8 H3 locs hp8 hz3 hk3 hS => ?_)
  obtain ⟨hr8, hM3⟩ := hp8
  refine W.eq (g2 := F0 m 339 ls [.int r8, .int r9]) rfl ?_
  refine lv_icmp_eq (tgt := 479) hx hb dL_law_339 (by decide) (fun c339 => ?_) (fun c339 => ?_)
  · refine W.widen (k := 24 + 60 * (i + 5)) (n := 1583 + 1980 * (i + 5)) (by omega) (by omega) ?_
    exact kk (mCan σ (xs (nI (i + 1)).toNatClampNeg)).2 nW nV nE wa _ _ (inv_can hI) (hR2.oth hI.n30 (fun q h1 h2 => hk3 q h1 (fun z => ((hB q).mp h2).2 z)) hz3) hM3 hS
  · exact absurd (hr9.trans hr8.symm) c339
set_option maxHeartbeats 4000000 in
set_option maxRecDepth 100000 in
theorem law_close {p : Program} {l : Launch} {e : Env} {s : State} {m : MethodId} {below : List Frame} {meth : Method} {c : Code} {D : va_G} {cI cZ cO : ClassId} {mi eA h0 m0 b L i : Nat} {ad : Nat → Nat} {B : Nat → Prop} {xs : Nat → Int32} {Q : State → Prop} {ls : Array Slot} {H : Heap} {locs : List Loc} {σ : Sg} {nW nV nE : Nat} {wa : Nat → Nat} (hx : p.tables.exec = Jvm.exec) (hb : c.code = code) (hml : c.maxLocals = 4) (hown : s.vm.findClass RL = some m.cls) (hts : ∀ w ∈ wsL_law, w.before #[Value.ref b] s = true) (hK : KK D cI cZ cO mi s) (hZ : ZZ eA (fun q => s.heap.size ≤ q) s s.heap) (hX : va_X b L xs s s.heap) (hbl : b < s.heap.size) (hB : ∀ q, B q ↔ s.heap.size ≤ q ∧ ¬ Am m0 ad q) (hAm : ∀ q, Am m0 ad q → s.heap.size ≤ q) (hi : i + 5 ≤ L) (hL : L ≤ 2560) (hI : Inv σ nW nV nE) (hR : HR D cI cO eA B h0 wa σ nW nV nE H) (hM : MD D cI cZ m0 ad σ H) (hS : va_S (fun q => s.heap.size ≤ q) s.heap H locs) (hl : lv_has ls 4 [(0, .ref b), (1, .ref h0), (2, .ref m0), (3, .int (nI i))]) (kk : lawK p l e s m below meth c D cI cZ cO eA h0 m0 b i ad B Q ls) : W p l e room_1 s m #[Value.ref b] below meth c H locs (24 + 60 * i) (1583 + 1980 * i) Q (F0 m 344 ls []) := by
  have hc0 : 24 + 60 * i ≤ 600000 := by omega
  have hs0 : 1583 + 1980 * i ≤ 7302250 := by omega
  have hbA : ¬ (fun q : Nat => s.heap.size ≤ q) b := Nat.not_le.mpr hbl
  refine lv_aload_n hx hb dL_law_344 rfl (lv_at hl 1 rfl) ?_
  obtain ⟨fs0, hO⟩ := hR.o
  have hZc : ZZ eA B s H := (hZ.S (fun q h => h) hS).narrow (fun q h => ((hB q).mp h).1)
  have hcq : 24 + 60 * i + 30 ≤ 600000 := by omega
  have hsq : 1583 + 1980 * i + 990 ≤ 7302250 := by omega
  refine k_calli (va_runV (As := []) (rest := []) ⟨hx, hb, hml, hown, hts⟩ (c_close l _ h0 wa σ nW nV nE  hR hI) (cwV 0 hts gL_law_X7_close rfl rfl rfl (by decide +kernel) ⟨Nat.le_of_ble_eq_true rfl, Nat.le_of_ble_eq_true rfl⟩) (z_preV hK hZc (k_recv hK.1 hO rfl)) rfl rfl hl.1 rfl (lv_room (Nat.le_of_ble_eq_true rfl)) dL_law_345 ⟨hcq, hsq⟩) hS (fun q h => ((hB q).mp h).1) (fun r9 H2 locs hp9 hz2 hk2 hS => ?_)
  have hM2 := hM.kept (H1 := H2) (fun q hq => hk2 q (hM.ltA hq) (fun z => ((hB q).mp z).2 hq))
  obtain ⟨hr9, nV2, nE2, hR2, hI2⟩ := hp9
  refine W.eq (g2 := F0 m 348 ls [.int r9]) rfl ?_
  refine lv_aload_n hx hb dL_law_348 rfl (lv_at hl 2 rfl) ?_
  refine k_calli (va_runV (As := []) (rest := [.int r9]) ⟨hx, hb, hml, hown, hts⟩ (c_X8_close l _ m0 ad σ nW nV nE  hM2 hI) (cwV 0 hts gL_law_X8_close rfl rfl rfl (by decide +kernel) ⟨Nat.le_of_ble_eq_true rfl, Nat.le_of_ble_eq_true rfl⟩) (k_preV hK (k_recv hK.1 hM2.1 rfl)) rfl rfl hl.1 rfl (lv_room (Nat.le_of_ble_eq_true rfl)) dL_law_349 ⟨hcq, hsq⟩) hS (fun q h => hAm q h) (fun r8 H3 locs hp8 hz3 hk3 hS => ?_)
  obtain ⟨hr8, hM3⟩ := hp8
  refine W.eq (g2 := F0 m 352 ls [.int r8, .int r9]) rfl ?_
  refine lv_icmp_eq (tgt := 479) hx hb dL_law_352 (by decide) (fun c352 => ?_) (fun c352 => ?_)
  · refine W.widen (k := 24 + 60 * (i + 5)) (n := 1583 + 1980 * (i + 5)) (by omega) (by omega) ?_
    exact kk (mCls σ nW).2 nW nV2 nE2 wa _ _ hI2 (hR2.oth hI2.n30 (fun q h1 h2 => hk3 q h1 (fun z => ((hB q).mp h2).2 z)) hz3) hM3 hS
  · exact absurd (hr9.trans hr8.symm) c352
set_option maxHeartbeats 4000000 in
set_option maxRecDepth 100000 in
theorem law_told {p : Program} {l : Launch} {e : Env} {s : State} {m : MethodId} {below : List Frame} {meth : Method} {c : Code} {D : va_G} {cI cZ cO : ClassId} {mi eA h0 m0 b L i : Nat} {ad : Nat → Nat} {B : Nat → Prop} {xs : Nat → Int32} {Q : State → Prop} {ls : Array Slot} {H : Heap} {locs : List Loc} {σ : Sg} {nW nV nE : Nat} {wa : Nat → Nat} (hx : p.tables.exec = Jvm.exec) (hb : c.code = code) (hml : c.maxLocals = 4) (hown : s.vm.findClass RL = some m.cls) (hts : ∀ w ∈ wsL_law, w.before #[Value.ref b] s = true) (hK : KK D cI cZ cO mi s) (hZ : ZZ eA (fun q => s.heap.size ≤ q) s s.heap) (hX : va_X b L xs s s.heap) (hbl : b < s.heap.size) (hB : ∀ q, B q ↔ s.heap.size ≤ q ∧ ¬ Am m0 ad q) (hAm : ∀ q, Am m0 ad q → s.heap.size ≤ q) (hi : i + 5 ≤ L) (hL : L ≤ 2560) (hI : Inv σ nW nV nE) (hR : HR D cI cO eA B h0 wa σ nW nV nE H) (hM : MD D cI cZ m0 ad σ H) (hS : va_S (fun q => s.heap.size ≤ q) s.heap H locs) (hl : lv_has ls 4 [(0, .ref b), (1, .ref h0), (2, .ref m0), (3, .int (nI i))]) (kk : lawK p l e s m below meth c D cI cZ cO eA h0 m0 b i ad B Q ls) : W p l e room_1 s m #[Value.ref b] below meth c H locs (24 + 60 * i) (1583 + 1980 * i) Q (F0 m 357 ls []) := by
  have hc0 : 24 + 60 * i ≤ 600000 := by omega
  have hs0 : 1583 + 1980 * i ≤ 7302250 := by omega
  have hbA : ¬ (fun q : Nat => s.heap.size ≤ q) b := Nat.not_le.mpr hbl
  have ek1 : nI i + (1 : Int32) = nI (i + 1) := by rw [show (1 : Int32) = nI 1 from rfl, nI_add]
  have ek2 : nI i + (2 : Int32) = nI (i + 2) := by rw [show (2 : Int32) = nI 2 from rfl, nI_add]
  refine lv_aload_n hx hb dL_law_357 rfl (lv_at hl 1 rfl) ?_
  refine lv_aload_n hx hb dL_law_358 rfl (lv_at hl 0 rfl) ?_
  refine lv_iload_n hx hb dL_law_359 rfl (lv_at hl 3 rfl) ?_
  refine lv_iconst (v := 1) hx hb dL_law_360 (by decide) ?_
  refine lv_iadd hx hb dL_law_361 ?_
  rw [ek1]
  refine va_sld hx hb hX hbl hbA hS (vp_in_nI (n := i + 1) (N := L) (by omega) (by omega)) dL_law_362 ?_
  refine W.eq (g2 := F0 m 363 ls [.int (xs (nI (i + 1)).toNatClampNeg), .ref h0]) rfl ?_
  refine lv_aload_n hx hb dL_law_363 rfl (lv_at hl 0 rfl) ?_
  refine lv_iload_n hx hb dL_law_364 rfl (lv_at hl 3 rfl) ?_
  refine lv_iconst (v := 2) hx hb dL_law_365 (by decide) ?_
  refine lv_iadd hx hb dL_law_366 ?_
  rw [ek2]
  refine va_sld hx hb hX hbl hbA hS (vp_in_nI (n := i + 2) (N := L) (by omega) (by omega)) dL_law_367 ?_
  refine W.eq (g2 := F0 m 368 ls [.int (xs (nI (i + 2)).toNatClampNeg), .int (xs (nI (i + 1)).toNatClampNeg), .ref h0]) rfl ?_
  obtain ⟨fs0, hO⟩ := hR.o
  refine k_callpi (v := (mTld σ (xs (nI (i + 1)).toNatClampNeg) (xs (nI (i + 2)).toNatClampNeg))) (va_runV (As := [.int (xs (nI (i + 1)).toNatClampNeg), .int (xs (nI (i + 2)).toNatClampNeg)]) (rest := []) ⟨hx, hb, hml, hown, hts⟩ (c_told l _ h0 wa σ nW nV nE (xs (nI (i + 1)).toNatClampNeg) (xs (nI (i + 2)).toNatClampNeg) hR hI) (cwV 2 hts gL_law_X7_told rfl rfl rfl (by decide +kernel) ⟨Nat.le_of_ble_eq_true rfl, Nat.le_of_ble_eq_true rfl⟩) (k_preV hK (k_recv hK.1 hO rfl)) rfl rfl hl.1 rfl (lv_room (Nat.le_of_ble_eq_true rfl)) dL_law_368 ⟨hc0, hs0⟩) hS (fun locs hS => ?_)
  refine W.eq (g2 := F0 m 371 ls [.int (mTld σ (xs (nI (i + 1)).toNatClampNeg) (xs (nI (i + 2)).toNatClampNeg))]) rfl ?_
  refine lv_aload_n hx hb dL_law_371 rfl (lv_at hl 2 rfl) ?_
  refine lv_aload_n hx hb dL_law_372 rfl (lv_at hl 0 rfl) ?_
  refine lv_iload_n hx hb dL_law_373 rfl (lv_at hl 3 rfl) ?_
  refine lv_iconst (v := 1) hx hb dL_law_374 (by decide) ?_
  refine lv_iadd hx hb dL_law_375 ?_
  rw [ek1]
  refine va_sld hx hb hX hbl hbA hS (vp_in_nI (n := i + 1) (N := L) (by omega) (by omega)) dL_law_376 ?_
  refine W.eq (g2 := F0 m 377 ls [.int (xs (nI (i + 1)).toNatClampNeg), .ref m0, .int (mTld σ (xs (nI (i + 1)).toNatClampNeg) (xs (nI (i + 2)).toNatClampNeg))]) rfl ?_
  refine lv_aload_n hx hb dL_law_377 rfl (lv_at hl 0 rfl) ?_
  refine lv_iload_n hx hb dL_law_378 rfl (lv_at hl 3 rfl) ?_
  refine lv_iconst (v := 2) hx hb dL_law_379 (by decide) ?_
  refine lv_iadd hx hb dL_law_380 ?_
  rw [ek2]
  refine va_sld hx hb hX hbl hbA hS (vp_in_nI (n := i + 2) (N := L) (by omega) (by omega)) dL_law_381 ?_
  refine W.eq (g2 := F0 m 382 ls [.int (xs (nI (i + 2)).toNatClampNeg), .int (xs (nI (i + 1)).toNatClampNeg), .ref m0, .int (mTld σ (xs (nI (i + 1)).toNatClampNeg) (xs (nI (i + 2)).toNatClampNeg))]) rfl ?_
  refine k_callpi (v := (mTld σ (xs (nI (i + 1)).toNatClampNeg) (xs (nI (i + 2)).toNatClampNeg))) (va_runV (As := [.int (xs (nI (i + 1)).toNatClampNeg), .int (xs (nI (i + 2)).toNatClampNeg)]) (rest := [.int (mTld σ (xs (nI (i + 1)).toNatClampNeg) (xs (nI (i + 2)).toNatClampNeg))]) ⟨hx, hb, hml, hown, hts⟩ (c_X8_told l _ m0 ad σ nW nV nE (xs (nI (i + 1)).toNatClampNeg) (xs (nI (i + 2)).toNatClampNeg) hM hI) (cwV 2 hts gL_law_X8_told rfl rfl rfl (by decide +kernel) ⟨Nat.le_of_ble_eq_true rfl, Nat.le_of_ble_eq_true rfl⟩) (k_preV hK (k_recv hK.1 hM.1 rfl)) rfl rfl hl.1 rfl (lv_room (Nat.le_of_ble_eq_true rfl)) dL_law_382 ⟨hc0, hs0⟩) hS (fun locs hS => ?_)
  refine W.eq (g2 := F0 m 385 ls [.int (mTld σ (xs (nI (i + 1)).toNatClampNeg) (xs (nI (i + 2)).toNatClampNeg)), .int (mTld σ (xs (nI (i + 1)).toNatClampNeg) (xs (nI (i + 2)).toNatClampNeg))]) rfl ?_
  refine lv_icmp_eq (tgt := 479) hx hb dL_law_385 (by decide) (fun c385 => ?_) (fun c385 => ?_)
  · refine W.widen (k := 24 + 60 * (i + 5)) (n := 1583 + 1980 * (i + 5)) (by omega) (by omega) ?_
    exact kk σ nW nV nE wa _ _ hI hR hM hS
  · exact absurd rfl c385
set_option maxHeartbeats 4000000 in
set_option maxRecDepth 100000 in
theorem law_ended {p : Program} {l : Launch} {e : Env} {s : State} {m : MethodId} {below : List Frame} {meth : Method} {c : Code} {D : va_G} {cI cZ cO : ClassId} {mi eA h0 m0 b L i : Nat} {ad : Nat → Nat} {B : Nat → Prop} {xs : Nat → Int32} {Q : State → Prop} {ls : Array Slot} {H : Heap} {locs : List Loc} {σ : Sg} {nW nV nE : Nat} {wa : Nat → Nat} (hx : p.tables.exec = Jvm.exec) (hb : c.code = code) (hml : c.maxLocals = 4) (hown : s.vm.findClass RL = some m.cls) (hts : ∀ w ∈ wsL_law, w.before #[Value.ref b] s = true) (hK : KK D cI cZ cO mi s) (hZ : ZZ eA (fun q => s.heap.size ≤ q) s s.heap) (hX : va_X b L xs s s.heap) (hbl : b < s.heap.size) (hB : ∀ q, B q ↔ s.heap.size ≤ q ∧ ¬ Am m0 ad q) (hAm : ∀ q, Am m0 ad q → s.heap.size ≤ q) (hi : i + 5 ≤ L) (hL : L ≤ 2560) (hI : Inv σ nW nV nE) (hR : HR D cI cO eA B h0 wa σ nW nV nE H) (hM : MD D cI cZ m0 ad σ H) (hS : va_S (fun q => s.heap.size ≤ q) s.heap H locs) (hl : lv_has ls 4 [(0, .ref b), (1, .ref h0), (2, .ref m0), (3, .int (nI i))]) (kk : lawK p l e s m below meth c D cI cZ cO eA h0 m0 b i ad B Q ls) : W p l e room_1 s m #[Value.ref b] below meth c H locs (24 + 60 * i) (1583 + 1980 * i) Q (F0 m 390 ls []) := by
  have hc0 : 24 + 60 * i ≤ 600000 := by omega
  have hs0 : 1583 + 1980 * i ≤ 7302250 := by omega
  have hbA : ¬ (fun q : Nat => s.heap.size ≤ q) b := Nat.not_le.mpr hbl
  have ek1 : nI i + (1 : Int32) = nI (i + 1) := by rw [show (1 : Int32) = nI 1 from rfl, nI_add]
  have ek2 : nI i + (2 : Int32) = nI (i + 2) := by rw [show (2 : Int32) = nI 2 from rfl, nI_add]
  refine lv_aload_n hx hb dL_law_390 rfl (lv_at hl 1 rfl) ?_
  refine lv_aload_n hx hb dL_law_391 rfl (lv_at hl 0 rfl) ?_
  refine lv_iload_n hx hb dL_law_392 rfl (lv_at hl 3 rfl) ?_
  refine lv_iconst (v := 1) hx hb dL_law_393 (by decide) ?_
  refine lv_iadd hx hb dL_law_394 ?_
  rw [ek1]
  refine va_sld hx hb hX hbl hbA hS (vp_in_nI (n := i + 1) (N := L) (by omega) (by omega)) dL_law_395 ?_
  refine W.eq (g2 := F0 m 396 ls [.int (xs (nI (i + 1)).toNatClampNeg), .ref h0]) rfl ?_
  refine lv_aload_n hx hb dL_law_396 rfl (lv_at hl 0 rfl) ?_
  refine lv_iload_n hx hb dL_law_397 rfl (lv_at hl 3 rfl) ?_
  refine lv_iconst (v := 2) hx hb dL_law_398 (by decide) ?_
  refine lv_iadd hx hb dL_law_399 ?_
  rw [ek2]
  refine va_sld hx hb hX hbl hbA hS (vp_in_nI (n := i + 2) (N := L) (by omega) (by omega)) dL_law_400 ?_
  refine W.eq (g2 := F0 m 401 ls [.int (xs (nI (i + 2)).toNatClampNeg), .int (xs (nI (i + 1)).toNatClampNeg), .ref h0]) rfl ?_
  obtain ⟨fs0, hO⟩ := hR.o
  refine k_callpi (v := (mEnd σ (xs (nI (i + 1)).toNatClampNeg) (xs (nI (i + 2)).toNatClampNeg))) (va_runV (As := [.int (xs (nI (i + 1)).toNatClampNeg), .int (xs (nI (i + 2)).toNatClampNeg)]) (rest := []) ⟨hx, hb, hml, hown, hts⟩ (c_ended l _ h0 wa σ nW nV nE (xs (nI (i + 1)).toNatClampNeg) (xs (nI (i + 2)).toNatClampNeg) hR hI) (cwV 2 hts gL_law_X7_ended rfl rfl rfl (by decide +kernel) ⟨Nat.le_of_ble_eq_true rfl, Nat.le_of_ble_eq_true rfl⟩) (k_preV hK (k_recv hK.1 hO rfl)) rfl rfl hl.1 rfl (lv_room (Nat.le_of_ble_eq_true rfl)) dL_law_401 ⟨hc0, hs0⟩) hS (fun locs hS => ?_)
  refine W.eq (g2 := F0 m 404 ls [.int (mEnd σ (xs (nI (i + 1)).toNatClampNeg) (xs (nI (i + 2)).toNatClampNeg))]) rfl ?_
  refine lv_aload_n hx hb dL_law_404 rfl (lv_at hl 2 rfl) ?_
  refine lv_aload_n hx hb dL_law_405 rfl (lv_at hl 0 rfl) ?_
  refine lv_iload_n hx hb dL_law_406 rfl (lv_at hl 3 rfl) ?_
  refine lv_iconst (v := 1) hx hb dL_law_407 (by decide) ?_
  refine lv_iadd hx hb dL_law_408 ?_
  rw [ek1]
  refine va_sld hx hb hX hbl hbA hS (vp_in_nI (n := i + 1) (N := L) (by omega) (by omega)) dL_law_409 ?_
  refine W.eq (g2 := F0 m 410 ls [.int (xs (nI (i + 1)).toNatClampNeg), .ref m0, .int (mEnd σ (xs (nI (i + 1)).toNatClampNeg) (xs (nI (i + 2)).toNatClampNeg))]) rfl ?_
  refine lv_aload_n hx hb dL_law_410 rfl (lv_at hl 0 rfl) ?_
  refine lv_iload_n hx hb dL_law_411 rfl (lv_at hl 3 rfl) ?_
  refine lv_iconst (v := 2) hx hb dL_law_412 (by decide) ?_
  refine lv_iadd hx hb dL_law_413 ?_
  rw [ek2]
  refine va_sld hx hb hX hbl hbA hS (vp_in_nI (n := i + 2) (N := L) (by omega) (by omega)) dL_law_414 ?_
  refine W.eq (g2 := F0 m 415 ls [.int (xs (nI (i + 2)).toNatClampNeg), .int (xs (nI (i + 1)).toNatClampNeg), .ref m0, .int (mEnd σ (xs (nI (i + 1)).toNatClampNeg) (xs (nI (i + 2)).toNatClampNeg))]) rfl ?_
  refine k_callpi (v := (mEnd σ (xs (nI (i + 1)).toNatClampNeg) (xs (nI (i + 2)).toNatClampNeg))) (va_runV (As := [.int (xs (nI (i + 1)).toNatClampNeg), .int (xs (nI (i + 2)).toNatClampNeg)]) (rest := [.int (mEnd σ (xs (nI (i + 1)).toNatClampNeg) (xs (nI (i + 2)).toNatClampNeg))]) ⟨hx, hb, hml, hown, hts⟩ (c_X8_ended l _ m0 ad σ nW nV nE (xs (nI (i + 1)).toNatClampNeg) (xs (nI (i + 2)).toNatClampNeg) hM hI) (cwV 2 hts gL_law_X8_ended rfl rfl rfl (by decide +kernel) ⟨Nat.le_of_ble_eq_true rfl, Nat.le_of_ble_eq_true rfl⟩) (k_preV hK (k_recv hK.1 hM.1 rfl)) rfl rfl hl.1 rfl (lv_room (Nat.le_of_ble_eq_true rfl)) dL_law_415 ⟨hc0, hs0⟩) hS (fun locs hS => ?_)
  refine W.eq (g2 := F0 m 418 ls [.int (mEnd σ (xs (nI (i + 1)).toNatClampNeg) (xs (nI (i + 2)).toNatClampNeg)), .int (mEnd σ (xs (nI (i + 1)).toNatClampNeg) (xs (nI (i + 2)).toNatClampNeg))]) rfl ?_
  refine lv_icmp_eq (tgt := 479) hx hb dL_law_418 (by decide) (fun c418 => ?_) (fun c418 => ?_)
  · refine W.widen (k := 24 + 60 * (i + 5)) (n := 1583 + 1980 * (i + 5)) (by omega) (by omega) ?_
    exact kk σ nW nV nE wa _ _ hI hR hM hS
  · exact absurd rfl c418
set_option maxHeartbeats 4000000 in
set_option maxRecDepth 100000 in
theorem law_cell {p : Program} {l : Launch} {e : Env} {s : State} {m : MethodId} {below : List Frame} {meth : Method} {c : Code} {D : va_G} {cI cZ cO : ClassId} {mi eA h0 m0 b L i : Nat} {ad : Nat → Nat} {B : Nat → Prop} {xs : Nat → Int32} {Q : State → Prop} {ls : Array Slot} {H : Heap} {locs : List Loc} {σ : Sg} {nW nV nE : Nat} {wa : Nat → Nat} (hx : p.tables.exec = Jvm.exec) (hb : c.code = code) (hml : c.maxLocals = 4) (hown : s.vm.findClass RL = some m.cls) (hts : ∀ w ∈ wsL_law, w.before #[Value.ref b] s = true) (hK : KK D cI cZ cO mi s) (hZ : ZZ eA (fun q => s.heap.size ≤ q) s s.heap) (hX : va_X b L xs s s.heap) (hbl : b < s.heap.size) (hB : ∀ q, B q ↔ s.heap.size ≤ q ∧ ¬ Am m0 ad q) (hAm : ∀ q, Am m0 ad q → s.heap.size ≤ q) (hi : i + 5 ≤ L) (hL : L ≤ 2560) (hI : Inv σ nW nV nE) (hR : HR D cI cO eA B h0 wa σ nW nV nE H) (hM : MD D cI cZ m0 ad σ H) (hS : va_S (fun q => s.heap.size ≤ q) s.heap H locs) (hl : lv_has ls 4 [(0, .ref b), (1, .ref h0), (2, .ref m0), (3, .int (nI i))]) (kk : lawK p l e s m below meth c D cI cZ cO eA h0 m0 b i ad B Q ls) : W p l e room_1 s m #[Value.ref b] below meth c H locs (24 + 60 * i) (1583 + 1980 * i) Q (F0 m 423 ls []) := by
  have hc0 : 24 + 60 * i ≤ 600000 := by omega
  have hs0 : 1583 + 1980 * i ≤ 7302250 := by omega
  have hbA : ¬ (fun q : Nat => s.heap.size ≤ q) b := Nat.not_le.mpr hbl
  have ek1 : nI i + (1 : Int32) = nI (i + 1) := by rw [show (1 : Int32) = nI 1 from rfl, nI_add]
  have ek2 : nI i + (2 : Int32) = nI (i + 2) := by rw [show (2 : Int32) = nI 2 from rfl, nI_add]
  refine lv_aload_n hx hb dL_law_423 rfl (lv_at hl 1 rfl) ?_
  refine lv_aload_n hx hb dL_law_424 rfl (lv_at hl 0 rfl) ?_
  refine lv_iload_n hx hb dL_law_425 rfl (lv_at hl 3 rfl) ?_
  refine lv_iconst (v := 1) hx hb dL_law_426 (by decide) ?_
  refine lv_iadd hx hb dL_law_427 ?_
  rw [ek1]
  refine va_sld hx hb hX hbl hbA hS (vp_in_nI (n := i + 1) (N := L) (by omega) (by omega)) dL_law_428 ?_
  refine W.eq (g2 := F0 m 429 ls [.int (xs (nI (i + 1)).toNatClampNeg), .ref h0]) rfl ?_
  refine lv_aload_n hx hb dL_law_429 rfl (lv_at hl 0 rfl) ?_
  refine lv_iload_n hx hb dL_law_430 rfl (lv_at hl 3 rfl) ?_
  refine lv_iconst (v := 2) hx hb dL_law_431 (by decide) ?_
  refine lv_iadd hx hb dL_law_432 ?_
  rw [ek2]
  refine va_sld hx hb hX hbl hbA hS (vp_in_nI (n := i + 2) (N := L) (by omega) (by omega)) dL_law_433 ?_
  refine W.eq (g2 := F0 m 434 ls [.int (xs (nI (i + 2)).toNatClampNeg), .int (xs (nI (i + 1)).toNatClampNeg), .ref h0]) rfl ?_
  obtain ⟨fs0, hO⟩ := hR.o
  refine k_callpi (v := (mCel σ nW (xs (nI (i + 1)).toNatClampNeg) (xs (nI (i + 2)).toNatClampNeg))) (va_runV (As := [.int (xs (nI (i + 1)).toNatClampNeg), .int (xs (nI (i + 2)).toNatClampNeg)]) (rest := []) ⟨hx, hb, hml, hown, hts⟩ (c_cell l _ h0 wa σ nW nV nE (xs (nI (i + 1)).toNatClampNeg) (xs (nI (i + 2)).toNatClampNeg) hR hI) (cwV 2 hts gL_law_X7_cell rfl rfl rfl (by decide +kernel) ⟨Nat.le_of_ble_eq_true rfl, Nat.le_of_ble_eq_true rfl⟩) (k_preV hK (k_recv hK.1 hO rfl)) rfl rfl hl.1 rfl (lv_room (Nat.le_of_ble_eq_true rfl)) dL_law_434 ⟨hc0, hs0⟩) hS (fun locs hS => ?_)
  refine W.eq (g2 := F0 m 437 ls [.int (mCel σ nW (xs (nI (i + 1)).toNatClampNeg) (xs (nI (i + 2)).toNatClampNeg))]) rfl ?_
  refine lv_aload_n hx hb dL_law_437 rfl (lv_at hl 2 rfl) ?_
  refine lv_aload_n hx hb dL_law_438 rfl (lv_at hl 0 rfl) ?_
  refine lv_iload_n hx hb dL_law_439 rfl (lv_at hl 3 rfl) ?_
  refine lv_iconst (v := 1) hx hb dL_law_440 (by decide) ?_
  refine lv_iadd hx hb dL_law_441 ?_
  rw [ek1]
  refine va_sld hx hb hX hbl hbA hS (vp_in_nI (n := i + 1) (N := L) (by omega) (by omega)) dL_law_442 ?_
  refine W.eq (g2 := F0 m 443 ls [.int (xs (nI (i + 1)).toNatClampNeg), .ref m0, .int (mCel σ nW (xs (nI (i + 1)).toNatClampNeg) (xs (nI (i + 2)).toNatClampNeg))]) rfl ?_
  refine lv_aload_n hx hb dL_law_443 rfl (lv_at hl 0 rfl) ?_
  refine lv_iload_n hx hb dL_law_444 rfl (lv_at hl 3 rfl) ?_
  refine lv_iconst (v := 2) hx hb dL_law_445 (by decide) ?_
  refine lv_iadd hx hb dL_law_446 ?_
  rw [ek2]
  refine va_sld hx hb hX hbl hbA hS (vp_in_nI (n := i + 2) (N := L) (by omega) (by omega)) dL_law_447 ?_
  refine W.eq (g2 := F0 m 448 ls [.int (xs (nI (i + 2)).toNatClampNeg), .int (xs (nI (i + 1)).toNatClampNeg), .ref m0, .int (mCel σ nW (xs (nI (i + 1)).toNatClampNeg) (xs (nI (i + 2)).toNatClampNeg))]) rfl ?_
  refine k_callpi (v := (mCel σ nW (xs (nI (i + 1)).toNatClampNeg) (xs (nI (i + 2)).toNatClampNeg))) (va_runV (As := [.int (xs (nI (i + 1)).toNatClampNeg), .int (xs (nI (i + 2)).toNatClampNeg)]) (rest := [.int (mCel σ nW (xs (nI (i + 1)).toNatClampNeg) (xs (nI (i + 2)).toNatClampNeg))]) ⟨hx, hb, hml, hown, hts⟩ (c_X8_cell l _ m0 ad σ nW nV nE (xs (nI (i + 1)).toNatClampNeg) (xs (nI (i + 2)).toNatClampNeg) hM hI) (cwV 2 hts gL_law_X8_cell rfl rfl rfl (by decide +kernel) ⟨Nat.le_of_ble_eq_true rfl, Nat.le_of_ble_eq_true rfl⟩) (k_preV hK (k_recv hK.1 hM.1 rfl)) rfl rfl hl.1 rfl (lv_room (Nat.le_of_ble_eq_true rfl)) dL_law_448 ⟨hc0, hs0⟩) hS (fun locs hS => ?_)
  refine W.eq (g2 := F0 m 451 ls [.int (mCel σ nW (xs (nI (i + 1)).toNatClampNeg) (xs (nI (i + 2)).toNatClampNeg)), .int (mCel σ nW (xs (nI (i + 1)).toNatClampNeg) (xs (nI (i + 2)).toNatClampNeg))]) rfl ?_
  refine lv_icmp_eq (tgt := 479) hx hb dL_law_451 (by decide) (fun c451 => ?_) (fun c451 => ?_)
  · refine W.widen (k := 24 + 60 * (i + 5)) (n := 1583 + 1980 * (i + 5)) (by omega) (by omega) ?_
    exact kk σ nW nV nE wa _ _ hI hR hM hS
  · exact absurd rfl c451
set_option maxHeartbeats 4000000 in
set_option maxRecDepth 100000 in
theorem law_count {p : Program} {l : Launch} {e : Env} {s : State} {m : MethodId} {below : List Frame} {meth : Method} {c : Code} {D : va_G} {cI cZ cO : ClassId} {mi eA h0 m0 b L i : Nat} {ad : Nat → Nat} {B : Nat → Prop} {xs : Nat → Int32} {Q : State → Prop} {ls : Array Slot} {H : Heap} {locs : List Loc} {σ : Sg} {nW nV nE : Nat} {wa : Nat → Nat} (hx : p.tables.exec = Jvm.exec) (hb : c.code = code) (hml : c.maxLocals = 4) (hown : s.vm.findClass RL = some m.cls) (hts : ∀ w ∈ wsL_law, w.before #[Value.ref b] s = true) (hK : KK D cI cZ cO mi s) (hZ : ZZ eA (fun q => s.heap.size ≤ q) s s.heap) (hX : va_X b L xs s s.heap) (hbl : b < s.heap.size) (hB : ∀ q, B q ↔ s.heap.size ≤ q ∧ ¬ Am m0 ad q) (hAm : ∀ q, Am m0 ad q → s.heap.size ≤ q) (hi : i + 5 ≤ L) (hL : L ≤ 2560) (hI : Inv σ nW nV nE) (hR : HR D cI cO eA B h0 wa σ nW nV nE H) (hM : MD D cI cZ m0 ad σ H) (hS : va_S (fun q => s.heap.size ≤ q) s.heap H locs) (hl : lv_has ls 4 [(0, .ref b), (1, .ref h0), (2, .ref m0), (3, .int (nI i))]) (kk : lawK p l e s m below meth c D cI cZ cO eA h0 m0 b i ad B Q ls) : W p l e room_1 s m #[Value.ref b] below meth c H locs (24 + 60 * i) (1583 + 1980 * i) Q (F0 m 456 ls []) := by
  have hc0 : 24 + 60 * i ≤ 600000 := by omega
  have hs0 : 1583 + 1980 * i ≤ 7302250 := by omega
  have hbA : ¬ (fun q : Nat => s.heap.size ≤ q) b := Nat.not_le.mpr hbl
  have ek1 : nI i + (1 : Int32) = nI (i + 1) := by rw [show (1 : Int32) = nI 1 from rfl, nI_add]
  refine lv_aload_n hx hb dL_law_456 rfl (lv_at hl 1 rfl) ?_
  refine lv_aload_n hx hb dL_law_457 rfl (lv_at hl 0 rfl) ?_
  refine lv_iload_n hx hb dL_law_458 rfl (lv_at hl 3 rfl) ?_
  refine lv_iconst (v := 1) hx hb dL_law_459 (by decide) ?_
  refine lv_iadd hx hb dL_law_460 ?_
  rw [ek1]
  refine va_sld hx hb hX hbl hbA hS (vp_in_nI (n := i + 1) (N := L) (by omega) (by omega)) dL_law_461 ?_
  refine W.eq (g2 := F0 m 462 ls [.int (xs (nI (i + 1)).toNatClampNeg), .ref h0]) rfl ?_
  obtain ⟨fs0, hO⟩ := hR.o
  refine k_callpi (v := (mCnt σ nW nV (xs (nI (i + 1)).toNatClampNeg))) (va_runV (As := [.int (xs (nI (i + 1)).toNatClampNeg)]) (rest := []) ⟨hx, hb, hml, hown, hts⟩ (c_count l _ h0 wa σ nW nV nE (xs (nI (i + 1)).toNatClampNeg) hR hI) (cwV 1 hts gL_law_X7_count rfl rfl rfl (by decide +kernel) ⟨Nat.le_of_ble_eq_true rfl, Nat.le_of_ble_eq_true rfl⟩) (k_preV hK (k_recv hK.1 hO rfl)) rfl rfl hl.1 rfl (lv_room (Nat.le_of_ble_eq_true rfl)) dL_law_462 ⟨hc0, hs0⟩) hS (fun locs hS => ?_)
  refine W.eq (g2 := F0 m 465 ls [.int (mCnt σ nW nV (xs (nI (i + 1)).toNatClampNeg))]) rfl ?_
  refine lv_aload_n hx hb dL_law_465 rfl (lv_at hl 2 rfl) ?_
  refine lv_aload_n hx hb dL_law_466 rfl (lv_at hl 0 rfl) ?_
  refine lv_iload_n hx hb dL_law_467 rfl (lv_at hl 3 rfl) ?_
  refine lv_iconst (v := 1) hx hb dL_law_468 (by decide) ?_
  refine lv_iadd hx hb dL_law_469 ?_
  rw [ek1]
  refine va_sld hx hb hX hbl hbA hS (vp_in_nI (n := i + 1) (N := L) (by omega) (by omega)) dL_law_470 ?_
  refine W.eq (g2 := F0 m 471 ls [.int (xs (nI (i + 1)).toNatClampNeg), .ref m0, .int (mCnt σ nW nV (xs (nI (i + 1)).toNatClampNeg))]) rfl ?_
  refine k_callpi (v := (mCnt σ nW nV (xs (nI (i + 1)).toNatClampNeg))) (va_runV (As := [.int (xs (nI (i + 1)).toNatClampNeg)]) (rest := [.int (mCnt σ nW nV (xs (nI (i + 1)).toNatClampNeg))]) ⟨hx, hb, hml, hown, hts⟩ (c_X8_count l _ m0 ad σ nW nV nE (xs (nI (i + 1)).toNatClampNeg) hM hI) (cwV 1 hts gL_law_X8_count rfl rfl rfl (by decide +kernel) ⟨Nat.le_of_ble_eq_true rfl, Nat.le_of_ble_eq_true rfl⟩) (k_preV hK (k_recv hK.1 hM.1 rfl)) rfl rfl hl.1 rfl (lv_room (Nat.le_of_ble_eq_true rfl)) dL_law_471 ⟨hc0, hs0⟩) hS (fun locs hS => ?_)
  refine W.eq (g2 := F0 m 474 ls [.int (mCnt σ nW nV (xs (nI (i + 1)).toNatClampNeg)), .int (mCnt σ nW nV (xs (nI (i + 1)).toNatClampNeg))]) rfl ?_
  refine lv_icmp_eq (tgt := 479) hx hb dL_law_474 (by decide) (fun c474 => ?_) (fun c474 => ?_)
  · refine W.widen (k := 24 + 60 * (i + 5)) (n := 1583 + 1980 * (i + 5)) (by omega) (by omega) ?_
    exact kk σ nW nV nE wa _ _ hI hR hM hS
  · exact absurd rfl c474
