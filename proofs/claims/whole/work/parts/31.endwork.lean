/-- tags of the lists' rows when the ends' row is e1 now -/
theorem Tg_ee {h0 hs hc hw he ec ew ee e1 : Nat} {va wa da ra rl : Nat → Nat} {σ : Sg} {nW nV nE : Nat} (RT : Tg h0 hs hc hw he ec ew ee va wa da ra rl σ nW nV nE) (h1 : rl e1 = 7 ∨ rl e1 = 1000) (hW : nW ≤ 30) : Tg h0 hs hc hw he ec ew e1 va wa da ra (va_up rl e1 7) σ nW nV (nE + 1) := by
  obtain ⟨t0, t1, t2, t3, t4, t5, t6, t7, t8, t9, tw, td⟩ := RT
  have N : ∀ p t, rl p = t → t ≠ 7 → t ≠ 1000 → va_up rl e1 7 p = t := fun p t hp a b => by
    rw [tag_up (fun e => by rw [e] at hp; rcases h1 with q | q <;> omega)]; exact hp
  exact ⟨N _ _ t0 (by omega) (by omega), N _ _ t1 (by omega) (by omega), N _ _ t2 (by omega) (by omega), N _ _ t3 (by omega) (by omega), N _ _ t4 (by omega) (by omega), fun q => N _ _ (t5 q) (by omega) (by omega), fun q => N _ _ (t6 q) (by omega) (by omega), fun _ => tag_at, N _ _ t8 (by omega) (by omega), N _ _ t9 (by omega) (by omega), fun i hi => N _ _ (tw i hi) (by omega) (by omega), fun i hi hk => by
    obtain ⟨d1, d2⟩ := td i hi hk
    exact ⟨by rw [tag_up (fun e => by rw [e] at d1; rcases h1 with q | q <;> omega)]; exact d1, by rw [tag_up (fun e => by rw [e] at d2; rcases h1 with q | q <;> omega)]; exact d2⟩⟩
set_option maxHeartbeats 4000000 in
set_option maxRecDepth 100000 in
theorem c_endWork (l : Launch) {D : va_G} {cI cZ cO : ClassId} {mi eA : Nat} {B : Nat → Prop} (H : Heap) (h0 : Nat) (wa : Nat → Nat) (σ : Sg) (nW nV nE : Nat) (j : Nat) (how : Int32) (hE : HRE D cI cO eA B h0 wa j (u2 σ 12 j how) nW nV nE H) (hj : j < nW) (hn30 : nW ≤ 30) (hnE : nE ≤ 30) : Met l yX7_endWork wsX7_endWork ({ frames := 7, cells := 1, slots := 33, locals := 191 }) (Pz D cI cZ cO mi eA B [.ref h0, .ref (wa j), .int how] H) (Qkv (fun H1 => HR D cI cO eA B h0 wa (fin σ nE j how) nW nV (nE + 1) H1) B) 1 33 B := by
  refine Met.ofW (cc := cX7_endWork) (maxL := 3) (ret := none) (by decide) rfl ?_
  intro p e s m args below meth c s₁ Bd hml hv
  obtain ⟨rfl, rfl, hK, hZ⟩ := hv
  have hx := Bd.exec
  have hb := Bd.bytes
  have hr := Bd.returns
  have hts := atoms_spec (ws := wsX7_endWork) Bd.pre
  have hown : s.vm.findClass RX7 = some m.cls := findClass_of_methodNamed Bd.named
  have hlocks := Bd.notSynchronized
  have hS : va_S B s.heap s.heap [] := va_S.rf
  have hl := lv_entry ([.ref h0, .ref (wa j), .int how]) (n := 3) (Nat.le_of_ble_eq_true rfl)
  rw [lg_entry_eq]
  generalize (lg_sl ([.ref h0, .ref (wa j), .int how]) ++ List.replicate (3 - (lg_sl ([.ref h0, .ref (wa j), .int how])).length) Slot.unset).toArray = ls at hl ⊢
  have hl : lv_has ls 3 [(0, .ref h0), (1, .ref (wa j)), (2, .int how)] := hl
  have hiX7 : ∀ w ∈ wsX70, w ∈ wsX7_endWork := by decide +kernel
  obtain ⟨hs, hc, hw, he, ec, ew, ee, pc, pw, pe, gc, gw, ge, va, da, ra, te, pn, rl, R1, R2, ⟨R3, R3g⟩, ⟨R4, R4g⟩, ⟨R5, R5g⟩, R6, R7, ⟨ci, ex, hkx, hob⟩, R8, R9, RT, RB, RN, RL, R12, R13⟩ := hE
  obtain ⟨t0, t1, t2, t3, t4, t5, t6, t7, t8, t9, tw, td⟩ := id RT
  have hiX1 : ∀ w ∈ wsX10, w ∈ wsX7_endWork := by decide +kernel
  have hiX2 : ∀ w ∈ wsX20, w ∈ wsX7_endWork := by decide +kernel
  have hiX4 : ∀ w ∈ wsX40, w ∈ wsX7_endWork := by decide +kernel
  have hiX6 : ∀ w ∈ wsX60, w ∈ wsX7_endWork := by decide +kernel
  have hvc := hkx.vc
  have hbw : B (wa j) := RB _ (by rw [tw j hj]; omega)
  refine lv_aload_n hx hb dX7_endWork_0 rfl (lv_at hl 1 rfl) ?_
  refine lv_iload_n hx hb dX7_endWork_1 rfl (lv_at hl 2 rfl) ?_
  refine w_put (A := B) (x := (upd (wx (u2 σ 12 j how) te pn j) 9 0)) (ty := .int) (v := how) hx hb hts hiX1 hiX2 hiX4 hiX6 hown hK hob hvc hbw hS 9 (by decide) rfl rfl rfl rfl (hts (.fieldLink RX7 117 "HouseWorkers$Work" "end" "I") (by decide +kernel)) (by decide +kernel) rfl rfl (fun _ => rfl) dX7_endWork_2 (fun Ha locs hoba hzHa hqHa hS => ?_)
  have R1a := va_at.kept R1 (hqHa h0 (tag_ne t0 (tw j hj) (by omega)))
  refine lv_aload_n hx hb dX7_endWork_5 rfl (lv_at hl 1 rfl) ?_
  refine lv_aload_n hx hb dX7_endWork_6 rfl (lv_at hl 0 rfl) ?_
  refine k_get (C := RX7) (T := TX7) (N := 6) (v := .int ((u2 σ 12 j how) 20 0)) hx hb hts hiX7 hown hK.1 R1a rfl 4 (by decide) (hts (.fieldLink RX7 155 "HouseWorkers" "turnsThatDid" "I") (by decide +kernel)) (fun _ h9 => h9) rfl dX7_endWork_7 ?_
  refine w_put (A := B) (x := (upd (upd (wx (u2 σ 12 j how) te pn j) 9 0) 9 how)) (ty := .int) (v := σ 20 0) hx hb hts hiX1 hiX2 hiX4 hiX6 hown hK hoba hvc hbw hS 10 (by decide) rfl rfl rfl rfl (hts (.fieldLink RX7 136 "HouseWorkers$Work" "turnsAtEnd" "I") (by decide +kernel)) (by decide +kernel) rfl rfl (fun _ => rfl) dX7_endWork_10 (fun Hb locs hobb hzHb hqHb hS => ?_)
  have R1b := va_at.kept R1a (hqHb h0 (tag_ne t0 (tw j hj) (by omega)))
  refine lv_aload_n hx hb dX7_endWork_13 rfl (lv_at hl 0 rfl) ?_
  refine k_get (C := RX7) (T := TX7) (N := 6) (v := .ref he) hx hb hts hiX7 hown hK.1 R1b rfl 2 (by decide) (hts (.fieldLink RX7 23 "HouseWorkers" "ends" "Ljava/util/ArrayList;") (by decide +kernel)) (fun _ h9 => h9) rfl dX7_endWork_14 ?_
  refine lv_aload_n hx hb dX7_endWork_17 rfl (lv_at hl 1 rfl) ?_
  have hqb : ∀ p, p ≠ wa j → Hb[p]? = s.heap[p]? := fun p q => (hqHb p q).trans (hqHa p q)
  have hzb : Hb.size = s.heap.size := hzHb.trans hzHa
  have R5b := R5.kept (hqb he (tag_ne t4 (tw j hj) (by omega))) (fun q => hqb ee (tag_ne (t7 q) (tw j hj) (by omega)))
  obtain ⟨mev, heo⟩ := R5b.1
  have hZc : ZZ eA B s Hb := hZ.kept (fun q _ q2 => hqb q (fun e => q2 (by rw [e]; exact hbw)))
  have helb : ∀ i, i < nE → ∃ y, ge i = some y ∧ ElO D y Hb ∧ y ≠ he := fun i hi => by obtain ⟨u1, u2, u3⟩ := R12 i hi; have hk7 := R7 _ u3 u2; obtain ⟨c1, x1, v1, o1⟩ := (hk7.kept (hqb _ (tag_ne (tw _ u3) (tw j hj) (by omega)))).ob; exact ⟨_, R5g i hi, v1.elo o1, tag_ne (tw _ u3) t4 (by omega)⟩
  refine k_calli (va_runV (As := [.ref (wa j)]) (rest := []) ⟨hx, hb, hml, hown, hts⟩ (c_AL_add l _ he ee nE pe (wa j) ge R5b (by omega) (hvc.elo hobb) helb (fun q => tag_ne t4 (t7 q) (by omega)) (tag_ne (tw j hj) t4 (by omega)) (fun q => tag_ne (tw j hj) (t7 q) (by omega)) (RB _ (by omega)) (fun q h => RN q (by rw [hzb] at h; exact h))) (cwV 1 hts gX7_endWork_Jx4a65c_add_9ea2d rfl rfl rfl (by decide +kernel) ⟨Nat.le_of_ble_eq_true rfl, Nat.le_of_ble_eq_true rfl⟩) (z_preV hK hZc (k_recv hK.1 heo rfl)) rfl rfl hl.1 rfl (lv_room (Nat.le_of_ble_eq_true rfl)) dX7_endWork_18 ⟨Nat.le_of_ble_eq_true rfl, Nat.le_of_ble_eq_true rfl⟩) hS (fun q h => h.elim (fun h => by rw [h]; exact RB _ (by omega)) (fun h => h.elim (fun h => by rw [h.1]; exact RB _ (by rw [t7 h.2]; omega)) (fun h => RN q (by rw [hzb] at h; exact h)))) (fun r9 H2 locs hp9 hz2 hk2 hS => ?_)
  obtain ⟨rfl, e1, p1, g1, hAL1, hg1, hg2, he1⟩ := hp9
  refine lv_pop hx hb dX7_endWork_21 rfl ?_
  have hag : ∀ p, ¬ (rl p = 16 + 4 * j ∨ rl p = 4 ∨ rl p = 7) → p < s.heap.size → H2[p]? = s.heap[p]? := fun p h1 h2 => (hk2 p (by omega) (fun q => q.elim (fun q => h1 (Or.inr (Or.inl (by rw [q]; exact t4)))) (fun q => q.elim (fun q => h1 (Or.inr (Or.inr (by rw [q.1]; exact t7 q.2)))) (fun q => by omega)))).trans (hqb p (fun q => h1 (Or.inl (by rw [q]; exact tw j hj))))
  have ht1 : rl e1 = 7 ∨ rl e1 = 1000 := he1.elim (fun q => Or.inl (by rw [q.1]; exact t7 q.2)) (fun q => Or.inr (RL e1 (by omega)))
  have hobc := va_at.kept hobb (hk2 (wa j) (va_at.lt hobb) (fun q => q.elim (tag_ne (tw j hj) t4 (by omega)) (fun q => q.elim (fun q => tag_ne (tw j hj) (t7 q.2) (by omega) q.1) (fun q => absurd (va_at.lt hobb) (Nat.not_lt.mpr q)))))
  have hsz1 : e1 < H2.size := hAL1.lte (by omega)
  refine k_retv hx hb hr hlocks ?_ hS dX7_endWork_22
  have e12 : ∀ i, fin σ nE j how 12 i = u2 σ 12 j how 12 i := fun i => by rw [fin_12, u2_if]; by_cases q : i = j; (rw [if_pos q, if_pos ⟨rfl, q⟩]); (rw [if_neg q, if_neg (fun z => q z.2)])
  have eK : ∀ k i, k ≠ 16 → k ≠ 17 → k ≠ 18 → k ≠ 19 → fin σ nE j how k i = u2 σ 12 j how k i := fun k i a b c d => by unfold fin; rw [u2_ne _ _ (fun q => a q.1), u2_ne _ _ (fun q => d q.1), u2_ne _ _ (fun q => c q.1), u2_ne _ _ (fun q => b q.1)]
  refine ⟨hs, hc, hw, he, ec, ew, e1, pc, pw, p1, gc, gw, g1, va, da, ra, va_up te j (σ 20 0), pn, va_up rl e1 7, ?_, ?_, ⟨?_, R3g⟩, ⟨?_, R4g⟩, ⟨hAL1, ?_⟩, ?_, ?_, ?_, ?_, Tg_ee RT ht1 hn30, ?_, ?_, ?_, ?_, ?_⟩
  · exact va_at.kept R1 (hag h0 (by omega) (va_at.lt R1))
  · exact va_at.kept R2 (hag hs (by omega) (va_at.lt R2))
  · exact R3.kept (hag _ (by omega) R3.lt) (fun q => hag _ (by rw [t5 (by omega)]; omega) (R3.lte q))
  · exact R4.kept (hag _ (by omega) R4.lt) (fun q => hag _ (by rw [t6 q]; omega) (R4.lte q))
  · intro i hi
    rw [fin_17]
    by_cases q : i = nE
    · rw [if_pos q, q, nat_nI (by omega)]; exact hg2
    · rw [if_neg q]; exact (hg1 i (by omega)).trans (R5g i (by omega))
  · intro u hu
    have hc6 := R6 u hu
    rcases va_tag RT R9 hu with ⟨-, q1, q2⟩ | ⟨i, i1, i2, i3, -, q1, q2⟩
    · exact hc6.kept (hag _ (by omega) (va_at.lt hc6.1)) (hag _ (by omega) (va_at.lt hc6.2))
    · exact hc6.kept (hag _ (by omega) (va_at.lt hc6.1)) (hag _ (by omega) (va_at.lt hc6.2))
  · intro i hi
    by_cases e : i = j
    · subst e
      refine (hkx.cg (τ := fin σ nE i how) (eK 4 i (by decide) (by decide) (by decide) (by decide)) (eK 7 i (by decide) (by decide) (by decide) (by decide)) (eK 8 i (by decide) (by decide) (by decide) (by decide)) (fun _ => eK 11 i (by decide) (by decide) (by decide) (by decide)) (Nat.le_refl _) (fun _ _ => rfl) rfl).mk ?_
      rw [WFs_cg (y := (upd (upd (upd (wx (u2 σ 12 i how) te pn i) 9 0) 9 how) 10 (σ 20 0))) (fun k hk => ?_)]
      · exact hobc
      · match k, hk with
        | 0, _ => rfl
        | 1, _ => exact eK 4 i (by decide) (by decide) (by decide) (by decide)
        | 2, _ => exact eK 5 i (by decide) (by decide) (by decide) (by decide)
        | 3, _ => exact eK 6 i (by decide) (by decide) (by decide) (by decide)
        | 4, _ => exact eK 9 i (by decide) (by decide) (by decide) (by decide)
        | 5, _ => exact eK 10 i (by decide) (by decide) (by decide) (by decide)
        | 6, _ => show hvr (fin σ nE i how) i = hvr (u2 σ 12 i how) i; unfold hvr; rw [eK 4 i (by decide) (by decide) (by decide) (by decide), eK 12 i (by decide) (by decide) (by decide) (by decide), eK 11 i (by decide) (by decide) (by decide) (by decide)]
        | 7, _ => rfl
        | 8, _ => exact eK 13 i (by decide) (by decide) (by decide) (by decide)
        | 9, _ => show fin σ nE i how 12 i = how; rw [fin_12, if_pos rfl]
        | 10, _ => show va_up te i (σ 20 0) i = σ 20 0; unfold va_up; rw [if_pos rfl]
        | k + 11, h => exact absurd h (by omega)
    · have hk7 := R7 i hi e
      exact (hk7.kept (hag _ (by rw [tw i hi]; omega) hk7.lt)).cg (fun k a1 a2 a3 a4 a5 a6 a7 a8 a9 a10 a11 a12 => eK k i a7 a8 a9 a10) (by unfold va_up; rw [if_neg e]) rfl (Nat.le_refl _) (fun _ _ => rfl) rfl
  · intro i hi hk4
    rw [eK 4 i (by decide) (by decide) (by decide) (by decide)] at hk4
    obtain ⟨f, f1, f2⟩ := R8 i hi hk4
    obtain ⟨d1, d2⟩ := td i hi hk4
    exact ⟨f, f1.kept (hag _ (by omega) (va_at.lt f1.1)) (hag _ (by omega) (va_at.lt f1.2)), fun q c hc => by rw [eK 14 _ (by decide) (by decide) (by decide) (by decide)]; exact f2 (by rw [← e12]; exact q) c hc⟩
  · intro u u1 u2
    obtain ⟨i, i1, i2, i3, i4⟩ := R9 u u1 u2
    exact ⟨i, i1, i2, by rw [eK 4 i (by decide) (by decide) (by decide) (by decide)]; exact i3, by rw [e12]; exact i4⟩
  · intro q hq
    by_cases e : q = e1
    · rw [e]; exact he1.elim (fun z => by rw [z.1]; exact RB _ (by rw [t7 z.2]; omega)) (fun z => RN _ (by omega))
    · rw [tag_up e] at hq; exact RB q hq
  · intro q hq; exact RN q (by omega)
  · intro q hq; rw [tag_up (by omega)]; exact RL q (by omega)
  · intro i hi
    rw [fin_19, fin_17]
    by_cases q : i = nE
    · rw [if_pos q, if_pos q, nat_nI (by omega)]; unfold va_up; rw [if_pos rfl]
    · obtain ⟨z1, z2, z3⟩ := R12 i (by omega)
      have z2 : nat (σ 17 i) ≠ j := z2
      rw [if_neg q, if_neg q]; unfold va_up; rw [if_neg z2]; exact z1
  · intro i hi q
    rw [e12] at q
    rw [R13 i hi q]; unfold pin; rw [e12, eK 4 i (by decide) (by decide) (by decide) (by decide), eK 11 i (by decide) (by decide) (by decide) (by decide)]
