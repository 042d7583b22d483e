/-! lists: the shared empty row of ArrayList, elements, rows over arrays of references -/
def ZZ (eA : Nat) (B : Nat → Prop) (U : State) (H : Heap) : Prop := va_Z "java/util/ArrayList" "DEFAULTCAPACITY_EMPTY_ELEMENTDATA" "[Ljava/lang/Object;" (.ref eA) B U H ∧ va_T (.object "java/lang/Object") eA 0 (fun _ => .null) B U H
theorem ZZ.moved {eA : Nat} {B : Nat → Prop} {u U : State} {H : Heap} (hvm : u.vm.Alike U.vm) (h : ZZ eA B u H) : ZZ eA B U H := ⟨va_Z.moved hvm h.1, va_T.moved hvm h.2⟩
theorem ZZ.kept {eA : Nat} {B : Nat → Prop} {U : State} {H H1 : Heap} (h : ZZ eA B U H) (hq : ∀ a : Nat, a < H.size → ¬ B a → H1[a]? = H[a]?) : ZZ eA B U H1 := ⟨va_Z.kept h.1 hq, va_T.kept h.2 hq⟩
theorem ZZ.narrow {eA : Nat} {A B : Nat → Prop} {U : State} {H : Heap} (h : ZZ eA B U H) (hAB : ∀ q, A q → B q) : ZZ eA A U H := ⟨va_Z.narrow h.1 hAB, va_T.narrow h.2 hAB⟩
theorem ZZ.nB {eA : Nat} {B : Nat → Prop} {U : State} {H : Heap} (h : ZZ eA B U H) : ¬ B eA := by
  obtain ⟨-, cell, -, -, -, -, -, -, h7⟩ := h
  exact h7
theorem ZZ.S {eA : Nat} {A B : Nat → Prop} {U : State} {H0 H : Heap} {locs : List Loc} (h : ZZ eA B U H0) (hAB : ∀ q, A q → B q) (hS : va_S A H0 H locs) : ZZ eA B U H := h.kept (fun a h1 h2 => hS.2.1 a h1 (fun q => h2 (hAB a q)))
abbrev Pz (D : va_G) (cI cZ cO : ClassId) (mi eA : Nat) (B : Nat → Prop) (av : List Value) (H : Heap) : Array Value → State → Prop := va_Pc av (fun U => U.heap = H ∧ KK D cI cZ cO mi U ∧ ZZ eA B U H)
/-- an element of a list: an object whose kind may stand in an array of Object -/
def ElO (D : va_G) (y : Nat) (H : Heap) : Prop := ∃ ci fs, (ci = 1 ∨ ci = 2 ∨ ci = 3 ∨ ci = 5 ∨ ci = 6) ∧ Ob D y ci fs H
theorem ElO.kept {D : va_G} {y : Nat} {H H1 : Heap} (h : ElO D y H) (hq : H1[y]? = H[y]?) : ElO D y H1 := by
  obtain ⟨ci, fs, h1, h2⟩ := h
  exact ⟨ci, fs, h1, va_at.kept h2 hq⟩
theorem ElO.lt {D : va_G} {y : Nat} {H : Heap} (h : ElO D y H) : y < H.size := by
  obtain ⟨ci, fs, h1, h2⟩ := h
  exact va_at.lt h2
theorem cast_asg {C E : String} {s : State} (h : va_Nw (.castable C E) s) : ∀ comp c0 : ClassId, s.vm.findClass E = some comp → s.vm.findClass C = some c0 → s.vm.assignable c0 comp = true := by
  intro comp c0 h1 h2
  obtain ⟨c1, t1, f1, f2, f3⟩ := Cond.castable_spec (va_Nw.use (A := #[]) rfl h)
  cases h2.symm.trans f1
  cases h1.symm.trans f2
  exact f3
section Base3
variable {p : Program} {l : Launch} {e : Env} {R : Room} {s : State} {m : MethodId} {args : Array Value} {below : List Frame} {meth : Method} {c : Code} {H : Heap} {locs : List Loc} {cells slots : Nat} {Q : State → Prop} {cc : ByteArray} {pc : Nat} {ls : Array Slot} {rest st0 : List Value} {D : va_G} {A B : Nat → Prop} {H0 : Heap} {a mi eA : Nat} {cI cZ cO : ClassId}
theorem ElO.any {y : Nat} (hK : KK D cI cZ cO mi s) (h : ElO D y H) : va_Any "java/lang/Object" s H y := by
  obtain ⟨ci, fs, h1, h2⟩ := h
  rcases h1 with e | e | e | e | e
  · subst e; exact va_rAny hK.1 (hP1 h2) (q0 := 0) rfl rfl (cast_asg (hK.2.1 (RX0, "java/lang/Object") (by decide +kernel)))
  · subst e; exact va_rAny hK.1 (hP1 h2) (q0 := 0) rfl rfl (cast_asg (hK.2.1 (RX1, "java/lang/Object") (by decide +kernel)))
  · subst e; exact va_rAny hK.1 (hP1 h2) (q0 := 0) rfl rfl (cast_asg (hK.2.1 (RX2, "java/lang/Object") (by decide +kernel)))
  · subst e; exact va_rAny hK.1 (hP1 h2) (q0 := 0) rfl rfl (cast_asg (hK.2.1 (RX4, "java/lang/Object") (by decide +kernel)))
  · subst e; exact va_rAny hK.1 (hP1 h2) (q0 := 0) rfl rfl (cast_asg (hK.2.1 (RX6, "java/lang/Object") (by decide +kernel)))
theorem z_preV {C : String} {b : Nat} {As : List Value} (hK : KK D cI cZ cO mi s) (hZ : ZZ eA B s H) (hr : ∃ cell : Cell, H[b]? = some cell ∧ cell.vm.isStatics = false ∧ s.vm.findClass C = some cell.cls) : PreV s H C b (Pz D cI cZ cO mi eA B (.ref b :: As) H) As :=
  ⟨fun _ U g mk q => ⟨q.1, q.2.1, q.2.2.1.calling, ZZ.moved (u := U) (Vm.Alike.refl U.vm) q.2.2.2⟩, hr, fun _ hU hW => ⟨rfl, hU, hK.warm hW, hZ.moved hW.alike⟩⟩
theorem z_preS {As : List Value} (hK : KK D cI cZ cO mi s) (hZ : ZZ eA B s H) : PreS s H (Pz D cI cZ cO mi eA B As H) As :=
  ⟨fun _ U g mk q => ⟨q.1, q.2.1, q.2.2.1.calling, ZZ.moved (u := U) (Vm.Alike.refl U.vm) q.2.2.2⟩, fun _ hU hW => ⟨rfl, hU, hK.warm hW, hZ.moved hW.alike⟩⟩
theorem k_aast (hexec : p.tables.exec = Jvm.exec) (hb : c.code = cc) (hK : KK D cI cZ cO mi s) {n v : Nat} {f : Nat → Option Nat} (h : Ar D cO a n f H) (hA : A a) (hS : va_S A H0 H locs) (hr : ElO D v H) {i : Int32} (j : Nat) (hi : i = nI j) (hj : j < n) (hn : n < 2 ^ 31) (hdg : decode cc pc = .ok (.aastore, 1))
    (kk : ∀ (H1 : Heap) (locs1 : List Loc), Ar D cO a n (va_up f j (some v)) H1 → H1.size = H.size → (∀ q : Nat, q ≠ a → H1[q]? = H[q]?) → va_S A H0 H1 locs1 → W p l e R s m args below meth c H1 locs1 cells slots Q (F0 m (pc + 1) ls rest)) : W p l e R s m args below meth c H locs cells slots Q (F0 m pc ls (.ref v :: .int i :: .ref a :: rest)) := by
  obtain ⟨hin, h2⟩ := k_inj hi hj hn
  have hlt : i.toNatClampNeg < n := Nat.not_le.mp fun q => hin (Or.inr q)
  have h0 : ¬ i < 0 := fun q => hin (Or.inl q)
  obtain ⟨cellV, g1, g3, ⟨kC, hkC⟩, hasg⟩ := hr.any hK
  obtain ⟨kA, comp, k1, k2, k3, -⟩ := (hK.1.2 2 _ rfl).2
  obtain ⟨kE, hkE, -⟩ := Vm.findClass_spec k3
  refine W.aast hexec hb h (fun q h => by cases h) (fun h => by cases h) k1 k2 rfl hkE ⟨h0, by show _ < (arrV _ _ _).slots.size; rw [arrV_size]; exact hlt⟩ g1 (fun q h => by rw [h] at g3; cases g3) hkC (hasg _ k3) rfl rfl hdg fun H1 e z oq => ?_
  refine kk H1 _ ?_ z oq (hS.put z oq hA)
  show H1[a]? = some (vp_cell _ _)
  rw [e, h2, vp_cell_q, vp_cell_q, arrV_store]
  congr 2
  funext q
  by_cases hq : q = j
  · subst hq
    simp [updV, va_up, va_rf]
  · simp [updV, va_up, hq]
theorem k_newq (hexec : p.tables.exec = Jvm.exec) (hb : c.code = cc) {own : String} {index : Nat} (hown : s.vm.findClass own = some m.cls) (hclink : (Cond.classLink own index "java/lang/Object").before args s = true) (hK : KK D cI cZ cO mi s) (hS : va_S A H0 H locs) {n : Int32} (N' : Nat) (hn : n = nI N') (hN : N' ≤ 1000) (hcells : cells + 1 ≤ R.cells) (hslots : slots + N' ≤ R.slots) (hdg : decode cc pc = .ok (.anewarray index, 3))
    (kk : ∀ H1 : Heap, Ar D cO H.size N' (fun _ => none) H1 → H1.size = H.size + 1 → (∀ q : Nat, q < H.size → H1[q]? = H[q]?) → va_S A H0 H1 locs → W p l e R s m args below meth c H1 locs (cells + 1) (slots + N') Q (F0 m (pc + 3) ls (.ref H.size :: rest))) : W p l e R s m args below meth c H locs cells slots Q (F0 m pc ls (.int n :: rest)) := by
  subst hn
  have hcl : (nI N').toNatClampNeg = N' := nI_clamp (by omega)
  refine W.anew hexec hb hown hclink (va_AO.use hK.2.2.2.2.1) rfl hdg rfl (nI_pos (by omega)) (by rw [hcl]; omega) hcells (by rw [hcl]; exact hslots) fun cA kA comp f1 f2 f3 f4 => ?_
  rw [hcl]
  obtain ⟨kA', comp', k1, k2, k3, k4⟩ := (hK.1.2 2 _ rfl).2
  have he : cA = cO := Option.some.inj (f1.symm.trans k4)
  subst he
  generalize hH1 : H.push ({ cls := cA, slots := Array.replicate N' .null, vm := .none } : Cell) = H1
  have z1 : H1.size = H.size + 1 := by rw [← hH1, Array.size_push]
  have e1 : H1[H.size]? = some (arrV cA N' (fun _ => .null)) := by rw [← hH1, Array.getElem?_push_size, ← arrV_new]
  have o1 : ∀ q : Nat, q < H.size → H1[q]? = H[q]? := fun q hq => by rw [← hH1, Array.getElem?_push, if_neg (Nat.ne_of_lt hq)]
  exact kk H1 (by show H1[H.size]? = some (vp_cell _ _); rw [vp_cell_q]; exact e1) z1 o1 ⟨Nat.le_trans hS.1 (by omega), fun x h1 h2 => (o1 x (Nat.lt_of_lt_of_le h1 hS.1)).trans (hS.2.1 x h1 h2), hS.2.2⟩
theorem k_tlen (hexec : p.tables.exec = Jvm.exec) (hb : c.code = cc) (hZ : ZZ eA B s s.heap) (hAB : ∀ q, A q → B q) (hS : va_S A s.heap H locs) (hdg : decode cc pc = .ok (.arraylength, 1)) (kk : W p l e R s m args below meth c H locs cells slots Q (F0 m (pc + 1) ls (.int 0 :: rest))) : W p l e R s m args below meth c H locs cells slots Q (F0 m pc ls (.ref eA :: rest)) :=
  va_tlen hexec hb (va_T.narrow hZ.2 hAB) hS rfl hdg kk
theorem k_gets (hexec : p.tables.exec = Jvm.exec) (hb : c.code = cc) {own : String} {index : Nat} (hZ : ZZ eA B s s.heap) (hAB : ∀ q, A q → B q) (hS : va_S A s.heap H locs) (hown : s.vm.findClass own = some m.cls) (hlink : (Cond.fieldLink own index "java/util/ArrayList" "DEFAULTCAPACITY_EMPTY_ELEMENTDATA" "[Ljava/lang/Object;").before args s = true) (hdg : decode cc pc = .ok (.getstatic index, 3)) (kk : W p l e R s m args below meth c H locs cells slots Q (F0 m (pc + 3) ls (.ref eA :: rest))) : W p l e R s m args below meth c H locs cells slots Q (F0 m pc ls rest) :=
  va_gets hexec hb (va_Z.narrow hZ.1 hAB) hS hown hlink (fun _ h => h) hdg kk
end Base3
/-- a list object a: its row e, n elements, cap places; g: what the places hold -/
def AL (D : va_G) (cO : ClassId) (eA a e n cap : Nat) (g : Nat → Option Nat) (H : Heap) : Prop := (∃ mv : Int32, Ob D a 0 [.int mv, .ref e, .int (nI n)] H) ∧ ((n = 0 ∧ e = eA ∧ cap = 0) ∨ (0 < n ∧ n ≤ cap ∧ (cap = 10 ∨ cap = 15 ∨ cap = 22 ∨ cap = 33) ∧ Ar D cO e cap g H ∧ ∀ i, n ≤ i → g i = none))
