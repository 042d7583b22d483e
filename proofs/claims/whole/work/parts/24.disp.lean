/-- which kind, what it has more, what its kind's number says -/
def VC (ci : Nat) (ex : List Value) (kd : Int32) : Prop := (ci = 2 ∧ kd = 0 ∧ ∃ fi rd, ex = [.int fi, .ref rd]) ∨ (ci = 3 ∧ kd = 2 ∧ ∃ dr, ex = [.ref dr]) ∨ (ci = 5 ∧ kd = 3 ∧ ex = []) ∨ (ci = 6 ∧ kd = 1 ∧ ∃ fi by0 dr, ex = [.int fi, .int by0, .ref dr])
theorem VC.elo {D : va_G} {a ci : Nat} {ex : List Value} {x : Nat → Int32} {kd : Int32} {H : Heap} (h : VC ci ex kd) (ho : Ob D a ci (WFs x ex) H) : ElO D a H := by
  refine ⟨ci, _, ?_, ho⟩
  rcases h with q | q | q | q
  · exact Or.inr (Or.inl q.1)
  · exact Or.inr (Or.inr (Or.inl q.1))
  · exact Or.inr (Or.inr (Or.inr (Or.inl q.1)))
  · exact Or.inr (Or.inr (Or.inr (Or.inr q.1)))
def hwt (x : Nat → Int32) (nb : Int32) (n : Nat) : Bool := if x 1 = 1 then decide (¬ x 4 < x 2) && decide (nb = 0) else if x 1 = 2 then decide (x 4 = 0) && decide (nb = 0) else if x 1 = 3 then decide (¬ x 6 < nI n) else false
section Disp
variable {p : Program} {l : Launch} {e : Env} {R : Room} {s : State} {m : MethodId} {args : Array Value} {below : List Frame} {meth : Method} {c : Code} {H : Heap} {locs : List Loc} {cells slots : Nat} {Q : State → Prop} {cc : ByteArray} {pc : Nat} {ls : Array Slot} {rest : List Value} {D : va_G} {A : Nat → Prop} {H0 : Heap} {a mi : Nat} {cI cZ cO : ClassId} {own : String} {index nL ci : Nat} {Ts : List Cond} {x : Nat → Int32} {ex : List Value}
theorem w_get (hexec : p.tables.exec = Jvm.exec) (hb : c.code = cc) (hts : ∀ w ∈ Ts, w.before args s = true) (h1 : ∀ w ∈ wsX10, w ∈ Ts) (h2 : ∀ w ∈ wsX20, w ∈ Ts) (h4 : ∀ w ∈ wsX40, w ∈ Ts) (h6 : ∀ w ∈ wsX60, w ∈ Ts) (hown : s.vm.findClass own = some m.cls) (hK : KK D cI cZ cO mi s) (ho : Ob D a ci (WFs x ex) H) (hvc : VC ci ex (x 1)) (k : Nat) (hk : k < 11) {nm d : String} {fin : Bool} (e1 : TX1 k = ("HouseWorkers$Work", nm, d, fin)) (e2 : TX2 k = ("HouseWorkers$Work", nm, d, fin)) (e4 : TX4 k = ("HouseWorkers$Work", nm, d, fin)) (e6 : TX6 k = ("HouseWorkers$Work", nm, d, fin)) (hlink : (Cond.fieldLink own index "HouseWorkers$Work" nm d).before args s = true) (hv : ∀ ex, (WFs x ex)[k]? = some (.int (x k))) (hdg : decode cc pc = .ok (.getfield index, 3))
    (kk : W p l e R s m args below meth c H locs cells slots Q (F0 m (pc + 3) ls (.int (x k) :: rest))) : W p l e R s m args below meth c H locs cells slots Q (F0 m pc ls (.ref a :: rest)) := by
  rcases hvc with ⟨rfl, -, fi, rd, rfl⟩ | ⟨rfl, -, dr, rfl⟩ | ⟨rfl, -, rfl⟩ | ⟨rfl, -, fi, by0, dr, rfl⟩
  · exact k_get (C := RX1) (T := TX1) (N := 13) hexec hb hts h1 hown hK.1 ho rfl k (by omega) (by rw [e1]; exact hlink) (by rw [e1]; exact fun _ h => h) (hv _) hdg kk
  · exact k_get (C := RX2) (T := TX2) (N := 12) hexec hb hts h2 hown hK.1 ho rfl k (by omega) (by rw [e2]; exact hlink) (by rw [e2]; exact fun _ h => h) (hv _) hdg kk
  · exact k_get (C := RX4) (T := TX4) (N := 11) hexec hb hts h4 hown hK.1 ho rfl k (by omega) (by rw [e4]; exact hlink) (by rw [e4]; exact fun _ h => h) (hv _) hdg kk
  · exact k_get (C := RX6) (T := TX6) (N := 14) hexec hb hts h6 hown hK.1 ho rfl k (by omega) (by rw [e6]; exact hlink) (by rw [e6]; exact fun _ h => h) (hv _) hdg kk
theorem w_put (hexec : p.tables.exec = Jvm.exec) (hb : c.code = cc) (hts : ∀ w ∈ Ts, w.before args s = true) (h1 : ∀ w ∈ wsX10, w ∈ Ts) (h2 : ∀ w ∈ wsX20, w ∈ Ts) (h4 : ∀ w ∈ wsX40, w ∈ Ts) (h6 : ∀ w ∈ wsX60, w ∈ Ts) (hown : s.vm.findClass own = some m.cls) (hK : KK D cI cZ cO mi s) (ho : Ob D a ci (WFs x ex) H) (hvc : VC ci ex (x 1)) (hA : A a) (hS : va_S A H0 H locs) (k : Nat) (hk : k < 11) {nm d : String} (e1 : TX1 k = ("HouseWorkers$Work", nm, d, false)) (e2 : TX2 k = ("HouseWorkers$Work", nm, d, false)) (e4 : TX4 k = ("HouseWorkers$Work", nm, d, false)) (e6 : TX6 k = ("HouseWorkers$Work", nm, d, false)) (hlink : (Cond.fieldLink own index "HouseWorkers$Work" nm d).before args s = true) {ty : FieldType} {v : Int32} (hd : parseFieldDescriptor d = some ty) (hn : narrow ty (.int v) = .int v) (hfit : fits ty (.int v) = true) (hset : ∀ ex, (WFs x ex).set k (.int v) = WFs (upd x k v) ex) (hdg : decode cc pc = .ok (.putfield index, 3))
    (kk : ∀ (H1 : Heap) (locs1 : List Loc), Ob D a ci (WFs (upd x k v) ex) H1 → H1.size = H.size → (∀ q : Nat, q ≠ a → H1[q]? = H[q]?) → va_S A H0 H1 locs1 → W p l e R s m args below meth c H1 locs1 cells slots Q (F0 m (pc + 3) ls rest)) : W p l e R s m args below meth c H locs cells slots Q (F0 m pc ls (.int v :: .ref a :: rest)) := by
  have hlen : ∀ ex, k < (WFs x ex).length := fun ex => by unfold WFs; simp only [List.length_cons]; omega
  rcases hvc with ⟨rfl, -, fi, rd, rfl⟩ | ⟨rfl, -, dr, rfl⟩ | ⟨rfl, -, rfl⟩ | ⟨rfl, -, fi, by0, dr, rfl⟩
  · exact k_put (C := RX1) (T := TX1) (N := 13) hexec hb hts h1 tyX1 tyX1_ok nmX1 hown hK.1 ho hA hS rfl k (by omega) (by rw [e1]; exact hlink) (by rw [e1]; exact fun _ h => h) (by rw [e1]) (by rw [e1]; exact hd) hn hfit (hlen _) hdg (fun H1 locs1 q1 q2 q3 q4 => kk H1 locs1 (by rw [hset] at q1; exact q1) q2 q3 q4)
  · exact k_put (C := RX2) (T := TX2) (N := 12) hexec hb hts h2 tyX2 tyX2_ok nmX2 hown hK.1 ho hA hS rfl k (by omega) (by rw [e2]; exact hlink) (by rw [e2]; exact fun _ h => h) (by rw [e2]) (by rw [e2]; exact hd) hn hfit (hlen _) hdg (fun H1 locs1 q1 q2 q3 q4 => kk H1 locs1 (by rw [hset] at q1; exact q1) q2 q3 q4)
  · exact k_put (C := RX4) (T := TX4) (N := 11) hexec hb hts h4 tyX4 tyX4_ok nmX4 hown hK.1 ho hA hS rfl k (by omega) (by rw [e4]; exact hlink) (by rw [e4]; exact fun _ h => h) (by rw [e4]) (by rw [e4]; exact hd) hn hfit (hlen _) hdg (fun H1 locs1 q1 q2 q3 q4 => kk H1 locs1 (by rw [hset] at q1; exact q1) q2 q3 q4)
  · exact k_put (C := RX6) (T := TX6) (N := 14) hexec hb hts h6 tyX6 tyX6_ok nmX6 hown hK.1 ho hA hS rfl k (by omega) (by rw [e6]; exact hlink) (by rw [e6]; exact fun _ h => h) (by rw [e6]) (by rw [e6]; exact hd) hn hfit (hlen _) hdg (fun H1 locs1 q1 q2 q3 q4 => kk H1 locs1 (by rw [hset] at q1; exact q1) q2 q3 q4)
theorem w_recv (hK : KK D cI cZ cO mi s) (ho : Ob D a ci (WFs x ex) H) (hvc : VC ci ex (x 1)) (hown : s.vm.findClass own = some m.cls) (hexec : p.tables.exec = Jvm.exec) (hb : c.code = cc) (hlink : (Cond.classLink own index "HouseWorkers$Work").before args s = true) (hdg : decode cc pc = .ok (.checkcast index, 3)) (kk : W p l e R s m args below meth c H locs cells slots Q (F0 m (pc + 3) ls (.ref a :: rest))) : W p l e R s m args below meth c H locs cells slots Q (F0 m pc ls (.ref a :: rest)) := by
  rcases hvc with ⟨rfl, -, fi, rd, rfl⟩ | ⟨rfl, -, dr, rfl⟩ | ⟨rfl, -, rfl⟩ | ⟨rfl, -, fi, by0, dr, rfl⟩
  · exact va_castY hexec hb hown hlink (hK.2.1 (RX1, "HouseWorkers$Work") (by decide +kernel)) (k_recv hK.1 ho rfl) hdg kk
  · exact va_castY hexec hb hown hlink (hK.2.1 (RX2, "HouseWorkers$Work") (by decide +kernel)) (k_recv hK.1 ho rfl) hdg kk
  · exact va_castY hexec hb hown hlink (hK.2.1 (RX4, "HouseWorkers$Work") (by decide +kernel)) (k_recv hK.1 ho rfl) hdg kk
  · exact va_castY hexec hb hown hlink (hK.2.1 (RX6, "HouseWorkers$Work") (by decide +kernel)) (k_recv hK.1 ho rfl) hdg kk
theorem w_hasEnded  (S : CallFix p m c cc nL s args Ts own) (g1 : GoodIn Ts (va_wsU own index RX1 "HouseWorkers$Work" ⟨"HouseWorkers$Work", "hasEnded", "()Z"⟩ yX5_hasEnded wsX5_hasEnded)) (g2 : GoodIn Ts (va_wsU own index RX2 "HouseWorkers$Work" ⟨"HouseWorkers$Work", "hasEnded", "()Z"⟩ yX5_hasEnded wsX5_hasEnded)) (g4 : GoodIn Ts (va_wsU own index RX4 "HouseWorkers$Work" ⟨"HouseWorkers$Work", "hasEnded", "()Z"⟩ yX5_hasEnded wsX5_hasEnded)) (g6 : GoodIn Ts (va_wsU own index RX6 "HouseWorkers$Work" ⟨"HouseWorkers$Work", "hasEnded", "()Z"⟩ yX5_hasEnded wsX5_hasEnded)) (hK : KK D cI cZ cO mi s) (ho : Ob D a ci (WFs x ex) H) (hvc : VC ci ex (x 1))  (q1 : 0 + 1 ≤ R.frames ∧ 8 + (1 + 11) + 0 ≤ R.locals) (q2 : 0 + 1 ≤ R.frames ∧ 8 + (1 + 11) + 0 ≤ R.locals) (q4 : 0 + 1 ≤ R.frames ∧ 8 + (1 + 11) + 0 ≤ R.locals) (q6 : 0 + 1 ≤ R.frames ∧ 8 + (1 + 11) + 0 ≤ R.locals) (hrm : (rest.map fun v => v.category).sum ≤ 8) (hsz : ls.size = nL) (hcl : cells + 0 ≤ R.cells ∧ slots + 0 ≤ R.slots) (hS : va_S A H0 H locs) (hdg : decode cc pc = .ok (.invokevirtual index, 3)) (kk : ∀ locs1 : List Loc, va_S A H0 H locs1 → W p l e R s m args below meth c H locs1 cells slots Q (F0 m (pc + 3) ls (.int (b2 (decide (¬ x 9 = 0))) :: rest))) : W p l e R s m args below meth c H locs cells slots Q (F0 m pc ls (.ref a :: rest)) := by
  rcases hvc with ⟨rfl, hkd, fi, rd, rfl⟩ | ⟨rfl, hkd, dr, rfl⟩ | ⟨rfl, hkd, rfl⟩ | ⟨rfl, hkd, fi, by0, dr, rfl⟩
  · refine k_callpi (v := b2 (decide (¬ x 9 = 0))) (va_runU (As := []) (rest := rest) S (c_hasEnded_X1 l _ a x fi rd  ho) (va_cwU 0 S.2.2.2.2 g1 rfl rfl rfl rfl (by decide +kernel) q1) (k_preV hK (k_recv hK.1 ho rfl)) rfl rfl hsz rfl (lv_room hrm) hdg hcl) hS (fun locs1 hS1 => ?_)
    have hval : b2 (decide (¬ x 9 = 0)) = b2 (decide (¬ x 9 = 0)) := rfl
    rw [hval]
    exact kk locs1 hS1
  · refine k_callpi (v := b2 (decide (¬ x 9 = 0))) (va_runU (As := []) (rest := rest) S (c_hasEnded_X2 l _ a x dr  ho) (va_cwU 0 S.2.2.2.2 g2 rfl rfl rfl rfl (by decide +kernel) q2) (k_preV hK (k_recv hK.1 ho rfl)) rfl rfl hsz rfl (lv_room hrm) hdg hcl) hS (fun locs1 hS1 => ?_)
    have hval : b2 (decide (¬ x 9 = 0)) = b2 (decide (¬ x 9 = 0)) := rfl
    rw [hval]
    exact kk locs1 hS1
  · refine k_callpi (v := b2 (decide (¬ x 9 = 0))) (va_runU (As := []) (rest := rest) S (c_hasEnded_X4 l _ a x   ho) (va_cwU 0 S.2.2.2.2 g4 rfl rfl rfl rfl (by decide +kernel) q4) (k_preV hK (k_recv hK.1 ho rfl)) rfl rfl hsz rfl (lv_room hrm) hdg hcl) hS (fun locs1 hS1 => ?_)
    have hval : b2 (decide (¬ x 9 = 0)) = b2 (decide (¬ x 9 = 0)) := rfl
    rw [hval]
    exact kk locs1 hS1
  · refine k_callpi (v := b2 (decide (¬ x 9 = 0))) (va_runU (As := []) (rest := rest) S (c_hasEnded_X6 l _ a x fi by0 dr  ho) (va_cwU 0 S.2.2.2.2 g6 rfl rfl rfl rfl (by decide +kernel) q6) (k_preV hK (k_recv hK.1 ho rfl)) rfl rfl hsz rfl (lv_room hrm) hdg hcl) hS (fun locs1 hS1 => ?_)
    have hval : b2 (decide (¬ x 9 = 0)) = b2 (decide (¬ x 9 = 0)) := rfl
    rw [hval]
    exact kk locs1 hS1
theorem w_commits  (S : CallFix p m c cc nL s args Ts own) (g1 : GoodIn Ts (va_wsU own index RX1 "HouseWorkers$Work" ⟨"HouseWorkers$Work", "commits", "()Z"⟩ yX5_commits wsX5_commits)) (g2 : GoodIn Ts (va_wsU own index RX2 "HouseWorkers$Work" ⟨"HouseWorkers$Work", "commits", "()Z"⟩ yX5_commits wsX5_commits)) (g4 : GoodIn Ts (va_wsU own index RX4 "HouseWorkers$Work" ⟨"HouseWorkers$Work", "commits", "()Z"⟩ yX5_commits wsX5_commits)) (g6 : GoodIn Ts (va_wsU own index RX6 "HouseWorkers$Work" ⟨"HouseWorkers$Work", "commits", "()Z"⟩ yX5_commits wsX5_commits)) (hK : KK D cI cZ cO mi s) (ho : Ob D a ci (WFs x ex) H) (hvc : VC ci ex (x 1))  (q1 : 0 + 1 ≤ R.frames ∧ 8 + (1 + 11) + 0 ≤ R.locals) (q2 : 0 + 1 ≤ R.frames ∧ 8 + (1 + 11) + 0 ≤ R.locals) (q4 : 0 + 1 ≤ R.frames ∧ 8 + (1 + 11) + 0 ≤ R.locals) (q6 : 0 + 1 ≤ R.frames ∧ 8 + (1 + 11) + 0 ≤ R.locals) (hrm : (rest.map fun v => v.category).sum ≤ 8) (hsz : ls.size = nL) (hcl : cells + 0 ≤ R.cells ∧ slots + 0 ≤ R.slots) (hS : va_S A H0 H locs) (hdg : decode cc pc = .ok (.invokevirtual index, 3)) (kk : ∀ locs1 : List Loc, va_S A H0 H locs1 → W p l e R s m args below meth c H locs1 cells slots Q (F0 m (pc + 3) ls (.int (b2 (decide (x 1 = 1) || decide (x 1 = 2))) :: rest))) : W p l e R s m args below meth c H locs cells slots Q (F0 m pc ls (.ref a :: rest)) := by
  rcases hvc with ⟨rfl, hkd, fi, rd, rfl⟩ | ⟨rfl, hkd, dr, rfl⟩ | ⟨rfl, hkd, rfl⟩ | ⟨rfl, hkd, fi, by0, dr, rfl⟩
  · refine k_callpi (v := b2 (decide (x 1 = 1) || decide (x 1 = 2))) (va_runU (As := []) (rest := rest) S (c_commits_X1 l _ a x fi rd  ho) (va_cwU 0 S.2.2.2.2 g1 rfl rfl rfl rfl (by decide +kernel) q1) (k_preV hK (k_recv hK.1 ho rfl)) rfl rfl hsz rfl (lv_room hrm) hdg hcl) hS (fun locs1 hS1 => ?_)
    have hval : b2 (decide (x 1 = 1) || decide (x 1 = 2)) = b2 (decide (x 1 = 1) || decide (x 1 = 2)) := rfl
    rw [hval]
    exact kk locs1 hS1
  · refine k_callpi (v := b2 (decide (x 1 = 1) || decide (x 1 = 2))) (va_runU (As := []) (rest := rest) S (c_commits_X2 l _ a x dr  ho) (va_cwU 0 S.2.2.2.2 g2 rfl rfl rfl rfl (by decide +kernel) q2) (k_preV hK (k_recv hK.1 ho rfl)) rfl rfl hsz rfl (lv_room hrm) hdg hcl) hS (fun locs1 hS1 => ?_)
    have hval : b2 (decide (x 1 = 1) || decide (x 1 = 2)) = b2 (decide (x 1 = 1) || decide (x 1 = 2)) := rfl
    rw [hval]
    exact kk locs1 hS1
  · refine k_callpi (v := b2 (decide (x 1 = 1) || decide (x 1 = 2))) (va_runU (As := []) (rest := rest) S (c_commits_X4 l _ a x   ho) (va_cwU 0 S.2.2.2.2 g4 rfl rfl rfl rfl (by decide +kernel) q4) (k_preV hK (k_recv hK.1 ho rfl)) rfl rfl hsz rfl (lv_room hrm) hdg hcl) hS (fun locs1 hS1 => ?_)
    have hval : b2 (decide (x 1 = 1) || decide (x 1 = 2)) = b2 (decide (x 1 = 1) || decide (x 1 = 2)) := rfl
    rw [hval]
    exact kk locs1 hS1
  · refine k_callpi (v := b2 (decide (x 1 = 1) || decide (x 1 = 2))) (va_runU (As := []) (rest := rest) S (c_commits_X6 l _ a x fi by0 dr  ho) (va_cwU 0 S.2.2.2.2 g6 rfl rfl rfl rfl (by decide +kernel) q6) (k_preV hK (k_recv hK.1 ho rfl)) rfl rfl hsz rfl (lv_room hrm) hdg hcl) hS (fun locs1 hS1 => ?_)
    have hval : b2 (decide (x 1 = 1) || decide (x 1 = 2)) = b2 (decide (x 1 = 1) || decide (x 1 = 2)) := rfl
    rw [hval]
    exact kk locs1 hS1
theorem w_failsNow  (S : CallFix p m c cc nL s args Ts own) (g1 : GoodIn Ts (va_wsU own index RX1 "HouseWorkers$Work" ⟨"HouseWorkers$Work", "failsNow", "()Z"⟩ yX5_failsNow wsX5_failsNow)) (g2 : GoodIn Ts (va_wsU own index RX2 "HouseWorkers$Work" ⟨"HouseWorkers$Work", "failsNow", "()Z"⟩ yX5_failsNow wsX5_failsNow)) (g4 : GoodIn Ts (va_wsU own index RX4 "HouseWorkers$Work" ⟨"HouseWorkers$Work", "failsNow", "()Z"⟩ yX5_failsNow wsX5_failsNow)) (g6 : GoodIn Ts (va_wsU own index RX6 "HouseWorkers$Work" ⟨"HouseWorkers$Work", "failsNow", "()Z"⟩ yX5_failsNow wsX5_failsNow)) (hK : KK D cI cZ cO mi s) (ho : Ob D a ci (WFs x ex) H) (hvc : VC ci ex (x 1))  (q1 : 1 + 1 ≤ R.frames ∧ 8 + (1 + 11) + 20 ≤ R.locals) (q2 : 1 + 1 ≤ R.frames ∧ 8 + (1 + 11) + 20 ≤ R.locals) (q4 : 1 + 1 ≤ R.frames ∧ 8 + (1 + 11) + 20 ≤ R.locals) (q6 : 1 + 1 ≤ R.frames ∧ 8 + (1 + 11) + 20 ≤ R.locals) (hrm : (rest.map fun v => v.category).sum ≤ 8) (hsz : ls.size = nL) (hcl : cells + 0 ≤ R.cells ∧ slots + 0 ≤ R.slots) (hS : va_S A H0 H locs) (hdg : decode cc pc = .ok (.invokevirtual index, 3)) (kk : ∀ locs1 : List Loc, va_S A H0 H locs1 → W p l e R s m args below meth c H locs1 cells slots Q (F0 m (pc + 3) ls (.int (b2 (decide (x 3 = x 4 + 1) && decide (x 4 < x 2))) :: rest))) : W p l e R s m args below meth c H locs cells slots Q (F0 m pc ls (.ref a :: rest)) := by
  rcases hvc with ⟨rfl, hkd, fi, rd, rfl⟩ | ⟨rfl, hkd, dr, rfl⟩ | ⟨rfl, hkd, rfl⟩ | ⟨rfl, hkd, fi, by0, dr, rfl⟩
  · refine k_callpi (v := b2 (decide (x 3 = x 4 + 1) && decide (x 4 < x 2))) (va_runU (As := []) (rest := rest) S (c_failsNow_X1 l _ a x fi rd  ho) (va_cwU 0 S.2.2.2.2 g1 rfl rfl rfl rfl (by decide +kernel) q1) (k_preV hK (k_recv hK.1 ho rfl)) rfl rfl hsz rfl (lv_room hrm) hdg hcl) hS (fun locs1 hS1 => ?_)
    have hval : b2 (decide (x 3 = x 4 + 1) && decide (x 4 < x 2)) = b2 (decide (x 3 = x 4 + 1) && decide (x 4 < x 2)) := rfl
    rw [hval]
    exact kk locs1 hS1
  · refine k_callpi (v := b2 (decide (x 3 = x 4 + 1) && decide (x 4 < x 2))) (va_runU (As := []) (rest := rest) S (c_failsNow_X2 l _ a x dr  ho) (va_cwU 0 S.2.2.2.2 g2 rfl rfl rfl rfl (by decide +kernel) q2) (k_preV hK (k_recv hK.1 ho rfl)) rfl rfl hsz rfl (lv_room hrm) hdg hcl) hS (fun locs1 hS1 => ?_)
    have hval : b2 (decide (x 3 = x 4 + 1) && decide (x 4 < x 2)) = b2 (decide (x 3 = x 4 + 1) && decide (x 4 < x 2)) := rfl
    rw [hval]
    exact kk locs1 hS1
  · refine k_callpi (v := b2 (decide (x 3 = x 4 + 1) && decide (x 4 < x 2))) (va_runU (As := []) (rest := rest) S (c_failsNow_X4 l _ a x   ho) (va_cwU 0 S.2.2.2.2 g4 rfl rfl rfl rfl (by decide +kernel) q4) (k_preV hK (k_recv hK.1 ho rfl)) rfl rfl hsz rfl (lv_room hrm) hdg hcl) hS (fun locs1 hS1 => ?_)
    have hval : b2 (decide (x 3 = x 4 + 1) && decide (x 4 < x 2)) = b2 (decide (x 3 = x 4 + 1) && decide (x 4 < x 2)) := rfl
    rw [hval]
    exact kk locs1 hS1
  · refine k_callpi (v := b2 (decide (x 3 = x 4 + 1) && decide (x 4 < x 2))) (va_runU (As := []) (rest := rest) S (c_failsNow_X6 l _ a x fi by0 dr  ho) (va_cwU 0 S.2.2.2.2 g6 rfl rfl rfl rfl (by decide +kernel) q6) (k_preV hK (k_recv hK.1 ho rfl)) rfl rfl hsz rfl (lv_room hrm) hdg hcl) hS (fun locs1 hS1 => ?_)
    have hval : b2 (decide (x 3 = x 4 + 1) && decide (x 4 < x 2)) = b2 (decide (x 3 = x 4 + 1) && decide (x 4 < x 2)) := rfl
    rw [hval]
    exact kk locs1 hS1
theorem w_pins {v : Int32} (S : CallFix p m c cc nL s args Ts own) (g1 : GoodIn Ts (va_wsU own index RX1 "HouseWorkers$Work" ⟨"HouseWorkers$Work", "pins", "(I)Z"⟩ yX5_pins wsX5_pins)) (g2 : GoodIn Ts (va_wsU own index RX2 "HouseWorkers$Work" ⟨"HouseWorkers$Work", "pins", "(I)Z"⟩ yX5_pins wsX5_pins)) (g4 : GoodIn Ts (va_wsU own index RX4 "HouseWorkers$Work" ⟨"HouseWorkers$Work", "pins", "(I)Z"⟩ yX5_pins wsX5_pins)) (g6 : GoodIn Ts (va_wsU own index RX6 "HouseWorkers$Work" ⟨"HouseWorkers$Work", "pins", "(I)Z"⟩ yX5_pins wsX5_pins)) (hK : KK D cI cZ cO mi s) (ho : Ob D a ci (WFs x ex) H) (hvc : VC ci ex (x 1))  (q1 : 1 + 1 ≤ R.frames ∧ 8 + (2 + 11) + 20 ≤ R.locals) (q2 : 1 + 1 ≤ R.frames ∧ 8 + (2 + 11) + 20 ≤ R.locals) (q4 : 1 + 1 ≤ R.frames ∧ 8 + (2 + 11) + 20 ≤ R.locals) (q6 : 1 + 1 ≤ R.frames ∧ 8 + (2 + 11) + 20 ≤ R.locals) (hrm : (rest.map fun v => v.category).sum ≤ 8) (hsz : ls.size = nL) (hcl : cells + 0 ≤ R.cells ∧ slots + 0 ≤ R.slots) (hS : va_S A H0 H locs) (hdg : decode cc pc = .ok (.invokevirtual index, 3)) (kk : ∀ locs1 : List Loc, va_S A H0 H locs1 → W p l e R s m args below meth c H locs1 cells slots Q (F0 m (pc + 3) ls (.int (b2 (decide (x 9 = 0) && decide (x 7 = v))) :: rest))) : W p l e R s m args below meth c H locs cells slots Q (F0 m pc ls (.int v :: .ref a :: rest)) := by
  rcases hvc with ⟨rfl, hkd, fi, rd, rfl⟩ | ⟨rfl, hkd, dr, rfl⟩ | ⟨rfl, hkd, rfl⟩ | ⟨rfl, hkd, fi, by0, dr, rfl⟩
  · refine k_callpi (v := b2 (decide (x 9 = 0) && decide (x 7 = v))) (va_runU (As := [.int v]) (rest := rest) S (c_pins_X1 l _ a x fi rd v ho) (va_cwU 1 S.2.2.2.2 g1 rfl rfl rfl rfl (by decide +kernel) q1) (k_preV hK (k_recv hK.1 ho rfl)) rfl rfl hsz rfl (lv_room hrm) hdg hcl) hS (fun locs1 hS1 => ?_)
    have hval : b2 (decide (x 9 = 0) && decide (x 7 = v)) = b2 (decide (x 9 = 0) && decide (x 7 = v)) := rfl
    rw [hval]
    exact kk locs1 hS1
  · refine k_callpi (v := b2 (decide (x 9 = 0) && decide (x 7 = v))) (va_runU (As := [.int v]) (rest := rest) S (c_pins_X2 l _ a x dr v ho) (va_cwU 1 S.2.2.2.2 g2 rfl rfl rfl rfl (by decide +kernel) q2) (k_preV hK (k_recv hK.1 ho rfl)) rfl rfl hsz rfl (lv_room hrm) hdg hcl) hS (fun locs1 hS1 => ?_)
    have hval : b2 (decide (x 9 = 0) && decide (x 7 = v)) = b2 (decide (x 9 = 0) && decide (x 7 = v)) := rfl
    rw [hval]
    exact kk locs1 hS1
  · refine k_callpi (v := b2 (decide (x 9 = 0) && decide (x 7 = v))) (va_runU (As := [.int v]) (rest := rest) S (c_pins_X4 l _ a x  v ho) (va_cwU 1 S.2.2.2.2 g4 rfl rfl rfl rfl (by decide +kernel) q4) (k_preV hK (k_recv hK.1 ho rfl)) rfl rfl hsz rfl (lv_room hrm) hdg hcl) hS (fun locs1 hS1 => ?_)
    have hval : b2 (decide (x 9 = 0) && decide (x 7 = v)) = b2 (decide (x 9 = 0) && decide (x 7 = v)) := rfl
    rw [hval]
    exact kk locs1 hS1
  · refine k_callpi (v := b2 (decide (x 9 = 0) && decide (x 7 = v))) (va_runU (As := [.int v]) (rest := rest) S (c_pins_X6 l _ a x fi by0 dr v ho) (va_cwU 1 S.2.2.2.2 g6 rfl rfl rfl rfl (by decide +kernel) q6) (k_preV hK (k_recv hK.1 ho rfl)) rfl rfl hsz rfl (lv_room hrm) hdg hcl) hS (fun locs1 hS1 => ?_)
    have hval : b2 (decide (x 9 = 0) && decide (x 7 = v)) = b2 (decide (x 9 = 0) && decide (x 7 = v)) := rfl
    rw [hval]
    exact kk locs1 hS1
theorem w_isToGet {v : Int32} (S : CallFix p m c cc nL s args Ts own) (g1 : GoodIn Ts (va_wsU own index RX1 "HouseWorkers$Work" ⟨"HouseWorkers$Work", "isToGet", "(I)Z"⟩ yX5_isToGet wsX5_isToGet)) (g2 : GoodIn Ts (va_wsU own index RX2 "HouseWorkers$Work" ⟨"HouseWorkers$Work", "isToGet", "(I)Z"⟩ yX5_isToGet wsX5_isToGet)) (g4 : GoodIn Ts (va_wsO own index RX4 "HouseWorkers$Work" ⟨"HouseWorkers$Work", "isToGet", "(I)Z"⟩ yX4_isToGet wsX4_isToGet)) (g6 : GoodIn Ts (va_wsU own index RX6 "HouseWorkers$Work" ⟨"HouseWorkers$Work", "isToGet", "(I)Z"⟩ yX5_isToGet wsX5_isToGet)) (hK : KK D cI cZ cO mi s) (ho : Ob D a ci (WFs x ex) H) (hvc : VC ci ex (x 1)) (h0 : Cond.code ⟨"HouseWorkers$Work", "isToGet", "(I)Z"⟩ cX5_isToGet 2 (some .boolean) ∈ Ts) (q1 : 0 + 1 ≤ R.frames ∧ 8 + (2 + 11) + 0 ≤ R.locals) (q2 : 0 + 1 ≤ R.frames ∧ 8 + (2 + 11) + 0 ≤ R.locals) (q4 : 1 + 1 ≤ R.frames ∧ 8 + (2 + 11) + 20 ≤ R.locals) (q6 : 0 + 1 ≤ R.frames ∧ 8 + (2 + 11) + 0 ≤ R.locals) (hrm : (rest.map fun v => v.category).sum ≤ 8) (hsz : ls.size = nL) (hcl : cells + 0 ≤ R.cells ∧ slots + 0 ≤ R.slots) (hS : va_S A H0 H locs) (hdg : decode cc pc = .ok (.invokevirtual index, 3)) (kk : ∀ locs1 : List Loc, va_S A H0 H locs1 → W p l e R s m args below meth c H locs1 cells slots Q (F0 m (pc + 3) ls (.int (b2 (decide (x 1 = 3) && (decide (x 9 = 0) && decide (x 6 < v)))) :: rest))) : W p l e R s m args below meth c H locs cells slots Q (F0 m pc ls (.int v :: .ref a :: rest)) := by
  rcases hvc with ⟨rfl, hkd, fi, rd, rfl⟩ | ⟨rfl, hkd, dr, rfl⟩ | ⟨rfl, hkd, rfl⟩ | ⟨rfl, hkd, fi, by0, dr, rfl⟩
  · refine k_callpi (v := b2 false) (va_runU (As := [.int v]) (rest := rest) S (c_isToGet_X1 l _ a x fi rd v ho) (va_cwU 1 S.2.2.2.2 g1 rfl rfl rfl rfl (by decide +kernel) q1) (k_preV hK (k_recv hK.1 ho rfl)) rfl rfl hsz rfl (lv_room hrm) hdg hcl) hS (fun locs1 hS1 => ?_)
    have hval : b2 false = b2 (decide (x 1 = 3) && (decide (x 9 = 0) && decide (x 6 < v))) := by rw [hkd]; rfl
    rw [hval]
    exact kk locs1 hS1
  · refine k_callpi (v := b2 false) (va_runU (As := [.int v]) (rest := rest) S (c_isToGet_X2 l _ a x dr v ho) (va_cwU 1 S.2.2.2.2 g2 rfl rfl rfl rfl (by decide +kernel) q2) (k_preV hK (k_recv hK.1 ho rfl)) rfl rfl hsz rfl (lv_room hrm) hdg hcl) hS (fun locs1 hS1 => ?_)
    have hval : b2 false = b2 (decide (x 1 = 3) && (decide (x 9 = 0) && decide (x 6 < v))) := by rw [hkd]; rfl
    rw [hval]
    exact kk locs1 hS1
  · refine k_callpi (v := b2 (decide (x 9 = 0) && decide (x 6 < v))) (va_runU (As := [.int v]) (rest := rest) S (c_isToGet_X4 l _ a x  v ho) (va_cwO 1 S.2.2.2.2 g4 rfl rfl rfl h0 (by decide +kernel) q4) (k_preV hK (k_recv hK.1 ho rfl)) rfl rfl hsz rfl (lv_room hrm) hdg hcl) hS (fun locs1 hS1 => ?_)
    have hval : b2 (decide (x 9 = 0) && decide (x 6 < v)) = b2 (decide (x 1 = 3) && (decide (x 9 = 0) && decide (x 6 < v))) := by rw [hkd]; rfl
    rw [hval]
    exact kk locs1 hS1
  · refine k_callpi (v := b2 false) (va_runU (As := [.int v]) (rest := rest) S (c_isToGet_X6 l _ a x fi by0 dr v ho) (va_cwU 1 S.2.2.2.2 g6 rfl rfl rfl rfl (by decide +kernel) q6) (k_preV hK (k_recv hK.1 ho rfl)) rfl rfl hsz rfl (lv_room hrm) hdg hcl) hS (fun locs1 hS1 => ?_)
    have hval : b2 false = b2 (decide (x 1 = 3) && (decide (x 9 = 0) && decide (x 6 < v))) := by rw [hkd]; rfl
    rw [hval]
    exact kk locs1 hS1
theorem w_waits {nb : Int32} (hs st0 hc lt e0 n : Nat) (mv : Int32) (S : CallFix p m c cc nL s args Ts own) (g1 : GoodIn Ts (va_wsU own index RX1 "HouseWorkers$Work" ⟨"HouseWorkers$Work", "waits", "(LHouseWorkers$Store;Z)Z"⟩ yX1_waits wsX1_waits)) (g2 : GoodIn Ts (va_wsU own index RX2 "HouseWorkers$Work" ⟨"HouseWorkers$Work", "waits", "(LHouseWorkers$Store;Z)Z"⟩ yX2_waits wsX2_waits)) (g4 : GoodIn Ts (va_wsU own index RX4 "HouseWorkers$Work" ⟨"HouseWorkers$Work", "waits", "(LHouseWorkers$Store;Z)Z"⟩ yX4_waits wsX4_waits)) (g6 : GoodIn Ts (va_wsU own index RX6 "HouseWorkers$Work" ⟨"HouseWorkers$Work", "waits", "(LHouseWorkers$Store;Z)Z"⟩ yX6_waits wsX6_waits)) (hK : KK D cI cZ cO mi s) (ho : Ob D a ci (WFs x ex) H) (hvc : VC ci ex (x 1)) (hso : Ob D hs 4 [.ref st0, .ref hc, .ref lt] H) (hcm : Ob D hc 0 [.int mv, .ref e0, .int (nI n)] H) (q1 : 0 + 1 ≤ R.frames ∧ 8 + (3 + 11) + 0 ≤ R.locals) (q2 : 0 + 1 ≤ R.frames ∧ 8 + (3 + 11) + 0 ≤ R.locals) (q4 : 2 + 1 ≤ R.frames ∧ 8 + (3 + 11) + 40 ≤ R.locals) (q6 : 1 + 1 ≤ R.frames ∧ 8 + (3 + 11) + 20 ≤ R.locals) (hrm : (rest.map fun v => v.category).sum ≤ 8) (hsz : ls.size = nL) (hcl : cells + 0 ≤ R.cells ∧ slots + 0 ≤ R.slots) (hS : va_S A H0 H locs) (hdg : decode cc pc = .ok (.invokevirtual index, 3)) (kk : ∀ locs1 : List Loc, va_S A H0 H locs1 → W p l e R s m args below meth c H locs1 cells slots Q (F0 m (pc + 3) ls (.int (b2 (hwt x nb n)) :: rest))) : W p l e R s m args below meth c H locs cells slots Q (F0 m pc ls (.int nb :: .ref hs :: .ref a :: rest)) := by
  rcases hvc with ⟨rfl, hkd, fi, rd, rfl⟩ | ⟨rfl, hkd, dr, rfl⟩ | ⟨rfl, hkd, rfl⟩ | ⟨rfl, hkd, fi, by0, dr, rfl⟩
  · refine k_callpi (v := b2 false) (va_runU (As := [.ref hs, .int nb]) (rest := rest) S (c_waits_X1 l _ a x fi rd hs nb ho) (va_cwA 2 S.2.2.2.2 g1 rfl rfl rfl (hK.2.2.1 ⟨"HouseWorkers$Work", "waits", "(LHouseWorkers$Store;Z)Z"⟩ (by decide +kernel)) (by decide +kernel) q1) (k_preV hK (k_recv hK.1 ho rfl)) rfl rfl hsz rfl (lv_room hrm) hdg hcl) hS (fun locs1 hS1 => ?_)
    have hval : b2 false = b2 (hwt x nb n) := by unfold hwt; rw [hkd]; rfl
    rw [hval]
    exact kk locs1 hS1
  · refine k_callpi (v := b2 (decide (x 4 = 0) && decide (nb = 0))) (va_runU (As := [.ref hs, .int nb]) (rest := rest) S (c_waits_X2 l _ a x dr hs nb ho) (va_cwA 2 S.2.2.2.2 g2 rfl rfl rfl (hK.2.2.1 ⟨"HouseWorkers$Work", "waits", "(LHouseWorkers$Store;Z)Z"⟩ (by decide +kernel)) (by decide +kernel) q2) (k_preV hK (k_recv hK.1 ho rfl)) rfl rfl hsz rfl (lv_room hrm) hdg hcl) hS (fun locs1 hS1 => ?_)
    have hval : b2 (decide (x 4 = 0) && decide (nb = 0)) = b2 (hwt x nb n) := by unfold hwt; rw [hkd]; rfl
    rw [hval]
    exact kk locs1 hS1
  · refine k_callpi (v := b2 (decide (¬ x 6 < nI n))) (va_runU (As := [.ref hs, .int nb]) (rest := rest) S (c_waits_X4 l _ a x nb hs st0 hc lt e0 n mv ho hso hcm) (va_cwA 2 S.2.2.2.2 g4 rfl rfl rfl (hK.2.2.1 ⟨"HouseWorkers$Work", "waits", "(LHouseWorkers$Store;Z)Z"⟩ (by decide +kernel)) (by decide +kernel) q4) (k_preV hK (k_recv hK.1 ho rfl)) rfl rfl hsz rfl (lv_room hrm) hdg hcl) hS (fun locs1 hS1 => ?_)
    have hval : b2 (decide (¬ x 6 < nI n)) = b2 (hwt x nb n) := by unfold hwt; rw [hkd]; rfl
    rw [hval]
    exact kk locs1 hS1
  · refine k_callpi (v := b2 (decide (¬ x 4 < x 2) && decide (nb = 0))) (va_runU (As := [.ref hs, .int nb]) (rest := rest) S (c_waits_X6 l _ a x fi by0 dr hs nb ho) (va_cwA 2 S.2.2.2.2 g6 rfl rfl rfl (hK.2.2.1 ⟨"HouseWorkers$Work", "waits", "(LHouseWorkers$Store;Z)Z"⟩ (by decide +kernel)) (by decide +kernel) q6) (k_preV hK (k_recv hK.1 ho rfl)) rfl rfl hsz rfl (lv_room hrm) hdg hcl) hS (fun locs1 hS1 => ?_)
    have hval : b2 (decide (¬ x 4 < x 2) && decide (nb = 0)) = b2 (hwt x nb n) := by unfold hwt; rw [hkd]; rfl
    rw [hval]
    exact kk locs1 hS1
end Disp
