/-! what the calls do to that state, as the reference does it -/
def nat (x : Int32) : Nat := x.toNatClampNeg
theorem nat_nI {n : Nat} (h : n < 2 ^ 31) : nat (nI n) = n := nI_clamp h
def b2 (b : Bool) : Int32 := bif b then 1 else 0
theorem b2_nar (b : Bool) : narrow .boolean (.int (b2 b)) = .int (b2 b) := by cases b <;> rfl
def nx1 (σ : Sg) (k : Nat) : Bool := decide (0 < σ 12 k) || (decide (σ 4 k = 0) || decide (σ 4 k = 3))
def nxA (σ : Sg) : Nat → Bool
  | 0 => true
  | k + 1 => nxA σ k && nx1 σ k
def wt (σ : Sg) (j : Nat) : Bool :=
  bif decide (0 < σ 12 j) then true else bif decide (¬ σ 13 j = 0) then false else bif decide (σ 4 j = 1) then decide (σ 9 j = σ 5 j) && !nxA σ j else bif decide (σ 4 j = 2) then decide (σ 9 j = 0) && !nxA σ j else bif decide (σ 4 j = 3) then decide (σ 11 j = σ 1 0 - 1) else false
def fin (σ : Sg) (e j : Nat) (how : Int32) : Sg := u2 (u2 (u2 (u2 (u2 σ 12 j how) 17 e (nI j)) 18 e how) 19 e (σ 20 0)) 16 0 (σ 16 0 + 1)
def blk (σ : Sg) (nv j c : Nat) : Sg := fun k i => if k = 0 ∧ 16 * nv ≤ i ∧ i < 16 * nv + c then (if σ 4 j = 1 then σ 0 (i - 16) else 0) + σ 14 (16 * j + (i - 16 * nv)) else σ k i
def cmt (σ : Sg) (nv j : Nat) : Sg := u2 (u2 (blk σ nv j 16) 11 j (σ 1 0)) 1 0 (σ 1 0 + 1)
def tk (σ : Sg) (vv j c : Nat) : Sg := fun k i => if k = 14 ∧ 16 * j ≤ i ∧ i < 16 * j + c then σ 0 (16 * vv + (i - 16 * j)) else σ k i
def bfr (σ : Sg) (j c : Nat) : Sg := fun k i => if k = 15 ∧ i < c then σ 14 (16 * j + i) else σ k i
def spr (σ : Sg) (j c : Nat) : Sg := fun k i => if k = 14 ∧ 16 * j ≤ i ∧ i < 16 * j + c then rnd (σ 15) (i - 16 * j) else σ k i
def rdT (σ : Sg) (nv j : Nat) : Sg := if σ 9 j = 0 then tk (u2 σ 11 j (σ 1 0 - 1)) (nv - 1) j 16 else σ
def rd (σ : Sg) (nv j : Nat) : Sg := spr (bfr (rdT σ nv j) j 16) j 16
def aN (σ : Sg) (j : Nat) : Nat := (nat (σ 7 j) + nat (σ 9 j)) % 16
def stB (σ : Sg) (nv j : Nat) : Sg :=
  if σ 4 j = 0 then u2 σ 10 j (31 * σ 10 j + σ 0 (16 * nat (σ 11 j) + aN σ j))
  else if σ 4 j = 1 then u2 σ 14 (16 * j + aN σ j) (σ 14 (16 * j + aN σ j) + σ 8 j)
  else if σ 4 j = 2 then rd σ nv j
  else u2 (u2 σ 11 j (σ 11 j + 1)) 10 j (31 * σ 10 j + isum (fun c => σ 0 (16 * nat (σ 11 j + 1) + c)) 16)
def stp (σ : Sg) (nv j : Nat) : Sg := u2 (stB σ nv j) 9 j (stB σ nv j 9 j + 1)
def tnD (σ : Sg) (nv e j : Nat) : Int32 × Sg :=
  if ¬ σ 13 j = 0 then (4, fin σ e j 4)
  else if σ 9 j = σ 5 j ∧ ¬ σ 4 j = 3 then (2, fin (cmt σ nv j) e j 2)
  else if σ 6 j = σ 9 j + 1 then (3, fin σ e j 3)
  else if stp σ nv j 4 j = 0 ∧ stp σ nv j 9 j = stp σ nv j 5 j then (2, fin (stp σ nv j) e j 2)
  else (1, stp σ nv j)
def tn (σ : Sg) (nv e j : Nat) : Int32 × Sg :=
  bif wt σ j then (0, u2 σ 21 0 (σ 21 0 + (if 0 < σ 12 j then 0 else 1))) else tnD (u2 σ 20 0 (σ 20 0 + 1)) nv e j
/-- a turn, the counts taken from the state -/
def tnS (σ : Sg) (j : Nat) : Int32 × Sg := tn σ (nat (σ 1 0)) (nat (σ 16 0)) j
def rowF (most : Nat) : Nat → Nat × Bool × Sg → Nat × Bool × Sg
  | 0, x => x
  | w + 1, x => if (rowF most w x).1 < most then (if 0 < (tnS (rowF most w x).2.2 w).1 then ((rowF most w x).1 + 1, true, (tnS (rowF most w x).2.2 w).2) else ((rowF most w x).1, (rowF most w x).2.1, (tnS (rowF most w x).2.2 w).2)) else rowF most w x
def runF (most nW : Nat) : Nat → Nat × Bool × Sg → Nat × Bool × Sg
  | 0, x => x
  | n + 1, x => if x.2.1 = true ∧ x.1 < most then runF most nW n (rowF most nW (x.1, false, x.2.2)) else x
def cnc (σ : Sg) (j : Nat) : Int32 × Sg := if 0 < σ 12 j then (0, σ) else if ¬ σ 13 j = 0 then (0, σ) else (1, u2 σ 13 j 1)
def clsF : Nat → Sg → Nat × Sg
  | 0, σ => (0, σ)
  | w + 1, σ => if (clsF w σ).2 12 w = 0 then ((clsF w σ).1 + 1, fin (clsF w σ).2 (nat ((clsF w σ).2 16 0)) w 4) else clsF w σ
def pin (σ : Sg) (j : Nat) : Int32 := bif (decide (σ 12 j = 0) && (decide (σ 4 j = 0) || decide (σ 4 j = 2))) then σ 11 j else (-1)
def ipF (σ : Sg) (v : Int32) : Nat → Bool
  | 0 => false
  | w + 1 => ipF σ v w || decide (pin σ w = v)
def kp1 (σ : Sg) (v : Int32) (w : Nat) : Bool := decide (σ 4 w = 3) && (decide (σ 12 w = 0) && decide (σ 11 w < v))
def kpF (σ : Sg) (v : Int32) (nW : Nat) : Nat → Bool
  | 0 => decide (v = σ 1 0 - 1) || ipF σ v nW
  | w + 1 => kpF σ v nW w || kp1 σ v w
def kept (σ : Sg) (v : Int32) (nW : Nat) : Bool := kpF σ v nW nW
def cntF (f : Nat → Bool) : Nat → Nat
  | 0 => 0
  | n + 1 => cntF f n + (bif f n then 1 else 0)
def tld (σ : Sg) (j : Nat) (what : Int32) : Int32 :=
  if what = 0 then σ 4 j else if what = 1 then σ 12 j else if what = 2 then σ 9 j else if what = 3 then σ 10 j else if what = 4 then (if σ 4 j = 2 ∧ ¬ σ 12 j = 2 then (-1) else σ 11 j) else b2 (wt σ j)
def begS (σ : Sg) (nW : Nat) (kd many fails frm more : Int32) : Sg := u2 (u2 (u2 (u2 (u2 (u2 (u2 σ 4 nW kd) 5 nW many) 6 nW fails) 7 nW frm) 8 nW more) 11 nW (if kd = 0 ∨ kd = 3 then σ 1 0 - 1 else (-1))) 3 0 (σ 3 0 + 1)
def beg (σ : Sg) (nW : Nat) (kd many fails frm more : Int32) : Int32 × Sg := if ¬ σ 2 0 = 0 then (-2, σ) else if nW = 30 then (-3, σ) else (nI nW, begS σ nW kd many fails frm more)
def inB (v lo hi : Int32) : Bool := decide (¬ v < lo) && decide (¬ hi < v)
