/-! the answers -/
theorem out_hasI {a : Int32} {n : Nat} (h : ¬ hasI a (n + 1) = true) : a.toInt < 0 ∨ (n : Int) < a.toInt := by
  have h1 : ¬ (0 ≤ a.toInt ∧ a.toInt < ((n + 1 : Nat) : Int)) := fun q => h (decide_eq_true q)
  omega
theorem gt_hasI {a : Int32} {n : Nat} (hn : n + 1 < 2 ^ 31) (h : nI n < a) : hasI a (n + 1) = false := by
  apply decide_eq_false
  rw [Int32.lt_iff_toInt_lt, nI_toInt (by omega)] at h
  omega
theorem ngt_hasI {a : Int32} {n : Nat} (hn : n + 1 < 2 ^ 31) (h0 : ¬ a < 0) (h : ¬ nI n < a) : hasI a (n + 1) = true := by
  apply decide_eq_true
  rw [Int32.lt_iff_toInt_lt] at h0
  rw [Int32.lt_iff_toInt_lt, nI_toInt (by omega)] at h
  have : (0 : Int32).toInt = 0 := rfl
  omega
theorem hasI_lt {j n : Nat} (hj : j < 2 ^ 31) (h : j < n) : hasI (nI j) n = true := by rw [hasI_n hj]; exact decide_eq_true h
def pick (b : Int32) (l : List Int32) : Int32 := if hasI b l.length then l.getD b.toNatClampNeg (-1) else -1
theorem pick_n {l : List Int32} {j : Nat} (h : j < l.length) (h2 : j < 2 ^ 31) : pick (nI j) l = l.getD j (-1) := by
  rw [pick, hasI_lt h2 h, nI_cl h2]; rfl
theorem pick_at {l : List Int32} {x : Int32} (k : Nat) (h : l[k]? = some x) (h2 : k < 100) : pick (nI k) l = x := by
  have h1 := (List.getElem?_eq_some_iff.mp h).1
  rw [pick_n h1 (by omega), List.getD_eq_getElem?_getD, h]; rfl
theorem pick_f {l : List Int32} {b : Int32} (h : hasI b l.length = false) : pick b l = -1 := by rw [pick, h]; rfl
def wordR (T : px_T) (a b : Int32) : Int32 := if hasI a (tW T) then pick b [nI (tl T a.toNatClampNeg), nI (ts T a.toNatClampNeg), oN (doubtS T a.toNatClampNeg), oN (nearS T a.toNatClampNeg)] else -1
def letterR (T : px_T) (a b : Int32) : Int32 := if hasI a (tW T) && hasI b (tl T a.toNatClampNeg) then nI (tc T a.toNatClampNeg b.toNatClampNeg) else -1
def driveR (T : px_T) (M : px_N) (a b : Int32) : Int32 := if hasI a (tD T) then pick b [nI (td T a.toNatClampNeg), nI (nt M a.toNatClampNeg), nI (fitS T M a.toNatClampNeg), oN (lookS T M a.toNatClampNeg), nI (cnt (isT T M a.toNatClampNeg) 32), oN (trackF T M a.toNatClampNeg)] else -1
def cellR (T : px_T) (M : px_N) (a b : Int32) : Int32 := if hasC T a b then (if (nt M a.toNatClampNeg).testBit b.toNatClampNeg then -9 else nI (nc M a.toNatClampNeg b.toNatClampNeg)) else -1
def goerR (T : px_T) (a b : Int32) : Int32 := if hasI a (tG T) && hasI b 4 then nI (tg T a.toNatClampNeg b.toNatClampNeg) else -1
def likU (T : px_T) (M : px_N) (d i : Nat) : Nat := if canS T M d i then ts T i else 0
def likL (T : px_T) (M : px_N) (d i : Nat) : Nat := if canS T M d i then wgt T (fitS T M d) else 1
def likelyR (T : px_T) (M : px_N) (a b c : Int32) : Int32 := if hasI a (tD T) && hasI b (tW T) && hasI c 2 then nI ((if c.toNatClampNeg = 0 then likU T M a.toNatClampNeg b.toNatClampNeg else likL T M a.toNatClampNeg b.toNatClampNeg) / Nat.gcd (likU T M a.toNatClampNeg b.toNatClampNeg) (likL T M a.toNatClampNeg b.toNatClampNeg)) else -1
def spoF (T : px_T) (M : px_N) (d s f : Nat) : Nat := popc (rdbl T M d &&& trk f s (td T d))
def spoilR (T : px_T) (M : px_N) (a b c : Int32) : Int32 := if hasI a (tD T) && strI b && hasI c 2 then (match amin (fun _ => true) (spoF T M a.toNatClampNeg b.toNatClampNeg) b.toNatClampNeg with
  | some v => if c.toNatClampNeg = 0 then nI v else nI (spoF T M a.toNatClampNeg b.toNatClampNeg v)
  | none => -1) else -1
def oddsV (x n c : Nat) : Nat := (if c = 0 then (10 - x) ^ n else 10 ^ n) / Nat.gcd ((10 - x) ^ n) (10 ^ n)
def oddsR (T : px_T) (M : px_N) (a b c : Int32) : Int32 := if hasI a (tD T) && hasI b 11 && hasI c 2 then nI (oddsV b.toNatClampNeg (cnt (fun j => canSp T M j a.toNatClampNeg) (tG T)) c.toNatClampNeg) else -1
theorem cmp_gcd : ∀ a, a < 11 → ∀ b, b < 55 → (a = 0 ∧ b = 0) ∨ cmp a b = Nat.gcd a b := by decide +kernel
theorem odds_eq : ∀ x, x < 11 → ∀ n, n < 7 → ((10 - x) / cmp (10 - x) 10) ^ n = oddsV x n 0 ∧ (10 / cmp (10 - x) 10) ^ n = oddsV x n 1 := by decide +kernel
theorem canS_fit {T : px_T} {M : px_N} {d i : Nat} (hi : i < tW T) : (fitS T M d).testBit i = canS T M d i := by rw [fitS, bset_bit]; simp [hi]
