/-! what calls that change something answer, and what is then -/
def note (M : px_N) (U : List px_N) : List px_N := (M :: U).take 10
def rakC (T : px_T) (a b : Int32) : Bool := hasI a (tD T) && hasI b (tW T)
def rakO (T : px_T) (a b : Int32) : Bool := rakC T a b && decide (tl T b.toNatClampNeg ≤ td T a.toNatClampNeg)
def rakesR (T : px_T) (a b : Int32) : Int32 := if rakO T a b then nI (td T a.toNatClampNeg - tl T b.toNatClampNeg) else if rakC T a b then -2 else -1
/-- the first x cells raked -/
def nRk (T : px_T) (M : px_N) (d i x : Nat) : px_N := (fun a b => if a = d ∧ b < x then tc T i b else nc M a b, nt M, nh M)
def nRake (T : px_T) (M : px_N) (d i : Nat) : px_N := nSet (nRk T M d i 8) d 0
theorem nRk_0 (T : px_T) (M : px_N) (d i : Nat) : nRk T M d i 0 = M := by
  have : (fun a b => if a = d ∧ b < 0 then tc T i b else nc M a b) = nc M := by funext a b; simp
  unfold nRk; rw [this]; rfl
theorem nRk_s (T : px_T) (M : px_N) (d i x : Nat) : nLay (nRk T M d i x) d x (tc T i x) = nRk T M d i (x + 1) := by
  have : (fun a b => if a = d ∧ b = x then tc T i x else nc (nRk T M d i x) a b) = (fun a b => if a = d ∧ b < x + 1 then tc T i b else nc M a b) := by
    funext a b
    by_cases h1 : a = d
    · by_cases h2 : b = x
      · subst h1; subst h2; simp
      · by_cases h3 : b < x
        · have : b < x + 1 := by omega
          simp [h1, h2, h3, this, nRk, nc]
        · have : ¬ b < x + 1 := by omega
          simp [h1, h2, h3, this, nRk, nc]
    · simp [h1, nRk, nc]
  unfold nLay; rw [this]; rfl
def rakesM (T : px_T) (M : px_N) (a b : Int32) : px_N := if rakO T a b then nRake T M a.toNatClampNeg b.toNatClampNeg else M
def rakesU (T : px_T) (M : px_N) (U : List px_N) (a b : Int32) : List px_N := if rakO T a b then note M U else U
def treO (T : px_T) (a b c : Int32) : Bool := hasI a (tD T) && hasI b 8 && strI c
def treB (T : px_T) (a b c : Int32) : Nat := trk b.toNatClampNeg c.toNatClampNeg (td T a.toNatClampNeg)
def treadsR (T : px_T) (M : px_N) (a b c : Int32) : Int32 := if treO T a b c then nI (popc (ndif (treB T a b c) (nt M a.toNatClampNeg))) else -1
def treadsM (T : px_T) (M : px_N) (a b c : Int32) : px_N := if treO T a b c then nTread M a.toNatClampNeg (treB T a b c) else M
def treadsU (T : px_T) (M : px_N) (U : List px_N) (a b c : Int32) : List px_N := if treO T a b c then note M U else U
def catO (T : px_T) (M : px_N) (a b : Int32) : Bool := hasC T a b && !((nt M a.toNatClampNeg).testBit b.toNatClampNeg)
def catR (T : px_T) (M : px_N) (a b : Int32) : Int32 := if catO T M a b then nI (popc (nt M a.toNatClampNeg ||| 2 ^ b.toNatClampNeg)) else if hasC T a b then -2 else -1
def catM (T : px_T) (M : px_N) (a b : Int32) : px_N := if catO T M a b then nTread M a.toNatClampNeg (2 ^ b.toNatClampNeg) else M
def catU (T : px_T) (M : px_N) (U : List px_N) (a b : Int32) : List px_N := if catO T M a b then note M U else U
theorem nt_nTread (M : px_N) (d b : Nat) : nt (nTread M d b) d = nt M d ||| b := by simp [nTread, nSet, nt]
theorem pow_256 {x : Nat} (h : x < 8) : 2 ^ x < 256 := Nat.pow_lt_pow_right (n := 8) (by decide) h
/-- an hour: the goers below j have come -/
def hrM (T : px_T) (M : px_N) : Nat → px_N
  | 0 => M
  | j + 1 => if tg T j 0 == nh M then nTread (hrM T M j) (tg T j 1) (trkG T j) else hrM T M j
theorem hrM_h (T : px_T) (M : px_N) : ∀ j, nh (hrM T M j) = nh M
  | 0 => rfl
  | j + 1 => by
    unfold hrM
    split
    · exact hrM_h T M j
    · exact hrM_h T M j
def hourR (T : px_T) (M : px_N) : Int32 := if nh M = 24 then -2 else nI (cnt (fun j => tg T j 0 == nh M + 1) (tG T))
def hourM (T : px_T) (M : px_N) : px_N := if nh M = 24 then M else hrM T (nHour M (nh M + 1)) (tG T)
def hourU (M : px_N) (U : List px_N) : List px_N := if nh M = 24 then U else note M U
def undoR (U : List px_N) : Int32 := match U with
  | [] => -2
  | _ :: U => nI U.length
def undoM (M : px_N) (U : List px_N) : px_N := match U with
  | [] => M
  | N :: _ => N
def undoU (U : List px_N) : List px_N := match U with
  | [] => []
  | _ :: U => U
theorem PastA.o {w : px_W} {U : List px_N} (h : PastA w U) : ∃ f, f < 10 ∧ w[18]? = some (.inr (1, [.ref 19, .int (nI f), .int (nI U.length)])) := by
  obtain ⟨f, Ms, h1, h2, h3, _⟩ := h; exact ⟨f, h1, h3⟩
theorem ge_sub {a b : Nat} (ha : a < 2 ^ 30) (hb : b < 2 ^ 30) : 0 ≤ nI a - nI b ↔ b ≤ a := by
  have h0 : (0 : Int32).toInt = 0 := rfl
  rw [Int32.le_iff_toInt_le, pk_sub_toInt ha hb, h0]
  omega
