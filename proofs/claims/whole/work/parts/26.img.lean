/-! images, kinds, the text -/
def ImA (w : px_W) (ik : Nat) (I : Nat → Option px_N) : Prop := ∃ Is : Nat → px_N, ShA w 51 2 Is ∧ ik < 4 ∧ ∀ i, i < 2 → ik.testBit i = (I i).isSome ∧ ∀ N, I i = some N → Is i = N
theorem ImA.fr {w w' : px_W} {a b ik : Nat} {I : Nat → Option px_N} (h : ImA w ik I) (hF : Frm w w' a b) (hk : 59 ≤ a ∨ b ≤ 51) : ImA w' ik I := by
  obtain ⟨Is, h1, h2⟩ := h
  exact ⟨Is, h1.fr hF (by omega), h2⟩
theorem ImA.none {w : px_W} {ik : Nat} {I : Nat → Option px_N} (h : ImA w ik I) : ImA w 0 (fun _ => none) := by
  obtain ⟨Is, h1, h2⟩ := h
  exact ⟨Is, h1, by omega, fun i hi => ⟨by simp, fun N h => by cases h⟩⟩
def iSet (I : Nat → Option px_N) (i : Nat) (M : px_N) : Nat → Option px_N := fun j => if j = i then some M else I j
theorem ImA.keep {w : px_W} {ik : Nat} {I : Nat → Option px_N} {Is : Nat → px_N} {i : Nat} {M : px_N} (hi : i < 2) (h2 : ik < 4) (h3 : ∀ i, i < 2 → ik.testBit i = (I i).isSome ∧ ∀ N, I i = some N → Is i = N) (hS : ShA w 51 2 (fun j => if j = i then M else Is j)) : ImA w (ik ||| 2 ^ i) (iSet I i M) := by
  refine ⟨_, hS, Nat.or_lt_two_pow (n := 2) h2 (Nat.pow_lt_pow_right (by decide) hi), fun j hj => ⟨?_, fun N h => ?_⟩⟩
  · rw [Nat.testBit_or, Nat.testBit_two_pow, (h3 j hj).1]
    by_cases e : i = j
    · subst e; simp [iSet]
    · have : ¬ j = i := fun q => e q.symm
      simp [iSet, e, this]
  · by_cases e : j = i
    · subst e
      simp [iSet] at h
      simp [h]
    · simp only [iSet, e, if_false] at h ⊢
      exact (h3 j hj).2 N h
def keepR (M : px_N) (a : Int32) : Int32 := if hasI a 2 then nI (nh M) else -1
def keepI (M : px_N) (I : Nat → Option px_N) (a : Int32) : Nat → Option px_N := if hasI a 2 then iSet I a.toNatClampNeg M else I
def backG (I : Nat → Option px_N) (a : Int32) : Option px_N := if hasI a 2 then I a.toNatClampNeg else none
def backR (I : Nat → Option px_N) (a : Int32) : Int32 := if hasI a 2 then (match I a.toNatClampNeg with
  | some N => nI (nh N)
  | none => -2) else -1
def backM (M : px_N) (I : Nat → Option px_N) (a : Int32) : px_N := match backG I a with
  | some N => N
  | none => M
def backU (U : List px_N) (I : Nat → Option px_N) (a : Int32) : List px_N := match backG I a with
  | some _ => []
  | none => U
abbrev xobj (ik : Nat) (tr : Int64) : px_C := .inr (5, [.ref 1, .ref 9, .ref 15, .ref 18, .ref 51, .ref 59, .int (nI ik), .long tr])
def kindT (k : Nat) : Int64 := ([1, 11, 101, 1011, 10101, 100001] : List Int64).getD k 0
def kindV (T : px_T) (M : px_N) (k i : Nat) : Int32 := ([nI (tl T i), nI (tl T i + ts T i), nI (tl T i - vwl T i), nI (2 * (tl T i + ts T i)), nI (tl T i - vwl T i + i), nI (tl T i + nh M)] : List Int32).getD k 0
def rateR (T : px_T) (M : px_N) (a b : Int32) : Int32 := if hasI a 6 && hasI b (tW T) then kindV T M a.toNatClampNeg b.toNatClampNeg else -1000000
def rateT (T : px_T) (tr : Int64) (a b : Int32) : Int64 := if hasI a 6 && hasI b (tW T) then tr + kindT a.toNatClampNeg else tr
/-- the cells 1 .. 8 are the Reader; n letters tx -/
def RdA (w : px_W) (n : Nat) (tx : Nat → Nat) : Prop := ∃ (fs : Nat → Int32) (pl so sta nu : Int32) (Td : px_T), w[1]? = some (.inr (2, [.ref 2, .int (nI n), .ref 3, .int pl, .int so, .int sta, .int nu])) ∧ w[2]? = some (.inl (0, 150, .inl fs)) ∧ SubA w 3 Td ∧ n ≤ 150 ∧ ∀ j, j < n → fs j = nI (tx j) ∧ tx j < 256
theorem RdA.fr {w w' : px_W} {a b n : Nat} {tx : Nat → Nat} (h : RdA w n tx) (hF : Frm w w' a b) (hk : 9 ≤ a ∨ b ≤ 1) : RdA w' n tx := by
  obtain ⟨fs, pl, so, sta, nu, Td, h1, h2, h3, h4⟩ := h
  exact ⟨fs, pl, so, sta, nu, Td, hF.at h1 (by omega), hF.at h2 (by omega), h3.fr hF (by omega), h4⟩
def txP (tx : Nat → Nat) (n v : Nat) : Nat → Nat := fun j => if j = n then v else tx j
def typeO (n : Nat) (a : Int32) : Bool := hasI a 256 && decide (n < 150)
def typeR (n : Nat) (a : Int32) : Int32 := if hasI a 256 then (if n < 150 then nI (n + 1) else -3) else -1
def typeN (n : Nat) (a : Int32) : Nat := if typeO n a then n + 1 else n
def typeX (n : Nat) (tx : Nat → Nat) (a : Int32) : Nat → Nat := if typeO n a then txP tx n a.toNatClampNeg else tx
def countR (T : px_T) (M : px_N) (u n : Nat) (a : Int32) : Int32 := pick a [nI (tW T), nI (tD T), nI (tG T), nI (nh M), nI u, nI n]
theorem two_pow_2 {i : Nat} (h : i < 2) : 2 ^ i < 4 := Nat.pow_lt_pow_right (n := 2) (by decide) h
