/-! what was told (words, drives, goers) and what is now, as numbers; how cells hold them -/
abbrev px_T : Type := Nat × Nat × Nat × (Nat → Nat) × (Nat → Nat) × (Nat → Nat → Nat) × (Nat → Nat) × (Nat → Nat → Nat)
def tW (T : px_T) : Nat := T.1
def tD (T : px_T) : Nat := T.2.1
def tG (T : px_T) : Nat := T.2.2.1
/-- a word's length -/
def tl (T : px_T) : Nat → Nat := T.2.2.2.1
def ts (T : px_T) : Nat → Nat := T.2.2.2.2.1
/-- what a word has in a cell, 8 behind it -/
def tc (T : px_T) : Nat → Nat → Nat := T.2.2.2.2.2.1
def td (T : px_T) : Nat → Nat := T.2.2.2.2.2.2.1
/-- a goer's parts: hour, drive, first, stride -/
def tg (T : px_T) : Nat → Nat → Nat := T.2.2.2.2.2.2.2
def SubB (T : px_T) : Prop := (tW T ≤ 6 ∧ tD T ≤ 4 ∧ tG T ≤ 6) ∧ (∀ i, i < tW T → tl T i ≤ 6) ∧ (∀ i x, i < tW T → tl T i ≤ x → tc T i x = 8)
/-- the cells k .. k+5 are a Suburb that holds T -/
def SubA (w : px_W) (k : Nat) (T : px_T) : Prop := ∃ fl fw fs fd fg : Nat → Int32,
  w[k]? = some (.inr (4, [.int (nI (tW T)), .int (nI (tD T)), .int (nI (tG T)), .ref (k + 1), .ref (k + 2), .ref (k + 3), .ref (k + 4), .ref (k + 5)])) ∧
  w[k + 1]? = some (.inl (0, 36, .inl fl)) ∧ w[k + 2]? = some (.inl (0, 6, .inl fw)) ∧ w[k + 3]? = some (.inl (0, 6, .inl fs)) ∧ w[k + 4]? = some (.inl (0, 4, .inl fd)) ∧ w[k + 5]? = some (.inl (0, 24, .inl fg)) ∧
  (∀ i, i < tW T → fw i = nI (tl T i) ∧ fs i = nI (ts T i)) ∧ (∀ i x, i < tW T → x < tl T i → fl (i * 6 + x) = nI (tc T i x)) ∧ (∀ d, d < tD T → fd d = nI (td T d)) ∧ (∀ j p, j < tG T → p < 4 → fg (j * 4 + p) = nI (tg T j p)) ∧ SubB T
/-- all as a text without a fault tells it -/
def TOK (T : px_T) : Prop := (∀ i, i < tW T → 1 ≤ tl T i ∧ 1 ≤ ts T i ∧ ts T i ≤ 9) ∧ (∀ i x, i < tW T → x < tl T i → tc T i x < 8) ∧ (∀ d, d < tD T → 1 ≤ td T d ∧ td T d ≤ 8) ∧ (∀ j, j < tG T → 1 ≤ tg T j 0 ∧ tg T j 0 ≤ 24 ∧ tg T j 1 < tD T ∧ tg T j 2 ≤ 7 ∧ 1 ≤ tg T j 3 ∧ tg T j 3 ≤ 4)
abbrev px_N : Type := (Nat → Nat → Nat) × (Nat → Nat) × Nat
def nc (M : px_N) : Nat → Nat → Nat := M.1
def nt (M : px_N) : Nat → Nat := M.2.1
def nh (M : px_N) : Nat := M.2.2
def NOK (M : px_N) : Prop := (∀ d x, d < 4 → x < 8 → nc M d x ≤ 8) ∧ (∀ d, d < 4 → nt M d < 256) ∧ nh M ≤ 24
/-- the cells k, k+1, k+2 are a Morning that holds M -/
def MorA (w : px_W) (k : Nat) (M : px_N) : Prop := ∃ fc ft : Nat → Int32,
  w[k]? = some (.inr (0, [.ref (k + 1), .ref (k + 2), .int (nI (nh M))])) ∧ w[k + 1]? = some (.inl (0, 32, .inl fc)) ∧ w[k + 2]? = some (.inl (0, 4, .inl ft)) ∧
  (∀ d x, d < 4 → x < 8 → fc (d * 8 + x) = nI (nc M d x)) ∧ (∀ d, d < 4 → ft d = nI (nt M d)) ∧ NOK M
theorem SubA.o {w : px_W} {k : Nat} {T : px_T} (h : SubA w k T) : w[k]? = some (.inr (4, [.int (nI (tW T)), .int (nI (tD T)), .int (nI (tG T)), .ref (k + 1), .ref (k + 2), .ref (k + 3), .ref (k + 4), .ref (k + 5)])) := by
  obtain ⟨_, _, _, _, _, h0, _⟩ := h; exact h0
theorem SubA.b {w : px_W} {k : Nat} {T : px_T} (h : SubA w k T) : SubB T := by
  obtain ⟨_, _, _, _, _, _, _, _, _, _, _, _, _, _, _, hb⟩ := h; exact hb
theorem MorA.o {w : px_W} {k : Nat} {M : px_N} (h : MorA w k M) : w[k]? = some (.inr (0, [.ref (k + 1), .ref (k + 2), .int (nI (nh M))])) := by
  obtain ⟨_, _, h0, _⟩ := h; exact h0
theorem MorA.b {w : px_W} {k : Nat} {M : px_N} (h : MorA w k M) : NOK M := by
  obtain ⟨_, _, _, _, _, _, _, hb⟩ := h; exact hb
/-! loops, as numbers -/
def bset (p : Nat → Bool) : Nat → Nat
  | 0 => 0
  | n + 1 => if p n then bset p n ||| 2 ^ n else bset p n
def nsum (f : Nat → Nat) : Nat → Nat
  | 0 => 0
  | n + 1 => nsum f n + f n
def allb (p : Nat → Bool) : Nat → Bool
  | 0 => true
  | n + 1 => allb p n && p n
theorem bset_t {p : Nat → Bool} {n : Nat} (h : p n = true) : bset p (n + 1) = bset p n ||| 2 ^ n := by simp [bset, h]
theorem bset_f {p : Nat → Bool} {n : Nat} (h : p n = false) : bset p (n + 1) = bset p n := by simp [bset, h]
theorem bset_lt (p : Nat → Bool) : ∀ n, bset p n < 2 ^ n
  | 0 => by simp [bset]
  | n + 1 => by
    have ih := bset_lt p n
    have h1 : bset p n < 2 ^ (n + 1) := by rw [Nat.pow_succ]; omega
    have h2 : 2 ^ n < 2 ^ (n + 1) := by rw [Nat.pow_succ]; have := Nat.two_pow_pos n; omega
    unfold bset
    split
    · exact Nat.or_lt_two_pow h1 h2
    · exact h1
theorem bset_b {p : Nat → Bool} {n m : Nat} (h : n ≤ m) : bset p n < 2 ^ m := Nat.lt_of_lt_of_le (bset_lt p n) (Nat.pow_le_pow_right (by decide) h)
theorem bset_bit (p : Nat → Bool) : ∀ n i, (bset p n).testBit i = (decide (i < n) && p i)
  | 0, i => by simp [bset]
  | n + 1, i => by
    have ih := bset_bit p n i
    unfold bset
    split
    · next h =>
      rw [Nat.testBit_or, ih, Nat.testBit_two_pow]
      by_cases e : n = i
      · subst e; simp [h]
      · by_cases l : i < n
        · have : i < n + 1 := by omega
          simp [e, l, this]
        · have : ¬ i < n + 1 := by omega
          simp [e, l, this]
    · next h =>
      rw [ih]
      by_cases e : i = n
      · subst e; simp at h; simp [h]
      · by_cases l : i < n
        · have : i < n + 1 := by omega
          simp [l, this]
        · have : ¬ i < n + 1 := by omega
          simp [l, this]
theorem allb_iff (p : Nat → Bool) : ∀ n, allb p n = true ↔ ∀ i, i < n → p i = true
  | 0 => by simp [allb]
  | n + 1 => by
    unfold allb
    rw [Bool.and_eq_true, allb_iff p n]
    constructor
    · rintro ⟨h1, h2⟩ i hi
      by_cases e : i = n
      · subst e; exact h2
      · exact h1 i (by omega)
    · intro h
      exact ⟨fun i hi => h i (by omega), h n (by omega)⟩
theorem nsum_le {f : Nat → Nat} {b : Nat} (h : ∀ i, f i ≤ b) : ∀ n, nsum f n ≤ n * b
  | 0 => by simp [nsum]
  | n + 1 => by
    have := nsum_le h n
    have := h n
    unfold nsum
    rw [Nat.succ_mul]; omega
/-- a tread: from x on by s as far as e -/
def trkL (s e : Nat) : Nat → Nat → Nat → Nat
  | 0, _, acc => acc
  | n + 1, x, acc => if x < e then trkL s e n (x + s) (acc ||| 2 ^ x) else acc
theorem trkL_out {s e n x acc : Nat} (h : e ≤ x) : trkL s e n x acc = acc := by
  cases n with
  | zero => rfl
  | succ n => simp [trkL, Nat.not_lt.mpr h]
theorem trkL_s {s e n x acc : Nat} (h : x < e) : trkL s e (n + 1) x acc = trkL s e n (x + s) (acc ||| 2 ^ x) := by simp [trkL, h]
theorem trkL_lt {s e : Nat} (he : e ≤ 8) : ∀ n x acc, acc < 256 → trkL s e n x acc < 256
  | 0, x, acc, h => h
  | n + 1, x, acc, h => by
    unfold trkL
    split
    · next hx =>
      refine trkL_lt he n _ _ ?_
      have h2 : 2 ^ x < 2 ^ 8 := Nat.pow_lt_pow_right (by decide) (by omega)
      exact Nat.or_lt_two_pow (n := 8) h h2
    · exact h
def trk (f s e : Nat) : Nat := trkL s e 8 f 0
theorem trk_lt {f s e : Nat} (he : e ≤ 8) : trk f s e < 256 := trkL_lt he _ _ _ (by decide)
/-- a without b, as bits -/
def ndif (a b : Nat) : Nat := a ^^^ (a &&& b)
theorem ndif_bit (a b i : Nat) : (ndif a b).testBit i = (a.testBit i && !(b.testBit i)) := by
  unfold ndif
  rw [Nat.testBit_xor, Nat.testBit_and]
  cases a.testBit i <;> cases b.testBit i <;> rfl
theorem ndif_le (a b : Nat) : ndif a b ≤ a := by
  have h : ndif a b = ndif a b &&& a := by
    apply Nat.eq_of_testBit_eq
    intro i
    rw [Nat.testBit_and, ndif_bit]
    cases a.testBit i <;> cases b.testBit i <;> rfl
  rw [h]
  exact Nat.and_le_right
theorem ndif_or (a b : Nat) : b ||| ndif a b = b ||| a := by
  apply Nat.eq_of_testBit_eq
  intro i
  rw [Nat.testBit_or, ndif_bit, Nat.testBit_or]
  cases a.testBit i <;> cases b.testBit i <;> rfl
theorem ndif_n {a b : Nat} (ha : a < 2 ^ 31) : nI a &&& (nI b ^^^ (-1)) = nI (ndif a b) := by
  apply Int32.toBitVec_inj.mp
  apply BitVec.eq_of_getLsbD_eq
  intro i hi
  have h1 : (nI a).toBitVec = BitVec.ofNat 32 a := rfl
  have h2 : (nI b).toBitVec = BitVec.ofNat 32 b := rfl
  have h3 : (nI (ndif a b)).toBitVec = BitVec.ofNat 32 (ndif a b) := rfl
  have h4 : ((-1 : Int32)).toBitVec = BitVec.allOnes 32 := by decide
  rw [Int32.toBitVec_and, Int32.toBitVec_xor, h1, h2, h3, h4]
  simp only [BitVec.getLsbD_and, BitVec.getLsbD_xor, BitVec.getLsbD_ofNat, BitVec.getLsbD_allOnes, hi, decide_true, Bool.true_and, ndif_bit]
  cases a.testBit i <;> cases b.testBit i <;> rfl
def popc (n : Nat) : Nat := nsum (fun k => n / 2 ^ k % 2) 8
theorem popc_le (n : Nat) : popc n ≤ 8 := nsum_le (b := 1) (fun i => by omega) 8
