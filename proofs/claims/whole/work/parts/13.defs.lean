/-! what was told (words, drives, goers) and what is now, as numbers; how cells hold them -/
abbrev px_T : Type := Nat × Nat × Nat × (Nat → Nat) × (Nat → Nat) × (Nat → Nat → Nat) × (Nat → Nat) × (Nat → Nat → Nat)
def tW (T : px_T) : Nat := T.1
def tD (T : px_T) : Nat := T.2.1
def tG (T : px_T) : Nat := T.2.2.1
/-- a word's length -/
def tl (T : px_T) : Nat → Nat := T.2.2.2.1
def ts (T : px_T) : Nat → Nat := T.2.2.2.2.1
/-- what a word has in a cell, 8 behind it -/
def tc (T : px_T) : Nat → Nat → Nat := T.2.2.2.2.2.1
def td (T : px_T) : Nat → Nat := T.2.2.2.2.2.2.1
/-- a goer's parts: hour, drive, first, stride -/
def tg (T : px_T) : Nat → Nat → Nat := T.2.2.2.2.2.2.2
def SubB (T : px_T) : Prop := (tW T ≤ 6 ∧ tD T ≤ 4 ∧ tG T ≤ 6) ∧ (∀ i, i < tW T → tl T i ≤ 6) ∧ (∀ i x, i < tW T → tl T i ≤ x → tc T i x = 8)
/-- the cells k .. k+5 are a Suburb that holds T -/
def SubA (w : px_W) (k : Nat) (T : px_T) : Prop := ∃ fl fw fs fd fg : Nat → Int32,
  w[k]? = some (.inr (4, [.int (nI (tW T)), .int (nI (tD T)), .int (nI (tG T)), .ref (k + 1), .ref (k + 2), .ref (k + 3), .ref (k + 4), .ref (k + 5)])) ∧
  w[k + 1]? = some (.inl (0, 36, .inl fl)) ∧ w[k + 2]? = some (.inl (0, 6, .inl fw)) ∧ w[k + 3]? = some (.inl (0, 6, .inl fs)) ∧ w[k + 4]? = some (.inl (0, 4, .inl fd)) ∧ w[k + 5]? = some (.inl (0, 24, .inl fg)) ∧
  (∀ i, i < tW T → fw i = nI (tl T i) ∧ fs i = nI (ts T i)) ∧ (∀ i x, i < tW T → x < tl T i → fl (i * 6 + x) = nI (tc T i x)) ∧ (∀ d, d < tD T → fd d = nI (td T d)) ∧ (∀ j p, j < tG T → p < 4 → fg (j * 4 + p) = nI (tg T j p)) ∧ SubB T
/-- all as a text without a fault tells it -/
def TOK (T : px_T) : Prop := (∀ i, i < tW T → 1 ≤ tl T i ∧ 1 ≤ ts T i ∧ ts T i ≤ 9) ∧ (∀ i x, i < tW T → x < tl T i → tc T i x < 8) ∧ (∀ d, d < tD T → 1 ≤ td T d ∧ td T d ≤ 8) ∧ (∀ j, j < tG T → 1 ≤ tg T j 0 ∧ tg T j 0 ≤ 24 ∧ tg T j 1 < tD T ∧ tg T j 2 ≤ 7 ∧ 1 ≤ tg T j 3 ∧ tg T j 3 ≤ 4)
abbrev px_N : Type := (Nat → Nat → Nat) × (Nat → Nat) × Nat
def nc (M : px_N) : Nat → Nat → Nat := M.1
def nt (M : px_N) : Nat → Nat := M.2.1
def nh (M : px_N) : Nat := M.2.2
def NOK (M : px_N) : Prop := (∀ d x, d < 4 → x < 8 → nc M d x ≤ 8) ∧ (∀ d, d < 4 → nt M d < 256) ∧ nh M ≤ 24
/-- the cells k, k+1, k+2 are a Morning that holds M -/
def MorA (w : px_W) (k : Nat) (M : px_N) : Prop := ∃ fc ft : Nat → Int32,
  w[k]? = some (.inr (0, [.ref (k + 1), .ref (k + 2), .int (nI (nh M))])) ∧ w[k + 1]? = some (.inl (0, 32, .inl fc)) ∧ w[k + 2]? = some (.inl (0, 4, .inl ft)) ∧
  (∀ d x, d < 4 → x < 8 → fc (d * 8 + x) = nI (nc M d x)) ∧ (∀ d, d < 4 → ft d = nI (nt M d)) ∧ NOK M
