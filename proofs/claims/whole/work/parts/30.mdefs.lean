/-! the reference's cells: its object at 60, its rows at 61 .. 75 -/
abbrev mobj (tr : Int64) (ty nx tk pl va fa um : Int32) : px_C := .inr (6, [.int (nI 0), .long tr, .ref 61, .int ty, .int nx, .int tk, .int pl, .int va, .int fa, .ref 62, .ref 63, .ref 64, .ref 65, .ref 66, .ref 67, .ref 68, .ref 69, .ref 70, .ref 71, .ref 72, .ref 73, .ref 74, .int um, .ref 75])
def MtF (T : px_T) (fm fz fl fs fd g0 g1 g2 g3 : Nat → Int32) : Prop := (fm 0 = nI (tW T) ∧ fm 1 = nI (tD T) ∧ fm 2 = nI (tG T)) ∧ (∀ i, i < tW T → fz i = nI (tl T i) ∧ fs i = nI (ts T i)) ∧ (∀ i x, i < tW T → x < tl T i → fl (6 * i + x) = nI (tc T i x)) ∧ (∀ d, d < tD T → fd d = nI (td T d)) ∧ (∀ j, j < tG T → g0 j = nI (tg T j 0) ∧ g1 j = nI (tg T j 1) ∧ g2 j = nI (tg T j 2) ∧ g3 j = nI (tg T j 3)) ∧ SubB T
def MtA (w : px_W) (T : px_T) : Prop := ∃ fm fz fl fs fd g0 g1 g2 g3 : Nat → Int32,
  (w[62]? = some (.inl (0, 6, .inl fm)) ∧ w[63]? = some (.inl (0, 12, .inl fz)) ∧ w[64]? = some (.inl (0, 72, .inl fl)) ∧ w[65]? = some (.inl (0, 12, .inl fs)) ∧ w[66]? = some (.inl (0, 8, .inl fd)) ∧ w[67]? = some (.inl (0, 12, .inl g0)) ∧ w[68]? = some (.inl (0, 12, .inl g1)) ∧ w[69]? = some (.inl (0, 12, .inl g2)) ∧ w[70]? = some (.inl (0, 12, .inl g3))) ∧ MtF T fm fz fl fs fd g0 g1 g2 g3
theorem MtA.b {w : px_W} {T : px_T} (h : MtA w T) : SubB T := by
  obtain ⟨_, _, _, _, _, _, _, _, _, _, _, _, _, _, _, h⟩ := h; exact h
theorem MtA.fr {w w' : px_W} {a b : Nat} {T : px_T} (h : MtA w T) (hF : Frm w w' a b) (hk : 71 ≤ a ∨ b ≤ 62) : MtA w' T := by
  obtain ⟨fm, fz, fl, fs, fd, g0, g1, g2, g3, ⟨c1, c2, c3, c4, c5, c6, c7, c8, c9⟩, r⟩ := h
  exact ⟨fm, fz, fl, fs, fd, g0, g1, g2, g3, ⟨hF.at c1 (by omega), hF.at c2 (by omega), hF.at c3 (by omega), hF.at c4 (by omega), hF.at c5 (by omega), hF.at c6 (by omega), hF.at c7 (by omega), hF.at c8 (by omega), hF.at c9 (by omega)⟩, r⟩
/-- what is now, in one row of 37 -/
def sv (M : px_N) (k : Nat) : Nat := if k < 32 then nc M (k / 8) (k % 8) else if k < 36 then nt M (k - 32) else nh M
theorem sv_c (M : px_N) {d x : Nat} (hd : d < 4) (hx : x < 8) : sv M (8 * d + x) = nc M d x := by
  unfold sv
  rw [if_pos (by omega), show (8 * d + x) / 8 = d by omega, show (8 * d + x) % 8 = x by omega]
theorem sv_t (M : px_N) {d : Nat} (hd : d < 4) : sv M (32 + d) = nt M d := by
  unfold sv
  rw [if_neg (by omega), if_pos (by omega), show 32 + d - 32 = d by omega]
theorem sv_h (M : px_N) : sv M 36 = nh M := rfl
theorem sv_x (M : px_N) {k : Nat} (hk : k < 32) : sv M k = cx M k := by
  unfold sv cx
  rw [if_pos hk]
def MnA (w : px_W) (M : px_N) : Prop := ∃ f : Nat → Int32, w[71]? = some (.inl (0, 37, .inl f)) ∧ (∀ k, k < 37 → f k = nI (sv M k)) ∧ NOK M
theorem MnA.b {w : px_W} {M : px_N} (h : MnA w M) : NOK M := by
  obtain ⟨_, _, _, h⟩ := h; exact h
theorem MnA.fr {w w' : px_W} {a b : Nat} {M : px_N} (h : MnA w M) (hF : Frm w w' a b) (hk : 72 ≤ a ∨ b ≤ 71) : MnA w' M := by
  obtain ⟨f, h1, h2⟩ := h
  exact ⟨f, hF.at h1 (by omega), h2⟩
def inI (a lo hi : Int32) : Bool := decide (lo ≤ a) && decide (a ≤ hi)
theorem inI_c {a : Int32} {n : Nat} (hn : n + 1 < 2 ^ 31) : inI a (nI 0) (nI n) = hasI a (n + 1) := by
  unfold inI hasI
  rw [← Bool.decide_and]
  apply decide_eq_decide.mpr
  rw [Int32.le_iff_toInt_le, Int32.le_iff_toInt_le, nI_toInt (show 0 < 2 ^ 31 by omega), nI_toInt (show n < 2 ^ 31 by omega)]
  constructor
  · rintro ⟨h1, h2⟩; exact ⟨by omega, by omega⟩
  · rintro ⟨h1, h2⟩; exact ⟨by omega, by omega⟩
theorem inI_s {a : Int32} {n : Nat} (hn : n < 2 ^ 30) : inI a (nI 0) (nI n - nI 1) = hasI a n := by
  unfold inI hasI
  rw [← Bool.decide_and]
  apply decide_eq_decide.mpr
  rw [Int32.le_iff_toInt_le, Int32.le_iff_toInt_le, pk_sub_toInt hn (by decide), nI_toInt (show 0 < 2 ^ 31 by omega)]
  constructor
  · rintro ⟨h1, h2⟩; exact ⟨by omega, by omega⟩
  · rintro ⟨h1, h2⟩; exact ⟨by omega, by omega⟩
theorem inI_str {a : Int32} : inI a (nI 1) (nI 4) = strI a := by
  unfold inI strI
  rw [← Bool.decide_and]
  apply decide_eq_decide.mpr
  rw [Int32.le_iff_toInt_le, Int32.le_iff_toInt_le, nI_toInt (show 1 < 2 ^ 31 by omega), nI_toInt (show 4 < 2 ^ 31 by omega)]
  exact Iff.rfl
theorem inI_lt {a lo hi : Int32} (h : a < lo) : inI a lo hi = false := by
  unfold inI; rw [decide_eq_false (Int32.not_le.mpr h)]; rfl
theorem inI_gt {a lo hi : Int32} (h : hi < a) : inI a lo hi = false := by
  unfold inI; rw [decide_eq_false (p := a ≤ hi) (Int32.not_le.mpr h), Bool.and_false]
theorem inI_in {a lo hi : Int32} (h1 : ¬ a < lo) (h2 : ¬ hi < a) : inI a lo hi = true := by
  unfold inI; rw [decide_eq_true (Int32.not_lt.mp h1), decide_eq_true (Int32.not_lt.mp h2)]; rfl
theorem inI_n {a lo hi : Nat} (h1 : a < 2 ^ 31) (h2 : lo < 2 ^ 31) (h3 : hi < 2 ^ 31) : inI (nI a) (nI lo) (nI hi) = (decide (lo ≤ a) && decide (a ≤ hi)) := by
  unfold inI
  congr 1
  · exact decide_eq_decide.mpr (nI_leI h2 h1)
  · exact decide_eq_decide.mpr (nI_leI h1 h3)
