/-! the reference's state -/
def TxA (w : px_W) (n : Nat) (tx : Nat → Nat) : Prop := ∃ fs : Nat → Int32, w[61]? = some (.inl (0, 150, .inl fs)) ∧ n ≤ 150 ∧ ∀ j, j < n → fs j = nI (tx j) ∧ tx j < 256
theorem TxA.fr {w w' : px_W} {a b n : Nat} {tx : Nat → Nat} (h : TxA w n tx) (hF : Frm w w' a b) (hk : 62 ≤ a ∨ b ≤ 61) : TxA w' n tx := by
  obtain ⟨fs, h1, h2⟩ := h; exact ⟨fs, hF.at h1 (by omega), h2⟩
def MnF (f : Nat → Int32) (M : px_N) : Prop := ∀ k, k < 37 → f k = nI (sv M k)
def snp (f : Nat → Int32) (m : Nat) (M : px_N) (k : Nat) : Nat → Int32 := fun j => if 37 * m ≤ j ∧ j < 37 * m + k then nI (sv M (j - 37 * m)) else f j
theorem snp_0 (f : Nat → Int32) (m : Nat) (M : px_N) : snp f m M 0 = f := by
  funext j; unfold snp; rw [if_neg (by omega)]
theorem snp_s (f : Nat → Int32) (m : Nat) (M : px_N) (k : Nat) : upd (snp f m M k) (37 * m + k) (nI (sv M k)) = snp f m M (k + 1) := by
  funext j
  by_cases e : j = 37 * m + k
  · subst e
    unfold snp upd
    rw [if_pos rfl, if_pos (by omega), show 37 * m + k - 37 * m = k by omega]
  · unfold snp upd
    rw [if_neg e]
    dsimp only
    by_cases h : 37 * m ≤ j ∧ j < 37 * m + k
    · rw [if_pos h, if_pos (by omega)]
    · rw [if_neg h, if_neg (by omega)]
theorem snp_in {f : Nat → Int32} {m : Nat} {M : px_N} {k : Nat} (hk : k < 37) : snp f m M 37 (37 * m + k) = nI (sv M k) := by
  unfold snp; rw [if_pos (by omega), show 37 * m + k - 37 * m = k by omega]
theorem snp_out {f : Nat → Int32} {m i : Nat} {M : px_N} {k : Nat} (hk : k < 37) (h : i ≠ m) : snp f m M 37 (37 * i + k) = f (37 * i + k) := by
  unfold snp; rw [if_neg (by omega)]
/-- what is taken back out of a row of many -/
def rst (f fu : Nat → Int32) (m k : Nat) : Nat → Int32 := fun j => if j < k then fu (37 * m + j) else f j
theorem rst_0 (f fu : Nat → Int32) (m : Nat) : rst f fu m 0 = f := by funext j; unfold rst; rw [if_neg (by omega)]
theorem rst_s (f fu : Nat → Int32) (m k : Nat) : upd (rst f fu m k) k (fu (37 * m + k)) = rst f fu m (k + 1) := by
  funext j
  by_cases e : j = k
  · subst e; unfold rst upd; rw [if_pos rfl, if_pos (by omega)]
  · unfold rst upd; rw [if_neg e]; dsimp only
    by_cases h : j < k
    · rw [if_pos h, if_pos (by omega)]
    · rw [if_neg h, if_neg (by omega)]
/-- all one row on -/
def shf (f : Nat → Int32) (k : Nat) : Nat → Int32 := fun j => if j < k then f (j + 37) else f j
theorem shf_0 (f : Nat → Int32) : shf f 0 = f := by funext j; unfold shf; rw [if_neg (by omega)]
theorem shf_s (f : Nat → Int32) (k : Nat) : upd (shf f k) k (f (k + 37)) = shf f (k + 1) := by
  funext j
  by_cases e : j = k
  · subst e; unfold shf upd; rw [if_pos rfl, if_pos (by omega)]
  · unfold shf upd; rw [if_neg e]; dsimp only
    by_cases h : j < k
    · rw [if_pos h, if_pos (by omega)]
    · rw [if_neg h, if_neg (by omega)]
theorem shf_x {f : Nat → Int32} {k : Nat} : shf f k (k + 37) = f (k + 37) := by unfold shf; rw [if_neg (by omega)]
def KpA (w : px_W) (I : Nat → Option px_N) : Prop := ∃ fk bk : Nat → Int32, w[72]? = some (.inl (0, 74, .inl fk)) ∧ w[73]? = some (.inl (1, 2, .inl bk)) ∧ ∀ i, i < 2 → bk i = bI (I i).isSome ∧ ∀ N, I i = some N → NOK N ∧ ∀ k, k < 37 → fk (37 * i + k) = nI (sv N k)
theorem KpA.fr {w w' : px_W} {a b : Nat} {I : Nat → Option px_N} (h : KpA w I) (hF : Frm w w' a b) (hk : 74 ≤ a ∨ b ≤ 72) : KpA w' I := by
  obtain ⟨fk, bk, h1, h2, h3⟩ := h; exact ⟨fk, bk, hF.at h1 (by omega), hF.at h2 (by omega), h3⟩
def UdF (fu : Nat → Int32) (U : List px_N) : Prop := U.length ≤ 10 ∧ ∀ i N, U[i]? = some N → NOK N ∧ ∀ k, k < 37 → fu (37 * (U.length - 1 - i) + k) = nI (sv N k)
def UdA (w : px_W) (U : List px_N) : Prop := ∃ fu : Nat → Int32, w[74]? = some (.inl (0, 370, .inl fu)) ∧ UdF fu U
theorem UdA.fr {w w' : px_W} {a b : Nat} {U : List px_N} (h : UdA w U) (hF : Frm w w' a b) (hk : 75 ≤ a ∨ b ≤ 74) : UdA w' U := by
  obtain ⟨fu, h1, h2⟩ := h; exact ⟨fu, hF.at h1 (by omega), h2⟩
theorem byA.fr {w w' : px_W} {a b : Nat} (h : byA w) (hF : Frm w w' a b) (hk : 76 ≤ a ∨ b ≤ 75) : byA w' := by
  obtain ⟨fu, h1⟩ := h; exact ⟨fu, hF.at h1 (by omega)⟩
theorem UdF.nil (fu : Nat → Int32) : UdF fu [] := ⟨by simp, fun i N h => by simp at h⟩
theorem UdF.add {fu : Nat → Int32} {U : List px_N} {M : px_N} (h : UdF fu U) (hM : NOK M) (hl : U.length ≠ 10) : UdF (snp fu U.length M 37) (note M U) ∧ (note M U).length = U.length + 1 := by
  have h10 := h.1
  have e : note M U = M :: U := by unfold note; rw [List.take_of_length_le (by simp; omega)]
  rw [e]
  refine ⟨⟨by simp; omega, fun i N hN => ?_⟩, by simp⟩
  cases i with
  | zero =>
    simp at hN; subst hN
    refine ⟨hM, fun k hk => ?_⟩
    rw [show (M :: U).length - 1 - 0 = U.length by simp]
    exact snp_in hk
  | succ i =>
    have hN' : U[i]? = some N := by simpa using hN
    have hi := (List.getElem?_eq_some_iff.mp hN').1
    obtain ⟨a1, a2⟩ := h.2 i N hN'
    refine ⟨a1, fun k hk => ?_⟩
    rw [show (M :: U).length - 1 - (i + 1) = U.length - 1 - i by simp; omega, snp_out hk (by omega)]
    exact a2 k hk
theorem UdF.add10 {fu : Nat → Int32} {U : List px_N} {M : px_N} (h : UdF fu U) (hM : NOK M) (hl : U.length = 10) : UdF (snp (shf fu 333) 9 M 37) (note M U) ∧ (note M U).length = 10 := by
  have e : note M U = M :: U.take 9 := rfl
  have l9 : (U.take 9).length = 9 := by rw [List.length_take]; omega
  rw [e]
  refine ⟨⟨by simp; omega, fun i N hN => ?_⟩, by simp; omega⟩
  cases i with
  | zero =>
    simp at hN; subst hN
    refine ⟨hM, fun k hk => ?_⟩
    rw [show (M :: U.take 9).length - 1 - 0 = 9 by simp; omega]
    exact snp_in hk
  | succ i =>
    have hN' : (U.take 9)[i]? = some N := by simpa using hN
    have hi := (List.getElem?_eq_some_iff.mp hN').1
    have hN2 : U[i]? = some N := by rw [List.getElem?_take, if_pos (by omega)] at hN'; exact hN'
    obtain ⟨a1, a2⟩ := h.2 i N hN2
    refine ⟨a1, fun k hk => ?_⟩
    rw [show (M :: U.take 9).length - 1 - (i + 1) = 8 - i by simp; omega, snp_out hk (by omega)]
    have := a2 k hk
    rw [show U.length - 1 - i = 9 - i by omega] at this
    unfold shf
    rw [if_pos (by omega), ← this]
    congr 1
    omega
theorem UdF.tl {fu : Nat → Int32} {U : List px_N} {N : px_N} (h : UdF fu (N :: U)) : UdF fu U ∧ NOK N ∧ ∀ k, k < 37 → fu (37 * U.length + k) = nI (sv N k) := by
  have h0 := h.2 0 N rfl
  refine ⟨⟨by have := h.1; simp at this; omega, fun i N' hN => ?_⟩, h0.1, fun k hk => ?_⟩
  · have := h.2 (i + 1) N' (by simpa using hN)
    refine ⟨this.1, fun k hk => ?_⟩
    have h2 := this.2 k hk
    rw [show (N :: U).length - 1 - (i + 1) = U.length - 1 - i by simp; omega] at h2
    exact h2
  · have h2 := h0.2 k hk
    rw [show (N :: U).length - 1 - 0 = U.length by simp] at h2
    exact h2
/-! Mornings changed, in one row -/
theorem MnF.lay {f : Nat → Int32} {M : px_N} (h : MnF f M) {d x v : Nat} (hd : d < 4) (hx : x < 8) : MnF (upd f (8 * d + x) (nI v)) (nLay M d x v) := by
  intro k hk
  by_cases e : k = 8 * d + x
  · subst e
    rw [sv_c _ hd hx]
    simp [upd, nLay, nc]
  · simp only [upd, e, if_false]
    rw [h k hk]
    unfold sv
    by_cases h32 : k < 32
    · rw [if_pos h32, if_pos h32]
      have : ¬ (k / 8 = d ∧ k % 8 = x) := by omega
      simp [nLay, nc, this]
    · rw [if_neg h32, if_neg h32]; rfl
theorem MnF.setT {f : Nat → Int32} {M : px_N} (h : MnF f M) {d v : Nat} (hd : d < 4) : MnF (upd f (32 + d) (nI v)) (nSet M d v) := by
  intro k hk
  by_cases e : k = 32 + d
  · subst e
    rw [sv_t _ hd]
    simp [upd, nSet, nt]
  · simp only [upd, e, if_false]
    rw [h k hk]
    unfold sv
    by_cases h32 : k < 32
    · rw [if_pos h32, if_pos h32]; rfl
    · rw [if_neg h32, if_neg h32]
      by_cases h36 : k < 36
      · rw [if_pos h36, if_pos h36]
        have : ¬ k - 32 = d := by omega
        simp [nSet, nt, this]
      · rw [if_neg h36, if_neg h36]; rfl
theorem MnF.setH {f : Nat → Int32} {M : px_N} (h : MnF f M) {v : Nat} : MnF (upd f 36 (nI v)) (nHour M v) := by
  intro k hk
  by_cases e : k = 36
  · subst e
    rw [sv_h]
    simp [upd, nHour, nh]
  · simp only [upd, e, if_false]
    rw [h k hk]
    unfold sv
    by_cases h32 : k < 32
    · rw [if_pos h32, if_pos h32]; rfl
    · rw [if_neg h32, if_neg h32, if_pos (by omega), if_pos (by omega)]; rfl
theorem NOK.lay {M : px_N} (h : NOK M) {d x v : Nat} (hv : v ≤ 8) : NOK (nLay M d x v) := by
  refine ⟨fun a b ha hb => ?_, h.2.1, h.2.2⟩
  by_cases e : a = d ∧ b = x
  · simp [nLay, nc, e, hv]
  · have := h.1 a b ha hb
    simp only [nLay, nc, e, if_false]
    exact this
theorem NOK.setT {M : px_N} (h : NOK M) {d v : Nat} (hv : v < 256) : NOK (nSet M d v) := by
  refine ⟨h.1, fun a ha => ?_, h.2.2⟩
  by_cases e : a = d
  · simp [nSet, nt, e, hv]
  · simp only [nSet, nt, e, if_false]
    exact h.2.1 a ha
theorem NOK.setH {M : px_N} (h : NOK M) {v : Nat} (hv : v ≤ 24) : NOK (nHour M v) := ⟨h.1, h.2.1, hv⟩
theorem MnA.of {w : px_W} {f : Nat → Int32} {M : px_N} (h : w[71]? = some (.inl (0, 37, .inl f))) (h2 : MnF f M) (h3 : NOK M) : MnA w M := ⟨f, h, h2, h3⟩
/-- all that the reference holds -/
def MSx (w : px_W) (T : px_T) (M : px_N) (U : List px_N) (I : Nat → Option px_N) (n : Nat) (tx : Nat → Nat) (tr : Int64) : Prop := ∃ nx tk pl va fa : Int32, w[60]? = some (mobj tr (nI n) nx tk pl va fa (nI U.length)) ∧ MtA w T ∧ MnA w M ∧ TxA w n tx ∧ KpA w I ∧ UdA w U ∧ byA w

