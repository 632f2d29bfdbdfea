/-! what a call may change: places a .. b-1 -/
def Frm (w w' : px_W) (a b : Nat) : Prop := ∀ j : Nat, (j < a ∨ b ≤ j) → w'[j]? = w[j]?
theorem Frm.rf {w : px_W} {a b : Nat} : Frm w w a b := fun _ _ => rfl
theorem Frm.tr {w w1 w2 : px_W} {a b a1 b1 a2 b2 : Nat} (h1 : Frm w w1 a1 b1) (h2 : Frm w1 w2 a2 b2) (ha1 : a ≤ a1) (hb1 : b1 ≤ b) (ha2 : a ≤ a2) (hb2 : b2 ≤ b) : Frm w w2 a b := fun j hj => (h2 j (by omega)).trans (h1 j (by omega))
theorem Frm.mono {w w1 : px_W} {a b a1 b1 : Nat} (h1 : Frm w w1 a1 b1) (ha1 : a ≤ a1) (hb1 : b1 ≤ b) : Frm w w1 a b := fun j hj => h1 j (by omega)
theorem Frm.set {w : px_W} {a b k : Nat} {c : px_C} (h1 : a ≤ k) (h2 : k < b) : Frm w (w.set k c) a b := fun j hj => gs_off (by omega)
theorem Frm.sets {w w1 : px_W} {a b k : Nat} {c : px_C} (h : Frm w w1 a b) (h1 : a ≤ k) (h2 : k < b) : Frm w (w1.set k c) a b := fun j hj => (gs_off (by omega)).trans (h j hj)
theorem Frm.at {w w' : px_W} {a b k : Nat} {c : px_C} (hF : Frm w w' a b) (h : w[k]? = some c) (hk : k < a ∨ b ≤ k) : w'[k]? = some c := (hF k hk).trans h
theorem SubA.fr {w w' : px_W} {a b k : Nat} {T : px_T} (h : SubA w k T) (hF : Frm w w' a b) (hk : k + 6 ≤ a ∨ b ≤ k) : SubA w' k T := by
  obtain ⟨fl, fw, fs, fd, fg, s0, s1, s2, s3, s4, s5, r⟩ := h
  exact ⟨fl, fw, fs, fd, fg, hF.at s0 (by omega), hF.at s1 (by omega), hF.at s2 (by omega), hF.at s3 (by omega), hF.at s4 (by omega), hF.at s5 (by omega), r⟩
theorem MorA.fr {w w' : px_W} {a b k : Nat} {M : px_N} (h : MorA w k M) (hF : Frm w w' a b) (hk : k + 3 ≤ a ∨ b ≤ k) : MorA w' k M := by
  obtain ⟨fc, ft, m0, m1, m2, r⟩ := h
  exact ⟨fc, ft, hF.at m0 (by omega), hF.at m1 (by omega), hF.at m2 (by omega), r⟩
/-- the cells from k on are a Shelf of n Mornings -/
def ShA (w : px_W) (k n : Nat) (Ms : Nat → px_N) : Prop := w[k]? = some (.inr (3, [.ref (k + 1)])) ∧ (∃ gq : Nat → Option Nat, w[k + 1]? = some (.inl (2, n, .inr (.inr (.inr (.inr gq))))) ∧ ∀ i, i < n → gq i = some (k + 2 + 3 * i)) ∧ ∀ i, i < n → MorA w (k + 2 + 3 * i) (Ms i)
theorem ShA.fr {w w' : px_W} {a b k n : Nat} {Ms : Nat → px_N} (h : ShA w k n Ms) (hF : Frm w w' a b) (hk : k + 2 + 3 * n ≤ a ∨ b ≤ k) : ShA w' k n Ms := by
  obtain ⟨h0, ⟨gq, h1, h2⟩, h3⟩ := h
  exact ⟨hF.at h0 (by omega), ⟨gq, hF.at h1 (by omega), h2⟩, fun i hi => (h3 i hi).fr hF (by omega)⟩
theorem ShA.put {w w' : px_W} {k n : Nat} {Ms : Nat → px_N} (h : ShA w k n Ms) {i : Nat} (hi : i < n) {M : px_N} (hM : MorA w' (k + 2 + 3 * i) M) (hF : Frm w w' (k + 2 + 3 * i) (k + 2 + 3 * i + 3)) : ShA w' k n (fun j => if j = i then M else Ms j) := by
  obtain ⟨h0, ⟨gq, h1, h2⟩, h3⟩ := h
  refine ⟨hF.at h0 (by omega), ⟨gq, hF.at h1 (by omega), h2⟩, fun j hj => ?_⟩
  by_cases e : j = i
  · subst e; simp only [if_true]; exact hM
  · simp only [e, if_false]; exact (h3 j hj).fr hF (by omega)
/-- the ring of what was: U is what may be undone, the latest first -/
def PastA (w : px_W) (U : List px_N) : Prop := ∃ (f : Nat) (Ms : Nat → px_N), f < 10 ∧ U.length ≤ 10 ∧ w[18]? = some (.inr (1, [.ref 19, .int (nI f), .int (nI U.length)])) ∧ ShA w 19 10 Ms ∧ ∀ (i : Nat) (M : px_N), U[i]? = some M → Ms ((f + 9 - i) % 10) = M
theorem PastA.fr {w w' : px_W} {a b : Nat} {U : List px_N} (h : PastA w U) (hF : Frm w w' a b) (hk : 51 ≤ a ∨ b ≤ 18) : PastA w' U := by
  obtain ⟨f, Ms, h1, h2, h3, h4, h5⟩ := h
  exact ⟨f, Ms, h1, h2, hF.at h3 (by omega), h4.fr hF (by omega), h5⟩
theorem PastA.len {w : px_W} {U : List px_N} (h : PastA w U) : U.length ≤ 10 := by
  obtain ⟨f, Ms, h1, h2, _⟩ := h; exact h2
/-! Mornings changed -/
def nLay (M : px_N) (d x v : Nat) : px_N := (fun a b => if a = d ∧ b = x then v else nc M a b, nt M, nh M)
def nSet (M : px_N) (d v : Nat) : px_N := (nc M, fun a => if a = d then v else nt M a, nh M)
def nHour (M : px_N) (v : Nat) : px_N := (nc M, nt M, v)
def nBare : px_N := (fun _ _ => 8, fun _ => 0, 0)
theorem dx_inj {d x d' x' : Nat} (hx : x < 8) (hx' : x' < 8) (h : d * 8 + x = d' * 8 + x') : d = d' ∧ x = x' := by omega
theorem MorA.lay {w : px_W} {k : Nat} {M : px_N} (h : MorA w k M) {d x v : Nat} (hd : d < 4) (hx : x < 8) (hv : v ≤ 8) {fc : Nat → Int32} (hc : w[k + 1]? = some (.inl (0, 32, .inl fc))) : MorA (w.set (k + 1) (.inl (0, 32, .inl (upd fc (d * 8 + x) (nI v))))) k (nLay M d x v) := by
  obtain ⟨fc', ft, m0, m1, m2, mC, mT, mB1, mB2, mB3⟩ := h
  have : fc' = fc := by have := m1.symm.trans hc; simpa using this
  subst this
  refine ⟨_, ft, gs_ne m0 (by omega), gs_eq m1, gs_ne m2 (by omega), fun a b ha hb => ?_, mT, fun a b ha hb => ?_, mB2, mB3⟩
  · by_cases e : a = d ∧ b = x
    · obtain ⟨rfl, rfl⟩ := e; simp [upd, nLay, nc]
    · have : ¬ a * 8 + b = d * 8 + x := fun q => e (dx_inj hb hx q)
      simp only [upd, this, if_false]
      rw [mC a b ha hb]
      simp [nLay, nc, e]
  · by_cases e : a = d ∧ b = x
    · obtain ⟨rfl, rfl⟩ := e; simp [nLay, nc, hv]
    · have := mB1 a b ha hb
      simp only [nLay, nc, e, if_false]
      exact this
theorem MorA.setT {w : px_W} {k : Nat} {M : px_N} (h : MorA w k M) {d v : Nat} (hd : d < 4) (hv : v < 256) {ft : Nat → Int32} (hc : w[k + 2]? = some (.inl (0, 4, .inl ft))) : MorA (w.set (k + 2) (.inl (0, 4, .inl (upd ft d (nI v))))) k (nSet M d v) := by
  obtain ⟨fc, ft', m0, m1, m2, mC, mT, mB1, mB2, mB3⟩ := h
  have : ft' = ft := by have := m2.symm.trans hc; simpa using this
  subst this
  refine ⟨fc, _, gs_ne m0 (by omega), gs_ne m1 (by omega), gs_eq m2, mC, fun a ha => ?_, mB1, fun a ha => ?_, mB3⟩
  · by_cases e : a = d
    · subst e; simp [upd, nSet, nt]
    · simp only [upd, e, if_false]
      rw [mT a ha]
      simp [nSet, nt, e]
  · by_cases e : a = d
    · subst e; simp [nSet, nt, hv]
    · simp only [nSet, nt, e, if_false]
      exact mB2 a ha
theorem MorA.setH {w : px_W} {k : Nat} {M : px_N} (h : MorA w k M) {v : Nat} (hv : v ≤ 24) : MorA (w.set k (.inr (0, [.ref (k + 1), .ref (k + 2), .int (nI v)]))) k (nHour M v) := by
  obtain ⟨fc, ft, m0, m1, m2, mC, mT, mB1, mB2, mB3⟩ := h
  exact ⟨fc, ft, gs_eq m0, gs_ne m1 (by omega), gs_ne m2 (by omega), mC, mT, mB1, mB2, hv⟩
/-- one Morning becomes another -/
theorem MorA.cp {w : px_W} {k k2 : Nat} {M M2 : px_N} (h : MorA w k M) (h2 : MorA w k2 M2) (hk : k + 3 ≤ k2 ∨ k2 + 3 ≤ k) {fc ft gc gt : Nat → Int32} (c1 : w[k + 1]? = some (.inl (0, 32, .inl fc))) (c2 : w[k + 2]? = some (.inl (0, 4, .inl ft))) (d1 : w[k2 + 1]? = some (.inl (0, 32, .inl gc))) (d2 : w[k2 + 2]? = some (.inl (0, 4, .inl gt))) :
    MorA (((w.set (k + 1) (.inl (0, 32, .inl (cpf gc fc 32)))).set (k + 2) (.inl (0, 4, .inl (cpf gt ft 4)))).set k (.inr (0, [.ref (k + 1), .ref (k + 2), .int (nI (nh M2))]))) k M2 := by
  obtain ⟨fc', ft', m0, m1, m2, mC, mT, mB1, mB2, mB3⟩ := h
  obtain ⟨gc', gt', n0, n1, n2, nC, nT, nB1, nB2, nB3⟩ := h2
  have : gc' = gc := by have := n1.symm.trans d1; simpa using this
  subst this
  have : gt' = gt := by have := n2.symm.trans d2; simpa using this
  subst this
  refine ⟨cpf gc' fc 32, cpf gt' ft 4, gs_eq (gs_ne (gs_ne m0 (by omega)) (by omega)), gs_ne (gs_ne (gs_eq m1) (by omega)) (by omega), gs_ne (gs_eq (gs_ne m2 (by omega))) (by omega), fun a b ha hb => ?_, fun a ha => ?_, nB1, nB2, nB3⟩
  · have : a * 8 + b < 32 := by omega
    simp only [cpf, this, if_true]
    exact nC a b ha hb
  · simp only [cpf, ha, if_true]
    exact nT a ha
