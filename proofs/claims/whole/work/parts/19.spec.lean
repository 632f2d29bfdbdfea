/-! what is left, as numbers -/
def canS (T : px_T) (M : px_N) (d i : Nat) : Bool := decide (tl T i ≤ td T d) && allb (fun x => (nt M d).testBit x || (nc M d x == tc T i x)) (td T d)
def fitS (T : px_T) (M : px_N) (d : Nat) : Nat := bset (canS T M d) (tW T)
theorem fitS_lt {T : px_T} {M : px_N} {d : Nat} (h : tW T ≤ 6) : fitS T M d < 64 := bset_b (m := 6) h
def rdbl (T : px_T) (M : px_N) (d : Nat) : Nat := bset (fun x => !((nt M d).testBit x) && !(nc M d x == 8)) (td T d)
theorem rdbl_lt {T : px_T} {M : px_N} {d : Nat} (h : td T d ≤ 8) : rdbl T M d < 256 := bset_b (m := 8) h
def dif (T : px_T) (i j : Nat) : Nat := nsum (fun x => if tc T i x == tc T j x then 0 else 1) 6
theorem dif_le (T : px_T) (i j : Nat) : dif T i j ≤ 6 := nsum_le (b := 1) (fun x => by split <;> omega) 6
/-- a place or none, as an answer -/
def oN (o : Option Nat) : Int32 := match o with
  | some v => nI v
  | none => -9
/-- the first least of f among those below n that are p -/
def amin (p : Nat → Bool) (f : Nat → Nat) : Nat → Option Nat
  | 0 => none
  | n + 1 => match amin p f n with
    | none => if p n then some n else none
    | some v => if p n && decide (f n < f v) then some n else some v
def aval (f : Nat → Nat) (big : Nat) (o : Option Nat) : Nat := match o with
  | none => big
  | some v => f v
theorem amin_lt {p : Nat → Bool} {f : Nat → Nat} : ∀ {n v : Nat}, amin p f n = some v → v < n ∧ p v = true
  | 0, v, h => by simp [amin] at h
  | n + 1, v, h => by
    unfold amin at h
    split at h
    · split at h
      · next hp => cases h; exact ⟨by omega, hp⟩
      · cases h
    · next u hu =>
      have ih := amin_lt hu
      split at h
      · next hp =>
        cases h
        simp at hp
        exact ⟨by omega, hp.1⟩
      · cases h
        exact ⟨by omega, ih.2⟩
/-- one more: taken -/
theorem amin_t {p : Nat → Bool} {f : Nat → Nat} {n big : Nat} (hb : f n < big) (hp : p n = true) (h : f n < aval f big (amin p f n)) : amin p f (n + 1) = some n := by
  unfold amin
  cases ha : amin p f n with
  | none => simp [hp]
  | some v =>
    rw [ha] at h
    have h2 : f n < f v := h
    simp [hp, h2]
theorem amin_f {p : Nat → Bool} {f : Nat → Nat} {n big : Nat} (hb : f n < big) (h : p n = false ∨ ¬ f n < aval f big (amin p f n)) : amin p f (n + 1) = amin p f n := by
  show (match amin p f n with
    | none => if p n then some n else none
    | some v => if p n && decide (f n < f v) then some n else some v) = _
  cases ha : amin p f n with
  | none =>
    rcases h with h | h
    · simp [h]
    · rw [ha] at h; exact absurd hb h
  | some v =>
    rcases h with h | h
    · simp [h]
    · rw [ha] at h
      have h2 : ¬ f n < f v := h
      simp [h2]
theorem aval_le {f : Nat → Nat} {big : Nat} {o : Option Nat} (h : ∀ v, o = some v → f v ≤ big) : aval f big o ≤ big := by
  cases o with
  | none => exact Nat.le_refl _
  | some v => exact h v rfl
def nearS (T : px_T) (i : Nat) : Option Nat := amin (fun v => !(v == i)) (dif T i) (tW T)
def doubtS (T : px_T) (i : Nat) : Option Nat := (nearS T i).map (dif T i)
def nmax (f : Nat → Nat) : Nat → Nat
  | 0 => 0
  | n + 1 => if nmax f n < f n then f n else nmax f n
def hvy (T : px_T) (x fits : Nat) : Nat := nmax (fun c => wgt T (fits &&& bset (fun i => tc T i x == c) (tW T))) 9
theorem nmax_le {f : Nat → Nat} {b : Nat} (h : ∀ i, f i ≤ b) : ∀ n, nmax f n ≤ b
  | 0 => Nat.zero_le _
  | n + 1 => by
    unfold nmax
    split
    · exact h n
    · exact nmax_le h n
theorem hvy_le {T : px_T} (hO : TOK T) (hb : SubB T) (x fits : Nat) : hvy T x fits ≤ 54 := nmax_le (fun c => wgt_le hO hb _) 9
def lookS (T : px_T) (M : px_N) (d : Nat) : Option Nat := if popc (fitS T M d) < 2 then none else amin (fun x => (nt M d).testBit x) (fun x => hvy T x (fitS T M d)) (td T d)
/-- tracks, all twos in a row -/
def isT (T : px_T) (M : px_N) (d k : Nat) : Bool := trk (k / 4) (k % 4 + 1) (td T d) == nt M d
def cnt (p : Nat → Bool) (n : Nat) : Nat := nsum (fun k => if p k then 1 else 0) n
theorem cnt_le (p : Nat → Bool) (n : Nat) : cnt p n ≤ n * 1 := nsum_le (fun i => by split <;> omega) n
theorem cnt_t {p : Nat → Bool} {n : Nat} (h : p n = true) : cnt p n + 1 = cnt p (n + 1) := by simp [cnt, nsum, h]
theorem cnt_f {p : Nat → Bool} {n : Nat} (h : p n = false) : cnt p n = cnt p (n + 1) := by simp [cnt, nsum, h]
def ffst (p : Nat → Bool) : Nat → Option Nat
  | 0 => none
  | n + 1 => match ffst p n with
    | some k => some k
    | none => if p n then some n else none
theorem ffst_n {p : Nat → Bool} {n : Nat} (h0 : ffst p n = none) (h : p n = false) : ffst p (n + 1) = none := by simp [ffst, h0, h]
theorem ffst_s {p : Nat → Bool} {n : Nat} (h0 : ffst p n = none) (h : p n = true) : ffst p (n + 1) = some n := by simp [ffst, h0, h]
theorem ffst_k {p : Nat → Bool} {n k : Nat} (h0 : ffst p n = some k) : ∀ m, ffst p (n + m) = some k
  | 0 => h0
  | m + 1 => by
    show (match ffst p (n + m) with
      | some k => some k
      | none => if p (n + m) then some (n + m) else none) = _
    rw [ffst_k h0 m]
def trackF (T : px_T) (M : px_N) (d : Nat) : Option Nat := (ffst (isT T M d) 32).map (fun k => 10 * (k / 4) + (k % 4 + 1))
def trkG (T : px_T) (j : Nat) : Nat := trk (tg T j 2) (tg T j 3) (td T (tg T j 1))
/-- a goer that can still spoil a drive -/
def canSp (T : px_T) (M : px_N) (j d : Nat) : Bool := tg T j 1 == d && decide (nh M < tg T j 0) && !(rdbl T M d &&& trkG T j == 0)
def inT (T : px_T) (M : px_N) (d e : Nat) : Bool := allb (fun j => !(tg T j 1 == d && decide (nh M ≤ tg T j 0) && decide (tg T j 0 ≤ e))) (tG T) && !(rdbl T M d == 0)
