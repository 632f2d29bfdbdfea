/-! the text, as it is read -/
def cls (v : Nat) : Nat := if 97 ≤ v ∧ v ≤ 122 then 2 else if 48 ≤ v ∧ v ≤ 57 then 3 else if v = 32 then 1 else if v = 59 then 4 else 5
def srt (tx : Nat → Nat) (n i : Nat) : Nat := if i < n then cls (tx i) else 0
theorem cls_b (v : Nat) : 1 ≤ cls v ∧ cls v ≤ 5 := by unfold cls; split; omega; split; omega; split; omega; split <;> omega
theorem srt_b (tx : Nat → Nat) (n i : Nat) : srt tx n i ≤ 5 := by unfold srt; split; exact (cls_b _).2; omega
theorem srt_0 {tx : Nat → Nat} {n i : Nat} : srt tx n i = 0 ↔ n ≤ i := by
  unfold srt
  split
  · have := (cls_b (tx i)).1; omega
  · omega
def runE (tx : Nat → Nat) (n c : Nat) : Nat → Nat → Nat
  | 0, p => p
  | k + 1, p => if srt tx n p = c then runE tx n c k (p + 1) else p
/-- behind the run of a sort -/
def runP (tx : Nat → Nat) (n c p : Nat) : Nat := runE tx n c (n - p) p
theorem run_t {tx : Nat → Nat} {n c p : Nat} (h : srt tx n p = c) (hc : c ≠ 0) : runP tx n c p = runP tx n c (p + 1) := by
  have hp : p < n := by
    by_cases q : p < n
    · exact q
    · exact absurd (h ▸ srt_0.mpr (by omega)) hc
  unfold runP
  rw [show n - p = (n - (p + 1)) + 1 by omega, runE, if_pos h]
theorem run_f {tx : Nat → Nat} {n c p : Nat} (h : srt tx n p ≠ c) : runP tx n c p = p := by
  unfold runP
  cases n - p with
  | zero => rfl
  | succ k => rw [runE, if_neg h]
theorem runE_ge (tx : Nat → Nat) (n c : Nat) : ∀ k p, p ≤ runE tx n c k p ∧ runE tx n c k p ≤ p + k
  | 0, p => ⟨Nat.le_refl _, Nat.le_refl _⟩
  | k + 1, p => by
    have := runE_ge tx n c k (p + 1)
    unfold runE
    split <;> omega
theorem run_ge (tx : Nat → Nat) (n c p : Nat) : p ≤ runP tx n c p := (runE_ge tx n c _ p).1
theorem run_le {tx : Nat → Nat} {n c p : Nat} (h : p ≤ n) : runP tx n c p ≤ n := by have := (runE_ge tx n c (n - p) p).2; unfold runP; omega
/-- figures read so far -/
def numM (tx : Nat → Nat) (s : Nat) : Nat → Nat
  | 0 => 0
  | k + 1 => if 99 < numM tx s k then numM tx s k else 10 * numM tx s k + (tx (s + k) - 48)
def cap (v : Nat) : Nat := if v < 100 then v else 100
def tS (tx : Nat → Nat) (n p : Nat) : Nat := runP tx n 1 p
def tC (tx : Nat → Nat) (n p : Nat) : Nat := srt tx n (tS tx n p)
def tE (tx : Nat → Nat) (n p : Nat) : Nat := if tC tx n p = 2 ∨ tC tx n p = 3 then runP tx n (tC tx n p) (tS tx n p) else if tC tx n p = 0 then tS tx n p else tS tx n p + 1
def tB (tx : Nat → Nat) (n p : Nat) : Bool := tx (tS tx n p) == 48 && decide (1 < tE tx n p - tS tx n p)
def tV (tx : Nat → Nat) (n p : Nat) : Nat := if tC tx n p = 3 then (if tB tx n p then 100 else cap (numM tx (tS tx n p) (tE tx n p - tS tx n p))) else 0
theorem cap_le (v : Nat) : cap v ≤ 100 := by unfold cap; split <;> omega
theorem tV_le (tx : Nat → Nat) (n p : Nat) : tV tx n p ≤ 100 := by
  unfold tV; split
  · split
    · omega
    · exact cap_le _
  · omega
theorem tC_b (tx : Nat → Nat) (n p : Nat) : tC tx n p ≤ 5 := srt_b _ _ _
theorem tS_ge (tx : Nat → Nat) (n p : Nat) : p ≤ tS tx n p := run_ge _ _ _ _
theorem tS_le {tx : Nat → Nat} {n p : Nat} (h : p ≤ n) : tS tx n p ≤ n := run_le h
theorem tC_0 {tx : Nat → Nat} {n p : Nat} : tC tx n p = 0 ↔ n ≤ tS tx n p := srt_0
theorem runE_1 (tx : Nat → Nat) (n : Nat) : ∀ k p, n ≤ p + k → srt tx n (runE tx n 1 k p) ≠ 1
  | 0, p, h => by rw [runE, srt_0.mpr (show n ≤ p from h)]; decide
  | k + 1, p, h => by
    unfold runE
    split
    · exact runE_1 tx n k (p + 1) (by omega)
    · assumption
theorem tC_1 (tx : Nat → Nat) (n p : Nat) : tC tx n p ≠ 1 := runE_1 tx n _ _ (by omega)
theorem tE_ge (tx : Nat → Nat) (n p : Nat) : tS tx n p ≤ tE tx n p := by
  unfold tE; split
  · exact run_ge _ _ _ _
  · split <;> omega
theorem tE_gt {tx : Nat → Nat} {n p : Nat} (h : tC tx n p ≠ 0) : tS tx n p < tE tx n p := by
  unfold tE; split
  · rw [run_t (c := tC tx n p) rfl h]; exact run_ge _ _ _ _
  · exact Nat.lt_succ_self _
theorem tE_le {tx : Nat → Nat} {n p : Nat} (h : p ≤ n) : tE tx n p ≤ n := by
  have h1 := tS_le (tx := tx) h
  unfold tE; split
  · exact run_le h1
  · split
    · exact h1
    · next h0 => have := mt tC_0.mpr h0; omega
/-- a number from lo on, below hi, stands at p -/
def okN (tx : Nat → Nat) (n p lo hi : Nat) : Bool := tC tx n p == 3 && decide (lo ≤ tV tx n p) && decide (tV tx n p < hi)
def okR (tx : Nat → Nat) (n p : Nat) : Bool := tC tx n p == 2 && decide (tE tx n p - tS tx n p ≤ 6) && allb (fun k => decide (97 ≤ tx (tS tx n p + k)) && decide (tx (tS tx n p + k) ≤ 104)) (tE tx n p - tS tx n p)
/-- a word more, with its first k letters -/
def aW (tx : Nat → Nat) (T : px_T) (v s k : Nat) : px_T := (tW T + 1, tD T, tG T, (fun i => if i = tW T then k else tl T i), (fun i => if i = tW T then v else ts T i), (fun i x => if i = tW T then (if x < k then tx (s + x) - 97 else 8) else tc T i x), td T, tg T)
def aD (T : px_T) (v : Nat) : px_T := (tW T, tD T + 1, tG T, tl T, ts T, tc T, (fun d => if d = tD T then v else td T d), tg T)
def aG (T : px_T) (a b c d : Nat) : px_T := (tW T, tD T, tG T + 1, tl T, ts T, tc T, td T, (fun j p => if j = tG T then (if p = 0 then a else if p = 1 then b else if p = 2 then c else d) else tg T j p))
def T0 : px_T := (0, 0, 0, (fun _ => 0), (fun _ => 0), (fun _ _ => 0), (fun _ => 0), (fun _ _ => 0))
def itW (tx : Nat → Nat) (n : Nat) (T : px_T) (p : Nat) : Nat ⊕ (px_T × Nat) :=
  if okN tx n (tE tx n p) 1 10 then (if okR tx n (tE tx n (tE tx n p)) then .inr (aW tx T (tV tx n (tE tx n p)) (tS tx n (tE tx n (tE tx n p))) (tE tx n (tE tx n (tE tx n p)) - tS tx n (tE tx n (tE tx n p))), tE tx n (tE tx n (tE tx n p))) else .inl (tS tx n (tE tx n (tE tx n p)))) else .inl (tS tx n (tE tx n p))
def itD (tx : Nat → Nat) (n : Nat) (T : px_T) (p : Nat) : Nat ⊕ (px_T × Nat) :=
  if okN tx n (tE tx n p) 1 9 then .inr (aD T (tV tx n (tE tx n p)), tE tx n (tE tx n p)) else .inl (tS tx n (tE tx n p))
def itG (tx : Nat → Nat) (n : Nat) (T : px_T) (p : Nat) : Nat ⊕ (px_T × Nat) :=
  if okN tx n (tE tx n p) 1 25 then (if okN tx n (tE tx n (tE tx n p)) 0 (tD T) then (if okN tx n (tE tx n (tE tx n (tE tx n p))) 0 8 then (if okN tx n (tE tx n (tE tx n (tE tx n (tE tx n p)))) 1 5 then .inr (aG T (tV tx n (tE tx n p)) (tV tx n (tE tx n (tE tx n p))) (tV tx n (tE tx n (tE tx n (tE tx n p)))) (tV tx n (tE tx n (tE tx n (tE tx n (tE tx n p))))), tE tx n (tE tx n (tE tx n (tE tx n (tE tx n p))))) else .inl (tS tx n (tE tx n (tE tx n (tE tx n (tE tx n p)))))) else .inl (tS tx n (tE tx n (tE tx n (tE tx n p))))) else .inl (tS tx n (tE tx n (tE tx n p)))) else .inl (tS tx n (tE tx n p))
/-- which item begins at p -/
def beg (tx : Nat → Nat) (n p v : Nat) : Bool := tC tx n p == 2 && tE tx n p - tS tx n p == 1 && tx (tS tx n p) == v
def itS (tx : Nat → Nat) (n : Nat) (T : px_T) (p : Nat) : Nat ⊕ (px_T × Nat) :=
  if beg tx n p 119 && decide (tW T < 6) then itW tx n T p else if beg tx n p 100 && decide (tD T < 4) then itD tx n T p else if beg tx n p 103 && decide (tG T < 6) then itG tx n T p else .inl (tS tx n p)
/-- an item and its stop -/
def itZ (tx : Nat → Nat) (n : Nat) (T : px_T) (p : Nat) : Nat ⊕ (px_T × Nat) := match itS tx n T p with
  | .inl f => .inl f
  | .inr (T', p') => if tC tx n p' = 4 then .inr (T', tE tx n p') else .inl (tS tx n p')
def parS (tx : Nat → Nat) (n : Nat) : Nat → px_T → Nat → Nat → Nat ⊕ (px_T × Nat)
  | 0, T, _, m => .inr (T, m)
  | k + 1, T, p, m => if tC tx n p = 0 then .inr (T, m) else match itZ tx n T p with
    | .inl f => .inl f
    | .inr (T', p') => parS tx n k T' p' (m + 1)
def parR (tx : Nat → Nat) (n : Nat) : Nat ⊕ (px_T × Nat) := parS tx n (n + 1) T0 0 0
theorem okN_e {tx : Nat → Nat} {n p lo hi : Nat} (h : okN tx n p lo hi = true) : tC tx n p = 3 ∧ lo ≤ tV tx n p ∧ tV tx n p < hi := by
  simp [okN] at h; omega
theorem beg_e {tx : Nat → Nat} {n p v : Nat} (h : beg tx n p v = true) : tC tx n p = 2 := by
  simp [beg] at h; omega
theorem okR_e {tx : Nat → Nat} {n p : Nat} (h : okR tx n p = true) : tC tx n p = 2 ∧ tE tx n p - tS tx n p ≤ 6 ∧ ∀ k, k < tE tx n p - tS tx n p → 97 ≤ tx (tS tx n p + k) ∧ tx (tS tx n p + k) ≤ 104 := by
  simp only [okR, Bool.and_eq_true, allb_iff, decide_eq_true_iff, beq_iff_eq] at h
  exact ⟨h.1.1, h.1.2, h.2⟩
theorem aW_b {tx : Nat → Nat} {T : px_T} {v s k : Nat} (h : SubB T) (hW : tW T < 6) (hk : k ≤ 6) : SubB (aW tx T v s k) := by
  obtain ⟨⟨h1, h2, h3⟩, h4, h5⟩ := h
  refine ⟨⟨by show tW T + 1 ≤ 6; omega, h2, h3⟩, fun i hi => ?_, fun i x hi hx => ?_⟩
  · have hi' : i < tW T + 1 := hi
    show (if i = tW T then k else tl T i) ≤ 6
    split
    · exact hk
    · exact h4 i (by omega)
  · have hi' : i < tW T + 1 := hi
    have hx' : (if i = tW T then k else tl T i) ≤ x := hx
    show (if i = tW T then (if x < k then tx (s + x) - 97 else 8) else tc T i x) = 8
    split
    · next e => rw [if_pos e] at hx'; rw [if_neg (by omega)]
    · next e => rw [if_neg e] at hx'; exact h5 i x (by omega) hx'
theorem aW_ok {tx : Nat → Nat} {T : px_T} {v s k : Nat} (h : TOK T) (hv : 1 ≤ v ∧ v ≤ 9) (hk : 1 ≤ k) (hl : ∀ x, x < k → 97 ≤ tx (s + x) ∧ tx (s + x) ≤ 104) : TOK (aW tx T v s k) := by
  obtain ⟨h1, h2, h3, h4⟩ := h
  refine ⟨fun i hi => ?_, fun i x hi hx => ?_, h3, h4⟩
  · have hi' : i < tW T + 1 := hi
    show 1 ≤ (if i = tW T then k else tl T i) ∧ 1 ≤ (if i = tW T then v else ts T i) ∧ (if i = tW T then v else ts T i) ≤ 9
    by_cases e : i = tW T
    · simp only [e, if_true]; omega
    · simp only [e, if_false]; exact h1 i (by omega)
  · have hi' : i < tW T + 1 := hi
    have hx' : x < (if i = tW T then k else tl T i) := hx
    show (if i = tW T then (if x < k then tx (s + x) - 97 else 8) else tc T i x) < 8
    by_cases e : i = tW T
    · rw [if_pos e] at hx'
      have := hl x hx'
      rw [if_pos e, if_pos hx']; omega
    · rw [if_neg e] at hx'
      rw [if_neg e]; exact h2 i x (by omega) hx'
theorem aD_ok {T : px_T} {v : Nat} (h : TOK T) (hv : 1 ≤ v ∧ v ≤ 8) : TOK (aD T v) := by
  obtain ⟨h1, h2, h3, h4⟩ := h
  refine ⟨h1, h2, fun d hd => ?_, fun j hj => ?_⟩
  · have hd' : d < tD T + 1 := hd
    show 1 ≤ (if d = tD T then v else td T d) ∧ (if d = tD T then v else td T d) ≤ 8
    by_cases e : d = tD T
    · simp only [e, if_true]; exact hv
    · simp only [e, if_false]; exact h3 d (by omega)
  · have := h4 j hj
    refine ⟨this.1, this.2.1, ?_, this.2.2.2⟩
    show tg T j 1 < tD T + 1
    omega
theorem aG_ok {T : px_T} {a b c d : Nat} (h : TOK T) (ha : 1 ≤ a ∧ a ≤ 24) (hb : b < tD T) (hc : c ≤ 7) (hd : 1 ≤ d ∧ d ≤ 4) : TOK (aG T a b c d) := by
  obtain ⟨h1, h2, h3, h4⟩ := h
  refine ⟨h1, h2, h3, fun j hj => ?_⟩
  have hj' : j < tG T + 1 := hj
  by_cases e : j = tG T
  · have q : tg (aG T a b c d) j = fun p => if p = 0 then a else if p = 1 then b else if p = 2 then c else d := by
      funext p; show (if j = tG T then (if p = 0 then a else if p = 1 then b else if p = 2 then c else d) else tg T j p) = _; rw [if_pos e]
    rw [q]; exact ⟨ha.1, ha.2, hb, hc, hd.1, hd.2⟩
  · have q : tg (aG T a b c d) j = tg T j := by
      funext p; show (if j = tG T then (if p = 0 then a else if p = 1 then b else if p = 2 then c else d) else tg T j p) = _; rw [if_neg e]
    rw [q]; exact h4 j (by omega)
theorem T0_ok : TOK T0 := ⟨fun i hi => absurd hi (by simp [T0, tW]), fun i x hi => absurd hi (by simp [T0, tW]), fun i hi => absurd hi (by simp [T0, tD]), fun i hi => absurd hi (by simp [T0, tG])⟩
theorem itS_ok {tx : Nat → Nat} {n : Nat} {T T' : px_T} {p p' : Nat} (hT : TOK T) (hp : p ≤ n) (h : itS tx n T p = .inr (T', p')) : TOK T' ∧ p < p' ∧ p' ≤ n ∧ tC tx n p = 2 := by
  have g : ∀ q, q ≤ n → q ≤ tE tx n q ∧ tE tx n q ≤ n := fun q hq => ⟨Nat.le_trans (tS_ge ..) (tE_ge ..), tE_le hq⟩
  have g1 := g p hp
  have g2 := g _ g1.2
  have g3 := g _ g2.2
  have g4 := g _ g3.2
  have g5 := g _ g4.2
  have hp1 : tC tx n p = 2 → p < tE tx n p := fun e => Nat.lt_of_le_of_lt (tS_ge ..) (tE_gt (by rw [e]; decide))
  unfold itS at h
  split at h
  · next hb =>
    have hb2 := beg_e (Bool.and_eq_true _ _ ▸ hb : _ ∧ _).1
    have hp2 := hp1 hb2
    unfold itW at h
    split at h
    · next h1 =>
      have o1 := okN_e h1
      split at h
      · next h2 =>
        have o2 := okR_e h2
        injection h with h; injection h with e1 e2
        subst e1; subst e2
        have := tE_gt (tx := tx) (n := n) (p := tE tx n (tE tx n p)) (by rw [o2.1]; decide)
        exact ⟨aW_ok hT ⟨o1.2.1, by omega⟩ (by omega) o2.2.2, by omega, by omega, hb2⟩
      · cases h
    · cases h
  · split at h
    · next hb =>
      have hb2 := beg_e (Bool.and_eq_true _ _ ▸ hb : _ ∧ _).1
      have hp2 := hp1 hb2
      unfold itD at h
      split at h
      · next h1 =>
        have o1 := okN_e h1
        injection h with h; injection h with e1 e2
        subst e1; subst e2
        exact ⟨aD_ok hT ⟨o1.2.1, by omega⟩, by omega, by omega, hb2⟩
      · cases h
    · split at h
      · next hb =>
        have hb2 := beg_e (Bool.and_eq_true _ _ ▸ hb : _ ∧ _).1
        have hp2 := hp1 hb2
        unfold itG at h
        split at h
        · next h1 =>
          split at h
          · next h2 =>
            split at h
            · next h3 =>
              split at h
              · next h4 =>
                have o1 := okN_e h1
                have o2 := okN_e h2
                have o3 := okN_e h3
                have o4 := okN_e h4
                injection h with h; injection h with e1 e2
                subst e1; subst e2
                exact ⟨aG_ok hT ⟨o1.2.1, by omega⟩ o2.2.2 (by omega) ⟨o4.2.1, by omega⟩, by omega, by omega, hb2⟩
              · cases h
            · cases h
          · cases h
        · cases h
      · cases h
theorem itZ_ok {tx : Nat → Nat} {n : Nat} {T T' : px_T} {p p' : Nat} (hT : TOK T) (hp : p ≤ n) (h : itZ tx n T p = .inr (T', p')) : TOK T' ∧ p < p' ∧ p' ≤ n := by
  unfold itZ at h
  split at h
  · cases h
  · next T1 p1 h1 =>
    obtain ⟨a1, a2, a3, _⟩ := itS_ok hT hp h1
    split at h
    · injection h with h; injection h with e1 e2
      subst e1; subst e2
      exact ⟨a1, Nat.lt_of_lt_of_le a2 (Nat.le_trans (tS_ge ..) (tE_ge ..)), tE_le a3⟩
    · cases h
