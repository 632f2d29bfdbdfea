/-! rounds: a list of drives, the last read at its head -/
def o8 : List Nat → Nat
  | [] => 0
  | d :: l => o8 l * 8 + d + 1
def o5 : List Nat → Nat
  | [] => 0
  | d :: l => o5 l * 5 + d + 1
def adf (a b : Nat) : Nat := if b ≤ a then a - b else b - a
def enx (M : px_N) (l : List Nat) (e d : Nat) : Nat := match l with
  | [] => e + 0 + 1
  | b :: _ => e + adf d b + 1
def en (M : px_N) : List Nat → Nat
  | [] => nh M
  | d :: l => enx M l (en M l) d
/-- whether a drive can be read next -/
def vst (T : px_T) (M : px_N) (l : List Nat) (d : Nat) : Bool := decide (d < tD T) && !(l.contains d) && inT T M d (enx M l (en M l) d)
def Vl (T : px_T) (M : px_N) : List Nat → Prop
  | [] => True
  | d :: l => vst T M l d = true ∧ Vl T M l
/-- the best among what begins so, after the drives below n were tried -/
def bbF (f : List Nat → List Nat) (T : px_T) (M : px_N) (l : List Nat) : Nat → List Nat
  | 0 => l
  | n + 1 => if vst T M l n = true then (if (bbF f T M l n).length < (f (n :: l)).length then f (n :: l) else bbF f T M l n) else bbF f T M l n
def bb (T : px_T) (M : px_N) : Nat → List Nat → List Nat
  | 0, l => l
  | k + 1, l => bbF (bb T M k) T M l (tD T)
def roundB (T : px_T) (M : px_N) : List Nat := bb T M 4 []
def roundR (T : px_T) (M : px_N) (a : Int32) : Int32 := if a = -1 then nI (roundB T M).length else if hasI a 4 then (match (roundB T M)[(roundB T M).length - 1 - a.toNatClampNeg]? with
  | some d => if a.toNatClampNeg < (roundB T M).length then nI d else -9
  | none => -9) else -1
theorem Vl.d4 {T : px_T} {M : px_N} (h4 : tD T ≤ 4) : ∀ {l : List Nat}, Vl T M l → ∀ d, d ∈ l → d < 4
  | [], _, d, h => by cases h
  | a :: l, hV, d, h => by
    rcases List.mem_cons.mp h with rfl | h
    · have := hV.1
      simp [vst] at this
      omega
    · exact Vl.d4 h4 hV.2 d h
theorem o8_lt : ∀ {l : List Nat}, (∀ d, d ∈ l → d < 4) → o8 l < 8 ^ l.length
  | [], _ => by decide
  | a :: l, h => by
    have h1 := o8_lt (l := l) (fun d hd => h d (List.mem_cons_of_mem _ hd))
    have h2 := h a (List.mem_cons_self ..)
    rw [List.length_cons, Nat.pow_succ, o8]
    omega
theorem o8_drop : ∀ (k : Nat) {l : List Nat}, (∀ d, d ∈ l → d < 4) → o8 l / 8 ^ k = o8 (l.drop k)
  | 0, l, _ => by simp
  | k + 1, [], _ => by simp [o8]
  | k + 1, a :: l, h => by
    have h2 := h a (List.mem_cons_self ..)
    rw [List.drop_succ_cons, ← o8_drop k (fun d hd => h d (List.mem_cons_of_mem _ hd)), Nat.pow_succ, Nat.mul_comm (8 ^ k) 8, ← Nat.div_div_eq_div_mul]
    congr 1
    rw [o8]
    omega
theorem o8_0 {l : List Nat} : o8 l = 0 ↔ l = [] := by
  cases l with
  | nil => simp [o8]
  | cons a l => simp [o8]
theorem bbF_V {f : List Nat → List Nat} {T : px_T} {M : px_N} {l : List Nat} (hl : Vl T M l) (hf : ∀ d, Vl T M (d :: l) → Vl T M (f (d :: l)) ∧ (f (d :: l)).length ≤ 4) (h4 : l.length ≤ 4) : ∀ n, Vl T M (bbF f T M l n) ∧ (bbF f T M l n).length ≤ 4
  | 0 => ⟨hl, h4⟩
  | n + 1 => by
    have ih := bbF_V hl hf h4 n
    unfold bbF
    split
    · next hv =>
      split
      · exact hf n ⟨hv, hl⟩
      · exact ih
    · exact ih
theorem bb_V {T : px_T} {M : px_N} : ∀ {k : Nat} {l : List Nat}, Vl T M l → l.length + k ≤ 4 → Vl T M (bb T M k l) ∧ (bb T M k l).length ≤ 4
  | 0, l, h, h4 => ⟨h, by show l.length ≤ 4; omega⟩
  | k + 1, l, h, h4 => bbF_V h (fun d hd => bb_V (k := k) hd (by simp; omega)) (by omega) _
theorem roundB_V (T : px_T) (M : px_N) : Vl T M (roundB T M) ∧ (roundB T M).length ≤ 4 := bb_V (k := 4) (l := []) trivial (by decide)
theorem enx_lt {T : px_T} {M : px_N} {l : List Nat} {e d : Nat} (h4 : tD T ≤ 4) (hl : Vl T M l) (hd : d < 4) : enx M l e d ≤ e + 4 ∧ e < enx M l e d := by
  cases l with
  | nil => simp [enx]
  | cons b l =>
    have hb := Vl.d4 h4 hl b (List.mem_cons_self ..)
    simp only [enx, adf]
    split <;> omega
theorem en_le {T : px_T} {M : px_N} (h4 : tD T ≤ 4) (hM : nh M ≤ 24) : ∀ {l : List Nat}, Vl T M l → en M l ≤ 24 + 4 * l.length
  | [], _ => by simpa [en] using hM
  | d :: l, h => by
    have h1 := en_le h4 hM h.2
    have h2 := (enx_lt (e := en M l) h4 h.2 (Vl.d4 h4 h d (List.mem_cons_self ..))).1
    rw [List.length_cons, en]
    omega
/-! the reference's rows -/
def dgt (row n : Nat) : Nat := row / 5 ^ (3 - n) % 5
def rdL (T : px_T) (M : px_N) (row : Nat) : Nat → Nat → List Nat → Option Nat
  | 0, n, _ => some n
  | k + 1, n, l => if dgt row n = 0 then (if row % 5 ^ (k + 1) = 0 then some n else none) else if vst T M l (dgt row n - 1) = true then rdL T M row k (n + 1) ((dgt row n - 1) :: l) else none
def rdR (T : px_T) (M : px_N) (row : Nat) : Option Nat := rdL T M row 4 0 []
def rdS (T : px_T) (M : px_N) (row : Nat) (s : Nat × Nat) : Nat × Nat := match rdR T M row with
  | some n => if s.2 < n then (row, n) else s
  | none => s
def rdF (T : px_T) (M : px_N) (r : Nat) : Nat → Nat × Nat → Nat × Nat
  | 0, s => s
  | c + 1, s => rdS T M (r + c) (rdF T M r c s)
theorem rdF_add (T : px_T) (M : px_N) (r a : Nat) (s : Nat × Nat) : ∀ b, rdF T M r (a + b) s = rdF T M (r + a) b (rdF T M r a s)
  | 0 => rfl
  | b + 1 => by
    show rdS T M (r + (a + b)) (rdF T M r (a + b) s) = rdS T M (r + a + b) (rdF T M (r + a) b (rdF T M r a s))
    rw [rdF_add T M r a s b, Nat.add_assoc]
theorem rdF_none {T : px_T} {M : px_N} {r : Nat} {s : Nat × Nat} : ∀ {c : Nat}, (∀ j, j < c → rdR T M (r + j) = none) → rdF T M r c s = s
  | 0, _ => rfl
  | c + 1, h => by
    show rdS T M (r + c) (rdF T M r c s) = s
    rw [rdF_none (fun j hj => h j (by omega)), rdS, h c (by omega)]
theorem rdL_in {T : px_T} {M : px_N} {row : Nat} : ∀ {l : List Nat} {k : Nat}, Vl T M l → tD T ≤ 4 → l.length + k = 4 → row / 5 ^ k = o5 l → rdR T M row = rdL T M row k l.length l
  | [], k, _, _, hk, _ => by
    have : k = 4 := by simpa using hk
    subst this; rfl
  | d :: l, k, hV, h4, hk, hr => by
    have hd := Vl.d4 h4 hV d (List.mem_cons_self ..)
    rw [List.length_cons] at hk
    have e1 : row / 5 ^ (k + 1) = o5 l := by
      rw [Nat.pow_succ, ← Nat.div_div_eq_div_mul, hr, o5]; omega
    have ih := rdL_in (l := l) (k := k + 1) hV.2 h4 (by omega) e1
    have e2 : dgt row l.length = d + 1 := by
      rw [dgt, show 3 - l.length = k by omega, hr, o5]; omega
    rw [ih, rdL, e2, if_neg (by omega), Nat.add_sub_cancel, if_pos hV.1]; rfl
theorem rd_blk {T : px_T} {M : px_N} (h4 : tD T ≤ 4) : ∀ (k : Nat) {l : List Nat} (s : Nat × Nat), Vl T M l → l.length + k = 4 → rdF T M (o5 l * 5 ^ k) (5 ^ k) s = if s.2 < (bb T M k l).length then (o5 (bb T M k l) * 5 ^ (4 - (bb T M k l).length), (bb T M k l).length) else s
  | 0, l, s, hV, hk => by
    have h := rdL_in (row := o5 l) (k := 0) hV h4 hk (by simp)
    have hl : l.length = 4 := by omega
    show rdS T M (o5 l * 1 + 0) s = _
    rw [Nat.mul_one, Nat.add_zero, rdS, h, rdL, bb, hl]
    simp
  | k + 1, l, s, hV, hk => by
    have hp : 0 < 5 ^ k := Nat.pow_pos (by decide)
    -- no more drives
    have h0 : rdF T M (o5 l * 5 ^ (k + 1)) (5 ^ k) s = if s.2 < l.length then (o5 l * 5 ^ (k + 1), l.length) else s := by
      have hin : ∀ j, j < 5 ^ k → rdR T M (o5 l * 5 ^ (k + 1) + j) = if j = 0 then some l.length else none := by
        intro j hj
        have e0 : (o5 l * 5 ^ (k + 1) + j) / 5 ^ (k + 1) = o5 l := by
          rw [Nat.mul_comm, Nat.mul_add_div (Nat.pow_pos (by decide)), Nat.div_eq_of_lt (by rw [Nat.pow_succ]; omega), Nat.add_zero]
        rw [rdL_in (k := k + 1) hV h4 hk e0, rdL, dgt, show 3 - l.length = k by omega]
        have e1 : (o5 l * 5 ^ (k + 1) + j) / 5 ^ k = o5 l * 5 := by
          rw [Nat.pow_succ, ← Nat.mul_assoc, Nat.mul_right_comm, Nat.mul_comm (o5 l * 5), Nat.mul_add_div hp, Nat.div_eq_of_lt hj, Nat.add_zero]
        rw [e1, if_pos (by omega), Nat.mul_comm, Nat.mul_add_mod, Nat.mod_eq_of_lt (by rw [Nat.pow_succ]; omega)]
      have e1 : rdF T M (o5 l * 5 ^ (k + 1)) 1 s = if s.2 < l.length then (o5 l * 5 ^ (k + 1), l.length) else s := by
        show rdS T M (o5 l * 5 ^ (k + 1) + 0) s = _
        rw [rdS, hin 0 hp]; rfl
      rw [show 5 ^ k = 1 + (5 ^ k - 1) by omega, rdF_add, rdF_none, e1]
      intro j hj
      rw [Nat.add_assoc, hin (1 + j) (by omega), if_neg (by omega)]
    -- one drive more
    have h1 : ∀ n, n ≤ 4 → rdF T M (o5 l * 5 ^ (k + 1)) (5 ^ k * (n + 1)) s = if s.2 < (bbF (bb T M k) T M l (if n ≤ tD T then n else tD T)).length then (o5 (bbF (bb T M k) T M l (if n ≤ tD T then n else tD T)) * 5 ^ (4 - (bbF (bb T M k) T M l (if n ≤ tD T then n else tD T)).length), (bbF (bb T M k) T M l (if n ≤ tD T then n else tD T)).length) else s := by
      intro n
      induction n with
      | zero =>
        intro _
        rw [Nat.zero_add, Nat.mul_one, h0, if_pos (Nat.zero_le _), bbF, show 4 - l.length = k + 1 by omega]
      | succ n ih =>
        intro hn
        have e1 : 5 ^ k * (n + 1 + 1) = 5 ^ k * (n + 1) + 5 ^ k := by rw [Nat.mul_succ]
        have e2 : o5 l * 5 ^ (k + 1) + 5 ^ k * (n + 1) = o5 (n :: l) * 5 ^ k := by
          rw [o5, Nat.pow_succ, Nat.mul_comm (5 ^ k) 5, ← Nat.mul_assoc, Nat.mul_comm (5 ^ k) (n + 1), ← Nat.add_mul, Nat.add_assoc]
        rw [e1, rdF_add, ih (by omega), e2]
        by_cases hv : vst T M l n = true
        · have hnD : n < tD T := by simp [vst] at hv; exact hv.1.1
          rw [rd_blk (l := n :: l) h4 k _ (show Vl T M (n :: l) from ⟨hv, hV⟩) (by rw [List.length_cons]; omega), if_pos (show n ≤ tD T by omega), if_pos (show n + 1 ≤ tD T by omega)]
          generalize hB : bbF (bb T M k) T M l n = B
          generalize hF : bb T M k (n :: l) = F
          rw [bbF, if_pos hv, hB, hF]
          by_cases c1 : s.2 < B.length
          · rw [if_pos c1]
            by_cases c2 : B.length < F.length
            · rw [if_pos c2, if_pos c2, if_pos (by omega)]
            · rw [if_neg c2, if_neg c2, if_pos c1]
          · rw [if_neg c1]
            by_cases c2 : B.length < F.length
            · rw [if_pos c2]
            · rw [if_neg c2, if_neg c1, if_neg (by omega)]
        · have hb : bbF (bb T M k) T M l (if n + 1 ≤ tD T then n + 1 else tD T) = bbF (bb T M k) T M l (if n ≤ tD T then n else tD T) := by
            by_cases hnD : n + 1 ≤ tD T
            · rw [if_pos hnD, if_pos (by omega), bbF, if_neg hv]
            · rw [if_neg hnD]
              by_cases hq : n ≤ tD T
              · rw [if_pos hq, show n = tD T by omega]
              · rw [if_neg hq]
          rw [hb, rdF_none]
          intro j hj
          have e3 : (o5 (n :: l) * 5 ^ k + j) / 5 ^ k = o5 (n :: l) := by
            rw [Nat.mul_comm, Nat.mul_add_div hp, Nat.div_eq_of_lt hj, Nat.add_zero]
          have e4 : (o5 (n :: l) * 5 ^ k + j) / 5 ^ (k + 1) = o5 l := by
            rw [Nat.pow_succ, ← Nat.div_div_eq_div_mul, e3, o5]; omega
          rw [rdL_in (k := k + 1) hV h4 hk e4, rdL, dgt, show 3 - l.length = k by omega, e3, o5, show (o5 l * 5 + n + 1) % 5 = n + 1 by omega, if_neg (by omega), Nat.add_sub_cancel, if_neg hv]
    have := h1 4 (Nat.le_refl _)
    rw [show 5 ^ k * (4 + 1) = 5 ^ (k + 1) from (Nat.pow_succ ..).symm] at this
    rw [this, bb]
    have e : (if 4 ≤ tD T then 4 else tD T) = tD T := by split <;> omega
    rw [e]
theorem rd_all {T : px_T} {M : px_N} (h4 : tD T ≤ 4) : rdF T M 0 625 (0, 0) = (o5 (roundB T M) * 5 ^ (4 - (roundB T M).length), (roundB T M).length) := by
  have h := rd_blk (M := M) h4 4 (l := []) (0, 0) trivial rfl
  have e : o5 [] * 5 ^ 4 = 0 := rfl
  rw [e] at h
  rw [show (625 : Nat) = 5 ^ 4 from rfl, h]
  show (if 0 < (roundB T M).length then _ else _) = _
  by_cases c : 0 < (roundB T M).length
  · rw [if_pos c]; rfl
  · rw [if_neg c]
    have : roundB T M = [] := List.eq_nil_of_length_eq_zero (by omega)
    rw [this]; rfl
/-! the latest end of a drive's reading, and one more: 0 none, 1001 any -/
def ltI (n : Nat) : Int32 := nI n - nI 1
def latA (T : px_T) (M : px_N) (d s : Nat) : Nat → Nat
  | 0 => s
  | n + 1 => if tg T n 1 = d ∧ nh M ≤ tg T n 0 then (if tg T n 0 < latA T M d s n then tg T n 0 else latA T M d s n) else latA T M d s n
def latS (T : px_T) (M : px_N) (d : Nat) : Nat := if d < tD T ∧ ¬ rdbl T M d = 0 then 1001 else 0
def lat (T : px_T) (M : px_N) (d : Nat) : Nat := latA T M d (latS T M d) (tG T)
theorem latA_y {T : px_T} {M : px_N} {d s n : Nat} (h : tg T n 1 = d) (h2 : nh M ≤ tg T n 0) : latA T M d s (n + 1) = if tg T n 0 < latA T M d s n then tg T n 0 else latA T M d s n := by
  show (if tg T n 1 = d ∧ nh M ≤ tg T n 0 then (if tg T n 0 < latA T M d s n then tg T n 0 else latA T M d s n) else latA T M d s n) = _
  exact if_pos ⟨h, h2⟩
theorem latA_le (T : px_T) (M : px_N) (d : Nat) : ∀ n, latA T M d (latS T M d) n ≤ 1001
  | 0 => by
    show latS T M d ≤ 1001
    unfold latS
    split <;> omega
  | n + 1 => by
    have ih := latA_le T M d n
    unfold latA
    split
    · split <;> omega
    · exact ih
theorem lat_le (T : px_T) (M : px_N) (d : Nat) : lat T M d ≤ 1001 := latA_le T M d _
theorem latA_iff {T : px_T} {M : px_N} {d s e : Nat} : ∀ n, e < latA T M d s n ↔ e < s ∧ ∀ j, j < n → ¬ (tg T j 1 = d ∧ nh M ≤ tg T j 0 ∧ tg T j 0 ≤ e)
  | 0 => ⟨fun h => ⟨h, fun j hj => absurd hj (Nat.not_lt_zero _)⟩, fun h => h.1⟩
  | n + 1 => by
    have ih := latA_iff (T := T) (M := M) (d := d) (s := s) (e := e) n
    have hc : (∀ j, j < n + 1 → ¬ (tg T j 1 = d ∧ nh M ≤ tg T j 0 ∧ tg T j 0 ≤ e)) ↔ (∀ j, j < n → ¬ (tg T j 1 = d ∧ nh M ≤ tg T j 0 ∧ tg T j 0 ≤ e)) ∧ ¬ (tg T n 1 = d ∧ nh M ≤ tg T n 0 ∧ tg T n 0 ≤ e) := by
      constructor
      · intro h; exact ⟨fun j hj => h j (by omega), h n (by omega)⟩
      · intro h j hj
        rcases (show j < n ∨ j = n by omega) with q | rfl
        · exact h.1 j q
        · exact h.2
    rw [hc, ← and_assoc, ← ih, latA]
    by_cases c : tg T n 1 = d ∧ nh M ≤ tg T n 0
    · rw [if_pos c]
      have e1 : ¬ (tg T n 1 = d ∧ nh M ≤ tg T n 0 ∧ tg T n 0 ≤ e) ↔ e < tg T n 0 := ⟨fun h => Nat.lt_of_not_le (fun q => h ⟨c.1, c.2, q⟩), fun h q => by omega⟩
      rw [e1]
      split <;> omega
    · rw [if_neg c]
      exact ⟨fun h => ⟨h, fun q => c ⟨q.1, q.2.1⟩⟩, fun h => h.1⟩
theorem lat_iff {T : px_T} {M : px_N} {d e : Nat} (he : e ≤ 1000) : e < lat T M d ↔ d < tD T ∧ inT T M d e = true := by
  rw [lat, latA_iff, inT, Bool.and_eq_true, allb_iff]
  have e1 : e < latS T M d ↔ d < tD T ∧ ¬ rdbl T M d = 0 := by
    unfold latS
    split
    · next h => exact ⟨fun _ => h, fun _ => by omega⟩
    · next h => exact ⟨fun q => absurd q (Nat.not_lt_zero _), fun q => absurd q h⟩
  have e2 : (∀ j, j < tG T → (!(tg T j 1 == d && decide (nh M ≤ tg T j 0) && decide (tg T j 0 ≤ e))) = true) ↔ (∀ j, j < tG T → ¬ (tg T j 1 = d ∧ nh M ≤ tg T j 0 ∧ tg T j 0 ≤ e)) := by
    refine forall_congr' fun j => forall_congr' fun _ => ?_
    simp [and_assoc]
    omega
  have e3 : (!(rdbl T M d == 0)) = true ↔ ¬ rdbl T M d = 0 := by simp
  rw [e1, e2, e3]
  constructor
  · rintro ⟨⟨a, b⟩, c⟩; exact ⟨a, c, b⟩
  · rintro ⟨a, c, b⟩; exact ⟨⟨a, b⟩, c⟩
theorem ltI_min {a b : Nat} (ha : a < 2 ^ 30) (hb : b < 2 ^ 30) : (if ltI b < ltI a then ltI b else ltI a) = ltI (if b < a then b else a) := by
  have h : ltI b < ltI a ↔ b < a := by
    unfold ltI
    rw [Int32.lt_iff_toInt_lt, pk_sub_toInt hb (by decide), pk_sub_toInt ha (by decide)]
    omega
  by_cases c : b < a
  · rw [if_pos c, if_pos (h.mpr c)]
  · rw [if_neg c, if_neg (fun q => c (h.mp q))]
theorem ltI_gt {a e : Nat} (ha : a < 2 ^ 30) (he : e < 2 ^ 30) : ltI a < nI e ↔ a ≤ e := by
  unfold ltI
  rw [Int32.lt_iff_toInt_lt, pk_sub_toInt ha (by decide), nI_toInt (by omega)]
  omega
theorem vst_y {T : px_T} {M : px_N} {l : List Nat} {d : Nat} (hc : l.contains d = false) (h : ¬ lat T M d ≤ enx M l (en M l) d) (he : enx M l (en M l) d ≤ 1000) : vst T M l d = true := by
  have h1 := (lat_iff he).mp (Nat.lt_of_not_le h)
  rw [vst, hc, h1.2]
  simp [h1.1]
theorem vst_l {T : px_T} {M : px_N} {l : List Nat} {d : Nat} (he : enx M l (en M l) d ≤ 1000) (h : lat T M d ≤ enx M l (en M l) d) : ¬ vst T M l d = true := by
  intro hv
  have h1 : d < tD T ∧ inT T M d (enx M l (en M l) d) = true := by
    simp only [vst, Bool.and_eq_true, decide_eq_true_eq] at hv
    exact ⟨hv.1.1, hv.2⟩
  have := (lat_iff he).mpr h1
  omega
theorem vst_i {T : px_T} {M : px_N} {l : List Nat} {d : Nat} (h : inT T M d (enx M l (en M l) d) = false) : ¬ vst T M l d = true := by
  rw [vst, h]; simp
theorem bbF_k {f : List Nat → List Nat} {T : px_T} {M : px_N} {l : List Nat} : ∀ k, bbF f T M l (tD T + k) = bbF f T M l (tD T)
  | 0 => rfl
  | k + 1 => by
    have hv : ¬ vst T M l (tD T + k) = true := by
      intro hv
      simp only [vst, Bool.and_eq_true, decide_eq_true_eq] at hv
      omega
    show bbF f T M l (tD T + k + 1) = _
    rw [bbF, if_neg hv, bbF_k k]
theorem bbF_4 {f : List Nat → List Nat} {T : px_T} {M : px_N} {l : List Nat} (h : tD T ≤ 4) : bbF f T M l (tD T) = bbF f T M l 4 := by
  rw [← bbF_k (4 - tD T), show tD T + (4 - tD T) = 4 by omega]
