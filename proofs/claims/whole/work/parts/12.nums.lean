/-! numbers: ints that are small natural numbers, truth values, words of bits -/
def bI (b : Bool) : Int32 := if b then 1 else 0
theorem bI_0 {b : Bool} : bI b = 0 ↔ b = false := by cases b <;> decide
theorem bI_nar (b : Bool) : narrow .boolean (.int (bI b)) = .int (bI b) := by cases b <;> rfl
theorem bI_1 : (1 : Int32) = bI true := rfl
theorem bI_f : (0 : Int32) = bI false := rfl
theorem bI_nI (b : Bool) : bI b = nI (if b then 1 else 0) := by cases b <;> rfl
theorem nI_eq0 {n : Nat} (h : n < 2 ^ 31) : nI n = 0 ↔ n = 0 := by
  have := nI_eq (a := n) (b := 0) h (by decide)
  rwa [nI_0] at this
theorem nI_lt0 {n : Nat} (h : n < 2 ^ 31) : nI n < 0 ↔ False := iff_false_intro (nI_pos h)
theorem nI_ge0 {n : Nat} (h : n < 2 ^ 31) : 0 ≤ nI n ↔ True := iff_true_intro (nI_pos' h)
theorem nI_gt0 {n : Nat} (h : n < 2 ^ 31) : 0 < nI n ↔ 0 < n := by
  have := nI_ltI (a := 0) (b := n) (by decide) h
  rwa [nI_0] at this
theorem nI_le0 {n : Nat} (h : n < 2 ^ 31) : nI n ≤ 0 ↔ n = 0 := by
  have := nI_leI (a := n) (b := 0) h (by decide)
  rw [nI_0] at this
  rw [this]; omega
theorem or_n (a b : Nat) : nI a ||| nI b = nI (a ||| b) := by
  apply Int32.toBitVec_inj.mp
  simp [nI]
theorem and_n (a b : Nat) : nI a &&& nI b = nI (a &&& b) := by
  apply Int32.toBitVec_inj.mp
  simp [nI]
theorem sh_amt : ∀ n, n < 32 → ((nI n &&& 31).toBitVec.smod 32).toNat = n := by decide +kernel
theorem shl_n {a b : Nat} (hb : b < 32) (h : a * 2 ^ b < 2 ^ 32) : nI a <<< (nI b &&& 31) = nI (a * 2 ^ b) := pk_shlN _ b (sh_amt b hb) h
theorem shl1_n {b : Nat} (hb : b < 31) : nI 1 <<< (nI b &&& 31) = nI (2 ^ b) := by
  rw [shl_n (by omega), Nat.one_mul]
  have : 2 ^ b < 2 ^ 31 := Nat.pow_lt_pow_right (by decide) hb
  omega
theorem shr_n {a b : Nat} (hb : b < 32) (h : a < 2 ^ 31) : nI a >>> (nI b &&& 31) = nI (a / 2 ^ b) := pk_shrN h _ b (sh_amt b hb)
theorem bit_n {a b : Nat} : a / 2 ^ b &&& 1 = (a / 2 ^ b) % 2 := Nat.and_one_is_mod _
/-- an int within 0 .. n-1 -/
def hasI (a : Int32) (n : Nat) : Bool := decide (0 ≤ a.toInt ∧ a.toInt < n)
theorem hasI_t {a : Int32} {n : Nat} (h : hasI a n = true) (hn : n < 2 ^ 31) : ∃ j, j < n ∧ a = nI j := by
  have h1 := of_decide_eq_true h
  exact vp_in_of (vp_in_iff.mpr h1) hn
theorem hasI_n {j n : Nat} (hj : j < 2 ^ 31) : hasI (nI j) n = decide (j < n) := by
  unfold hasI
  rw [nI_toInt hj]
  congr 1
  apply propext
  constructor
  · rintro ⟨_, h⟩; omega
  · intro h; exact ⟨by omega, by omega⟩
theorem lt0_hasI {a : Int32} {n : Nat} (h : a < 0) : hasI a n = false := by
  apply decide_eq_false
  rw [Int32.lt_iff_toInt_lt] at h
  have : (0 : Int32).toInt = 0 := rfl
  omega
theorem ge_hasI {a : Int32} {n : Nat} (hn : n < 2 ^ 31) (h : nI n ≤ a) : hasI a n = false := by
  apply decide_eq_false
  rw [Int32.le_iff_toInt_le, nI_toInt hn] at h
  omega
theorem in_hasI {a : Int32} {n : Nat} (hn : n < 2 ^ 31) (h0 : ¬ a < 0) (h : ¬ nI n ≤ a) : hasI a n = true := by
  apply decide_eq_true
  rw [Int32.lt_iff_toInt_lt] at h0
  rw [Int32.le_iff_toInt_le, nI_toInt hn] at h
  have : (0 : Int32).toInt = 0 := rfl
  omega
theorem px_eq {Q : px_Q} {a b : Int32} {w : px_W} (h : Q (some (.int b)) w) (e : a = b) : Q (some (.int a)) w := e ▸ h
theorem px_eqN {Q : px_Q} {a b : Nat} {w : px_W} (h : Q (some (.int (nI b))) w) (e : a = b) : Q (some (.int (nI a))) w := e ▸ h
theorem px_eqB {Q : px_Q} {a b : Bool} {w : px_W} (h : Q (some (.int (bI b))) w) (e : a = b) : Q (some (.int (bI a))) w := e ▸ h
theorem gs_ne {w : px_W} {j k : Nat} {c d : px_C} (h : w[k]? = some d) (hjk : j ≠ k) : (w.set j c)[k]? = some d := by rw [List.getElem?_set_ne hjk]; exact h
theorem gs_eq {w : px_W} {k : Nat} {c d : px_C} (h : w[k]? = some d) : (w.set k c)[k]? = some c := by
  have := (List.getElem?_eq_some_iff.mp h).1
  simp [this]
theorem gs_off {w : px_W} {j k : Nat} {c : px_C} (hjk : j ≠ k) : (w.set j c)[k]? = w[k]? := List.getElem?_set_ne hjk
theorem gs_id {w : px_W} {k : Nat} {c : px_C} (h : w[k]? = some c) : w.set k c = w := by
  apply List.ext_getElem?
  intro i
  by_cases e : k = i
  · subst e; rw [gs_eq h, h]
  · rw [gs_off e]
theorem gs_set {w : px_W} {k : Nat} {c d : px_C} : (w.set k c).set k d = w.set k d := List.set_set ..
theorem px_id {g : px_G} {y : MethodName} {cc : ByteArray} {nL : Nat} {rt : Option FieldType} {dp mc ms : Nat} {Z : px_Z} {c0 s0 pc : Nat} {lo : List (Option Value)} {st : List Value} {w : px_W} {k : Nat} {c : px_C} (h : w[k]? = some c) (kk : Wp g y cc nL rt dp mc ms Z c0 s0 pc lo st w) : Wp g y cc nL rt dp mc ms Z c0 s0 pc lo st (w.set k c) := by
  rw [gs_id h]; exact kk
theorem nI_cl {n : Nat} (h : n < 2 ^ 31) : (nI n).toNatClampNeg = n := nI_clamp h
theorem sub1_eq {a d : Nat} (ha : a < 2 ^ 31) (hd : d + 1 < 2 ^ 31) : nI a - 1 = nI d ↔ a = d + 1 := by
  constructor
  · intro h
    have h2 : nI a = nI d + 1 := by rw [← h]; simp
    rw [nI_1, nI_eq ha hd] at h2
    exact h2
  · rintro rfl
    exact nI_pred d
theorem px_cat1 {av : List Value} (h : av.all (fun v => v.category == 1) = true) : ∀ v ∈ av, v.category = 1 := fun v hv => by
  have := List.all_eq_true.mp h v hv
  simpa using this
theorem tb_eq (n x : Nat) : n.testBit x = decide (n / 2 ^ x % 2 = 1) := Nat.testBit_eq_decide_div_mod_eq
theorem tb_and (n x : Nat) : n &&& 2 ^ x = 0 ↔ n.testBit x = false := by
  constructor
  · intro h
    have h1 := congrArg (fun m => m.testBit x) h
    simpa [Nat.testBit_and, Nat.testBit_two_pow_self] using h1
  · intro h
    apply Nat.eq_of_testBit_eq
    intro i
    rw [Nat.testBit_and, Nat.testBit_two_pow, Nat.zero_testBit]
    by_cases e : x = i
    · subst e; simp [h]
    · simp [e]
theorem pow_lt31 {x : Nat} (h : x < 31) : 2 ^ x < 2147483648 := Nat.pow_lt_pow_right (by decide) h
theorem and_lt31 {a b : Nat} (h : a < 2147483648) : a &&& b < 2147483648 := Nat.lt_of_le_of_lt Nat.and_le_left h
def cpf (fa fb : Nat → Int32) (i : Nat) : Nat → Int32 := fun j => if j < i then fa j else fb j
theorem cpf_0 (fa fb : Nat → Int32) : cpf fa fb 0 = fb := by funext j; simp [cpf]
theorem cpf_s (fa fb : Nat → Int32) (i : Nat) : upd (cpf fa fb i) i (fa i) = cpf fa fb (i + 1) := by
  funext j
  by_cases h : j = i
  · subst h; simp [cpf, upd]
  · simp only [cpf, upd, h, if_false]
    by_cases h2 : j < i
    · simp [h2, Nat.lt_succ_of_lt h2]
    · have : ¬ j < i + 1 := by omega
      simp [h2, this]
/-- a local is forgotten -/
theorem r_drop {g : px_G} {y : MethodName} {cc : ByteArray} {nL : Nat} {rt : Option FieldType} {dp mc ms : Nat} {Z : px_Z} {c0 s0 pc : Nat} {lo lo' : List (Option Value)} {st : List Value} {w : px_W} (i : Nat) (h : lo.set i none = lo') (k : Wp g y cc nL rt dp mc ms Z c0 s0 pc lo' st w) : Wp g y cc nL rt dp mc ms Z c0 s0 pc lo st w := by
  subst h
  intro p e R s m args below meth c H locs ls hM hP hS hl
  refine k p e R s m args below meth c H locs ls hM hP hS ⟨hl.1, hl.2.1, by rw [List.length_set]; exact hl.2.2.1, fun j v hv => ?_⟩
  rw [List.getElem?_set] at hv
  split at hv
  · split at hv <;> cases hv
  · exact hl.2.2.2 j v hv
theorem mx_n {a b : Nat} (ha : a < 2 ^ 31) (hb : b < 2 ^ 31) : (if nI a < nI b then nI b else nI a) = nI (if a < b then b else a) := by
  by_cases h : a < b
  · rw [if_pos ((nI_ltI ha hb).mpr h), if_pos h]
  · rw [if_neg (fun q => h ((nI_ltI ha hb).mp q)), if_neg h]
theorem mn_n {a b : Nat} (ha : a < 2 ^ 31) (hb : b < 2 ^ 31) : (if nI b < nI a then nI b else nI a) = nI (if b < a then b else a) := by
  by_cases h : b < a
  · rw [if_pos ((nI_ltI hb ha).mpr h), if_pos h]
  · rw [if_neg (fun q => h ((nI_ltI hb ha).mp q)), if_neg h]
theorem nI_neg {n : Nat} {x : Int32} (h : n < 2 ^ 31) (hx : x < 0) : ¬ nI n = x := fun e => nI_pos h (e ▸ hx)
