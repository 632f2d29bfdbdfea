theorem five_b {k : Nat} (h : k ≤ 3) : 0 < 5 ^ k ∧ 5 ^ k ≤ 125 := ⟨Nat.pow_pos (by decide), Nat.pow_le_pow_right (n := 5) (by decide) h⟩
theorem dgt_lt (row n : Nat) : dgt row n < 5 := Nat.mod_lt _ (by decide)
theorem at_lt {v : Nat} (h : v < 5) : nI v - nI 1 < 0 ↔ v = 0 := by
  have e0 : (0 : Int32).toInt = 0 := rfl
  rw [Int32.lt_iff_toInt_lt, pk_sub_toInt (by omega) (by decide), e0]
  omega
theorem zrow {row n : Nat} (hn : n ≤ 4) (hr : row < 625) : (∀ i, n ≤ i → i < 4 → dgt row i = 0) ↔ row % 5 ^ (4 - n) = 0 := by
  have e : ∀ i, i < 4 → dgt row i = row / 5 ^ (3 - i) % 5 := fun i _ => rfl
  rcases (show n = 0 ∨ n = 1 ∨ n = 2 ∨ n = 3 ∨ n = 4 by omega) with rfl | rfl | rfl | rfl | rfl
  · constructor
    · intro h
      have h0 := h 0 (by omega) (by omega); have h1 := h 1 (by omega) (by omega); have h2 := h 2 (by omega) (by omega); have h3 := h 3 (by omega) (by omega)
      simp [dgt] at h0 h1 h2 h3 ⊢; omega
    · intro h i _ hi
      rcases (show i = 0 ∨ i = 1 ∨ i = 2 ∨ i = 3 by omega) with rfl | rfl | rfl | rfl <;> simp [dgt] at h ⊢ <;> omega
  · constructor
    · intro h
      have h1 := h 1 (by omega) (by omega); have h2 := h 2 (by omega) (by omega); have h3 := h 3 (by omega) (by omega)
      simp [dgt] at h1 h2 h3 ⊢; omega
    · intro h i _ hi
      rcases (show i = 1 ∨ i = 2 ∨ i = 3 by omega) with rfl | rfl | rfl <;> simp [dgt] at h ⊢ <;> omega
  · constructor
    · intro h
      have h2 := h 2 (by omega) (by omega); have h3 := h 3 (by omega) (by omega)
      simp [dgt] at h2 h3 ⊢; omega
    · intro h i _ hi
      rcases (show i = 2 ∨ i = 3 by omega) with rfl | rfl <;> simp [dgt] at h ⊢ <;> omega
  · constructor
    · intro h
      have h3 := h 3 (by omega) (by omega)
      simp [dgt] at h3 ⊢; omega
    · intro h i _ hi
      rcases (show i = 3 by omega) with rfl
      simp [dgt] at h ⊢; omega
  · exact ⟨fun _ => by simp [Nat.mod_one], fun _ i _ _ => by omega⟩
def rdI (o : Option Nat) : Int32 := match o with
  | some n => nI n
  | none => -9
theorem m9_le {m : Nat} (h : m < 2 ^ 31) : (-9 : Int32) ≤ nI m := by
  have e : (-9 : Int32).toInt = -9 := by decide
  rw [Int32.le_iff_toInt_le, nI_toInt h, e]; omega
theorem rdL_le {T : px_T} {M : px_N} {row : Nat} : ∀ {k n : Nat} {l : List Nat} {m : Nat}, rdL T M row k n l = some m → m ≤ n + k
  | 0, n, l, m, h => by simp [rdL] at h; omega
  | k + 1, n, l, m, h => by
    unfold rdL at h
    split at h
    · split at h
      · cases h; omega
      · cases h
    · split at h
      · have := rdL_le h; omega
      · cases h
theorem rdF_b {T : px_T} {M : px_N} : ∀ row, (rdF T M 0 row (0, 0)).1 ≤ row ∧ (rdF T M 0 row (0, 0)).2 ≤ 4
  | 0 => ⟨Nat.le_refl _, (by show (0 : Nat) ≤ 4; decide)⟩
  | row + 1 => by
    have ih := rdF_b (T := T) (M := M) row
    show (rdS T M (0 + row) _).1 ≤ _ ∧ (rdS T M (0 + row) _).2 ≤ 4
    rw [rdS]
    cases h : rdR T M (0 + row) with
    | none => exact ⟨by simp only; omega, ih.2⟩
    | some m =>
      have hm := rdL_le h
      simp only
      split
      · exact ⟨by simp, by simpa using hm⟩
      · exact ⟨by omega, ih.2⟩
theorem rdF_s {T : px_T} {M : px_N} (row : Nat) : rdF T M 0 (row + 1) (0, 0) = rdS T M row (rdF T M 0 row (0, 0)) := by
  show rdS T M (0 + row) _ = _
  rw [Nat.zero_add]
theorem o5_drop : ∀ (k : Nat) {l : List Nat}, (∀ d, d ∈ l → d < 4) → o5 l / 5 ^ k = o5 (l.drop k)
  | 0, l, _ => by simp
  | k + 1, [], _ => by simp [o5]
  | k + 1, a :: l, h => by
    have h2 := h a (List.mem_cons_self ..)
    rw [List.drop_succ_cons, ← o5_drop k (fun d hd => h d (List.mem_cons_of_mem _ hd)), Nat.pow_succ, Nat.mul_comm (5 ^ k) 5, ← Nat.div_div_eq_div_mul]
    congr 1
    rw [o5]
    omega
theorem dgt_B {l : List Nat} (h : ∀ d, d ∈ l → d < 4) (h4 : l.length ≤ 4) {a d : Nat} (ha : a < l.length) (hd : l[l.length - 1 - a]? = some d) : dgt (o5 l * 5 ^ (4 - l.length)) a = d + 1 := by
  have e : 3 - a = (4 - l.length) + (l.length - 1 - a) := by omega
  rw [dgt, e, Nat.pow_add, ← Nat.div_div_eq_div_mul, Nat.mul_div_cancel _ (Nat.pow_pos (by decide)), o5_drop _ h, drop_c hd, o5]
  have := h d (List.mem_of_getElem? hd)
  omega
theorem m_set {m d : Nat} {l : List Nat} (hm : ∀ x, x < 4 → m.testBit x = l.contains x) : ∀ x, x < 4 → (m ||| 2 ^ d).testBit x = (d :: l).contains x := by
  intro x hx
  rw [Nat.testBit_or, hm x hx, Nat.testBit_two_pow, List.contains_cons]
  by_cases e : d = x
  · subst e; simp
  · have : ¬ x = d := fun q => e q.symm
    simp [e, this]
set_option maxHeartbeats 200000 in
theorem ct_X7_fives {g : px_G} {w : px_W} {Q : px_Q} {n : Nat} (hn : n ≤ 3) (hQ : Q (some (.int (nI (5 ^ n)))) w) : Ct g yX7_fives cX7_fives 3 (some .int) 1 0 0 [.int (nI n)] w Q := by
  refine Ct.of kX7_fives (by omega) (lo := [some (.int (nI n)), none, none]) rfl (px_cat1 rfl) (Nat.le_of_ble_eq_true rfl) ?_
  refine r_iconst (pc' := 1) (v := nI 1) dX7_fives_0 rfl rfl ?_
  refine r_istore_n (pc' := 2) (lo' := [some (.int (nI n)), some (.int (nI 1)), none]) dX7_fives_1 rfl (by decide) rfl ?_
  refine r_iconst (pc' := 3) (v := nI 0) dX7_fives_2 rfl rfl ?_
  refine r_istore_n (pc' := 4) (lo' := [some (.int (nI n)), some (.int (nI 1)), some (.int (nI 0))]) dX7_fives_3 rfl (by decide) rfl ?_
  have L4 : ∀ (fu : Nat) (k : Nat), n - k < fu → k ≤ n → Wp g yX7_fives cX7_fives 3 (some .int) 1 0 0 (px_MQ g Q 0 0) 0 0 4 [some (.int (nI n)), some (.int (nI (5 ^ k))), some (.int (nI k))] [] w := by
    intro fu; induction fu with
    | zero => intro k hm; exact absurd hm (Nat.not_lt_zero _)
    | succ fu ih =>
      intro k hm hk
      have ih4 := ih; clear ih
      refine r_iload_n (pc' := 5) dX7_fives_4 rfl rfl ?_
      refine r_iload_n (pc' := 6) dX7_fives_5 rfl rfl ?_
      refine r_icmp_ge (pc' := 9) (P := n ≤ k) (tgt := 19) dX7_fives_6 (by decide) rfl (nI_leI (a := n) (b := k) (by omega) (by omega)) (fun h6 => ?_) (fun h6 => ?_)
      · obtain rfl : k = n := by omega
        refine r_iload_n (pc' := 20) dX7_fives_19 rfl rfl ?_
        refine r_ireturn dX7_fives_20 rfl ?_
        exact hQ
      · skip
        refine r_iload_n (pc' := 10) dX7_fives_9 rfl rfl ?_
        refine r_iconst (pc' := 11) (v := nI 5) dX7_fives_10 rfl rfl ?_
        refine r_imul (pc' := 12) (v := nI ((5 ^ k) * 5)) dX7_fives_11 rfl (pk_mul (5 ^ k) 5) ?_
        refine r_istore_n (pc' := 13) (lo' := [some (.int (nI n)), some (.int (nI ((5 ^ k) * 5))), some (.int (nI k))]) dX7_fives_12 rfl (by decide) rfl ?_
        refine r_iinc (pc' := 16) (lo' := [some (.int (nI n)), some (.int (nI ((5 ^ k) * 5))), some (.int (nI (k + 1)))]) dX7_fives_13 rfl (by decide) rfl (nI_add k 1) rfl ?_
        refine r_goto (tgt := 4) dX7_fives_16 (by decide) ?_
        rw [← Nat.pow_succ]
        exact ih4 (k + 1) (by omega) (by omega)
  exact L4 ((n) + 1) 0 (Nat.lt_succ_self _) (by omega)
set_option maxHeartbeats 200000 in
theorem ct_X7_at {g : px_G} {w : px_W} {Q : px_Q} {row n : Nat} (hr : row < 625) (hn : n ≤ 3) (hQ : Q (some (.int (nI (dgt row n) - nI 1))) w) : Ct g yX7_at cX7_at 2 (some .int) 2 0 0 [.int (nI row), .int (nI n)] w Q := by
  refine Ct.of kX7_at (by omega) (lo := [some (.int (nI row)), some (.int (nI n))]) rfl (px_cat1 rfl) (Nat.le_of_ble_eq_true rfl) ?_
  refine r_iload_n (pc' := 1) dX7_at_0 rfl rfl ?_
  refine r_iconst (pc' := 2) (v := nI 3) dX7_at_1 rfl rfl ?_
  refine r_iload_n (pc' := 3) dX7_at_2 rfl rfl ?_
  refine r_isub (pc' := 4) (v := nI (3 - n)) dX7_at_3 rfl (pk_sub (a := 3) (b := n) (by omega)) ?_
  refine r_callS (pc' := 7) (av := [.int (nI (3 - n))]) (rest := [.int (nI row)]) kX7_fives vX7_fives lX7_172 dX7_at_4 rfl rfl rfl ⟨by decide, by decide, by decide⟩ rfl rfl (Nat.le_of_ble_eq_true rfl) (ct_X7_fives (n := 3 - n) (by omega) ?_)
  show Wp g yX7_at cX7_at 2 (some .int) 2 0 0 (px_MQ g Q 0 0) 0 0 7 [some (.int (nI row)), some (.int (nI n))] [.int (nI (5 ^ (3 - n))), .int (nI row)] w
  have e4 := five_b (k := 3 - n) (by omega)
  refine r_idiv (pc' := 8) (v := nI (row / (5 ^ (3 - n)))) dX7_at_7 rfl (nI_ne0 (n := 5 ^ (3 - n)) (by omega) (by omega)) (pk_div (a := row) (d := 5 ^ (3 - n)) (by omega) (by omega) (by omega)) ?_
  have e7 : row / 5 ^ (3 - n) < 625 := Nat.lt_of_le_of_lt (Nat.div_le_self _ _) hr
  refine r_iconst (pc' := 9) (v := nI 5) dX7_at_8 rfl rfl ?_
  refine r_irem (pc' := 10) (v := nI (dgt row n)) dX7_at_9 rfl (nI_ne0 (n := 5) (by omega) (by omega)) (pk_rem (a := row / 5 ^ (3 - n)) (d := 5) (by omega) (by omega) (by omega)) ?_
  refine r_iconst (pc' := 11) (v := nI 1) dX7_at_10 rfl rfl ?_
  refine r_isub (pc' := 12) (v := (nI (dgt row n)) - (nI 1)) dX7_at_11 rfl (rfl) ?_
  refine r_ireturn dX7_at_12 rfl ?_
  exact hQ
theorem ct_at_p {g : px_G} {w : px_W} {Q : px_Q} {row n : Nat} (hr : row < 625) (hn : n ≤ 3) {d : Nat} (hd : dgt row n = d + 1) (hQ : Q (some (.int (nI d))) w) : Ct g yX7_at cX7_at 2 (some .int) 2 0 0 [.int (nI row), .int (nI n)] w Q := ct_X7_at hr hn (by rw [hd]; exact px_eqN (a := d + 1 - 1) hQ (by omega) |> fun h => by rw [pk_sub (a := d + 1) (b := 1) (by omega)]; exact h)
set_option maxHeartbeats 200000 in
theorem ct_X7_readBy {g : px_G} {w : px_W} {Q : px_Q} {tr : Int64} {ty nx tk pl va fa um : Int32} {T : px_T} {M : px_N} (hX : w[60]? = some (mobj tr ty nx tk pl va fa um)) (hT : MtA w T) (hO : TOK T) (hM : MnA w M) {row : Nat} (hr : row < 625) (hQ : Q (some (.int (rdI (rdR T M row)))) w) : Ct g yX7_readBy cX7_readBy 7 (some .int) 4 0 0 [.ref 60, .int (nI row)] w Q := by
  refine Ct.of kX7_readBy (by omega) (lo := [some (.ref 60), some (.int (nI row)), none, none, none, none, none]) rfl (px_cat1 rfl) (Nat.le_of_ble_eq_true rfl) ?_
  obtain ⟨fm, fz, fl, fs, fd, g0, g1, g2, g3, ⟨c1, c2, c3, c4, c5, c6, c7, c8, c9⟩, ma, mz, ml, md, mg, ⟨sb1, sb2, sb3⟩, sb4, sb5⟩ := id hT
  obtain ⟨fn, cn, hf, mB1, mB2, mB3⟩ := id hM
  refine r_iconst (pc' := 1) (v := nI 0) dX7_readBy_0 rfl rfl ?_
  refine r_istore_n (pc' := 2) (lo' := [some (.ref 60), some (.int (nI row)), some (.int (nI 0)), none, none, none, none]) dX7_readBy_1 rfl (by decide) rfl ?_
  refine r_aload_n (pc' := 3) dX7_readBy_2 rfl rfl ?_
  refine r_get (pc' := 6) fX7_40 dX7_readBy_3 rfl hX rfl ?_
  refine r_bipush (pc' := 8) (v := nI 36) dX7_readBy_6 rfl rfl ?_
  refine r_iaload (pc' := 9) (v := nI (nh M)) dX7_readBy_8 rfl cn (vp_in_nI (n := 36) (by omega) (by omega)) (by rw [nI_cl (by omega), hf _ (by omega), sv_h]) ?_
  refine r_istore_n (pc' := 10) (lo' := [some (.ref 60), some (.int (nI row)), some (.int (nI 0)), some (.int (nI (nh M))), none, none, none]) dX7_readBy_9 rfl (by decide) rfl ?_
  refine r_iconst (pc' := 11) (v := nI 0) dX7_readBy_10 rfl rfl ?_
  refine r_istore (pc' := 13) (lo' := [some (.ref 60), some (.int (nI row)), some (.int (nI 0)), some (.int (nI (nh M))), some (.int (nI 0)), none, none]) dX7_readBy_11 rfl (by decide) rfl ?_
  have L13 : ∀ (fu : Nat) (n k mt : Nat) (l : List Nat), k < fu → n + k = 4 → l.length = n → Vl T M l → rdR T M row = rdL T M row k n l → (∀ b r, l = b :: r → dgt row (n - 1) = b + 1) → mt < 16 → (∀ x, x < 4 → mt.testBit x = l.contains x) → Wp g yX7_readBy cX7_readBy 7 (some .int) 4 0 0 (px_MQ g Q 0 0) 0 0 13 [some (.ref 60), some (.int (nI row)), some (.int (nI n)), some (.int (nI (en M l))), some (.int (nI mt)), none, none] [] w := by
    intro fu; induction fu with
    | zero => intro n k mt l hm; exact absurd hm (Nat.not_lt_zero _)
    | succ fu ih =>
      intro n k mt l hm hnk hln hV hrd hhd hmt hmb
      have e2 := en_le sb2 mB3 hV
      have ih13 := ih; clear ih
      refine r_iload_n (pc' := 14) dX7_readBy_13 rfl rfl ?_
      refine r_iconst (pc' := 15) (v := nI 4) dX7_readBy_14 rfl rfl ?_
      refine r_icmp_ge (pc' := 18) (P := 4 ≤ n) (tgt := 124) dX7_readBy_15 (by decide) rfl (nI_leI (a := 4) (b := n) (by omega) (by omega)) (fun h15 => ?_) (fun h15 => ?_)
      · skip
        refine r_iload_n (pc' := 125) dX7_readBy_124 rfl rfl ?_
        refine r_istore (pc' := 127) (lo' := [some (.ref 60), some (.int (nI row)), some (.int (nI n)), some (.int (nI (en M l))), some (.int (nI mt)), some (.int (nI n)), none]) dX7_readBy_125 rfl (by decide) rfl ?_
        have L127 : ∀ (fu : Nat) (j : Nat), 4 - j < fu → j ≤ 4 → n ≤ j → (∀ i, n ≤ i → i < j → dgt row i = 0) → Wp g yX7_readBy cX7_readBy 7 (some .int) 4 0 0 (px_MQ g Q 0 0) 0 0 127 [some (.ref 60), some (.int (nI row)), some (.int (nI n)), some (.int (nI (en M l))), some (.int (nI mt)), some (.int (nI j)), none] [] w := by
          intro fu; induction fu with
          | zero => intro j hm; exact absurd hm (Nat.not_lt_zero _)
          | succ fu ih =>
            intro j hm hj hnj hz
            have ih127 := ih; clear ih
            refine r_iload (pc' := 129) dX7_readBy_127 rfl rfl ?_
            refine r_iconst (pc' := 130) (v := nI 4) dX7_readBy_129 rfl rfl ?_
            refine r_icmp_ge (pc' := 133) (P := 4 ≤ j) (tgt := 151) dX7_readBy_130 (by decide) rfl (nI_leI (a := 4) (b := j) (by omega) (by omega)) (fun h130 => ?_) (fun h130 => ?_)
            · skip
              refine r_iload_n (pc' := 152) dX7_readBy_151 rfl rfl ?_
              refine r_ireturn dX7_readBy_152 rfl ?_
              refine px_eq hQ ?_
              have hz4 := (zrow (by omega) hr).mp (fun i h1 h2 => hz i h1 (by omega))
              cases k with
              | zero => rw [hrd, rdL]; rfl
              | succ k =>
                rw [show 4 - n = k + 1 by omega] at hz4
                rw [hrd, rdL, if_pos (hz n (by omega) (by omega)), if_pos hz4]; rfl
            · skip
              refine r_iload_n (pc' := 134) dX7_readBy_133 rfl rfl ?_
              refine r_iload (pc' := 136) dX7_readBy_134 rfl rfl ?_
              refine r_callS (pc' := 139) (av := [.int (nI row), .int (nI j)]) (rest := []) kX7_at vX7_at lX7_175 dX7_readBy_136 rfl rfl rfl ⟨by decide, by decide, by decide⟩ rfl rfl (Nat.le_of_ble_eq_true rfl) (ct_X7_at hr (by omega) ?_)
              show Wp g yX7_readBy cX7_readBy 7 (some .int) 4 0 0 (px_MQ g Q 0 0) 0 0 139 [some (.ref 60), some (.int (nI row)), some (.int (nI n)), some (.int (nI (en M l))), some (.int (nI mt)), some (.int (nI j)), none] [.int ((nI (dgt row j)) - (nI 1))] w
              have e136 := dgt_lt row j
              refine r_if_lt (pc' := 142) (P := dgt row j = 0) (tgt := 145) dX7_readBy_139 (by decide) rfl (at_lt (dgt_lt row j)) (fun h139 => ?_) (fun h139 => ?_)
              · skip
                refine r_iinc (pc' := 148) (lo' := [some (.ref 60), some (.int (nI row)), some (.int (nI n)), some (.int (nI (en M l))), some (.int (nI mt)), some (.int (nI (j + 1))), none]) dX7_readBy_145 rfl (by decide) rfl (nI_add j 1) rfl ?_
                refine r_goto (tgt := 127) dX7_readBy_148 (by decide) ?_
                exact ih127 (j + 1) (by omega) (by omega) (by omega) (fun i h1 h2 => by rcases (show i < j ∨ i = j by omega) with q | rfl; exact hz i h1 q; exact h139)
              · skip
                refine r_bipush (pc' := 144) (v := (-9)) dX7_readBy_142 rfl rfl ?_
                refine r_ireturn dX7_readBy_144 rfl ?_
                refine px_eq hQ ?_
                cases k with
                | zero => exact absurd hnj (by omega)
                | succ k =>
                  have hz4 : ¬ row % 5 ^ (k + 1) = 0 := fun q => h139 ((zrow (n := n) (by omega) hr).mpr (by rw [show 4 - n = k + 1 by omega]; exact q) j hnj (by omega))
                  first | (rw [hrd, rdL, if_pos h23, if_neg hz4]; done) | (rw [hrd, rdL, if_pos h23, if_neg hz4]; rfl) | omega
        exact L127 ((4) + 1) n (by omega) (by omega) (by omega) (fun i h1 h2 => by omega)
      · skip
        refine r_iload_n (pc' := 19) dX7_readBy_18 rfl rfl ?_
        refine r_iload_n (pc' := 20) dX7_readBy_19 rfl rfl ?_
        refine r_callS (pc' := 23) (av := [.int (nI row), .int (nI n)]) (rest := []) kX7_at vX7_at lX7_175 dX7_readBy_20 rfl rfl rfl ⟨by decide, by decide, by decide⟩ rfl rfl (Nat.le_of_ble_eq_true rfl) (ct_X7_at hr (by omega) ?_)
        show Wp g yX7_readBy cX7_readBy 7 (some .int) 4 0 0 (px_MQ g Q 0 0) 0 0 23 [some (.ref 60), some (.int (nI row)), some (.int (nI n)), some (.int (nI (en M l))), some (.int (nI mt)), none, none] [.int ((nI (dgt row n)) - (nI 1))] w
        have e20 := dgt_lt row n
        refine r_if_lt (pc' := 26) (P := dgt row n = 0) (tgt := 124) dX7_readBy_23 (by decide) rfl (at_lt (dgt_lt row n)) (fun h23 => ?_) (fun h23 => ?_)
        · skip
          refine r_iload_n (pc' := 125) dX7_readBy_124 rfl rfl ?_
          refine r_istore (pc' := 127) (lo' := [some (.ref 60), some (.int (nI row)), some (.int (nI n)), some (.int (nI (en M l))), some (.int (nI mt)), some (.int (nI n)), none]) dX7_readBy_125 rfl (by decide) rfl ?_
          have L127 : ∀ (fu : Nat) (j : Nat), 4 - j < fu → j ≤ 4 → n ≤ j → (∀ i, n ≤ i → i < j → dgt row i = 0) → Wp g yX7_readBy cX7_readBy 7 (some .int) 4 0 0 (px_MQ g Q 0 0) 0 0 127 [some (.ref 60), some (.int (nI row)), some (.int (nI n)), some (.int (nI (en M l))), some (.int (nI mt)), some (.int (nI j)), none] [] w := by
            intro fu; induction fu with
            | zero => intro j hm; exact absurd hm (Nat.not_lt_zero _)
            | succ fu ih =>
              intro j hm hj hnj hz
              have ih127 := ih; clear ih
              refine r_iload (pc' := 129) dX7_readBy_127 rfl rfl ?_
              refine r_iconst (pc' := 130) (v := nI 4) dX7_readBy_129 rfl rfl ?_
              refine r_icmp_ge (pc' := 133) (P := 4 ≤ j) (tgt := 151) dX7_readBy_130 (by decide) rfl (nI_leI (a := 4) (b := j) (by omega) (by omega)) (fun h130 => ?_) (fun h130 => ?_)
              · skip
                refine r_iload_n (pc' := 152) dX7_readBy_151 rfl rfl ?_
                refine r_ireturn dX7_readBy_152 rfl ?_
                refine px_eq hQ ?_
                have hz4 := (zrow (by omega) hr).mp (fun i h1 h2 => hz i h1 (by omega))
                cases k with
                | zero => rw [hrd, rdL]; rfl
                | succ k =>
                  rw [show 4 - n = k + 1 by omega] at hz4
                  rw [hrd, rdL, if_pos (hz n (by omega) (by omega)), if_pos hz4]; rfl
              · skip
                refine r_iload_n (pc' := 134) dX7_readBy_133 rfl rfl ?_
                refine r_iload (pc' := 136) dX7_readBy_134 rfl rfl ?_
                refine r_callS (pc' := 139) (av := [.int (nI row), .int (nI j)]) (rest := []) kX7_at vX7_at lX7_175 dX7_readBy_136 rfl rfl rfl ⟨by decide, by decide, by decide⟩ rfl rfl (Nat.le_of_ble_eq_true rfl) (ct_X7_at hr (by omega) ?_)
                show Wp g yX7_readBy cX7_readBy 7 (some .int) 4 0 0 (px_MQ g Q 0 0) 0 0 139 [some (.ref 60), some (.int (nI row)), some (.int (nI n)), some (.int (nI (en M l))), some (.int (nI mt)), some (.int (nI j)), none] [.int ((nI (dgt row j)) - (nI 1))] w
                have e136 := dgt_lt row j
                refine r_if_lt (pc' := 142) (P := dgt row j = 0) (tgt := 145) dX7_readBy_139 (by decide) rfl (at_lt (dgt_lt row j)) (fun h139 => ?_) (fun h139 => ?_)
                · skip
                  refine r_iinc (pc' := 148) (lo' := [some (.ref 60), some (.int (nI row)), some (.int (nI n)), some (.int (nI (en M l))), some (.int (nI mt)), some (.int (nI (j + 1))), none]) dX7_readBy_145 rfl (by decide) rfl (nI_add j 1) rfl ?_
                  refine r_goto (tgt := 127) dX7_readBy_148 (by decide) ?_
                  exact ih127 (j + 1) (by omega) (by omega) (by omega) (fun i h1 h2 => by rcases (show i < j ∨ i = j by omega) with q | rfl; exact hz i h1 q; exact h139)
                · skip
                  refine r_bipush (pc' := 144) (v := (-9)) dX7_readBy_142 rfl rfl ?_
                  refine r_ireturn dX7_readBy_144 rfl ?_
                  refine px_eq hQ ?_
                  cases k with
                  | zero => exact absurd hnj (by omega)
                  | succ k =>
                    have hz4 : ¬ row % 5 ^ (k + 1) = 0 := fun q => h139 ((zrow (n := n) (by omega) hr).mpr (by rw [show 4 - n = k + 1 by omega]; exact q) j hnj (by omega))
                    first | (rw [hrd, rdL, if_pos h23, if_neg hz4]; done) | (rw [hrd, rdL, if_pos h23, if_neg hz4]; rfl) | omega
          exact L127 ((4) + 1) n (by omega) (by omega) (by omega) (fun i h1 h2 => by omega)
        · skip
          refine r_iload_n (pc' := 27) dX7_readBy_26 rfl rfl ?_
          refine r_iload_n (pc' := 28) dX7_readBy_27 rfl rfl ?_
          obtain ⟨d, hd⟩ : ∃ d, dgt row n = d + 1 := ⟨dgt row n - 1, by omega⟩
          obtain ⟨k, rfl⟩ : ∃ k', k = k' + 1 := ⟨k - 1, by omega⟩
          refine r_callS (pc' := 31) (av := [.int (nI row), .int (nI n)]) (rest := []) kX7_at vX7_at lX7_175 dX7_readBy_28 rfl rfl rfl ⟨by decide, by decide, by decide⟩ rfl rfl (Nat.le_of_ble_eq_true rfl) (ct_at_p hr (by omega) hd ?_)
          show Wp g yX7_readBy cX7_readBy 7 (some .int) 4 0 0 (px_MQ g Q 0 0) 0 0 31 [some (.ref 60), some (.int (nI row)), some (.int (nI n)), some (.int (nI (en M l))), some (.int (nI mt)), none, none] [.int (nI d)] w
          refine r_istore (pc' := 33) (lo' := [some (.ref 60), some (.int (nI row)), some (.int (nI n)), some (.int (nI (en M l))), some (.int (nI mt)), some (.int (nI d)), none]) dX7_readBy_31 rfl (by decide) rfl ?_
          refine r_iload_n (pc' := 34) dX7_readBy_33 rfl rfl ?_
          refine r_if_ne (pc' := 37) (P := n = 0) (tgt := 42) dX7_readBy_34 (by decide) rfl (nI_eq0 (n := n) (by omega)) (fun h34 => ?_) (fun h34 => ?_)
          · obtain ⟨b, r, hle⟩ : ∃ b r, l = b :: r := by cases l with
              | nil => simp at hln; omega
              | cons b r => exact ⟨b, r, rfl⟩
            have hb4 := hV.d4 sb2 b (by rw [hle]; exact List.mem_cons_self ..)
            refine r_iload_n (pc' := 43) dX7_readBy_42 rfl rfl ?_
            refine r_iload_n (pc' := 44) dX7_readBy_43 rfl rfl ?_
            refine r_iconst (pc' := 45) (v := nI 1) dX7_readBy_44 rfl rfl ?_
            refine r_isub (pc' := 46) (v := nI (n - 1)) dX7_readBy_45 rfl (pk_sub (a := n) (b := 1) (by omega)) ?_
            refine r_callS (pc' := 49) (av := [.int (nI row), .int (nI (n - 1))]) (rest := []) kX7_at vX7_at lX7_175 dX7_readBy_46 rfl rfl rfl ⟨by decide, by decide, by decide⟩ rfl rfl (Nat.le_of_ble_eq_true rfl) (ct_at_p hr (by omega) (hhd b r hle) ?_)
            show Wp g yX7_readBy cX7_readBy 7 (some .int) 4 0 0 (px_MQ g Q 0 0) 0 0 49 [some (.ref 60), some (.int (nI row)), some (.int (nI n)), some (.int (nI (en M l))), some (.int (nI mt)), some (.int (nI d)), none] [.int (nI b)] w
            refine r_istore (pc' := 51) (lo' := [some (.ref 60), some (.int (nI row)), some (.int (nI n)), some (.int (nI (en M l))), some (.int (nI mt)), some (.int (nI d)), some (.int (nI b))]) dX7_readBy_49 rfl (by decide) rfl ?_
            refine r_iload_n (pc' := 52) dX7_readBy_51 rfl rfl ?_
            refine r_iconst (pc' := 53) (v := nI 1) dX7_readBy_52 rfl rfl ?_
            refine r_iload (pc' := 55) dX7_readBy_53 rfl rfl ?_
            refine r_iload (pc' := 57) dX7_readBy_55 rfl rfl ?_
            refine r_icmp_le (pc' := 60) (P := d ≤ b) (tgt := 68) dX7_readBy_57 (by decide) rfl (nI_leI (a := d) (b := b) (by omega) (by omega)) (fun h57 => ?_) (fun h57 => ?_)
            · skip
              refine r_iload (pc' := 70) dX7_readBy_68 rfl rfl ?_
              refine r_iload (pc' := 72) dX7_readBy_70 rfl rfl ?_
              refine r_isub (pc' := 73) (v := nI (b - d)) dX7_readBy_72 rfl (pk_sub (a := b) (b := d) (by omega)) ?_
              refine r_iadd (pc' := 74) (v := nI (1 + (b - d))) dX7_readBy_73 rfl (nI_add 1 (b - d)) ?_
              refine r_iadd (pc' := 75) (v := nI (enx M l (en M l) d)) dX7_readBy_74 rfl ((nI_add _ _).trans (congrArg nI (by first | (rw [hl0, enx]; omega) | (rw [hle, enx, adf]; split <;> omega)))) ?_
              have e74 := (enx_lt (e := en M l) (d := d) sb2 hV (by omega)).1
              refine r_istore_n (pc' := 76) (lo' := [some (.ref 60), some (.int (nI row)), some (.int (nI n)), some (.int (nI (enx M l (en M l) d))), some (.int (nI mt)), some (.int (nI d)), some (.int (nI b))]) dX7_readBy_75 rfl (by decide) rfl ?_
              refine r_aload_n (pc' := 77) dX7_readBy_76 rfl rfl ?_
              refine r_iload (pc' := 79) dX7_readBy_77 rfl rfl ?_
              refine r_callV (pc' := 82) (av := [.int (nI d)]) (rest := []) kX7_isDrive vX7_isDrive lX7_150 dX7_readBy_79 rfl hX rfl rfl rfl ⟨by decide, by decide, by decide⟩ rfl rfl (Nat.le_of_ble_eq_true rfl) (ct_X7_isDrive hX hT hO hM  ?_)
              show Wp g yX7_readBy cX7_readBy 7 (some .int) 4 0 0 (px_MQ g Q 0 0) 0 0 82 [some (.ref 60), some (.int (nI row)), some (.int (nI n)), some (.int (nI (enx M l (en M l) d))), some (.int (nI mt)), some (.int (nI d)), some (.int (nI b))] [.int (bI (hasI (nI d) (tD T)))] w
              refine r_if_eq (pc' := 85) (P := (hasI (nI d) (tD T)) = false) (tgt := 106) dX7_readBy_82 (by decide) rfl (bI_0) (fun h82 => ?_) (fun h82 => ?_)
              · have h82q : ¬ d < tD T := by rw [hasI_n (by omega)] at h82; simpa using h82
                refine r_bipush (pc' := 108) (v := (-9)) dX7_readBy_106 rfl rfl ?_
                refine r_ireturn dX7_readBy_108 rfl ?_
                have hv : ¬ vst T M l d = true := by
                  first | exact vst_i h103 | (intro q; simp [vst] at q; omega) | (refine vst_c ?_; rw [← hmb d (by omega)]; simp [h93])
                refine px_eq hQ ?_
                rw [hrd, rdL, if_neg h23, hd, Nat.add_sub_cancel, if_neg hv]; rfl
              · have h82q : d < tD T := by rw [hasI_n (by omega)] at h82; simpa using h82
                refine r_iload (pc' := 87) dX7_readBy_85 rfl rfl ?_
                refine r_iload (pc' := 89) dX7_readBy_87 rfl rfl ?_
                refine r_ishr (pc' := 90) (v := nI (mt / 2 ^ d)) dX7_readBy_89 rfl (shr_n (a := mt) (b := d) (by omega) (by omega)) ?_
                refine r_iconst (pc' := 91) (v := nI 1) dX7_readBy_90 rfl rfl ?_
                refine r_iand (pc' := 92) (v := nI ((mt / 2 ^ d) &&& 1)) dX7_readBy_91 rfl (and_n (mt / 2 ^ d) 1) ?_
                refine r_iconst (pc' := 93) (v := nI 1) dX7_readBy_92 rfl rfl ?_
                refine r_icmp_eq (pc' := 96) (P := (mt).testBit d = true) (tgt := 106) dX7_readBy_93 (by decide) rfl ((nI_eq (a := mt / 2 ^ d &&& 1) (b := 1) (and_lt31 (Nat.lt_of_le_of_lt (Nat.div_le_self _ _) (by omega))) (by omega)).trans (by rw [tb_eq, Nat.and_one_is_mod, decide_eq_true_iff])) (fun h93 => ?_) (fun h93 => ?_)
                · skip
                  refine r_bipush (pc' := 108) (v := (-9)) dX7_readBy_106 rfl rfl ?_
                  refine r_ireturn dX7_readBy_108 rfl ?_
                  have hv : ¬ vst T M l d = true := by
                    first | exact vst_i h103 | (intro q; simp [vst] at q; omega) | (refine vst_c ?_; rw [← hmb d (by omega)]; simp [h93])
                  refine px_eq hQ ?_
                  rw [hrd, rdL, if_neg h23, hd, Nat.add_sub_cancel, if_neg hv]; rfl
                · skip
                  refine r_aload_n (pc' := 97) dX7_readBy_96 rfl rfl ?_
                  refine r_iload (pc' := 99) dX7_readBy_97 rfl rfl ?_
                  refine r_iload_n (pc' := 100) dX7_readBy_99 rfl rfl ?_
                  refine r_callV (pc' := 103) (av := [.int (nI d), .int (nI (enx M l (en M l) d))]) (rest := []) kX7_isInTime vX7_isInTime lX7_178 dX7_readBy_100 rfl hX rfl rfl rfl ⟨by decide, by decide, by decide⟩ rfl rfl (Nat.le_of_ble_eq_true rfl) (ct_X7_isInTime hX hT hO hM (d := d) (e := enx M l (en M l) d) (by omega) (by omega) ?_)
                  show Wp g yX7_readBy cX7_readBy 7 (some .int) 4 0 0 (px_MQ g Q 0 0) 0 0 103 [some (.ref 60), some (.int (nI row)), some (.int (nI n)), some (.int (nI (enx M l (en M l) d))), some (.int (nI mt)), some (.int (nI d)), some (.int (nI b))] [.int (bI (inT T M d (enx M l (en M l) d)))] w
                  refine r_if_ne (pc' := 106) (P := (inT T M d (enx M l (en M l) d)) = false) (tgt := 109) dX7_readBy_103 (by decide) rfl (bI_0) (fun h103 => ?_) (fun h103 => ?_)
                  · have h103' : inT T M d (enx M l (en M l) d) = true := by simpa using h103
                    refine r_iload (pc' := 111) dX7_readBy_109 rfl rfl ?_
                    refine r_iconst (pc' := 112) (v := nI 1) dX7_readBy_111 rfl rfl ?_
                    refine r_iload (pc' := 114) dX7_readBy_112 rfl rfl ?_
                    refine r_ishl (pc' := 115) (v := nI (2 ^ d)) dX7_readBy_114 rfl (shl1_n (b := d) (by omega)) ?_
                    refine r_ior (pc' := 116) (v := nI (mt ||| (2 ^ d))) dX7_readBy_115 rfl (or_n mt (2 ^ d)) ?_
                    refine r_istore (pc' := 118) (lo' := [some (.ref 60), some (.int (nI row)), some (.int (nI n)), some (.int (nI (enx M l (en M l) d))), some (.int (nI (mt ||| (2 ^ d)))), some (.int (nI d)), some (.int (nI b))]) dX7_readBy_116 rfl (by decide) rfl ?_
                    refine r_iinc (pc' := 121) (lo' := [some (.ref 60), some (.int (nI row)), some (.int (nI (n + 1))), some (.int (nI (enx M l (en M l) d))), some (.int (nI (mt ||| (2 ^ d)))), some (.int (nI d)), some (.int (nI b))]) dX7_readBy_118 rfl (by decide) rfl (nI_add n 1) rfl ?_
                    refine r_goto (tgt := 13) dX7_readBy_121 (by decide) ?_
                    have hv : vst T M l d = true := by
                      have hc : l.contains d = false := by rw [← hmb d (by omega)]; simpa using h93
                      rw [vst, hc, h103']; simp; omega
                    have hi := ih13 (n + 1) k (mt ||| 2 ^ d) (d :: l) (by omega) (by omega) (by rw [List.length_cons, hln]) ⟨hv, hV⟩ (by rw [hrd, rdL, if_neg h23, hd, Nat.add_sub_cancel, if_pos hv]) (fun b r h => by injection h with h1 _; rw [← h1]; exact hd) (Nat.or_lt_two_pow (n := 4) hmt (Nat.pow_lt_pow_right (n := 4) (by decide) (by omega))) (m_set hmb)
                    refine r_drop 5 rfl ?_
                    refine r_drop 6 rfl ?_
                    exact hi
                  · skip
                    refine r_bipush (pc' := 108) (v := (-9)) dX7_readBy_106 rfl rfl ?_
                    refine r_ireturn dX7_readBy_108 rfl ?_
                    have hv : ¬ vst T M l d = true := by
                      first | exact vst_i h103 | (intro q; simp [vst] at q; omega) | (refine vst_c ?_; rw [← hmb d (by omega)]; simp [h93])
                    refine px_eq hQ ?_
                    rw [hrd, rdL, if_neg h23, hd, Nat.add_sub_cancel, if_neg hv]; rfl
            · skip
              refine r_iload (pc' := 62) dX7_readBy_60 rfl rfl ?_
              refine r_iload (pc' := 64) dX7_readBy_62 rfl rfl ?_
              refine r_isub (pc' := 65) (v := nI (d - b)) dX7_readBy_64 rfl (pk_sub (a := d) (b := b) (by omega)) ?_
              refine r_goto (tgt := 73) dX7_readBy_65 (by decide) ?_
              refine r_iadd (pc' := 74) (v := nI (1 + (d - b))) dX7_readBy_73 rfl (nI_add 1 (d - b)) ?_
              refine r_iadd (pc' := 75) (v := nI (enx M l (en M l) d)) dX7_readBy_74 rfl ((nI_add _ _).trans (congrArg nI (by first | (rw [hl0, enx]; omega) | (rw [hle, enx, adf]; split <;> omega)))) ?_
              have e74 := (enx_lt (e := en M l) (d := d) sb2 hV (by omega)).1
              refine r_istore_n (pc' := 76) (lo' := [some (.ref 60), some (.int (nI row)), some (.int (nI n)), some (.int (nI (enx M l (en M l) d))), some (.int (nI mt)), some (.int (nI d)), some (.int (nI b))]) dX7_readBy_75 rfl (by decide) rfl ?_
              refine r_aload_n (pc' := 77) dX7_readBy_76 rfl rfl ?_
              refine r_iload (pc' := 79) dX7_readBy_77 rfl rfl ?_
              refine r_callV (pc' := 82) (av := [.int (nI d)]) (rest := []) kX7_isDrive vX7_isDrive lX7_150 dX7_readBy_79 rfl hX rfl rfl rfl ⟨by decide, by decide, by decide⟩ rfl rfl (Nat.le_of_ble_eq_true rfl) (ct_X7_isDrive hX hT hO hM  ?_)
              show Wp g yX7_readBy cX7_readBy 7 (some .int) 4 0 0 (px_MQ g Q 0 0) 0 0 82 [some (.ref 60), some (.int (nI row)), some (.int (nI n)), some (.int (nI (enx M l (en M l) d))), some (.int (nI mt)), some (.int (nI d)), some (.int (nI b))] [.int (bI (hasI (nI d) (tD T)))] w
              refine r_if_eq (pc' := 85) (P := (hasI (nI d) (tD T)) = false) (tgt := 106) dX7_readBy_82 (by decide) rfl (bI_0) (fun h82 => ?_) (fun h82 => ?_)
              · have h82q : ¬ d < tD T := by rw [hasI_n (by omega)] at h82; simpa using h82
                refine r_bipush (pc' := 108) (v := (-9)) dX7_readBy_106 rfl rfl ?_
                refine r_ireturn dX7_readBy_108 rfl ?_
                have hv : ¬ vst T M l d = true := by
                  first | exact vst_i h103 | (intro q; simp [vst] at q; omega) | (refine vst_c ?_; rw [← hmb d (by omega)]; simp [h93])
                refine px_eq hQ ?_
                rw [hrd, rdL, if_neg h23, hd, Nat.add_sub_cancel, if_neg hv]; rfl
              · have h82q : d < tD T := by rw [hasI_n (by omega)] at h82; simpa using h82
                refine r_iload (pc' := 87) dX7_readBy_85 rfl rfl ?_
                refine r_iload (pc' := 89) dX7_readBy_87 rfl rfl ?_
                refine r_ishr (pc' := 90) (v := nI (mt / 2 ^ d)) dX7_readBy_89 rfl (shr_n (a := mt) (b := d) (by omega) (by omega)) ?_
                refine r_iconst (pc' := 91) (v := nI 1) dX7_readBy_90 rfl rfl ?_
                refine r_iand (pc' := 92) (v := nI ((mt / 2 ^ d) &&& 1)) dX7_readBy_91 rfl (and_n (mt / 2 ^ d) 1) ?_
                refine r_iconst (pc' := 93) (v := nI 1) dX7_readBy_92 rfl rfl ?_
                refine r_icmp_eq (pc' := 96) (P := (mt).testBit d = true) (tgt := 106) dX7_readBy_93 (by decide) rfl ((nI_eq (a := mt / 2 ^ d &&& 1) (b := 1) (and_lt31 (Nat.lt_of_le_of_lt (Nat.div_le_self _ _) (by omega))) (by omega)).trans (by rw [tb_eq, Nat.and_one_is_mod, decide_eq_true_iff])) (fun h93 => ?_) (fun h93 => ?_)
                · skip
                  refine r_bipush (pc' := 108) (v := (-9)) dX7_readBy_106 rfl rfl ?_
                  refine r_ireturn dX7_readBy_108 rfl ?_
                  have hv : ¬ vst T M l d = true := by
                    first | exact vst_i h103 | (intro q; simp [vst] at q; omega) | (refine vst_c ?_; rw [← hmb d (by omega)]; simp [h93])
                  refine px_eq hQ ?_
                  rw [hrd, rdL, if_neg h23, hd, Nat.add_sub_cancel, if_neg hv]; rfl
                · skip
                  refine r_aload_n (pc' := 97) dX7_readBy_96 rfl rfl ?_
                  refine r_iload (pc' := 99) dX7_readBy_97 rfl rfl ?_
                  refine r_iload_n (pc' := 100) dX7_readBy_99 rfl rfl ?_
                  refine r_callV (pc' := 103) (av := [.int (nI d), .int (nI (enx M l (en M l) d))]) (rest := []) kX7_isInTime vX7_isInTime lX7_178 dX7_readBy_100 rfl hX rfl rfl rfl ⟨by decide, by decide, by decide⟩ rfl rfl (Nat.le_of_ble_eq_true rfl) (ct_X7_isInTime hX hT hO hM (d := d) (e := enx M l (en M l) d) (by omega) (by omega) ?_)
                  show Wp g yX7_readBy cX7_readBy 7 (some .int) 4 0 0 (px_MQ g Q 0 0) 0 0 103 [some (.ref 60), some (.int (nI row)), some (.int (nI n)), some (.int (nI (enx M l (en M l) d))), some (.int (nI mt)), some (.int (nI d)), some (.int (nI b))] [.int (bI (inT T M d (enx M l (en M l) d)))] w
                  refine r_if_ne (pc' := 106) (P := (inT T M d (enx M l (en M l) d)) = false) (tgt := 109) dX7_readBy_103 (by decide) rfl (bI_0) (fun h103 => ?_) (fun h103 => ?_)
                  · have h103' : inT T M d (enx M l (en M l) d) = true := by simpa using h103
                    refine r_iload (pc' := 111) dX7_readBy_109 rfl rfl ?_
                    refine r_iconst (pc' := 112) (v := nI 1) dX7_readBy_111 rfl rfl ?_
                    refine r_iload (pc' := 114) dX7_readBy_112 rfl rfl ?_
                    refine r_ishl (pc' := 115) (v := nI (2 ^ d)) dX7_readBy_114 rfl (shl1_n (b := d) (by omega)) ?_
                    refine r_ior (pc' := 116) (v := nI (mt ||| (2 ^ d))) dX7_readBy_115 rfl (or_n mt (2 ^ d)) ?_
                    refine r_istore (pc' := 118) (lo' := [some (.ref 60), some (.int (nI row)), some (.int (nI n)), some (.int (nI (enx M l (en M l) d))), some (.int (nI (mt ||| (2 ^ d)))), some (.int (nI d)), some (.int (nI b))]) dX7_readBy_116 rfl (by decide) rfl ?_
                    refine r_iinc (pc' := 121) (lo' := [some (.ref 60), some (.int (nI row)), some (.int (nI (n + 1))), some (.int (nI (enx M l (en M l) d))), some (.int (nI (mt ||| (2 ^ d)))), some (.int (nI d)), some (.int (nI b))]) dX7_readBy_118 rfl (by decide) rfl (nI_add n 1) rfl ?_
                    refine r_goto (tgt := 13) dX7_readBy_121 (by decide) ?_
                    have hv : vst T M l d = true := by
                      have hc : l.contains d = false := by rw [← hmb d (by omega)]; simpa using h93
                      rw [vst, hc, h103']; simp; omega
                    have hi := ih13 (n + 1) k (mt ||| 2 ^ d) (d :: l) (by omega) (by omega) (by rw [List.length_cons, hln]) ⟨hv, hV⟩ (by rw [hrd, rdL, if_neg h23, hd, Nat.add_sub_cancel, if_pos hv]) (fun b r h => by injection h with h1 _; rw [← h1]; exact hd) (Nat.or_lt_two_pow (n := 4) hmt (Nat.pow_lt_pow_right (n := 4) (by decide) (by omega))) (m_set hmb)
                    refine r_drop 5 rfl ?_
                    refine r_drop 6 rfl ?_
                    exact hi
                  · skip
                    refine r_bipush (pc' := 108) (v := (-9)) dX7_readBy_106 rfl rfl ?_
                    refine r_ireturn dX7_readBy_108 rfl ?_
                    have hv : ¬ vst T M l d = true := by
                      first | exact vst_i h103 | (intro q; simp [vst] at q; omega) | (refine vst_c ?_; rw [← hmb d (by omega)]; simp [h93])
                    refine px_eq hQ ?_
                    rw [hrd, rdL, if_neg h23, hd, Nat.add_sub_cancel, if_neg hv]; rfl
          · have hl0 : l = [] := List.eq_nil_of_length_eq_zero (by omega)
            refine r_iload (pc' := 39) dX7_readBy_37 rfl rfl ?_
            refine r_goto (tgt := 49) dX7_readBy_39 (by decide) ?_
            refine r_istore (pc' := 51) (lo' := [some (.ref 60), some (.int (nI row)), some (.int (nI n)), some (.int (nI (en M l))), some (.int (nI mt)), some (.int (nI d)), some (.int (nI d))]) dX7_readBy_49 rfl (by decide) rfl ?_
            refine r_iload_n (pc' := 52) dX7_readBy_51 rfl rfl ?_
            refine r_iconst (pc' := 53) (v := nI 1) dX7_readBy_52 rfl rfl ?_
            refine r_iload (pc' := 55) dX7_readBy_53 rfl rfl ?_
            refine r_iload (pc' := 57) dX7_readBy_55 rfl rfl ?_
            refine r_icmp_le (pc' := 60) (P := d ≤ d) (tgt := 68) dX7_readBy_57 (by decide) rfl (nI_leI (a := d) (b := d) (by omega) (by omega)) (fun h57 => ?_) (fun h57 => ?_)
            · skip
              refine r_iload (pc' := 70) dX7_readBy_68 rfl rfl ?_
              refine r_iload (pc' := 72) dX7_readBy_70 rfl rfl ?_
              refine r_isub (pc' := 73) (v := nI (d - d)) dX7_readBy_72 rfl (pk_sub (a := d) (b := d) (by omega)) ?_
              refine r_iadd (pc' := 74) (v := nI (1 + (d - d))) dX7_readBy_73 rfl (nI_add 1 (d - d)) ?_
              refine r_iadd (pc' := 75) (v := nI (enx M l (en M l) d)) dX7_readBy_74 rfl ((nI_add _ _).trans (congrArg nI (by first | (rw [hl0, enx]; omega) | (rw [hle, enx, adf]; split <;> omega)))) ?_
              have e74 := (enx_lt (e := en M l) (d := d) sb2 hV (by omega)).1
              refine r_istore_n (pc' := 76) (lo' := [some (.ref 60), some (.int (nI row)), some (.int (nI n)), some (.int (nI (enx M l (en M l) d))), some (.int (nI mt)), some (.int (nI d)), some (.int (nI d))]) dX7_readBy_75 rfl (by decide) rfl ?_
              refine r_aload_n (pc' := 77) dX7_readBy_76 rfl rfl ?_
              refine r_iload (pc' := 79) dX7_readBy_77 rfl rfl ?_
              refine r_callV (pc' := 82) (av := [.int (nI d)]) (rest := []) kX7_isDrive vX7_isDrive lX7_150 dX7_readBy_79 rfl hX rfl rfl rfl ⟨by decide, by decide, by decide⟩ rfl rfl (Nat.le_of_ble_eq_true rfl) (ct_X7_isDrive hX hT hO hM  ?_)
              show Wp g yX7_readBy cX7_readBy 7 (some .int) 4 0 0 (px_MQ g Q 0 0) 0 0 82 [some (.ref 60), some (.int (nI row)), some (.int (nI n)), some (.int (nI (enx M l (en M l) d))), some (.int (nI mt)), some (.int (nI d)), some (.int (nI d))] [.int (bI (hasI (nI d) (tD T)))] w
              refine r_if_eq (pc' := 85) (P := (hasI (nI d) (tD T)) = false) (tgt := 106) dX7_readBy_82 (by decide) rfl (bI_0) (fun h82 => ?_) (fun h82 => ?_)
              · have h82q : ¬ d < tD T := by rw [hasI_n (by omega)] at h82; simpa using h82
                refine r_bipush (pc' := 108) (v := (-9)) dX7_readBy_106 rfl rfl ?_
                refine r_ireturn dX7_readBy_108 rfl ?_
                have hv : ¬ vst T M l d = true := by
                  first | exact vst_i h103 | (intro q; simp [vst] at q; omega) | (refine vst_c ?_; rw [← hmb d (by omega)]; simp [h93])
                refine px_eq hQ ?_
                rw [hrd, rdL, if_neg h23, hd, Nat.add_sub_cancel, if_neg hv]; rfl
              · have h82q : d < tD T := by rw [hasI_n (by omega)] at h82; simpa using h82
                refine r_iload (pc' := 87) dX7_readBy_85 rfl rfl ?_
                refine r_iload (pc' := 89) dX7_readBy_87 rfl rfl ?_
                refine r_ishr (pc' := 90) (v := nI (mt / 2 ^ d)) dX7_readBy_89 rfl (shr_n (a := mt) (b := d) (by omega) (by omega)) ?_
                refine r_iconst (pc' := 91) (v := nI 1) dX7_readBy_90 rfl rfl ?_
                refine r_iand (pc' := 92) (v := nI ((mt / 2 ^ d) &&& 1)) dX7_readBy_91 rfl (and_n (mt / 2 ^ d) 1) ?_
                refine r_iconst (pc' := 93) (v := nI 1) dX7_readBy_92 rfl rfl ?_
                refine r_icmp_eq (pc' := 96) (P := (mt).testBit d = true) (tgt := 106) dX7_readBy_93 (by decide) rfl ((nI_eq (a := mt / 2 ^ d &&& 1) (b := 1) (and_lt31 (Nat.lt_of_le_of_lt (Nat.div_le_self _ _) (by omega))) (by omega)).trans (by rw [tb_eq, Nat.and_one_is_mod, decide_eq_true_iff])) (fun h93 => ?_) (fun h93 => ?_)
                · skip
                  refine r_bipush (pc' := 108) (v := (-9)) dX7_readBy_106 rfl rfl ?_
                  refine r_ireturn dX7_readBy_108 rfl ?_
                  have hv : ¬ vst T M l d = true := by
                    first | exact vst_i h103 | (intro q; simp [vst] at q; omega) | (refine vst_c ?_; rw [← hmb d (by omega)]; simp [h93])
                  refine px_eq hQ ?_
                  rw [hrd, rdL, if_neg h23, hd, Nat.add_sub_cancel, if_neg hv]; rfl
                · skip
                  refine r_aload_n (pc' := 97) dX7_readBy_96 rfl rfl ?_
                  refine r_iload (pc' := 99) dX7_readBy_97 rfl rfl ?_
                  refine r_iload_n (pc' := 100) dX7_readBy_99 rfl rfl ?_
                  refine r_callV (pc' := 103) (av := [.int (nI d), .int (nI (enx M l (en M l) d))]) (rest := []) kX7_isInTime vX7_isInTime lX7_178 dX7_readBy_100 rfl hX rfl rfl rfl ⟨by decide, by decide, by decide⟩ rfl rfl (Nat.le_of_ble_eq_true rfl) (ct_X7_isInTime hX hT hO hM (d := d) (e := enx M l (en M l) d) (by omega) (by omega) ?_)
                  show Wp g yX7_readBy cX7_readBy 7 (some .int) 4 0 0 (px_MQ g Q 0 0) 0 0 103 [some (.ref 60), some (.int (nI row)), some (.int (nI n)), some (.int (nI (enx M l (en M l) d))), some (.int (nI mt)), some (.int (nI d)), some (.int (nI d))] [.int (bI (inT T M d (enx M l (en M l) d)))] w
                  refine r_if_ne (pc' := 106) (P := (inT T M d (enx M l (en M l) d)) = false) (tgt := 109) dX7_readBy_103 (by decide) rfl (bI_0) (fun h103 => ?_) (fun h103 => ?_)
                  · have h103' : inT T M d (enx M l (en M l) d) = true := by simpa using h103
                    refine r_iload (pc' := 111) dX7_readBy_109 rfl rfl ?_
                    refine r_iconst (pc' := 112) (v := nI 1) dX7_readBy_111 rfl rfl ?_
                    refine r_iload (pc' := 114) dX7_readBy_112 rfl rfl ?_
                    refine r_ishl (pc' := 115) (v := nI (2 ^ d)) dX7_readBy_114 rfl (shl1_n (b := d) (by omega)) ?_
                    refine r_ior (pc' := 116) (v := nI (mt ||| (2 ^ d))) dX7_readBy_115 rfl (or_n mt (2 ^ d)) ?_
                    refine r_istore (pc' := 118) (lo' := [some (.ref 60), some (.int (nI row)), some (.int (nI n)), some (.int (nI (enx M l (en M l) d))), some (.int (nI (mt ||| (2 ^ d)))), some (.int (nI d)), some (.int (nI d))]) dX7_readBy_116 rfl (by decide) rfl ?_
                    refine r_iinc (pc' := 121) (lo' := [some (.ref 60), some (.int (nI row)), some (.int (nI (n + 1))), some (.int (nI (enx M l (en M l) d))), some (.int (nI (mt ||| (2 ^ d)))), some (.int (nI d)), some (.int (nI d))]) dX7_readBy_118 rfl (by decide) rfl (nI_add n 1) rfl ?_
                    refine r_goto (tgt := 13) dX7_readBy_121 (by decide) ?_
                    have hv : vst T M l d = true := by
                      have hc : l.contains d = false := by rw [← hmb d (by omega)]; simpa using h93
                      rw [vst, hc, h103']; simp; omega
                    have hi := ih13 (n + 1) k (mt ||| 2 ^ d) (d :: l) (by omega) (by omega) (by rw [List.length_cons, hln]) ⟨hv, hV⟩ (by rw [hrd, rdL, if_neg h23, hd, Nat.add_sub_cancel, if_pos hv]) (fun b r h => by injection h with h1 _; rw [← h1]; exact hd) (Nat.or_lt_two_pow (n := 4) hmt (Nat.pow_lt_pow_right (n := 4) (by decide) (by omega))) (m_set hmb)
                    refine r_drop 5 rfl ?_
                    refine r_drop 6 rfl ?_
                    exact hi
                  · skip
                    refine r_bipush (pc' := 108) (v := (-9)) dX7_readBy_106 rfl rfl ?_
                    refine r_ireturn dX7_readBy_108 rfl ?_
                    have hv : ¬ vst T M l d = true := by
                      first | exact vst_i h103 | (intro q; simp [vst] at q; omega) | (refine vst_c ?_; rw [← hmb d (by omega)]; simp [h93])
                    refine px_eq hQ ?_
                    rw [hrd, rdL, if_neg h23, hd, Nat.add_sub_cancel, if_neg hv]; rfl
            · skip
              refine r_iload (pc' := 62) dX7_readBy_60 rfl rfl ?_
              refine r_iload (pc' := 64) dX7_readBy_62 rfl rfl ?_
              refine r_isub (pc' := 65) (v := nI (d - d)) dX7_readBy_64 rfl (pk_sub (a := d) (b := d) (by omega)) ?_
              refine r_goto (tgt := 73) dX7_readBy_65 (by decide) ?_
              refine r_iadd (pc' := 74) (v := nI (1 + (d - d))) dX7_readBy_73 rfl (nI_add 1 (d - d)) ?_
              refine r_iadd (pc' := 75) (v := nI (enx M l (en M l) d)) dX7_readBy_74 rfl ((nI_add _ _).trans (congrArg nI (by first | (rw [hl0, enx]; omega) | (rw [hle, enx, adf]; split <;> omega)))) ?_
              have e74 := (enx_lt (e := en M l) (d := d) sb2 hV (by omega)).1
              refine r_istore_n (pc' := 76) (lo' := [some (.ref 60), some (.int (nI row)), some (.int (nI n)), some (.int (nI (enx M l (en M l) d))), some (.int (nI mt)), some (.int (nI d)), some (.int (nI d))]) dX7_readBy_75 rfl (by decide) rfl ?_
              refine r_aload_n (pc' := 77) dX7_readBy_76 rfl rfl ?_
              refine r_iload (pc' := 79) dX7_readBy_77 rfl rfl ?_
              refine r_callV (pc' := 82) (av := [.int (nI d)]) (rest := []) kX7_isDrive vX7_isDrive lX7_150 dX7_readBy_79 rfl hX rfl rfl rfl ⟨by decide, by decide, by decide⟩ rfl rfl (Nat.le_of_ble_eq_true rfl) (ct_X7_isDrive hX hT hO hM  ?_)
              show Wp g yX7_readBy cX7_readBy 7 (some .int) 4 0 0 (px_MQ g Q 0 0) 0 0 82 [some (.ref 60), some (.int (nI row)), some (.int (nI n)), some (.int (nI (enx M l (en M l) d))), some (.int (nI mt)), some (.int (nI d)), some (.int (nI d))] [.int (bI (hasI (nI d) (tD T)))] w
              refine r_if_eq (pc' := 85) (P := (hasI (nI d) (tD T)) = false) (tgt := 106) dX7_readBy_82 (by decide) rfl (bI_0) (fun h82 => ?_) (fun h82 => ?_)
              · have h82q : ¬ d < tD T := by rw [hasI_n (by omega)] at h82; simpa using h82
                refine r_bipush (pc' := 108) (v := (-9)) dX7_readBy_106 rfl rfl ?_
                refine r_ireturn dX7_readBy_108 rfl ?_
                have hv : ¬ vst T M l d = true := by
                  first | exact vst_i h103 | (intro q; simp [vst] at q; omega) | (refine vst_c ?_; rw [← hmb d (by omega)]; simp [h93])
                refine px_eq hQ ?_
                rw [hrd, rdL, if_neg h23, hd, Nat.add_sub_cancel, if_neg hv]; rfl
              · have h82q : d < tD T := by rw [hasI_n (by omega)] at h82; simpa using h82
                refine r_iload (pc' := 87) dX7_readBy_85 rfl rfl ?_
                refine r_iload (pc' := 89) dX7_readBy_87 rfl rfl ?_
                refine r_ishr (pc' := 90) (v := nI (mt / 2 ^ d)) dX7_readBy_89 rfl (shr_n (a := mt) (b := d) (by omega) (by omega)) ?_
                refine r_iconst (pc' := 91) (v := nI 1) dX7_readBy_90 rfl rfl ?_
                refine r_iand (pc' := 92) (v := nI ((mt / 2 ^ d) &&& 1)) dX7_readBy_91 rfl (and_n (mt / 2 ^ d) 1) ?_
                refine r_iconst (pc' := 93) (v := nI 1) dX7_readBy_92 rfl rfl ?_
                refine r_icmp_eq (pc' := 96) (P := (mt).testBit d = true) (tgt := 106) dX7_readBy_93 (by decide) rfl ((nI_eq (a := mt / 2 ^ d &&& 1) (b := 1) (and_lt31 (Nat.lt_of_le_of_lt (Nat.div_le_self _ _) (by omega))) (by omega)).trans (by rw [tb_eq, Nat.and_one_is_mod, decide_eq_true_iff])) (fun h93 => ?_) (fun h93 => ?_)
                · skip
                  refine r_bipush (pc' := 108) (v := (-9)) dX7_readBy_106 rfl rfl ?_
                  refine r_ireturn dX7_readBy_108 rfl ?_
                  have hv : ¬ vst T M l d = true := by
                    first | exact vst_i h103 | (intro q; simp [vst] at q; omega) | (refine vst_c ?_; rw [← hmb d (by omega)]; simp [h93])
                  refine px_eq hQ ?_
                  rw [hrd, rdL, if_neg h23, hd, Nat.add_sub_cancel, if_neg hv]; rfl
                · skip
                  refine r_aload_n (pc' := 97) dX7_readBy_96 rfl rfl ?_
                  refine r_iload (pc' := 99) dX7_readBy_97 rfl rfl ?_
                  refine r_iload_n (pc' := 100) dX7_readBy_99 rfl rfl ?_
                  refine r_callV (pc' := 103) (av := [.int (nI d), .int (nI (enx M l (en M l) d))]) (rest := []) kX7_isInTime vX7_isInTime lX7_178 dX7_readBy_100 rfl hX rfl rfl rfl ⟨by decide, by decide, by decide⟩ rfl rfl (Nat.le_of_ble_eq_true rfl) (ct_X7_isInTime hX hT hO hM (d := d) (e := enx M l (en M l) d) (by omega) (by omega) ?_)
                  show Wp g yX7_readBy cX7_readBy 7 (some .int) 4 0 0 (px_MQ g Q 0 0) 0 0 103 [some (.ref 60), some (.int (nI row)), some (.int (nI n)), some (.int (nI (enx M l (en M l) d))), some (.int (nI mt)), some (.int (nI d)), some (.int (nI d))] [.int (bI (inT T M d (enx M l (en M l) d)))] w
                  refine r_if_ne (pc' := 106) (P := (inT T M d (enx M l (en M l) d)) = false) (tgt := 109) dX7_readBy_103 (by decide) rfl (bI_0) (fun h103 => ?_) (fun h103 => ?_)
                  · have h103' : inT T M d (enx M l (en M l) d) = true := by simpa using h103
                    refine r_iload (pc' := 111) dX7_readBy_109 rfl rfl ?_
                    refine r_iconst (pc' := 112) (v := nI 1) dX7_readBy_111 rfl rfl ?_
                    refine r_iload (pc' := 114) dX7_readBy_112 rfl rfl ?_
                    refine r_ishl (pc' := 115) (v := nI (2 ^ d)) dX7_readBy_114 rfl (shl1_n (b := d) (by omega)) ?_
                    refine r_ior (pc' := 116) (v := nI (mt ||| (2 ^ d))) dX7_readBy_115 rfl (or_n mt (2 ^ d)) ?_
                    refine r_istore (pc' := 118) (lo' := [some (.ref 60), some (.int (nI row)), some (.int (nI n)), some (.int (nI (enx M l (en M l) d))), some (.int (nI (mt ||| (2 ^ d)))), some (.int (nI d)), some (.int (nI d))]) dX7_readBy_116 rfl (by decide) rfl ?_
                    refine r_iinc (pc' := 121) (lo' := [some (.ref 60), some (.int (nI row)), some (.int (nI (n + 1))), some (.int (nI (enx M l (en M l) d))), some (.int (nI (mt ||| (2 ^ d)))), some (.int (nI d)), some (.int (nI d))]) dX7_readBy_118 rfl (by decide) rfl (nI_add n 1) rfl ?_
                    refine r_goto (tgt := 13) dX7_readBy_121 (by decide) ?_
                    have hv : vst T M l d = true := by
                      have hc : l.contains d = false := by rw [← hmb d (by omega)]; simpa using h93
                      rw [vst, hc, h103']; simp; omega
                    have hi := ih13 (n + 1) k (mt ||| 2 ^ d) (d :: l) (by omega) (by omega) (by rw [List.length_cons, hln]) ⟨hv, hV⟩ (by rw [hrd, rdL, if_neg h23, hd, Nat.add_sub_cancel, if_pos hv]) (fun b r h => by injection h with h1 _; rw [← h1]; exact hd) (Nat.or_lt_two_pow (n := 4) hmt (Nat.pow_lt_pow_right (n := 4) (by decide) (by omega))) (m_set hmb)
                    refine r_drop 5 rfl ?_
                    refine r_drop 6 rfl ?_
                    exact hi
                  · skip
                    refine r_bipush (pc' := 108) (v := (-9)) dX7_readBy_106 rfl rfl ?_
                    refine r_ireturn dX7_readBy_108 rfl ?_
                    have hv : ¬ vst T M l d = true := by
                      first | exact vst_i h103 | (intro q; simp [vst] at q; omega) | (refine vst_c ?_; rw [← hmb d (by omega)]; simp [h93])
                    refine px_eq hQ ?_
                    rw [hrd, rdL, if_neg h23, hd, Nat.add_sub_cancel, if_neg hv]; rfl
  exact L13 ((4) + 1) 0 4 0 ([]) (Nat.lt_succ_self _) (by omega) (rfl) (trivial) (rfl) (fun b r h => by cases h) (by decide) (fun x hx => by simp)
