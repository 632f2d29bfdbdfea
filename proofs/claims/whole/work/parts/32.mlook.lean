theorem nmax_ub {f : Nat → Nat} : ∀ {n i : Nat}, i < n → f i ≤ nmax f n
  | 0, i, h => absurd h (Nat.not_lt_zero _)
  | n + 1, i, h => by
    unfold nmax
    by_cases e : i = n
    · subst e; split <;> omega
    · have := nmax_ub (f := f) (n := n) (i := i) (by omega)
      split <;> omega
theorem nmax_in {f : Nat → Nat} : ∀ n, nmax f n = 0 ∨ ∃ i, i < n ∧ f i = nmax f n
  | 0 => Or.inl rfl
  | n + 1 => by
    unfold nmax
    split
    · exact Or.inr ⟨n, by omega, rfl⟩
    · rcases nmax_in (f := f) n with h | ⟨i, hi, h⟩
      · exact Or.inl h
      · exact Or.inr ⟨i, by omega, h⟩
theorem nmax_eq {f : Nat → Nat} {n m : Nat} (h1 : ∀ i, i < n → f i ≤ m) (h2 : m = 0 ∨ ∃ i, i < n ∧ f i = m) : nmax f n = m := by
  have a : nmax f n ≤ m := by
    rcases nmax_in (f := f) n with h | ⟨i, hi, h⟩
    · omega
    · have := h1 i hi; omega
  have b : m ≤ nmax f n := by
    rcases h2 with h | ⟨i, hi, h⟩
    · omega
    · have := nmax_ub (f := f) hi; omega
  omega
/-- one value grows -/
theorem nmax_up {f g : Nat → Nat} {n c : Nat} (hc : c < n) (h : ∀ j, j ≠ c → g j = f j) (h2 : f c ≤ g c) : nmax g n = if nmax f n < g c then g c else nmax f n := by
  apply nmax_eq
  · intro i hi
    by_cases e : i = c
    · subst e; split <;> omega
    · rw [h i e]
      have := nmax_ub (f := f) hi
      split <;> omega
  · by_cases hlt : nmax f n < g c
    · rw [if_pos hlt]; exact Or.inr ⟨c, hc, rfl⟩
    · rw [if_neg hlt]
      rcases nmax_in (f := f) n with h0 | ⟨i, hi, h0⟩
      · exact Or.inl h0
      · right
        by_cases e : i = c
        · subst e
          exact ⟨i, hi, by omega⟩
        · exact ⟨i, hi, by rw [h i e]; exact h0⟩
/-- how much the words below n that are in a set and have c in a cell are said -/
def pw (T : px_T) (x fits c n : Nat) : Nat := nsum (fun k => if fits.testBit k && tc T k x == c then ts T k else 0) n
theorem pw_s (T : px_T) (x fits c n : Nat) : pw T x fits c (n + 1) = pw T x fits c n + (if fits.testBit n && tc T n x == c then ts T n else 0) := rfl
theorem pw_le {T : px_T} (hO : TOK T) (hb : SubB T) (x fits c : Nat) : ∀ n, n ≤ tW T → pw T x fits c n ≤ n * 9
  | 0, _ => by simp [pw, nsum]
  | n + 1, h => by
    have h1 := pw_le hO hb x fits c n (by omega)
    have h2 := hO.1 n (by omega)
    rw [pw_s]
    split <;> omega
theorem pw_54 {T : px_T} (hO : TOK T) (hb : SubB T) (x fits c : Nat) {n : Nat} (h : n ≤ tW T) : pw T x fits c n ≤ 54 := by
  have h1 := pw_le hO hb x fits c n h
  have h2 := hb.1.1
  omega
theorem nsum_cg {f g : Nat → Nat} : ∀ {n : Nat}, (∀ i, i < n → f i = g i) → nsum f n = nsum g n
  | 0, _ => rfl
  | n + 1, h => by
    unfold nsum
    rw [nsum_cg (n := n) (fun i hi => h i (by omega)), h n (by omega)]
theorem pw_all (T : px_T) (x fits c : Nat) : pw T x fits c (tW T) = wgt T (fits &&& bset (fun i => tc T i x == c) (tW T)) := by
  unfold pw wgt
  apply nsum_cg
  intro i hi
  rw [Nat.testBit_and, bset_bit]
  simp [hi]
theorem nmax_cg {f g : Nat → Nat} : ∀ {n : Nat}, (∀ i, i < n → f i = g i) → nmax f n = nmax g n
  | 0, _ => rfl
  | n + 1, h => by
    unfold nmax
    rw [nmax_cg (n := n) (fun i hi => h i (by omega)), h n (by omega)]
theorem hvy_pw (T : px_T) (x fits : Nat) : nmax (fun c => pw T x fits c (tW T)) 9 = hvy T x fits := nmax_cg (fun c _ => pw_all T x fits c)
theorem pw_0 (T : px_T) (x fits : Nat) : nmax (fun c => pw T x fits c 0) 9 = 0 := nmax_eq (fun _ _ => Nat.le_refl _) (Or.inl rfl)
theorem pw_up {T : px_T} {x fits i : Nat} (hc : tc T i x < 9) : nmax (fun c => pw T x fits c (i + 1)) 9 = if nmax (fun c => pw T x fits c i) 9 < pw T x fits (tc T i x) (i + 1) then pw T x fits (tc T i x) (i + 1) else nmax (fun c => pw T x fits c i) 9 :=
  nmax_up (f := fun c => pw T x fits c i) (g := fun c => pw T x fits c (i + 1)) hc (fun j hj => by
    show pw T x fits j (i + 1) = pw T x fits j i
    rw [pw_s, if_neg (by simp; intro _ h; exact hj h.symm)]; rfl) (by show pw T x fits (tc T i x) i ≤ pw T x fits (tc T i x) (i + 1); rw [pw_s]; omega)
theorem cnt0 (p : Nat → Bool) : ∀ n, cnt p n = 0 ↔ ffst p n = none
  | 0 => by simp [cnt, nsum, ffst]
  | n + 1 => by
    have ih := cnt0 p n
    show nsum (fun k => if p k then 1 else 0) n + (if p n then 1 else 0) = 0 ↔ _
    have e : nsum (fun k => if p k then 1 else 0) n = cnt p n := rfl
    rw [e]
    unfold ffst
    cases hf : ffst p n with
    | none =>
      have h0 := ih.mpr hf
      cases hp : p n <;> simp [h0]
    | some k =>
      have h0 : ¬ cnt p n = 0 := fun q => by rw [ih.mp q] at hf; cases hf
      simp; omega
def byA (w : px_W) : Prop := ∃ fy : Nat → Int32, w[75]? = some (.inl (0, 9, .inl fy))
set_option maxHeartbeats 200000 in
theorem ct_X7_weight {g : px_G} {w : px_W} {Q : px_Q} {tr : Int64} {ty nx tk pl va fa um : Int32} {T : px_T} {M : px_N} (hX : w[60]? = some (mobj tr ty nx tk pl va fa um)) (hT : MtA w T) (hO : TOK T) (hM : MnA w M) {bits : Nat} (hb : bits < 2 ^ 31) (hQ : Q (some (.int (nI (wgt T bits)))) w) : Ct g yX7_weight cX7_weight 4 (some .int) 1 0 0 [.ref 60, .int (nI bits)] w Q := by
  refine Ct.of kX7_weight (by omega) (lo := [some (.ref 60), some (.int (nI bits)), none, none]) rfl (px_cat1 rfl) (Nat.le_of_ble_eq_true rfl) ?_
  obtain ⟨fm, fz, fl, fs, fd, g0, g1, g2, g3, ⟨c1, c2, c3, c4, c5, c6, c7, c8, c9⟩, ma, mz, ml, md, mg, ⟨sb1, sb2, sb3⟩, sb4, sb5⟩ := id hT
  obtain ⟨fn, cn, hf, mB1, mB2, mB3⟩ := id hM
  refine r_iconst (pc' := 1) (v := nI 0) dX7_weight_0 rfl rfl ?_
  refine r_istore_n (pc' := 2) (lo' := [some (.ref 60), some (.int (nI bits)), some (.int (nI 0)), none]) dX7_weight_1 rfl (by decide) rfl ?_
  refine r_iconst (pc' := 3) (v := nI 0) dX7_weight_2 rfl rfl ?_
  refine r_istore_n (pc' := 4) (lo' := [some (.ref 60), some (.int (nI bits)), some (.int (nI 0)), some (.int (nI 0))]) dX7_weight_3 rfl (by decide) rfl ?_
  have L4 : ∀ (fu : Nat) (j : Nat), tW T - j < fu → j ≤ tW T → Wp g yX7_weight cX7_weight 4 (some .int) 1 0 0 (px_MQ g Q 0 0) 0 0 4 [some (.ref 60), some (.int (nI bits)), some (.int (nI (nsum (fun i => if bits.testBit i then ts T i else 0) j))), some (.int (nI j))] [] w := by
    intro fu; induction fu with
    | zero => intro j hm; exact absurd hm (Nat.not_lt_zero _)
    | succ fu ih =>
      intro j hm hj
      have ih4 := ih; clear ih
      refine r_iload_n (pc' := 5) dX7_weight_4 rfl rfl ?_
      refine r_aload_n (pc' := 6) dX7_weight_5 rfl rfl ?_
      refine r_get (pc' := 9) fX7_13 dX7_weight_6 rfl hX rfl ?_
      refine r_iconst (pc' := 10) (v := nI 0) dX7_weight_9 rfl rfl ?_
      refine r_iaload (pc' := 11) (v := nI (tW T)) dX7_weight_10 rfl c1 (vp_in_nI (n := 0) (by omega) (by omega)) (by rw [nI_cl (by omega)]; exact ma.1) ?_
      refine r_icmp_ge (pc' := 14) (P := tW T ≤ j) (tgt := 42) dX7_weight_11 (by decide) rfl (nI_leI (a := tW T) (b := j) (by omega) (by omega)) (fun h11 => ?_) (fun h11 => ?_)
      · have hj2 : j = tW T := by omega
        subst hj2
        refine r_iload_n (pc' := 43) dX7_weight_42 rfl rfl ?_
        refine r_ireturn dX7_weight_43 rfl ?_
        exact hQ
      · skip
        refine r_iload_n (pc' := 15) dX7_weight_14 rfl rfl ?_
        refine r_iload_n (pc' := 16) dX7_weight_15 rfl rfl ?_
        refine r_iload_n (pc' := 17) dX7_weight_16 rfl rfl ?_
        refine r_ishr (pc' := 18) (v := nI (bits / 2 ^ j)) dX7_weight_17 rfl (shr_n (a := bits) (b := j) (by omega) (by omega)) ?_
        refine r_iconst (pc' := 19) (v := nI 1) dX7_weight_18 rfl rfl ?_
        refine r_iand (pc' := 20) (v := nI ((bits / 2 ^ j) &&& 1)) dX7_weight_19 rfl (and_n (bits / 2 ^ j) 1) ?_
        refine r_iconst (pc' := 21) (v := nI 1) dX7_weight_20 rfl rfl ?_
        refine r_icmp_ne (pc' := 24) (P := (bits).testBit j = true) (tgt := 33) dX7_weight_21 (by decide) rfl ((nI_eq (a := bits / 2 ^ j &&& 1) (b := 1) (and_lt31 (Nat.lt_of_le_of_lt (Nat.div_le_self _ _) (by omega))) (by omega)).trans (by rw [tb_eq, Nat.and_one_is_mod, decide_eq_true_iff])) (fun h21 => ?_) (fun h21 => ?_)
        · skip
          refine r_iconst (pc' := 34) (v := nI 0) dX7_weight_33 rfl rfl ?_
          refine r_iadd (pc' := 35) (v := nI (nsum (fun i => if bits.testBit i then ts T i else 0) j + 0)) dX7_weight_34 rfl (nI_add (nsum (fun i => if bits.testBit i then ts T i else 0) j) 0) ?_
          refine r_istore_n (pc' := 36) (lo' := [some (.ref 60), some (.int (nI bits)), some (.int (nI (nsum (fun i => if bits.testBit i then ts T i else 0) j + 0))), some (.int (nI j))]) dX7_weight_35 rfl (by decide) rfl ?_
          refine r_iinc (pc' := 39) (lo' := [some (.ref 60), some (.int (nI bits)), some (.int (nI (nsum (fun i => if bits.testBit i then ts T i else 0) j + 0))), some (.int (nI (j + 1)))]) dX7_weight_36 rfl (by decide) rfl (nI_add j 1) rfl ?_
          refine r_goto (tgt := 4) dX7_weight_39 (by decide) ?_
          have hx : nsum (fun i => if bits.testBit i then ts T i else 0) j + 0 = nsum (fun i => if bits.testBit i then ts T i else 0) (j + 1) := by simp [nsum, h21]
          rw [hx]
          exact ih4 (j + 1) (by omega) (by omega)
        · skip
          refine r_aload_n (pc' := 25) dX7_weight_24 rfl rfl ?_
          refine r_get (pc' := 28) fX7_22 dX7_weight_25 rfl hX rfl ?_
          refine r_iload_n (pc' := 29) dX7_weight_28 rfl rfl ?_
          refine r_iaload (pc' := 30) (v := nI (ts T j)) dX7_weight_29 rfl c4 (vp_in_nI (n := j) (by omega) (by omega)) (by rw [nI_cl (by omega)]; exact (mz j (by omega)).2) ?_
          have e29 := hO.1 j (by omega)
          refine r_goto (tgt := 34) dX7_weight_30 (by decide) ?_
          refine r_iadd (pc' := 35) (v := nI (nsum (fun i => if bits.testBit i then ts T i else 0) j + (ts T j))) dX7_weight_34 rfl (nI_add (nsum (fun i => if bits.testBit i then ts T i else 0) j) (ts T j)) ?_
          refine r_istore_n (pc' := 36) (lo' := [some (.ref 60), some (.int (nI bits)), some (.int (nI (nsum (fun i => if bits.testBit i then ts T i else 0) j + (ts T j)))), some (.int (nI j))]) dX7_weight_35 rfl (by decide) rfl ?_
          refine r_iinc (pc' := 39) (lo' := [some (.ref 60), some (.int (nI bits)), some (.int (nI (nsum (fun i => if bits.testBit i then ts T i else 0) j + (ts T j)))), some (.int (nI (j + 1)))]) dX7_weight_36 rfl (by decide) rfl (nI_add j 1) rfl ?_
          refine r_goto (tgt := 4) dX7_weight_39 (by decide) ?_
          have hx : nsum (fun i => if bits.testBit i then ts T i else 0) j + (ts T j) = nsum (fun i => if bits.testBit i then ts T i else 0) (j + 1) := by simp [nsum, h21]
          rw [hx]
          exact ih4 (j + 1) (by omega) (by omega)
  exact L4 ((tW T) + 1) 0 (Nat.lt_succ_self _) (by omega)
set_option maxHeartbeats 200000 in
theorem ct_X7_gcd {g : px_G} {w : px_W} {Q : px_Q} {a b : Nat} (ha : a < 2 ^ 31) (hb : b < 2 ^ 31) (hQ : Q (some (.int (nI (Nat.gcd a b)))) w) : Ct g yX7_gcd cX7_gcd 5 (some .int) 1 0 0 [.int (nI a), .int (nI b)] w Q := by
  refine Ct.of kX7_gcd (by omega) (lo := [some (.int (nI a)), some (.int (nI b)), none, none, none]) rfl (px_cat1 rfl) (Nat.le_of_ble_eq_true rfl) ?_
  refine r_iload_n (pc' := 1) dX7_gcd_0 rfl rfl ?_
  refine r_istore_n (pc' := 2) (lo' := [some (.int (nI a)), some (.int (nI b)), some (.int (nI a)), none, none]) dX7_gcd_1 rfl (by decide) rfl ?_
  refine r_iload_n (pc' := 3) dX7_gcd_2 rfl rfl ?_
  refine r_istore_n (pc' := 4) (lo' := [some (.int (nI a)), some (.int (nI b)), some (.int (nI a)), some (.int (nI b)), none]) dX7_gcd_3 rfl (by decide) rfl ?_
  have L4 : ∀ (fu : Nat) (u v : Nat), v < fu → u < 2 ^ 31 → v < 2 ^ 31 → Nat.gcd u v = Nat.gcd a b → Wp g yX7_gcd cX7_gcd 5 (some .int) 1 0 0 (px_MQ g Q 0 0) 0 0 4 [some (.int (nI a)), some (.int (nI b)), some (.int (nI u)), some (.int (nI v)), none] [] w := by
    intro fu; induction fu with
    | zero => intro u v hm; exact absurd hm (Nat.not_lt_zero _)
    | succ fu ih =>
      intro u v hm hu hv hI
      have ih4 := ih; clear ih
      refine r_iload_n (pc' := 5) dX7_gcd_4 rfl rfl ?_
      refine r_if_eq (pc' := 8) (P := v = 0) (tgt := 21) dX7_gcd_5 (by decide) rfl (nI_eq0 (n := v) (by omega)) (fun h5 => ?_) (fun h5 => ?_)
      · subst h5
        rw [Nat.gcd_zero_right] at hI
        refine r_iload_n (pc' := 22) dX7_gcd_21 rfl rfl ?_
        refine r_ireturn dX7_gcd_22 rfl ?_
        exact px_eqN hQ hI
      · skip
        refine r_iload_n (pc' := 9) dX7_gcd_8 rfl rfl ?_
        refine r_iload_n (pc' := 10) dX7_gcd_9 rfl rfl ?_
        refine r_irem (pc' := 11) (v := nI (u % v)) dX7_gcd_10 rfl (nI_ne0 (n := v) (by omega) (by omega)) (pk_rem (a := u) (d := v) (by omega) (by omega) (by omega)) ?_
        have e10 := Nat.mod_lt u (show 0 < v by omega)
        refine r_istore (pc' := 13) (lo' := [some (.int (nI a)), some (.int (nI b)), some (.int (nI u)), some (.int (nI v)), some (.int (nI (u % v)))]) dX7_gcd_11 rfl (by decide) rfl ?_
        refine r_iload_n (pc' := 14) dX7_gcd_13 rfl rfl ?_
        refine r_istore_n (pc' := 15) (lo' := [some (.int (nI a)), some (.int (nI b)), some (.int (nI v)), some (.int (nI v)), some (.int (nI (u % v)))]) dX7_gcd_14 rfl (by decide) rfl ?_
        refine r_iload (pc' := 17) dX7_gcd_15 rfl rfl ?_
        refine r_istore_n (pc' := 18) (lo' := [some (.int (nI a)), some (.int (nI b)), some (.int (nI v)), some (.int (nI (u % v))), some (.int (nI (u % v)))]) dX7_gcd_17 rfl (by decide) rfl ?_
        refine r_goto (tgt := 4) dX7_gcd_18 (by decide) ?_
        refine r_drop 4 rfl ?_
        exact ih4 v ((u % v)) (by omega) (by omega) (by omega) (by rw [← hI, Nat.gcd_comm u v, Nat.gcd_rec v u, Nat.gcd_comm])
  exact L4 ((b) + 1) a b (Nat.lt_succ_self _) (ha) (hb) (rfl)
set_option maxHeartbeats 200000 in
theorem ct_X7_isInTime {g : px_G} {w : px_W} {Q : px_Q} {tr : Int64} {ty nx tk pl va fa um : Int32} {T : px_T} {M : px_N} (hX : w[60]? = some (mobj tr ty nx tk pl va fa um)) (hT : MtA w T) (hO : TOK T) (hM : MnA w M) {d e : Nat} (hd : d < tD T) (he : e < 2 ^ 20) (hQ : Q (some (.int (bI (inT T M d e)))) w) : Ct g yX7_isInTime cX7_isInTime 5 (some .boolean) 3 0 0 [.ref 60, .int (nI d), .int (nI e)] w Q := by
  refine Ct.of kX7_isInTime (by omega) (lo := [some (.ref 60), some (.int (nI d)), some (.int (nI e)), none, none]) rfl (px_cat1 rfl) (Nat.le_of_ble_eq_true rfl) ?_
  obtain ⟨fm, fz, fl, fs, fd, g0, g1, g2, g3, ⟨c1, c2, c3, c4, c5, c6, c7, c8, c9⟩, ma, mz, ml, md, mg, ⟨sb1, sb2, sb3⟩, sb4, sb5⟩ := id hT
  obtain ⟨fn, cn, hf, mB1, mB2, mB3⟩ := id hM
  refine r_aload_n (pc' := 1) dX7_isInTime_0 rfl rfl ?_
  refine r_iload_n (pc' := 2) dX7_isInTime_1 rfl rfl ?_
  refine r_callV (pc' := 5) (av := [.int (nI d)]) (rest := []) kX7_readable vX7_readable lX7_169 dX7_isInTime_2 rfl hX rfl rfl rfl ⟨by decide, by decide, by decide⟩ rfl rfl (Nat.le_of_ble_eq_true rfl) (ct_X7_readable hX hT hO hM (d := d) (by omega) ?_)
  show Wp g yX7_isInTime cX7_isInTime 5 (some .boolean) 3 0 0 (px_MQ g Q 0 0) 0 0 5 [some (.ref 60), some (.int (nI d)), some (.int (nI e)), none, none] [.int (nI (rdbl T M d))] w
  have e2 := rdbl_lt (M := M) (hO.2.2.1 d (by omega)).2
  refine r_if_eq (pc' := 8) (P := rdbl T M d = 0) (tgt := 12) dX7_isInTime_5 (by decide) rfl (nI_eq0 (n := rdbl T M d) (by omega)) (fun h5 => ?_) (fun h5 => ?_)
  · skip
    refine r_iconst (pc' := 13) (v := bI false) dX7_isInTime_12 rfl rfl ?_
    refine r_istore_n (pc' := 14) (lo' := [some (.ref 60), some (.int (nI d)), some (.int (nI e)), some (.int (bI false)), none]) dX7_isInTime_13 rfl (by decide) rfl ?_
    refine r_iconst (pc' := 15) (v := nI 0) dX7_isInTime_14 rfl rfl ?_
    refine r_istore (pc' := 17) (lo' := [some (.ref 60), some (.int (nI d)), some (.int (nI e)), some (.int (bI false)), some (.int (nI 0))]) dX7_isInTime_15 rfl (by decide) rfl ?_
    have L17 : ∀ (fu : Nat) (j : Nat), tG T - j < fu → j ≤ tG T → Wp g yX7_isInTime cX7_isInTime 5 (some .boolean) 3 0 0 (px_MQ g Q 0 0) 0 0 17 [some (.ref 60), some (.int (nI d)), some (.int (nI e)), some (.int (bI ((false && allb (fun j => !(tg T j 1 == d && decide (nh M ≤ tg T j 0) && decide (tg T j 0 ≤ e))) j)))), some (.int (nI j))] [] w := by
      intro fu; induction fu with
      | zero => intro j hm; exact absurd hm (Nat.not_lt_zero _)
      | succ fu ih =>
        intro j hm hj
        have ih17 := ih; clear ih
        refine r_iload (pc' := 19) dX7_isInTime_17 rfl rfl ?_
        refine r_aload_n (pc' := 20) dX7_isInTime_19 rfl rfl ?_
        refine r_get (pc' := 23) fX7_13 dX7_isInTime_20 rfl hX rfl ?_
        refine r_iconst (pc' := 24) (v := nI 2) dX7_isInTime_23 rfl rfl ?_
        refine r_iaload (pc' := 25) (v := nI (tG T)) dX7_isInTime_24 rfl c1 (vp_in_nI (n := 2) (by omega) (by omega)) (by rw [nI_cl (by omega)]; exact ma.2.2) ?_
        refine r_icmp_ge (pc' := 28) (P := tG T ≤ j) (tgt := 76) dX7_isInTime_25 (by decide) rfl (nI_leI (a := tG T) (b := j) (by omega) (by omega)) (fun h25 => ?_) (fun h25 => ?_)
        · have hj2 : j = tG T := by omega
          subst hj2
          refine r_iload_n (pc' := 77) dX7_isInTime_76 rfl rfl ?_
          refine r_zreturn dX7_isInTime_77 rfl (bI_nar _) ?_
          refine px_eqB hQ ?_
          rw [inT, Bool.and_comm]
          congr 1
          simp [h5]
        · skip
          refine r_iload_n (pc' := 29) dX7_isInTime_28 rfl rfl ?_
          refine r_if_eq (pc' := 32) (P := ((false && allb (fun j => !(tg T j 1 == d && decide (nh M ≤ tg T j 0) && decide (tg T j 0 ≤ e))) j)) = false) (tgt := 68) dX7_isInTime_29 (by decide) rfl (bI_0) (fun h29 => ?_) (fun h29 => ?_)
          · skip
            refine r_iconst (pc' := 69) (v := bI false) dX7_isInTime_68 rfl rfl ?_
            refine r_istore_n (pc' := 70) (lo' := [some (.ref 60), some (.int (nI d)), some (.int (nI e)), some (.int (bI false)), some (.int (nI j))]) dX7_isInTime_69 rfl (by decide) rfl ?_
            refine r_iinc (pc' := 73) (lo' := [some (.ref 60), some (.int (nI d)), some (.int (nI e)), some (.int (bI false)), some (.int (nI (j + 1)))]) dX7_isInTime_70 rfl (by decide) rfl (nI_add j 1) rfl ?_
            refine r_goto (tgt := 17) dX7_isInTime_73 (by decide) ?_
            have e1 : (false && allb (fun j => !(tg T j 1 == d && decide (nh M ≤ tg T j 0) && decide (tg T j 0 ≤ e))) (j + 1)) = false := by first | (rw [allb, ← Bool.and_assoc, h29, Bool.false_and]; done) | (rw [allb, ← Bool.and_assoc]; simp at h61; simp [h40]; omega) | (rw [allb, ← Bool.and_assoc]; simp at h61; simp [h40, h61])
            have hi := ih17 (j + 1) (by omega) (by omega)
            rw [e1] at hi
            exact hi
          · skip
            refine r_aload_n (pc' := 33) dX7_isInTime_32 rfl rfl ?_
            refine r_get (pc' := 36) fX7_31 dX7_isInTime_33 rfl hX rfl ?_
            refine r_iload (pc' := 38) dX7_isInTime_36 rfl rfl ?_
            refine r_iaload (pc' := 39) (v := nI (tg T j 1)) dX7_isInTime_38 rfl c7 (vp_in_nI (n := j) (by omega) (by omega)) (by rw [nI_cl (by omega)]; exact (mg j (by omega)).2.1) ?_
            have e38 := hO.2.2.2 j (by omega)
            refine r_iload_n (pc' := 40) dX7_isInTime_39 rfl rfl ?_
            refine r_icmp_ne (pc' := 43) (P := tg T j 1 = d) (tgt := 64) dX7_isInTime_40 (by decide) rfl (nI_eq (a := tg T j 1) (b := d) (by omega) (by omega)) (fun h40 => ?_) (fun h40 => ?_)
            · skip
              refine r_iconst (pc' := 65) (v := bI true) dX7_isInTime_64 rfl rfl ?_
              refine r_goto (tgt := 69) dX7_isInTime_65 (by decide) ?_
              refine r_istore_n (pc' := 70) (lo' := [some (.ref 60), some (.int (nI d)), some (.int (nI e)), some (.int (bI true)), some (.int (nI j))]) dX7_isInTime_69 rfl (by decide) rfl ?_
              refine r_iinc (pc' := 73) (lo' := [some (.ref 60), some (.int (nI d)), some (.int (nI e)), some (.int (bI true)), some (.int (nI (j + 1)))]) dX7_isInTime_70 rfl (by decide) rfl (nI_add j 1) rfl ?_
              refine r_goto (tgt := 17) dX7_isInTime_73 (by decide) ?_
              have e1 : (false && allb (fun j => !(tg T j 1 == d && decide (nh M ≤ tg T j 0) && decide (tg T j 0 ≤ e))) (j + 1)) = true := by
                have h9 : (false && allb (fun j => !(tg T j 1 == d && decide (nh M ≤ tg T j 0) && decide (tg T j 0 ≤ e))) j) = true := by simpa using h29
                rw [Bool.and_eq_true] at h9; rw [Bool.and_eq_true, allb, Bool.and_eq_true]; exact ⟨h9.1, h9.2, by first | (simp [h40]; done) | (simp [h40] at h61; simp [h40]; omega) | (simp [h40]; simp at h61; omega)⟩
              have hi := ih17 (j + 1) (by omega) (by omega)
              rw [e1] at hi
              exact hi
            · skip
              refine r_aload_n (pc' := 44) dX7_isInTime_43 rfl rfl ?_
              refine r_get (pc' := 47) fX7_28 dX7_isInTime_44 rfl hX rfl ?_
              refine r_iload (pc' := 49) dX7_isInTime_47 rfl rfl ?_
              refine r_iaload (pc' := 50) (v := nI (tg T j 0)) dX7_isInTime_49 rfl c6 (vp_in_nI (n := j) (by omega) (by omega)) (by rw [nI_cl (by omega)]; exact (mg j (by omega)).1) ?_
              have e49 := hO.2.2.2 j (by omega)
              refine r_aload_n (pc' := 51) dX7_isInTime_50 rfl rfl ?_
              refine r_get (pc' := 54) fX7_40 dX7_isInTime_51 rfl hX rfl ?_
              refine r_bipush (pc' := 56) (v := nI 36) dX7_isInTime_54 rfl rfl ?_
              refine r_iaload (pc' := 57) (v := nI (nh M)) dX7_isInTime_56 rfl cn (vp_in_nI (n := 36) (by omega) (by omega)) (by rw [nI_cl (by omega), hf _ (by omega), sv_h]) ?_
              refine r_iload_n (pc' := 58) dX7_isInTime_57 rfl rfl ?_
              refine r_callS (pc' := 61) (av := [.int (nI (tg T j 0)), .int (nI (nh M)), .int (nI e)]) (rest := []) kX7_in vX7_in lX7_66 dX7_isInTime_58 rfl rfl rfl ⟨by decide, by decide, by decide⟩ rfl rfl (Nat.le_of_ble_eq_true rfl) (ct_in_n (a := tg T j 0) (lo := nh M) (hi := e) (by omega) (by omega) (by omega) ?_)
              show Wp g yX7_isInTime cX7_isInTime 5 (some .boolean) 3 0 0 (px_MQ g Q 0 0) 0 0 61 [some (.ref 60), some (.int (nI d)), some (.int (nI e)), some (.int (bI ((false && allb (fun j => !(tg T j 1 == d && decide (nh M ≤ tg T j 0) && decide (tg T j 0 ≤ e))) j)))), some (.int (nI j))] [.int (bI ((decide (nh M ≤ tg T j 0) && decide (tg T j 0 ≤ e))))] w
              refine r_if_ne (pc' := 64) (P := ((decide (nh M ≤ tg T j 0) && decide (tg T j 0 ≤ e))) = false) (tgt := 68) dX7_isInTime_61 (by decide) rfl (bI_0) (fun h61 => ?_) (fun h61 => ?_)
              · skip
                refine r_iconst (pc' := 69) (v := bI false) dX7_isInTime_68 rfl rfl ?_
                refine r_istore_n (pc' := 70) (lo' := [some (.ref 60), some (.int (nI d)), some (.int (nI e)), some (.int (bI false)), some (.int (nI j))]) dX7_isInTime_69 rfl (by decide) rfl ?_
                refine r_iinc (pc' := 73) (lo' := [some (.ref 60), some (.int (nI d)), some (.int (nI e)), some (.int (bI false)), some (.int (nI (j + 1)))]) dX7_isInTime_70 rfl (by decide) rfl (nI_add j 1) rfl ?_
                refine r_goto (tgt := 17) dX7_isInTime_73 (by decide) ?_
                have e1 : (false && allb (fun j => !(tg T j 1 == d && decide (nh M ≤ tg T j 0) && decide (tg T j 0 ≤ e))) (j + 1)) = false := by first | (rw [allb, ← Bool.and_assoc, h29, Bool.false_and]; done) | (rw [allb, ← Bool.and_assoc]; simp at h61; simp [h40]; omega) | (rw [allb, ← Bool.and_assoc]; simp at h61; simp [h40, h61])
                have hi := ih17 (j + 1) (by omega) (by omega)
                rw [e1] at hi
                exact hi
              · skip
                refine r_iconst (pc' := 65) (v := bI true) dX7_isInTime_64 rfl rfl ?_
                refine r_goto (tgt := 69) dX7_isInTime_65 (by decide) ?_
                refine r_istore_n (pc' := 70) (lo' := [some (.ref 60), some (.int (nI d)), some (.int (nI e)), some (.int (bI true)), some (.int (nI j))]) dX7_isInTime_69 rfl (by decide) rfl ?_
                refine r_iinc (pc' := 73) (lo' := [some (.ref 60), some (.int (nI d)), some (.int (nI e)), some (.int (bI true)), some (.int (nI (j + 1)))]) dX7_isInTime_70 rfl (by decide) rfl (nI_add j 1) rfl ?_
                refine r_goto (tgt := 17) dX7_isInTime_73 (by decide) ?_
                have e1 : (false && allb (fun j => !(tg T j 1 == d && decide (nh M ≤ tg T j 0) && decide (tg T j 0 ≤ e))) (j + 1)) = true := by
                  have h9 : (false && allb (fun j => !(tg T j 1 == d && decide (nh M ≤ tg T j 0) && decide (tg T j 0 ≤ e))) j) = true := by simpa using h29
                  rw [Bool.and_eq_true] at h9; rw [Bool.and_eq_true, allb, Bool.and_eq_true]; exact ⟨h9.1, h9.2, by first | (simp [h40]; done) | (simp [h40] at h61; simp [h40]; omega) | (simp [h40]; simp at h61; omega)⟩
                have hi := ih17 (j + 1) (by omega) (by omega)
                rw [e1] at hi
                exact hi
    exact L17 ((tG T) + 1) 0 (Nat.lt_succ_self _) (by omega)
  · skip
    refine r_iconst (pc' := 9) (v := bI true) dX7_isInTime_8 rfl rfl ?_
    refine r_goto (tgt := 13) dX7_isInTime_9 (by decide) ?_
    refine r_istore_n (pc' := 14) (lo' := [some (.ref 60), some (.int (nI d)), some (.int (nI e)), some (.int (bI true)), none]) dX7_isInTime_13 rfl (by decide) rfl ?_
    refine r_iconst (pc' := 15) (v := nI 0) dX7_isInTime_14 rfl rfl ?_
    refine r_istore (pc' := 17) (lo' := [some (.ref 60), some (.int (nI d)), some (.int (nI e)), some (.int (bI true)), some (.int (nI 0))]) dX7_isInTime_15 rfl (by decide) rfl ?_
    have L17 : ∀ (fu : Nat) (j : Nat), tG T - j < fu → j ≤ tG T → Wp g yX7_isInTime cX7_isInTime 5 (some .boolean) 3 0 0 (px_MQ g Q 0 0) 0 0 17 [some (.ref 60), some (.int (nI d)), some (.int (nI e)), some (.int (bI ((true && allb (fun j => !(tg T j 1 == d && decide (nh M ≤ tg T j 0) && decide (tg T j 0 ≤ e))) j)))), some (.int (nI j))] [] w := by
      intro fu; induction fu with
      | zero => intro j hm; exact absurd hm (Nat.not_lt_zero _)
      | succ fu ih =>
        intro j hm hj
        have ih17 := ih; clear ih
        refine r_iload (pc' := 19) dX7_isInTime_17 rfl rfl ?_
        refine r_aload_n (pc' := 20) dX7_isInTime_19 rfl rfl ?_
        refine r_get (pc' := 23) fX7_13 dX7_isInTime_20 rfl hX rfl ?_
        refine r_iconst (pc' := 24) (v := nI 2) dX7_isInTime_23 rfl rfl ?_
        refine r_iaload (pc' := 25) (v := nI (tG T)) dX7_isInTime_24 rfl c1 (vp_in_nI (n := 2) (by omega) (by omega)) (by rw [nI_cl (by omega)]; exact ma.2.2) ?_
        refine r_icmp_ge (pc' := 28) (P := tG T ≤ j) (tgt := 76) dX7_isInTime_25 (by decide) rfl (nI_leI (a := tG T) (b := j) (by omega) (by omega)) (fun h25 => ?_) (fun h25 => ?_)
        · have hj2 : j = tG T := by omega
          subst hj2
          refine r_iload_n (pc' := 77) dX7_isInTime_76 rfl rfl ?_
          refine r_zreturn dX7_isInTime_77 rfl (bI_nar _) ?_
          refine px_eqB hQ ?_
          rw [inT, Bool.and_comm]
          congr 1
          simp [h5]
        · skip
          refine r_iload_n (pc' := 29) dX7_isInTime_28 rfl rfl ?_
          refine r_if_eq (pc' := 32) (P := ((true && allb (fun j => !(tg T j 1 == d && decide (nh M ≤ tg T j 0) && decide (tg T j 0 ≤ e))) j)) = false) (tgt := 68) dX7_isInTime_29 (by decide) rfl (bI_0) (fun h29 => ?_) (fun h29 => ?_)
          · skip
            refine r_iconst (pc' := 69) (v := bI false) dX7_isInTime_68 rfl rfl ?_
            refine r_istore_n (pc' := 70) (lo' := [some (.ref 60), some (.int (nI d)), some (.int (nI e)), some (.int (bI false)), some (.int (nI j))]) dX7_isInTime_69 rfl (by decide) rfl ?_
            refine r_iinc (pc' := 73) (lo' := [some (.ref 60), some (.int (nI d)), some (.int (nI e)), some (.int (bI false)), some (.int (nI (j + 1)))]) dX7_isInTime_70 rfl (by decide) rfl (nI_add j 1) rfl ?_
            refine r_goto (tgt := 17) dX7_isInTime_73 (by decide) ?_
            have e1 : (true && allb (fun j => !(tg T j 1 == d && decide (nh M ≤ tg T j 0) && decide (tg T j 0 ≤ e))) (j + 1)) = false := by first | (rw [allb, ← Bool.and_assoc, h29, Bool.false_and]; done) | (rw [allb, ← Bool.and_assoc]; simp at h61; simp [h40]; omega) | (rw [allb, ← Bool.and_assoc]; simp at h61; simp [h40, h61])
            have hi := ih17 (j + 1) (by omega) (by omega)
            rw [e1] at hi
            exact hi
          · skip
            refine r_aload_n (pc' := 33) dX7_isInTime_32 rfl rfl ?_
            refine r_get (pc' := 36) fX7_31 dX7_isInTime_33 rfl hX rfl ?_
            refine r_iload (pc' := 38) dX7_isInTime_36 rfl rfl ?_
            refine r_iaload (pc' := 39) (v := nI (tg T j 1)) dX7_isInTime_38 rfl c7 (vp_in_nI (n := j) (by omega) (by omega)) (by rw [nI_cl (by omega)]; exact (mg j (by omega)).2.1) ?_
            have e38 := hO.2.2.2 j (by omega)
            refine r_iload_n (pc' := 40) dX7_isInTime_39 rfl rfl ?_
            refine r_icmp_ne (pc' := 43) (P := tg T j 1 = d) (tgt := 64) dX7_isInTime_40 (by decide) rfl (nI_eq (a := tg T j 1) (b := d) (by omega) (by omega)) (fun h40 => ?_) (fun h40 => ?_)
            · skip
              refine r_iconst (pc' := 65) (v := bI true) dX7_isInTime_64 rfl rfl ?_
              refine r_goto (tgt := 69) dX7_isInTime_65 (by decide) ?_
              refine r_istore_n (pc' := 70) (lo' := [some (.ref 60), some (.int (nI d)), some (.int (nI e)), some (.int (bI true)), some (.int (nI j))]) dX7_isInTime_69 rfl (by decide) rfl ?_
              refine r_iinc (pc' := 73) (lo' := [some (.ref 60), some (.int (nI d)), some (.int (nI e)), some (.int (bI true)), some (.int (nI (j + 1)))]) dX7_isInTime_70 rfl (by decide) rfl (nI_add j 1) rfl ?_
              refine r_goto (tgt := 17) dX7_isInTime_73 (by decide) ?_
              have e1 : (true && allb (fun j => !(tg T j 1 == d && decide (nh M ≤ tg T j 0) && decide (tg T j 0 ≤ e))) (j + 1)) = true := by
                have h9 : (true && allb (fun j => !(tg T j 1 == d && decide (nh M ≤ tg T j 0) && decide (tg T j 0 ≤ e))) j) = true := by simpa using h29
                rw [Bool.and_eq_true] at h9; rw [Bool.and_eq_true, allb, Bool.and_eq_true]; exact ⟨h9.1, h9.2, by first | (simp [h40]; done) | (simp [h40] at h61; simp [h40]; omega) | (simp [h40]; simp at h61; omega)⟩
              have hi := ih17 (j + 1) (by omega) (by omega)
              rw [e1] at hi
              exact hi
            · skip
              refine r_aload_n (pc' := 44) dX7_isInTime_43 rfl rfl ?_
              refine r_get (pc' := 47) fX7_28 dX7_isInTime_44 rfl hX rfl ?_
              refine r_iload (pc' := 49) dX7_isInTime_47 rfl rfl ?_
              refine r_iaload (pc' := 50) (v := nI (tg T j 0)) dX7_isInTime_49 rfl c6 (vp_in_nI (n := j) (by omega) (by omega)) (by rw [nI_cl (by omega)]; exact (mg j (by omega)).1) ?_
              have e49 := hO.2.2.2 j (by omega)
              refine r_aload_n (pc' := 51) dX7_isInTime_50 rfl rfl ?_
              refine r_get (pc' := 54) fX7_40 dX7_isInTime_51 rfl hX rfl ?_
              refine r_bipush (pc' := 56) (v := nI 36) dX7_isInTime_54 rfl rfl ?_
              refine r_iaload (pc' := 57) (v := nI (nh M)) dX7_isInTime_56 rfl cn (vp_in_nI (n := 36) (by omega) (by omega)) (by rw [nI_cl (by omega), hf _ (by omega), sv_h]) ?_
              refine r_iload_n (pc' := 58) dX7_isInTime_57 rfl rfl ?_
              refine r_callS (pc' := 61) (av := [.int (nI (tg T j 0)), .int (nI (nh M)), .int (nI e)]) (rest := []) kX7_in vX7_in lX7_66 dX7_isInTime_58 rfl rfl rfl ⟨by decide, by decide, by decide⟩ rfl rfl (Nat.le_of_ble_eq_true rfl) (ct_in_n (a := tg T j 0) (lo := nh M) (hi := e) (by omega) (by omega) (by omega) ?_)
              show Wp g yX7_isInTime cX7_isInTime 5 (some .boolean) 3 0 0 (px_MQ g Q 0 0) 0 0 61 [some (.ref 60), some (.int (nI d)), some (.int (nI e)), some (.int (bI ((true && allb (fun j => !(tg T j 1 == d && decide (nh M ≤ tg T j 0) && decide (tg T j 0 ≤ e))) j)))), some (.int (nI j))] [.int (bI ((decide (nh M ≤ tg T j 0) && decide (tg T j 0 ≤ e))))] w
              refine r_if_ne (pc' := 64) (P := ((decide (nh M ≤ tg T j 0) && decide (tg T j 0 ≤ e))) = false) (tgt := 68) dX7_isInTime_61 (by decide) rfl (bI_0) (fun h61 => ?_) (fun h61 => ?_)
              · skip
                refine r_iconst (pc' := 69) (v := bI false) dX7_isInTime_68 rfl rfl ?_
                refine r_istore_n (pc' := 70) (lo' := [some (.ref 60), some (.int (nI d)), some (.int (nI e)), some (.int (bI false)), some (.int (nI j))]) dX7_isInTime_69 rfl (by decide) rfl ?_
                refine r_iinc (pc' := 73) (lo' := [some (.ref 60), some (.int (nI d)), some (.int (nI e)), some (.int (bI false)), some (.int (nI (j + 1)))]) dX7_isInTime_70 rfl (by decide) rfl (nI_add j 1) rfl ?_
                refine r_goto (tgt := 17) dX7_isInTime_73 (by decide) ?_
                have e1 : (true && allb (fun j => !(tg T j 1 == d && decide (nh M ≤ tg T j 0) && decide (tg T j 0 ≤ e))) (j + 1)) = false := by first | (rw [allb, ← Bool.and_assoc, h29, Bool.false_and]; done) | (rw [allb, ← Bool.and_assoc]; simp at h61; simp [h40]; omega) | (rw [allb, ← Bool.and_assoc]; simp at h61; simp [h40, h61])
                have hi := ih17 (j + 1) (by omega) (by omega)
                rw [e1] at hi
                exact hi
              · skip
                refine r_iconst (pc' := 65) (v := bI true) dX7_isInTime_64 rfl rfl ?_
                refine r_goto (tgt := 69) dX7_isInTime_65 (by decide) ?_
                refine r_istore_n (pc' := 70) (lo' := [some (.ref 60), some (.int (nI d)), some (.int (nI e)), some (.int (bI true)), some (.int (nI j))]) dX7_isInTime_69 rfl (by decide) rfl ?_
                refine r_iinc (pc' := 73) (lo' := [some (.ref 60), some (.int (nI d)), some (.int (nI e)), some (.int (bI true)), some (.int (nI (j + 1)))]) dX7_isInTime_70 rfl (by decide) rfl (nI_add j 1) rfl ?_
                refine r_goto (tgt := 17) dX7_isInTime_73 (by decide) ?_
                have e1 : (true && allb (fun j => !(tg T j 1 == d && decide (nh M ≤ tg T j 0) && decide (tg T j 0 ≤ e))) (j + 1)) = true := by
                  have h9 : (true && allb (fun j => !(tg T j 1 == d && decide (nh M ≤ tg T j 0) && decide (tg T j 0 ≤ e))) j) = true := by simpa using h29
                  rw [Bool.and_eq_true] at h9; rw [Bool.and_eq_true, allb, Bool.and_eq_true]; exact ⟨h9.1, h9.2, by first | (simp [h40]; done) | (simp [h40] at h61; simp [h40]; omega) | (simp [h40]; simp at h61; omega)⟩
                have hi := ih17 (j + 1) (by omega) (by omega)
                rw [e1] at hi
                exact hi
    exact L17 ((tG T) + 1) 0 (Nat.lt_succ_self _) (by omega)
set_option maxHeartbeats 200000 in
theorem ct_tracksF {g : px_G} {w : px_W} {Q : px_Q} {tr : Int64} {ty nx tk pl va fa um : Int32} {T : px_T} {M : px_N} (hX : w[60]? = some (mobj tr ty nx tk pl va fa um)) (hT : MtA w T) (hO : TOK T) (hM : MnA w M) {d : Nat} (hd : d < tD T) (hQ : Q (some (.int (oN (trackF T M d)))) w) : Ct g yX7_tracksOf cX7_tracksOf 8 (some .int) 2 0 0 [.ref 60, .int (nI d), .int (bI true)] w Q := by
  refine Ct.of kX7_tracksOf (by omega) (lo := [some (.ref 60), some (.int (nI d)), some (.int (bI true)), none, none, none, none, none]) rfl (px_cat1 rfl) (Nat.le_of_ble_eq_true rfl) ?_
  obtain ⟨fm, fz, fl, fs, fd, g0, g1, g2, g3, ⟨c1, c2, c3, c4, c5, c6, c7, c8, c9⟩, ma, mz, ml, md, mg, ⟨sb1, sb2, sb3⟩, sb4, sb5⟩ := id hT
  obtain ⟨fn, cn, hf, mB1, mB2, mB3⟩ := id hM
  have e0 := hO.2.2.1 d hd
  refine r_iconst (pc' := 1) (v := nI 0) dX7_tracksOf_0 rfl rfl ?_
  refine r_istore_n (pc' := 2) (lo' := [some (.ref 60), some (.int (nI d)), some (.int (bI true)), some (.int (nI 0)), none, none, none, none]) dX7_tracksOf_1 rfl (by decide) rfl ?_
  refine r_bipush (pc' := 4) (v := (-9)) dX7_tracksOf_2 rfl rfl ?_
  refine r_istore (pc' := 6) (lo' := [some (.ref 60), some (.int (nI d)), some (.int (bI true)), some (.int (nI 0)), some (.int ((-9))), none, none, none]) dX7_tracksOf_4 rfl (by decide) rfl ?_
  refine r_iconst (pc' := 7) (v := nI 0) dX7_tracksOf_6 rfl rfl ?_
  refine r_istore (pc' := 9) (lo' := [some (.ref 60), some (.int (nI d)), some (.int (bI true)), some (.int (nI 0)), some (.int ((-9))), some (.int (nI 0)), none, none]) dX7_tracksOf_7 rfl (by decide) rfl ?_
  have L9 : ∀ (fu : Nat) (f : Nat), 8 - f < fu → f ≤ 8 → Wp g yX7_tracksOf cX7_tracksOf 8 (some .int) 2 0 0 (px_MQ g Q 0 0) 0 0 9 [some (.ref 60), some (.int (nI d)), some (.int (bI true)), some (.int (nI (cnt (isT T M d) (4 * f)))), some (.int (oN ((ffst (isT T M d) (4 * f)).map (fun k => 10 * (k / 4) + (k % 4 + 1))))), some (.int (nI f)), none, none] [] w := by
    intro fu; induction fu with
    | zero => intro f hm; exact absurd hm (Nat.not_lt_zero _)
    | succ fu ih =>
      intro f hm hfl
      have hc9 := cnt_le (isT T M d) (4 * f)
      have ih9 := ih; clear ih
      refine r_iload (pc' := 11) dX7_tracksOf_9 rfl rfl ?_
      refine r_bipush (pc' := 13) (v := nI 8) dX7_tracksOf_11 rfl rfl ?_
      refine r_icmp_ge (pc' := 16) (P := 8 ≤ f) (tgt := 102) dX7_tracksOf_13 (by decide) rfl (nI_leI (a := 8) (b := f) (by omega) (by omega)) (fun h13 => ?_) (fun h13 => ?_)
      · have hf2 : f = 8 := by omega
        subst hf2
        refine r_iload_n (pc' := 103) dX7_tracksOf_102 rfl rfl ?_
        refine r_if_eq (pc' := 106) (P := true = false) (tgt := 111) dX7_tracksOf_103 (by decide) rfl (bI_0) (fun h103 => ?_) (fun h103 => ?_)
        · skip
          exfalso; cases h103
        · skip
          refine r_iload (pc' := 108) dX7_tracksOf_106 rfl rfl ?_
          refine r_goto (tgt := 112) dX7_tracksOf_108 (by decide) ?_
          refine r_ireturn dX7_tracksOf_112 rfl ?_
          exact hQ
      · skip
        refine r_iconst (pc' := 17) (v := nI 1) dX7_tracksOf_16 rfl rfl ?_
        refine r_istore (pc' := 19) (lo' := [some (.ref 60), some (.int (nI d)), some (.int (bI true)), some (.int (nI (cnt (isT T M d) (4 * f)))), some (.int (oN ((ffst (isT T M d) (4 * f)).map (fun k => 10 * (k / 4) + (k % 4 + 1))))), some (.int (nI f)), some (.int (nI 1)), none]) dX7_tracksOf_17 rfl (by decide) rfl ?_
        have L19 : ∀ (fu : Nat) (s : Nat), 5 - s < fu → 1 ≤ s ∧ s ≤ 5 → Wp g yX7_tracksOf cX7_tracksOf 8 (some .int) 2 0 0 (px_MQ g Q 0 0) 0 0 19 [some (.ref 60), some (.int (nI d)), some (.int (bI true)), some (.int (nI (cnt (isT T M d) (4 * f + (s - 1))))), some (.int (oN ((ffst (isT T M d) (4 * f + (s - 1))).map (fun k => 10 * (k / 4) + (k % 4 + 1))))), some (.int (nI f)), some (.int (nI s)), none] [] w := by
          intro fu; induction fu with
          | zero => intro s hm; exact absurd hm (Nat.not_lt_zero _)
          | succ fu ih =>
            intro s hm hs
            have hc8 := cnt_le (isT T M d) (4 * f + (s - 1))
            have ih19 := ih; clear ih
            refine r_iload (pc' := 21) dX7_tracksOf_19 rfl rfl ?_
            refine r_iconst (pc' := 22) (v := nI 5) dX7_tracksOf_21 rfl rfl ?_
            refine r_icmp_ge (pc' := 25) (P := 5 ≤ s) (tgt := 96) dX7_tracksOf_22 (by decide) rfl (nI_leI (a := 5) (b := s) (by omega) (by omega)) (fun h22 => ?_) (fun h22 => ?_)
            · have hs2 : s = 5 := by omega
              subst hs2
              refine r_iinc (pc' := 99) (lo' := [some (.ref 60), some (.int (nI d)), some (.int (bI true)), some (.int (nI (cnt (isT T M d) (4 * f + (5 - 1))))), some (.int (oN ((ffst (isT T M d) (4 * f + (5 - 1))).map (fun k => 10 * (k / 4) + (k % 4 + 1))))), some (.int (nI (f + 1))), some (.int (nI 5)), none]) dX7_tracksOf_96 rfl (by decide) rfl (nI_add f 1) rfl ?_
              refine r_goto (tgt := 9) dX7_tracksOf_99 (by decide) ?_
              rw [show 4 * f + (5 - 1) = 4 * (f + 1) by omega]
              refine r_drop 6 rfl ?_
              exact ih9 (f + 1) (by omega) (by omega)
            · skip
              refine r_aload_n (pc' := 26) dX7_tracksOf_25 rfl rfl ?_
              refine r_iload_n (pc' := 27) dX7_tracksOf_26 rfl rfl ?_
              refine r_iload (pc' := 29) dX7_tracksOf_27 rfl rfl ?_
              refine r_iload (pc' := 31) dX7_tracksOf_29 rfl rfl ?_
              refine r_callV (pc' := 34) (av := [.int (nI d), .int (nI f), .int (nI s)]) (rest := []) kX7_stepsOf vX7_stepsOf lX7_146 dX7_tracksOf_31 rfl hX rfl rfl rfl ⟨by decide, by decide, by decide⟩ rfl rfl (Nat.le_of_ble_eq_true rfl) (ct_X7_stepsOf hX hT hO hM (d := d) (f := f) (s := s) (by omega) (by omega) (by omega) ?_)
              show Wp g yX7_tracksOf cX7_tracksOf 8 (some .int) 2 0 0 (px_MQ g Q 0 0) 0 0 34 [some (.ref 60), some (.int (nI d)), some (.int (bI true)), some (.int (nI (cnt (isT T M d) (4 * f + (s - 1))))), some (.int (oN ((ffst (isT T M d) (4 * f + (s - 1))).map (fun k => 10 * (k / 4) + (k % 4 + 1))))), some (.int (nI f)), some (.int (nI s)), none] [.int (nI (trk f s (td T d)))] w
              have e31 := trk_lt (f := f) (s := s) (hO.2.2.1 d (by omega)).2
              refine r_aload_n (pc' := 35) dX7_tracksOf_34 rfl rfl ?_
              refine r_get (pc' := 38) fX7_40 dX7_tracksOf_35 rfl hX rfl ?_
              refine r_bipush (pc' := 40) (v := nI 32) dX7_tracksOf_38 rfl rfl ?_
              refine r_iload_n (pc' := 41) dX7_tracksOf_40 rfl rfl ?_
              refine r_iadd (pc' := 42) (v := nI (32 + d)) dX7_tracksOf_41 rfl (nI_add 32 d) ?_
              refine r_iaload (pc' := 43) (v := nI (nt M d)) dX7_tracksOf_42 rfl cn (vp_in_nI (n := 32 + d) (by omega) (by omega)) (by rw [nI_cl (by omega), hf _ (by omega), sv_t _ (by omega)]) ?_
              have e42 := mB2 d (by omega)
              refine r_icmp_ne (pc' := 46) (P := trk f s (td T d) = nt M d) (tgt := 50) dX7_tracksOf_43 (by decide) rfl (nI_eq (a := trk f s (td T d)) (b := nt M d) (by omega) (by omega)) (fun h43 => ?_) (fun h43 => ?_)
              · skip
                refine r_iconst (pc' := 51) (v := bI false) dX7_tracksOf_50 rfl rfl ?_
                refine r_istore (pc' := 53) (lo' := [some (.ref 60), some (.int (nI d)), some (.int (bI true)), some (.int (nI (cnt (isT T M d) (4 * f + (s - 1))))), some (.int (oN ((ffst (isT T M d) (4 * f + (s - 1))).map (fun k => 10 * (k / 4) + (k % 4 + 1))))), some (.int (nI f)), some (.int (nI s)), some (.int (bI false))]) dX7_tracksOf_51 rfl (by decide) rfl ?_
                refine r_iload (pc' := 55) dX7_tracksOf_53 rfl rfl ?_
                refine r_if_eq (pc' := 58) (P := false = false) (tgt := 73) dX7_tracksOf_55 (by decide) rfl (bI_0) (fun h55 => ?_) (fun h55 => ?_)
                · skip
                  refine r_iload (pc' := 75) dX7_tracksOf_73 rfl rfl ?_
                  refine r_istore (pc' := 77) (lo' := [some (.ref 60), some (.int (nI d)), some (.int (bI true)), some (.int (nI (cnt (isT T M d) (4 * f + (s - 1))))), some (.int (oN ((ffst (isT T M d) (4 * f + (s - 1))).map (fun k => 10 * (k / 4) + (k % 4 + 1))))), some (.int (nI f)), some (.int (nI s)), some (.int (bI false))]) dX7_tracksOf_75 rfl (by decide) rfl ?_
                  refine r_iload_n (pc' := 78) dX7_tracksOf_77 rfl rfl ?_
                  refine r_iload (pc' := 80) dX7_tracksOf_78 rfl rfl ?_
                  refine r_if_eq (pc' := 83) (P := false = false) (tgt := 87) dX7_tracksOf_80 (by decide) rfl (bI_0) (fun h80 => ?_) (fun h80 => ?_)
                  · skip
                    refine r_iconst (pc' := 88) (v := nI 0) dX7_tracksOf_87 rfl rfl ?_
                    refine r_iadd (pc' := 89) (v := nI (cnt (isT T M d) (4 * f + (s - 1)) + 0)) dX7_tracksOf_88 rfl (nI_add (cnt (isT T M d) (4 * f + (s - 1))) 0) ?_
                    refine r_istore_n (pc' := 90) (lo' := [some (.ref 60), some (.int (nI d)), some (.int (bI true)), some (.int (nI (cnt (isT T M d) (4 * f + (s - 1)) + 0))), some (.int (oN ((ffst (isT T M d) (4 * f + (s - 1))).map (fun k => 10 * (k / 4) + (k % 4 + 1))))), some (.int (nI f)), some (.int (nI s)), some (.int (bI false))]) dX7_tracksOf_89 rfl (by decide) rfl ?_
                    refine r_iinc (pc' := 93) (lo' := [some (.ref 60), some (.int (nI d)), some (.int (bI true)), some (.int (nI (cnt (isT T M d) (4 * f + (s - 1)) + 0))), some (.int (oN ((ffst (isT T M d) (4 * f + (s - 1))).map (fun k => 10 * (k / 4) + (k % 4 + 1))))), some (.int (nI f)), some (.int (nI (s + 1))), some (.int (bI false))]) dX7_tracksOf_90 rfl (by decide) rfl (nI_add s 1) rfl ?_
                    refine r_goto (tgt := 19) dX7_tracksOf_93 (by decide) ?_
                    have ht : isT T M d (4 * f + (s - 1)) = false := by unfold isT; rw [show (4 * f + (s - 1)) / 4 = f by omega, show (4 * f + (s - 1)) % 4 + 1 = s by omega]; simp [h43]
                    have hk : 4 * f + (s - 1) + 1 = 4 * f + (s + 1 - 1) := by omega
                    have ec := cnt_f (p := isT T M d) (n := 4 * f + (s - 1)) ht
                    have ef : ffst (isT T M d) (4 * f + (s - 1) + 1) = ffst (isT T M d) (4 * f + (s - 1)) := by
                      cases hq : ffst (isT T M d) (4 * f + (s - 1)) with
                      | none => exact ffst_n hq ht
                      | some k => exact ffst_k hq 1
                    rw [hk] at ec ef
                    have hi := ih19 (s + 1) (by omega) (by omega)
                    rw [ef, ← ec] at hi
                    refine r_drop 7 rfl ?_
                    exact hi
                  · skip
                    exfalso; exact h80 rfl
                · skip
                  exfalso; exact h55 rfl
              · skip
                refine r_iconst (pc' := 47) (v := bI true) dX7_tracksOf_46 rfl rfl ?_
                refine r_goto (tgt := 51) dX7_tracksOf_47 (by decide) ?_
                refine r_istore (pc' := 53) (lo' := [some (.ref 60), some (.int (nI d)), some (.int (bI true)), some (.int (nI (cnt (isT T M d) (4 * f + (s - 1))))), some (.int (oN ((ffst (isT T M d) (4 * f + (s - 1))).map (fun k => 10 * (k / 4) + (k % 4 + 1))))), some (.int (nI f)), some (.int (nI s)), some (.int (bI true))]) dX7_tracksOf_51 rfl (by decide) rfl ?_
                refine r_iload (pc' := 55) dX7_tracksOf_53 rfl rfl ?_
                refine r_if_eq (pc' := 58) (P := true = false) (tgt := 73) dX7_tracksOf_55 (by decide) rfl (bI_0) (fun h55 => ?_) (fun h55 => ?_)
                · skip
                  exfalso; cases h55
                · skip
                  refine r_iload_n (pc' := 59) dX7_tracksOf_58 rfl rfl ?_
                  refine r_if_ne (pc' := 62) (P := cnt (isT T M d) (4 * f + (s - 1)) = 0) (tgt := 73) dX7_tracksOf_59 (by decide) rfl (nI_eq0 (n := cnt (isT T M d) (4 * f + (s - 1))) (by omega)) (fun h59 => ?_) (fun h59 => ?_)
                  · skip
                    refine r_iload (pc' := 75) dX7_tracksOf_73 rfl rfl ?_
                    refine r_istore (pc' := 77) (lo' := [some (.ref 60), some (.int (nI d)), some (.int (bI true)), some (.int (nI (cnt (isT T M d) (4 * f + (s - 1))))), some (.int (oN ((ffst (isT T M d) (4 * f + (s - 1))).map (fun k => 10 * (k / 4) + (k % 4 + 1))))), some (.int (nI f)), some (.int (nI s)), some (.int (bI true))]) dX7_tracksOf_75 rfl (by decide) rfl ?_
                    refine r_iload_n (pc' := 78) dX7_tracksOf_77 rfl rfl ?_
                    refine r_iload (pc' := 80) dX7_tracksOf_78 rfl rfl ?_
                    refine r_if_eq (pc' := 83) (P := true = false) (tgt := 87) dX7_tracksOf_80 (by decide) rfl (bI_0) (fun h80 => ?_) (fun h80 => ?_)
                    · skip
                      exfalso; cases h80
                    · skip
                      refine r_iconst (pc' := 84) (v := nI 1) dX7_tracksOf_83 rfl rfl ?_
                      refine r_goto (tgt := 88) dX7_tracksOf_84 (by decide) ?_
                      refine r_iadd (pc' := 89) (v := nI (cnt (isT T M d) (4 * f + (s - 1)) + 1)) dX7_tracksOf_88 rfl (nI_add (cnt (isT T M d) (4 * f + (s - 1))) 1) ?_
                      refine r_istore_n (pc' := 90) (lo' := [some (.ref 60), some (.int (nI d)), some (.int (bI true)), some (.int (nI (cnt (isT T M d) (4 * f + (s - 1)) + 1))), some (.int (oN ((ffst (isT T M d) (4 * f + (s - 1))).map (fun k => 10 * (k / 4) + (k % 4 + 1))))), some (.int (nI f)), some (.int (nI s)), some (.int (bI true))]) dX7_tracksOf_89 rfl (by decide) rfl ?_
                      refine r_iinc (pc' := 93) (lo' := [some (.ref 60), some (.int (nI d)), some (.int (bI true)), some (.int (nI (cnt (isT T M d) (4 * f + (s - 1)) + 1))), some (.int (oN ((ffst (isT T M d) (4 * f + (s - 1))).map (fun k => 10 * (k / 4) + (k % 4 + 1))))), some (.int (nI f)), some (.int (nI (s + 1))), some (.int (bI true))]) dX7_tracksOf_90 rfl (by decide) rfl (nI_add s 1) rfl ?_
                      refine r_goto (tgt := 19) dX7_tracksOf_93 (by decide) ?_
                      have ht : isT T M d (4 * f + (s - 1)) = true := by unfold isT; rw [show (4 * f + (s - 1)) / 4 = f by omega, show (4 * f + (s - 1)) % 4 + 1 = s by omega]; simp [h43]
                      have hk : 4 * f + (s - 1) + 1 = 4 * f + (s + 1 - 1) := by omega
                      have ec := cnt_t (p := isT T M d) (n := 4 * f + (s - 1)) ht
                      have ef : ffst (isT T M d) (4 * f + (s - 1) + 1) = ffst (isT T M d) (4 * f + (s - 1)) := by
                        obtain ⟨k, hk0⟩ := Option.ne_none_iff_exists'.mp (fun q => h59 ((cnt0 _ _).mpr q))
                        rw [hk0]; exact ffst_k hk0 1
                      rw [hk] at ec ef
                      have hi := ih19 (s + 1) (by omega) (by omega)
                      rw [ef, ← ec] at hi
                      refine r_drop 7 rfl ?_
                      exact hi
                  · skip
                    refine r_bipush (pc' := 64) (v := nI 10) dX7_tracksOf_62 rfl rfl ?_
                    refine r_iload (pc' := 66) dX7_tracksOf_64 rfl rfl ?_
                    refine r_imul (pc' := 67) (v := nI (10 * f)) dX7_tracksOf_66 rfl (pk_mul 10 f) ?_
                    refine r_iload (pc' := 69) dX7_tracksOf_67 rfl rfl ?_
                    refine r_iadd (pc' := 70) (v := nI (10 * f + s)) dX7_tracksOf_69 rfl (nI_add (10 * f) s) ?_
                    refine r_goto (tgt := 75) dX7_tracksOf_70 (by decide) ?_
                    refine r_istore (pc' := 77) (lo' := [some (.ref 60), some (.int (nI d)), some (.int (bI true)), some (.int (nI (cnt (isT T M d) (4 * f + (s - 1))))), some (.int (nI (10 * f + s))), some (.int (nI f)), some (.int (nI s)), some (.int (bI true))]) dX7_tracksOf_75 rfl (by decide) rfl ?_
                    refine r_iload_n (pc' := 78) dX7_tracksOf_77 rfl rfl ?_
                    refine r_iload (pc' := 80) dX7_tracksOf_78 rfl rfl ?_
                    refine r_if_eq (pc' := 83) (P := true = false) (tgt := 87) dX7_tracksOf_80 (by decide) rfl (bI_0) (fun h80 => ?_) (fun h80 => ?_)
                    · skip
                      exfalso; cases h80
                    · skip
                      refine r_iconst (pc' := 84) (v := nI 1) dX7_tracksOf_83 rfl rfl ?_
                      refine r_goto (tgt := 88) dX7_tracksOf_84 (by decide) ?_
                      refine r_iadd (pc' := 89) (v := nI (cnt (isT T M d) (4 * f + (s - 1)) + 1)) dX7_tracksOf_88 rfl (nI_add (cnt (isT T M d) (4 * f + (s - 1))) 1) ?_
                      refine r_istore_n (pc' := 90) (lo' := [some (.ref 60), some (.int (nI d)), some (.int (bI true)), some (.int (nI (cnt (isT T M d) (4 * f + (s - 1)) + 1))), some (.int (nI (10 * f + s))), some (.int (nI f)), some (.int (nI s)), some (.int (bI true))]) dX7_tracksOf_89 rfl (by decide) rfl ?_
                      refine r_iinc (pc' := 93) (lo' := [some (.ref 60), some (.int (nI d)), some (.int (bI true)), some (.int (nI (cnt (isT T M d) (4 * f + (s - 1)) + 1))), some (.int (nI (10 * f + s))), some (.int (nI f)), some (.int (nI (s + 1))), some (.int (bI true))]) dX7_tracksOf_90 rfl (by decide) rfl (nI_add s 1) rfl ?_
                      refine r_goto (tgt := 19) dX7_tracksOf_93 (by decide) ?_
                      have ht : isT T M d (4 * f + (s - 1)) = true := by unfold isT; rw [show (4 * f + (s - 1)) / 4 = f by omega, show (4 * f + (s - 1)) % 4 + 1 = s by omega]; simp [h43]
                      have hk : 4 * f + (s - 1) + 1 = 4 * f + (s + 1 - 1) := by omega
                      have ec := cnt_t (p := isT T M d) (n := 4 * f + (s - 1)) ht
                      have ef := ffst_s ((cnt0 _ _).mp h59) ht
                      rw [hk] at ec ef
                      have hi := ih19 (s + 1) (by omega) (by omega)
                      rw [ef, ← ec] at hi
                      have e4 : oN (Option.map (fun k => 10 * (k / 4) + (k % 4 + 1)) (some (4 * f + (s - 1)))) = nI (10 * f + s) := by
                        show nI (10 * ((4 * f + (s - 1)) / 4) + ((4 * f + (s - 1)) % 4 + 1)) = nI _
                        congr 1
                        omega
                      rw [e4] at hi
                      refine r_drop 7 rfl ?_
                      exact hi
        exact L19 ((4) + 1) 1 (Nat.lt_succ_self _) (by omega)
  exact L9 ((8) + 1) 0 (Nat.lt_succ_self _) (by omega)
set_option maxHeartbeats 200000 in
theorem ct_tracksN {g : px_G} {w : px_W} {Q : px_Q} {tr : Int64} {ty nx tk pl va fa um : Int32} {T : px_T} {M : px_N} (hX : w[60]? = some (mobj tr ty nx tk pl va fa um)) (hT : MtA w T) (hO : TOK T) (hM : MnA w M) {d : Nat} (hd : d < tD T) (hQ : Q (some (.int (nI (cnt (isT T M d) 32)))) w) : Ct g yX7_tracksOf cX7_tracksOf 8 (some .int) 2 0 0 [.ref 60, .int (nI d), .int (bI false)] w Q := by
  refine Ct.of kX7_tracksOf (by omega) (lo := [some (.ref 60), some (.int (nI d)), some (.int (bI false)), none, none, none, none, none]) rfl (px_cat1 rfl) (Nat.le_of_ble_eq_true rfl) ?_
  obtain ⟨fm, fz, fl, fs, fd, g0, g1, g2, g3, ⟨c1, c2, c3, c4, c5, c6, c7, c8, c9⟩, ma, mz, ml, md, mg, ⟨sb1, sb2, sb3⟩, sb4, sb5⟩ := id hT
  obtain ⟨fn, cn, hf, mB1, mB2, mB3⟩ := id hM
  have e0 := hO.2.2.1 d hd
  refine r_iconst (pc' := 1) (v := nI 0) dX7_tracksOf_0 rfl rfl ?_
  refine r_istore_n (pc' := 2) (lo' := [some (.ref 60), some (.int (nI d)), some (.int (bI false)), some (.int (nI 0)), none, none, none, none]) dX7_tracksOf_1 rfl (by decide) rfl ?_
  refine r_bipush (pc' := 4) (v := (-9)) dX7_tracksOf_2 rfl rfl ?_
  refine r_istore (pc' := 6) (lo' := [some (.ref 60), some (.int (nI d)), some (.int (bI false)), some (.int (nI 0)), some (.int ((-9))), none, none, none]) dX7_tracksOf_4 rfl (by decide) rfl ?_
  refine r_iconst (pc' := 7) (v := nI 0) dX7_tracksOf_6 rfl rfl ?_
  refine r_istore (pc' := 9) (lo' := [some (.ref 60), some (.int (nI d)), some (.int (bI false)), some (.int (nI 0)), some (.int ((-9))), some (.int (nI 0)), none, none]) dX7_tracksOf_7 rfl (by decide) rfl ?_
  have L9 : ∀ (fu : Nat) (f : Nat), 8 - f < fu → f ≤ 8 → Wp g yX7_tracksOf cX7_tracksOf 8 (some .int) 2 0 0 (px_MQ g Q 0 0) 0 0 9 [some (.ref 60), some (.int (nI d)), some (.int (bI false)), some (.int (nI (cnt (isT T M d) (4 * f)))), some (.int (oN ((ffst (isT T M d) (4 * f)).map (fun k => 10 * (k / 4) + (k % 4 + 1))))), some (.int (nI f)), none, none] [] w := by
    intro fu; induction fu with
    | zero => intro f hm; exact absurd hm (Nat.not_lt_zero _)
    | succ fu ih =>
      intro f hm hfl
      have hc9 := cnt_le (isT T M d) (4 * f)
      have ih9 := ih; clear ih
      refine r_iload (pc' := 11) dX7_tracksOf_9 rfl rfl ?_
      refine r_bipush (pc' := 13) (v := nI 8) dX7_tracksOf_11 rfl rfl ?_
      refine r_icmp_ge (pc' := 16) (P := 8 ≤ f) (tgt := 102) dX7_tracksOf_13 (by decide) rfl (nI_leI (a := 8) (b := f) (by omega) (by omega)) (fun h13 => ?_) (fun h13 => ?_)
      · have hf2 : f = 8 := by omega
        subst hf2
        refine r_iload_n (pc' := 103) dX7_tracksOf_102 rfl rfl ?_
        refine r_if_eq (pc' := 106) (P := false = false) (tgt := 111) dX7_tracksOf_103 (by decide) rfl (bI_0) (fun h103 => ?_) (fun h103 => ?_)
        · skip
          refine r_iload_n (pc' := 112) dX7_tracksOf_111 rfl rfl ?_
          refine r_ireturn dX7_tracksOf_112 rfl ?_
          exact hQ
        · skip
          exfalso; exact h103 rfl
      · skip
        refine r_iconst (pc' := 17) (v := nI 1) dX7_tracksOf_16 rfl rfl ?_
        refine r_istore (pc' := 19) (lo' := [some (.ref 60), some (.int (nI d)), some (.int (bI false)), some (.int (nI (cnt (isT T M d) (4 * f)))), some (.int (oN ((ffst (isT T M d) (4 * f)).map (fun k => 10 * (k / 4) + (k % 4 + 1))))), some (.int (nI f)), some (.int (nI 1)), none]) dX7_tracksOf_17 rfl (by decide) rfl ?_
        have L19 : ∀ (fu : Nat) (s : Nat), 5 - s < fu → 1 ≤ s ∧ s ≤ 5 → Wp g yX7_tracksOf cX7_tracksOf 8 (some .int) 2 0 0 (px_MQ g Q 0 0) 0 0 19 [some (.ref 60), some (.int (nI d)), some (.int (bI false)), some (.int (nI (cnt (isT T M d) (4 * f + (s - 1))))), some (.int (oN ((ffst (isT T M d) (4 * f + (s - 1))).map (fun k => 10 * (k / 4) + (k % 4 + 1))))), some (.int (nI f)), some (.int (nI s)), none] [] w := by
          intro fu; induction fu with
          | zero => intro s hm; exact absurd hm (Nat.not_lt_zero _)
          | succ fu ih =>
            intro s hm hs
            have hc8 := cnt_le (isT T M d) (4 * f + (s - 1))
            have ih19 := ih; clear ih
            refine r_iload (pc' := 21) dX7_tracksOf_19 rfl rfl ?_
            refine r_iconst (pc' := 22) (v := nI 5) dX7_tracksOf_21 rfl rfl ?_
            refine r_icmp_ge (pc' := 25) (P := 5 ≤ s) (tgt := 96) dX7_tracksOf_22 (by decide) rfl (nI_leI (a := 5) (b := s) (by omega) (by omega)) (fun h22 => ?_) (fun h22 => ?_)
            · have hs2 : s = 5 := by omega
              subst hs2
              refine r_iinc (pc' := 99) (lo' := [some (.ref 60), some (.int (nI d)), some (.int (bI false)), some (.int (nI (cnt (isT T M d) (4 * f + (5 - 1))))), some (.int (oN ((ffst (isT T M d) (4 * f + (5 - 1))).map (fun k => 10 * (k / 4) + (k % 4 + 1))))), some (.int (nI (f + 1))), some (.int (nI 5)), none]) dX7_tracksOf_96 rfl (by decide) rfl (nI_add f 1) rfl ?_
              refine r_goto (tgt := 9) dX7_tracksOf_99 (by decide) ?_
              rw [show 4 * f + (5 - 1) = 4 * (f + 1) by omega]
              refine r_drop 6 rfl ?_
              exact ih9 (f + 1) (by omega) (by omega)
            · skip
              refine r_aload_n (pc' := 26) dX7_tracksOf_25 rfl rfl ?_
              refine r_iload_n (pc' := 27) dX7_tracksOf_26 rfl rfl ?_
              refine r_iload (pc' := 29) dX7_tracksOf_27 rfl rfl ?_
              refine r_iload (pc' := 31) dX7_tracksOf_29 rfl rfl ?_
              refine r_callV (pc' := 34) (av := [.int (nI d), .int (nI f), .int (nI s)]) (rest := []) kX7_stepsOf vX7_stepsOf lX7_146 dX7_tracksOf_31 rfl hX rfl rfl rfl ⟨by decide, by decide, by decide⟩ rfl rfl (Nat.le_of_ble_eq_true rfl) (ct_X7_stepsOf hX hT hO hM (d := d) (f := f) (s := s) (by omega) (by omega) (by omega) ?_)
              show Wp g yX7_tracksOf cX7_tracksOf 8 (some .int) 2 0 0 (px_MQ g Q 0 0) 0 0 34 [some (.ref 60), some (.int (nI d)), some (.int (bI false)), some (.int (nI (cnt (isT T M d) (4 * f + (s - 1))))), some (.int (oN ((ffst (isT T M d) (4 * f + (s - 1))).map (fun k => 10 * (k / 4) + (k % 4 + 1))))), some (.int (nI f)), some (.int (nI s)), none] [.int (nI (trk f s (td T d)))] w
              have e31 := trk_lt (f := f) (s := s) (hO.2.2.1 d (by omega)).2
              refine r_aload_n (pc' := 35) dX7_tracksOf_34 rfl rfl ?_
              refine r_get (pc' := 38) fX7_40 dX7_tracksOf_35 rfl hX rfl ?_
              refine r_bipush (pc' := 40) (v := nI 32) dX7_tracksOf_38 rfl rfl ?_
              refine r_iload_n (pc' := 41) dX7_tracksOf_40 rfl rfl ?_
              refine r_iadd (pc' := 42) (v := nI (32 + d)) dX7_tracksOf_41 rfl (nI_add 32 d) ?_
              refine r_iaload (pc' := 43) (v := nI (nt M d)) dX7_tracksOf_42 rfl cn (vp_in_nI (n := 32 + d) (by omega) (by omega)) (by rw [nI_cl (by omega), hf _ (by omega), sv_t _ (by omega)]) ?_
              have e42 := mB2 d (by omega)
              refine r_icmp_ne (pc' := 46) (P := trk f s (td T d) = nt M d) (tgt := 50) dX7_tracksOf_43 (by decide) rfl (nI_eq (a := trk f s (td T d)) (b := nt M d) (by omega) (by omega)) (fun h43 => ?_) (fun h43 => ?_)
              · skip
                refine r_iconst (pc' := 51) (v := bI false) dX7_tracksOf_50 rfl rfl ?_
                refine r_istore (pc' := 53) (lo' := [some (.ref 60), some (.int (nI d)), some (.int (bI false)), some (.int (nI (cnt (isT T M d) (4 * f + (s - 1))))), some (.int (oN ((ffst (isT T M d) (4 * f + (s - 1))).map (fun k => 10 * (k / 4) + (k % 4 + 1))))), some (.int (nI f)), some (.int (nI s)), some (.int (bI false))]) dX7_tracksOf_51 rfl (by decide) rfl ?_
                refine r_iload (pc' := 55) dX7_tracksOf_53 rfl rfl ?_
                refine r_if_eq (pc' := 58) (P := false = false) (tgt := 73) dX7_tracksOf_55 (by decide) rfl (bI_0) (fun h55 => ?_) (fun h55 => ?_)
                · skip
                  refine r_iload (pc' := 75) dX7_tracksOf_73 rfl rfl ?_
                  refine r_istore (pc' := 77) (lo' := [some (.ref 60), some (.int (nI d)), some (.int (bI false)), some (.int (nI (cnt (isT T M d) (4 * f + (s - 1))))), some (.int (oN ((ffst (isT T M d) (4 * f + (s - 1))).map (fun k => 10 * (k / 4) + (k % 4 + 1))))), some (.int (nI f)), some (.int (nI s)), some (.int (bI false))]) dX7_tracksOf_75 rfl (by decide) rfl ?_
                  refine r_iload_n (pc' := 78) dX7_tracksOf_77 rfl rfl ?_
                  refine r_iload (pc' := 80) dX7_tracksOf_78 rfl rfl ?_
                  refine r_if_eq (pc' := 83) (P := false = false) (tgt := 87) dX7_tracksOf_80 (by decide) rfl (bI_0) (fun h80 => ?_) (fun h80 => ?_)
                  · skip
                    refine r_iconst (pc' := 88) (v := nI 0) dX7_tracksOf_87 rfl rfl ?_
                    refine r_iadd (pc' := 89) (v := nI (cnt (isT T M d) (4 * f + (s - 1)) + 0)) dX7_tracksOf_88 rfl (nI_add (cnt (isT T M d) (4 * f + (s - 1))) 0) ?_
                    refine r_istore_n (pc' := 90) (lo' := [some (.ref 60), some (.int (nI d)), some (.int (bI false)), some (.int (nI (cnt (isT T M d) (4 * f + (s - 1)) + 0))), some (.int (oN ((ffst (isT T M d) (4 * f + (s - 1))).map (fun k => 10 * (k / 4) + (k % 4 + 1))))), some (.int (nI f)), some (.int (nI s)), some (.int (bI false))]) dX7_tracksOf_89 rfl (by decide) rfl ?_
                    refine r_iinc (pc' := 93) (lo' := [some (.ref 60), some (.int (nI d)), some (.int (bI false)), some (.int (nI (cnt (isT T M d) (4 * f + (s - 1)) + 0))), some (.int (oN ((ffst (isT T M d) (4 * f + (s - 1))).map (fun k => 10 * (k / 4) + (k % 4 + 1))))), some (.int (nI f)), some (.int (nI (s + 1))), some (.int (bI false))]) dX7_tracksOf_90 rfl (by decide) rfl (nI_add s 1) rfl ?_
                    refine r_goto (tgt := 19) dX7_tracksOf_93 (by decide) ?_
                    have ht : isT T M d (4 * f + (s - 1)) = false := by unfold isT; rw [show (4 * f + (s - 1)) / 4 = f by omega, show (4 * f + (s - 1)) % 4 + 1 = s by omega]; simp [h43]
                    have hk : 4 * f + (s - 1) + 1 = 4 * f + (s + 1 - 1) := by omega
                    have ec := cnt_f (p := isT T M d) (n := 4 * f + (s - 1)) ht
                    have ef : ffst (isT T M d) (4 * f + (s - 1) + 1) = ffst (isT T M d) (4 * f + (s - 1)) := by
                      cases hq : ffst (isT T M d) (4 * f + (s - 1)) with
                      | none => exact ffst_n hq ht
                      | some k => exact ffst_k hq 1
                    rw [hk] at ec ef
                    have hi := ih19 (s + 1) (by omega) (by omega)
                    rw [ef, ← ec] at hi
                    refine r_drop 7 rfl ?_
                    exact hi
                  · skip
                    exfalso; exact h80 rfl
                · skip
                  exfalso; exact h55 rfl
              · skip
                refine r_iconst (pc' := 47) (v := bI true) dX7_tracksOf_46 rfl rfl ?_
                refine r_goto (tgt := 51) dX7_tracksOf_47 (by decide) ?_
                refine r_istore (pc' := 53) (lo' := [some (.ref 60), some (.int (nI d)), some (.int (bI false)), some (.int (nI (cnt (isT T M d) (4 * f + (s - 1))))), some (.int (oN ((ffst (isT T M d) (4 * f + (s - 1))).map (fun k => 10 * (k / 4) + (k % 4 + 1))))), some (.int (nI f)), some (.int (nI s)), some (.int (bI true))]) dX7_tracksOf_51 rfl (by decide) rfl ?_
                refine r_iload (pc' := 55) dX7_tracksOf_53 rfl rfl ?_
                refine r_if_eq (pc' := 58) (P := true = false) (tgt := 73) dX7_tracksOf_55 (by decide) rfl (bI_0) (fun h55 => ?_) (fun h55 => ?_)
                · skip
                  exfalso; cases h55
                · skip
                  refine r_iload_n (pc' := 59) dX7_tracksOf_58 rfl rfl ?_
                  refine r_if_ne (pc' := 62) (P := cnt (isT T M d) (4 * f + (s - 1)) = 0) (tgt := 73) dX7_tracksOf_59 (by decide) rfl (nI_eq0 (n := cnt (isT T M d) (4 * f + (s - 1))) (by omega)) (fun h59 => ?_) (fun h59 => ?_)
                  · skip
                    refine r_iload (pc' := 75) dX7_tracksOf_73 rfl rfl ?_
                    refine r_istore (pc' := 77) (lo' := [some (.ref 60), some (.int (nI d)), some (.int (bI false)), some (.int (nI (cnt (isT T M d) (4 * f + (s - 1))))), some (.int (oN ((ffst (isT T M d) (4 * f + (s - 1))).map (fun k => 10 * (k / 4) + (k % 4 + 1))))), some (.int (nI f)), some (.int (nI s)), some (.int (bI true))]) dX7_tracksOf_75 rfl (by decide) rfl ?_
                    refine r_iload_n (pc' := 78) dX7_tracksOf_77 rfl rfl ?_
                    refine r_iload (pc' := 80) dX7_tracksOf_78 rfl rfl ?_
                    refine r_if_eq (pc' := 83) (P := true = false) (tgt := 87) dX7_tracksOf_80 (by decide) rfl (bI_0) (fun h80 => ?_) (fun h80 => ?_)
                    · skip
                      exfalso; cases h80
                    · skip
                      refine r_iconst (pc' := 84) (v := nI 1) dX7_tracksOf_83 rfl rfl ?_
                      refine r_goto (tgt := 88) dX7_tracksOf_84 (by decide) ?_
                      refine r_iadd (pc' := 89) (v := nI (cnt (isT T M d) (4 * f + (s - 1)) + 1)) dX7_tracksOf_88 rfl (nI_add (cnt (isT T M d) (4 * f + (s - 1))) 1) ?_
                      refine r_istore_n (pc' := 90) (lo' := [some (.ref 60), some (.int (nI d)), some (.int (bI false)), some (.int (nI (cnt (isT T M d) (4 * f + (s - 1)) + 1))), some (.int (oN ((ffst (isT T M d) (4 * f + (s - 1))).map (fun k => 10 * (k / 4) + (k % 4 + 1))))), some (.int (nI f)), some (.int (nI s)), some (.int (bI true))]) dX7_tracksOf_89 rfl (by decide) rfl ?_
                      refine r_iinc (pc' := 93) (lo' := [some (.ref 60), some (.int (nI d)), some (.int (bI false)), some (.int (nI (cnt (isT T M d) (4 * f + (s - 1)) + 1))), some (.int (oN ((ffst (isT T M d) (4 * f + (s - 1))).map (fun k => 10 * (k / 4) + (k % 4 + 1))))), some (.int (nI f)), some (.int (nI (s + 1))), some (.int (bI true))]) dX7_tracksOf_90 rfl (by decide) rfl (nI_add s 1) rfl ?_
                      refine r_goto (tgt := 19) dX7_tracksOf_93 (by decide) ?_
                      have ht : isT T M d (4 * f + (s - 1)) = true := by unfold isT; rw [show (4 * f + (s - 1)) / 4 = f by omega, show (4 * f + (s - 1)) % 4 + 1 = s by omega]; simp [h43]
                      have hk : 4 * f + (s - 1) + 1 = 4 * f + (s + 1 - 1) := by omega
                      have ec := cnt_t (p := isT T M d) (n := 4 * f + (s - 1)) ht
                      have ef : ffst (isT T M d) (4 * f + (s - 1) + 1) = ffst (isT T M d) (4 * f + (s - 1)) := by
                        obtain ⟨k, hk0⟩ := Option.ne_none_iff_exists'.mp (fun q => h59 ((cnt0 _ _).mpr q))
                        rw [hk0]; exact ffst_k hk0 1
                      rw [hk] at ec ef
                      have hi := ih19 (s + 1) (by omega) (by omega)
                      rw [ef, ← ec] at hi
                      refine r_drop 7 rfl ?_
                      exact hi
                  · skip
                    refine r_bipush (pc' := 64) (v := nI 10) dX7_tracksOf_62 rfl rfl ?_
                    refine r_iload (pc' := 66) dX7_tracksOf_64 rfl rfl ?_
                    refine r_imul (pc' := 67) (v := nI (10 * f)) dX7_tracksOf_66 rfl (pk_mul 10 f) ?_
                    refine r_iload (pc' := 69) dX7_tracksOf_67 rfl rfl ?_
                    refine r_iadd (pc' := 70) (v := nI (10 * f + s)) dX7_tracksOf_69 rfl (nI_add (10 * f) s) ?_
                    refine r_goto (tgt := 75) dX7_tracksOf_70 (by decide) ?_
                    refine r_istore (pc' := 77) (lo' := [some (.ref 60), some (.int (nI d)), some (.int (bI false)), some (.int (nI (cnt (isT T M d) (4 * f + (s - 1))))), some (.int (nI (10 * f + s))), some (.int (nI f)), some (.int (nI s)), some (.int (bI true))]) dX7_tracksOf_75 rfl (by decide) rfl ?_
                    refine r_iload_n (pc' := 78) dX7_tracksOf_77 rfl rfl ?_
                    refine r_iload (pc' := 80) dX7_tracksOf_78 rfl rfl ?_
                    refine r_if_eq (pc' := 83) (P := true = false) (tgt := 87) dX7_tracksOf_80 (by decide) rfl (bI_0) (fun h80 => ?_) (fun h80 => ?_)
                    · skip
                      exfalso; cases h80
                    · skip
                      refine r_iconst (pc' := 84) (v := nI 1) dX7_tracksOf_83 rfl rfl ?_
                      refine r_goto (tgt := 88) dX7_tracksOf_84 (by decide) ?_
                      refine r_iadd (pc' := 89) (v := nI (cnt (isT T M d) (4 * f + (s - 1)) + 1)) dX7_tracksOf_88 rfl (nI_add (cnt (isT T M d) (4 * f + (s - 1))) 1) ?_
                      refine r_istore_n (pc' := 90) (lo' := [some (.ref 60), some (.int (nI d)), some (.int (bI false)), some (.int (nI (cnt (isT T M d) (4 * f + (s - 1)) + 1))), some (.int (nI (10 * f + s))), some (.int (nI f)), some (.int (nI s)), some (.int (bI true))]) dX7_tracksOf_89 rfl (by decide) rfl ?_
                      refine r_iinc (pc' := 93) (lo' := [some (.ref 60), some (.int (nI d)), some (.int (bI false)), some (.int (nI (cnt (isT T M d) (4 * f + (s - 1)) + 1))), some (.int (nI (10 * f + s))), some (.int (nI f)), some (.int (nI (s + 1))), some (.int (bI true))]) dX7_tracksOf_90 rfl (by decide) rfl (nI_add s 1) rfl ?_
                      refine r_goto (tgt := 19) dX7_tracksOf_93 (by decide) ?_
                      have ht : isT T M d (4 * f + (s - 1)) = true := by unfold isT; rw [show (4 * f + (s - 1)) / 4 = f by omega, show (4 * f + (s - 1)) % 4 + 1 = s by omega]; simp [h43]
                      have hk : 4 * f + (s - 1) + 1 = 4 * f + (s + 1 - 1) := by omega
                      have ec := cnt_t (p := isT T M d) (n := 4 * f + (s - 1)) ht
                      have ef := ffst_s ((cnt0 _ _).mp h59) ht
                      rw [hk] at ec ef
                      have hi := ih19 (s + 1) (by omega) (by omega)
                      rw [ef, ← ec] at hi
                      have e4 : oN (Option.map (fun k => 10 * (k / 4) + (k % 4 + 1)) (some (4 * f + (s - 1)))) = nI (10 * f + s) := by
                        show nI (10 * ((4 * f + (s - 1)) / 4) + ((4 * f + (s - 1)) % 4 + 1)) = nI _
                        congr 1
                        omega
                      rw [e4] at hi
                      refine r_drop 7 rfl ?_
                      exact hi
        exact L19 ((4) + 1) 1 (Nat.lt_succ_self _) (by omega)
  exact L9 ((8) + 1) 0 (Nat.lt_succ_self _) (by omega)
