set_option maxHeartbeats 200000 in
theorem ct_X7_in {g : px_G} {w : px_W} {Q : px_Q} {a lo hi : Int32} (hQ : Q (some (.int (bI (inI a lo hi)))) w) : Ct g yX7_in cX7_in 3 (some .boolean) 1 0 0 [.int a, .int lo, .int hi] w Q := by
  refine Ct.of kX7_in (by omega) (lo := [some (.int a), some (.int lo), some (.int hi)]) rfl (px_cat1 rfl) (Nat.le_of_ble_eq_true rfl) ?_
  refine r_iload_n (pc' := 1) dX7_in_0 rfl rfl ?_
  refine r_iload_n (pc' := 2) dX7_in_1 rfl rfl ?_
  refine r_icmp_lt (pc' := 5) (P := a < lo) (tgt := 14) dX7_in_2 (by decide) rfl (Iff.rfl) (fun h2 => ?_) (fun h2 => ?_)
  · skip
    refine r_iconst (pc' := 15) (v := bI false) dX7_in_14 rfl rfl ?_
    refine r_zreturn dX7_in_15 rfl (bI_nar _) ?_
    refine px_eqB hQ ?_
    first | exact (inI_lt h2).symm | exact (inI_gt h7).symm | exact (inI_in h2 h7).symm
  · skip
    refine r_iload_n (pc' := 6) dX7_in_5 rfl rfl ?_
    refine r_iload_n (pc' := 7) dX7_in_6 rfl rfl ?_
    refine r_icmp_gt (pc' := 10) (P := hi < a) (tgt := 14) dX7_in_7 (by decide) rfl (Iff.rfl) (fun h7 => ?_) (fun h7 => ?_)
    · skip
      refine r_iconst (pc' := 15) (v := bI false) dX7_in_14 rfl rfl ?_
      refine r_zreturn dX7_in_15 rfl (bI_nar _) ?_
      refine px_eqB hQ ?_
      first | exact (inI_lt h2).symm | exact (inI_gt h7).symm | exact (inI_in h2 h7).symm
    · skip
      refine r_iconst (pc' := 11) (v := bI true) dX7_in_10 rfl rfl ?_
      refine r_goto (tgt := 15) dX7_in_11 (by decide) ?_
      refine r_zreturn dX7_in_15 rfl (bI_nar _) ?_
      refine px_eqB hQ ?_
      first | exact (inI_lt h2).symm | exact (inI_gt h7).symm | exact (inI_in h2 h7).symm
theorem ct_in_c {g : px_G} {w : px_W} {Q : px_Q} {a : Int32} {n : Nat} (hn : n + 1 < 2 ^ 31) (hQ : Q (some (.int (bI (hasI a (n + 1))))) w) : Ct g yX7_in cX7_in 3 (some .boolean) 1 0 0 [.int a, .int (nI 0), .int (nI n)] w Q := ct_X7_in (by rw [inI_c hn]; exact hQ)
theorem ct_in_s {g : px_G} {w : px_W} {Q : px_Q} {a : Int32} {n : Nat} (hn : n < 2 ^ 30) (hQ : Q (some (.int (bI (hasI a n)))) w) : Ct g yX7_in cX7_in 3 (some .boolean) 1 0 0 [.int a, .int (nI 0), .int (nI n - nI 1)] w Q := ct_X7_in (by rw [inI_s hn]; exact hQ)
theorem ct_in_4 {g : px_G} {w : px_W} {Q : px_Q} {a : Int32} (hQ : Q (some (.int (bI (strI a)))) w) : Ct g yX7_in cX7_in 3 (some .boolean) 1 0 0 [.int a, .int (nI 1), .int (nI 4)] w Q := ct_X7_in (by rw [inI_str]; exact hQ)
theorem ct_in_n {g : px_G} {w : px_W} {Q : px_Q} {a lo hi : Nat} (h1 : a < 2 ^ 31) (h2 : lo < 2 ^ 31) (h3 : hi < 2 ^ 31) (hQ : Q (some (.int (bI (decide (lo ≤ a) && decide (a ≤ hi))))) w) : Ct g yX7_in cX7_in 3 (some .boolean) 1 0 0 [.int (nI a), .int (nI lo), .int (nI hi)] w Q := ct_X7_in (by rw [inI_n h1 h2 h3]; exact hQ)
set_option maxHeartbeats 200000 in
theorem ct_X7_ones {g : px_G} {w : px_W} {Q : px_Q} {n : Nat} (hn : n < 2 ^ 31) (hQ : Q (some (.int (nI (popc n)))) w) : Ct g yX7_ones cX7_ones 3 (some .int) 1 0 0 [.int (nI n)] w Q := by
  refine Ct.of kX7_ones (by omega) (lo := [some (.int (nI n)), none, none]) rfl (px_cat1 rfl) (Nat.le_of_ble_eq_true rfl) ?_
  refine r_iconst (pc' := 1) (v := nI 0) dX7_ones_0 rfl rfl ?_
  refine r_istore_n (pc' := 2) (lo' := [some (.int (nI n)), some (.int (nI 0)), none]) dX7_ones_1 rfl (by decide) rfl ?_
  refine r_iconst (pc' := 3) (v := nI 0) dX7_ones_2 rfl rfl ?_
  refine r_istore_n (pc' := 4) (lo' := [some (.int (nI n)), some (.int (nI 0)), some (.int (nI 0))]) dX7_ones_3 rfl (by decide) rfl ?_
  have L4 : ∀ (fu : Nat) (k : Nat), 8 - k < fu → k ≤ 8 → Wp g yX7_ones cX7_ones 3 (some .int) 1 0 0 (px_MQ g Q 0 0) 0 0 4 [some (.int (nI n)), some (.int (nI (nsum (fun k => n / 2 ^ k % 2) k))), some (.int (nI k))] [] w := by
    intro fu; induction fu with
    | zero => intro k hm; exact absurd hm (Nat.not_lt_zero _)
    | succ fu ih =>
      intro k hm hk
      have ih4 := ih; clear ih
      refine r_iload_n (pc' := 5) dX7_ones_4 rfl rfl ?_
      refine r_bipush (pc' := 7) (v := nI 8) dX7_ones_5 rfl rfl ?_
      refine r_icmp_ge (pc' := 10) (P := 8 ≤ k) (tgt := 24) dX7_ones_7 (by decide) rfl (nI_leI (a := 8) (b := k) (by omega) (by omega)) (fun h7 => ?_) (fun h7 => ?_)
      · have hk2 : k = 8 := by omega
        subst hk2
        refine r_iload_n (pc' := 25) dX7_ones_24 rfl rfl ?_
        refine r_ireturn dX7_ones_25 rfl ?_
        exact hQ
      · skip
        refine r_iload_n (pc' := 11) dX7_ones_10 rfl rfl ?_
        refine r_iload_n (pc' := 12) dX7_ones_11 rfl rfl ?_
        refine r_iload_n (pc' := 13) dX7_ones_12 rfl rfl ?_
        refine r_ishr (pc' := 14) (v := nI (n / 2 ^ k)) dX7_ones_13 rfl (shr_n (a := n) (b := k) (by omega) (by omega)) ?_
        refine r_iconst (pc' := 15) (v := nI 1) dX7_ones_14 rfl rfl ?_
        refine r_iand (pc' := 16) (v := nI ((n / 2 ^ k) &&& 1)) dX7_ones_15 rfl (and_n (n / 2 ^ k) 1) ?_
        refine r_iadd (pc' := 17) (v := nI (nsum (fun k => n / 2 ^ k % 2) k + ((n / 2 ^ k) &&& 1))) dX7_ones_16 rfl (nI_add (nsum (fun k => n / 2 ^ k % 2) k) ((n / 2 ^ k) &&& 1)) ?_
        refine r_istore_n (pc' := 18) (lo' := [some (.int (nI n)), some (.int (nI (nsum (fun k => n / 2 ^ k % 2) k + ((n / 2 ^ k) &&& 1)))), some (.int (nI k))]) dX7_ones_17 rfl (by decide) rfl ?_
        refine r_iinc (pc' := 21) (lo' := [some (.int (nI n)), some (.int (nI (nsum (fun k => n / 2 ^ k % 2) k + ((n / 2 ^ k) &&& 1)))), some (.int (nI (k + 1)))]) dX7_ones_18 rfl (by decide) rfl (nI_add k 1) rfl ?_
        refine r_goto (tgt := 4) dX7_ones_21 (by decide) ?_
        rw [show nsum (fun k => n / 2 ^ k % 2) k + ((n / 2 ^ k) &&& 1) = nsum (fun k => n / 2 ^ k % 2) (k + 1) by simp [nsum, Nat.and_one_is_mod]]
        exact ih4 (k + 1) (by omega) (by omega)
  exact L4 ((8) + 1) 0 (Nat.lt_succ_self _) (by omega)
set_option maxHeartbeats 200000 in
theorem ct_X7_isWordAt {g : px_G} {w : px_W} {Q : px_Q} {tr : Int64} {ty nx tk pl va fa um : Int32} {T : px_T} {M : px_N} (hX : w[60]? = some (mobj tr ty nx tk pl va fa um)) (hT : MtA w T) (hO : TOK T) (hM : MnA w M) {a : Int32} (hQ : Q (some (.int (bI (hasI a (tW T))))) w) : Ct g yX7_isWordAt cX7_isWordAt 2 (some .boolean) 2 0 0 [.ref 60, .int a] w Q := by
  refine Ct.of kX7_isWordAt (by omega) (lo := [some (.ref 60), some (.int a)]) rfl (px_cat1 rfl) (Nat.le_of_ble_eq_true rfl) ?_
  obtain ⟨fm, fz, fl, fs, fd, g0, g1, g2, g3, ⟨c1, c2, c3, c4, c5, c6, c7, c8, c9⟩, ma, mz, ml, md, mg, ⟨sb1, sb2, sb3⟩, sb4, sb5⟩ := id hT
  obtain ⟨fn, cn, hf, mB1, mB2, mB3⟩ := id hM
  refine r_iload_n (pc' := 1) dX7_isWordAt_0 rfl rfl ?_
  refine r_iconst (pc' := 2) (v := nI 0) dX7_isWordAt_1 rfl rfl ?_
  refine r_aload_n (pc' := 3) dX7_isWordAt_2 rfl rfl ?_
  refine r_get (pc' := 6) fX7_13 dX7_isWordAt_3 rfl hX rfl ?_
  refine r_iconst (pc' := 7) (v := nI 0) dX7_isWordAt_6 rfl rfl ?_
  refine r_iaload (pc' := 8) (v := nI (tW T)) dX7_isWordAt_7 rfl c1 (vp_in_nI (n := 0) (by omega) (by omega)) (by rw [nI_cl (by omega)]; exact ma.1) ?_
  refine r_iconst (pc' := 9) (v := nI 1) dX7_isWordAt_8 rfl rfl ?_
  refine r_isub (pc' := 10) (v := (nI (tW T)) - (nI 1)) dX7_isWordAt_9 rfl (rfl) ?_
  refine r_callS (pc' := 13) (av := [.int a, .int (nI 0), .int ((nI (tW T)) - (nI 1))]) (rest := []) kX7_in vX7_in lX7_66 dX7_isWordAt_10 rfl rfl rfl ⟨by decide, by decide, by decide⟩ rfl rfl (Nat.le_of_ble_eq_true rfl) (ct_in_s (n := (tW T)) (by omega) ?_)
  show Wp g yX7_isWordAt cX7_isWordAt 2 (some .boolean) 2 0 0 (px_MQ g Q 0 0) 0 0 13 [some (.ref 60), some (.int a)] [.int (bI (hasI a ((tW T))))] w
  refine r_zreturn dX7_isWordAt_13 rfl (bI_nar _) ?_
  exact hQ
set_option maxHeartbeats 200000 in
theorem ct_X7_isDrive {g : px_G} {w : px_W} {Q : px_Q} {tr : Int64} {ty nx tk pl va fa um : Int32} {T : px_T} {M : px_N} (hX : w[60]? = some (mobj tr ty nx tk pl va fa um)) (hT : MtA w T) (hO : TOK T) (hM : MnA w M) {a : Int32} (hQ : Q (some (.int (bI (hasI a (tD T))))) w) : Ct g yX7_isDrive cX7_isDrive 2 (some .boolean) 2 0 0 [.ref 60, .int a] w Q := by
  refine Ct.of kX7_isDrive (by omega) (lo := [some (.ref 60), some (.int a)]) rfl (px_cat1 rfl) (Nat.le_of_ble_eq_true rfl) ?_
  obtain ⟨fm, fz, fl, fs, fd, g0, g1, g2, g3, ⟨c1, c2, c3, c4, c5, c6, c7, c8, c9⟩, ma, mz, ml, md, mg, ⟨sb1, sb2, sb3⟩, sb4, sb5⟩ := id hT
  obtain ⟨fn, cn, hf, mB1, mB2, mB3⟩ := id hM
  refine r_iload_n (pc' := 1) dX7_isDrive_0 rfl rfl ?_
  refine r_iconst (pc' := 2) (v := nI 0) dX7_isDrive_1 rfl rfl ?_
  refine r_aload_n (pc' := 3) dX7_isDrive_2 rfl rfl ?_
  refine r_get (pc' := 6) fX7_13 dX7_isDrive_3 rfl hX rfl ?_
  refine r_iconst (pc' := 7) (v := nI 1) dX7_isDrive_6 rfl rfl ?_
  refine r_iaload (pc' := 8) (v := nI (tD T)) dX7_isDrive_7 rfl c1 (vp_in_nI (n := 1) (by omega) (by omega)) (by rw [nI_cl (by omega)]; exact ma.2.1) ?_
  refine r_iconst (pc' := 9) (v := nI 1) dX7_isDrive_8 rfl rfl ?_
  refine r_isub (pc' := 10) (v := (nI (tD T)) - (nI 1)) dX7_isDrive_9 rfl (rfl) ?_
  refine r_callS (pc' := 13) (av := [.int a, .int (nI 0), .int ((nI (tD T)) - (nI 1))]) (rest := []) kX7_in vX7_in lX7_66 dX7_isDrive_10 rfl rfl rfl ⟨by decide, by decide, by decide⟩ rfl rfl (Nat.le_of_ble_eq_true rfl) (ct_in_s (n := (tD T)) (by omega) ?_)
  show Wp g yX7_isDrive cX7_isDrive 2 (some .boolean) 2 0 0 (px_MQ g Q 0 0) 0 0 13 [some (.ref 60), some (.int a)] [.int (bI (hasI a ((tD T))))] w
  refine r_zreturn dX7_isDrive_13 rfl (bI_nar _) ?_
  exact hQ
set_option maxHeartbeats 200000 in
theorem ct_X7_isTrodden {g : px_G} {w : px_W} {Q : px_Q} {tr : Int64} {ty nx tk pl va fa um : Int32} {T : px_T} {M : px_N} (hX : w[60]? = some (mobj tr ty nx tk pl va fa um)) (hT : MtA w T) (hO : TOK T) (hM : MnA w M) {d x : Nat} (hd : d < 4) (hx : x < 31) (hQ : Q (some (.int (bI ((nt M d).testBit x)))) w) : Ct g yX7_isTrodden cX7_isTrodden 3 (some .boolean) 1 0 0 [.ref 60, .int (nI d), .int (nI x)] w Q := by
  refine Ct.of kX7_isTrodden (by omega) (lo := [some (.ref 60), some (.int (nI d)), some (.int (nI x))]) rfl (px_cat1 rfl) (Nat.le_of_ble_eq_true rfl) ?_
  obtain ⟨fm, fz, fl, fs, fd, g0, g1, g2, g3, ⟨c1, c2, c3, c4, c5, c6, c7, c8, c9⟩, ma, mz, ml, md, mg, ⟨sb1, sb2, sb3⟩, sb4, sb5⟩ := id hT
  obtain ⟨fn, cn, hf, mB1, mB2, mB3⟩ := id hM
  refine r_aload_n (pc' := 1) dX7_isTrodden_0 rfl rfl ?_
  refine r_get (pc' := 4) fX7_40 dX7_isTrodden_1 rfl hX rfl ?_
  refine r_bipush (pc' := 6) (v := nI 32) dX7_isTrodden_4 rfl rfl ?_
  refine r_iload_n (pc' := 7) dX7_isTrodden_6 rfl rfl ?_
  refine r_iadd (pc' := 8) (v := nI (32 + d)) dX7_isTrodden_7 rfl (nI_add 32 d) ?_
  refine r_iaload (pc' := 9) (v := nI (nt M d)) dX7_isTrodden_8 rfl cn (vp_in_nI (n := 32 + d) (by omega) (by omega)) (by rw [nI_cl (by omega), hf _ (by omega), sv_t _ (by omega)]) ?_
  have e8 := mB2 d (by omega)
  refine r_iload_n (pc' := 10) dX7_isTrodden_9 rfl rfl ?_
  refine r_ishr (pc' := 11) (v := nI ((nt M d) / 2 ^ x)) dX7_isTrodden_10 rfl (shr_n (a := nt M d) (b := x) (by omega) (by omega)) ?_
  refine r_iconst (pc' := 12) (v := nI 1) dX7_isTrodden_11 rfl rfl ?_
  refine r_iand (pc' := 13) (v := nI (((nt M d) / 2 ^ x) &&& 1)) dX7_isTrodden_12 rfl (and_n ((nt M d) / 2 ^ x) 1) ?_
  refine r_iconst (pc' := 14) (v := nI 1) dX7_isTrodden_13 rfl rfl ?_
  refine r_icmp_ne (pc' := 17) (P := (nt M d).testBit x = true) (tgt := 21) dX7_isTrodden_14 (by decide) rfl ((nI_eq (a := nt M d / 2 ^ x &&& 1) (b := 1) (and_lt31 (Nat.lt_of_le_of_lt (Nat.div_le_self _ _) (by omega))) (by omega)).trans (by rw [tb_eq, Nat.and_one_is_mod, decide_eq_true_iff])) (fun h14 => ?_) (fun h14 => ?_)
  · skip
    refine r_iconst (pc' := 22) (v := bI false) dX7_isTrodden_21 rfl rfl ?_
    refine r_zreturn dX7_isTrodden_22 rfl (bI_nar _) ?_
    refine px_eqB hQ ?_
    first | exact h14.symm | (simpa using h14)
  · skip
    refine r_iconst (pc' := 18) (v := bI true) dX7_isTrodden_17 rfl rfl ?_
    refine r_goto (tgt := 22) dX7_isTrodden_18 (by decide) ?_
    refine r_zreturn dX7_isTrodden_22 rfl (bI_nar _) ?_
    refine px_eqB hQ ?_
    first | exact h14.symm | (simpa using h14)
set_option maxHeartbeats 200000 in
theorem ct_X7_letterOf {g : px_G} {w : px_W} {Q : px_Q} {tr : Int64} {ty nx tk pl va fa um : Int32} {T : px_T} {M : px_N} (hX : w[60]? = some (mobj tr ty nx tk pl va fa um)) (hT : MtA w T) (hO : TOK T) (hM : MnA w M) {i x : Nat} (hi : i < tW T) (hx : x < 2 ^ 30) (hQ : Q (some (.int (nI (tc T i x)))) w) : Ct g yX7_letterOf cX7_letterOf 3 (some .int) 1 0 0 [.ref 60, .int (nI i), .int (nI x)] w Q := by
  refine Ct.of kX7_letterOf (by omega) (lo := [some (.ref 60), some (.int (nI i)), some (.int (nI x))]) rfl (px_cat1 rfl) (Nat.le_of_ble_eq_true rfl) ?_
  obtain ⟨fm, fz, fl, fs, fd, g0, g1, g2, g3, ⟨c1, c2, c3, c4, c5, c6, c7, c8, c9⟩, ma, mz, ml, md, mg, ⟨sb1, sb2, sb3⟩, sb4, sb5⟩ := id hT
  obtain ⟨fn, cn, hf, mB1, mB2, mB3⟩ := id hM
  refine r_iload_n (pc' := 1) dX7_letterOf_0 rfl rfl ?_
  refine r_aload_n (pc' := 2) dX7_letterOf_1 rfl rfl ?_
  refine r_get (pc' := 5) fX7_16 dX7_letterOf_2 rfl hX rfl ?_
  refine r_iload_n (pc' := 6) dX7_letterOf_5 rfl rfl ?_
  refine r_iaload (pc' := 7) (v := nI (tl T i)) dX7_letterOf_6 rfl c2 (vp_in_nI (n := i) (by omega) (by omega)) (by rw [nI_cl (by omega)]; exact (mz i (by omega)).1) ?_
  have e6 := sb4 i (by omega)
  refine r_icmp_ge (pc' := 10) (P := tl T i ≤ x) (tgt := 24) dX7_letterOf_7 (by decide) rfl (nI_leI (a := tl T i) (b := x) (by omega) (by omega)) (fun h7 => ?_) (fun h7 => ?_)
  · skip
    refine r_bipush (pc' := 26) (v := nI 8) dX7_letterOf_24 rfl rfl ?_
    refine r_ireturn dX7_letterOf_26 rfl ?_
    first | exact hQ | exact px_eqN hQ (sb5 i x hi (by omega)).symm
  · skip
    refine r_aload_n (pc' := 11) dX7_letterOf_10 rfl rfl ?_
    refine r_get (pc' := 14) fX7_19 dX7_letterOf_11 rfl hX rfl ?_
    refine r_bipush (pc' := 16) (v := nI 6) dX7_letterOf_14 rfl rfl ?_
    refine r_iload_n (pc' := 17) dX7_letterOf_16 rfl rfl ?_
    refine r_imul (pc' := 18) (v := nI (6 * i)) dX7_letterOf_17 rfl (pk_mul 6 i) ?_
    refine r_iload_n (pc' := 19) dX7_letterOf_18 rfl rfl ?_
    refine r_iadd (pc' := 20) (v := nI (6 * i + x)) dX7_letterOf_19 rfl (nI_add (6 * i) x) ?_
    refine r_iaload (pc' := 21) (v := nI (tc T i x)) dX7_letterOf_20 rfl c3 (vp_in_nI (n := 6 * i + x) (by omega) (by omega)) (by rw [nI_cl (by omega)]; exact ml i x (by omega) (by omega)) ?_
    have e20 := tc_le hO ⟨⟨sb1, sb2, sb3⟩, sb4, sb5⟩ (i := i) (x := x) (by omega)
    refine r_goto (tgt := 26) dX7_letterOf_21 (by decide) ?_
    refine r_ireturn dX7_letterOf_26 rfl ?_
    first | exact hQ | exact px_eqN hQ (sb5 i x hi (by omega)).symm
set_option maxHeartbeats 200000 in
theorem ct_X7_apart {g : px_G} {w : px_W} {Q : px_Q} {tr : Int64} {ty nx tk pl va fa um : Int32} {T : px_T} {M : px_N} (hX : w[60]? = some (mobj tr ty nx tk pl va fa um)) (hT : MtA w T) (hO : TOK T) (hM : MnA w M) {i j : Nat} (hi : i < tW T) (hj : j < tW T) (hQ : Q (some (.int (nI (dif T i j)))) w) : Ct g yX7_apart cX7_apart 5 (some .int) 2 0 0 [.ref 60, .int (nI i), .int (nI j)] w Q := by
  refine Ct.of kX7_apart (by omega) (lo := [some (.ref 60), some (.int (nI i)), some (.int (nI j)), none, none]) rfl (px_cat1 rfl) (Nat.le_of_ble_eq_true rfl) ?_
  obtain ⟨fm, fz, fl, fs, fd, g0, g1, g2, g3, ⟨c1, c2, c3, c4, c5, c6, c7, c8, c9⟩, ma, mz, ml, md, mg, ⟨sb1, sb2, sb3⟩, sb4, sb5⟩ := id hT
  obtain ⟨fn, cn, hf, mB1, mB2, mB3⟩ := id hM
  refine r_iconst (pc' := 1) (v := nI 0) dX7_apart_0 rfl rfl ?_
  refine r_istore_n (pc' := 2) (lo' := [some (.ref 60), some (.int (nI i)), some (.int (nI j)), some (.int (nI 0)), none]) dX7_apart_1 rfl (by decide) rfl ?_
  refine r_iconst (pc' := 3) (v := nI 0) dX7_apart_2 rfl rfl ?_
  refine r_istore (pc' := 5) (lo' := [some (.ref 60), some (.int (nI i)), some (.int (nI j)), some (.int (nI 0)), some (.int (nI 0))]) dX7_apart_3 rfl (by decide) rfl ?_
  have L5 : ∀ (fu : Nat) (x : Nat), 6 - x < fu → x ≤ 6 → Wp g yX7_apart cX7_apart 5 (some .int) 2 0 0 (px_MQ g Q 0 0) 0 0 5 [some (.ref 60), some (.int (nI i)), some (.int (nI j)), some (.int (nI (nsum (fun x => if tc T i x == tc T j x then 0 else 1) x))), some (.int (nI x))] [] w := by
    intro fu; induction fu with
    | zero => intro x hm; exact absurd hm (Nat.not_lt_zero _)
    | succ fu ih =>
      intro x hm hx
      have ih5 := ih; clear ih
      refine r_iload (pc' := 7) dX7_apart_5 rfl rfl ?_
      refine r_bipush (pc' := 9) (v := nI 6) dX7_apart_7 rfl rfl ?_
      refine r_icmp_ge (pc' := 12) (P := 6 ≤ x) (tgt := 43) dX7_apart_9 (by decide) rfl (nI_leI (a := 6) (b := x) (by omega) (by omega)) (fun h9 => ?_) (fun h9 => ?_)
      · have hx2 : x = 6 := by omega
        subst hx2
        refine r_iload_n (pc' := 44) dX7_apart_43 rfl rfl ?_
        refine r_ireturn dX7_apart_44 rfl ?_
        exact hQ
      · skip
        refine r_iload_n (pc' := 13) dX7_apart_12 rfl rfl ?_
        refine r_aload_n (pc' := 14) dX7_apart_13 rfl rfl ?_
        refine r_iload_n (pc' := 15) dX7_apart_14 rfl rfl ?_
        refine r_iload (pc' := 17) dX7_apart_15 rfl rfl ?_
        refine r_callV (pc' := 20) (av := [.int (nI i), .int (nI x)]) (rest := [.int (nI (nsum (fun x => if tc T i x == tc T j x then 0 else 1) x))]) kX7_letterOf vX7_letterOf lX7_120 dX7_apart_17 rfl hX rfl rfl rfl ⟨by decide, by decide, by decide⟩ rfl rfl (Nat.le_of_ble_eq_true rfl) (ct_X7_letterOf hX hT hO hM (i := i) (x := x) (by omega) (by omega) ?_)
        show Wp g yX7_apart cX7_apart 5 (some .int) 2 0 0 (px_MQ g Q 0 0) 0 0 20 [some (.ref 60), some (.int (nI i)), some (.int (nI j)), some (.int (nI (nsum (fun x => if tc T i x == tc T j x then 0 else 1) x))), some (.int (nI x))] [.int (nI (tc T i x)), .int (nI (nsum (fun x => if tc T i x == tc T j x then 0 else 1) x))] w
        have e17 := tc_le hO hT.b (i := i) (x := x) (by omega)
        refine r_aload_n (pc' := 21) dX7_apart_20 rfl rfl ?_
        refine r_iload_n (pc' := 22) dX7_apart_21 rfl rfl ?_
        refine r_iload (pc' := 24) dX7_apart_22 rfl rfl ?_
        refine r_callV (pc' := 27) (av := [.int (nI j), .int (nI x)]) (rest := [.int (nI (tc T i x)), .int (nI (nsum (fun x => if tc T i x == tc T j x then 0 else 1) x))]) kX7_letterOf vX7_letterOf lX7_120 dX7_apart_24 rfl hX rfl rfl rfl ⟨by decide, by decide, by decide⟩ rfl rfl (Nat.le_of_ble_eq_true rfl) (ct_X7_letterOf hX hT hO hM (i := j) (x := x) (by omega) (by omega) ?_)
        show Wp g yX7_apart cX7_apart 5 (some .int) 2 0 0 (px_MQ g Q 0 0) 0 0 27 [some (.ref 60), some (.int (nI i)), some (.int (nI j)), some (.int (nI (nsum (fun x => if tc T i x == tc T j x then 0 else 1) x))), some (.int (nI x))] [.int (nI (tc T j x)), .int (nI (tc T i x)), .int (nI (nsum (fun x => if tc T i x == tc T j x then 0 else 1) x))] w
        have e24 := tc_le hO hT.b (i := j) (x := x) (by omega)
        refine r_icmp_ne (pc' := 30) (P := tc T i x = tc T j x) (tgt := 34) dX7_apart_27 (by decide) rfl (nI_eq (a := tc T i x) (b := tc T j x) (by omega) (by omega)) (fun h27 => ?_) (fun h27 => ?_)
        · skip
          refine r_iconst (pc' := 35) (v := nI 1) dX7_apart_34 rfl rfl ?_
          refine r_iadd (pc' := 36) (v := nI (nsum (fun x => if tc T i x == tc T j x then 0 else 1) x + 1)) dX7_apart_35 rfl (nI_add (nsum (fun x => if tc T i x == tc T j x then 0 else 1) x) 1) ?_
          refine r_istore_n (pc' := 37) (lo' := [some (.ref 60), some (.int (nI i)), some (.int (nI j)), some (.int (nI (nsum (fun x => if tc T i x == tc T j x then 0 else 1) x + 1))), some (.int (nI x))]) dX7_apart_36 rfl (by decide) rfl ?_
          refine r_iinc (pc' := 40) (lo' := [some (.ref 60), some (.int (nI i)), some (.int (nI j)), some (.int (nI (nsum (fun x => if tc T i x == tc T j x then 0 else 1) x + 1))), some (.int (nI (x + 1)))]) dX7_apart_37 rfl (by decide) rfl (nI_add x 1) rfl ?_
          refine r_goto (tgt := 5) dX7_apart_40 (by decide) ?_
          have hs : nsum (fun x => if tc T i x == tc T j x then 0 else 1) x + 1 = nsum (fun x => if tc T i x == tc T j x then 0 else 1) (x + 1) := by simp [nsum, h27]
          rw [hs]
          exact ih5 (x + 1) (by omega) (by omega)
        · skip
          refine r_iconst (pc' := 31) (v := nI 0) dX7_apart_30 rfl rfl ?_
          refine r_goto (tgt := 35) dX7_apart_31 (by decide) ?_
          refine r_iadd (pc' := 36) (v := nI (nsum (fun x => if tc T i x == tc T j x then 0 else 1) x + 0)) dX7_apart_35 rfl (nI_add (nsum (fun x => if tc T i x == tc T j x then 0 else 1) x) 0) ?_
          refine r_istore_n (pc' := 37) (lo' := [some (.ref 60), some (.int (nI i)), some (.int (nI j)), some (.int (nI (nsum (fun x => if tc T i x == tc T j x then 0 else 1) x + 0))), some (.int (nI x))]) dX7_apart_36 rfl (by decide) rfl ?_
          refine r_iinc (pc' := 40) (lo' := [some (.ref 60), some (.int (nI i)), some (.int (nI j)), some (.int (nI (nsum (fun x => if tc T i x == tc T j x then 0 else 1) x + 0))), some (.int (nI (x + 1)))]) dX7_apart_37 rfl (by decide) rfl (nI_add x 1) rfl ?_
          refine r_goto (tgt := 5) dX7_apart_40 (by decide) ?_
          have hs : nsum (fun x => if tc T i x == tc T j x then 0 else 1) x + 0 = nsum (fun x => if tc T i x == tc T j x then 0 else 1) (x + 1) := by simp [nsum, h27]
          rw [hs]
          exact ih5 (x + 1) (by omega) (by omega)
  exact L5 ((6) + 1) 0 (Nat.lt_succ_self _) (by omega)
set_option maxHeartbeats 200000 in
theorem ct_X7_nearest {g : px_G} {w : px_W} {Q : px_Q} {tr : Int64} {ty nx tk pl va fa um : Int32} {T : px_T} {M : px_N} (hX : w[60]? = some (mobj tr ty nx tk pl va fa um)) (hT : MtA w T) (hO : TOK T) (hM : MnA w M) {i : Nat} (hi : i < tW T) (hQ : Q (some (.int (oN (nearS T i)))) w) : Ct g yX7_nearest cX7_nearest 4 (some .int) 3 0 0 [.ref 60, .int (nI i)] w Q := by
  refine Ct.of kX7_nearest (by omega) (lo := [some (.ref 60), some (.int (nI i)), none, none]) rfl (px_cat1 rfl) (Nat.le_of_ble_eq_true rfl) ?_
  obtain ⟨fm, fz, fl, fs, fd, g0, g1, g2, g3, ⟨c1, c2, c3, c4, c5, c6, c7, c8, c9⟩, ma, mz, ml, md, mg, ⟨sb1, sb2, sb3⟩, sb4, sb5⟩ := id hT
  obtain ⟨fn, cn, hf, mB1, mB2, mB3⟩ := id hM
  refine r_bipush (pc' := 2) (v := (-9)) dX7_nearest_0 rfl rfl ?_
  refine r_istore_n (pc' := 3) (lo' := [some (.ref 60), some (.int (nI i)), some (.int ((-9))), none]) dX7_nearest_2 rfl (by decide) rfl ?_
  refine r_iconst (pc' := 4) (v := nI 0) dX7_nearest_3 rfl rfl ?_
  refine r_istore_n (pc' := 5) (lo' := [some (.ref 60), some (.int (nI i)), some (.int ((-9))), some (.int (nI 0))]) dX7_nearest_4 rfl (by decide) rfl ?_
  have L5 : ∀ (fu : Nat) (v : Nat), tW T - v < fu → v ≤ tW T → Wp g yX7_nearest cX7_nearest 4 (some .int) 3 0 0 (px_MQ g Q 0 0) 0 0 5 [some (.ref 60), some (.int (nI i)), some (.int (oN (amin (fun v => !(v == i)) (dif T i) v))), some (.int (nI v))] [] w := by
    intro fu; induction fu with
    | zero => intro v hm; exact absurd hm (Nat.not_lt_zero _)
    | succ fu ih =>
      intro v hm hv
      have ih5 := ih; clear ih
      refine r_iload_n (pc' := 6) dX7_nearest_5 rfl rfl ?_
      refine r_aload_n (pc' := 7) dX7_nearest_6 rfl rfl ?_
      refine r_get (pc' := 10) fX7_13 dX7_nearest_7 rfl hX rfl ?_
      refine r_iconst (pc' := 11) (v := nI 0) dX7_nearest_10 rfl rfl ?_
      refine r_iaload (pc' := 12) (v := nI (tW T)) dX7_nearest_11 rfl c1 (vp_in_nI (n := 0) (by omega) (by omega)) (by rw [nI_cl (by omega)]; exact ma.1) ?_
      refine r_icmp_ge (pc' := 15) (P := tW T ≤ v) (tgt := 53) dX7_nearest_12 (by decide) rfl (nI_leI (a := tW T) (b := v) (by omega) (by omega)) (fun h12 => ?_) (fun h12 => ?_)
      · have hv2 : v = tW T := by omega
        subst hv2
        refine r_iload_n (pc' := 54) dX7_nearest_53 rfl rfl ?_
        refine r_ireturn dX7_nearest_54 rfl ?_
        exact hQ
      · skip
        refine r_iload_n (pc' := 16) dX7_nearest_15 rfl rfl ?_
        refine r_iload_n (pc' := 17) dX7_nearest_16 rfl rfl ?_
        refine r_icmp_eq (pc' := 20) (P := v = i) (tgt := 45) dX7_nearest_17 (by decide) rfl (nI_eq (a := v) (b := i) (by omega) (by omega)) (fun h17 => ?_) (fun h17 => ?_)
        · skip
          refine r_iload_n (pc' := 46) dX7_nearest_45 rfl rfl ?_
          refine r_istore_n (pc' := 47) (lo' := [some (.ref 60), some (.int (nI i)), some (.int (oN (amin (fun v => !(v == i)) (dif T i) v))), some (.int (nI v))]) dX7_nearest_46 rfl (by decide) rfl ?_
          refine r_iinc (pc' := 50) (lo' := [some (.ref 60), some (.int (nI i)), some (.int (oN (amin (fun v => !(v == i)) (dif T i) v))), some (.int (nI (v + 1)))]) dX7_nearest_47 rfl (by decide) rfl (nI_add v 1) rfl ?_
          refine r_goto (tgt := 5) dX7_nearest_50 (by decide) ?_
          have e1 : amin (fun v => !(v == i)) (dif T i) (v + 1) = amin (fun v => !(v == i)) (dif T i) v := by first | exact amin_f (big := 7) (by have := dif_le T i v; omega) (Or.inl (by simpa using h17)) | (rw [amin, hu]; simp; omega)
          have hi := ih5 (v + 1) (by omega) (by omega)
          rw [e1] at hi
          exact hi
        · skip
          refine r_iload_n (pc' := 21) dX7_nearest_20 rfl rfl ?_
          refine r_bipush (pc' := 23) (v := (-9)) dX7_nearest_21 rfl rfl ?_
          refine r_icmp_eq (pc' := 26) (P := amin (fun v => !(v == i)) (dif T i) v = none) (tgt := 41) dX7_nearest_23 (by decide) rfl (oN_none (fun u hu => by have := (amin_lt hu).1; omega)) (fun h23 => ?_) (fun h23 => ?_)
          · skip
            refine r_iload_n (pc' := 42) dX7_nearest_41 rfl rfl ?_
            refine r_goto (tgt := 46) dX7_nearest_42 (by decide) ?_
            refine r_istore_n (pc' := 47) (lo' := [some (.ref 60), some (.int (nI i)), some (.int (nI v)), some (.int (nI v))]) dX7_nearest_46 rfl (by decide) rfl ?_
            refine r_iinc (pc' := 50) (lo' := [some (.ref 60), some (.int (nI i)), some (.int (nI v)), some (.int (nI (v + 1)))]) dX7_nearest_47 rfl (by decide) rfl (nI_add v 1) rfl ?_
            refine r_goto (tgt := 5) dX7_nearest_50 (by decide) ?_
            have e1 : amin (fun v => !(v == i)) (dif T i) (v + 1) = some v := by first | (rw [amin, h23]; simpa using h17) | (rw [amin, hu]; simp; omega)
            have hi := ih5 (v + 1) (by omega) (by omega)
            rw [e1] at hi
            exact hi
          · obtain ⟨u, hu⟩ := Option.ne_none_iff_exists'.mp h23
            have hu2 := (amin_lt hu).1
            rw [hu]
            show Wp g yX7_nearest cX7_nearest 4 (some .int) 3 0 0 (px_MQ g Q 0 0) 0 0 26 [some (.ref 60), some (.int (nI i)), some (.int (nI u)), some (.int (nI v))] [] w
            refine r_aload_n (pc' := 27) dX7_nearest_26 rfl rfl ?_
            refine r_iload_n (pc' := 28) dX7_nearest_27 rfl rfl ?_
            refine r_iload_n (pc' := 29) dX7_nearest_28 rfl rfl ?_
            refine r_callV (pc' := 32) (av := [.int (nI i), .int (nI v)]) (rest := []) kX7_apart vX7_apart lX7_123 dX7_nearest_29 rfl hX rfl rfl rfl ⟨by decide, by decide, by decide⟩ rfl rfl (Nat.le_of_ble_eq_true rfl) (ct_X7_apart hX hT hO hM (i := i) (j := v) (by omega) (by omega) ?_)
            show Wp g yX7_nearest cX7_nearest 4 (some .int) 3 0 0 (px_MQ g Q 0 0) 0 0 32 [some (.ref 60), some (.int (nI i)), some (.int (nI u)), some (.int (nI v))] [.int (nI (dif T i v))] w
            have e29 := dif_le T i v
            refine r_aload_n (pc' := 33) dX7_nearest_32 rfl rfl ?_
            refine r_iload_n (pc' := 34) dX7_nearest_33 rfl rfl ?_
            refine r_iload_n (pc' := 35) dX7_nearest_34 rfl rfl ?_
            refine r_callV (pc' := 38) (av := [.int (nI i), .int (nI u)]) (rest := [.int (nI (dif T i v))]) kX7_apart vX7_apart lX7_123 dX7_nearest_35 rfl hX rfl rfl rfl ⟨by decide, by decide, by decide⟩ rfl rfl (Nat.le_of_ble_eq_true rfl) (ct_X7_apart hX hT hO hM (i := i) (j := u) (by omega) (by omega) ?_)
            show Wp g yX7_nearest cX7_nearest 4 (some .int) 3 0 0 (px_MQ g Q 0 0) 0 0 38 [some (.ref 60), some (.int (nI i)), some (.int (nI u)), some (.int (nI v))] [.int (nI (dif T i u)), .int (nI (dif T i v))] w
            have e35 := dif_le T i u
            refine r_icmp_ge (pc' := 41) (P := dif T i u ≤ dif T i v) (tgt := 45) dX7_nearest_38 (by decide) rfl (nI_leI (a := dif T i u) (b := dif T i v) (by omega) (by omega)) (fun h38 => ?_) (fun h38 => ?_)
            · skip
              refine r_iload_n (pc' := 46) dX7_nearest_45 rfl rfl ?_
              refine r_istore_n (pc' := 47) (lo' := [some (.ref 60), some (.int (nI i)), some (.int (nI u)), some (.int (nI v))]) dX7_nearest_46 rfl (by decide) rfl ?_
              refine r_iinc (pc' := 50) (lo' := [some (.ref 60), some (.int (nI i)), some (.int (nI u)), some (.int (nI (v + 1)))]) dX7_nearest_47 rfl (by decide) rfl (nI_add v 1) rfl ?_
              refine r_goto (tgt := 5) dX7_nearest_50 (by decide) ?_
              have e1 : amin (fun v => !(v == i)) (dif T i) (v + 1) = amin (fun v => !(v == i)) (dif T i) v := by first | exact amin_f (big := 7) (by have := dif_le T i v; omega) (Or.inl (by simpa using h17)) | (rw [amin, hu]; simp; omega)
              have hi := ih5 (v + 1) (by omega) (by omega)
              rw [e1] at hi
              rw [hu] at hi
              exact hi
            · skip
              refine r_iload_n (pc' := 42) dX7_nearest_41 rfl rfl ?_
              refine r_goto (tgt := 46) dX7_nearest_42 (by decide) ?_
              refine r_istore_n (pc' := 47) (lo' := [some (.ref 60), some (.int (nI i)), some (.int (nI v)), some (.int (nI v))]) dX7_nearest_46 rfl (by decide) rfl ?_
              refine r_iinc (pc' := 50) (lo' := [some (.ref 60), some (.int (nI i)), some (.int (nI v)), some (.int (nI (v + 1)))]) dX7_nearest_47 rfl (by decide) rfl (nI_add v 1) rfl ?_
              refine r_goto (tgt := 5) dX7_nearest_50 (by decide) ?_
              have e1 : amin (fun v => !(v == i)) (dif T i) (v + 1) = some v := by first | (rw [amin, h23]; simpa using h17) | (rw [amin, hu]; simp; omega)
              have hi := ih5 (v + 1) (by omega) (by omega)
              rw [e1] at hi
              exact hi
  exact L5 ((tW T) + 1) 0 (Nat.lt_succ_self _) (by omega)
set_option maxHeartbeats 200000 in
theorem ct_X7_canBe {g : px_G} {w : px_W} {Q : px_Q} {tr : Int64} {ty nx tk pl va fa um : Int32} {T : px_T} {M : px_N} (hX : w[60]? = some (mobj tr ty nx tk pl va fa um)) (hT : MtA w T) (hO : TOK T) (hM : MnA w M) {d i : Nat} (hd : d < tD T) (hi : i < tW T) (hQ : Q (some (.int (bI (canS T M d i)))) w) : Ct g yX7_canBe cX7_canBe 5 (some .boolean) 2 0 0 [.ref 60, .int (nI d), .int (nI i)] w Q := by
  refine Ct.of kX7_canBe (by omega) (lo := [some (.ref 60), some (.int (nI d)), some (.int (nI i)), none, none]) rfl (px_cat1 rfl) (Nat.le_of_ble_eq_true rfl) ?_
  obtain ⟨fm, fz, fl, fs, fd, g0, g1, g2, g3, ⟨c1, c2, c3, c4, c5, c6, c7, c8, c9⟩, ma, mz, ml, md, mg, ⟨sb1, sb2, sb3⟩, sb4, sb5⟩ := id hT
  obtain ⟨fn, cn, hf, mB1, mB2, mB3⟩ := id hM
  refine r_aload_n (pc' := 1) dX7_canBe_0 rfl rfl ?_
  refine r_get (pc' := 4) fX7_16 dX7_canBe_1 rfl hX rfl ?_
  refine r_iload_n (pc' := 5) dX7_canBe_4 rfl rfl ?_
  refine r_iaload (pc' := 6) (v := nI (tl T i)) dX7_canBe_5 rfl c2 (vp_in_nI (n := i) (by omega) (by omega)) (by rw [nI_cl (by omega)]; exact (mz i (by omega)).1) ?_
  have e5 := sb4 i (by omega)
  refine r_aload_n (pc' := 7) dX7_canBe_6 rfl rfl ?_
  refine r_get (pc' := 10) fX7_25 dX7_canBe_7 rfl hX rfl ?_
  refine r_iload_n (pc' := 11) dX7_canBe_10 rfl rfl ?_
  refine r_iaload (pc' := 12) (v := nI (td T d)) dX7_canBe_11 rfl c5 (vp_in_nI (n := d) (by omega) (by omega)) (by rw [nI_cl (by omega)]; exact md d (by omega)) ?_
  have e11 := hO.2.2.1 d (by omega)
  refine r_icmp_gt (pc' := 15) (P := td T d < tl T i) (tgt := 19) dX7_canBe_12 (by decide) rfl (nI_ltI (a := td T d) (b := tl T i) (by omega) (by omega)) (fun h12 => ?_) (fun h12 => ?_)
  · skip
    refine r_iconst (pc' := 20) (v := bI false) dX7_canBe_19 rfl rfl ?_
    refine r_istore_n (pc' := 21) (lo' := [some (.ref 60), some (.int (nI d)), some (.int (nI i)), some (.int (bI false)), none]) dX7_canBe_20 rfl (by decide) rfl ?_
    refine r_iconst (pc' := 22) (v := nI 0) dX7_canBe_21 rfl rfl ?_
    refine r_istore (pc' := 24) (lo' := [some (.ref 60), some (.int (nI d)), some (.int (nI i)), some (.int (bI false)), some (.int (nI 0))]) dX7_canBe_22 rfl (by decide) rfl ?_
    have L24 : ∀ (fu : Nat) (x : Nat), td T d - x < fu → x ≤ td T d → Wp g yX7_canBe cX7_canBe 5 (some .boolean) 2 0 0 (px_MQ g Q 0 0) 0 0 24 [some (.ref 60), some (.int (nI d)), some (.int (nI i)), some (.int (bI ((false && allb (fun x => (nt M d).testBit x || (nc M d x == tc T i x)) x)))), some (.int (nI x))] [] w := by
      intro fu; induction fu with
      | zero => intro x hm; exact absurd hm (Nat.not_lt_zero _)
      | succ fu ih =>
        intro x hm hx
        have ih24 := ih; clear ih
        refine r_iload (pc' := 26) dX7_canBe_24 rfl rfl ?_
        refine r_aload_n (pc' := 27) dX7_canBe_26 rfl rfl ?_
        refine r_get (pc' := 30) fX7_25 dX7_canBe_27 rfl hX rfl ?_
        refine r_iload_n (pc' := 31) dX7_canBe_30 rfl rfl ?_
        refine r_iaload (pc' := 32) (v := nI (td T d)) dX7_canBe_31 rfl c5 (vp_in_nI (n := d) (by omega) (by omega)) (by rw [nI_cl (by omega)]; exact md d (by omega)) ?_
        have e31 := hO.2.2.1 d (by omega)
        refine r_icmp_ge (pc' := 35) (P := td T d ≤ x) (tgt := 85) dX7_canBe_32 (by decide) rfl (nI_leI (a := td T d) (b := x) (by omega) (by omega)) (fun h32 => ?_) (fun h32 => ?_)
        · have hx2 : x = td T d := by omega
          subst hx2
          refine r_iload_n (pc' := 86) dX7_canBe_85 rfl rfl ?_
          refine r_zreturn dX7_canBe_86 rfl (bI_nar _) ?_
          refine px_eqB hQ ?_
          rw [canS]
          congr 1
          first | exact (decide_eq_true (by omega)).symm | exact (decide_eq_false (by omega)).symm
        · skip
          refine r_iload_n (pc' := 36) dX7_canBe_35 rfl rfl ?_
          refine r_if_eq (pc' := 39) (P := ((false && allb (fun x => (nt M d).testBit x || (nc M d x == tc T i x)) x)) = false) (tgt := 77) dX7_canBe_36 (by decide) rfl (bI_0) (fun h36 => ?_) (fun h36 => ?_)
          · skip
            refine r_iconst (pc' := 78) (v := bI false) dX7_canBe_77 rfl rfl ?_
            refine r_istore_n (pc' := 79) (lo' := [some (.ref 60), some (.int (nI d)), some (.int (nI i)), some (.int (bI false)), some (.int (nI x))]) dX7_canBe_78 rfl (by decide) rfl ?_
            refine r_iinc (pc' := 82) (lo' := [some (.ref 60), some (.int (nI d)), some (.int (nI i)), some (.int (bI false)), some (.int (nI (x + 1)))]) dX7_canBe_79 rfl (by decide) rfl (nI_add x 1) rfl ?_
            refine r_goto (tgt := 24) dX7_canBe_82 (by decide) ?_
            have e1 : (false && allb (fun x => (nt M d).testBit x || (nc M d x == tc T i x)) (x + 1)) = false := by first | (rw [allb, ← Bool.and_assoc, h36, Bool.false_and]; done) | (rw [allb, ← Bool.and_assoc]; simp [h46, h70])
            have hi := ih24 (x + 1) (by omega) (by omega)
            rw [e1] at hi
            exact hi
          · skip
            refine r_aload_n (pc' := 40) dX7_canBe_39 rfl rfl ?_
            refine r_iload_n (pc' := 41) dX7_canBe_40 rfl rfl ?_
            refine r_iload (pc' := 43) dX7_canBe_41 rfl rfl ?_
            refine r_callV (pc' := 46) (av := [.int (nI d), .int (nI x)]) (rest := []) kX7_isTrodden vX7_isTrodden lX7_133 dX7_canBe_43 rfl hX rfl rfl rfl ⟨by decide, by decide, by decide⟩ rfl rfl (Nat.le_of_ble_eq_true rfl) (ct_X7_isTrodden hX hT hO hM (d := d) (x := x) (by omega) (by omega) ?_)
            show Wp g yX7_canBe cX7_canBe 5 (some .boolean) 2 0 0 (px_MQ g Q 0 0) 0 0 46 [some (.ref 60), some (.int (nI d)), some (.int (nI i)), some (.int (bI ((false && allb (fun x => (nt M d).testBit x || (nc M d x == tc T i x)) x)))), some (.int (nI x))] [.int (bI ((nt M d).testBit x))] w
            refine r_if_ne (pc' := 49) (P := ((nt M d).testBit x) = false) (tgt := 73) dX7_canBe_46 (by decide) rfl (bI_0) (fun h46 => ?_) (fun h46 => ?_)
            · skip
              refine r_iconst (pc' := 74) (v := bI true) dX7_canBe_73 rfl rfl ?_
              refine r_goto (tgt := 78) dX7_canBe_74 (by decide) ?_
              refine r_istore_n (pc' := 79) (lo' := [some (.ref 60), some (.int (nI d)), some (.int (nI i)), some (.int (bI true)), some (.int (nI x))]) dX7_canBe_78 rfl (by decide) rfl ?_
              refine r_iinc (pc' := 82) (lo' := [some (.ref 60), some (.int (nI d)), some (.int (nI i)), some (.int (bI true)), some (.int (nI (x + 1)))]) dX7_canBe_79 rfl (by decide) rfl (nI_add x 1) rfl ?_
              refine r_goto (tgt := 24) dX7_canBe_82 (by decide) ?_
              have e1 : (false && allb (fun x => (nt M d).testBit x || (nc M d x == tc T i x)) (x + 1)) = true := by
                have h9 : (false && allb (fun x => (nt M d).testBit x || (nc M d x == tc T i x)) x) = true := by simpa using h36
                rw [Bool.and_eq_true] at h9; rw [Bool.and_eq_true, allb, Bool.and_eq_true]; exact ⟨h9.1, h9.2, by first | (simp at h46; simp [h46]; done) | (simp [h70]; done)⟩
              have hi := ih24 (x + 1) (by omega) (by omega)
              rw [e1] at hi
              exact hi
            · skip
              refine r_aload_n (pc' := 50) dX7_canBe_49 rfl rfl ?_
              refine r_get (pc' := 53) fX7_40 dX7_canBe_50 rfl hX rfl ?_
              refine r_iconst (pc' := 54) (v := nI 0) dX7_canBe_53 rfl rfl ?_
              refine r_bipush (pc' := 56) (v := nI 8) dX7_canBe_54 rfl rfl ?_
              refine r_iload_n (pc' := 57) dX7_canBe_56 rfl rfl ?_
              refine r_imul (pc' := 58) (v := nI (8 * d)) dX7_canBe_57 rfl (pk_mul 8 d) ?_
              refine r_iadd (pc' := 59) (v := nI (0 + (8 * d))) dX7_canBe_58 rfl (nI_add 0 (8 * d)) ?_
              refine r_iload (pc' := 61) dX7_canBe_59 rfl rfl ?_
              refine r_iadd (pc' := 62) (v := nI (0 + (8 * d) + x)) dX7_canBe_61 rfl (nI_add (0 + (8 * d)) x) ?_
              refine r_iaload (pc' := 63) (v := nI (nc M d x)) dX7_canBe_62 rfl cn (vp_in_nI (n := 0 + (8 * d) + x) (by omega) (by omega)) (by rw [nI_cl (by omega), Nat.zero_add, hf _ (by omega), sv_c _ (by omega) (by omega)]) ?_
              have e62 := mB1 d x (by omega) (by omega)
              refine r_aload_n (pc' := 64) dX7_canBe_63 rfl rfl ?_
              refine r_iload_n (pc' := 65) dX7_canBe_64 rfl rfl ?_
              refine r_iload (pc' := 67) dX7_canBe_65 rfl rfl ?_
              refine r_callV (pc' := 70) (av := [.int (nI i), .int (nI x)]) (rest := [.int (nI (nc M d x))]) kX7_letterOf vX7_letterOf lX7_120 dX7_canBe_67 rfl hX rfl rfl rfl ⟨by decide, by decide, by decide⟩ rfl rfl (Nat.le_of_ble_eq_true rfl) (ct_X7_letterOf hX hT hO hM (i := i) (x := x) (by omega) (by omega) ?_)
              show Wp g yX7_canBe cX7_canBe 5 (some .boolean) 2 0 0 (px_MQ g Q 0 0) 0 0 70 [some (.ref 60), some (.int (nI d)), some (.int (nI i)), some (.int (bI ((false && allb (fun x => (nt M d).testBit x || (nc M d x == tc T i x)) x)))), some (.int (nI x))] [.int (nI (tc T i x)), .int (nI (nc M d x))] w
              have e67 := tc_le hO hT.b (i := i) (x := x) (by omega)
              refine r_icmp_ne (pc' := 73) (P := nc M d x = tc T i x) (tgt := 77) dX7_canBe_70 (by decide) rfl (nI_eq (a := nc M d x) (b := tc T i x) (by omega) (by omega)) (fun h70 => ?_) (fun h70 => ?_)
              · skip
                refine r_iconst (pc' := 78) (v := bI false) dX7_canBe_77 rfl rfl ?_
                refine r_istore_n (pc' := 79) (lo' := [some (.ref 60), some (.int (nI d)), some (.int (nI i)), some (.int (bI false)), some (.int (nI x))]) dX7_canBe_78 rfl (by decide) rfl ?_
                refine r_iinc (pc' := 82) (lo' := [some (.ref 60), some (.int (nI d)), some (.int (nI i)), some (.int (bI false)), some (.int (nI (x + 1)))]) dX7_canBe_79 rfl (by decide) rfl (nI_add x 1) rfl ?_
                refine r_goto (tgt := 24) dX7_canBe_82 (by decide) ?_
                have e1 : (false && allb (fun x => (nt M d).testBit x || (nc M d x == tc T i x)) (x + 1)) = false := by first | (rw [allb, ← Bool.and_assoc, h36, Bool.false_and]; done) | (rw [allb, ← Bool.and_assoc]; simp [h46, h70])
                have hi := ih24 (x + 1) (by omega) (by omega)
                rw [e1] at hi
                exact hi
              · skip
                refine r_iconst (pc' := 74) (v := bI true) dX7_canBe_73 rfl rfl ?_
                refine r_goto (tgt := 78) dX7_canBe_74 (by decide) ?_
                refine r_istore_n (pc' := 79) (lo' := [some (.ref 60), some (.int (nI d)), some (.int (nI i)), some (.int (bI true)), some (.int (nI x))]) dX7_canBe_78 rfl (by decide) rfl ?_
                refine r_iinc (pc' := 82) (lo' := [some (.ref 60), some (.int (nI d)), some (.int (nI i)), some (.int (bI true)), some (.int (nI (x + 1)))]) dX7_canBe_79 rfl (by decide) rfl (nI_add x 1) rfl ?_
                refine r_goto (tgt := 24) dX7_canBe_82 (by decide) ?_
                have e1 : (false && allb (fun x => (nt M d).testBit x || (nc M d x == tc T i x)) (x + 1)) = true := by
                  have h9 : (false && allb (fun x => (nt M d).testBit x || (nc M d x == tc T i x)) x) = true := by simpa using h36
                  rw [Bool.and_eq_true] at h9; rw [Bool.and_eq_true, allb, Bool.and_eq_true]; exact ⟨h9.1, h9.2, by first | (simp at h46; simp [h46]; done) | (simp [h70]; done)⟩
                have hi := ih24 (x + 1) (by omega) (by omega)
                rw [e1] at hi
                exact hi
    exact L24 ((td T d) + 1) 0 (Nat.lt_succ_self _) (by omega)
  · skip
    refine r_iconst (pc' := 16) (v := bI true) dX7_canBe_15 rfl rfl ?_
    refine r_goto (tgt := 20) dX7_canBe_16 (by decide) ?_
    refine r_istore_n (pc' := 21) (lo' := [some (.ref 60), some (.int (nI d)), some (.int (nI i)), some (.int (bI true)), none]) dX7_canBe_20 rfl (by decide) rfl ?_
    refine r_iconst (pc' := 22) (v := nI 0) dX7_canBe_21 rfl rfl ?_
    refine r_istore (pc' := 24) (lo' := [some (.ref 60), some (.int (nI d)), some (.int (nI i)), some (.int (bI true)), some (.int (nI 0))]) dX7_canBe_22 rfl (by decide) rfl ?_
    have L24 : ∀ (fu : Nat) (x : Nat), td T d - x < fu → x ≤ td T d → Wp g yX7_canBe cX7_canBe 5 (some .boolean) 2 0 0 (px_MQ g Q 0 0) 0 0 24 [some (.ref 60), some (.int (nI d)), some (.int (nI i)), some (.int (bI ((true && allb (fun x => (nt M d).testBit x || (nc M d x == tc T i x)) x)))), some (.int (nI x))] [] w := by
      intro fu; induction fu with
      | zero => intro x hm; exact absurd hm (Nat.not_lt_zero _)
      | succ fu ih =>
        intro x hm hx
        have ih24 := ih; clear ih
        refine r_iload (pc' := 26) dX7_canBe_24 rfl rfl ?_
        refine r_aload_n (pc' := 27) dX7_canBe_26 rfl rfl ?_
        refine r_get (pc' := 30) fX7_25 dX7_canBe_27 rfl hX rfl ?_
        refine r_iload_n (pc' := 31) dX7_canBe_30 rfl rfl ?_
        refine r_iaload (pc' := 32) (v := nI (td T d)) dX7_canBe_31 rfl c5 (vp_in_nI (n := d) (by omega) (by omega)) (by rw [nI_cl (by omega)]; exact md d (by omega)) ?_
        have e31 := hO.2.2.1 d (by omega)
        refine r_icmp_ge (pc' := 35) (P := td T d ≤ x) (tgt := 85) dX7_canBe_32 (by decide) rfl (nI_leI (a := td T d) (b := x) (by omega) (by omega)) (fun h32 => ?_) (fun h32 => ?_)
        · have hx2 : x = td T d := by omega
          subst hx2
          refine r_iload_n (pc' := 86) dX7_canBe_85 rfl rfl ?_
          refine r_zreturn dX7_canBe_86 rfl (bI_nar _) ?_
          refine px_eqB hQ ?_
          rw [canS]
          congr 1
          first | exact (decide_eq_true (by omega)).symm | exact (decide_eq_false (by omega)).symm
        · skip
          refine r_iload_n (pc' := 36) dX7_canBe_35 rfl rfl ?_
          refine r_if_eq (pc' := 39) (P := ((true && allb (fun x => (nt M d).testBit x || (nc M d x == tc T i x)) x)) = false) (tgt := 77) dX7_canBe_36 (by decide) rfl (bI_0) (fun h36 => ?_) (fun h36 => ?_)
          · skip
            refine r_iconst (pc' := 78) (v := bI false) dX7_canBe_77 rfl rfl ?_
            refine r_istore_n (pc' := 79) (lo' := [some (.ref 60), some (.int (nI d)), some (.int (nI i)), some (.int (bI false)), some (.int (nI x))]) dX7_canBe_78 rfl (by decide) rfl ?_
            refine r_iinc (pc' := 82) (lo' := [some (.ref 60), some (.int (nI d)), some (.int (nI i)), some (.int (bI false)), some (.int (nI (x + 1)))]) dX7_canBe_79 rfl (by decide) rfl (nI_add x 1) rfl ?_
            refine r_goto (tgt := 24) dX7_canBe_82 (by decide) ?_
            have e1 : (true && allb (fun x => (nt M d).testBit x || (nc M d x == tc T i x)) (x + 1)) = false := by first | (rw [allb, ← Bool.and_assoc, h36, Bool.false_and]; done) | (rw [allb, ← Bool.and_assoc]; simp [h46, h70])
            have hi := ih24 (x + 1) (by omega) (by omega)
            rw [e1] at hi
            exact hi
          · skip
            refine r_aload_n (pc' := 40) dX7_canBe_39 rfl rfl ?_
            refine r_iload_n (pc' := 41) dX7_canBe_40 rfl rfl ?_
            refine r_iload (pc' := 43) dX7_canBe_41 rfl rfl ?_
            refine r_callV (pc' := 46) (av := [.int (nI d), .int (nI x)]) (rest := []) kX7_isTrodden vX7_isTrodden lX7_133 dX7_canBe_43 rfl hX rfl rfl rfl ⟨by decide, by decide, by decide⟩ rfl rfl (Nat.le_of_ble_eq_true rfl) (ct_X7_isTrodden hX hT hO hM (d := d) (x := x) (by omega) (by omega) ?_)
            show Wp g yX7_canBe cX7_canBe 5 (some .boolean) 2 0 0 (px_MQ g Q 0 0) 0 0 46 [some (.ref 60), some (.int (nI d)), some (.int (nI i)), some (.int (bI ((true && allb (fun x => (nt M d).testBit x || (nc M d x == tc T i x)) x)))), some (.int (nI x))] [.int (bI ((nt M d).testBit x))] w
            refine r_if_ne (pc' := 49) (P := ((nt M d).testBit x) = false) (tgt := 73) dX7_canBe_46 (by decide) rfl (bI_0) (fun h46 => ?_) (fun h46 => ?_)
            · skip
              refine r_iconst (pc' := 74) (v := bI true) dX7_canBe_73 rfl rfl ?_
              refine r_goto (tgt := 78) dX7_canBe_74 (by decide) ?_
              refine r_istore_n (pc' := 79) (lo' := [some (.ref 60), some (.int (nI d)), some (.int (nI i)), some (.int (bI true)), some (.int (nI x))]) dX7_canBe_78 rfl (by decide) rfl ?_
              refine r_iinc (pc' := 82) (lo' := [some (.ref 60), some (.int (nI d)), some (.int (nI i)), some (.int (bI true)), some (.int (nI (x + 1)))]) dX7_canBe_79 rfl (by decide) rfl (nI_add x 1) rfl ?_
              refine r_goto (tgt := 24) dX7_canBe_82 (by decide) ?_
              have e1 : (true && allb (fun x => (nt M d).testBit x || (nc M d x == tc T i x)) (x + 1)) = true := by
                have h9 : (true && allb (fun x => (nt M d).testBit x || (nc M d x == tc T i x)) x) = true := by simpa using h36
                rw [Bool.and_eq_true] at h9; rw [Bool.and_eq_true, allb, Bool.and_eq_true]; exact ⟨h9.1, h9.2, by first | (simp at h46; simp [h46]; done) | (simp [h70]; done)⟩
              have hi := ih24 (x + 1) (by omega) (by omega)
              rw [e1] at hi
              exact hi
            · skip
              refine r_aload_n (pc' := 50) dX7_canBe_49 rfl rfl ?_
              refine r_get (pc' := 53) fX7_40 dX7_canBe_50 rfl hX rfl ?_
              refine r_iconst (pc' := 54) (v := nI 0) dX7_canBe_53 rfl rfl ?_
              refine r_bipush (pc' := 56) (v := nI 8) dX7_canBe_54 rfl rfl ?_
              refine r_iload_n (pc' := 57) dX7_canBe_56 rfl rfl ?_
              refine r_imul (pc' := 58) (v := nI (8 * d)) dX7_canBe_57 rfl (pk_mul 8 d) ?_
              refine r_iadd (pc' := 59) (v := nI (0 + (8 * d))) dX7_canBe_58 rfl (nI_add 0 (8 * d)) ?_
              refine r_iload (pc' := 61) dX7_canBe_59 rfl rfl ?_
              refine r_iadd (pc' := 62) (v := nI (0 + (8 * d) + x)) dX7_canBe_61 rfl (nI_add (0 + (8 * d)) x) ?_
              refine r_iaload (pc' := 63) (v := nI (nc M d x)) dX7_canBe_62 rfl cn (vp_in_nI (n := 0 + (8 * d) + x) (by omega) (by omega)) (by rw [nI_cl (by omega), Nat.zero_add, hf _ (by omega), sv_c _ (by omega) (by omega)]) ?_
              have e62 := mB1 d x (by omega) (by omega)
              refine r_aload_n (pc' := 64) dX7_canBe_63 rfl rfl ?_
              refine r_iload_n (pc' := 65) dX7_canBe_64 rfl rfl ?_
              refine r_iload (pc' := 67) dX7_canBe_65 rfl rfl ?_
              refine r_callV (pc' := 70) (av := [.int (nI i), .int (nI x)]) (rest := [.int (nI (nc M d x))]) kX7_letterOf vX7_letterOf lX7_120 dX7_canBe_67 rfl hX rfl rfl rfl ⟨by decide, by decide, by decide⟩ rfl rfl (Nat.le_of_ble_eq_true rfl) (ct_X7_letterOf hX hT hO hM (i := i) (x := x) (by omega) (by omega) ?_)
              show Wp g yX7_canBe cX7_canBe 5 (some .boolean) 2 0 0 (px_MQ g Q 0 0) 0 0 70 [some (.ref 60), some (.int (nI d)), some (.int (nI i)), some (.int (bI ((true && allb (fun x => (nt M d).testBit x || (nc M d x == tc T i x)) x)))), some (.int (nI x))] [.int (nI (tc T i x)), .int (nI (nc M d x))] w
              have e67 := tc_le hO hT.b (i := i) (x := x) (by omega)
              refine r_icmp_ne (pc' := 73) (P := nc M d x = tc T i x) (tgt := 77) dX7_canBe_70 (by decide) rfl (nI_eq (a := nc M d x) (b := tc T i x) (by omega) (by omega)) (fun h70 => ?_) (fun h70 => ?_)
              · skip
                refine r_iconst (pc' := 78) (v := bI false) dX7_canBe_77 rfl rfl ?_
                refine r_istore_n (pc' := 79) (lo' := [some (.ref 60), some (.int (nI d)), some (.int (nI i)), some (.int (bI false)), some (.int (nI x))]) dX7_canBe_78 rfl (by decide) rfl ?_
                refine r_iinc (pc' := 82) (lo' := [some (.ref 60), some (.int (nI d)), some (.int (nI i)), some (.int (bI false)), some (.int (nI (x + 1)))]) dX7_canBe_79 rfl (by decide) rfl (nI_add x 1) rfl ?_
                refine r_goto (tgt := 24) dX7_canBe_82 (by decide) ?_
                have e1 : (true && allb (fun x => (nt M d).testBit x || (nc M d x == tc T i x)) (x + 1)) = false := by first | (rw [allb, ← Bool.and_assoc, h36, Bool.false_and]; done) | (rw [allb, ← Bool.and_assoc]; simp [h46, h70])
                have hi := ih24 (x + 1) (by omega) (by omega)
                rw [e1] at hi
                exact hi
              · skip
                refine r_iconst (pc' := 74) (v := bI true) dX7_canBe_73 rfl rfl ?_
                refine r_goto (tgt := 78) dX7_canBe_74 (by decide) ?_
                refine r_istore_n (pc' := 79) (lo' := [some (.ref 60), some (.int (nI d)), some (.int (nI i)), some (.int (bI true)), some (.int (nI x))]) dX7_canBe_78 rfl (by decide) rfl ?_
                refine r_iinc (pc' := 82) (lo' := [some (.ref 60), some (.int (nI d)), some (.int (nI i)), some (.int (bI true)), some (.int (nI (x + 1)))]) dX7_canBe_79 rfl (by decide) rfl (nI_add x 1) rfl ?_
                refine r_goto (tgt := 24) dX7_canBe_82 (by decide) ?_
                have e1 : (true && allb (fun x => (nt M d).testBit x || (nc M d x == tc T i x)) (x + 1)) = true := by
                  have h9 : (true && allb (fun x => (nt M d).testBit x || (nc M d x == tc T i x)) x) = true := by simpa using h36
                  rw [Bool.and_eq_true] at h9; rw [Bool.and_eq_true, allb, Bool.and_eq_true]; exact ⟨h9.1, h9.2, by first | (simp at h46; simp [h46]; done) | (simp [h70]; done)⟩
                have hi := ih24 (x + 1) (by omega) (by omega)
                rw [e1] at hi
                exact hi
    exact L24 ((td T d) + 1) 0 (Nat.lt_succ_self _) (by omega)
set_option maxHeartbeats 200000 in
theorem ct_X7_fitsOf {g : px_G} {w : px_W} {Q : px_Q} {tr : Int64} {ty nx tk pl va fa um : Int32} {T : px_T} {M : px_N} (hX : w[60]? = some (mobj tr ty nx tk pl va fa um)) (hT : MtA w T) (hO : TOK T) (hM : MnA w M) {d : Nat} (hd : d < tD T) (hQ : Q (some (.int (nI (fitS T M d)))) w) : Ct g yX7_fitsOf cX7_fitsOf 4 (some .int) 3 0 0 [.ref 60, .int (nI d)] w Q := by
  refine Ct.of kX7_fitsOf (by omega) (lo := [some (.ref 60), some (.int (nI d)), none, none]) rfl (px_cat1 rfl) (Nat.le_of_ble_eq_true rfl) ?_
  obtain ⟨fm, fz, fl, fs, fd, g0, g1, g2, g3, ⟨c1, c2, c3, c4, c5, c6, c7, c8, c9⟩, ma, mz, ml, md, mg, ⟨sb1, sb2, sb3⟩, sb4, sb5⟩ := id hT
  obtain ⟨fn, cn, hf, mB1, mB2, mB3⟩ := id hM
  refine r_iconst (pc' := 1) (v := nI 0) dX7_fitsOf_0 rfl rfl ?_
  refine r_istore_n (pc' := 2) (lo' := [some (.ref 60), some (.int (nI d)), some (.int (nI 0)), none]) dX7_fitsOf_1 rfl (by decide) rfl ?_
  refine r_iconst (pc' := 3) (v := nI 0) dX7_fitsOf_2 rfl rfl ?_
  refine r_istore_n (pc' := 4) (lo' := [some (.ref 60), some (.int (nI d)), some (.int (nI 0)), some (.int (nI 0))]) dX7_fitsOf_3 rfl (by decide) rfl ?_
  have L4 : ∀ (fu : Nat) (i : Nat), tW T - i < fu → i ≤ tW T → Wp g yX7_fitsOf cX7_fitsOf 4 (some .int) 3 0 0 (px_MQ g Q 0 0) 0 0 4 [some (.ref 60), some (.int (nI d)), some (.int (nI (bset (canS T M d) i))), some (.int (nI i))] [] w := by
    intro fu; induction fu with
    | zero => intro i hm; exact absurd hm (Nat.not_lt_zero _)
    | succ fu ih =>
      intro i hm hi
      have ih4 := ih; clear ih
      refine r_iload_n (pc' := 5) dX7_fitsOf_4 rfl rfl ?_
      refine r_aload_n (pc' := 6) dX7_fitsOf_5 rfl rfl ?_
      refine r_get (pc' := 9) fX7_13 dX7_fitsOf_6 rfl hX rfl ?_
      refine r_iconst (pc' := 10) (v := nI 0) dX7_fitsOf_9 rfl rfl ?_
      refine r_iaload (pc' := 11) (v := nI (tW T)) dX7_fitsOf_10 rfl c1 (vp_in_nI (n := 0) (by omega) (by omega)) (by rw [nI_cl (by omega)]; exact ma.1) ?_
      refine r_icmp_ge (pc' := 14) (P := tW T ≤ i) (tgt := 39) dX7_fitsOf_11 (by decide) rfl (nI_leI (a := tW T) (b := i) (by omega) (by omega)) (fun h11 => ?_) (fun h11 => ?_)
      · have hi2 : i = tW T := by omega
        subst hi2
        refine r_iload_n (pc' := 40) dX7_fitsOf_39 rfl rfl ?_
        refine r_ireturn dX7_fitsOf_40 rfl ?_
        exact hQ
      · skip
        refine r_iload_n (pc' := 15) dX7_fitsOf_14 rfl rfl ?_
        refine r_aload_n (pc' := 16) dX7_fitsOf_15 rfl rfl ?_
        refine r_iload_n (pc' := 17) dX7_fitsOf_16 rfl rfl ?_
        refine r_iload_n (pc' := 18) dX7_fitsOf_17 rfl rfl ?_
        refine r_callV (pc' := 21) (av := [.int (nI d), .int (nI i)]) (rest := [.int (nI (bset (canS T M d) i))]) kX7_canBe vX7_canBe lX7_137 dX7_fitsOf_18 rfl hX rfl rfl rfl ⟨by decide, by decide, by decide⟩ rfl rfl (Nat.le_of_ble_eq_true rfl) (ct_X7_canBe hX hT hO hM (d := d) (i := i) (by omega) (by omega) ?_)
        show Wp g yX7_fitsOf cX7_fitsOf 4 (some .int) 3 0 0 (px_MQ g Q 0 0) 0 0 21 [some (.ref 60), some (.int (nI d)), some (.int (nI (bset (canS T M d) i))), some (.int (nI i))] [.int (bI (canS T M d i)), .int (nI (bset (canS T M d) i))] w
        refine r_if_eq (pc' := 24) (P := (canS T M d i) = false) (tgt := 30) dX7_fitsOf_21 (by decide) rfl (bI_0) (fun h21 => ?_) (fun h21 => ?_)
        · skip
          refine r_iconst (pc' := 31) (v := nI 0) dX7_fitsOf_30 rfl rfl ?_
          refine r_ior (pc' := 32) (v := nI ((bset (canS T M d) i) ||| 0)) dX7_fitsOf_31 rfl (or_n (bset (canS T M d) i) 0) ?_
          refine r_istore_n (pc' := 33) (lo' := [some (.ref 60), some (.int (nI d)), some (.int (nI ((bset (canS T M d) i) ||| 0))), some (.int (nI i))]) dX7_fitsOf_32 rfl (by decide) rfl ?_
          refine r_iinc (pc' := 36) (lo' := [some (.ref 60), some (.int (nI d)), some (.int (nI ((bset (canS T M d) i) ||| 0))), some (.int (nI (i + 1)))]) dX7_fitsOf_33 rfl (by decide) rfl (nI_add i 1) rfl ?_
          refine r_goto (tgt := 4) dX7_fitsOf_36 (by decide) ?_
          first | rw [← bset_t (p := canS T M d) (n := i) (by simpa using h21)] | rw [Nat.or_zero, ← bset_f (p := canS T M d) (n := i) h21]
          exact ih4 (i + 1) (by omega) (by omega)
        · skip
          refine r_iconst (pc' := 25) (v := nI 1) dX7_fitsOf_24 rfl rfl ?_
          refine r_iload_n (pc' := 26) dX7_fitsOf_25 rfl rfl ?_
          refine r_ishl (pc' := 27) (v := nI (2 ^ i)) dX7_fitsOf_26 rfl (shl1_n (b := i) (by omega)) ?_
          refine r_goto (tgt := 31) dX7_fitsOf_27 (by decide) ?_
          refine r_ior (pc' := 32) (v := nI ((bset (canS T M d) i) ||| (2 ^ i))) dX7_fitsOf_31 rfl (or_n (bset (canS T M d) i) (2 ^ i)) ?_
          refine r_istore_n (pc' := 33) (lo' := [some (.ref 60), some (.int (nI d)), some (.int (nI ((bset (canS T M d) i) ||| (2 ^ i)))), some (.int (nI i))]) dX7_fitsOf_32 rfl (by decide) rfl ?_
          refine r_iinc (pc' := 36) (lo' := [some (.ref 60), some (.int (nI d)), some (.int (nI ((bset (canS T M d) i) ||| (2 ^ i)))), some (.int (nI (i + 1)))]) dX7_fitsOf_33 rfl (by decide) rfl (nI_add i 1) rfl ?_
          refine r_goto (tgt := 4) dX7_fitsOf_36 (by decide) ?_
          first | rw [← bset_t (p := canS T M d) (n := i) (by simpa using h21)] | rw [Nat.or_zero, ← bset_f (p := canS T M d) (n := i) h21]
          exact ih4 (i + 1) (by omega) (by omega)
  exact L4 ((tW T) + 1) 0 (Nat.lt_succ_self _) (by omega)
set_option maxHeartbeats 200000 in
theorem ct_X7_stepsOf {g : px_G} {w : px_W} {Q : px_Q} {tr : Int64} {ty nx tk pl va fa um : Int32} {T : px_T} {M : px_N} (hX : w[60]? = some (mobj tr ty nx tk pl va fa um)) (hT : MtA w T) (hO : TOK T) (hM : MnA w M) {d f s : Nat} (hd : d < tD T) (hf : f ≤ 7) (hs : 1 ≤ s ∧ s ≤ 4) (hQ : Q (some (.int (nI (trk f s (td T d))))) w) : Ct g yX7_stepsOf cX7_stepsOf 6 (some .int) 1 0 0 [.ref 60, .int (nI d), .int (nI f), .int (nI s)] w Q := by
  refine Ct.of kX7_stepsOf (by omega) (lo := [some (.ref 60), some (.int (nI d)), some (.int (nI f)), some (.int (nI s)), none, none]) rfl (px_cat1 rfl) (Nat.le_of_ble_eq_true rfl) ?_
  obtain ⟨fm, fz, fl, fs, fd, g0, g1, g2, g3, ⟨c1, c2, c3, c4, c5, c6, c7, c8, c9⟩, ma, mz, ml, md, mg, ⟨sb1, sb2, sb3⟩, sb4, sb5⟩ := id hT
  obtain ⟨fn, cn, hf, mB1, mB2, mB3⟩ := id hM
  have e0 := hO.2.2.1 d hd
  refine r_iconst (pc' := 1) (v := nI 0) dX7_stepsOf_0 rfl rfl ?_
  refine r_istore (pc' := 3) (lo' := [some (.ref 60), some (.int (nI d)), some (.int (nI f)), some (.int (nI s)), some (.int (nI 0)), none]) dX7_stepsOf_1 rfl (by decide) rfl ?_
  refine r_iload_n (pc' := 4) dX7_stepsOf_3 rfl rfl ?_
  refine r_istore (pc' := 6) (lo' := [some (.ref 60), some (.int (nI d)), some (.int (nI f)), some (.int (nI s)), some (.int (nI 0)), some (.int (nI f))]) dX7_stepsOf_4 rfl (by decide) rfl ?_
  have L6 : ∀ (fu : Nat) (k x acc : Nat), k < fu → trkL s (td T d) k x acc = trk f s (td T d) → td T d ≤ x + k → x ≤ 12 → Wp g yX7_stepsOf cX7_stepsOf 6 (some .int) 1 0 0 (px_MQ g Q 0 0) 0 0 6 [some (.ref 60), some (.int (nI d)), some (.int (nI f)), some (.int (nI s)), some (.int (nI acc)), some (.int (nI x))] [] w := by
    intro fu; induction fu with
    | zero => intro k x acc hm; exact absurd hm (Nat.not_lt_zero _)
    | succ fu ih =>
      intro k x acc hm hI hk hx
      have ih6 := ih; clear ih
      refine r_iload (pc' := 8) dX7_stepsOf_6 rfl rfl ?_
      refine r_aload_n (pc' := 9) dX7_stepsOf_8 rfl rfl ?_
      refine r_get (pc' := 12) fX7_25 dX7_stepsOf_9 rfl hX rfl ?_
      refine r_iload_n (pc' := 13) dX7_stepsOf_12 rfl rfl ?_
      refine r_iaload (pc' := 14) (v := nI (td T d)) dX7_stepsOf_13 rfl c5 (vp_in_nI (n := d) (by omega) (by omega)) (by rw [nI_cl (by omega)]; exact md d (by omega)) ?_
      have e13 := hO.2.2.1 d (by omega)
      refine r_icmp_ge (pc' := 17) (P := td T d ≤ x) (tgt := 35) dX7_stepsOf_14 (by decide) rfl (nI_leI (a := td T d) (b := x) (by omega) (by omega)) (fun h14 => ?_) (fun h14 => ?_)
      · rw [trkL_out (by omega)] at hI
        refine r_iload (pc' := 37) dX7_stepsOf_35 rfl rfl ?_
        refine r_ireturn dX7_stepsOf_37 rfl ?_
        exact px_eqN hQ hI
      · obtain ⟨k', rfl⟩ : ∃ k', k = k' + 1 := ⟨k - 1, by omega⟩
        rw [trkL_s (by omega)] at hI
        refine r_iload (pc' := 19) dX7_stepsOf_17 rfl rfl ?_
        refine r_iconst (pc' := 20) (v := nI 1) dX7_stepsOf_19 rfl rfl ?_
        refine r_iload (pc' := 22) dX7_stepsOf_20 rfl rfl ?_
        refine r_ishl (pc' := 23) (v := nI (2 ^ x)) dX7_stepsOf_22 rfl (shl1_n (b := x) (by omega)) ?_
        refine r_ior (pc' := 24) (v := nI (acc ||| (2 ^ x))) dX7_stepsOf_23 rfl (or_n acc (2 ^ x)) ?_
        refine r_istore (pc' := 26) (lo' := [some (.ref 60), some (.int (nI d)), some (.int (nI f)), some (.int (nI s)), some (.int (nI (acc ||| (2 ^ x)))), some (.int (nI x))]) dX7_stepsOf_24 rfl (by decide) rfl ?_
        refine r_iload (pc' := 28) dX7_stepsOf_26 rfl rfl ?_
        refine r_iload_n (pc' := 29) dX7_stepsOf_28 rfl rfl ?_
        refine r_iadd (pc' := 30) (v := nI (x + s)) dX7_stepsOf_29 rfl (nI_add x s) ?_
        refine r_istore (pc' := 32) (lo' := [some (.ref 60), some (.int (nI d)), some (.int (nI f)), some (.int (nI s)), some (.int (nI (acc ||| (2 ^ x)))), some (.int (nI (x + s)))]) dX7_stepsOf_30 rfl (by decide) rfl ?_
        refine r_goto (tgt := 6) dX7_stepsOf_32 (by decide) ?_
        exact ih6 k' ((x + s)) ((acc ||| 2 ^ x)) (by omega) (hI) (by omega) (by omega)
  exact L6 ((8) + 1) 8 f 0 (Nat.lt_succ_self _) (rfl) (by omega) (by omega)
set_option maxHeartbeats 200000 in
theorem ct_X7_readable {g : px_G} {w : px_W} {Q : px_Q} {tr : Int64} {ty nx tk pl va fa um : Int32} {T : px_T} {M : px_N} (hX : w[60]? = some (mobj tr ty nx tk pl va fa um)) (hT : MtA w T) (hO : TOK T) (hM : MnA w M) {d : Nat} (hd : d < tD T) (hQ : Q (some (.int (nI (rdbl T M d)))) w) : Ct g yX7_readable cX7_readable 4 (some .int) 2 0 0 [.ref 60, .int (nI d)] w Q := by
  refine Ct.of kX7_readable (by omega) (lo := [some (.ref 60), some (.int (nI d)), none, none]) rfl (px_cat1 rfl) (Nat.le_of_ble_eq_true rfl) ?_
  obtain ⟨fm, fz, fl, fs, fd, g0, g1, g2, g3, ⟨c1, c2, c3, c4, c5, c6, c7, c8, c9⟩, ma, mz, ml, md, mg, ⟨sb1, sb2, sb3⟩, sb4, sb5⟩ := id hT
  obtain ⟨fn, cn, hf, mB1, mB2, mB3⟩ := id hM
  refine r_iconst (pc' := 1) (v := nI 0) dX7_readable_0 rfl rfl ?_
  refine r_istore_n (pc' := 2) (lo' := [some (.ref 60), some (.int (nI d)), some (.int (nI 0)), none]) dX7_readable_1 rfl (by decide) rfl ?_
  refine r_iconst (pc' := 3) (v := nI 0) dX7_readable_2 rfl rfl ?_
  refine r_istore_n (pc' := 4) (lo' := [some (.ref 60), some (.int (nI d)), some (.int (nI 0)), some (.int (nI 0))]) dX7_readable_3 rfl (by decide) rfl ?_
  have L4 : ∀ (fu : Nat) (x : Nat), td T d - x < fu → x ≤ td T d → Wp g yX7_readable cX7_readable 4 (some .int) 2 0 0 (px_MQ g Q 0 0) 0 0 4 [some (.ref 60), some (.int (nI d)), some (.int (nI (bset (fun x => !((nt M d).testBit x) && !(nc M d x == 8)) x))), some (.int (nI x))] [] w := by
    intro fu; induction fu with
    | zero => intro x hm; exact absurd hm (Nat.not_lt_zero _)
    | succ fu ih =>
      intro x hm hx
      have ih4 := ih; clear ih
      refine r_iload_n (pc' := 5) dX7_readable_4 rfl rfl ?_
      refine r_aload_n (pc' := 6) dX7_readable_5 rfl rfl ?_
      refine r_get (pc' := 9) fX7_25 dX7_readable_6 rfl hX rfl ?_
      refine r_iload_n (pc' := 10) dX7_readable_9 rfl rfl ?_
      refine r_iaload (pc' := 11) (v := nI (td T d)) dX7_readable_10 rfl c5 (vp_in_nI (n := d) (by omega) (by omega)) (by rw [nI_cl (by omega)]; exact md d (by omega)) ?_
      have e10 := hO.2.2.1 d (by omega)
      refine r_icmp_ge (pc' := 14) (P := td T d ≤ x) (tgt := 57) dX7_readable_11 (by decide) rfl (nI_leI (a := td T d) (b := x) (by omega) (by omega)) (fun h11 => ?_) (fun h11 => ?_)
      · have hx2 : x = td T d := by omega
        subst hx2
        refine r_iload_n (pc' := 58) dX7_readable_57 rfl rfl ?_
        refine r_ireturn dX7_readable_58 rfl ?_
        exact hQ
      · skip
        refine r_iload_n (pc' := 15) dX7_readable_14 rfl rfl ?_
        refine r_aload_n (pc' := 16) dX7_readable_15 rfl rfl ?_
        refine r_get (pc' := 19) fX7_40 dX7_readable_16 rfl hX rfl ?_
        refine r_iconst (pc' := 20) (v := nI 0) dX7_readable_19 rfl rfl ?_
        refine r_bipush (pc' := 22) (v := nI 8) dX7_readable_20 rfl rfl ?_
        refine r_iload_n (pc' := 23) dX7_readable_22 rfl rfl ?_
        refine r_imul (pc' := 24) (v := nI (8 * d)) dX7_readable_23 rfl (pk_mul 8 d) ?_
        refine r_iadd (pc' := 25) (v := nI (0 + (8 * d))) dX7_readable_24 rfl (nI_add 0 (8 * d)) ?_
        refine r_iload_n (pc' := 26) dX7_readable_25 rfl rfl ?_
        refine r_iadd (pc' := 27) (v := nI (0 + (8 * d) + x)) dX7_readable_26 rfl (nI_add (0 + (8 * d)) x) ?_
        refine r_iaload (pc' := 28) (v := nI (nc M d x)) dX7_readable_27 rfl cn (vp_in_nI (n := 0 + (8 * d) + x) (by omega) (by omega)) (by rw [nI_cl (by omega), Nat.zero_add, hf _ (by omega), sv_c _ (by omega) (by omega)]) ?_
        have e27 := mB1 d x (by omega) (by omega)
        refine r_bipush (pc' := 30) (v := nI 8) dX7_readable_28 rfl rfl ?_
        refine r_icmp_eq (pc' := 33) (P := nc M d x = 8) (tgt := 48) dX7_readable_30 (by decide) rfl (nI_eq (a := nc M d x) (b := 8) (by omega) (by omega)) (fun h30 => ?_) (fun h30 => ?_)
        · skip
          refine r_iconst (pc' := 49) (v := nI 0) dX7_readable_48 rfl rfl ?_
          refine r_ior (pc' := 50) (v := nI ((bset (fun x => !((nt M d).testBit x) && !(nc M d x == 8)) x) ||| 0)) dX7_readable_49 rfl (or_n (bset (fun x => !((nt M d).testBit x) && !(nc M d x == 8)) x) 0) ?_
          refine r_istore_n (pc' := 51) (lo' := [some (.ref 60), some (.int (nI d)), some (.int (nI ((bset (fun x => !((nt M d).testBit x) && !(nc M d x == 8)) x) ||| 0))), some (.int (nI x))]) dX7_readable_50 rfl (by decide) rfl ?_
          refine r_iinc (pc' := 54) (lo' := [some (.ref 60), some (.int (nI d)), some (.int (nI ((bset (fun x => !((nt M d).testBit x) && !(nc M d x == 8)) x) ||| 0))), some (.int (nI (x + 1)))]) dX7_readable_51 rfl (by decide) rfl (nI_add x 1) rfl ?_
          refine r_goto (tgt := 4) dX7_readable_54 (by decide) ?_
          first | rw [← bset_t (p := (fun x => !((nt M d).testBit x) && !(nc M d x == 8))) (n := x) (by simp [h30, h39])] | rw [Nat.or_zero, ← bset_f (p := (fun x => !((nt M d).testBit x) && !(nc M d x == 8))) (n := x) (by first | (simp at h39; simp [h39]; done) | (simp [h30]; done))]
          exact ih4 (x + 1) (by omega) (by omega)
        · skip
          refine r_aload_n (pc' := 34) dX7_readable_33 rfl rfl ?_
          refine r_iload_n (pc' := 35) dX7_readable_34 rfl rfl ?_
          refine r_iload_n (pc' := 36) dX7_readable_35 rfl rfl ?_
          refine r_callV (pc' := 39) (av := [.int (nI d), .int (nI x)]) (rest := [.int (nI (bset (fun x => !((nt M d).testBit x) && !(nc M d x == 8)) x))]) kX7_isTrodden vX7_isTrodden lX7_133 dX7_readable_36 rfl hX rfl rfl rfl ⟨by decide, by decide, by decide⟩ rfl rfl (Nat.le_of_ble_eq_true rfl) (ct_X7_isTrodden hX hT hO hM (d := d) (x := x) (by omega) (by omega) ?_)
          show Wp g yX7_readable cX7_readable 4 (some .int) 2 0 0 (px_MQ g Q 0 0) 0 0 39 [some (.ref 60), some (.int (nI d)), some (.int (nI (bset (fun x => !((nt M d).testBit x) && !(nc M d x == 8)) x))), some (.int (nI x))] [.int (bI ((nt M d).testBit x)), .int (nI (bset (fun x => !((nt M d).testBit x) && !(nc M d x == 8)) x))] w
          refine r_if_ne (pc' := 42) (P := ((nt M d).testBit x) = false) (tgt := 48) dX7_readable_39 (by decide) rfl (bI_0) (fun h39 => ?_) (fun h39 => ?_)
          · skip
            refine r_iconst (pc' := 49) (v := nI 0) dX7_readable_48 rfl rfl ?_
            refine r_ior (pc' := 50) (v := nI ((bset (fun x => !((nt M d).testBit x) && !(nc M d x == 8)) x) ||| 0)) dX7_readable_49 rfl (or_n (bset (fun x => !((nt M d).testBit x) && !(nc M d x == 8)) x) 0) ?_
            refine r_istore_n (pc' := 51) (lo' := [some (.ref 60), some (.int (nI d)), some (.int (nI ((bset (fun x => !((nt M d).testBit x) && !(nc M d x == 8)) x) ||| 0))), some (.int (nI x))]) dX7_readable_50 rfl (by decide) rfl ?_
            refine r_iinc (pc' := 54) (lo' := [some (.ref 60), some (.int (nI d)), some (.int (nI ((bset (fun x => !((nt M d).testBit x) && !(nc M d x == 8)) x) ||| 0))), some (.int (nI (x + 1)))]) dX7_readable_51 rfl (by decide) rfl (nI_add x 1) rfl ?_
            refine r_goto (tgt := 4) dX7_readable_54 (by decide) ?_
            first | rw [← bset_t (p := (fun x => !((nt M d).testBit x) && !(nc M d x == 8))) (n := x) (by simp [h30, h39])] | rw [Nat.or_zero, ← bset_f (p := (fun x => !((nt M d).testBit x) && !(nc M d x == 8))) (n := x) (by first | (simp at h39; simp [h39]; done) | (simp [h30]; done))]
            exact ih4 (x + 1) (by omega) (by omega)
          · skip
            refine r_iconst (pc' := 43) (v := nI 1) dX7_readable_42 rfl rfl ?_
            refine r_iload_n (pc' := 44) dX7_readable_43 rfl rfl ?_
            refine r_ishl (pc' := 45) (v := nI (2 ^ x)) dX7_readable_44 rfl (shl1_n (b := x) (by omega)) ?_
            refine r_goto (tgt := 49) dX7_readable_45 (by decide) ?_
            refine r_ior (pc' := 50) (v := nI ((bset (fun x => !((nt M d).testBit x) && !(nc M d x == 8)) x) ||| (2 ^ x))) dX7_readable_49 rfl (or_n (bset (fun x => !((nt M d).testBit x) && !(nc M d x == 8)) x) (2 ^ x)) ?_
            refine r_istore_n (pc' := 51) (lo' := [some (.ref 60), some (.int (nI d)), some (.int (nI ((bset (fun x => !((nt M d).testBit x) && !(nc M d x == 8)) x) ||| (2 ^ x)))), some (.int (nI x))]) dX7_readable_50 rfl (by decide) rfl ?_
            refine r_iinc (pc' := 54) (lo' := [some (.ref 60), some (.int (nI d)), some (.int (nI ((bset (fun x => !((nt M d).testBit x) && !(nc M d x == 8)) x) ||| (2 ^ x)))), some (.int (nI (x + 1)))]) dX7_readable_51 rfl (by decide) rfl (nI_add x 1) rfl ?_
            refine r_goto (tgt := 4) dX7_readable_54 (by decide) ?_
            first | rw [← bset_t (p := (fun x => !((nt M d).testBit x) && !(nc M d x == 8))) (n := x) (by simp [h30, h39])] | rw [Nat.or_zero, ← bset_f (p := (fun x => !((nt M d).testBit x) && !(nc M d x == 8))) (n := x) (by first | (simp at h39; simp [h39]; done) | (simp [h30]; done))]
            exact ih4 (x + 1) (by omega) (by omega)
  exact L4 ((td T d) + 1) 0 (Nat.lt_succ_self _) (by omega)
