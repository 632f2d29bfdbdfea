set_option maxHeartbeats 200000 in
theorem ct_X6_keep {g : px_G} {w : px_W} {Q : px_Q} {ik : Nat} {tr : Int64} {T : px_T} {M : px_N} (hX : w[0]? = some (xobj ik tr)) (hT : SubA w 9 T) (hO : TOK T) (hM : MorA w 15 M) {U : List px_N} (hU : PastA w U) {I : Nat → Option px_N} (hI : ImA w ik I) {a : Int32} (hQ : ∀ (w' : px_W) (ik' : Nat), w'[0]? = some (xobj ik' tr) → ImA w' ik' (keepI M I a) → (∀ j, 1 ≤ j → (j < 51 ∨ 59 ≤ j) → w'[j]? = w[j]?) → Q (some (.int (keepR M a))) w') : Ct g yX6_keep cX6_keep 2 (some .int) 4 0 0 [.ref 0, .int a] w Q := by
  refine Ct.of kX6_keep (by omega) (lo := [some (.ref 0), some (.int a)]) rfl (px_cat1 rfl) (Nat.le_of_ble_eq_true rfl) ?_
  obtain ⟨⟨sb1, sb2, sb3⟩, sb4, sb5⟩ := hT.b
  obtain ⟨mB1, mB2, mB3⟩ := hM.b
  obtain ⟨f, pf, p3⟩ := hU.o
  have pl := hU.len
  obtain ⟨Is, q1, q2, q3⟩ := id hI
  refine r_iload_n (pc' := 1) dX6_keep_0 rfl rfl ?_
  refine r_if_lt (pc' := 4) (P := a < 0) (tgt := 9) dX6_keep_1 (by decide) rfl (Iff.rfl) (fun h1 => ?_) (fun h1 => ?_)
  · have hb := lt0_hasI (n := 2) h1
    refine r_iconst (pc' := 10) (v := (-1)) dX6_keep_9 rfl rfl ?_
    refine r_ireturn dX6_keep_10 rfl ?_
    refine px_eq (hQ w ik hX ?_ (fun _ _ _ => rfl)) ?_
    · simpa [keepI, hb] using hI
    · simp [keepR, hb]
  · skip
    refine r_iload_n (pc' := 5) dX6_keep_4 rfl rfl ?_
    refine r_iconst (pc' := 6) (v := nI 2) dX6_keep_5 rfl rfl ?_
    refine r_icmp_lt (pc' := 9) (P := a < (nI 2)) (tgt := 11) dX6_keep_6 (by decide) rfl (Iff.rfl) (fun h6 => ?_) (fun h6 => ?_)
    · have h6' := in_hasI (n := 2) (by omega) h1 (by simpa using h6)
      obtain ⟨i, hi, rfl⟩ := hasI_t h6' (by omega)
      have e6 := two_pow_2 hi
      refine r_aload_n (pc' := 12) dX6_keep_11 rfl rfl ?_
      refine r_get (pc' := 15) fX6_42 dX6_keep_12 rfl hX rfl ?_
      refine r_iload_n (pc' := 16) dX6_keep_15 rfl rfl ?_
      refine r_aload_n (pc' := 17) dX6_keep_16 rfl rfl ?_
      refine r_get (pc' := 20) fX6_26 dX6_keep_17 rfl hX rfl ?_
      refine r_callV (pc' := 23) (av := [.int (nI i), .ref 15]) (rest := []) kX4_store vX4_store lX6_231 dX6_keep_20 rfl q1.1 rfl rfl rfl ⟨by decide, by decide, by decide⟩ rfl rfl (Nat.le_of_ble_eq_true rfl) (ct_X4_store q1 (by decide) (i := i) (by omega) hM (by omega) (fun w20 hS20 hF20 => ?_))
      have hT_w20 := hT.fr hF20 (by omega)
      have hM_w20 := hM.fr hF20 (by omega)
      have hU_w20 := hU.fr hF20 (by omega)
      show Wp g yX6_keep cX6_keep 2 (some .int) 4 0 0 (px_MQ g Q 0 0) 0 0 23 [some (.ref 0), some (.int (nI i))] [] w20
      refine r_aload_n (pc' := 24) dX6_keep_23 rfl rfl ?_
      refine r_dup (pc' := 25) dX6_keep_24 rfl rfl ?_
      refine r_get (pc' := 28) fX6_74 dX6_keep_25 rfl (hF20.at hX (by omega)) rfl ?_
      refine r_iconst (pc' := 29) (v := nI 1) dX6_keep_28 rfl rfl ?_
      refine r_iload_n (pc' := 30) dX6_keep_29 rfl rfl ?_
      refine r_ishl (pc' := 31) (v := nI (2 ^ i)) dX6_keep_30 rfl (shl1_n (b := i) (by omega)) ?_
      refine r_ior (pc' := 32) (v := nI (ik ||| (2 ^ i))) dX6_keep_31 rfl (or_n ik (2 ^ i)) ?_
      refine r_put (pc' := 35) (ty := .int) (c' := .inr (5, [.ref 1, .ref 9, .ref 15, .ref 18, .ref 51, .ref 59, .int (nI (ik ||| (2 ^ i))), .long tr])) fX6_74 dX6_keep_32 rfl (hF20.at hX (by omega)) (Nat.le_of_ble_eq_true rfl) rfl (by decide +kernel) rfl rfl rfl ?_
      refine r_aload_n (pc' := 36) dX6_keep_35 rfl rfl ?_
      refine r_get (pc' := 39) fX6_26 dX6_keep_36 rfl (gs_eq (hF20.at hX (by omega))) rfl ?_
      refine r_getN (pc' := 42) fX6_163 dX6_keep_39 rfl ((hM_w20.fr (a := 0) (b := 1) (Frm.set (by omega) (by omega)) (by omega)).o) rfl ?_
      refine r_ireturn dX6_keep_42 rfl ?_
      refine px_eq (hQ _ (ik ||| 2 ^ i) (gs_eq (hF20.at hX (by omega))) ?_ ?_) ?_
      · rw [keepI, if_pos h6', nI_cl (show i < 2 ^ 31 by omega)]; exact (ImA.keep hi q2 q3 hS20).fr (a := 0) (b := 1) (Frm.set (by omega) (by omega)) (by omega)
      · intro j h1 h2; rw [gs_off (by omega)]; exact hF20 j (by omega)
      · rw [keepR, if_pos h6']
    · have hb := ge_hasI (n := 2) (by omega) (by simpa using h6)
      refine r_iconst (pc' := 10) (v := (-1)) dX6_keep_9 rfl rfl ?_
      refine r_ireturn dX6_keep_10 rfl ?_
      refine px_eq (hQ w ik hX ?_ (fun _ _ _ => rfl)) ?_
      · simpa [keepI, hb] using hI
      · simp [keepR, hb]
set_option maxHeartbeats 200000 in
theorem ct_X6_back {g : px_G} {w : px_W} {Q : px_Q} {ik : Nat} {tr : Int64} {T : px_T} {M : px_N} (hX : w[0]? = some (xobj ik tr)) (hT : SubA w 9 T) (hO : TOK T) (hM : MorA w 15 M) {U : List px_N} (hU : PastA w U) {I : Nat → Option px_N} (hI : ImA w ik I) {a : Int32} (hQ : ∀ w' : px_W, MorA w' 15 (backM M I a) → PastA w' (backU U I a) → Frm w w' 15 51 → Q (some (.int (backR I a))) w') : Ct g yX6_back cX6_back 2 (some .int) 4 0 0 [.ref 0, .int a] w Q := by
  refine Ct.of kX6_back (by omega) (lo := [some (.ref 0), some (.int a)]) rfl (px_cat1 rfl) (Nat.le_of_ble_eq_true rfl) ?_
  obtain ⟨⟨sb1, sb2, sb3⟩, sb4, sb5⟩ := hT.b
  obtain ⟨mB1, mB2, mB3⟩ := hM.b
  obtain ⟨f, pf, p3⟩ := hU.o
  have pl := hU.len
  obtain ⟨Is, q1, q2, q3⟩ := id hI
  refine r_iload_n (pc' := 1) dX6_back_0 rfl rfl ?_
  refine r_if_lt (pc' := 4) (P := a < 0) (tgt := 9) dX6_back_1 (by decide) rfl (Iff.rfl) (fun h1 => ?_) (fun h1 => ?_)
  · have hb := lt0_hasI (n := 2) h1
    refine r_iconst (pc' := 10) (v := (-1)) dX6_back_9 rfl rfl ?_
    refine r_ireturn dX6_back_10 rfl ?_
    refine px_eq (hQ w ?_ ?_ Frm.rf) ?_
    · simpa [backM, backG, hb] using hM
    · simpa [backU, backG, hb] using hU
    · simp [backR, hb]
  · skip
    refine r_iload_n (pc' := 5) dX6_back_4 rfl rfl ?_
    refine r_iconst (pc' := 6) (v := nI 2) dX6_back_5 rfl rfl ?_
    refine r_icmp_lt (pc' := 9) (P := a < (nI 2)) (tgt := 11) dX6_back_6 (by decide) rfl (Iff.rfl) (fun h6 => ?_) (fun h6 => ?_)
    · have h6' := in_hasI (n := 2) (by omega) h1 (by simpa using h6)
      obtain ⟨i, hi, rfl⟩ := hasI_t h6' (by omega)
      have e6 := two_pow_2 hi
      refine r_aload_n (pc' := 12) dX6_back_11 rfl rfl ?_
      refine r_get (pc' := 15) fX6_74 dX6_back_12 rfl hX rfl ?_
      refine r_iconst (pc' := 16) (v := nI 1) dX6_back_15 rfl rfl ?_
      refine r_iload_n (pc' := 17) dX6_back_16 rfl rfl ?_
      refine r_ishl (pc' := 18) (v := nI (2 ^ i)) dX6_back_17 rfl (shl1_n (b := i) (by omega)) ?_
      refine r_iand (pc' := 19) (v := nI (ik &&& (2 ^ i))) dX6_back_18 rfl (and_n ik (2 ^ i)) ?_
      refine r_if_ne (pc' := 22) (P := ik.testBit i = false) (tgt := 25) dX6_back_19 (by decide) rfl ((nI_eq0 (n := ik &&& 2 ^ i) (and_lt31 (by omega))).trans (tb_and _ i)) (fun h19 => ?_) (fun h19 => ?_)
      · obtain ⟨N, hN⟩ : ∃ N, I i = some N := Option.isSome_iff_exists.mp (by rw [← (q3 i hi).1]; simpa using h19)
        refine r_aload_n (pc' := 26) dX6_back_25 rfl rfl ?_
        refine r_get (pc' := 29) fX6_42 dX6_back_26 rfl hX rfl ?_
        refine r_iload_n (pc' := 30) dX6_back_29 rfl rfl ?_
        refine r_aload_n (pc' := 31) dX6_back_30 rfl rfl ?_
        refine r_get (pc' := 34) fX6_26 dX6_back_31 rfl hX rfl ?_
        refine r_callV (pc' := 37) (av := [.int (nI i), .ref 15]) (rest := []) kX4_fetch vX4_fetch lX6_235 dX6_back_34 rfl q1.1 rfl rfl rfl ⟨by decide, by decide, by decide⟩ rfl rfl (Nat.le_of_ble_eq_true rfl) (ct_X4_fetch q1 (by decide) (i := i) (by omega) hM (by omega) (fun w34 hM34 hF34 => ?_))
        have hT_w34 := hT.fr hF34 (by omega)
        have hU_w34 := hU.fr hF34 (by omega)
        have q1_w34 := q1.fr hF34 (by omega)
        show Wp g yX6_back cX6_back 2 (some .int) 4 0 0 (px_MQ g Q 0 0) 0 0 37 [some (.ref 0), some (.int (nI i))] [] w34
        refine r_aload_n (pc' := 38) dX6_back_37 rfl rfl ?_
        refine r_get (pc' := 41) fX6_33 dX6_back_38 rfl (hF34.at hX (by omega)) rfl ?_
        refine r_callV (pc' := 44) (av := []) (rest := []) kX1_forget vX1_forget lX6_71 dX6_back_41 rfl (hF34.at p3 (by omega)) rfl rfl rfl ⟨by decide, by decide, by decide⟩ rfl rfl (Nat.le_of_ble_eq_true rfl) (ct_X1_forget hU_w34 (fun w41 hU41 hF41 => ?_))
        have hT_w41 := hT_w34.fr hF41 (by omega)
        have q1_w41 := q1_w34.fr hF41 (by omega)
        have hM34_w41 := hM34.fr hF41 (by omega)
        show Wp g yX6_back cX6_back 2 (some .int) 4 0 0 (px_MQ g Q 0 0) 0 0 44 [some (.ref 0), some (.int (nI i))] [] w41
        refine r_aload_n (pc' := 45) dX6_back_44 rfl rfl ?_
        refine r_get (pc' := 48) fX6_26 dX6_back_45 rfl (hF41.at (hF34.at hX (by omega)) (by omega)) rfl ?_
        refine r_getN (pc' := 51) fX6_163 dX6_back_48 rfl hM34_w41.o rfl ?_
        refine r_ireturn dX6_back_51 rfl ?_
        have e9 := (q3 i hi).2 N hN
        refine px_eq (hQ w41 ?_ ?_ ?_) ?_
        · simpa [backM, backG, h6', nI_cl (show i < 2 ^ 31 by omega), hN, ← e9] using hM34_w41
        · simpa [backU, backG, h6', nI_cl (show i < 2 ^ 31 by omega), hN] using hU41
        · exact hF34.tr hF41 (by omega) (by omega) (by omega) (by omega)
        · simp [backR, h6', nI_cl (show i < 2 ^ 31 by omega), hN, e9]
      · have hN : I i = none := by have h9 := (q3 i hi).1; rw [h19] at h9; simpa using h9.symm
        refine r_bipush (pc' := 24) (v := (-2)) dX6_back_22 rfl rfl ?_
        refine r_ireturn dX6_back_24 rfl ?_
        refine px_eq (hQ w ?_ ?_ Frm.rf) ?_
        · simpa [backM, backG, h6', nI_cl (show i < 2 ^ 31 by omega), hN] using hM
        · simpa [backU, backG, h6', nI_cl (show i < 2 ^ 31 by omega), hN] using hU
        · simp [backR, h6', nI_cl (show i < 2 ^ 31 by omega), hN]
    · have hb := ge_hasI (n := 2) (by omega) (by simpa using h6)
      refine r_iconst (pc' := 10) (v := (-1)) dX6_back_9 rfl rfl ?_
      refine r_ireturn dX6_back_10 rfl ?_
      refine px_eq (hQ w ?_ ?_ Frm.rf) ?_
      · simpa [backM, backG, hb] using hM
      · simpa [backU, backG, hb] using hU
      · simp [backR, hb]
set_option maxHeartbeats 200000 in
theorem ct_X6_count {g : px_G} {w : px_W} {Q : px_Q} {ik : Nat} {tr : Int64} {T : px_T} {M : px_N} (hX : w[0]? = some (xobj ik tr)) (hT : SubA w 9 T) (hO : TOK T) (hM : MorA w 15 M) {U : List px_N} (hU : PastA w U) {n : Nat} {tx : Nat → Nat} (hR : RdA w n tx) {a : Int32} (hQ : Q (some (.int (countR T M U.length n a))) w) : Ct g yX6_count cX6_count 2 (some .int) 1 0 0 [.ref 0, .int a] w Q := by
  refine Ct.of kX6_count (by omega) (lo := [some (.ref 0), some (.int a)]) rfl (px_cat1 rfl) (Nat.le_of_ble_eq_true rfl) ?_
  obtain ⟨⟨sb1, sb2, sb3⟩, sb4, sb5⟩ := hT.b
  obtain ⟨mB1, mB2, mB3⟩ := hM.b
  obtain ⟨f, pf, p3⟩ := hU.o
  have pl := hU.len
  obtain ⟨fs, pl, so, sta, nu, Td, r1, r2, r3, r4, r5⟩ := id hR
  refine r_iload_n (pc' := 1) dX6_count_0 rfl rfl ?_
  by_cases hsw : hasI a 6 = true
  · obtain ⟨sw1, hsw1, rfl⟩ := hasI_t hsw (by omega)
    rcases (show sw1 = 0 ∨ sw1 = 1 ∨ sw1 = 2 ∨ sw1 = 3 ∨ sw1 = 4 ∨ sw1 = 5 by omega) with rfl | rfl | rfl | rfl | rfl | rfl
    · refine r_tableIn (off := 39) (tgt := 40) dX6_count_1 (by decide) (by decide) (by decide) (by decide) ?_
      refine r_aload_n (pc' := 41) dX6_count_40 rfl rfl ?_
      refine r_get (pc' := 44) fX6_19 dX6_count_41 rfl hX rfl ?_
      refine r_getN (pc' := 47) fX6_238 dX6_count_44 rfl hT.o rfl ?_
      refine r_ireturn dX6_count_47 rfl ?_
      refine px_eq hQ ?_
      exact (pick_at 0 rfl (by decide)).symm
    · refine r_tableIn (off := 47) (tgt := 48) dX6_count_1 (by decide) (by decide) (by decide) (by decide) ?_
      refine r_aload_n (pc' := 49) dX6_count_48 rfl rfl ?_
      refine r_get (pc' := 52) fX6_19 dX6_count_49 rfl hX rfl ?_
      refine r_getN (pc' := 55) fX6_241 dX6_count_52 rfl hT.o rfl ?_
      refine r_ireturn dX6_count_55 rfl ?_
      refine px_eq hQ ?_
      exact (pick_at 1 rfl (by decide)).symm
    · refine r_tableIn (off := 55) (tgt := 56) dX6_count_1 (by decide) (by decide) (by decide) (by decide) ?_
      refine r_aload_n (pc' := 57) dX6_count_56 rfl rfl ?_
      refine r_get (pc' := 60) fX6_19 dX6_count_57 rfl hX rfl ?_
      refine r_getN (pc' := 63) fX6_166 dX6_count_60 rfl hT.o rfl ?_
      refine r_ireturn dX6_count_63 rfl ?_
      refine px_eq hQ ?_
      exact (pick_at 2 rfl (by decide)).symm
    · refine r_tableIn (off := 63) (tgt := 64) dX6_count_1 (by decide) (by decide) (by decide) (by decide) ?_
      refine r_aload_n (pc' := 65) dX6_count_64 rfl rfl ?_
      refine r_get (pc' := 68) fX6_26 dX6_count_65 rfl hX rfl ?_
      refine r_getN (pc' := 71) fX6_163 dX6_count_68 rfl hM.o rfl ?_
      refine r_ireturn dX6_count_71 rfl ?_
      refine px_eq hQ ?_
      exact (pick_at 3 rfl (by decide)).symm
    · refine r_tableIn (off := 71) (tgt := 72) dX6_count_1 (by decide) (by decide) (by decide) (by decide) ?_
      refine r_aload_n (pc' := 73) dX6_count_72 rfl rfl ?_
      refine r_get (pc' := 76) fX6_33 dX6_count_73 rfl hX rfl ?_
      refine r_getN (pc' := 79) fX6_172 dX6_count_76 rfl p3 rfl ?_
      refine r_ireturn dX6_count_79 rfl ?_
      refine px_eq hQ ?_
      exact (pick_at 4 rfl (by decide)).symm
    · refine r_tableIn (off := 79) (tgt := 80) dX6_count_1 (by decide) (by decide) (by decide) (by decide) ?_
      refine r_aload_n (pc' := 81) dX6_count_80 rfl rfl ?_
      refine r_get (pc' := 84) fX6_10 dX6_count_81 rfl hX rfl ?_
      refine r_getN (pc' := 87) fX6_53 dX6_count_84 rfl r1 rfl ?_
      refine r_ireturn dX6_count_87 rfl ?_
      refine px_eq hQ ?_
      exact (pick_at 5 rfl (by decide)).symm
  · refine r_tableOut (tgt := 88) dX6_count_1 (out_hasI hsw) (by decide) ?_
    refine r_iconst (pc' := 89) (v := (-1)) dX6_count_88 rfl rfl ?_
    refine r_ireturn dX6_count_89 rfl ?_
    refine px_eq hQ ?_
    exact (pick_f (by simpa using hsw)).symm
set_option maxHeartbeats 200000 in
theorem ct_X6_trace {g : px_G} {w : px_W} {Q : px_Q} {ik : Nat} {tr : Int64} {T : px_T} {M : px_N} (hX : w[0]? = some (xobj ik tr)) (hT : SubA w 9 T) (hO : TOK T) (hM : MorA w 15 M) (hQ : Q (some (.long tr)) w) : Ct g yX6_trace cX6_trace 1 (some .long) 1 0 0 [.ref 0] w Q := by
  refine Ct.of kX6_trace (by omega) (lo := [some (.ref 0)]) rfl (px_cat1 rfl) (Nat.le_of_ble_eq_true rfl) ?_
  refine r_aload_n (pc' := 1) dX6_trace_0 rfl rfl ?_
  refine r_get (pc' := 4) fX6_244 dX6_trace_1 rfl hX rfl ?_
  refine r_lreturn dX6_trace_4 rfl ?_
  exact hQ
theorem RdA.add {w : px_W} {n v : Nat} {tx : Nat → Nat} {fs : Nat → Int32} {pl so sta nu : Int32} {Td : px_T} (r1 : w[1]? = some (.inr (2, [.ref 2, .int (nI n), .ref 3, .int pl, .int so, .int sta, .int nu]))) (r2 : w[2]? = some (.inl (0, 150, .inl fs))) (r3 : SubA w 3 Td) (r5 : ∀ j, j < n → fs j = nI (tx j) ∧ tx j < 256) (hn : n < 150) (hv : v < 256) : RdA ((w.set 2 (.inl (0, 150, .inl (upd fs n (nI v))))).set 1 (.inr (2, [.ref 2, .int (nI (n + 1)), .ref 3, .int pl, .int so, .int sta, .int nu]))) (n + 1) (txP tx n v) := by
  refine ⟨_, pl, so, sta, nu, Td, gs_eq (gs_ne r1 (by omega)), gs_ne (gs_eq r2) (by omega), (r3.fr (a := 1) (b := 3) (Frm.set (by omega) (by omega)) (by omega)).fr (a := 1) (b := 3) (Frm.set (by omega) (by omega)) (by omega), by omega, fun j hj => ?_⟩
  by_cases e : j = n
  · subst e; simp [upd, txP, hv]
  · simp only [upd, txP, e, if_false]; exact r5 j (by omega)
theorem RdA.len0 {w : px_W} {n : Nat} {tx : Nat → Nat} {fs : Nat → Int32} {pl so sta nu : Int32} {Td : px_T} (r1 : w[1]? = some (.inr (2, [.ref 2, .int (nI n), .ref 3, .int pl, .int so, .int sta, .int nu]))) (r2 : w[2]? = some (.inl (0, 150, .inl fs))) (r3 : SubA w 3 Td) : RdA (w.set 1 (.inr (2, [.ref 2, .int (nI 0), .ref 3, .int pl, .int so, .int sta, .int nu]))) 0 tx :=
  ⟨fs, pl, so, sta, nu, Td, gs_eq r1, gs_ne r2 (by omega), r3.fr (a := 1) (b := 3) (Frm.set (by omega) (by omega)) (by omega), Nat.zero_le _, fun j hj => absurd hj (Nat.not_lt_zero _)⟩
set_option maxHeartbeats 200000 in
theorem ct_X2_add {g : px_G} {w : px_W} {Q : px_Q} {n : Nat} {tx : Nat → Nat} (hR : RdA w n tx) (hn : n < 150) {v : Nat} (hv : v < 256) (hQ : ∀ w' : px_W, RdA w' (n + 1) (txP tx n v) → Frm w w' 1 9 → Q none w') : Ct g yX2_add cX2_add 2 none 2 0 0 [.ref 1, .int (nI v)] w Q := by
  refine Ct.of kX2_add (by omega) (lo := [some (.ref 1), some (.int (nI v))]) rfl (px_cat1 rfl) (Nat.le_of_ble_eq_true rfl) ?_
  obtain ⟨fs, pl, so, sta, nu, Td, r1, r2, r3, r4, r5⟩ := id hR
  refine r_aload_n (pc' := 1) dX2_add_0 rfl rfl ?_
  refine r_get (pc' := 4) fX2_22 dX2_add_1 rfl r1 rfl ?_
  refine r_sipush (pc' := 7) (v := nI 150) dX2_add_4 rfl rfl ?_
  refine r_icmp_ge (pc' := 10) (P := 150 ≤ n) (tgt := 32) dX2_add_7 (by decide) rfl (nI_leI (a := 150) (b := n) (by omega) (by omega)) (fun h7 => ?_) (fun h7 => ?_)
  · skip
    exfalso; omega
  · skip
    refine r_aload_n (pc' := 11) dX2_add_10 rfl rfl ?_
    refine r_get (pc' := 14) fX2_9 dX2_add_11 rfl r1 rfl ?_
    refine r_aload_n (pc' := 15) dX2_add_14 rfl rfl ?_
    refine r_get (pc' := 18) fX2_22 dX2_add_15 rfl r1 rfl ?_
    refine r_iload_n (pc' := 19) dX2_add_18 rfl rfl ?_
    refine r_callS (pc' := 22) (av := [.ref 2, .int (nI n), .int (nI v)]) (rest := []) kX3_put vX3_put lX2_26 dX2_add_19 rfl rfl rfl ⟨by decide, by decide, by decide⟩ rfl rfl (Nat.le_of_ble_eq_true rfl) (ct_X3_put r2 (by decide) (j := n) (by omega) ?_)
    show Wp g yX2_add cX2_add 2 none 2 0 0 (px_MQ g Q 0 0) 0 0 22 [some (.ref 1), some (.int (nI v))] [] (w.set 2 (.inl (0, 150, .inl (upd fs n (nI v)))))
    refine r_aload_n (pc' := 23) dX2_add_22 rfl rfl ?_
    refine r_dup (pc' := 24) dX2_add_23 rfl rfl ?_
    refine r_get (pc' := 27) fX2_22 dX2_add_24 rfl (gs_ne r1 (by decide)) rfl ?_
    refine r_iconst (pc' := 28) (v := nI 1) dX2_add_27 rfl rfl ?_
    refine r_iadd (pc' := 29) (v := nI (n + 1)) dX2_add_28 rfl (nI_add n 1) ?_
    refine r_put (pc' := 32) (ty := .int) (c' := .inr (2, [.ref 2, .int (nI (n + 1)), .ref 3, .int pl, .int so, .int sta, .int nu])) fX2_22 dX2_add_29 rfl (gs_ne r1 (by decide)) (Nat.le_of_ble_eq_true rfl) rfl (by decide +kernel) rfl rfl rfl ?_
    refine r_return dX2_add_32 rfl ?_
    exact hQ _ (RdA.add r1 r2 r3 r5 hn hv) ((Frm.set (by omega) (by omega)).sets (by omega) (by omega))
set_option maxHeartbeats 200000 in
theorem ct_X6_type {g : px_G} {w : px_W} {Q : px_Q} {ik : Nat} {tr : Int64} (hX : w[0]? = some (xobj ik tr)) {n : Nat} {tx : Nat → Nat} (hR : RdA w n tx) {a : Int32} (hQ : ∀ w' : px_W, RdA w' (typeN n a) (typeX n tx a) → Frm w w' 1 9 → Q (some (.int (typeR n a))) w') : Ct g yX6_type cX6_type 2 (some .int) 3 0 0 [.ref 0, .int a] w Q := by
  refine Ct.of kX6_type (by omega) (lo := [some (.ref 0), some (.int a)]) rfl (px_cat1 rfl) (Nat.le_of_ble_eq_true rfl) ?_
  obtain ⟨fs, pl, so, sta, nu, Td, r1, r2, r3, r4, r5⟩ := id hR
  refine r_iload_n (pc' := 1) dX6_type_0 rfl rfl ?_
  refine r_if_lt (pc' := 4) (P := a < 0) (tgt := 11) dX6_type_1 (by decide) rfl (Iff.rfl) (fun h1 => ?_) (fun h1 => ?_)
  · have hb := lt0_hasI (n := 256) h1
    refine r_iconst (pc' := 12) (v := (-1)) dX6_type_11 rfl rfl ?_
    refine r_ireturn dX6_type_12 rfl ?_
    refine px_eq (hQ w ?_ Frm.rf) ?_
    · simpa [typeN, typeX, typeO, hb] using hR
    · simp [typeR, hb]
  · skip
    refine r_iload_n (pc' := 5) dX6_type_4 rfl rfl ?_
    refine r_sipush (pc' := 8) (v := nI 255) dX6_type_5 rfl rfl ?_
    refine r_icmp_le (pc' := 11) (P := a ≤ (nI 255)) (tgt := 13) dX6_type_8 (by decide) rfl (Iff.rfl) (fun h8 => ?_) (fun h8 => ?_)
    · have h8' := ngt_hasI (n := 255) (by omega) h1 (by simpa using h8)
      obtain ⟨v, hv, rfl⟩ := hasI_t h8' (by omega)
      refine r_aload_n (pc' := 14) dX6_type_13 rfl rfl ?_
      refine r_get (pc' := 17) fX6_10 dX6_type_14 rfl hX rfl ?_
      refine r_getN (pc' := 20) fX6_53 dX6_type_17 rfl r1 rfl ?_
      refine r_sipush (pc' := 23) (v := nI 150) dX6_type_20 rfl rfl ?_
      refine r_icmp_lt (pc' := 26) (P := n < 150) (tgt := 29) dX6_type_23 (by decide) rfl (nI_ltI (a := n) (b := 150) (by omega) (by omega)) (fun h23 => ?_) (fun h23 => ?_)
      · skip
        refine r_aload_n (pc' := 30) dX6_type_29 rfl rfl ?_
        refine r_get (pc' := 33) fX6_10 dX6_type_30 rfl hX rfl ?_
        refine r_iload_n (pc' := 34) dX6_type_33 rfl rfl ?_
        refine r_callV (pc' := 37) (av := [.int (nI v)]) (rest := []) kX2_add vX2_add lX6_57 dX6_type_34 rfl r1 rfl rfl rfl ⟨by decide, by decide, by decide⟩ rfl rfl (Nat.le_of_ble_eq_true rfl) (ct_X2_add hR (by omega) (by omega) (fun w34 hR34 hF34 => ?_))
        obtain ⟨fs2, pl2, so2, sta2, nu2, Td2, t1, t2, t3, t4, t5⟩ := id hR34
        show Wp g yX6_type cX6_type 2 (some .int) 3 0 0 (px_MQ g Q 0 0) 0 0 37 [some (.ref 0), some (.int (nI v))] [] w34
        refine r_aload_n (pc' := 38) dX6_type_37 rfl rfl ?_
        refine r_get (pc' := 41) fX6_10 dX6_type_38 rfl (hF34.at hX (by omega)) rfl ?_
        refine r_getN (pc' := 44) fX6_53 dX6_type_41 rfl t1 rfl ?_
        refine r_ireturn dX6_type_44 rfl ?_
        have ho : typeO n (nI v) = true := by rw [typeO, h8']; simpa using h23
        refine px_eq (hQ w34 ?_ hF34) ?_
        · rw [typeN, typeX, ho, nI_cl (show v < 2 ^ 31 by omega)]; exact hR34
        · rw [typeR, if_pos h8', if_pos h23]
      · skip
        refine r_bipush (pc' := 28) (v := (-3)) dX6_type_26 rfl rfl ?_
        refine r_ireturn dX6_type_28 rfl ?_
        have ho : typeO n (nI v) = false := by simp [typeO, h23]
        refine px_eq (hQ w ?_ Frm.rf) ?_
        · rw [typeN, typeX, ho]; exact hR
        · rw [typeR, if_pos h8', if_neg h23]
    · have hb := gt_hasI (n := 255) (by omega) (by simpa using h8)
      refine r_iconst (pc' := 12) (v := (-1)) dX6_type_11 rfl rfl ?_
      refine r_ireturn dX6_type_12 rfl ?_
      refine px_eq (hQ w ?_ Frm.rf) ?_
      · simpa [typeN, typeX, typeO, hb] using hR
      · simp [typeR, hb]
set_option maxHeartbeats 200000 in
theorem ct_X6_clear {g : px_G} {w : px_W} {Q : px_Q} {ik : Nat} {tr : Int64} (hX : w[0]? = some (xobj ik tr)) {n : Nat} {tx : Nat → Nat} (hR : RdA w n tx) (hQ : ∀ w' : px_W, RdA w' 0 tx → Frm w w' 1 9 → Q (some (.int (nI n))) w') : Ct g yX6_clear cX6_clear 2 (some .int) 1 0 0 [.ref 0] w Q := by
  refine Ct.of kX6_clear (by omega) (lo := [some (.ref 0), none]) rfl (px_cat1 rfl) (Nat.le_of_ble_eq_true rfl) ?_
  obtain ⟨fs, pl, so, sta, nu, Td, r1, r2, r3, r4, r5⟩ := id hR
  refine r_aload_n (pc' := 1) dX6_clear_0 rfl rfl ?_
  refine r_get (pc' := 4) fX6_10 dX6_clear_1 rfl hX rfl ?_
  refine r_getN (pc' := 7) fX6_53 dX6_clear_4 rfl r1 rfl ?_
  refine r_istore_n (pc' := 8) (lo' := [some (.ref 0), some (.int (nI n))]) dX6_clear_7 rfl (by decide) rfl ?_
  refine r_aload_n (pc' := 9) dX6_clear_8 rfl rfl ?_
  refine r_get (pc' := 12) fX6_10 dX6_clear_9 rfl hX rfl ?_
  refine r_iconst (pc' := 13) (v := nI 0) dX6_clear_12 rfl rfl ?_
  refine r_putN (pc' := 16) (ty := .int) (c' := .inr (2, [.ref 2, .int (nI 0), .ref 3, .int pl, .int so, .int sta, .int nu])) fX6_53 dX6_clear_13 rfl r1 (Nat.le_of_ble_eq_true rfl) rfl (by decide +kernel) rfl rfl rfl ?_
  refine r_iload_n (pc' := 17) dX6_clear_16 rfl rfl ?_
  refine r_ireturn dX6_clear_17 rfl ?_
  exact hQ _ (RdA.len0 r1 r2 r3) (Frm.set (by omega) (by omega))
set_option maxHeartbeats 200000 in
theorem ct_X3_atT {g : px_G} {w : px_W} {Q : px_Q} {q n : Nat} {f : Nat → Int32} (hq : ¬ q < 1000) (he : px_t g q = some (n, f)) (hn : n < 2 ^ 31) {j : Nat} (hj : j < n) {v : Int32} (hv : f j = v) (hQ : Q (some (.int v)) w) : Ct g yX3_at cX3_at 2 (some .int) 1 0 0 [.ref q, .int (nI j)] w Q := by
  refine Ct.of kX3_at (by omega) (lo := [some (.ref q), some (.int (nI j))]) rfl (px_cat1 rfl) (Nat.le_of_ble_eq_true rfl) ?_
  refine r_aload_n (pc' := 1) dX3_at_0 rfl rfl ?_
  refine r_ifnull (pc' := 4) dX3_at_1 rfl ?_
  refine r_iload_n (pc' := 5) dX3_at_4 rfl rfl ?_
  refine r_if_lt (pc' := 8) (P := False) (tgt := 20) dX3_at_5 (by decide) rfl (nI_lt0 (n := j) (by omega)) (fun h5 => ?_) (fun h5 => ?_)
  · skip
    exfalso; exact h5
  · skip
    refine r_iload_n (pc' := 9) dX3_at_8 rfl rfl ?_
    refine r_aload_n (pc' := 10) dX3_at_9 rfl rfl ?_
    refine r_alenT (pc' := 11) (v := nI n) dX3_at_10 rfl hq he rfl ?_
    refine r_icmp_ge (pc' := 14) (P := n ≤ j) (tgt := 20) dX3_at_11 (by decide) rfl (nI_leI (a := n) (b := j) (by omega) (by omega)) (fun h11 => ?_) (fun h11 => ?_)
    · skip
      exfalso; omega
    · skip
      refine r_aload_n (pc' := 15) dX3_at_14 rfl rfl ?_
      refine r_iload_n (pc' := 16) dX3_at_15 rfl rfl ?_
      refine r_ialoadT (pc' := 17) (v := v) dX3_at_16 rfl hq he (vp_in_nI (n := j) (by omega) (by omega)) (by rw [nI_cl (by omega)]; exact hv) ?_
      refine r_goto (tgt := 21) dX3_at_17 (by decide) ?_
      refine r_ireturn dX3_at_21 rfl ?_
      exact hQ
