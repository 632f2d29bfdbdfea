theorem rnd_lt {a : Int32} (h : a < -1) : a ≠ -1 ∧ hasI a 4 = false := by
  have e : (-1 : Int32).toInt = -1 := by decide
  rw [Int32.lt_iff_toInt_lt, e] at h
  refine ⟨fun q => by rw [q, e] at h; omega, decide_eq_false (by omega)⟩
theorem rnd_ge {a : Int32} (h : ¬ a < nI 4) : a ≠ -1 ∧ hasI a 4 = false := by
  have e : (-1 : Int32).toInt = -1 := by decide
  rw [Int32.lt_iff_toInt_lt, nI_toInt (by decide)] at h
  refine ⟨fun q => by rw [q, e] at h; omega, decide_eq_false (by omega)⟩
theorem rnd_in {a : Int32} (h1 : ¬ a < -1) (h2 : a < nI 4) : a = -1 ∨ hasI a 4 = true := by
  have e : (-1 : Int32).toInt = -1 := by decide
  rw [Int32.lt_iff_toInt_lt, e] at h1
  rw [Int32.lt_iff_toInt_lt, nI_toInt (by decide)] at h2
  by_cases q : a.toInt = -1
  · left; exact Int32.toInt_inj.mp (by rw [q, e])
  · right; exact decide_eq_true (by omega)
theorem drop_c {l : List Nat} {i d : Nat} (h : l[i]? = some d) : l.drop i = d :: l.drop (i + 1) := by
  obtain ⟨h1, h2⟩ := List.getElem?_eq_some_iff.mp h
  rw [List.drop_eq_getElem_cons h1, h2]
theorem roundR_m (T : px_T) (M : px_N) : roundR T M (-1) = nI (roundB T M).length := by rw [roundR, if_pos rfl]
theorem roundR_o {T : px_T} {M : px_N} {a : Int32} (h : a ≠ -1 ∧ hasI a 4 = false) : roundR T M a = -1 := by rw [roundR, if_neg h.1, h.2]; rfl
theorem roundR_n {T : px_T} {M : px_N} {j : Nat} (h : j < 4) (hj : ¬ j < (roundB T M).length) : roundR T M (nI j) = -9 := by
  rw [roundR, if_neg (nI_neg (by omega) (by decide)), if_pos (hasI_lt (by omega) h), nI_cl (by omega)]
  split
  · rw [if_neg hj]
  · rfl
theorem roundR_y {T : px_T} {M : px_N} {j d : Nat} (h : j < 4) (hj : j < (roundB T M).length) (hd : (roundB T M)[(roundB T M).length - 1 - j]? = some d) : roundR T M (nI j) = nI d := by
  rw [roundR, if_neg (nI_neg (by omega) (by decide)), if_pos (hasI_lt (by omega) h), nI_cl (by omega), hd]
  exact if_pos hj
theorem rnd_d {T : px_T} {M : px_N} {j : Nat} (hj : j < (roundB T M).length) : ∃ d, (roundB T M)[(roundB T M).length - 1 - j]? = some d := by
  have : (roundB T M).length - 1 - j < (roundB T M).length := by omega
  exact ⟨_, List.getElem?_eq_getElem this⟩
set_option maxHeartbeats 200000 in
theorem ct_X6_round {g : px_G} {w : px_W} {Q : px_Q} {ik : Int32} {tr : Int64} {T : px_T} {M : px_N} (hX : w[0]? = some (.inr (5, [.ref 1, .ref 9, .ref 15, .ref 18, .ref 51, .ref 59, .int ik, .long tr]))) (hT : SubA w 9 T) (hO : TOK T) (hM : MorA w 15 M) {a : Int32} {f : Nat → Int32} (hY : w[59]? = some (.inl (0, 4, .inl f))) (hQ : ∀ w', (∃ f' : Nat → Int32, w'[59]? = some (.inl (0, 4, .inl f'))) → Frm w w' 59 60 → Q (some (.int (roundR T M a))) w') : Ct g yX6_round cX6_round 4 (some .int) 31 0 0 [.ref 0, .int a] w Q := by
  refine Ct.of kX6_round (by omega) (lo := [some (.ref 0), some (.int a), none, none]) rfl (px_cat1 rfl) (Nat.le_of_ble_eq_true rfl) ?_
  obtain ⟨⟨sb1, sb2, sb3⟩, sb4, sb5⟩ := hT.b
  obtain ⟨mB1, mB2, mB3⟩ := hM.b
  refine r_iload_n (pc' := 1) dX6_round_0 rfl rfl ?_
  refine r_iconst (pc' := 2) (v := (-1)) dX6_round_1 rfl rfl ?_
  refine r_icmp_lt (pc' := 5) (P := a < -1) (tgt := 10) dX6_round_2 (by decide) rfl (Iff.rfl) (fun h2 => ?_) (fun h2 => ?_)
  · skip
    refine r_iconst (pc' := 11) (v := (-1)) dX6_round_10 rfl rfl ?_
    refine r_ireturn dX6_round_11 rfl ?_
    refine px_eq (hQ w ⟨_, hY⟩ Frm.rf) ?_
    first | exact (roundR_o (rnd_lt h2)).symm | exact (roundR_o (rnd_ge h7)).symm
  · skip
    refine r_iload_n (pc' := 6) dX6_round_5 rfl rfl ?_
    refine r_iconst (pc' := 7) (v := nI 4) dX6_round_6 rfl rfl ?_
    refine r_icmp_lt (pc' := 10) (P := a < (nI 4)) (tgt := 12) dX6_round_7 (by decide) rfl (Iff.rfl) (fun h7 => ?_) (fun h7 => ?_)
    · skip
      rcases rnd_in h2 h7 with rfl | ha
      · skip
        refine r_iconst (pc' := 13) (v := nI 0) dX6_round_12 rfl rfl ?_
        refine r_istore_n (pc' := 14) (lo' := [some (.ref 0), some (.int ((-1))), some (.int (nI 0)), none]) dX6_round_13 rfl (by decide) rfl ?_
        have L14 : ∀ (fu : Nat) (c : Nat) (w1 : px_W) (f1 : Nat → Int32), 4 - c < fu → c ≤ 4 → Frm w w1 59 60 → w1[59]? = some (.inl (0, 4, .inl f1)) → (∀ i, i < c → f1 i = ltI (lat T M i)) → Wp g yX6_round cX6_round 4 (some .int) 31 0 0 (px_MQ g Q 0 0) 0 0 14 [some (.ref 0), some (.int ((-1))), some (.int (nI c)), none] [] w1 := by
          intro fu; induction fu with
          | zero => intro c w1 f1 hm; exact absurd hm (Nat.not_lt_zero _)
          | succ fu ih =>
            intro c w1 f1 hm hc hF hy hf1
            have ih14 := ih; clear ih
            refine r_iload_n (pc' := 15) dX6_round_14 rfl rfl ?_
            refine r_iconst (pc' := 16) (v := nI 4) dX6_round_15 rfl rfl ?_
            refine r_icmp_ge (pc' := 19) (P := 4 ≤ c) (tgt := 38) dX6_round_16 (by decide) rfl (nI_leI (a := 4) (b := c) (by omega) (by omega)) (fun h16 => ?_) (fun h16 => ?_)
            · obtain rfl : c = 4 := by omega
              refine r_aload_n (pc' := 39) dX6_round_38 rfl rfl ?_
              refine r_get (pc' := 42) fX6_46 dX6_round_39 rfl ((hF.at hX (by omega))) rfl ?_
              refine r_iconst (pc' := 43) (v := nI 0) dX6_round_42 rfl rfl ?_
              refine r_iconst (pc' := 44) (v := nI 0) dX6_round_43 rfl rfl ?_
              refine r_aload_n (pc' := 45) dX6_round_44 rfl rfl ?_
              refine r_get (pc' := 48) fX6_26 dX6_round_45 rfl ((hF.at hX (by omega))) rfl ?_
              refine r_getN (pc' := 51) fX6_163 dX6_round_48 rfl ((hM.fr hF (by omega)).o) rfl ?_
              have hB0 := roundB_V T M
              have hB : (∀ x, x ∈ roundB T M → x < 4) ∧ (roundB T M).length ≤ 4 := ⟨hB0.1.d4 sb2, hB0.2⟩
              refine r_callS (pc' := 54) (av := [.ref 59, .int (nI 0), .int (nI 0), .int (nI (nh M))]) (rest := []) kX6_bestOrder vX6_bestOrder lX6_199 dX6_round_51 rfl rfl rfl ⟨by decide, by decide, by decide⟩ rfl rfl (Nat.le_of_ble_eq_true rfl) (ct_best hy hf1 sb2 mB3 4 (l := []) trivial rfl ?_)
              show Wp g yX6_round cX6_round 4 (some .int) 31 0 0 (px_MQ g Q 0 0) 0 0 54 [some (.ref 0), some (.int ((-1))), some (.int (nI 4)), none] [.int (nI (o8 (roundB T M)))] w1
              refine r_istore_n (pc' := 55) (lo' := [some (.ref 0), some (.int ((-1))), some (.int (nI (o8 (roundB T M)))), none]) dX6_round_54 rfl (by decide) rfl ?_
              refine r_iload_n (pc' := 56) dX6_round_55 rfl rfl ?_
              refine r_callS (pc' := 59) (av := [.int (nI (o8 (roundB T M)))]) (rest := []) kX6_readIn vX6_readIn lX6_203 dX6_round_56 rfl rfl rfl ⟨by decide, by decide, by decide⟩ rfl rfl (Nat.le_of_ble_eq_true rfl) (ct_X6_readIn hB.1 hB.2 ?_)
              show Wp g yX6_round cX6_round 4 (some .int) 31 0 0 (px_MQ g Q 0 0) 0 0 59 [some (.ref 0), some (.int ((-1))), some (.int (nI (o8 (roundB T M)))), none] [.int (nI ((roundB T M).length))] w1
              refine r_istore_n (pc' := 60) (lo' := [some (.ref 0), some (.int ((-1))), some (.int (nI (o8 (roundB T M)))), some (.int (nI ((roundB T M).length)))]) dX6_round_59 rfl (by decide) rfl ?_
              refine r_iload_n (pc' := 61) dX6_round_60 rfl rfl ?_
              refine r_if_ge (pc' := 64) (P := 0 ≤ ((-1))) (tgt := 66) dX6_round_61 (by decide) rfl (Iff.rfl) (fun h61 => ?_) (fun h61 => ?_)
              · skip
                exfalso; exact absurd h61 (by decide)
              · skip
                refine r_iload_n (pc' := 65) dX6_round_64 rfl rfl ?_
                refine r_ireturn dX6_round_65 rfl ?_
                refine px_eq (hQ w1 ⟨_, hy⟩ hF) ?_
                rw [roundR_m]
            · skip
              refine r_aload_n (pc' := 20) dX6_round_19 rfl rfl ?_
              refine r_get (pc' := 23) fX6_46 dX6_round_20 rfl ((hF.at hX (by omega))) rfl ?_
              refine r_iload_n (pc' := 24) dX6_round_23 rfl rfl ?_
              refine r_aload_n (pc' := 25) dX6_round_24 rfl rfl ?_
              refine r_iload_n (pc' := 26) dX6_round_25 rfl rfl ?_
              refine r_callV (pc' := 29) (av := [.int (nI c)]) (rest := [.int (nI c), .ref 59]) kX6_latestEndOf vX6_latestEndOf lX6_190 dX6_round_26 rfl ((hF.at hX (by omega))) rfl rfl rfl ⟨by decide, by decide, by decide⟩ rfl rfl (Nat.le_of_ble_eq_true rfl) (ct_X6_latestEndOf ((hF.at hX (by omega))) ((hT.fr hF (by omega))) hO ((hM.fr hF (by omega))) (d := c) (by omega) ?_)
              show Wp g yX6_round cX6_round 4 (some .int) 31 0 0 (px_MQ g Q 0 0) 0 0 29 [some (.ref 0), some (.int ((-1))), some (.int (nI c)), none] [.int (ltI (lat T M c)), .int (nI c), .ref 59] w1
              refine r_callS (pc' := 32) (av := [.ref 59, .int (nI c), .int (ltI (lat T M c))]) (rest := []) kX3_put vX3_put lX6_193 dX6_round_29 rfl rfl rfl ⟨by decide, by decide, by decide⟩ rfl rfl (Nat.le_of_ble_eq_true rfl) (ct_X3_put hy (by decide) (j := c) (by omega) ?_)
              show Wp g yX6_round cX6_round 4 (some .int) 31 0 0 (px_MQ g Q 0 0) 0 0 32 [some (.ref 0), some (.int ((-1))), some (.int (nI c)), none] [] (w1.set 59 (.inl (0, 4, .inl (upd f1 c (ltI (lat T M c))))))
              refine r_iinc (pc' := 35) (lo' := [some (.ref 0), some (.int ((-1))), some (.int (nI (c + 1))), none]) dX6_round_32 rfl (by decide) rfl (nI_add c 1) rfl ?_
              refine r_goto (tgt := 14) dX6_round_35 (by decide) ?_
              exact ih14 (c + 1) _ _ (by omega) (by omega) (hF.sets (by omega) (by omega)) (gs_eq hy) (fun i hi => by
                by_cases e : i = c
                · subst e; simp [upd]
                · simp only [upd, e, if_false]; exact hf1 i (by omega))
        exact L14 5 0 w f (by omega) (by omega) Frm.rf hY (fun i hi => absurd hi (Nat.not_lt_zero _))
      · obtain ⟨j, hj, rfl⟩ := hasI_t ha (by omega)
        refine r_iconst (pc' := 13) (v := nI 0) dX6_round_12 rfl rfl ?_
        refine r_istore_n (pc' := 14) (lo' := [some (.ref 0), some (.int (nI j)), some (.int (nI 0)), none]) dX6_round_13 rfl (by decide) rfl ?_
        have L14 : ∀ (fu : Nat) (c : Nat) (w1 : px_W) (f1 : Nat → Int32), 4 - c < fu → c ≤ 4 → Frm w w1 59 60 → w1[59]? = some (.inl (0, 4, .inl f1)) → (∀ i, i < c → f1 i = ltI (lat T M i)) → Wp g yX6_round cX6_round 4 (some .int) 31 0 0 (px_MQ g Q 0 0) 0 0 14 [some (.ref 0), some (.int (nI j)), some (.int (nI c)), none] [] w1 := by
          intro fu; induction fu with
          | zero => intro c w1 f1 hm; exact absurd hm (Nat.not_lt_zero _)
          | succ fu ih =>
            intro c w1 f1 hm hc hF hy hf1
            have ih14 := ih; clear ih
            refine r_iload_n (pc' := 15) dX6_round_14 rfl rfl ?_
            refine r_iconst (pc' := 16) (v := nI 4) dX6_round_15 rfl rfl ?_
            refine r_icmp_ge (pc' := 19) (P := 4 ≤ c) (tgt := 38) dX6_round_16 (by decide) rfl (nI_leI (a := 4) (b := c) (by omega) (by omega)) (fun h16 => ?_) (fun h16 => ?_)
            · obtain rfl : c = 4 := by omega
              refine r_aload_n (pc' := 39) dX6_round_38 rfl rfl ?_
              refine r_get (pc' := 42) fX6_46 dX6_round_39 rfl ((hF.at hX (by omega))) rfl ?_
              refine r_iconst (pc' := 43) (v := nI 0) dX6_round_42 rfl rfl ?_
              refine r_iconst (pc' := 44) (v := nI 0) dX6_round_43 rfl rfl ?_
              refine r_aload_n (pc' := 45) dX6_round_44 rfl rfl ?_
              refine r_get (pc' := 48) fX6_26 dX6_round_45 rfl ((hF.at hX (by omega))) rfl ?_
              refine r_getN (pc' := 51) fX6_163 dX6_round_48 rfl ((hM.fr hF (by omega)).o) rfl ?_
              have hB0 := roundB_V T M
              have hB : (∀ x, x ∈ roundB T M → x < 4) ∧ (roundB T M).length ≤ 4 := ⟨hB0.1.d4 sb2, hB0.2⟩
              refine r_callS (pc' := 54) (av := [.ref 59, .int (nI 0), .int (nI 0), .int (nI (nh M))]) (rest := []) kX6_bestOrder vX6_bestOrder lX6_199 dX6_round_51 rfl rfl rfl ⟨by decide, by decide, by decide⟩ rfl rfl (Nat.le_of_ble_eq_true rfl) (ct_best hy hf1 sb2 mB3 4 (l := []) trivial rfl ?_)
              show Wp g yX6_round cX6_round 4 (some .int) 31 0 0 (px_MQ g Q 0 0) 0 0 54 [some (.ref 0), some (.int (nI j)), some (.int (nI 4)), none] [.int (nI (o8 (roundB T M)))] w1
              refine r_istore_n (pc' := 55) (lo' := [some (.ref 0), some (.int (nI j)), some (.int (nI (o8 (roundB T M)))), none]) dX6_round_54 rfl (by decide) rfl ?_
              refine r_iload_n (pc' := 56) dX6_round_55 rfl rfl ?_
              refine r_callS (pc' := 59) (av := [.int (nI (o8 (roundB T M)))]) (rest := []) kX6_readIn vX6_readIn lX6_203 dX6_round_56 rfl rfl rfl ⟨by decide, by decide, by decide⟩ rfl rfl (Nat.le_of_ble_eq_true rfl) (ct_X6_readIn hB.1 hB.2 ?_)
              show Wp g yX6_round cX6_round 4 (some .int) 31 0 0 (px_MQ g Q 0 0) 0 0 59 [some (.ref 0), some (.int (nI j)), some (.int (nI (o8 (roundB T M)))), none] [.int (nI ((roundB T M).length))] w1
              refine r_istore_n (pc' := 60) (lo' := [some (.ref 0), some (.int (nI j)), some (.int (nI (o8 (roundB T M)))), some (.int (nI ((roundB T M).length)))]) dX6_round_59 rfl (by decide) rfl ?_
              refine r_iload_n (pc' := 61) dX6_round_60 rfl rfl ?_
              refine r_if_ge (pc' := 64) (P := True) (tgt := 66) dX6_round_61 (by decide) rfl (nI_ge0 (n := j) (by omega)) (fun h61 => ?_) (fun h61 => ?_)
              · skip
                refine r_iload_n (pc' := 67) dX6_round_66 rfl rfl ?_
                refine r_iload_n (pc' := 68) dX6_round_67 rfl rfl ?_
                refine r_icmp_ge (pc' := 71) (P := (roundB T M).length ≤ j) (tgt := 86) dX6_round_68 (by decide) rfl (nI_leI (a := (roundB T M).length) (b := j) (by omega) (by omega)) (fun h68 => ?_) (fun h68 => ?_)
                · skip
                  refine r_bipush (pc' := 88) (v := (-9)) dX6_round_86 rfl rfl ?_
                  refine r_ireturn dX6_round_88 rfl ?_
                  refine px_eq (hQ w1 ⟨_, hy⟩ hF) ?_
                  first | exact (roundR_y (by omega) (by omega) hd).symm | exact (roundR_n (by omega) (by omega)).symm
                · obtain ⟨d, hd⟩ := rnd_d (T := T) (M := M) (j := j) (by omega)
                  refine r_iload_n (pc' := 72) dX6_round_71 rfl rfl ?_
                  refine r_iconst (pc' := 73) (v := nI 3) dX6_round_72 rfl rfl ?_
                  refine r_iload_n (pc' := 74) dX6_round_73 rfl rfl ?_
                  refine r_iconst (pc' := 75) (v := nI 1) dX6_round_74 rfl rfl ?_
                  refine r_isub (pc' := 76) (v := nI ((roundB T M).length - 1)) dX6_round_75 rfl (pk_sub (a := (roundB T M).length) (b := 1) (by omega)) ?_
                  refine r_iload_n (pc' := 77) dX6_round_76 rfl rfl ?_
                  refine r_isub (pc' := 78) (v := nI ((roundB T M).length - 1 - j)) dX6_round_77 rfl (pk_sub (a := (roundB T M).length - 1) (b := j) (by omega)) ?_
                  refine r_imul (pc' := 79) (v := nI (3 * ((roundB T M).length - 1 - j))) dX6_round_78 rfl (pk_mul 3 ((roundB T M).length - 1 - j)) ?_
                  refine r_ishr (pc' := 80) (v := nI (o8 ((roundB T M).drop ((roundB T M).length - 1 - j)))) dX6_round_79 rfl (shr3 hB.1 hB.2 (by omega)) ?_
                  refine r_callS (pc' := 83) (av := [.int (nI (o8 ((roundB T M).drop ((roundB T M).length - 1 - j))))]) (rest := []) kX6_lastReadOf vX6_lastReadOf lX6_206 dX6_round_80 rfl rfl rfl ⟨by decide, by decide, by decide⟩ rfl rfl (Nat.le_of_ble_eq_true rfl) (ct_lastRead_c (fun x hx => hB.1 x (List.mem_of_mem_drop hx)) (by rw [List.length_drop]; omega) (drop_c hd) ?_)
                  show Wp g yX6_round cX6_round 4 (some .int) 31 0 0 (px_MQ g Q 0 0) 0 0 83 [some (.ref 0), some (.int (nI j)), some (.int (nI (o8 (roundB T M)))), some (.int (nI ((roundB T M).length)))] [.int (nI d)] w1
                  refine r_goto (tgt := 88) dX6_round_83 (by decide) ?_
                  refine r_ireturn dX6_round_88 rfl ?_
                  refine px_eq (hQ w1 ⟨_, hy⟩ hF) ?_
                  first | exact (roundR_y (by omega) (by omega) hd).symm | exact (roundR_n (by omega) (by omega)).symm
              · skip
                exfalso; exact h61 trivial
            · skip
              refine r_aload_n (pc' := 20) dX6_round_19 rfl rfl ?_
              refine r_get (pc' := 23) fX6_46 dX6_round_20 rfl ((hF.at hX (by omega))) rfl ?_
              refine r_iload_n (pc' := 24) dX6_round_23 rfl rfl ?_
              refine r_aload_n (pc' := 25) dX6_round_24 rfl rfl ?_
              refine r_iload_n (pc' := 26) dX6_round_25 rfl rfl ?_
              refine r_callV (pc' := 29) (av := [.int (nI c)]) (rest := [.int (nI c), .ref 59]) kX6_latestEndOf vX6_latestEndOf lX6_190 dX6_round_26 rfl ((hF.at hX (by omega))) rfl rfl rfl ⟨by decide, by decide, by decide⟩ rfl rfl (Nat.le_of_ble_eq_true rfl) (ct_X6_latestEndOf ((hF.at hX (by omega))) ((hT.fr hF (by omega))) hO ((hM.fr hF (by omega))) (d := c) (by omega) ?_)
              show Wp g yX6_round cX6_round 4 (some .int) 31 0 0 (px_MQ g Q 0 0) 0 0 29 [some (.ref 0), some (.int (nI j)), some (.int (nI c)), none] [.int (ltI (lat T M c)), .int (nI c), .ref 59] w1
              refine r_callS (pc' := 32) (av := [.ref 59, .int (nI c), .int (ltI (lat T M c))]) (rest := []) kX3_put vX3_put lX6_193 dX6_round_29 rfl rfl rfl ⟨by decide, by decide, by decide⟩ rfl rfl (Nat.le_of_ble_eq_true rfl) (ct_X3_put hy (by decide) (j := c) (by omega) ?_)
              show Wp g yX6_round cX6_round 4 (some .int) 31 0 0 (px_MQ g Q 0 0) 0 0 32 [some (.ref 0), some (.int (nI j)), some (.int (nI c)), none] [] (w1.set 59 (.inl (0, 4, .inl (upd f1 c (ltI (lat T M c))))))
              refine r_iinc (pc' := 35) (lo' := [some (.ref 0), some (.int (nI j)), some (.int (nI (c + 1))), none]) dX6_round_32 rfl (by decide) rfl (nI_add c 1) rfl ?_
              refine r_goto (tgt := 14) dX6_round_35 (by decide) ?_
              exact ih14 (c + 1) _ _ (by omega) (by omega) (hF.sets (by omega) (by omega)) (gs_eq hy) (fun i hi => by
                by_cases e : i = c
                · subst e; simp [upd]
                · simp only [upd, e, if_false]; exact hf1 i (by omega))
        exact L14 5 0 w f (by omega) (by omega) Frm.rf hY (fun i hi => absurd hi (Nat.not_lt_zero _))
      
    · skip
      refine r_iconst (pc' := 11) (v := (-1)) dX6_round_10 rfl rfl ?_
      refine r_ireturn dX6_round_11 rfl ?_
      refine px_eq (hQ w ⟨_, hY⟩ Frm.rf) ?_
      first | exact (roundR_o (rnd_lt h2)).symm | exact (roundR_o (rnd_ge h7)).symm
