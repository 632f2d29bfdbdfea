theorem rnd_lt {a : Int32} (h : a < -1) : a ≠ -1 ∧ hasI a 4 = false := by
  have e : (-1 : Int32).toInt = -1 := by decide
  rw [Int32.lt_iff_toInt_lt, e] at h
  refine ⟨fun q => by rw [q, e] at h; omega, decide_eq_false (by omega)⟩
theorem rnd_ge {a : Int32} (h : ¬ a < nI 4) : a ≠ -1 ∧ hasI a 4 = false := by
  have e : (-1 : Int32).toInt = -1 := by decide
  rw [Int32.lt_iff_toInt_lt, nI_toInt (by decide)] at h
  refine ⟨fun q => by rw [q, e] at h; omega, decide_eq_false (by omega)⟩
theorem rnd_in {a : Int32} (h1 : ¬ a < -1) (h2 : a < nI 4) : a = -1 ∨ hasI a 4 = true := by
  have e : (-1 : Int32).toInt = -1 := by decide
  rw [Int32.lt_iff_toInt_lt, e] at h1
  rw [Int32.lt_iff_toInt_lt, nI_toInt (by decide)] at h2
  by_cases q : a.toInt = -1
  · left; exact Int32.toInt_inj.mp (by rw [q, e])
  · right; exact decide_eq_true (by omega)
theorem drop_c {l : List Nat} {i d : Nat} (h : l[i]? = some d) : l.drop i = d :: l.drop (i + 1) := by
  obtain ⟨h1, h2⟩ := List.getElem?_eq_some_iff.mp h
  rw [List.drop_eq_getElem_cons h1, h2]
theorem roundR_m (T : px_T) (M : px_N) : roundR T M (-1) = nI (roundB T M).length := by rw [roundR, if_pos rfl]
theorem roundR_o {T : px_T} {M : px_N} {a : Int32} (h : a ≠ -1 ∧ hasI a 4 = false) : roundR T M a = -1 := by rw [roundR, if_neg h.1, h.2]; rfl
theorem roundR_n {T : px_T} {M : px_N} {j : Nat} (h : j < 4) (hj : ¬ j < (roundB T M).length) : roundR T M (nI j) = -9 := by
  rw [roundR, if_neg (nI_neg (by omega) (by decide)), if_pos (hasI_lt (by omega) h), nI_cl (by omega)]
  split
  · rw [if_neg hj]
  · rfl
theorem roundR_y {T : px_T} {M : px_N} {j d : Nat} (h : j < 4) (hj : j < (roundB T M).length) (hd : (roundB T M)[(roundB T M).length - 1 - j]? = some d) : roundR T M (nI j) = nI d := by
  rw [roundR, if_neg (nI_neg (by omega) (by decide)), if_pos (hasI_lt (by omega) h), nI_cl (by omega), hd]
  exact if_pos hj
theorem rnd_d {T : px_T} {M : px_N} {j : Nat} (hj : j < (roundB T M).length) : ∃ d, (roundB T M)[(roundB T M).length - 1 - j]? = some d := by
  have : (roundB T M).length - 1 - j < (roundB T M).length := by omega
  exact ⟨_, List.getElem?_eq_getElem this⟩
set_option maxHeartbeats 200000 in
theorem ct_X6_round {g : px_G} {w : px_W} {Q : px_Q} {ik : Int32} {tr : Int64} {T : px_T} {M : px_N} (hX : w[0]? = some (.inr (5, [.ref 1, .ref 9, .ref 15, .ref 18, .ref 51, .int ik, .long tr]))) (hT : SubA w 9 T) (hO : TOK T) (hM : MorA w 15 M) {a : Int32} (hQ : Q (some (.int (roundR T M a))) w) : Ct g yX6_round cX6_round 4 (some .int) 31 0 0 [.ref 0, .int a] w Q := by
  refine Ct.of kX6_round (by omega) (lo := [some (.ref 0), some (.int a), none, none]) rfl (px_cat1 rfl) (Nat.le_of_ble_eq_true rfl) ?_
  obtain ⟨⟨sb1, sb2, sb3⟩, sb4, sb5⟩ := hT.b
  obtain ⟨mB1, mB2, mB3⟩ := hM.b
  refine r_iload_n (pc' := 1) dX6_round_0 rfl rfl ?_
  refine r_iconst (pc' := 2) (v := (-1)) dX6_round_1 rfl rfl ?_
  refine r_icmp_lt (pc' := 5) (P := a < -1) (tgt := 10) dX6_round_2 (by decide) rfl (Iff.rfl) (fun h2 => ?_) (fun h2 => ?_)
  · skip
    refine r_iconst (pc' := 11) (v := (-1)) dX6_round_10 rfl rfl ?_
    refine r_ireturn dX6_round_11 rfl ?_
    refine px_eq hQ ?_
    first | exact (roundR_o (rnd_lt h2)).symm | exact (roundR_o (rnd_ge h7)).symm
  · skip
    refine r_iload_n (pc' := 6) dX6_round_5 rfl rfl ?_
    refine r_iconst (pc' := 7) (v := nI 4) dX6_round_6 rfl rfl ?_
    refine r_icmp_lt (pc' := 10) (P := a < (nI 4)) (tgt := 12) dX6_round_7 (by decide) rfl (Iff.rfl) (fun h7 => ?_) (fun h7 => ?_)
    · skip
      rcases rnd_in h2 h7 with rfl | ha
      · skip
        refine r_aload_n (pc' := 13) dX6_round_12 rfl rfl ?_
        refine r_iconst (pc' := 14) (v := nI 0) dX6_round_13 rfl rfl ?_
        refine r_iconst (pc' := 15) (v := nI 0) dX6_round_14 rfl rfl ?_
        refine r_aload_n (pc' := 16) dX6_round_15 rfl rfl ?_
        refine r_get (pc' := 19) fX6_26 dX6_round_16 rfl hX rfl ?_
        refine r_getN (pc' := 22) fX6_159 dX6_round_19 rfl hM.o rfl ?_
        have hB0 := roundB_V T M
        have hB : (∀ x, x ∈ roundB T M → x < 4) ∧ (roundB T M).length ≤ 4 := ⟨hB0.1.d4 sb2, hB0.2⟩
        refine r_callV (pc' := 25) (av := [.int (nI 0), .int (nI 0), .int (nI (nh M))]) (rest := []) kX6_bestOrder vX6_bestOrder lX6_186 dX6_round_22 rfl hX rfl rfl rfl ⟨by decide, by decide, by decide⟩ rfl rfl (Nat.le_of_ble_eq_true rfl) (ct_best hX hT hO hM 4 (l := []) trivial rfl ?_)
        show Wp g yX6_round cX6_round 4 (some .int) 31 0 0 (px_MQ g Q 0 0) 0 0 25 [some (.ref 0), some (.int ((-1))), none, none] [.int (nI (o8 (roundB T M)))] w
        refine r_istore_n (pc' := 26) (lo' := [some (.ref 0), some (.int ((-1))), some (.int (nI (o8 (roundB T M)))), none]) dX6_round_25 rfl (by decide) rfl ?_
        refine r_iload_n (pc' := 27) dX6_round_26 rfl rfl ?_
        refine r_callS (pc' := 30) (av := [.int (nI (o8 (roundB T M)))]) (rest := []) kX6_readIn vX6_readIn lX6_189 dX6_round_27 rfl rfl rfl ⟨by decide, by decide, by decide⟩ rfl rfl (Nat.le_of_ble_eq_true rfl) (ct_X6_readIn hB.1 hB.2 ?_)
        show Wp g yX6_round cX6_round 4 (some .int) 31 0 0 (px_MQ g Q 0 0) 0 0 30 [some (.ref 0), some (.int ((-1))), some (.int (nI (o8 (roundB T M)))), none] [.int (nI ((roundB T M).length))] w
        refine r_istore_n (pc' := 31) (lo' := [some (.ref 0), some (.int ((-1))), some (.int (nI (o8 (roundB T M)))), some (.int (nI ((roundB T M).length)))]) dX6_round_30 rfl (by decide) rfl ?_
        refine r_iload_n (pc' := 32) dX6_round_31 rfl rfl ?_
        refine r_if_ge (pc' := 35) (P := 0 ≤ ((-1))) (tgt := 37) dX6_round_32 (by decide) rfl (Iff.rfl) (fun h32 => ?_) (fun h32 => ?_)
        · skip
          exfalso; exact absurd h32 (by decide)
        · skip
          refine r_iload_n (pc' := 36) dX6_round_35 rfl rfl ?_
          refine r_ireturn dX6_round_36 rfl ?_
          refine px_eq hQ ?_
          rw [roundR_m]
      · obtain ⟨j, hj, rfl⟩ := hasI_t ha (by omega)
        refine r_aload_n (pc' := 13) dX6_round_12 rfl rfl ?_
        refine r_iconst (pc' := 14) (v := nI 0) dX6_round_13 rfl rfl ?_
        refine r_iconst (pc' := 15) (v := nI 0) dX6_round_14 rfl rfl ?_
        refine r_aload_n (pc' := 16) dX6_round_15 rfl rfl ?_
        refine r_get (pc' := 19) fX6_26 dX6_round_16 rfl hX rfl ?_
        refine r_getN (pc' := 22) fX6_159 dX6_round_19 rfl hM.o rfl ?_
        have hB0 := roundB_V T M
        have hB : (∀ x, x ∈ roundB T M → x < 4) ∧ (roundB T M).length ≤ 4 := ⟨hB0.1.d4 sb2, hB0.2⟩
        refine r_callV (pc' := 25) (av := [.int (nI 0), .int (nI 0), .int (nI (nh M))]) (rest := []) kX6_bestOrder vX6_bestOrder lX6_186 dX6_round_22 rfl hX rfl rfl rfl ⟨by decide, by decide, by decide⟩ rfl rfl (Nat.le_of_ble_eq_true rfl) (ct_best hX hT hO hM 4 (l := []) trivial rfl ?_)
        show Wp g yX6_round cX6_round 4 (some .int) 31 0 0 (px_MQ g Q 0 0) 0 0 25 [some (.ref 0), some (.int (nI j)), none, none] [.int (nI (o8 (roundB T M)))] w
        refine r_istore_n (pc' := 26) (lo' := [some (.ref 0), some (.int (nI j)), some (.int (nI (o8 (roundB T M)))), none]) dX6_round_25 rfl (by decide) rfl ?_
        refine r_iload_n (pc' := 27) dX6_round_26 rfl rfl ?_
        refine r_callS (pc' := 30) (av := [.int (nI (o8 (roundB T M)))]) (rest := []) kX6_readIn vX6_readIn lX6_189 dX6_round_27 rfl rfl rfl ⟨by decide, by decide, by decide⟩ rfl rfl (Nat.le_of_ble_eq_true rfl) (ct_X6_readIn hB.1 hB.2 ?_)
        show Wp g yX6_round cX6_round 4 (some .int) 31 0 0 (px_MQ g Q 0 0) 0 0 30 [some (.ref 0), some (.int (nI j)), some (.int (nI (o8 (roundB T M)))), none] [.int (nI ((roundB T M).length))] w
        refine r_istore_n (pc' := 31) (lo' := [some (.ref 0), some (.int (nI j)), some (.int (nI (o8 (roundB T M)))), some (.int (nI ((roundB T M).length)))]) dX6_round_30 rfl (by decide) rfl ?_
        refine r_iload_n (pc' := 32) dX6_round_31 rfl rfl ?_
        refine r_if_ge (pc' := 35) (P := True) (tgt := 37) dX6_round_32 (by decide) rfl (nI_ge0 (n := j) (by omega)) (fun h32 => ?_) (fun h32 => ?_)
        · skip
          refine r_iload_n (pc' := 38) dX6_round_37 rfl rfl ?_
          refine r_iload_n (pc' := 39) dX6_round_38 rfl rfl ?_
          refine r_icmp_ge (pc' := 42) (P := (roundB T M).length ≤ j) (tgt := 57) dX6_round_39 (by decide) rfl (nI_leI (a := (roundB T M).length) (b := j) (by omega) (by omega)) (fun h39 => ?_) (fun h39 => ?_)
          · skip
            refine r_bipush (pc' := 59) (v := (-9)) dX6_round_57 rfl rfl ?_
            refine r_ireturn dX6_round_59 rfl ?_
            refine px_eq hQ ?_
            first | exact (roundR_y (by omega) (by omega) hd).symm | exact (roundR_n (by omega) (by omega)).symm
          · obtain ⟨d, hd⟩ := rnd_d (T := T) (M := M) (j := j) (by omega)
            refine r_iload_n (pc' := 43) dX6_round_42 rfl rfl ?_
            refine r_iconst (pc' := 44) (v := nI 3) dX6_round_43 rfl rfl ?_
            refine r_iload_n (pc' := 45) dX6_round_44 rfl rfl ?_
            refine r_iconst (pc' := 46) (v := nI 1) dX6_round_45 rfl rfl ?_
            refine r_isub (pc' := 47) (v := nI ((roundB T M).length - 1)) dX6_round_46 rfl (pk_sub (a := (roundB T M).length) (b := 1) (by omega)) ?_
            refine r_iload_n (pc' := 48) dX6_round_47 rfl rfl ?_
            refine r_isub (pc' := 49) (v := nI ((roundB T M).length - 1 - j)) dX6_round_48 rfl (pk_sub (a := (roundB T M).length - 1) (b := j) (by omega)) ?_
            refine r_imul (pc' := 50) (v := nI (3 * ((roundB T M).length - 1 - j))) dX6_round_49 rfl (pk_mul 3 ((roundB T M).length - 1 - j)) ?_
            refine r_ishr (pc' := 51) (v := nI (o8 ((roundB T M).drop ((roundB T M).length - 1 - j)))) dX6_round_50 rfl (shr3 hB.1 hB.2 (by omega)) ?_
            refine r_callS (pc' := 54) (av := [.int (nI (o8 ((roundB T M).drop ((roundB T M).length - 1 - j))))]) (rest := []) kX6_lastReadOf vX6_lastReadOf lX6_192 dX6_round_51 rfl rfl rfl ⟨by decide, by decide, by decide⟩ rfl rfl (Nat.le_of_ble_eq_true rfl) (ct_lastRead_c (fun x hx => hB.1 x (List.mem_of_mem_drop hx)) (by rw [List.length_drop]; omega) (drop_c hd) ?_)
            show Wp g yX6_round cX6_round 4 (some .int) 31 0 0 (px_MQ g Q 0 0) 0 0 54 [some (.ref 0), some (.int (nI j)), some (.int (nI (o8 (roundB T M)))), some (.int (nI ((roundB T M).length)))] [.int (nI d)] w
            refine r_goto (tgt := 59) dX6_round_54 (by decide) ?_
            refine r_ireturn dX6_round_59 rfl ?_
            refine px_eq hQ ?_
            first | exact (roundR_y (by omega) (by omega) hd).symm | exact (roundR_n (by omega) (by omega)).symm
        · skip
          exfalso; exact h32 trivial
      
    · skip
      refine r_iconst (pc' := 11) (v := (-1)) dX6_round_10 rfl rfl ?_
      refine r_ireturn dX6_round_11 rfl ?_
      refine px_eq hQ ?_
      first | exact (roundR_o (rnd_lt h2)).symm | exact (roundR_o (rnd_ge h7)).symm
