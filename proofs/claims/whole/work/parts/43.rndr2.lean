theorem o5_row {l : List Nat} (h : ∀ d, d ∈ l → d < 4) (h4 : l.length ≤ 4) : o5 l * 5 ^ (4 - l.length) < 625 := by
  have hl : ∀ {l : List Nat}, (∀ d, d ∈ l → d < 4) → o5 l < 5 ^ l.length := by
    intro l
    induction l with
    | nil => intro _; decide
    | cons a l ih =>
      intro h
      have h1 := ih (fun d hd => h d (List.mem_cons_of_mem _ hd))
      have h2 := h a (List.mem_cons_self ..)
      rw [List.length_cons, Nat.pow_succ, o5]
      omega
  have h1 := hl h
  have h2 : o5 l * 5 ^ (4 - l.length) < 5 ^ l.length * 5 ^ (4 - l.length) := Nat.mul_lt_mul_of_pos_right h1 (Nat.pow_pos (by decide))
  rw [← Nat.pow_add, show l.length + (4 - l.length) = 4 by omega] at h2
  exact h2
theorem rnd_in2 {a : Int32} (h : inI a (-1) (nI 3) = true) : a = -1 ∨ hasI a 4 = true := by
  unfold inI at h
  rw [← Bool.decide_and, decide_eq_true_iff] at h
  refine rnd_in (fun q => ?_) ?_
  · exact absurd h.1 (Int32.not_le.mpr q)
  · have := h.2
    rw [Int32.le_iff_toInt_le, nI_toInt (by decide)] at this
    rw [Int32.lt_iff_toInt_lt, nI_toInt (by decide)]
    omega
theorem rnd_out2 {a : Int32} (h : inI a (-1) (nI 3) = false) : a ≠ -1 ∧ hasI a 4 = false := by
  unfold inI at h
  rw [← Bool.decide_and, decide_eq_false_iff_not] at h
  by_cases h1 : a < -1
  · exact rnd_lt h1
  · refine rnd_ge (fun q => h ⟨Int32.not_lt.mp h1, ?_⟩)
    rw [Int32.lt_iff_toInt_lt, nI_toInt (by decide)] at q
    rw [Int32.le_iff_toInt_le, nI_toInt (by decide)]
    omega
set_option maxHeartbeats 200000 in
theorem ct_X7_round {g : px_G} {w : px_W} {Q : px_Q} {tr : Int64} {ty nx tk pl va fa um : Int32} {T : px_T} {M : px_N} (hX : w[60]? = some (mobj tr ty nx tk pl va fa um)) (hT : MtA w T) (hO : TOK T) (hM : MnA w M) {a : Int32} (hQ : Q (some (.int (roundR T M a))) w) : Ct g yX7_round cX7_round 6 (some .int) 5 0 0 [.ref 60, .int a] w Q := by
  refine Ct.of kX7_round (by omega) (lo := [some (.ref 60), some (.int a), none, none, none, none]) rfl (px_cat1 rfl) (Nat.le_of_ble_eq_true rfl) ?_
  obtain ⟨fm, fz, fl, fs, fd, g0, g1, g2, g3, ⟨c1, c2, c3, c4, c5, c6, c7, c8, c9⟩, ma, mz, ml, md, mg, ⟨sb1, sb2, sb3⟩, sb4, sb5⟩ := id hT
  obtain ⟨fn, cn, hf, mB1, mB2, mB3⟩ := id hM
  refine r_aload_n (pc' := 1) dX7_round_0 rfl rfl ?_
  refine r_iconst (pc' := 2) (v := nI 0) dX7_round_1 rfl rfl ?_
  refine r_put (pc' := 5) (ty := .int) (c' := .inr (6, [.int (nI 0), .long tr, .ref 61, .int ty, .int nx, .int tk, .int pl, .int va, .int fa, .ref 62, .ref 63, .ref 64, .ref 65, .ref 66, .ref 67, .ref 68, .ref 69, .ref 70, .ref 71, .ref 72, .ref 73, .ref 74, .int um, .ref 75])) fX7_62 dX7_round_2 rfl hX (Nat.le_of_ble_eq_true rfl) rfl (by decide +kernel) rfl rfl rfl ?_
  refine px_id hX ?_
  refine r_iload_n (pc' := 6) dX7_round_5 rfl rfl ?_
  refine r_iconst (pc' := 7) (v := (-1)) dX7_round_6 rfl rfl ?_
  refine r_iconst (pc' := 8) (v := nI 3) dX7_round_7 rfl rfl ?_
  refine r_callS (pc' := 11) (av := [.int a, .int ((-1)), .int (nI 3)]) (rest := []) kX7_in vX7_in lX7_66 dX7_round_8 rfl rfl rfl ⟨by decide, by decide, by decide⟩ rfl rfl (Nat.le_of_ble_eq_true rfl) (ct_X7_in ?_)
  show Wp g yX7_round cX7_round 6 (some .int) 5 0 0 (px_MQ g Q 0 0) 0 0 11 [some (.ref 60), some (.int a), none, none, none, none] [.int (bI (inI a (-1) (nI 3)))] w
  refine r_if_ne (pc' := 14) (P := (inI a (-1) (nI 3)) = false) (tgt := 16) dX7_round_11 (by decide) rfl (bI_0) (fun h11 => ?_) (fun h11 => ?_)
  · skip
    refine r_iconst (pc' := 17) (v := nI 0) dX7_round_16 rfl rfl ?_
    refine r_istore_n (pc' := 18) (lo' := [some (.ref 60), some (.int a), some (.int (nI 0)), none, none, none]) dX7_round_17 rfl (by decide) rfl ?_
    refine r_iconst (pc' := 19) (v := nI 0) dX7_round_18 rfl rfl ?_
    refine r_istore_n (pc' := 20) (lo' := [some (.ref 60), some (.int a), some (.int (nI 0)), some (.int (nI 0)), none, none]) dX7_round_19 rfl (by decide) rfl ?_
    refine r_iconst (pc' := 21) (v := nI 0) dX7_round_20 rfl rfl ?_
    refine r_istore (pc' := 23) (lo' := [some (.ref 60), some (.int a), some (.int (nI 0)), some (.int (nI 0)), some (.int (nI 0)), none]) dX7_round_21 rfl (by decide) rfl ?_
    have L23 : ∀ (fu : Nat) (row : Nat), 625 - row < fu → row ≤ 625 → Wp g yX7_round cX7_round 6 (some .int) 5 0 0 (px_MQ g Q 0 0) 0 0 23 [some (.ref 60), some (.int a), some (.int (nI ((rdF T M 0 row (0, 0)).1))), some (.int (nI ((rdF T M 0 row (0, 0)).2))), some (.int (nI row)), none] [] w := by
      intro fu; induction fu with
      | zero => intro row hm; exact absurd hm (Nat.not_lt_zero _)
      | succ fu ih =>
        intro row hm hrow
        have hfb := rdF_b (T := T) (M := M) row
        have ih23 := ih; clear ih
        refine r_iload (pc' := 25) dX7_round_23 rfl rfl ?_
        refine r_sipush (pc' := 28) (v := nI 625) dX7_round_25 rfl rfl ?_
        refine r_icmp_ge (pc' := 31) (P := 625 ≤ row) (tgt := 71) dX7_round_28 (by decide) rfl (nI_leI (a := 625) (b := row) (by omega) (by omega)) (fun h28 => ?_) (fun h28 => ?_)
        · obtain rfl : row = 625 := by omega
          have hB0 := roundB_V T M
          have hB : (∀ x, x ∈ roundB T M → x < 4) ∧ (roundB T M).length ≤ 4 := ⟨hB0.1.d4 sb2, hB0.2⟩
          have hrw : o5 (roundB T M) * 5 ^ (4 - (roundB T M).length) < 625 := o5_row hB.1 hB.2
          rw [rd_all sb2]
          show Wp g yX7_round cX7_round 6 (some .int) 5 0 0 (px_MQ g Q 0 0) 0 0 71 [some (.ref 60), some (.int a), some (.int (nI (o5 (roundB T M) * 5 ^ (4 - (roundB T M).length)))), some (.int (nI ((roundB T M).length))), some (.int (nI 625)), none] [] w
          rcases rnd_in2 (by simpa using h11) with rfl | ha
          · skip
            refine r_iload_n (pc' := 72) dX7_round_71 rfl rfl ?_
            refine r_iconst (pc' := 73) (v := (-1)) dX7_round_72 rfl rfl ?_
            refine r_icmp_ne (pc' := 76) (P := (-1 : Int32) = -1) (tgt := 80) dX7_round_73 (by decide) rfl (Iff.rfl) (fun h73 => ?_) (fun h73 => ?_)
            · skip
              exfalso; exact h73 rfl
            · skip
              refine r_iload_n (pc' := 77) dX7_round_76 rfl rfl ?_
              refine r_goto (tgt := 95) dX7_round_77 (by decide) ?_
              refine r_ireturn dX7_round_95 rfl ?_
              refine px_eq hQ ?_
              first | exact (roundR_y (by omega) (by omega) hd).symm | exact (roundR_n (by omega) (by omega)).symm | exact (roundR_m T M).symm
          · obtain ⟨j, hj, rfl⟩ := hasI_t ha (by omega)
            refine r_iload_n (pc' := 72) dX7_round_71 rfl rfl ?_
            refine r_iconst (pc' := 73) (v := (-1)) dX7_round_72 rfl rfl ?_
            refine r_icmp_ne (pc' := 76) (P := nI j = -1) (tgt := 80) dX7_round_73 (by decide) rfl (Iff.rfl) (fun h73 => ?_) (fun h73 => ?_)
            · skip
              refine r_iload_n (pc' := 81) dX7_round_80 rfl rfl ?_
              refine r_iload_n (pc' := 82) dX7_round_81 rfl rfl ?_
              refine r_icmp_ge (pc' := 85) (P := (roundB T M).length ≤ j) (tgt := 93) dX7_round_82 (by decide) rfl (nI_leI (a := (roundB T M).length) (b := j) (by omega) (by omega)) (fun h82 => ?_) (fun h82 => ?_)
              · skip
                refine r_bipush (pc' := 95) (v := (-9)) dX7_round_93 rfl rfl ?_
                refine r_ireturn dX7_round_95 rfl ?_
                refine px_eq hQ ?_
                first | exact (roundR_y (by omega) (by omega) hd).symm | exact (roundR_n (by omega) (by omega)).symm | exact (roundR_m T M).symm
              · skip
                refine r_iload_n (pc' := 86) dX7_round_85 rfl rfl ?_
                refine r_iload_n (pc' := 87) dX7_round_86 rfl rfl ?_
                obtain ⟨d, hd⟩ := rnd_d (T := T) (M := M) (j := j) (by omega)
                refine r_callS (pc' := 90) (av := [.int (nI (o5 (roundB T M) * 5 ^ (4 - (roundB T M).length))), .int (nI j)]) (rest := []) kX7_at vX7_at lX7_175 dX7_round_87 rfl rfl rfl ⟨by decide, by decide, by decide⟩ rfl rfl (Nat.le_of_ble_eq_true rfl) (ct_at_p hrw (by omega) (dgt_B hB.1 hB.2 (by omega) hd) ?_)
                show Wp g yX7_round cX7_round 6 (some .int) 5 0 0 (px_MQ g Q 0 0) 0 0 90 [some (.ref 60), some (.int (nI j)), some (.int (nI (o5 (roundB T M) * 5 ^ (4 - (roundB T M).length)))), some (.int (nI ((roundB T M).length))), some (.int (nI 625)), none] [.int (nI d)] w
                refine r_goto (tgt := 95) dX7_round_90 (by decide) ?_
                refine r_ireturn dX7_round_95 rfl ?_
                refine px_eq hQ ?_
                first | exact (roundR_y (by omega) (by omega) hd).symm | exact (roundR_n (by omega) (by omega)).symm | exact (roundR_m T M).symm
            · skip
              exfalso; exact nI_neg (by omega) (by decide) h73
          
        · skip
          refine r_aload_n (pc' := 32) dX7_round_31 rfl rfl ?_
          refine r_iload (pc' := 34) dX7_round_32 rfl rfl ?_
          refine r_callV (pc' := 37) (av := [.int (nI row)]) (rest := []) kX7_readBy vX7_readBy lX7_181 dX7_round_34 rfl hX rfl rfl rfl ⟨by decide, by decide, by decide⟩ rfl rfl (Nat.le_of_ble_eq_true rfl) (ct_X7_readBy hX hT hO hM (row := row) (by omega) ?_)
          show Wp g yX7_round cX7_round 6 (some .int) 5 0 0 (px_MQ g Q 0 0) 0 0 37 [some (.ref 60), some (.int a), some (.int (nI ((rdF T M 0 row (0, 0)).1))), some (.int (nI ((rdF T M 0 row (0, 0)).2))), some (.int (nI row)), none] [.int (rdI (rdR T M row))] w
          cases hr : rdR T M row with
          | none =>
            show Wp g yX7_round cX7_round 6 (some .int) 5 0 0 (px_MQ g Q 0 0) 0 0 37 [some (.ref 60), some (.int a), some (.int (nI ((rdF T M 0 row (0, 0)).1))), some (.int (nI ((rdF T M 0 row (0, 0)).2))), some (.int (nI row)), none] [.int ((-9))] w
            refine r_istore (pc' := 39) (lo' := [some (.ref 60), some (.int a), some (.int (nI ((rdF T M 0 row (0, 0)).1))), some (.int (nI ((rdF T M 0 row (0, 0)).2))), some (.int (nI row)), some (.int ((-9)))]) dX7_round_37 rfl (by decide) rfl ?_
            refine r_iload (pc' := 41) dX7_round_39 rfl rfl ?_
            refine r_iload_n (pc' := 42) dX7_round_41 rfl rfl ?_
            refine r_icmp_le (pc' := 45) (P := (-9 : Int32) ≤ nI ((rdF T M 0 row (0, 0)).2)) (tgt := 50) dX7_round_42 (by decide) rfl (Iff.rfl) (fun h42 => ?_) (fun h42 => ?_)
            · skip
              refine r_iload_n (pc' := 51) dX7_round_50 rfl rfl ?_
              refine r_istore_n (pc' := 52) (lo' := [some (.ref 60), some (.int a), some (.int (nI ((rdF T M 0 row (0, 0)).1))), some (.int (nI ((rdF T M 0 row (0, 0)).2))), some (.int (nI row)), some (.int ((-9)))]) dX7_round_51 rfl (by decide) rfl ?_
              refine r_iload (pc' := 54) dX7_round_52 rfl rfl ?_
              refine r_iload_n (pc' := 55) dX7_round_54 rfl rfl ?_
              refine r_icmp_le (pc' := 58) (P := (-9 : Int32) ≤ nI ((rdF T M 0 row (0, 0)).2)) (tgt := 63) dX7_round_55 (by decide) rfl (Iff.rfl) (fun h55 => ?_) (fun h55 => ?_)
              · skip
                refine r_iload_n (pc' := 64) dX7_round_63 rfl rfl ?_
                refine r_istore_n (pc' := 65) (lo' := [some (.ref 60), some (.int a), some (.int (nI ((rdF T M 0 row (0, 0)).1))), some (.int (nI ((rdF T M 0 row (0, 0)).2))), some (.int (nI row)), some (.int ((-9)))]) dX7_round_64 rfl (by decide) rfl ?_
                refine r_iinc (pc' := 68) (lo' := [some (.ref 60), some (.int a), some (.int (nI ((rdF T M 0 row (0, 0)).1))), some (.int (nI ((rdF T M 0 row (0, 0)).2))), some (.int (nI (row + 1))), some (.int ((-9)))]) dX7_round_65 rfl (by decide) rfl (nI_add row 1) rfl ?_
                refine r_goto (tgt := 23) dX7_round_68 (by decide) ?_
                have e1 : rdF T M 0 (row + 1) (0, 0) = (rdF T M 0 row (0, 0)) := by rw [rdF_s, rdS, hr]
                have hi := ih23 (row + 1) (by omega) (by omega)
                rw [e1] at hi
                refine r_drop 5 rfl ?_
                exact hi
              · skip
                exfalso; exact h55 (m9_le (by omega))
            · skip
              exfalso; exact h42 (m9_le (by omega))
          | some n =>
            have hn4 : n ≤ 4 := by have := rdL_le hr; omega
            show Wp g yX7_round cX7_round 6 (some .int) 5 0 0 (px_MQ g Q 0 0) 0 0 37 [some (.ref 60), some (.int a), some (.int (nI ((rdF T M 0 row (0, 0)).1))), some (.int (nI ((rdF T M 0 row (0, 0)).2))), some (.int (nI row)), none] [.int (nI n)] w
            refine r_istore (pc' := 39) (lo' := [some (.ref 60), some (.int a), some (.int (nI ((rdF T M 0 row (0, 0)).1))), some (.int (nI ((rdF T M 0 row (0, 0)).2))), some (.int (nI row)), some (.int (nI n))]) dX7_round_37 rfl (by decide) rfl ?_
            refine r_iload (pc' := 41) dX7_round_39 rfl rfl ?_
            refine r_iload_n (pc' := 42) dX7_round_41 rfl rfl ?_
            refine r_icmp_le (pc' := 45) (P := n ≤ (rdF T M 0 row (0, 0)).2) (tgt := 50) dX7_round_42 (by decide) rfl (nI_leI (a := n) (b := (rdF T M 0 row (0, 0)).2) (by omega) (by omega)) (fun h42 => ?_) (fun h42 => ?_)
            · skip
              refine r_iload_n (pc' := 51) dX7_round_50 rfl rfl ?_
              refine r_istore_n (pc' := 52) (lo' := [some (.ref 60), some (.int a), some (.int (nI ((rdF T M 0 row (0, 0)).1))), some (.int (nI ((rdF T M 0 row (0, 0)).2))), some (.int (nI row)), some (.int (nI n))]) dX7_round_51 rfl (by decide) rfl ?_
              refine r_iload (pc' := 54) dX7_round_52 rfl rfl ?_
              refine r_iload_n (pc' := 55) dX7_round_54 rfl rfl ?_
              refine r_icmp_le (pc' := 58) (P := n ≤ (rdF T M 0 row (0, 0)).2) (tgt := 63) dX7_round_55 (by decide) rfl (nI_leI (a := n) (b := (rdF T M 0 row (0, 0)).2) (by omega) (by omega)) (fun h55 => ?_) (fun h55 => ?_)
              · skip
                refine r_iload_n (pc' := 64) dX7_round_63 rfl rfl ?_
                refine r_istore_n (pc' := 65) (lo' := [some (.ref 60), some (.int a), some (.int (nI ((rdF T M 0 row (0, 0)).1))), some (.int (nI ((rdF T M 0 row (0, 0)).2))), some (.int (nI row)), some (.int (nI n))]) dX7_round_64 rfl (by decide) rfl ?_
                refine r_iinc (pc' := 68) (lo' := [some (.ref 60), some (.int a), some (.int (nI ((rdF T M 0 row (0, 0)).1))), some (.int (nI ((rdF T M 0 row (0, 0)).2))), some (.int (nI (row + 1))), some (.int (nI n))]) dX7_round_65 rfl (by decide) rfl (nI_add row 1) rfl ?_
                refine r_goto (tgt := 23) dX7_round_68 (by decide) ?_
                have e1 : rdF T M 0 (row + 1) (0, 0) = (rdF T M 0 row (0, 0)) := by rw [rdF_s, rdS, hr]; exact if_neg (by omega)
                have hi := ih23 (row + 1) (by omega) (by omega)
                rw [e1] at hi
                refine r_drop 5 rfl ?_
                exact hi
              · skip
                exfalso; omega
            · skip
              refine r_iload (pc' := 47) dX7_round_45 rfl rfl ?_
              refine r_goto (tgt := 51) dX7_round_47 (by decide) ?_
              refine r_istore_n (pc' := 52) (lo' := [some (.ref 60), some (.int a), some (.int (nI row)), some (.int (nI ((rdF T M 0 row (0, 0)).2))), some (.int (nI row)), some (.int (nI n))]) dX7_round_51 rfl (by decide) rfl ?_
              refine r_iload (pc' := 54) dX7_round_52 rfl rfl ?_
              refine r_iload_n (pc' := 55) dX7_round_54 rfl rfl ?_
              refine r_icmp_le (pc' := 58) (P := n ≤ (rdF T M 0 row (0, 0)).2) (tgt := 63) dX7_round_55 (by decide) rfl (nI_leI (a := n) (b := (rdF T M 0 row (0, 0)).2) (by omega) (by omega)) (fun h55 => ?_) (fun h55 => ?_)
              · skip
                exfalso; omega
              · skip
                refine r_iload (pc' := 60) dX7_round_58 rfl rfl ?_
                refine r_goto (tgt := 64) dX7_round_60 (by decide) ?_
                refine r_istore_n (pc' := 65) (lo' := [some (.ref 60), some (.int a), some (.int (nI row)), some (.int (nI n)), some (.int (nI row)), some (.int (nI n))]) dX7_round_64 rfl (by decide) rfl ?_
                refine r_iinc (pc' := 68) (lo' := [some (.ref 60), some (.int a), some (.int (nI row)), some (.int (nI n)), some (.int (nI (row + 1))), some (.int (nI n))]) dX7_round_65 rfl (by decide) rfl (nI_add row 1) rfl ?_
                refine r_goto (tgt := 23) dX7_round_68 (by decide) ?_
                have e1 : rdF T M 0 (row + 1) (0, 0) = (row, n) := by rw [rdF_s, rdS, hr]; exact if_pos (by omega)
                have hi := ih23 (row + 1) (by omega) (by omega)
                rw [e1] at hi
                refine r_drop 5 rfl ?_
                exact hi
          
    exact L23 ((625) + 1) 0 (Nat.lt_succ_self _) (by omega)
  · skip
    refine r_iconst (pc' := 15) (v := (-1)) dX7_round_14 rfl rfl ?_
    refine r_ireturn dX7_round_15 rfl ?_
    refine px_eq hQ ?_
    exact (roundR_o (rnd_out2 (by simpa using h11))).symm
