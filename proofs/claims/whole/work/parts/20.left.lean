def strI (a : Int32) : Bool := decide (1 ≤ a.toInt ∧ a.toInt ≤ 4)
theorem strI_lt {a : Int32} (h : a < nI 1) : strI a = false := by
  apply decide_eq_false
  rw [Int32.lt_iff_toInt_lt, nI_toInt (by decide)] at h
  omega
theorem strI_gt {a : Int32} (h : nI 4 < a) : strI a = false := by
  apply decide_eq_false
  rw [Int32.lt_iff_toInt_lt, nI_toInt (by decide)] at h
  omega
theorem strI_in {a : Int32} (h1 : ¬ a < nI 1) (h : ¬ nI 4 < a) : strI a = true := by
  apply decide_eq_true
  rw [Int32.lt_iff_toInt_lt, nI_toInt (by decide)] at h h1
  omega
theorem strI_t {a : Int32} (h : strI a = true) : ∃ j, 1 ≤ j ∧ j ≤ 4 ∧ a = nI j := by
  have h1 := of_decide_eq_true h
  obtain ⟨j, hj, rfl⟩ := vp_in_of (x := a) (n := 5) (vp_in_iff.mpr ⟨by omega, by omega⟩) (by decide)
  rw [nI_toInt (by omega)] at h1
  exact ⟨j, by omega, by omega, rfl⟩
theorem trkG_lt {T : px_T} (hO : TOK T) {j : Nat} (hj : j < tG T) : trkG T j < 256 := trk_lt (hO.2.2.1 _ (hO.2.2.2 j hj).2.2.1).2
set_option maxHeartbeats 200000 in
theorem ct_X6_isStride {g : px_G} {w : px_W} {Q : px_Q} {a : Int32} (hQ : Q (some (.int (bI (strI a)))) w) : Ct g yX6_isStride cX6_isStride 1 (some .boolean) 1 0 0 [.int a] w Q := by
  refine Ct.of kX6_isStride (by omega) (lo := [some (.int a)]) rfl (px_cat1 rfl) (Nat.le_of_ble_eq_true rfl) ?_
  refine r_iload_n (pc' := 1) dX6_isStride_0 rfl rfl ?_
  refine r_iconst (pc' := 2) (v := nI 1) dX6_isStride_1 rfl rfl ?_
  refine r_icmp_lt (pc' := 5) (P := a < (nI 1)) (tgt := 14) dX6_isStride_2 (by decide) rfl (Iff.rfl) (fun h2 => ?_) (fun h2 => ?_)
  · skip
    refine r_iconst (pc' := 15) (v := bI false) dX6_isStride_14 rfl rfl ?_
    refine r_zreturn dX6_isStride_15 rfl (bI_nar _) ?_
    refine px_eqB hQ ?_
    first | exact (strI_lt h2).symm | exact (strI_gt h7).symm | exact (strI_in h2 h7).symm
  · skip
    refine r_iload_n (pc' := 6) dX6_isStride_5 rfl rfl ?_
    refine r_iconst (pc' := 7) (v := nI 4) dX6_isStride_6 rfl rfl ?_
    refine r_icmp_gt (pc' := 10) (P := (nI 4) < a) (tgt := 14) dX6_isStride_7 (by decide) rfl (Iff.rfl) (fun h7 => ?_) (fun h7 => ?_)
    · skip
      refine r_iconst (pc' := 15) (v := bI false) dX6_isStride_14 rfl rfl ?_
      refine r_zreturn dX6_isStride_15 rfl (bI_nar _) ?_
      refine px_eqB hQ ?_
      first | exact (strI_lt h2).symm | exact (strI_gt h7).symm | exact (strI_in h2 h7).symm
    · skip
      refine r_iconst (pc' := 11) (v := bI true) dX6_isStride_10 rfl rfl ?_
      refine r_goto (tgt := 15) dX6_isStride_11 (by decide) ?_
      refine r_zreturn dX6_isStride_15 rfl (bI_nar _) ?_
      refine px_eqB hQ ?_
      first | exact (strI_lt h2).symm | exact (strI_gt h7).symm | exact (strI_in h2 h7).symm
set_option maxHeartbeats 200000 in
theorem ct_X6_trackOn {g : px_G} {w : px_W} {Q : px_Q} {ik : Int32} {tr : Int64} {T : px_T} {M : px_N} (hX : w[0]? = some (.inr (5, [.ref 1, .ref 9, .ref 15, .ref 18, .ref 51, .ref 59, .int ik, .long tr]))) (hT : SubA w 9 T) (hO : TOK T) (hM : MorA w 15 M) {d f s : Nat} (hd : d < tD T) (hf : f ≤ 7) (hs : 1 ≤ s ∧ s ≤ 4) (hQ : Q (some (.int (nI (trk f s (td T d))))) w) : Ct g yX6_trackOn cX6_trackOn 7 (some .int) 3 0 0 [.ref 0, .int (nI d), .int (nI f), .int (nI s)] w Q := by
  refine Ct.of kX6_trackOn (by omega) (lo := [some (.ref 0), some (.int (nI d)), some (.int (nI f)), some (.int (nI s)), none, none, none]) rfl (px_cat1 rfl) (Nat.le_of_ble_eq_true rfl) ?_
  obtain ⟨⟨sb1, sb2, sb3⟩, sb4, sb5⟩ := hT.b
  obtain ⟨mB1, mB2, mB3⟩ := hM.b
  refine r_iconst (pc' := 1) (v := nI 0) dX6_trackOn_0 rfl rfl ?_
  refine r_istore (pc' := 3) (lo' := [some (.ref 0), some (.int (nI d)), some (.int (nI f)), some (.int (nI s)), some (.int (nI 0)), none, none]) dX6_trackOn_1 rfl (by decide) rfl ?_
  refine r_aload_n (pc' := 4) dX6_trackOn_3 rfl rfl ?_
  refine r_get (pc' := 7) fX6_19 dX6_trackOn_4 rfl hX rfl ?_
  refine r_iload_n (pc' := 8) dX6_trackOn_7 rfl rfl ?_
  refine r_callV (pc' := 11) (av := [.int (nI d)]) (rest := []) kX5_longOfDrive vX5_longOfDrive lX6_101 dX6_trackOn_8 rfl hT.o rfl rfl rfl ⟨by decide, by decide, by decide⟩ rfl rfl (Nat.le_of_ble_eq_true rfl) (ct_X5_longOfDrive hT (i := d) (by omega) ?_)
  show Wp g yX6_trackOn cX6_trackOn 7 (some .int) 3 0 0 (px_MQ g Q 0 0) 0 0 11 [some (.ref 0), some (.int (nI d)), some (.int (nI f)), some (.int (nI s)), some (.int (nI 0)), none, none] [.int (nI (td T d))] w
  have e8 := (hO.2.2.1 d (by omega))
  refine r_istore (pc' := 13) (lo' := [some (.ref 0), some (.int (nI d)), some (.int (nI f)), some (.int (nI s)), some (.int (nI 0)), some (.int (nI (td T d))), none]) dX6_trackOn_11 rfl (by decide) rfl ?_
  refine r_iload_n (pc' := 14) dX6_trackOn_13 rfl rfl ?_
  refine r_if_lt (pc' := 17) (P := False) (tgt := 50) dX6_trackOn_14 (by decide) rfl (nI_lt0 (n := f) (by omega)) (fun h14 => ?_) (fun h14 => ?_)
  · skip
    exfalso; exact h14
  · skip
    refine r_iload_n (pc' := 18) dX6_trackOn_17 rfl rfl ?_
    refine r_iconst (pc' := 19) (v := nI 1) dX6_trackOn_18 rfl rfl ?_
    refine r_icmp_lt (pc' := 22) (P := s < 1) (tgt := 50) dX6_trackOn_19 (by decide) rfl (nI_ltI (a := s) (b := 1) (by omega) (by omega)) (fun h19 => ?_) (fun h19 => ?_)
    · skip
      exfalso; omega
    · skip
      refine r_iload_n (pc' := 23) dX6_trackOn_22 rfl rfl ?_
      refine r_istore (pc' := 25) (lo' := [some (.ref 0), some (.int (nI d)), some (.int (nI f)), some (.int (nI s)), some (.int (nI 0)), some (.int (nI (td T d))), some (.int (nI f))]) dX6_trackOn_23 rfl (by decide) rfl ?_
      have L25 : ∀ (fu : Nat) (k x acc : Nat), k < fu → trkL s (td T d) k x acc = trk f s (td T d) → td T d ≤ x + k → x ≤ 12 → Wp g yX6_trackOn cX6_trackOn 7 (some .int) 3 0 0 (px_MQ g Q 0 0) 0 0 25 [some (.ref 0), some (.int (nI d)), some (.int (nI f)), some (.int (nI s)), some (.int (nI acc)), some (.int (nI (td T d))), some (.int (nI x))] [] w := by
        intro fu; induction fu with
        | zero => intro k x acc hm; exact absurd hm (Nat.not_lt_zero _)
        | succ fu ih =>
          intro k x acc hm hI hk hx
          have ih25 := ih; clear ih
          refine r_iload (pc' := 27) dX6_trackOn_25 rfl rfl ?_
          refine r_iload (pc' := 29) dX6_trackOn_27 rfl rfl ?_
          refine r_icmp_ge (pc' := 32) (P := td T d ≤ x) (tgt := 50) dX6_trackOn_29 (by decide) rfl (nI_leI (a := td T d) (b := x) (by omega) (by omega)) (fun h29 => ?_) (fun h29 => ?_)
          · rw [trkL_out (by omega)] at hI
            refine r_iload (pc' := 52) dX6_trackOn_50 rfl rfl ?_
            refine r_ireturn dX6_trackOn_52 rfl ?_
            exact px_eqN hQ hI
          · obtain ⟨k', rfl⟩ : ∃ k', k = k' + 1 := ⟨k - 1, by omega⟩
            rw [trkL_s (by omega)] at hI
            refine r_iload (pc' := 34) dX6_trackOn_32 rfl rfl ?_
            refine r_iconst (pc' := 35) (v := nI 1) dX6_trackOn_34 rfl rfl ?_
            refine r_iload (pc' := 37) dX6_trackOn_35 rfl rfl ?_
            refine r_ishl (pc' := 38) (v := nI (2 ^ x)) dX6_trackOn_37 rfl (shl1_n (b := x) (by omega)) ?_
            refine r_ior (pc' := 39) (v := nI (acc ||| (2 ^ x))) dX6_trackOn_38 rfl (or_n acc (2 ^ x)) ?_
            refine r_istore (pc' := 41) (lo' := [some (.ref 0), some (.int (nI d)), some (.int (nI f)), some (.int (nI s)), some (.int (nI (acc ||| (2 ^ x)))), some (.int (nI (td T d))), some (.int (nI x))]) dX6_trackOn_39 rfl (by decide) rfl ?_
            refine r_iload (pc' := 43) dX6_trackOn_41 rfl rfl ?_
            refine r_iload_n (pc' := 44) dX6_trackOn_43 rfl rfl ?_
            refine r_iadd (pc' := 45) (v := nI (x + s)) dX6_trackOn_44 rfl (nI_add x s) ?_
            refine r_istore (pc' := 47) (lo' := [some (.ref 0), some (.int (nI d)), some (.int (nI f)), some (.int (nI s)), some (.int (nI (acc ||| (2 ^ x)))), some (.int (nI (td T d))), some (.int (nI (x + s)))]) dX6_trackOn_45 rfl (by decide) rfl ?_
            refine r_goto (tgt := 25) dX6_trackOn_47 (by decide) ?_
            exact ih25 k' ((x + s)) ((acc ||| 2 ^ x)) (by omega) (hI) (by omega) (by omega)
      exact L25 ((8) + 1) 8 f 0 (Nat.lt_succ_self _) (rfl) (by omega) (by omega)
set_option maxHeartbeats 200000 in
theorem ct_X6_trackOfGoer {g : px_G} {w : px_W} {Q : px_Q} {ik : Int32} {tr : Int64} {T : px_T} {M : px_N} (hX : w[0]? = some (.inr (5, [.ref 1, .ref 9, .ref 15, .ref 18, .ref 51, .ref 59, .int ik, .long tr]))) (hT : SubA w 9 T) (hO : TOK T) (hM : MorA w 15 M) {j : Nat} (hj : j < tG T) (hQ : Q (some (.int (nI (trkG T j)))) w) : Ct g yX6_trackOfGoer cX6_trackOfGoer 3 (some .int) 4 0 0 [.ref 0, .int (nI j)] w Q := by
  refine Ct.of kX6_trackOfGoer (by omega) (lo := [some (.ref 0), some (.int (nI j)), none]) rfl (px_cat1 rfl) (Nat.le_of_ble_eq_true rfl) ?_
  obtain ⟨⟨sb1, sb2, sb3⟩, sb4, sb5⟩ := hT.b
  obtain ⟨mB1, mB2, mB3⟩ := hM.b
  refine r_aload_n (pc' := 1) dX6_trackOfGoer_0 rfl rfl ?_
  refine r_get (pc' := 4) fX6_19 dX6_trackOfGoer_1 rfl hX rfl ?_
  refine r_iload_n (pc' := 5) dX6_trackOfGoer_4 rfl rfl ?_
  refine r_iconst (pc' := 6) (v := nI 1) dX6_trackOfGoer_5 rfl rfl ?_
  refine r_callV (pc' := 9) (av := [.int (nI j), .int (nI 1)]) (rest := []) kX5_partOfGoer vX5_partOfGoer lX6_130 dX6_trackOfGoer_6 rfl hT.o rfl rfl rfl ⟨by decide, by decide, by decide⟩ rfl rfl (Nat.le_of_ble_eq_true rfl) (ct_X5_partOfGoer hT (i := j) (p := 1) (by omega) (by omega) ?_)
  show Wp g yX6_trackOfGoer cX6_trackOfGoer 3 (some .int) 4 0 0 (px_MQ g Q 0 0) 0 0 9 [some (.ref 0), some (.int (nI j)), none] [.int (nI (tg T j 1))] w
  have e6 := (hO.2.2.2 j (by omega))
  refine r_istore_n (pc' := 10) (lo' := [some (.ref 0), some (.int (nI j)), some (.int (nI (tg T j 1)))]) dX6_trackOfGoer_9 rfl (by decide) rfl ?_
  refine r_aload_n (pc' := 11) dX6_trackOfGoer_10 rfl rfl ?_
  refine r_iload_n (pc' := 12) dX6_trackOfGoer_11 rfl rfl ?_
  refine r_aload_n (pc' := 13) dX6_trackOfGoer_12 rfl rfl ?_
  refine r_get (pc' := 16) fX6_19 dX6_trackOfGoer_13 rfl hX rfl ?_
  refine r_iload_n (pc' := 17) dX6_trackOfGoer_16 rfl rfl ?_
  refine r_iconst (pc' := 18) (v := nI 2) dX6_trackOfGoer_17 rfl rfl ?_
  refine r_callV (pc' := 21) (av := [.int (nI j), .int (nI 2)]) (rest := [.int (nI (tg T j 1)), .ref 0]) kX5_partOfGoer vX5_partOfGoer lX6_130 dX6_trackOfGoer_18 rfl hT.o rfl rfl rfl ⟨by decide, by decide, by decide⟩ rfl rfl (Nat.le_of_ble_eq_true rfl) (ct_X5_partOfGoer hT (i := j) (p := 2) (by omega) (by omega) ?_)
  show Wp g yX6_trackOfGoer cX6_trackOfGoer 3 (some .int) 4 0 0 (px_MQ g Q 0 0) 0 0 21 [some (.ref 0), some (.int (nI j)), some (.int (nI (tg T j 1)))] [.int (nI (tg T j 2)), .int (nI (tg T j 1)), .ref 0] w
  have e18 := (hO.2.2.2 j (by omega))
  refine r_aload_n (pc' := 22) dX6_trackOfGoer_21 rfl rfl ?_
  refine r_get (pc' := 25) fX6_19 dX6_trackOfGoer_22 rfl hX rfl ?_
  refine r_iload_n (pc' := 26) dX6_trackOfGoer_25 rfl rfl ?_
  refine r_iconst (pc' := 27) (v := nI 3) dX6_trackOfGoer_26 rfl rfl ?_
  refine r_callV (pc' := 30) (av := [.int (nI j), .int (nI 3)]) (rest := [.int (nI (tg T j 2)), .int (nI (tg T j 1)), .ref 0]) kX5_partOfGoer vX5_partOfGoer lX6_130 dX6_trackOfGoer_27 rfl hT.o rfl rfl rfl ⟨by decide, by decide, by decide⟩ rfl rfl (Nat.le_of_ble_eq_true rfl) (ct_X5_partOfGoer hT (i := j) (p := 3) (by omega) (by omega) ?_)
  show Wp g yX6_trackOfGoer cX6_trackOfGoer 3 (some .int) 4 0 0 (px_MQ g Q 0 0) 0 0 30 [some (.ref 0), some (.int (nI j)), some (.int (nI (tg T j 1)))] [.int (nI (tg T j 3)), .int (nI (tg T j 2)), .int (nI (tg T j 1)), .ref 0] w
  have e27 := (hO.2.2.2 j (by omega))
  refine r_callV (pc' := 33) (av := [.int (nI (tg T j 1)), .int (nI (tg T j 2)), .int (nI (tg T j 3))]) (rest := []) kX6_trackOn vX6_trackOn lX6_148 dX6_trackOfGoer_30 rfl hX rfl rfl rfl ⟨by decide, by decide, by decide⟩ rfl rfl (Nat.le_of_ble_eq_true rfl) (ct_X6_trackOn hX hT hO hM (d := tg T j 1) (f := tg T j 2) (s := tg T j 3) (by omega) (by omega) (by omega) ?_)
  show Wp g yX6_trackOfGoer cX6_trackOfGoer 3 (some .int) 4 0 0 (px_MQ g Q 0 0) 0 0 33 [some (.ref 0), some (.int (nI j)), some (.int (nI (tg T j 1)))] [.int (nI (trk (tg T j 2) (tg T j 3) (td T (tg T j 1))))] w
  have e30 := trk_lt (f := tg T j 2) (s := tg T j 3) (hO.2.2.1 (tg T j 1) (by omega)).2
  refine r_ireturn dX6_trackOfGoer_33 rfl ?_
  exact hQ
set_option maxHeartbeats 200000 in
theorem ct_X6_isTrackOf {g : px_G} {w : px_W} {Q : px_Q} {ik : Int32} {tr : Int64} {T : px_T} {M : px_N} (hX : w[0]? = some (.inr (5, [.ref 1, .ref 9, .ref 15, .ref 18, .ref 51, .ref 59, .int ik, .long tr]))) (hT : SubA w 9 T) (hO : TOK T) (hM : MorA w 15 M) {d f s : Nat} (hd : d < tD T) (hf : f ≤ 7) (hs : 1 ≤ s ∧ s ≤ 4) (hQ : Q (some (.int (bI ((trk f s (td T d) == nt M d))))) w) : Ct g yX6_isTrackOf cX6_isTrackOf 4 (some .boolean) 4 0 0 [.ref 0, .int (nI d), .int (nI f), .int (nI s)] w Q := by
  refine Ct.of kX6_isTrackOf (by omega) (lo := [some (.ref 0), some (.int (nI d)), some (.int (nI f)), some (.int (nI s))]) rfl (px_cat1 rfl) (Nat.le_of_ble_eq_true rfl) ?_
  obtain ⟨⟨sb1, sb2, sb3⟩, sb4, sb5⟩ := hT.b
  obtain ⟨mB1, mB2, mB3⟩ := hM.b
  refine r_aload_n (pc' := 1) dX6_isTrackOf_0 rfl rfl ?_
  refine r_iload_n (pc' := 2) dX6_isTrackOf_1 rfl rfl ?_
  refine r_iload_n (pc' := 3) dX6_isTrackOf_2 rfl rfl ?_
  refine r_iload_n (pc' := 4) dX6_isTrackOf_3 rfl rfl ?_
  refine r_callV (pc' := 7) (av := [.int (nI d), .int (nI f), .int (nI s)]) (rest := []) kX6_trackOn vX6_trackOn lX6_148 dX6_isTrackOf_4 rfl hX rfl rfl rfl ⟨by decide, by decide, by decide⟩ rfl rfl (Nat.le_of_ble_eq_true rfl) (ct_X6_trackOn hX hT hO hM (d := d) (f := f) (s := s) (by omega) (by omega) (by omega) ?_)
  show Wp g yX6_isTrackOf cX6_isTrackOf 4 (some .boolean) 4 0 0 (px_MQ g Q 0 0) 0 0 7 [some (.ref 0), some (.int (nI d)), some (.int (nI f)), some (.int (nI s))] [.int (nI (trk f s (td T d)))] w
  have e4 := trk_lt (f := f) (s := s) (hO.2.2.1 d (by omega)).2
  refine r_aload_n (pc' := 8) dX6_isTrackOf_7 rfl rfl ?_
  refine r_get (pc' := 11) fX6_26 dX6_isTrackOf_8 rfl hX rfl ?_
  refine r_iload_n (pc' := 12) dX6_isTrackOf_11 rfl rfl ?_
  refine r_callV (pc' := 15) (av := [.int (nI d)]) (rest := [.int (nI (trk f s (td T d)))]) kX0_troddenOf vX0_troddenOf lX6_104 dX6_isTrackOf_12 rfl hM.o rfl rfl rfl ⟨by decide, by decide, by decide⟩ rfl rfl (Nat.le_of_ble_eq_true rfl) (ct_X0_troddenOf hM (d := d) (by omega) ?_)
  show Wp g yX6_isTrackOf cX6_isTrackOf 4 (some .boolean) 4 0 0 (px_MQ g Q 0 0) 0 0 15 [some (.ref 0), some (.int (nI d)), some (.int (nI f)), some (.int (nI s))] [.int (nI (nt M d)), .int (nI (trk f s (td T d)))] w
  have e12 := hM.b.2.1 d (by omega)
  refine r_icmp_ne (pc' := 18) (P := trk f s (td T d) = nt M d) (tgt := 22) dX6_isTrackOf_15 (by decide) rfl (nI_eq (a := trk f s (td T d)) (b := nt M d) (by omega) (by omega)) (fun h15 => ?_) (fun h15 => ?_)
  · skip
    refine r_iconst (pc' := 23) (v := bI false) dX6_isTrackOf_22 rfl rfl ?_
    refine r_zreturn dX6_isTrackOf_23 rfl (bI_nar _) ?_
    refine px_eqB hQ ?_
    simp [h15]
  · skip
    refine r_iconst (pc' := 19) (v := bI true) dX6_isTrackOf_18 rfl rfl ?_
    refine r_goto (tgt := 23) dX6_isTrackOf_19 (by decide) ?_
    refine r_zreturn dX6_isTrackOf_23 rfl (bI_nar _) ?_
    refine px_eqB hQ ?_
    simp [h15]
set_option maxHeartbeats 200000 in
theorem ct_X6_tracksOf {g : px_G} {w : px_W} {Q : px_Q} {ik : Int32} {tr : Int64} {T : px_T} {M : px_N} (hX : w[0]? = some (.inr (5, [.ref 1, .ref 9, .ref 15, .ref 18, .ref 51, .ref 59, .int ik, .long tr]))) (hT : SubA w 9 T) (hO : TOK T) (hM : MorA w 15 M) {d : Nat} (hd : d < tD T) (hQ : Q (some (.int (nI (cnt (isT T M d) 32)))) w) : Ct g yX6_tracksOf cX6_tracksOf 5 (some .int) 5 0 0 [.ref 0, .int (nI d)] w Q := by
  refine Ct.of kX6_tracksOf (by omega) (lo := [some (.ref 0), some (.int (nI d)), none, none, none]) rfl (px_cat1 rfl) (Nat.le_of_ble_eq_true rfl) ?_
  obtain ⟨⟨sb1, sb2, sb3⟩, sb4, sb5⟩ := hT.b
  obtain ⟨mB1, mB2, mB3⟩ := hM.b
  refine r_iconst (pc' := 1) (v := nI 0) dX6_tracksOf_0 rfl rfl ?_
  refine r_istore_n (pc' := 2) (lo' := [some (.ref 0), some (.int (nI d)), some (.int (nI 0)), none, none]) dX6_tracksOf_1 rfl (by decide) rfl ?_
  refine r_iconst (pc' := 3) (v := nI 0) dX6_tracksOf_2 rfl rfl ?_
  refine r_istore_n (pc' := 4) (lo' := [some (.ref 0), some (.int (nI d)), some (.int (nI 0)), some (.int (nI 0)), none]) dX6_tracksOf_3 rfl (by decide) rfl ?_
  have L4 : ∀ (fu : Nat) (f : Nat), 8 - f < fu → f ≤ 8 → Wp g yX6_tracksOf cX6_tracksOf 5 (some .int) 5 0 0 (px_MQ g Q 0 0) 0 0 4 [some (.ref 0), some (.int (nI d)), some (.int (nI (cnt (isT T M d) (4 * f)))), some (.int (nI f)), none] [] w := by
    intro fu; induction fu with
    | zero => intro f hm; exact absurd hm (Nat.not_lt_zero _)
    | succ fu ih =>
      intro f hm hf
      have ih4 := ih; clear ih
      refine r_iload_n (pc' := 5) dX6_tracksOf_4 rfl rfl ?_
      refine r_bipush (pc' := 7) (v := nI 7) dX6_tracksOf_5 rfl rfl ?_
      refine r_icmp_gt (pc' := 10) (P := 7 < f) (tgt := 45) dX6_tracksOf_7 (by decide) rfl (nI_ltI (a := 7) (b := f) (by omega) (by omega)) (fun h7 => ?_) (fun h7 => ?_)
      · have hf2 : f = 8 := by omega
        subst hf2
        refine r_iload_n (pc' := 46) dX6_tracksOf_45 rfl rfl ?_
        refine r_ireturn dX6_tracksOf_46 rfl ?_
        exact hQ
      · skip
        refine r_iconst (pc' := 11) (v := nI 1) dX6_tracksOf_10 rfl rfl ?_
        refine r_istore (pc' := 13) (lo' := [some (.ref 0), some (.int (nI d)), some (.int (nI (cnt (isT T M d) (4 * f)))), some (.int (nI f)), some (.int (nI 1))]) dX6_tracksOf_11 rfl (by decide) rfl ?_
        have L13 : ∀ (fu : Nat) (s : Nat), 5 - s < fu → 1 ≤ s ∧ s ≤ 5 → Wp g yX6_tracksOf cX6_tracksOf 5 (some .int) 5 0 0 (px_MQ g Q 0 0) 0 0 13 [some (.ref 0), some (.int (nI d)), some (.int (nI (cnt (isT T M d) (4 * f + (s - 1))))), some (.int (nI f)), some (.int (nI s))] [] w := by
          intro fu; induction fu with
          | zero => intro s hm; exact absurd hm (Nat.not_lt_zero _)
          | succ fu ih =>
            intro s hm hs
            have ih13 := ih; clear ih
            refine r_iload (pc' := 15) dX6_tracksOf_13 rfl rfl ?_
            refine r_iconst (pc' := 16) (v := nI 4) dX6_tracksOf_15 rfl rfl ?_
            refine r_icmp_gt (pc' := 19) (P := 4 < s) (tgt := 39) dX6_tracksOf_16 (by decide) rfl (nI_ltI (a := 4) (b := s) (by omega) (by omega)) (fun h16 => ?_) (fun h16 => ?_)
            · have hs2 : s = 5 := by omega
              subst hs2
              refine r_iinc (pc' := 42) (lo' := [some (.ref 0), some (.int (nI d)), some (.int (nI (cnt (isT T M d) (4 * f + (5 - 1))))), some (.int (nI (f + 1))), some (.int (nI 5))]) dX6_tracksOf_39 rfl (by decide) rfl (nI_add f 1) rfl ?_
              refine r_goto (tgt := 4) dX6_tracksOf_42 (by decide) ?_
              rw [show 4 * f + (5 - 1) = 4 * (f + 1) by omega]
              refine r_drop 4 rfl ?_
              exact ih4 (f + 1) (by omega) (by omega)
            · skip
              refine r_aload_n (pc' := 20) dX6_tracksOf_19 rfl rfl ?_
              refine r_iload_n (pc' := 21) dX6_tracksOf_20 rfl rfl ?_
              refine r_iload_n (pc' := 22) dX6_tracksOf_21 rfl rfl ?_
              refine r_iload (pc' := 24) dX6_tracksOf_22 rfl rfl ?_
              refine r_callV (pc' := 27) (av := [.int (nI d), .int (nI f), .int (nI s)]) (rest := []) kX6_isTrackOf vX6_isTrackOf lX6_248 dX6_tracksOf_24 rfl hX rfl rfl rfl ⟨by decide, by decide, by decide⟩ rfl rfl (Nat.le_of_ble_eq_true rfl) (ct_X6_isTrackOf hX hT hO hM (d := d) (f := f) (s := s) (by omega) (by omega) (by omega) ?_)
              show Wp g yX6_tracksOf cX6_tracksOf 5 (some .int) 5 0 0 (px_MQ g Q 0 0) 0 0 27 [some (.ref 0), some (.int (nI d)), some (.int (nI (cnt (isT T M d) (4 * f + (s - 1))))), some (.int (nI f)), some (.int (nI s))] [.int (bI ((trk f s (td T d) == nt M d)))] w
              have hT' : isT T M d (4 * f + (s - 1)) = (trk f s (td T d) == nt M d) := by unfold isT; rw [show (4 * f + (s - 1)) / 4 = f by omega, show (4 * f + (s - 1)) % 4 + 1 = s by omega]
              refine r_if_eq (pc' := 30) (P := ((trk f s (td T d) == nt M d)) = false) (tgt := 33) dX6_tracksOf_27 (by decide) rfl (bI_0) (fun h27 => ?_) (fun h27 => ?_)
              · skip
                refine r_iinc (pc' := 36) (lo' := [some (.ref 0), some (.int (nI d)), some (.int (nI (cnt (isT T M d) (4 * f + (s - 1))))), some (.int (nI f)), some (.int (nI (s + 1)))]) dX6_tracksOf_33 rfl (by decide) rfl (nI_add s 1) rfl ?_
                refine r_goto (tgt := 13) dX6_tracksOf_36 (by decide) ?_
                rw [cnt_f (p := isT T M d) (n := 4 * f + (s - 1)) (by rw [hT']; simpa using h27), show 4 * f + (s - 1) + 1 = 4 * f + (s + 1 - 1) by omega]
                exact ih13 (s + 1) (by omega) (by omega)
              · skip
                refine r_iinc (pc' := 33) (lo' := [some (.ref 0), some (.int (nI d)), some (.int (nI (cnt (isT T M d) (4 * f + (s - 1)) + 1))), some (.int (nI f)), some (.int (nI s))]) dX6_tracksOf_30 rfl (by decide) rfl (nI_add (cnt (isT T M d) (4 * f + (s - 1))) 1) rfl ?_
                refine r_iinc (pc' := 36) (lo' := [some (.ref 0), some (.int (nI d)), some (.int (nI (cnt (isT T M d) (4 * f + (s - 1)) + 1))), some (.int (nI f)), some (.int (nI (s + 1)))]) dX6_tracksOf_33 rfl (by decide) rfl (nI_add s 1) rfl ?_
                refine r_goto (tgt := 13) dX6_tracksOf_36 (by decide) ?_
                rw [cnt_t (p := isT T M d) (n := 4 * f + (s - 1)) (by rw [hT']; simpa using h27), show 4 * f + (s - 1) + 1 = 4 * f + (s + 1 - 1) by omega]
                exact ih13 (s + 1) (by omega) (by omega)
        exact L13 ((4) + 1) 1 (Nat.lt_succ_self _) (by omega)
  exact L4 ((8) + 1) 0 (Nat.lt_succ_self _) (by omega)
set_option maxHeartbeats 200000 in
theorem ct_X6_firstTrackOf {g : px_G} {w : px_W} {Q : px_Q} {ik : Int32} {tr : Int64} {T : px_T} {M : px_N} (hX : w[0]? = some (.inr (5, [.ref 1, .ref 9, .ref 15, .ref 18, .ref 51, .ref 59, .int ik, .long tr]))) (hT : SubA w 9 T) (hO : TOK T) (hM : MorA w 15 M) {d : Nat} (hd : d < tD T) (hQ : Q (some (.int (oN (trackF T M d)))) w) : Ct g yX6_firstTrackOf cX6_firstTrackOf 4 (some .int) 5 0 0 [.ref 0, .int (nI d)] w Q := by
  refine Ct.of kX6_firstTrackOf (by omega) (lo := [some (.ref 0), some (.int (nI d)), none, none]) rfl (px_cat1 rfl) (Nat.le_of_ble_eq_true rfl) ?_
  obtain ⟨⟨sb1, sb2, sb3⟩, sb4, sb5⟩ := hT.b
  obtain ⟨mB1, mB2, mB3⟩ := hM.b
  refine r_iconst (pc' := 1) (v := nI 0) dX6_firstTrackOf_0 rfl rfl ?_
  refine r_istore_n (pc' := 2) (lo' := [some (.ref 0), some (.int (nI d)), some (.int (nI 0)), none]) dX6_firstTrackOf_1 rfl (by decide) rfl ?_
  have L2 : ∀ (fu : Nat) (f : Nat), 8 - f < fu → f ≤ 8 → ffst (isT T M d) (4 * f) = none → Wp g yX6_firstTrackOf cX6_firstTrackOf 4 (some .int) 5 0 0 (px_MQ g Q 0 0) 0 0 2 [some (.ref 0), some (.int (nI d)), some (.int (nI f)), none] [] w := by
    intro fu; induction fu with
    | zero => intro f hm; exact absurd hm (Nat.not_lt_zero _)
    | succ fu ih =>
      intro f hm hf hn
      have ih2 := ih; clear ih
      refine r_iload_n (pc' := 3) dX6_firstTrackOf_2 rfl rfl ?_
      refine r_bipush (pc' := 5) (v := nI 7) dX6_firstTrackOf_3 rfl rfl ?_
      refine r_icmp_gt (pc' := 8) (P := 7 < f) (tgt := 44) dX6_firstTrackOf_5 (by decide) rfl (nI_ltI (a := 7) (b := f) (by omega) (by omega)) (fun h5 => ?_) (fun h5 => ?_)
      · have hf2 : f = 8 := by omega
        subst hf2
        refine r_bipush (pc' := 46) (v := (-9)) dX6_firstTrackOf_44 rfl rfl ?_
        refine r_ireturn dX6_firstTrackOf_46 rfl ?_
        refine px_eq hQ ?_
        rw [trackF, hn]; rfl
      · skip
        refine r_iconst (pc' := 9) (v := nI 1) dX6_firstTrackOf_8 rfl rfl ?_
        refine r_istore_n (pc' := 10) (lo' := [some (.ref 0), some (.int (nI d)), some (.int (nI f)), some (.int (nI 1))]) dX6_firstTrackOf_9 rfl (by decide) rfl ?_
        have L10 : ∀ (fu : Nat) (s : Nat), 5 - s < fu → 1 ≤ s ∧ s ≤ 5 → ffst (isT T M d) (4 * f + (s - 1)) = none → Wp g yX6_firstTrackOf cX6_firstTrackOf 4 (some .int) 5 0 0 (px_MQ g Q 0 0) 0 0 10 [some (.ref 0), some (.int (nI d)), some (.int (nI f)), some (.int (nI s))] [] w := by
          intro fu; induction fu with
          | zero => intro s hm; exact absurd hm (Nat.not_lt_zero _)
          | succ fu ih =>
            intro s hm hs hn
            have ih10 := ih; clear ih
            refine r_iload_n (pc' := 11) dX6_firstTrackOf_10 rfl rfl ?_
            refine r_iconst (pc' := 12) (v := nI 4) dX6_firstTrackOf_11 rfl rfl ?_
            refine r_icmp_gt (pc' := 15) (P := 4 < s) (tgt := 38) dX6_firstTrackOf_12 (by decide) rfl (nI_ltI (a := 4) (b := s) (by omega) (by omega)) (fun h12 => ?_) (fun h12 => ?_)
            · have hs2 : s = 5 := by omega
              subst hs2
              refine r_iinc (pc' := 41) (lo' := [some (.ref 0), some (.int (nI d)), some (.int (nI (f + 1))), some (.int (nI 5))]) dX6_firstTrackOf_38 rfl (by decide) rfl (nI_add f 1) rfl ?_
              refine r_goto (tgt := 2) dX6_firstTrackOf_41 (by decide) ?_
              refine r_drop 3 rfl ?_
              exact ih2 (f + 1) (by omega) (by omega) (by rw [show 4 * (f + 1) = 4 * f + (5 - 1) by omega]; exact hn)
            · skip
              refine r_aload_n (pc' := 16) dX6_firstTrackOf_15 rfl rfl ?_
              refine r_iload_n (pc' := 17) dX6_firstTrackOf_16 rfl rfl ?_
              refine r_iload_n (pc' := 18) dX6_firstTrackOf_17 rfl rfl ?_
              refine r_iload_n (pc' := 19) dX6_firstTrackOf_18 rfl rfl ?_
              refine r_callV (pc' := 22) (av := [.int (nI d), .int (nI f), .int (nI s)]) (rest := []) kX6_isTrackOf vX6_isTrackOf lX6_248 dX6_firstTrackOf_19 rfl hX rfl rfl rfl ⟨by decide, by decide, by decide⟩ rfl rfl (Nat.le_of_ble_eq_true rfl) (ct_X6_isTrackOf hX hT hO hM (d := d) (f := f) (s := s) (by omega) (by omega) (by omega) ?_)
              show Wp g yX6_firstTrackOf cX6_firstTrackOf 4 (some .int) 5 0 0 (px_MQ g Q 0 0) 0 0 22 [some (.ref 0), some (.int (nI d)), some (.int (nI f)), some (.int (nI s))] [.int (bI ((trk f s (td T d) == nt M d)))] w
              have hT' : isT T M d (4 * f + (s - 1)) = (trk f s (td T d) == nt M d) := by unfold isT; rw [show (4 * f + (s - 1)) / 4 = f by omega, show (4 * f + (s - 1)) % 4 + 1 = s by omega]
              refine r_if_eq (pc' := 25) (P := ((trk f s (td T d) == nt M d)) = false) (tgt := 32) dX6_firstTrackOf_22 (by decide) rfl (bI_0) (fun h22 => ?_) (fun h22 => ?_)
              · skip
                refine r_iinc (pc' := 35) (lo' := [some (.ref 0), some (.int (nI d)), some (.int (nI f)), some (.int (nI (s + 1)))]) dX6_firstTrackOf_32 rfl (by decide) rfl (nI_add s 1) rfl ?_
                refine r_goto (tgt := 10) dX6_firstTrackOf_35 (by decide) ?_
                exact ih10 (s + 1) (by omega) (by omega) (by have := ffst_n hn (by rw [hT']; simpa using h22); rwa [show 4 * f + (s - 1) + 1 = 4 * f + (s + 1 - 1) by omega] at this)
              · skip
                refine r_bipush (pc' := 27) (v := nI 10) dX6_firstTrackOf_25 rfl rfl ?_
                refine r_iload_n (pc' := 28) dX6_firstTrackOf_27 rfl rfl ?_
                refine r_imul (pc' := 29) (v := nI (10 * f)) dX6_firstTrackOf_28 rfl (pk_mul 10 f) ?_
                refine r_iload_n (pc' := 30) dX6_firstTrackOf_29 rfl rfl ?_
                refine r_iadd (pc' := 31) (v := nI (10 * f + s)) dX6_firstTrackOf_30 rfl (nI_add (10 * f) s) ?_
                refine r_ireturn dX6_firstTrackOf_31 rfl ?_
                refine px_eq hQ ?_
                have h9 := ffst_k (ffst_s hn (by rw [hT']; simpa using h22)) (32 - (4 * f + (s - 1) + 1))
                rw [show 4 * f + (s - 1) + 1 + (32 - (4 * f + (s - 1) + 1)) = 32 by omega] at h9
                rw [trackF, h9]
                show _ = nI (10 * ((4 * f + (s - 1)) / 4) + ((4 * f + (s - 1)) % 4 + 1))
                congr 1
                omega
        exact L10 ((4) + 1) 1 (Nat.lt_succ_self _) (by omega) (hn)
  exact L2 ((8) + 1) 0 (Nat.lt_succ_self _) (by omega) (rfl)
set_option maxHeartbeats 200000 in
theorem ct_X6_readableOn {g : px_G} {w : px_W} {Q : px_Q} {ik : Int32} {tr : Int64} {T : px_T} {M : px_N} (hX : w[0]? = some (.inr (5, [.ref 1, .ref 9, .ref 15, .ref 18, .ref 51, .ref 59, .int ik, .long tr]))) (hT : SubA w 9 T) (hO : TOK T) (hM : MorA w 15 M) {d : Nat} (hd : d < tD T) (hQ : Q (some (.int (nI (rdbl T M d)))) w) : Ct g yX6_readableOn cX6_readableOn 5 (some .int) 4 0 0 [.ref 0, .int (nI d)] w Q := by
  refine Ct.of kX6_readableOn (by omega) (lo := [some (.ref 0), some (.int (nI d)), none, none, none]) rfl (px_cat1 rfl) (Nat.le_of_ble_eq_true rfl) ?_
  obtain ⟨⟨sb1, sb2, sb3⟩, sb4, sb5⟩ := hT.b
  obtain ⟨mB1, mB2, mB3⟩ := hM.b
  refine r_iconst (pc' := 1) (v := nI 0) dX6_readableOn_0 rfl rfl ?_
  refine r_istore_n (pc' := 2) (lo' := [some (.ref 0), some (.int (nI d)), some (.int (nI 0)), none, none]) dX6_readableOn_1 rfl (by decide) rfl ?_
  refine r_aload_n (pc' := 3) dX6_readableOn_2 rfl rfl ?_
  refine r_get (pc' := 6) fX6_19 dX6_readableOn_3 rfl hX rfl ?_
  refine r_iload_n (pc' := 7) dX6_readableOn_6 rfl rfl ?_
  refine r_callV (pc' := 10) (av := [.int (nI d)]) (rest := []) kX5_longOfDrive vX5_longOfDrive lX6_101 dX6_readableOn_7 rfl hT.o rfl rfl rfl ⟨by decide, by decide, by decide⟩ rfl rfl (Nat.le_of_ble_eq_true rfl) (ct_X5_longOfDrive hT (i := d) (by omega) ?_)
  show Wp g yX6_readableOn cX6_readableOn 5 (some .int) 4 0 0 (px_MQ g Q 0 0) 0 0 10 [some (.ref 0), some (.int (nI d)), some (.int (nI 0)), none, none] [.int (nI (td T d))] w
  have e7 := (hO.2.2.1 d (by omega))
  refine r_istore_n (pc' := 11) (lo' := [some (.ref 0), some (.int (nI d)), some (.int (nI 0)), some (.int (nI (td T d))), none]) dX6_readableOn_10 rfl (by decide) rfl ?_
  refine r_iconst (pc' := 12) (v := nI 0) dX6_readableOn_11 rfl rfl ?_
  refine r_istore (pc' := 14) (lo' := [some (.ref 0), some (.int (nI d)), some (.int (nI 0)), some (.int (nI (td T d))), some (.int (nI 0))]) dX6_readableOn_12 rfl (by decide) rfl ?_
  have L14 : ∀ (fu : Nat) (x : Nat), td T d - x < fu → x ≤ td T d → Wp g yX6_readableOn cX6_readableOn 5 (some .int) 4 0 0 (px_MQ g Q 0 0) 0 0 14 [some (.ref 0), some (.int (nI d)), some (.int (nI (bset (fun x => !((nt M d).testBit x) && !(nc M d x == 8)) x))), some (.int (nI (td T d))), some (.int (nI x))] [] w := by
    intro fu; induction fu with
    | zero => intro x hm; exact absurd hm (Nat.not_lt_zero _)
    | succ fu ih =>
      intro x hm hx
      have ih14 := ih; clear ih
      refine r_iload (pc' := 16) dX6_readableOn_14 rfl rfl ?_
      refine r_iload_n (pc' := 17) dX6_readableOn_16 rfl rfl ?_
      refine r_icmp_ge (pc' := 20) (P := td T d ≤ x) (tgt := 61) dX6_readableOn_17 (by decide) rfl (nI_leI (a := td T d) (b := x) (by omega) (by omega)) (fun h17 => ?_) (fun h17 => ?_)
      · have hx2 : x = td T d := by omega
        subst hx2
        refine r_iload_n (pc' := 62) dX6_readableOn_61 rfl rfl ?_
        refine r_ireturn dX6_readableOn_62 rfl ?_
        exact hQ
      · skip
        refine r_aload_n (pc' := 21) dX6_readableOn_20 rfl rfl ?_
        refine r_get (pc' := 24) fX6_26 dX6_readableOn_21 rfl hX rfl ?_
        refine r_iload_n (pc' := 25) dX6_readableOn_24 rfl rfl ?_
        refine r_iload (pc' := 27) dX6_readableOn_25 rfl rfl ?_
        refine r_callV (pc' := 30) (av := [.int (nI d), .int (nI x)]) (rest := []) kX0_isTrodden vX0_isTrodden lX6_123 dX6_readableOn_27 rfl hM.o rfl rfl rfl ⟨by decide, by decide, by decide⟩ rfl rfl (Nat.le_of_ble_eq_true rfl) (ct_X0_isTrodden hM (d := d) (x := x) (by omega) (by omega) ?_)
        show Wp g yX6_readableOn cX6_readableOn 5 (some .int) 4 0 0 (px_MQ g Q 0 0) 0 0 30 [some (.ref 0), some (.int (nI d)), some (.int (nI (bset (fun x => !((nt M d).testBit x) && !(nc M d x == 8)) x))), some (.int (nI (td T d))), some (.int (nI x))] [.int (bI ((nt M d).testBit x))] w
        refine r_if_ne (pc' := 33) (P := ((nt M d).testBit x) = false) (tgt := 55) dX6_readableOn_30 (by decide) rfl (bI_0) (fun h30 => ?_) (fun h30 => ?_)
        · skip
          refine r_iinc (pc' := 58) (lo' := [some (.ref 0), some (.int (nI d)), some (.int (nI (bset (fun x => !((nt M d).testBit x) && !(nc M d x == 8)) x))), some (.int (nI (td T d))), some (.int (nI (x + 1)))]) dX6_readableOn_55 rfl (by decide) rfl (nI_add x 1) rfl ?_
          refine r_goto (tgt := 14) dX6_readableOn_58 (by decide) ?_
          first | rw [← bset_t (p := (fun x => !((nt M d).testBit x) && !(nc M d x == 8))) (n := x) (by simp [h30, h45])] | rw [← bset_f (p := (fun x => !((nt M d).testBit x) && !(nc M d x == 8))) (n := x) (by first | (simp at h30; simp [h30]; done) | (simp [h45]; done))]
          exact ih14 (x + 1) (by omega) (by omega)
        · skip
          refine r_aload_n (pc' := 34) dX6_readableOn_33 rfl rfl ?_
          refine r_get (pc' := 37) fX6_26 dX6_readableOn_34 rfl hX rfl ?_
          refine r_iload_n (pc' := 38) dX6_readableOn_37 rfl rfl ?_
          refine r_iload (pc' := 40) dX6_readableOn_38 rfl rfl ?_
          refine r_callV (pc' := 43) (av := [.int (nI d), .int (nI x)]) (rest := []) kX0_contentOf vX0_contentOf lX6_126 dX6_readableOn_40 rfl hM.o rfl rfl rfl ⟨by decide, by decide, by decide⟩ rfl rfl (Nat.le_of_ble_eq_true rfl) (ct_X0_contentOf hM (d := d) (x := x) (by omega) (by omega) ?_)
          show Wp g yX6_readableOn cX6_readableOn 5 (some .int) 4 0 0 (px_MQ g Q 0 0) 0 0 43 [some (.ref 0), some (.int (nI d)), some (.int (nI (bset (fun x => !((nt M d).testBit x) && !(nc M d x == 8)) x))), some (.int (nI (td T d))), some (.int (nI x))] [.int (nI (nc M d x))] w
          have e40 := hM.b.1 d x (by omega) (by omega)
          refine r_bipush (pc' := 45) (v := nI 8) dX6_readableOn_43 rfl rfl ?_
          refine r_icmp_eq (pc' := 48) (P := nc M d x = 8) (tgt := 55) dX6_readableOn_45 (by decide) rfl (nI_eq (a := nc M d x) (b := 8) (by omega) (by omega)) (fun h45 => ?_) (fun h45 => ?_)
          · skip
            refine r_iinc (pc' := 58) (lo' := [some (.ref 0), some (.int (nI d)), some (.int (nI (bset (fun x => !((nt M d).testBit x) && !(nc M d x == 8)) x))), some (.int (nI (td T d))), some (.int (nI (x + 1)))]) dX6_readableOn_55 rfl (by decide) rfl (nI_add x 1) rfl ?_
            refine r_goto (tgt := 14) dX6_readableOn_58 (by decide) ?_
            first | rw [← bset_t (p := (fun x => !((nt M d).testBit x) && !(nc M d x == 8))) (n := x) (by simp [h30, h45])] | rw [← bset_f (p := (fun x => !((nt M d).testBit x) && !(nc M d x == 8))) (n := x) (by first | (simp at h30; simp [h30]; done) | (simp [h45]; done))]
            exact ih14 (x + 1) (by omega) (by omega)
          · skip
            refine r_iload_n (pc' := 49) dX6_readableOn_48 rfl rfl ?_
            refine r_iconst (pc' := 50) (v := nI 1) dX6_readableOn_49 rfl rfl ?_
            refine r_iload (pc' := 52) dX6_readableOn_50 rfl rfl ?_
            refine r_ishl (pc' := 53) (v := nI (2 ^ x)) dX6_readableOn_52 rfl (shl1_n (b := x) (by omega)) ?_
            refine r_ior (pc' := 54) (v := nI ((bset (fun x => !((nt M d).testBit x) && !(nc M d x == 8)) x) ||| (2 ^ x))) dX6_readableOn_53 rfl (or_n (bset (fun x => !((nt M d).testBit x) && !(nc M d x == 8)) x) (2 ^ x)) ?_
            refine r_istore_n (pc' := 55) (lo' := [some (.ref 0), some (.int (nI d)), some (.int (nI ((bset (fun x => !((nt M d).testBit x) && !(nc M d x == 8)) x) ||| (2 ^ x)))), some (.int (nI (td T d))), some (.int (nI x))]) dX6_readableOn_54 rfl (by decide) rfl ?_
            refine r_iinc (pc' := 58) (lo' := [some (.ref 0), some (.int (nI d)), some (.int (nI ((bset (fun x => !((nt M d).testBit x) && !(nc M d x == 8)) x) ||| (2 ^ x)))), some (.int (nI (td T d))), some (.int (nI (x + 1)))]) dX6_readableOn_55 rfl (by decide) rfl (nI_add x 1) rfl ?_
            refine r_goto (tgt := 14) dX6_readableOn_58 (by decide) ?_
            first | rw [← bset_t (p := (fun x => !((nt M d).testBit x) && !(nc M d x == 8))) (n := x) (by simp [h30, h45])] | rw [← bset_f (p := (fun x => !((nt M d).testBit x) && !(nc M d x == 8))) (n := x) (by first | (simp at h30; simp [h30]; done) | (simp [h45]; done))]
            exact ih14 (x + 1) (by omega) (by omega)
  exact L14 ((td T d) + 1) 0 (Nat.lt_succ_self _) (by omega)
set_option maxHeartbeats 200000 in
theorem ct_X6_canHaveBeen {g : px_G} {w : px_W} {Q : px_Q} {ik : Int32} {tr : Int64} {T : px_T} {M : px_N} (hX : w[0]? = some (.inr (5, [.ref 1, .ref 9, .ref 15, .ref 18, .ref 51, .ref 59, .int ik, .long tr]))) (hT : SubA w 9 T) (hO : TOK T) (hM : MorA w 15 M) {d i : Nat} (hd : d < tD T) (hi : i < tW T) (hQ : Q (some (.int (bI (canS T M d i)))) w) : Ct g yX6_canHaveBeen cX6_canHaveBeen 5 (some .boolean) 4 0 0 [.ref 0, .int (nI d), .int (nI i)] w Q := by
  refine Ct.of kX6_canHaveBeen (by omega) (lo := [some (.ref 0), some (.int (nI d)), some (.int (nI i)), none, none]) rfl (px_cat1 rfl) (Nat.le_of_ble_eq_true rfl) ?_
  obtain ⟨⟨sb1, sb2, sb3⟩, sb4, sb5⟩ := hT.b
  obtain ⟨mB1, mB2, mB3⟩ := hM.b
  refine r_aload_n (pc' := 1) dX6_canHaveBeen_0 rfl rfl ?_
  refine r_get (pc' := 4) fX6_19 dX6_canHaveBeen_1 rfl hX rfl ?_
  refine r_iload_n (pc' := 5) dX6_canHaveBeen_4 rfl rfl ?_
  refine r_callV (pc' := 8) (av := [.int (nI d)]) (rest := []) kX5_longOfDrive vX5_longOfDrive lX6_101 dX6_canHaveBeen_5 rfl hT.o rfl rfl rfl ⟨by decide, by decide, by decide⟩ rfl rfl (Nat.le_of_ble_eq_true rfl) (ct_X5_longOfDrive hT (i := d) (by omega) ?_)
  show Wp g yX6_canHaveBeen cX6_canHaveBeen 5 (some .boolean) 4 0 0 (px_MQ g Q 0 0) 0 0 8 [some (.ref 0), some (.int (nI d)), some (.int (nI i)), none, none] [.int (nI (td T d))] w
  have e5 := (hO.2.2.1 d (by omega))
  refine r_istore_n (pc' := 9) (lo' := [some (.ref 0), some (.int (nI d)), some (.int (nI i)), some (.int (nI (td T d))), none]) dX6_canHaveBeen_8 rfl (by decide) rfl ?_
  refine r_aload_n (pc' := 10) dX6_canHaveBeen_9 rfl rfl ?_
  refine r_get (pc' := 13) fX6_19 dX6_canHaveBeen_10 rfl hX rfl ?_
  refine r_iload_n (pc' := 14) dX6_canHaveBeen_13 rfl rfl ?_
  refine r_callV (pc' := 17) (av := [.int (nI i)]) (rest := []) kX5_longOfWord vX5_longOfWord lX6_81 dX6_canHaveBeen_14 rfl hT.o rfl rfl rfl ⟨by decide, by decide, by decide⟩ rfl rfl (Nat.le_of_ble_eq_true rfl) (ct_X5_longOfWord hT (i := i) (by omega) ?_)
  show Wp g yX6_canHaveBeen cX6_canHaveBeen 5 (some .boolean) 4 0 0 (px_MQ g Q 0 0) 0 0 17 [some (.ref 0), some (.int (nI d)), some (.int (nI i)), some (.int (nI (td T d))), none] [.int (nI (tl T i))] w
  have e14 := hT.b.2.1 i (by omega)
  refine r_iload_n (pc' := 18) dX6_canHaveBeen_17 rfl rfl ?_
  refine r_icmp_le (pc' := 21) (P := tl T i ≤ td T d) (tgt := 23) dX6_canHaveBeen_18 (by decide) rfl (nI_leI (a := tl T i) (b := td T d) (by omega) (by omega)) (fun h18 => ?_) (fun h18 => ?_)
  · skip
    refine r_iconst (pc' := 24) (v := nI 0) dX6_canHaveBeen_23 rfl rfl ?_
    refine r_istore (pc' := 26) (lo' := [some (.ref 0), some (.int (nI d)), some (.int (nI i)), some (.int (nI (td T d))), some (.int (nI 0))]) dX6_canHaveBeen_24 rfl (by decide) rfl ?_
    have L26 : ∀ (fu : Nat) (x : Nat), td T d - x < fu → x ≤ td T d → allb (fun x => (nt M d).testBit x || (nc M d x == tc T i x)) x = true → Wp g yX6_canHaveBeen cX6_canHaveBeen 5 (some .boolean) 4 0 0 (px_MQ g Q 0 0) 0 0 26 [some (.ref 0), some (.int (nI d)), some (.int (nI i)), some (.int (nI (td T d))), some (.int (nI x))] [] w := by
      intro fu; induction fu with
      | zero => intro x hm; exact absurd hm (Nat.not_lt_zero _)
      | succ fu ih =>
        intro x hm hx ha
        have ih26 := ih; clear ih
        refine r_iload (pc' := 28) dX6_canHaveBeen_26 rfl rfl ?_
        refine r_iload_n (pc' := 29) dX6_canHaveBeen_28 rfl rfl ?_
        refine r_icmp_ge (pc' := 32) (P := td T d ≤ x) (tgt := 76) dX6_canHaveBeen_29 (by decide) rfl (nI_leI (a := td T d) (b := x) (by omega) (by omega)) (fun h29 => ?_) (fun h29 => ?_)
        · have hx2 : x = td T d := by omega
          subst hx2
          refine r_iconst (pc' := 77) (v := bI true) dX6_canHaveBeen_76 rfl rfl ?_
          refine r_zreturn dX6_canHaveBeen_77 rfl (bI_nar _) ?_
          refine px_eqB hQ ?_
          simp only [canS, ha, show decide (tl T i ≤ td T d) = true from decide_eq_true (by omega)]; rfl
        · skip
          refine r_aload_n (pc' := 33) dX6_canHaveBeen_32 rfl rfl ?_
          refine r_get (pc' := 36) fX6_26 dX6_canHaveBeen_33 rfl hX rfl ?_
          refine r_iload_n (pc' := 37) dX6_canHaveBeen_36 rfl rfl ?_
          refine r_iload (pc' := 39) dX6_canHaveBeen_37 rfl rfl ?_
          refine r_callV (pc' := 42) (av := [.int (nI d), .int (nI x)]) (rest := []) kX0_isTrodden vX0_isTrodden lX6_123 dX6_canHaveBeen_39 rfl hM.o rfl rfl rfl ⟨by decide, by decide, by decide⟩ rfl rfl (Nat.le_of_ble_eq_true rfl) (ct_X0_isTrodden hM (d := d) (x := x) (by omega) (by omega) ?_)
          show Wp g yX6_canHaveBeen cX6_canHaveBeen 5 (some .boolean) 4 0 0 (px_MQ g Q 0 0) 0 0 42 [some (.ref 0), some (.int (nI d)), some (.int (nI i)), some (.int (nI (td T d))), some (.int (nI x))] [.int (bI ((nt M d).testBit x))] w
          refine r_if_ne (pc' := 45) (P := ((nt M d).testBit x) = false) (tgt := 70) dX6_canHaveBeen_42 (by decide) rfl (bI_0) (fun h42 => ?_) (fun h42 => ?_)
          · skip
            refine r_iinc (pc' := 73) (lo' := [some (.ref 0), some (.int (nI d)), some (.int (nI i)), some (.int (nI (td T d))), some (.int (nI (x + 1)))]) dX6_canHaveBeen_70 rfl (by decide) rfl (nI_add x 1) rfl ?_
            refine r_goto (tgt := 26) dX6_canHaveBeen_73 (by decide) ?_
            exact ih26 (x + 1) (by omega) (by omega) (by rw [allb, ha]; first | (simp at h42; simp [h42]; done) | (simp [h65]; done))
          · skip
            refine r_aload_n (pc' := 46) dX6_canHaveBeen_45 rfl rfl ?_
            refine r_get (pc' := 49) fX6_26 dX6_canHaveBeen_46 rfl hX rfl ?_
            refine r_iload_n (pc' := 50) dX6_canHaveBeen_49 rfl rfl ?_
            refine r_iload (pc' := 52) dX6_canHaveBeen_50 rfl rfl ?_
            refine r_callV (pc' := 55) (av := [.int (nI d), .int (nI x)]) (rest := []) kX0_contentOf vX0_contentOf lX6_126 dX6_canHaveBeen_52 rfl hM.o rfl rfl rfl ⟨by decide, by decide, by decide⟩ rfl rfl (Nat.le_of_ble_eq_true rfl) (ct_X0_contentOf hM (d := d) (x := x) (by omega) (by omega) ?_)
            show Wp g yX6_canHaveBeen cX6_canHaveBeen 5 (some .boolean) 4 0 0 (px_MQ g Q 0 0) 0 0 55 [some (.ref 0), some (.int (nI d)), some (.int (nI i)), some (.int (nI (td T d))), some (.int (nI x))] [.int (nI (nc M d x))] w
            have e52 := hM.b.1 d x (by omega) (by omega)
            refine r_aload_n (pc' := 56) dX6_canHaveBeen_55 rfl rfl ?_
            refine r_get (pc' := 59) fX6_19 dX6_canHaveBeen_56 rfl hX rfl ?_
            refine r_iload_n (pc' := 60) dX6_canHaveBeen_59 rfl rfl ?_
            refine r_iload (pc' := 62) dX6_canHaveBeen_60 rfl rfl ?_
            refine r_callV (pc' := 65) (av := [.int (nI i), .int (nI x)]) (rest := [.int (nI (nc M d x))]) kX5_contentOf vX5_contentOf lX6_94 dX6_canHaveBeen_62 rfl hT.o rfl rfl rfl ⟨by decide, by decide, by decide⟩ rfl rfl (Nat.le_of_ble_eq_true rfl) (ct_X5_contentOf hT (i := i) (x := x) (by omega) (by omega) ?_)
            show Wp g yX6_canHaveBeen cX6_canHaveBeen 5 (some .boolean) 4 0 0 (px_MQ g Q 0 0) 0 0 65 [some (.ref 0), some (.int (nI d)), some (.int (nI i)), some (.int (nI (td T d))), some (.int (nI x))] [.int (nI (tc T i x)), .int (nI (nc M d x))] w
            have e62 := tc_le hO hT.b (i := i) (x := x) (by omega)
            refine r_icmp_eq (pc' := 68) (P := nc M d x = tc T i x) (tgt := 70) dX6_canHaveBeen_65 (by decide) rfl (nI_eq (a := nc M d x) (b := tc T i x) (by omega) (by omega)) (fun h65 => ?_) (fun h65 => ?_)
            · skip
              refine r_iinc (pc' := 73) (lo' := [some (.ref 0), some (.int (nI d)), some (.int (nI i)), some (.int (nI (td T d))), some (.int (nI (x + 1)))]) dX6_canHaveBeen_70 rfl (by decide) rfl (nI_add x 1) rfl ?_
              refine r_goto (tgt := 26) dX6_canHaveBeen_73 (by decide) ?_
              exact ih26 (x + 1) (by omega) (by omega) (by rw [allb, ha]; first | (simp at h42; simp [h42]; done) | (simp [h65]; done))
            · skip
              refine r_iconst (pc' := 69) (v := bI false) dX6_canHaveBeen_68 rfl rfl ?_
              refine r_zreturn dX6_canHaveBeen_69 rfl (bI_nar _) ?_
              refine px_eqB hQ ?_
              symm
              rw [canS, Bool.and_eq_false_iff]
              right
              rw [Bool.eq_false_iff]
              intro hc
              have := (allb_iff _ _).mp hc x (by omega)
              simp [h42, h65] at this
    exact L26 ((td T d) + 1) 0 (Nat.lt_succ_self _) (by omega) (rfl)
  · skip
    refine r_iconst (pc' := 22) (v := bI false) dX6_canHaveBeen_21 rfl rfl ?_
    refine r_zreturn dX6_canHaveBeen_22 rfl (bI_nar _) ?_
    refine px_eqB hQ ?_
    simp only [canS, show decide (tl T i ≤ td T d) = false from decide_eq_false (by omega)]; rfl
set_option maxHeartbeats 200000 in
theorem ct_X6_fitsOf {g : px_G} {w : px_W} {Q : px_Q} {ik : Int32} {tr : Int64} {T : px_T} {M : px_N} (hX : w[0]? = some (.inr (5, [.ref 1, .ref 9, .ref 15, .ref 18, .ref 51, .ref 59, .int ik, .long tr]))) (hT : SubA w 9 T) (hO : TOK T) (hM : MorA w 15 M) {d : Nat} (hd : d < tD T) (hQ : Q (some (.int (nI (fitS T M d)))) w) : Ct g yX6_fitsOf cX6_fitsOf 4 (some .int) 5 0 0 [.ref 0, .int (nI d)] w Q := by
  refine Ct.of kX6_fitsOf (by omega) (lo := [some (.ref 0), some (.int (nI d)), none, none]) rfl (px_cat1 rfl) (Nat.le_of_ble_eq_true rfl) ?_
  obtain ⟨⟨sb1, sb2, sb3⟩, sb4, sb5⟩ := hT.b
  obtain ⟨mB1, mB2, mB3⟩ := hM.b
  refine r_iconst (pc' := 1) (v := nI 0) dX6_fitsOf_0 rfl rfl ?_
  refine r_istore_n (pc' := 2) (lo' := [some (.ref 0), some (.int (nI d)), some (.int (nI 0)), none]) dX6_fitsOf_1 rfl (by decide) rfl ?_
  refine r_iconst (pc' := 3) (v := nI 0) dX6_fitsOf_2 rfl rfl ?_
  refine r_istore_n (pc' := 4) (lo' := [some (.ref 0), some (.int (nI d)), some (.int (nI 0)), some (.int (nI 0))]) dX6_fitsOf_3 rfl (by decide) rfl ?_
  have L4 : ∀ (fu : Nat) (i : Nat), tW T - i < fu → i ≤ tW T → Wp g yX6_fitsOf cX6_fitsOf 4 (some .int) 5 0 0 (px_MQ g Q 0 0) 0 0 4 [some (.ref 0), some (.int (nI d)), some (.int (nI (bset (canS T M d) i))), some (.int (nI i))] [] w := by
    intro fu; induction fu with
    | zero => intro i hm; exact absurd hm (Nat.not_lt_zero _)
    | succ fu ih =>
      intro i hm hi
      have ih4 := ih; clear ih
      refine r_iload_n (pc' := 5) dX6_fitsOf_4 rfl rfl ?_
      refine r_aload_n (pc' := 6) dX6_fitsOf_5 rfl rfl ?_
      refine r_get (pc' := 9) fX6_19 dX6_fitsOf_6 rfl hX rfl ?_
      refine r_getN (pc' := 12) fX6_238 dX6_fitsOf_9 rfl hT.o rfl ?_
      refine r_icmp_ge (pc' := 15) (P := tW T ≤ i) (tgt := 36) dX6_fitsOf_12 (by decide) rfl (nI_leI (a := tW T) (b := i) (by omega) (by omega)) (fun h12 => ?_) (fun h12 => ?_)
      · have hi2 : i = tW T := by omega
        subst hi2
        refine r_iload_n (pc' := 37) dX6_fitsOf_36 rfl rfl ?_
        refine r_ireturn dX6_fitsOf_37 rfl ?_
        exact hQ
      · skip
        refine r_aload_n (pc' := 16) dX6_fitsOf_15 rfl rfl ?_
        refine r_iload_n (pc' := 17) dX6_fitsOf_16 rfl rfl ?_
        refine r_iload_n (pc' := 18) dX6_fitsOf_17 rfl rfl ?_
        refine r_callV (pc' := 21) (av := [.int (nI d), .int (nI i)]) (rest := []) kX6_canHaveBeen vX6_canHaveBeen lX6_252 dX6_fitsOf_18 rfl hX rfl rfl rfl ⟨by decide, by decide, by decide⟩ rfl rfl (Nat.le_of_ble_eq_true rfl) (ct_X6_canHaveBeen hX hT hO hM (d := d) (i := i) (by omega) (by omega) ?_)
        show Wp g yX6_fitsOf cX6_fitsOf 4 (some .int) 5 0 0 (px_MQ g Q 0 0) 0 0 21 [some (.ref 0), some (.int (nI d)), some (.int (nI (bset (canS T M d) i))), some (.int (nI i))] [.int (bI (canS T M d i))] w
        refine r_if_eq (pc' := 24) (P := (canS T M d i) = false) (tgt := 30) dX6_fitsOf_21 (by decide) rfl (bI_0) (fun h21 => ?_) (fun h21 => ?_)
        · skip
          refine r_iinc (pc' := 33) (lo' := [some (.ref 0), some (.int (nI d)), some (.int (nI (bset (canS T M d) i))), some (.int (nI (i + 1)))]) dX6_fitsOf_30 rfl (by decide) rfl (nI_add i 1) rfl ?_
          refine r_goto (tgt := 4) dX6_fitsOf_33 (by decide) ?_
          first | rw [← bset_t (p := canS T M d) (n := i) (by simpa using h21)] | rw [← bset_f (p := canS T M d) (n := i) h21]
          exact ih4 (i + 1) (by omega) (by omega)
        · skip
          refine r_iload_n (pc' := 25) dX6_fitsOf_24 rfl rfl ?_
          refine r_iconst (pc' := 26) (v := nI 1) dX6_fitsOf_25 rfl rfl ?_
          refine r_iload_n (pc' := 27) dX6_fitsOf_26 rfl rfl ?_
          refine r_ishl (pc' := 28) (v := nI (2 ^ i)) dX6_fitsOf_27 rfl (shl1_n (b := i) (by omega)) ?_
          refine r_ior (pc' := 29) (v := nI ((bset (canS T M d) i) ||| (2 ^ i))) dX6_fitsOf_28 rfl (or_n (bset (canS T M d) i) (2 ^ i)) ?_
          refine r_istore_n (pc' := 30) (lo' := [some (.ref 0), some (.int (nI d)), some (.int (nI ((bset (canS T M d) i) ||| (2 ^ i)))), some (.int (nI i))]) dX6_fitsOf_29 rfl (by decide) rfl ?_
          refine r_iinc (pc' := 33) (lo' := [some (.ref 0), some (.int (nI d)), some (.int (nI ((bset (canS T M d) i) ||| (2 ^ i)))), some (.int (nI (i + 1)))]) dX6_fitsOf_30 rfl (by decide) rfl (nI_add i 1) rfl ?_
          refine r_goto (tgt := 4) dX6_fitsOf_33 (by decide) ?_
          first | rw [← bset_t (p := canS T M d) (n := i) (by simpa using h21)] | rw [← bset_f (p := canS T M d) (n := i) h21]
          exact ih4 (i + 1) (by omega) (by omega)
  exact L4 ((tW T) + 1) 0 (Nat.lt_succ_self _) (by omega)
