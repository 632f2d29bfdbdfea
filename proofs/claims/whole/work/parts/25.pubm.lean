set_option maxHeartbeats 200000 in
theorem ct_X6_rakes {g : px_G} {w : px_W} {Q : px_Q} {ik : Int32} {tr : Int64} {T : px_T} {M : px_N} (hX : w[0]? = some (.inr (5, [.ref 1, .ref 9, .ref 15, .ref 18, .ref 51, .ref 59, .int ik, .long tr]))) (hT : SubA w 9 T) (hO : TOK T) (hM : MorA w 15 M) {U : List px_N} (hU : PastA w U) {a b : Int32} (hQ : ∀ w', MorA w' 15 (rakesM T M a b) → PastA w' (rakesU T M U a b) → Frm w w' 15 51 → Q (some (.int (rakesR T a b))) w') : Ct g yX6_rakes cX6_rakes 5 (some .int) 5 0 0 [.ref 0, .int a, .int b] w Q := by
  refine Ct.of kX6_rakes (by omega) (lo := [some (.ref 0), some (.int a), some (.int b), none, none]) rfl (px_cat1 rfl) (Nat.le_of_ble_eq_true rfl) ?_
  obtain ⟨⟨sb1, sb2, sb3⟩, sb4, sb5⟩ := hT.b
  obtain ⟨mB1, mB2, mB3⟩ := hM.b
  obtain ⟨f, pf, p3⟩ := hU.o
  have pl := hU.len
  refine r_aload_n (pc' := 1) dX6_rakes_0 rfl rfl ?_
  refine r_get (pc' := 4) fX6_19 dX6_rakes_1 rfl hX rfl ?_
  refine r_iload_n (pc' := 5) dX6_rakes_4 rfl rfl ?_
  refine r_callV (pc' := 8) (av := [.int a]) (rest := []) kX5_hasDrive vX5_hasDrive lX6_98 dX6_rakes_5 rfl hT.o rfl rfl rfl ⟨by decide, by decide, by decide⟩ rfl rfl (Nat.le_of_ble_eq_true rfl) (ct_X5_hasDrive hT ?_)
  show Wp g yX6_rakes cX6_rakes 5 (some .int) 5 0 0 (px_MQ g Q 0 0) 0 0 8 [some (.ref 0), some (.int a), some (.int b), none, none] [.int (bI (hasI a (tD T)))] w
  refine r_if_eq (pc' := 11) (P := (hasI a (tD T)) = false) (tgt := 22) dX6_rakes_8 (by decide) rfl (bI_0) (fun h8 => ?_) (fun h8 => ?_)
  · skip
    refine r_iconst (pc' := 23) (v := (-1)) dX6_rakes_22 rfl rfl ?_
    refine r_ireturn dX6_rakes_23 rfl ?_
    refine px_eq (hQ w ?_ ?_ Frm.rf) ?_
    · first | (simpa [rakesR, rakesM, rakesU, rakO, rakC, h8] using hM) | (simpa [rakesR, rakesM, rakesU, rakO, rakC, h19] using hM)
    · first | (simpa [rakesR, rakesM, rakesU, rakO, rakC, h8] using hU) | (simpa [rakesR, rakesM, rakesU, rakO, rakC, h19] using hU)
    · first | (simp [rakesR, rakesM, rakesU, rakO, rakC, h8]; done) | (simp [rakesR, rakesM, rakesU, rakO, rakC, h19]; done)
  · have h8' := (by simpa using h8 : hasI a _ = true)
    obtain ⟨d, hd, rfl⟩ := hasI_t h8' (by omega)
    refine r_aload_n (pc' := 12) dX6_rakes_11 rfl rfl ?_
    refine r_get (pc' := 15) fX6_19 dX6_rakes_12 rfl hX rfl ?_
    refine r_iload_n (pc' := 16) dX6_rakes_15 rfl rfl ?_
    refine r_callV (pc' := 19) (av := [.int b]) (rest := []) kX5_hasWord vX5_hasWord lX6_77 dX6_rakes_16 rfl hT.o rfl rfl rfl ⟨by decide, by decide, by decide⟩ rfl rfl (Nat.le_of_ble_eq_true rfl) (ct_X5_hasWord hT ?_)
    show Wp g yX6_rakes cX6_rakes 5 (some .int) 5 0 0 (px_MQ g Q 0 0) 0 0 19 [some (.ref 0), some (.int (nI d)), some (.int b), none, none] [.int (bI (hasI b (tW T)))] w
    refine r_if_ne (pc' := 22) (P := (hasI b (tW T)) = false) (tgt := 24) dX6_rakes_19 (by decide) rfl (bI_0) (fun h19 => ?_) (fun h19 => ?_)
    · have h19' := (by simpa using h19 : hasI b _ = true)
      obtain ⟨i, hi, rfl⟩ := hasI_t h19' (by omega)
      refine r_aload_n (pc' := 25) dX6_rakes_24 rfl rfl ?_
      refine r_get (pc' := 28) fX6_19 dX6_rakes_25 rfl hX rfl ?_
      refine r_iload_n (pc' := 29) dX6_rakes_28 rfl rfl ?_
      refine r_callV (pc' := 32) (av := [.int (nI d)]) (rest := []) kX5_longOfDrive vX5_longOfDrive lX6_101 dX6_rakes_29 rfl hT.o rfl rfl rfl ⟨by decide, by decide, by decide⟩ rfl rfl (Nat.le_of_ble_eq_true rfl) (ct_X5_longOfDrive hT (i := d) (by omega) ?_)
      show Wp g yX6_rakes cX6_rakes 5 (some .int) 5 0 0 (px_MQ g Q 0 0) 0 0 32 [some (.ref 0), some (.int (nI d)), some (.int (nI i)), none, none] [.int (nI (td T d))] w
      have e29 := (hO.2.2.1 d (by omega))
      refine r_aload_n (pc' := 33) dX6_rakes_32 rfl rfl ?_
      refine r_get (pc' := 36) fX6_19 dX6_rakes_33 rfl hX rfl ?_
      refine r_iload_n (pc' := 37) dX6_rakes_36 rfl rfl ?_
      refine r_callV (pc' := 40) (av := [.int (nI i)]) (rest := [.int (nI (td T d))]) kX5_longOfWord vX5_longOfWord lX6_81 dX6_rakes_37 rfl hT.o rfl rfl rfl ⟨by decide, by decide, by decide⟩ rfl rfl (Nat.le_of_ble_eq_true rfl) (ct_X5_longOfWord hT (i := i) (by omega) ?_)
      show Wp g yX6_rakes cX6_rakes 5 (some .int) 5 0 0 (px_MQ g Q 0 0) 0 0 40 [some (.ref 0), some (.int (nI d)), some (.int (nI i)), none, none] [.int (nI (tl T i)), .int (nI (td T d))] w
      have e37 := hT.b.2.1 i (by omega)
      refine r_isub (pc' := 41) (v := (nI (td T d)) - (nI (tl T i))) dX6_rakes_40 rfl (rfl) ?_
      refine r_istore_n (pc' := 42) (lo' := [some (.ref 0), some (.int (nI d)), some (.int (nI i)), some (.int ((nI (td T d)) - (nI (tl T i)))), none]) dX6_rakes_41 rfl (by decide) rfl ?_
      refine r_iload_n (pc' := 43) dX6_rakes_42 rfl rfl ?_
      refine r_if_ge (pc' := 46) (P := tl T i ≤ td T d) (tgt := 49) dX6_rakes_43 (by decide) rfl (ge_sub (by omega) (by omega)) (fun h43 => ?_) (fun h43 => ?_)
      · skip
        refine r_aload_n (pc' := 50) dX6_rakes_49 rfl rfl ?_
        refine r_get (pc' := 53) fX6_33 dX6_rakes_50 rfl hX rfl ?_
        refine r_aload_n (pc' := 54) dX6_rakes_53 rfl rfl ?_
        refine r_get (pc' := 57) fX6_26 dX6_rakes_54 rfl hX rfl ?_
        refine r_callV (pc' := 60) (av := [.ref 15]) (rest := []) kX1_remember vX1_remember lX6_133 dX6_rakes_57 rfl p3 rfl rfl rfl ⟨by decide, by decide, by decide⟩ rfl rfl (Nat.le_of_ble_eq_true rfl) (ct_X1_remember hU hM (fun w57 hU57 hF57 => ?_))
        have hT_w57 := hT.fr hF57 (by omega)
        have hM_w57 := hM.fr hF57 (by omega)
        show Wp g yX6_rakes cX6_rakes 5 (some .int) 5 0 0 (px_MQ g Q 0 0) 0 0 60 [some (.ref 0), some (.int (nI d)), some (.int (nI i)), some (.int ((nI (td T d)) - (nI (tl T i)))), none] [] w57
        refine r_iconst (pc' := 61) (v := nI 0) dX6_rakes_60 rfl rfl ?_
        refine r_istore (pc' := 63) (lo' := [some (.ref 0), some (.int (nI d)), some (.int (nI i)), some (.int ((nI (td T d)) - (nI (tl T i)))), some (.int (nI 0))]) dX6_rakes_61 rfl (by decide) rfl ?_
        have L63 : ∀ (fu : Nat) (x : Nat) (w1 : px_W), 8 - x < fu → x ≤ 8 → MorA w1 15 (nRk T M d i x) → Frm w57 w1 15 18 → Wp g yX6_rakes cX6_rakes 5 (some .int) 5 0 0 (px_MQ g Q 0 0) 0 0 63 [some (.ref 0), some (.int (nI d)), some (.int (nI i)), some (.int ((nI (td T d)) - (nI (tl T i)))), some (.int (nI x))] [] w1 := by
          intro fu; induction fu with
          | zero => intro x w1 hm; exact absurd hm (Nat.not_lt_zero _)
          | succ fu ih =>
            intro x w1 hm hx hM1 hF1
            have ih63 := ih; clear ih
            refine r_iload (pc' := 65) dX6_rakes_63 rfl rfl ?_
            refine r_bipush (pc' := 67) (v := nI 8) dX6_rakes_65 rfl rfl ?_
            refine r_icmp_ge (pc' := 70) (P := 8 ≤ x) (tgt := 96) dX6_rakes_67 (by decide) rfl (nI_leI (a := 8) (b := x) (by omega) (by omega)) (fun h67 => ?_) (fun h67 => ?_)
            · have hx2 : x = 8 := by omega
              subst hx2
              refine r_aload_n (pc' := 97) dX6_rakes_96 rfl rfl ?_
              refine r_get (pc' := 100) fX6_26 dX6_rakes_97 rfl (hF1.at (hF57.at hX (by omega)) (by omega)) rfl ?_
              refine r_iload_n (pc' := 101) dX6_rakes_100 rfl rfl ?_
              refine r_iconst (pc' := 102) (v := nI 0) dX6_rakes_101 rfl rfl ?_
              refine r_callV (pc' := 105) (av := [.int (nI d), .int (nI 0)]) (rest := []) kX0_setTrodden vX0_setTrodden lX6_141 dX6_rakes_102 rfl hM1.o rfl rfl rfl ⟨by decide, by decide, by decide⟩ rfl rfl (Nat.le_of_ble_eq_true rfl) (ct_X0_setTrodden hM1 (d := d) (v := 0) (by omega) (by omega) (fun w102 hM102 hF102 => ?_))
              have hsub9_w102 := (hT_w57.fr hF1 (by omega)).fr hF102 (by omega)
              show Wp g yX6_rakes cX6_rakes 5 (some .int) 5 0 0 (px_MQ g Q 0 0) 0 0 105 [some (.ref 0), some (.int (nI d)), some (.int (nI i)), some (.int ((nI (td T d)) - (nI (tl T i)))), some (.int (nI 8))] [] w102
              refine r_iload_n (pc' := 106) dX6_rakes_105 rfl rfl ?_
              have ho : rakO T (nI d) (nI i) = true := by simp [rakO, rakC, h8', h19', nI_cl (show d < 2 ^ 31 by omega), nI_cl (show i < 2 ^ 31 by omega), h43]
              refine r_ireturn dX6_rakes_106 rfl ?_
              refine px_eq (hQ w102 ?_ ?_ ?_) ?_
              · rw [rakesM, if_pos ho, nI_cl (show d < 2 ^ 31 by omega), nI_cl (show i < 2 ^ 31 by omega)]; exact hM102
              · rw [rakesU, if_pos ho]; exact (hU57.fr hF1 (by omega)).fr hF102 (by omega)
              · exact (hF57.tr hF1 (a := 15) (b := 51) (by omega) (by omega) (by omega) (by omega)).tr hF102 (by omega) (by omega) (by omega) (by omega)
              · rw [rakesR, if_pos ho, nI_cl (show d < 2 ^ 31 by omega), nI_cl (show i < 2 ^ 31 by omega)]; exact pk_sub (by omega)
            · skip
              refine r_aload_n (pc' := 71) dX6_rakes_70 rfl rfl ?_
              refine r_get (pc' := 74) fX6_26 dX6_rakes_71 rfl (hF1.at (hF57.at hX (by omega)) (by omega)) rfl ?_
              refine r_iload_n (pc' := 75) dX6_rakes_74 rfl rfl ?_
              refine r_iload (pc' := 77) dX6_rakes_75 rfl rfl ?_
              refine r_aload_n (pc' := 78) dX6_rakes_77 rfl rfl ?_
              refine r_get (pc' := 81) fX6_19 dX6_rakes_78 rfl (hF1.at (hF57.at hX (by omega)) (by omega)) rfl ?_
              refine r_iload_n (pc' := 82) dX6_rakes_81 rfl rfl ?_
              refine r_iload (pc' := 84) dX6_rakes_82 rfl rfl ?_
              refine r_callV (pc' := 87) (av := [.int (nI i), .int (nI x)]) (rest := [.int (nI x), .int (nI d), .ref 15]) kX5_contentOf vX5_contentOf lX6_94 dX6_rakes_84 rfl ((hT_w57.fr hF1 (by omega)).o) rfl rfl rfl ⟨by decide, by decide, by decide⟩ rfl rfl (Nat.le_of_ble_eq_true rfl) (ct_X5_contentOf (hT_w57.fr hF1 (by omega)) (i := i) (x := x) (by omega) (by omega) ?_)
              show Wp g yX6_rakes cX6_rakes 5 (some .int) 5 0 0 (px_MQ g Q 0 0) 0 0 87 [some (.ref 0), some (.int (nI d)), some (.int (nI i)), some (.int ((nI (td T d)) - (nI (tl T i)))), some (.int (nI x))] [.int (nI (tc T i x)), .int (nI x), .int (nI d), .ref 15] w1
              have e84 := tc_le hO (hT_w57.fr hF1 (by omega)).b (i := i) (x := x) (by omega)
              refine r_callV (pc' := 90) (av := [.int (nI d), .int (nI x), .int (nI (tc T i x))]) (rest := []) kX0_lay vX0_lay lX6_137 dX6_rakes_87 rfl hM1.o rfl rfl rfl ⟨by decide, by decide, by decide⟩ rfl rfl (Nat.le_of_ble_eq_true rfl) (ct_X0_lay hM1 (d := d) (x := x) (v := tc T i x) (by omega) (by omega) (by omega) (fun w87 hM87 hF87 => ?_))
              have hsub9_w87 := (hT_w57.fr hF1 (by omega)).fr hF87 (by omega)
              show Wp g yX6_rakes cX6_rakes 5 (some .int) 5 0 0 (px_MQ g Q 0 0) 0 0 90 [some (.ref 0), some (.int (nI d)), some (.int (nI i)), some (.int ((nI (td T d)) - (nI (tl T i)))), some (.int (nI x))] [] w87
              refine r_iinc (pc' := 93) (lo' := [some (.ref 0), some (.int (nI d)), some (.int (nI i)), some (.int ((nI (td T d)) - (nI (tl T i)))), some (.int (nI (x + 1)))]) dX6_rakes_90 rfl (by decide) rfl (nI_add x 1) rfl ?_
              refine r_goto (tgt := 63) dX6_rakes_93 (by decide) ?_
              rw [nRk_s] at hM87
              exact ih63 (x + 1) w87 (by omega) (by omega) (hM87) (hF1.tr hF87 (by omega) (by omega) (by omega) (by omega))
        exact L63 ((8) + 1) 0 w57 (Nat.lt_succ_self _) (by omega) (by rw [nRk_0]; exact hM_w57) (Frm.rf)
      · skip
        refine r_bipush (pc' := 48) (v := (-2)) dX6_rakes_46 rfl rfl ?_
        refine r_ireturn dX6_rakes_48 rfl ?_
        refine px_eq (hQ w ?_ ?_ Frm.rf) ?_
        · first | (simpa [rakesR, rakesM, rakesU, rakO, rakC, h8', h19', nI_cl (show d < 2 ^ 31 by omega), nI_cl (show i < 2 ^ 31 by omega), h43] using hM)
        · first | (simpa [rakesR, rakesM, rakesU, rakO, rakC, h8', h19', nI_cl (show d < 2 ^ 31 by omega), nI_cl (show i < 2 ^ 31 by omega), h43] using hU)
        · first | (simp [rakesR, rakesM, rakesU, rakO, rakC, h8', h19', nI_cl (show d < 2 ^ 31 by omega), nI_cl (show i < 2 ^ 31 by omega), h43]; done)
    · skip
      refine r_iconst (pc' := 23) (v := (-1)) dX6_rakes_22 rfl rfl ?_
      refine r_ireturn dX6_rakes_23 rfl ?_
      refine px_eq (hQ w ?_ ?_ Frm.rf) ?_
      · first | (simpa [rakesR, rakesM, rakesU, rakO, rakC, h8] using hM) | (simpa [rakesR, rakesM, rakesU, rakO, rakC, h19] using hM)
      · first | (simpa [rakesR, rakesM, rakesU, rakO, rakC, h8] using hU) | (simpa [rakesR, rakesM, rakesU, rakO, rakC, h19] using hU)
      · first | (simp [rakesR, rakesM, rakesU, rakO, rakC, h8]; done) | (simp [rakesR, rakesM, rakesU, rakO, rakC, h19]; done)
set_option maxHeartbeats 200000 in
theorem ct_X6_treads {g : px_G} {w : px_W} {Q : px_Q} {ik : Int32} {tr : Int64} {T : px_T} {M : px_N} (hX : w[0]? = some (.inr (5, [.ref 1, .ref 9, .ref 15, .ref 18, .ref 51, .ref 59, .int ik, .long tr]))) (hT : SubA w 9 T) (hO : TOK T) (hM : MorA w 15 M) {U : List px_N} (hU : PastA w U) {a b c : Int32} (hQ : ∀ w', MorA w' 15 (treadsM T M a b c) → PastA w' (treadsU T M U a b c) → Frm w w' 15 51 → Q (some (.int (treadsR T M a b c))) w') : Ct g yX6_treads cX6_treads 4 (some .int) 5 0 0 [.ref 0, .int a, .int b, .int c] w Q := by
  refine Ct.of kX6_treads (by omega) (lo := [some (.ref 0), some (.int a), some (.int b), some (.int c)]) rfl (px_cat1 rfl) (Nat.le_of_ble_eq_true rfl) ?_
  obtain ⟨⟨sb1, sb2, sb3⟩, sb4, sb5⟩ := hT.b
  obtain ⟨mB1, mB2, mB3⟩ := hM.b
  obtain ⟨f, pf, p3⟩ := hU.o
  have pl := hU.len
  refine r_aload_n (pc' := 1) dX6_treads_0 rfl rfl ?_
  refine r_get (pc' := 4) fX6_19 dX6_treads_1 rfl hX rfl ?_
  refine r_iload_n (pc' := 5) dX6_treads_4 rfl rfl ?_
  refine r_callV (pc' := 8) (av := [.int a]) (rest := []) kX5_hasDrive vX5_hasDrive lX6_98 dX6_treads_5 rfl hT.o rfl rfl rfl ⟨by decide, by decide, by decide⟩ rfl rfl (Nat.le_of_ble_eq_true rfl) (ct_X5_hasDrive hT ?_)
  show Wp g yX6_treads cX6_treads 4 (some .int) 5 0 0 (px_MQ g Q 0 0) 0 0 8 [some (.ref 0), some (.int a), some (.int b), some (.int c)] [.int (bI (hasI a (tD T)))] w
  refine r_if_eq (pc' := 11) (P := (hasI a (tD T)) = false) (tgt := 28) dX6_treads_8 (by decide) rfl (bI_0) (fun h8 => ?_) (fun h8 => ?_)
  · skip
    refine r_iconst (pc' := 29) (v := (-1)) dX6_treads_28 rfl rfl ?_
    refine r_ireturn dX6_treads_29 rfl ?_
    refine px_eq (hQ w ?_ ?_ Frm.rf) ?_
    · first | (simpa [treadsR, treadsM, treadsU, treO, h8] using hM) | (simpa [treadsR, treadsM, treadsU, treO, hb] using hM) | (simpa [treadsR, treadsM, treadsU, treO, h25] using hM)
    · first | (simpa [treadsR, treadsM, treadsU, treO, h8] using hU) | (simpa [treadsR, treadsM, treadsU, treO, hb] using hU) | (simpa [treadsR, treadsM, treadsU, treO, h25] using hU)
    · first | (simp [treadsR, treadsM, treadsU, treO, h8]; done) | (simp [treadsR, treadsM, treadsU, treO, hb]; done) | (simp [treadsR, treadsM, treadsU, treO, h25]; done)
  · have h8' := (by simpa using h8 : hasI a _ = true)
    obtain ⟨d, hd, rfl⟩ := hasI_t h8' (by omega)
    refine r_iload_n (pc' := 12) dX6_treads_11 rfl rfl ?_
    refine r_if_lt (pc' := 15) (P := b < 0) (tgt := 28) dX6_treads_12 (by decide) rfl (Iff.rfl) (fun h12 => ?_) (fun h12 => ?_)
    · have hb := lt0_hasI (n := 8) h12
      refine r_iconst (pc' := 29) (v := (-1)) dX6_treads_28 rfl rfl ?_
      refine r_ireturn dX6_treads_29 rfl ?_
      refine px_eq (hQ w ?_ ?_ Frm.rf) ?_
      · first | (simpa [treadsR, treadsM, treadsU, treO, h8] using hM) | (simpa [treadsR, treadsM, treadsU, treO, hb] using hM) | (simpa [treadsR, treadsM, treadsU, treO, h25] using hM)
      · first | (simpa [treadsR, treadsM, treadsU, treO, h8] using hU) | (simpa [treadsR, treadsM, treadsU, treO, hb] using hU) | (simpa [treadsR, treadsM, treadsU, treO, h25] using hU)
      · first | (simp [treadsR, treadsM, treadsU, treO, h8]; done) | (simp [treadsR, treadsM, treadsU, treO, hb]; done) | (simp [treadsR, treadsM, treadsU, treO, h25]; done)
    · skip
      refine r_iload_n (pc' := 16) dX6_treads_15 rfl rfl ?_
      refine r_bipush (pc' := 18) (v := nI 7) dX6_treads_16 rfl rfl ?_
      refine r_icmp_gt (pc' := 21) (P := (nI 7) < b) (tgt := 28) dX6_treads_18 (by decide) rfl (Iff.rfl) (fun h18 => ?_) (fun h18 => ?_)
      · have hb := gt_hasI (n := 7) (by omega) h18
        refine r_iconst (pc' := 29) (v := (-1)) dX6_treads_28 rfl rfl ?_
        refine r_ireturn dX6_treads_29 rfl ?_
        refine px_eq (hQ w ?_ ?_ Frm.rf) ?_
        · first | (simpa [treadsR, treadsM, treadsU, treO, h8] using hM) | (simpa [treadsR, treadsM, treadsU, treO, hb] using hM) | (simpa [treadsR, treadsM, treadsU, treO, h25] using hM)
        · first | (simpa [treadsR, treadsM, treadsU, treO, h8] using hU) | (simpa [treadsR, treadsM, treadsU, treO, hb] using hU) | (simpa [treadsR, treadsM, treadsU, treO, h25] using hU)
        · first | (simp [treadsR, treadsM, treadsU, treO, h8]; done) | (simp [treadsR, treadsM, treadsU, treO, hb]; done) | (simp [treadsR, treadsM, treadsU, treO, h25]; done)
      · have h18' := ngt_hasI (n := 7) (by omega) h12 h18
        obtain ⟨x, hx, rfl⟩ := hasI_t h18' (by omega)
        refine r_iload_n (pc' := 22) dX6_treads_21 rfl rfl ?_
        refine r_callS (pc' := 25) (av := [.int c]) (rest := []) kX6_isStride vX6_isStride lX6_145 dX6_treads_22 rfl rfl rfl ⟨by decide, by decide, by decide⟩ rfl rfl (Nat.le_of_ble_eq_true rfl) (ct_X6_isStride ?_)
        show Wp g yX6_treads cX6_treads 4 (some .int) 5 0 0 (px_MQ g Q 0 0) 0 0 25 [some (.ref 0), some (.int (nI d)), some (.int (nI x)), some (.int c)] [.int (bI (strI c))] w
        refine r_if_ne (pc' := 28) (P := (strI c) = false) (tgt := 30) dX6_treads_25 (by decide) rfl (bI_0) (fun h25 => ?_) (fun h25 => ?_)
        · have h25' : strI c = true := by simpa using h25
          obtain ⟨s, hs1, hs2, rfl⟩ := strI_t h25'
          have e25 := hO.2.2.1 d hd
          have e26 := trk_lt (f := x) (s := s) e25.2
          refine r_aload_n (pc' := 31) dX6_treads_30 rfl rfl ?_
          refine r_get (pc' := 34) fX6_33 dX6_treads_31 rfl hX rfl ?_
          refine r_aload_n (pc' := 35) dX6_treads_34 rfl rfl ?_
          refine r_get (pc' := 38) fX6_26 dX6_treads_35 rfl hX rfl ?_
          refine r_callV (pc' := 41) (av := [.ref 15]) (rest := []) kX1_remember vX1_remember lX6_133 dX6_treads_38 rfl p3 rfl rfl rfl ⟨by decide, by decide, by decide⟩ rfl rfl (Nat.le_of_ble_eq_true rfl) (ct_X1_remember hU hM (fun w38 hU38 hF38 => ?_))
          have hT_w38 := hT.fr hF38 (by omega)
          have hM_w38 := hM.fr hF38 (by omega)
          show Wp g yX6_treads cX6_treads 4 (some .int) 5 0 0 (px_MQ g Q 0 0) 0 0 41 [some (.ref 0), some (.int (nI d)), some (.int (nI x)), some (.int (nI s))] [] w38
          refine r_aload_n (pc' := 42) dX6_treads_41 rfl rfl ?_
          refine r_get (pc' := 45) fX6_26 dX6_treads_42 rfl (hF38.at hX (by omega)) rfl ?_
          refine r_iload_n (pc' := 46) dX6_treads_45 rfl rfl ?_
          refine r_aload_n (pc' := 47) dX6_treads_46 rfl rfl ?_
          refine r_iload_n (pc' := 48) dX6_treads_47 rfl rfl ?_
          refine r_iload_n (pc' := 49) dX6_treads_48 rfl rfl ?_
          refine r_iload_n (pc' := 50) dX6_treads_49 rfl rfl ?_
          refine r_callV (pc' := 53) (av := [.int (nI d), .int (nI x), .int (nI s)]) (rest := [.int (nI d), .ref 15]) kX6_trackOn vX6_trackOn lX6_148 dX6_treads_50 rfl (hF38.at hX (by omega)) rfl rfl rfl ⟨by decide, by decide, by decide⟩ rfl rfl (Nat.le_of_ble_eq_true rfl) (ct_X6_trackOn (hF38.at hX (by omega)) hT_w38 hO hM_w38 (d := d) (f := x) (s := s) (by omega) (by omega) (by omega) ?_)
          show Wp g yX6_treads cX6_treads 4 (some .int) 5 0 0 (px_MQ g Q 0 0) 0 0 53 [some (.ref 0), some (.int (nI d)), some (.int (nI x)), some (.int (nI s))] [.int (nI (trk x s (td T d))), .int (nI d), .ref 15] w38
          have e50 := trk_lt (f := x) (s := s) (hO.2.2.1 d (by omega)).2
          refine r_callV (pc' := 56) (av := [.int (nI d), .int (nI (trk x s (td T d)))]) (rest := []) kX0_treadAlso vX0_treadAlso lX6_152 dX6_treads_53 rfl hM_w38.o rfl rfl rfl ⟨by decide, by decide, by decide⟩ rfl rfl (Nat.le_of_ble_eq_true rfl) (ct_X0_treadAlso hM_w38 (d := d) (b := trk x s (td T d)) (by omega) (by omega) (fun w53 hM53 hF53 => ?_))
          have hT_w53 := hT_w38.fr hF53 (by omega)
          have hU38_w53 := hU38.fr hF53 (by omega)
          show Wp g yX6_treads cX6_treads 4 (some .int) 5 0 0 (px_MQ g Q 0 0) 0 0 56 [some (.ref 0), some (.int (nI d)), some (.int (nI x)), some (.int (nI s))] [.int (nI (popc (ndif (trk x s (td T d)) (nt M d))))] w53
          have ho : treO T (nI d) (nI x) (nI s) = true := by rw [treO, h8', h18', h25']; rfl
          have hb : treB T (nI d) (nI x) (nI s) = trk x s (td T d) := by rw [treB, nI_cl (show d < 2 ^ 31 by omega), nI_cl (show x < 2 ^ 31 by omega), nI_cl (show s < 2 ^ 31 by omega)]
          refine r_ireturn dX6_treads_56 rfl ?_
          refine px_eq (hQ w53 ?_ ?_ ?_) ?_
          · rw [treadsM, if_pos ho, hb, nI_cl (show d < 2 ^ 31 by omega)]; exact hM53
          · rw [treadsU, if_pos ho]; exact hU38.fr hF53 (by omega)
          · exact hF38.tr hF53 (by omega) (by omega) (by omega) (by omega)
          · rw [treadsR, if_pos ho, hb, nI_cl (show d < 2 ^ 31 by omega)]
        · skip
          refine r_iconst (pc' := 29) (v := (-1)) dX6_treads_28 rfl rfl ?_
          refine r_ireturn dX6_treads_29 rfl ?_
          refine px_eq (hQ w ?_ ?_ Frm.rf) ?_
          · first | (simpa [treadsR, treadsM, treadsU, treO, h8] using hM) | (simpa [treadsR, treadsM, treadsU, treO, hb] using hM) | (simpa [treadsR, treadsM, treadsU, treO, h25] using hM)
          · first | (simpa [treadsR, treadsM, treadsU, treO, h8] using hU) | (simpa [treadsR, treadsM, treadsU, treO, hb] using hU) | (simpa [treadsR, treadsM, treadsU, treO, h25] using hU)
          · first | (simp [treadsR, treadsM, treadsU, treO, h8]; done) | (simp [treadsR, treadsM, treadsU, treO, hb]; done) | (simp [treadsR, treadsM, treadsU, treO, h25]; done)
set_option maxHeartbeats 200000 in
theorem ct_X6_cat {g : px_G} {w : px_W} {Q : px_Q} {ik : Int32} {tr : Int64} {T : px_T} {M : px_N} (hX : w[0]? = some (.inr (5, [.ref 1, .ref 9, .ref 15, .ref 18, .ref 51, .ref 59, .int ik, .long tr]))) (hT : SubA w 9 T) (hO : TOK T) (hM : MorA w 15 M) {U : List px_N} (hU : PastA w U) {a b : Int32} (hQ : ∀ w', MorA w' 15 (catM T M a b) → PastA w' (catU T M U a b) → Frm w w' 15 51 → Q (some (.int (catR T M a b))) w') : Ct g yX6_cat cX6_cat 3 (some .int) 5 0 0 [.ref 0, .int a, .int b] w Q := by
  refine Ct.of kX6_cat (by omega) (lo := [some (.ref 0), some (.int a), some (.int b)]) rfl (px_cat1 rfl) (Nat.le_of_ble_eq_true rfl) ?_
  obtain ⟨⟨sb1, sb2, sb3⟩, sb4, sb5⟩ := hT.b
  obtain ⟨mB1, mB2, mB3⟩ := hM.b
  obtain ⟨f, pf, p3⟩ := hU.o
  have pl := hU.len
  refine r_aload_n (pc' := 1) dX6_cat_0 rfl rfl ?_
  refine r_get (pc' := 4) fX6_19 dX6_cat_1 rfl hX rfl ?_
  refine r_iload_n (pc' := 5) dX6_cat_4 rfl rfl ?_
  refine r_iload_n (pc' := 6) dX6_cat_5 rfl rfl ?_
  refine r_callV (pc' := 9) (av := [.int a, .int b]) (rest := []) kX5_hasCell vX5_hasCell lX6_119 dX6_cat_6 rfl hT.o rfl rfl rfl ⟨by decide, by decide, by decide⟩ rfl rfl (Nat.le_of_ble_eq_true rfl) (ct_X5_hasCell hT hO ?_)
  show Wp g yX6_cat cX6_cat 3 (some .int) 5 0 0 (px_MQ g Q 0 0) 0 0 9 [some (.ref 0), some (.int a), some (.int b)] [.int (bI (hasC T a b))] w
  refine r_if_ne (pc' := 12) (P := (hasC T a b) = false) (tgt := 14) dX6_cat_9 (by decide) rfl (bI_0) (fun h9 => ?_) (fun h9 => ?_)
  · have h9' : hasC T a b = true := by simpa using h9
    obtain ⟨d, x, hd, hx, rfl, rfl⟩ := hasC_t hT.b hO h9'
    have e9 := hO.2.2.1 d hd
    have e10 := pow_256 (x := x) (by omega)
    refine r_aload_n (pc' := 15) dX6_cat_14 rfl rfl ?_
    refine r_get (pc' := 18) fX6_26 dX6_cat_15 rfl hX rfl ?_
    refine r_iload_n (pc' := 19) dX6_cat_18 rfl rfl ?_
    refine r_iload_n (pc' := 20) dX6_cat_19 rfl rfl ?_
    refine r_callV (pc' := 23) (av := [.int (nI d), .int (nI x)]) (rest := []) kX0_isTrodden vX0_isTrodden lX6_123 dX6_cat_20 rfl hM.o rfl rfl rfl ⟨by decide, by decide, by decide⟩ rfl rfl (Nat.le_of_ble_eq_true rfl) (ct_X0_isTrodden hM (d := d) (x := x) (by omega) (by omega) ?_)
    show Wp g yX6_cat cX6_cat 3 (some .int) 5 0 0 (px_MQ g Q 0 0) 0 0 23 [some (.ref 0), some (.int (nI d)), some (.int (nI x))] [.int (bI ((nt M d).testBit x))] w
    refine r_if_eq (pc' := 26) (P := ((nt M d).testBit x) = false) (tgt := 29) dX6_cat_23 (by decide) rfl (bI_0) (fun h23 => ?_) (fun h23 => ?_)
    · skip
      refine r_aload_n (pc' := 30) dX6_cat_29 rfl rfl ?_
      refine r_get (pc' := 33) fX6_33 dX6_cat_30 rfl hX rfl ?_
      refine r_aload_n (pc' := 34) dX6_cat_33 rfl rfl ?_
      refine r_get (pc' := 37) fX6_26 dX6_cat_34 rfl hX rfl ?_
      refine r_callV (pc' := 40) (av := [.ref 15]) (rest := []) kX1_remember vX1_remember lX6_133 dX6_cat_37 rfl p3 rfl rfl rfl ⟨by decide, by decide, by decide⟩ rfl rfl (Nat.le_of_ble_eq_true rfl) (ct_X1_remember hU hM (fun w37 hU37 hF37 => ?_))
      have hT_w37 := hT.fr hF37 (by omega)
      have hM_w37 := hM.fr hF37 (by omega)
      show Wp g yX6_cat cX6_cat 3 (some .int) 5 0 0 (px_MQ g Q 0 0) 0 0 40 [some (.ref 0), some (.int (nI d)), some (.int (nI x))] [] w37
      refine r_aload_n (pc' := 41) dX6_cat_40 rfl rfl ?_
      refine r_get (pc' := 44) fX6_26 dX6_cat_41 rfl (hF37.at hX (by omega)) rfl ?_
      refine r_iload_n (pc' := 45) dX6_cat_44 rfl rfl ?_
      refine r_iconst (pc' := 46) (v := nI 1) dX6_cat_45 rfl rfl ?_
      refine r_iload_n (pc' := 47) dX6_cat_46 rfl rfl ?_
      refine r_ishl (pc' := 48) (v := nI (2 ^ x)) dX6_cat_47 rfl (shl1_n (b := x) (by omega)) ?_
      refine r_callV (pc' := 51) (av := [.int (nI d), .int (nI (2 ^ x))]) (rest := []) kX0_treadAlso vX0_treadAlso lX6_152 dX6_cat_48 rfl hM_w37.o rfl rfl rfl ⟨by decide, by decide, by decide⟩ rfl rfl (Nat.le_of_ble_eq_true rfl) (ct_X0_treadAlso hM_w37 (d := d) (b := 2 ^ x) (by omega) (by omega) (fun w48 hM48 hF48 => ?_))
      have hT_w48 := hT_w37.fr hF48 (by omega)
      have hU37_w48 := hU37.fr hF48 (by omega)
      show Wp g yX6_cat cX6_cat 3 (some .int) 5 0 0 (px_MQ g Q 0 0) 0 0 51 [some (.ref 0), some (.int (nI d)), some (.int (nI x))] [.int (nI (popc (ndif (2 ^ x) (nt M d))))] w48
      refine r_pop (pc' := 52) dX6_cat_51 rfl rfl ?_
      refine r_aload_n (pc' := 53) dX6_cat_52 rfl rfl ?_
      refine r_get (pc' := 56) fX6_26 dX6_cat_53 rfl (hF48.at (hF37.at hX (by omega)) (by omega)) rfl ?_
      refine r_iload_n (pc' := 57) dX6_cat_56 rfl rfl ?_
      refine r_callV (pc' := 60) (av := [.int (nI d)]) (rest := []) kX0_troddenOf vX0_troddenOf lX6_104 dX6_cat_57 rfl hM48.o rfl rfl rfl ⟨by decide, by decide, by decide⟩ rfl rfl (Nat.le_of_ble_eq_true rfl) (ct_X0_troddenOf hM48 (d := d) (by omega) ?_)
      show Wp g yX6_cat cX6_cat 3 (some .int) 5 0 0 (px_MQ g Q 0 0) 0 0 60 [some (.ref 0), some (.int (nI d)), some (.int (nI x))] [.int (nI (nt (nTread M d (2 ^ x)) d))] w48
      have e57 := hM48.b.2.1 d (by omega)
      refine r_callS (pc' := 63) (av := [.int (nI (nt (nTread M d (2 ^ x)) d))]) (rest := []) kJ6_bitCount_0f7a4 vJ6_bitCount_0f7a4 lX6_155 dX6_cat_60 rfl rfl rfl ⟨by decide, by decide, by decide⟩ rfl rfl (Nat.le_of_ble_eq_true rfl) (ct_J6_bitCount_0f7a4 (n := nt (nTread M d (2 ^ x)) d) (by first | omega | assumption) ?_)
      show Wp g yX6_cat cX6_cat 3 (some .int) 5 0 0 (px_MQ g Q 0 0) 0 0 63 [some (.ref 0), some (.int (nI d)), some (.int (nI x))] [.int (nI (popc (nt (nTread M d (2 ^ x)) d)))] w48
      have e60 := popc_le (nt (nTread M d (2 ^ x)) d)
      have ho : catO T M (nI d) (nI x) = true := by rw [catO, h9', nI_cl (show d < 2 ^ 31 by omega), nI_cl (show x < 2 ^ 31 by omega), h23]; rfl
      refine r_ireturn dX6_cat_63 rfl ?_
      refine px_eq (hQ w48 ?_ ?_ ?_) ?_
      · rw [catM, if_pos ho, nI_cl (show d < 2 ^ 31 by omega), nI_cl (show x < 2 ^ 31 by omega)]; exact hM48
      · rw [catU, if_pos ho]; exact hU37.fr hF48 (by omega)
      · exact hF37.tr hF48 (by omega) (by omega) (by omega) (by omega)
      · rw [catR, if_pos ho, nI_cl (show d < 2 ^ 31 by omega), nI_cl (show x < 2 ^ 31 by omega), nt_nTread]
    · skip
      refine r_bipush (pc' := 28) (v := (-2)) dX6_cat_26 rfl rfl ?_
      refine r_ireturn dX6_cat_28 rfl ?_
      refine px_eq (hQ w ?_ ?_ Frm.rf) ?_
      · first | (simpa [catR, catM, catU, catO, h9', nI_cl (show d < 2 ^ 31 by omega), nI_cl (show x < 2 ^ 31 by omega), h23] using hM)
      · first | (simpa [catR, catM, catU, catO, h9', nI_cl (show d < 2 ^ 31 by omega), nI_cl (show x < 2 ^ 31 by omega), h23] using hU)
      · first | (simp [catR, catM, catU, catO, h9', nI_cl (show d < 2 ^ 31 by omega), nI_cl (show x < 2 ^ 31 by omega), h23]; done)
  · skip
    refine r_iconst (pc' := 13) (v := (-1)) dX6_cat_12 rfl rfl ?_
    refine r_ireturn dX6_cat_13 rfl ?_
    refine px_eq (hQ w ?_ ?_ Frm.rf) ?_
    · first | (simpa [catR, catM, catU, catO, h9] using hM)
    · first | (simpa [catR, catM, catU, catO, h9] using hU)
    · first | (simp [catR, catM, catU, catO, h9]; done)
set_option maxHeartbeats 200000 in
theorem ct_X6_rains {g : px_G} {w : px_W} {Q : px_Q} {ik : Int32} {tr : Int64} {T : px_T} {M : px_N} (hX : w[0]? = some (.inr (5, [.ref 1, .ref 9, .ref 15, .ref 18, .ref 51, .ref 59, .int ik, .long tr]))) (hT : SubA w 9 T) (hO : TOK T) (hM : MorA w 15 M) {U : List px_N} (hU : PastA w U) (hQ : ∀ w', MorA w' 15 (nRain M) → PastA w' (note M U) → Frm w w' 15 51 → Q (some (.int (nI (rainN M 32)))) w') : Ct g yX6_rains cX6_rains 1 (some .int) 5 0 0 [.ref 0] w Q := by
  refine Ct.of kX6_rains (by omega) (lo := [some (.ref 0)]) rfl (px_cat1 rfl) (Nat.le_of_ble_eq_true rfl) ?_
  obtain ⟨⟨sb1, sb2, sb3⟩, sb4, sb5⟩ := hT.b
  obtain ⟨mB1, mB2, mB3⟩ := hM.b
  obtain ⟨f, pf, p3⟩ := hU.o
  have pl := hU.len
  refine r_aload_n (pc' := 1) dX6_rains_0 rfl rfl ?_
  refine r_get (pc' := 4) fX6_33 dX6_rains_1 rfl hX rfl ?_
  refine r_aload_n (pc' := 5) dX6_rains_4 rfl rfl ?_
  refine r_get (pc' := 8) fX6_26 dX6_rains_5 rfl hX rfl ?_
  refine r_callV (pc' := 11) (av := [.ref 15]) (rest := []) kX1_remember vX1_remember lX6_133 dX6_rains_8 rfl p3 rfl rfl rfl ⟨by decide, by decide, by decide⟩ rfl rfl (Nat.le_of_ble_eq_true rfl) (ct_X1_remember hU hM (fun w8 hU8 hF8 => ?_))
  have hT_w8 := hT.fr hF8 (by omega)
  have hM_w8 := hM.fr hF8 (by omega)
  show Wp g yX6_rains cX6_rains 1 (some .int) 5 0 0 (px_MQ g Q 0 0) 0 0 11 [some (.ref 0)] [] w8
  refine r_aload_n (pc' := 12) dX6_rains_11 rfl rfl ?_
  refine r_get (pc' := 15) fX6_26 dX6_rains_12 rfl (hF8.at hX (by omega)) rfl ?_
  refine r_callV (pc' := 18) (av := []) (rest := []) kX0_washOut vX0_washOut lX6_160 dX6_rains_15 rfl hM_w8.o rfl rfl rfl ⟨by decide, by decide, by decide⟩ rfl rfl (Nat.le_of_ble_eq_true rfl) (ct_X0_washOut hM_w8 (fun w15 hM15 hF15 => ?_))
  have hT_w15 := hT_w8.fr hF15 (by omega)
  have hU8_w15 := hU8.fr hF15 (by omega)
  show Wp g yX6_rains cX6_rains 1 (some .int) 5 0 0 (px_MQ g Q 0 0) 0 0 18 [some (.ref 0)] [.int (nI (rainN M 32))] w15
  refine r_ireturn dX6_rains_18 rfl ?_
  exact hQ w15 hM15 (hU8.fr hF15 (by omega)) (hF8.tr hF15 (by omega) (by omega) (by omega) (by omega))
set_option maxHeartbeats 200000 in
theorem ct_X6_hour {g : px_G} {w : px_W} {Q : px_Q} {ik : Int32} {tr : Int64} {T : px_T} {M : px_N} (hX : w[0]? = some (.inr (5, [.ref 1, .ref 9, .ref 15, .ref 18, .ref 51, .ref 59, .int ik, .long tr]))) (hT : SubA w 9 T) (hO : TOK T) (hM : MorA w 15 M) {U : List px_N} (hU : PastA w U) (hQ : ∀ w', MorA w' 15 (hourM T M) → PastA w' (hourU M U) → Frm w w' 15 51 → Q (some (.int (hourR T M))) w') : Ct g yX6_hour cX6_hour 3 (some .int) 5 0 0 [.ref 0] w Q := by
  refine Ct.of kX6_hour (by omega) (lo := [some (.ref 0), none, none]) rfl (px_cat1 rfl) (Nat.le_of_ble_eq_true rfl) ?_
  obtain ⟨⟨sb1, sb2, sb3⟩, sb4, sb5⟩ := hT.b
  obtain ⟨mB1, mB2, mB3⟩ := hM.b
  obtain ⟨f, pf, p3⟩ := hU.o
  have pl := hU.len
  refine r_aload_n (pc' := 1) dX6_hour_0 rfl rfl ?_
  refine r_get (pc' := 4) fX6_26 dX6_hour_1 rfl hX rfl ?_
  refine r_getN (pc' := 7) fX6_163 dX6_hour_4 rfl hM.o rfl ?_
  refine r_bipush (pc' := 9) (v := nI 24) dX6_hour_7 rfl rfl ?_
  refine r_icmp_lt (pc' := 12) (P := nh M < 24) (tgt := 15) dX6_hour_9 (by decide) rfl (nI_ltI (a := nh M) (b := 24) (by omega) (by omega)) (fun h9 => ?_) (fun h9 => ?_)
  · skip
    refine r_aload_n (pc' := 16) dX6_hour_15 rfl rfl ?_
    refine r_get (pc' := 19) fX6_33 dX6_hour_16 rfl hX rfl ?_
    refine r_aload_n (pc' := 20) dX6_hour_19 rfl rfl ?_
    refine r_get (pc' := 23) fX6_26 dX6_hour_20 rfl hX rfl ?_
    refine r_callV (pc' := 26) (av := [.ref 15]) (rest := []) kX1_remember vX1_remember lX6_133 dX6_hour_23 rfl p3 rfl rfl rfl ⟨by decide, by decide, by decide⟩ rfl rfl (Nat.le_of_ble_eq_true rfl) (ct_X1_remember hU hM (fun w23 hU23 hF23 => ?_))
    have hT_w23 := hT.fr hF23 (by omega)
    have hM_w23 := hM.fr hF23 (by omega)
    show Wp g yX6_hour cX6_hour 3 (some .int) 5 0 0 (px_MQ g Q 0 0) 0 0 26 [some (.ref 0), none, none] [] w23
    refine r_aload_n (pc' := 27) dX6_hour_26 rfl rfl ?_
    refine r_get (pc' := 30) fX6_26 dX6_hour_27 rfl (hF23.at hX (by omega)) rfl ?_
    refine r_dup (pc' := 31) dX6_hour_30 rfl rfl ?_
    refine r_getN (pc' := 34) fX6_163 dX6_hour_31 rfl hM_w23.o rfl ?_
    refine r_iconst (pc' := 35) (v := nI 1) dX6_hour_34 rfl rfl ?_
    refine r_iadd (pc' := 36) (v := nI (nh M + 1)) dX6_hour_35 rfl (nI_add (nh M) 1) ?_
    refine r_putN (pc' := 39) (ty := .int) (c' := .inr (0, [.ref 16, .ref 17, .int (nI (nh M + 1))])) fX6_163 dX6_hour_36 rfl hM_w23.o (Nat.le_of_ble_eq_true rfl) rfl (by decide +kernel) rfl rfl rfl ?_
    refine r_iconst (pc' := 40) (v := nI 0) dX6_hour_39 rfl rfl ?_
    refine r_istore_n (pc' := 41) (lo' := [some (.ref 0), some (.int (nI 0)), none]) dX6_hour_40 rfl (by decide) rfl ?_
    refine r_iconst (pc' := 42) (v := nI 0) dX6_hour_41 rfl rfl ?_
    refine r_istore_n (pc' := 43) (lo' := [some (.ref 0), some (.int (nI 0)), some (.int (nI 0))]) dX6_hour_42 rfl (by decide) rfl ?_
    have L43 : ∀ (fu : Nat) (j : Nat) (w1 : px_W), tG T - j < fu → j ≤ tG T → MorA w1 15 (hrM T (nHour M (nh M + 1)) j) → Frm w23 w1 15 18 → Wp g yX6_hour cX6_hour 3 (some .int) 5 0 0 (px_MQ g Q 0 0) 0 0 43 [some (.ref 0), some (.int (nI (cnt (fun j => tg T j 0 == nh M + 1) j))), some (.int (nI j))] [] w1 := by
      intro fu; induction fu with
      | zero => intro j w1 hm; exact absurd hm (Nat.not_lt_zero _)
      | succ fu ih =>
        intro j w1 hm hj hM1 hF1
        have hh : nh (hrM T (nHour M (nh M + 1)) j) = nh M + 1 := hrM_h T (nHour M (nh M + 1)) j
        have hc9 := cnt_le (fun j => tg T j 0 == nh M + 1) j
        have ih43 := ih; clear ih
        refine r_iload_n (pc' := 44) dX6_hour_43 rfl rfl ?_
        refine r_aload_n (pc' := 45) dX6_hour_44 rfl rfl ?_
        refine r_get (pc' := 48) fX6_19 dX6_hour_45 rfl (hF1.at (hF23.at hX (by omega)) (by omega)) rfl ?_
        refine r_getN (pc' := 51) fX6_166 dX6_hour_48 rfl ((hT_w23.fr hF1 (by omega)).o) rfl ?_
        refine r_icmp_ge (pc' := 54) (P := tG T ≤ j) (tgt := 104) dX6_hour_51 (by decide) rfl (nI_leI (a := tG T) (b := j) (by omega) (by omega)) (fun h51 => ?_) (fun h51 => ?_)
        · have hj2 : j = tG T := by omega
          subst hj2
          refine r_iload_n (pc' := 105) dX6_hour_104 rfl rfl ?_
          have hn : ¬ nh M = 24 := by omega
          refine r_ireturn dX6_hour_105 rfl ?_
          refine px_eq (hQ w1 ?_ ?_ ?_) ?_
          · rw [hourM, if_neg hn]; exact hM1
          · rw [hourU, if_neg hn]; exact hU23.fr hF1 (by omega)
          · exact hF23.tr hF1 (by omega) (by omega) (by omega) (by omega)
          · rw [hourR, if_neg hn]
        · skip
          refine r_aload_n (pc' := 55) dX6_hour_54 rfl rfl ?_
          refine r_get (pc' := 58) fX6_19 dX6_hour_55 rfl (hF1.at (hF23.at hX (by omega)) (by omega)) rfl ?_
          refine r_iload_n (pc' := 59) dX6_hour_58 rfl rfl ?_
          refine r_iconst (pc' := 60) (v := nI 0) dX6_hour_59 rfl rfl ?_
          refine r_callV (pc' := 63) (av := [.int (nI j), .int (nI 0)]) (rest := []) kX5_partOfGoer vX5_partOfGoer lX6_130 dX6_hour_60 rfl ((hT_w23.fr hF1 (by omega)).o) rfl rfl rfl ⟨by decide, by decide, by decide⟩ rfl rfl (Nat.le_of_ble_eq_true rfl) (ct_X5_partOfGoer (hT_w23.fr hF1 (by omega)) (i := j) (p := 0) (by omega) (by omega) ?_)
          show Wp g yX6_hour cX6_hour 3 (some .int) 5 0 0 (px_MQ g Q 0 0) 0 0 63 [some (.ref 0), some (.int (nI (cnt (fun j => tg T j 0 == nh M + 1) j))), some (.int (nI j))] [.int (nI (tg T j 0))] w1
          have e60 := (hO.2.2.2 j (by omega))
          refine r_aload_n (pc' := 64) dX6_hour_63 rfl rfl ?_
          refine r_get (pc' := 67) fX6_26 dX6_hour_64 rfl (hF1.at (hF23.at hX (by omega)) (by omega)) rfl ?_
          refine r_getN (pc' := 70) fX6_163 dX6_hour_67 rfl hM1.o rfl ?_
          refine r_icmp_ne (pc' := 73) (P := tg T j 0 = nh (hrM T (nHour M (nh M + 1)) j)) (tgt := 98) dX6_hour_70 (by decide) rfl (nI_eq (a := tg T j 0) (b := nh (hrM T (nHour M (nh M + 1)) j)) (by omega) (by omega)) (fun h70 => ?_) (fun h70 => ?_)
          · skip
            refine r_iinc (pc' := 101) (lo' := [some (.ref 0), some (.int (nI (cnt (fun j => tg T j 0 == nh M + 1) j))), some (.int (nI (j + 1)))]) dX6_hour_98 rfl (by decide) rfl (nI_add j 1) rfl ?_
            refine r_goto (tgt := 43) dX6_hour_101 (by decide) ?_
            rw [show cnt (fun j => tg T j 0 == nh M + 1) j = cnt (fun j => tg T j 0 == nh M + 1) (j + 1) from cnt_f (p := fun j => tg T j 0 == nh M + 1) (by simp; omega)]
            exact ih43 (j + 1) w1 (by omega) (by omega) (by rw [hrM, if_neg (by simp [nHour, nh]; simp [nh] at *; omega)]; exact hM1) (hF1)
          · skip
            refine r_aload_n (pc' := 74) dX6_hour_73 rfl rfl ?_
            refine r_get (pc' := 77) fX6_26 dX6_hour_74 rfl (hF1.at (hF23.at hX (by omega)) (by omega)) rfl ?_
            refine r_aload_n (pc' := 78) dX6_hour_77 rfl rfl ?_
            refine r_get (pc' := 81) fX6_19 dX6_hour_78 rfl (hF1.at (hF23.at hX (by omega)) (by omega)) rfl ?_
            refine r_iload_n (pc' := 82) dX6_hour_81 rfl rfl ?_
            refine r_iconst (pc' := 83) (v := nI 1) dX6_hour_82 rfl rfl ?_
            refine r_callV (pc' := 86) (av := [.int (nI j), .int (nI 1)]) (rest := [.ref 15]) kX5_partOfGoer vX5_partOfGoer lX6_130 dX6_hour_83 rfl ((hT_w23.fr hF1 (by omega)).o) rfl rfl rfl ⟨by decide, by decide, by decide⟩ rfl rfl (Nat.le_of_ble_eq_true rfl) (ct_X5_partOfGoer (hT_w23.fr hF1 (by omega)) (i := j) (p := 1) (by omega) (by omega) ?_)
            show Wp g yX6_hour cX6_hour 3 (some .int) 5 0 0 (px_MQ g Q 0 0) 0 0 86 [some (.ref 0), some (.int (nI (cnt (fun j => tg T j 0 == nh M + 1) j))), some (.int (nI j))] [.int (nI (tg T j 1)), .ref 15] w1
            have e83 := (hO.2.2.2 j (by omega))
            refine r_aload_n (pc' := 87) dX6_hour_86 rfl rfl ?_
            refine r_iload_n (pc' := 88) dX6_hour_87 rfl rfl ?_
            refine r_callV (pc' := 91) (av := [.int (nI j)]) (rest := [.int (nI (tg T j 1)), .ref 15]) kX6_trackOfGoer vX6_trackOfGoer lX6_169 dX6_hour_88 rfl (hF1.at (hF23.at hX (by omega)) (by omega)) rfl rfl rfl ⟨by decide, by decide, by decide⟩ rfl rfl (Nat.le_of_ble_eq_true rfl) (ct_X6_trackOfGoer (hF1.at (hF23.at hX (by omega)) (by omega)) ((hT_w23.fr hF1 (by omega))) hO hM1 (j := j) (by omega) ?_)
            show Wp g yX6_hour cX6_hour 3 (some .int) 5 0 0 (px_MQ g Q 0 0) 0 0 91 [some (.ref 0), some (.int (nI (cnt (fun j => tg T j 0 == nh M + 1) j))), some (.int (nI j))] [.int (nI (trkG T j)), .int (nI (tg T j 1)), .ref 15] w1
            have e88 := trkG_lt hO (j := j) (by omega)
            refine r_callV (pc' := 94) (av := [.int (nI (tg T j 1)), .int (nI (trkG T j))]) (rest := []) kX0_treadAlso vX0_treadAlso lX6_152 dX6_hour_91 rfl hM1.o rfl rfl rfl ⟨by decide, by decide, by decide⟩ rfl rfl (Nat.le_of_ble_eq_true rfl) (ct_X0_treadAlso hM1 (d := tg T j 1) (b := trkG T j) (by omega) (by omega) (fun w91 hM91 hF91 => ?_))
            have hsub9_w91 := (hT_w23.fr hF1 (by omega)).fr hF91 (by omega)
            show Wp g yX6_hour cX6_hour 3 (some .int) 5 0 0 (px_MQ g Q 0 0) 0 0 94 [some (.ref 0), some (.int (nI (cnt (fun j => tg T j 0 == nh M + 1) j))), some (.int (nI j))] [.int (nI (popc (ndif (trkG T j) (nt (hrM T (nHour M (nh M + 1)) j) (tg T j 1)))))] w91
            refine r_pop (pc' := 95) dX6_hour_94 rfl rfl ?_
            refine r_iinc (pc' := 98) (lo' := [some (.ref 0), some (.int (nI (cnt (fun j => tg T j 0 == nh M + 1) j + 1))), some (.int (nI j))]) dX6_hour_95 rfl (by decide) rfl (nI_add (cnt (fun j => tg T j 0 == nh M + 1) j) 1) rfl ?_
            refine r_iinc (pc' := 101) (lo' := [some (.ref 0), some (.int (nI (cnt (fun j => tg T j 0 == nh M + 1) j + 1))), some (.int (nI (j + 1)))]) dX6_hour_98 rfl (by decide) rfl (nI_add j 1) rfl ?_
            refine r_goto (tgt := 43) dX6_hour_101 (by decide) ?_
            rw [show cnt (fun j => tg T j 0 == nh M + 1) j + 1 = cnt (fun j => tg T j 0 == nh M + 1) (j + 1) from cnt_t (p := fun j => tg T j 0 == nh M + 1) (by simp; omega)]
            exact ih43 (j + 1) w91 (by omega) (by omega) (by rw [hrM, if_pos (by simp [nHour, nh]; simp [nh] at *; omega)]; exact hM91) (hF1.tr hF91 (by omega) (by omega) (by omega) (by omega))
    exact L43 (tG T + 1) 0 _ (by omega) (Nat.zero_le _) (hM_w23.setH (by omega)) (Frm.set (by omega) (by omega))
  · have h24 : nh M = 24 := by omega
    refine r_bipush (pc' := 14) (v := (-2)) dX6_hour_12 rfl rfl ?_
    refine r_ireturn dX6_hour_14 rfl ?_
    refine px_eq (hQ w ?_ ?_ Frm.rf) ?_
    · first | (simpa [hourR, hourM, hourU, h24] using hM)
    · first | (simpa [hourR, hourM, hourU, h24] using hU)
    · first | (simp [hourR, hourM, hourU, h24]; done)
set_option maxHeartbeats 200000 in
theorem ct_X6_undo {g : px_G} {w : px_W} {Q : px_Q} {ik : Int32} {tr : Int64} {T : px_T} {M : px_N} (hX : w[0]? = some (.inr (5, [.ref 1, .ref 9, .ref 15, .ref 18, .ref 51, .ref 59, .int ik, .long tr]))) (hT : SubA w 9 T) (hO : TOK T) (hM : MorA w 15 M) {U : List px_N} (hU : PastA w U) (hQ : ∀ w', MorA w' 15 (undoM M U) → PastA w' (undoU U) → Frm w w' 15 51 → Q (some (.int (undoR U))) w') : Ct g yX6_undo cX6_undo 1 (some .int) 5 0 0 [.ref 0] w Q := by
  refine Ct.of kX6_undo (by omega) (lo := [some (.ref 0)]) rfl (px_cat1 rfl) (Nat.le_of_ble_eq_true rfl) ?_
  obtain ⟨⟨sb1, sb2, sb3⟩, sb4, sb5⟩ := hT.b
  obtain ⟨mB1, mB2, mB3⟩ := hM.b
  obtain ⟨f, pf, p3⟩ := hU.o
  have pl := hU.len
  refine r_aload_n (pc' := 1) dX6_undo_0 rfl rfl ?_
  refine r_get (pc' := 4) fX6_33 dX6_undo_1 rfl hX rfl ?_
  refine r_getN (pc' := 7) fX6_172 dX6_undo_4 rfl p3 rfl ?_
  refine r_if_gt (pc' := 10) (P := 0 < U.length) (tgt := 13) dX6_undo_7 (by decide) rfl (nI_gt0 (n := U.length) (by omega)) (fun h7 => ?_) (fun h7 => ?_)
  · obtain ⟨N, U', rfl⟩ : ∃ N U', U = N :: U' := by cases U with
      | nil => simp at h7
      | cons N U' => exact ⟨N, U', rfl⟩
    refine r_aload_n (pc' := 14) dX6_undo_13 rfl rfl ?_
    refine r_get (pc' := 17) fX6_33 dX6_undo_14 rfl hX rfl ?_
    refine r_aload_n (pc' := 18) dX6_undo_17 rfl rfl ?_
    refine r_get (pc' := 21) fX6_26 dX6_undo_18 rfl hX rfl ?_
    refine r_callV (pc' := 24) (av := [.ref 15]) (rest := []) kX1_undoInto vX1_undoInto lX6_175 dX6_undo_21 rfl p3 rfl rfl rfl ⟨by decide, by decide, by decide⟩ rfl rfl (Nat.le_of_ble_eq_true rfl) (ct_X1_undoInto hU hM (fun w21 hU21 hM21 hF21 => ?_))
    have hT_w21 := hT.fr hF21 (by omega)
    obtain ⟨f2, pf2, p32⟩ := hU21.o
    show Wp g yX6_undo cX6_undo 1 (some .int) 5 0 0 (px_MQ g Q 0 0) 0 0 24 [some (.ref 0)] [] w21
    refine r_aload_n (pc' := 25) dX6_undo_24 rfl rfl ?_
    refine r_get (pc' := 28) fX6_33 dX6_undo_25 rfl (hF21.at hX (by omega)) rfl ?_
    refine r_getN (pc' := 31) fX6_172 dX6_undo_28 rfl p32 rfl ?_
    refine r_ireturn dX6_undo_31 rfl ?_
    exact hQ w21 hM21 hU21 hF21
  · have hn : U = [] := List.eq_nil_of_length_eq_zero (by omega)
    subst hn
    refine r_bipush (pc' := 12) (v := (-2)) dX6_undo_10 rfl rfl ?_
    refine r_ireturn dX6_undo_12 rfl ?_
    exact hQ w hM hU Frm.rf
