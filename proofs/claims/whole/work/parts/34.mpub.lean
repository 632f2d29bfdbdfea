set_option maxHeartbeats 200000 in
theorem ct_X7_word {g : px_G} {w : px_W} {Q : px_Q} {tr : Int64} {ty nx tk pl va fa um : Int32} {T : px_T} {M : px_N} (hX : w[60]? = some (mobj tr ty nx tk pl va fa um)) (hT : MtA w T) (hO : TOK T) (hM : MnA w M) {a b : Int32} (hQ : Q (some (.int (wordR T a b))) w) : Ct g yX7_word cX7_word 4 (some .int) 4 0 0 [.ref 60, .int a, .int b] w Q := by
  refine Ct.of kX7_word (by omega) (lo := [some (.ref 60), some (.int a), some (.int b), none]) rfl (px_cat1 rfl) (Nat.le_of_ble_eq_true rfl) ?_
  obtain ⟨fm, fz, fl, fs, fd, g0, g1, g2, g3, ⟨c1, c2, c3, c4, c5, c6, c7, c8, c9⟩, ma, mz, ml, md, mg, ⟨sb1, sb2, sb3⟩, sb4, sb5⟩ := id hT
  obtain ⟨fn, cn, hf, mB1, mB2, mB3⟩ := id hM
  refine r_aload_n (pc' := 1) dX7_word_0 rfl rfl ?_
  refine r_iconst (pc' := 2) (v := nI 0) dX7_word_1 rfl rfl ?_
  refine r_put (pc' := 5) (ty := .int) (c' := .inr (6, [.int (nI 0), .long tr, .ref 61, .int ty, .int nx, .int tk, .int pl, .int va, .int fa, .ref 62, .ref 63, .ref 64, .ref 65, .ref 66, .ref 67, .ref 68, .ref 69, .ref 70, .ref 71, .ref 72, .ref 73, .ref 74, .int um, .ref 75])) fX7_62 dX7_word_2 rfl hX (Nat.le_of_ble_eq_true rfl) rfl (by decide +kernel) rfl rfl rfl ?_
  refine px_id hX ?_
  refine r_aload_n (pc' := 6) dX7_word_5 rfl rfl ?_
  refine r_iload_n (pc' := 7) dX7_word_6 rfl rfl ?_
  refine r_callV (pc' := 10) (av := [.int a]) (rest := []) kX7_isWordAt vX7_isWordAt lX7_126 dX7_word_7 rfl hX rfl rfl rfl ⟨by decide, by decide, by decide⟩ rfl rfl (Nat.le_of_ble_eq_true rfl) (ct_X7_isWordAt hX hT hO hM  ?_)
  show Wp g yX7_word cX7_word 4 (some .int) 4 0 0 (px_MQ g Q 0 0) 0 0 10 [some (.ref 60), some (.int a), some (.int b), none] [.int (bI (hasI a (tW T)))] w
  refine r_if_eq (pc' := 13) (P := (hasI a (tW T)) = false) (tgt := 22) dX7_word_10 (by decide) rfl (bI_0) (fun h10 => ?_) (fun h10 => ?_)
  · skip
    refine r_iconst (pc' := 23) (v := (-1)) dX7_word_22 rfl rfl ?_
    refine r_ireturn dX7_word_23 rfl ?_
    refine px_eq hQ ?_
    first | (rw [wordR, h10]; rfl) | (rw [wordR, if_pos h10']; exact (pick_f h19).symm)
  · have h10' := (by simpa using h10 : hasI a _ = true)
    obtain ⟨i, hi, rfl⟩ := hasI_t h10' (by omega)
    refine r_iload_n (pc' := 14) dX7_word_13 rfl rfl ?_
    refine r_iconst (pc' := 15) (v := nI 0) dX7_word_14 rfl rfl ?_
    refine r_iconst (pc' := 16) (v := nI 3) dX7_word_15 rfl rfl ?_
    refine r_callS (pc' := 19) (av := [.int b, .int (nI 0), .int (nI 3)]) (rest := []) kX7_in vX7_in lX7_66 dX7_word_16 rfl rfl rfl ⟨by decide, by decide, by decide⟩ rfl rfl (Nat.le_of_ble_eq_true rfl) (ct_in_c (n := 3) (by omega) ?_)
    show Wp g yX7_word cX7_word 4 (some .int) 4 0 0 (px_MQ g Q 0 0) 0 0 19 [some (.ref 60), some (.int (nI i)), some (.int b), none] [.int (bI (hasI b (3 + 1)))] w
    refine r_if_ne (pc' := 22) (P := (hasI b (3 + 1)) = false) (tgt := 24) dX7_word_19 (by decide) rfl (bI_0) (fun h19 => ?_) (fun h19 => ?_)
    · have h19' := (by simpa using h19 : hasI b _ = true)
      obtain ⟨j, hj, rfl⟩ := hasI_t h19' (by omega)
      rcases (show j = 0 ∨ j = 1 ∨ j = 2 ∨ j = 3 by omega) with rfl | rfl | rfl | rfl
      · skip
        refine r_iload_n (pc' := 25) dX7_word_24 rfl rfl ?_
        refine r_iconst (pc' := 26) (v := nI 2) dX7_word_25 rfl rfl ?_
        refine r_icmp_ge (pc' := 29) (P := 2 ≤ 0) (tgt := 49) dX7_word_26 (by decide) rfl (nI_leI (a := 2) (b := 0) (by omega) (by omega)) (fun h26 => ?_) (fun h26 => ?_)
        · skip
          exfalso; omega
        · skip
          refine r_iload_n (pc' := 30) dX7_word_29 rfl rfl ?_
          refine r_if_ne (pc' := 33) (P := 0 = 0) (tgt := 42) dX7_word_30 (by decide) rfl (nI_eq0 (n := 0) (by omega)) (fun h30 => ?_) (fun h30 => ?_)
          · skip
            exfalso; omega
          · skip
            refine r_aload_n (pc' := 34) dX7_word_33 rfl rfl ?_
            refine r_get (pc' := 37) fX7_16 dX7_word_34 rfl hX rfl ?_
            refine r_iload_n (pc' := 38) dX7_word_37 rfl rfl ?_
            refine r_iaload (pc' := 39) (v := nI (tl T i)) dX7_word_38 rfl c2 (vp_in_nI (n := i) (by omega) (by omega)) (by rw [nI_cl (by omega)]; exact (mz i (by omega)).1) ?_
            have e38 := sb4 i (by omega)
            refine r_goto (tgt := 48) dX7_word_39 (by decide) ?_
            refine r_ireturn dX7_word_48 rfl ?_
            refine px_eq hQ ?_
            rw [wordR, if_pos h10', nI_cl (show i < 2 ^ 31 by omega), pick_at 0 rfl (by decide)]
      · skip
        refine r_iload_n (pc' := 25) dX7_word_24 rfl rfl ?_
        refine r_iconst (pc' := 26) (v := nI 2) dX7_word_25 rfl rfl ?_
        refine r_icmp_ge (pc' := 29) (P := 2 ≤ 1) (tgt := 49) dX7_word_26 (by decide) rfl (nI_leI (a := 2) (b := 1) (by omega) (by omega)) (fun h26 => ?_) (fun h26 => ?_)
        · skip
          exfalso; omega
        · skip
          refine r_iload_n (pc' := 30) dX7_word_29 rfl rfl ?_
          refine r_if_ne (pc' := 33) (P := 1 = 0) (tgt := 42) dX7_word_30 (by decide) rfl (nI_eq0 (n := 1) (by omega)) (fun h30 => ?_) (fun h30 => ?_)
          · skip
            refine r_aload_n (pc' := 43) dX7_word_42 rfl rfl ?_
            refine r_get (pc' := 46) fX7_22 dX7_word_43 rfl hX rfl ?_
            refine r_iload_n (pc' := 47) dX7_word_46 rfl rfl ?_
            refine r_iaload (pc' := 48) (v := nI (ts T i)) dX7_word_47 rfl c4 (vp_in_nI (n := i) (by omega) (by omega)) (by rw [nI_cl (by omega)]; exact (mz i (by omega)).2) ?_
            have e47 := hO.1 i (by omega)
            refine r_ireturn dX7_word_48 rfl ?_
            refine px_eq hQ ?_
            rw [wordR, if_pos h10', nI_cl (show i < 2 ^ 31 by omega), pick_at 1 rfl (by decide)]
          · skip
            exfalso; omega
      · skip
        refine r_iload_n (pc' := 25) dX7_word_24 rfl rfl ?_
        refine r_iconst (pc' := 26) (v := nI 2) dX7_word_25 rfl rfl ?_
        refine r_icmp_ge (pc' := 29) (P := 2 ≤ 2) (tgt := 49) dX7_word_26 (by decide) rfl (nI_leI (a := 2) (b := 2) (by omega) (by omega)) (fun h26 => ?_) (fun h26 => ?_)
        · skip
          refine r_aload_n (pc' := 50) dX7_word_49 rfl rfl ?_
          refine r_iload_n (pc' := 51) dX7_word_50 rfl rfl ?_
          refine r_callV (pc' := 54) (av := [.int (nI i)]) (rest := []) kX7_nearest vX7_nearest lX7_130 dX7_word_51 rfl hX rfl rfl rfl ⟨by decide, by decide, by decide⟩ rfl rfl (Nat.le_of_ble_eq_true rfl) (ct_X7_nearest hX hT hO hM (i := i) (by omega) ?_)
          show Wp g yX7_word cX7_word 4 (some .int) 4 0 0 (px_MQ g Q 0 0) 0 0 54 [some (.ref 60), some (.int (nI i)), some (.int (nI 2)), none] [.int (oN (nearS T i))] w
          refine r_istore_n (pc' := 55) (lo' := [some (.ref 60), some (.int (nI i)), some (.int (nI 2)), some (.int (oN (nearS T i)))]) dX7_word_54 rfl (by decide) rfl ?_
          refine r_iload_n (pc' := 56) dX7_word_55 rfl rfl ?_
          refine r_iconst (pc' := 57) (v := nI 3) dX7_word_56 rfl rfl ?_
          refine r_icmp_eq (pc' := 60) (P := 2 = 3) (tgt := 66) dX7_word_57 (by decide) rfl (nI_eq (a := 2) (b := 3) (by omega) (by omega)) (fun h57 => ?_) (fun h57 => ?_)
          · skip
            exfalso; omega
          · skip
            refine r_iload_n (pc' := 61) dX7_word_60 rfl rfl ?_
            refine r_bipush (pc' := 63) (v := (-9)) dX7_word_61 rfl rfl ?_
            refine r_icmp_ne (pc' := 66) (P := nearS T i = none) (tgt := 70) dX7_word_63 (by decide) rfl (oN_none (nearS_31 sb1)) (fun h63 => ?_) (fun h63 => ?_)
            · obtain ⟨u, hu⟩ := Option.ne_none_iff_exists'.mp h63
              have hu2 := nearS_lt hu
              rw [hu]
              show Wp g yX7_word cX7_word 4 (some .int) 4 0 0 (px_MQ g Q 0 0) 0 0 70 [some (.ref 60), some (.int (nI i)), some (.int (nI 2)), some (.int (nI u))] [] w
              refine r_aload_n (pc' := 71) dX7_word_70 rfl rfl ?_
              refine r_iload_n (pc' := 72) dX7_word_71 rfl rfl ?_
              refine r_iload_n (pc' := 73) dX7_word_72 rfl rfl ?_
              refine r_callV (pc' := 76) (av := [.int (nI i), .int (nI u)]) (rest := []) kX7_apart vX7_apart lX7_123 dX7_word_73 rfl hX rfl rfl rfl ⟨by decide, by decide, by decide⟩ rfl rfl (Nat.le_of_ble_eq_true rfl) (ct_X7_apart hX hT hO hM (i := i) (j := u) (by omega) (by omega) ?_)
              show Wp g yX7_word cX7_word 4 (some .int) 4 0 0 (px_MQ g Q 0 0) 0 0 76 [some (.ref 60), some (.int (nI i)), some (.int (nI 2)), some (.int (nI u))] [.int (nI (dif T i u))] w
              have e73 := dif_le T i u
              refine r_ireturn dX7_word_76 rfl ?_
              refine px_eq hQ ?_
              rw [wordR, if_pos h10', nI_cl (show i < 2 ^ 31 by omega), pick_at 2 rfl (by decide)]
              first | (rw [doubtS, h63]; rfl) | (rw [doubtS, hu]; rfl)
            · skip
              refine r_iload_n (pc' := 67) dX7_word_66 rfl rfl ?_
              refine r_goto (tgt := 76) dX7_word_67 (by decide) ?_
              refine r_ireturn dX7_word_76 rfl ?_
              refine px_eq hQ ?_
              rw [wordR, if_pos h10', nI_cl (show i < 2 ^ 31 by omega), pick_at 2 rfl (by decide)]
              first | (rw [doubtS, h63]; rfl) | (rw [doubtS, hu]; rfl)
        · skip
          exfalso; omega
      · skip
        refine r_iload_n (pc' := 25) dX7_word_24 rfl rfl ?_
        refine r_iconst (pc' := 26) (v := nI 2) dX7_word_25 rfl rfl ?_
        refine r_icmp_ge (pc' := 29) (P := 2 ≤ 3) (tgt := 49) dX7_word_26 (by decide) rfl (nI_leI (a := 2) (b := 3) (by omega) (by omega)) (fun h26 => ?_) (fun h26 => ?_)
        · skip
          refine r_aload_n (pc' := 50) dX7_word_49 rfl rfl ?_
          refine r_iload_n (pc' := 51) dX7_word_50 rfl rfl ?_
          refine r_callV (pc' := 54) (av := [.int (nI i)]) (rest := []) kX7_nearest vX7_nearest lX7_130 dX7_word_51 rfl hX rfl rfl rfl ⟨by decide, by decide, by decide⟩ rfl rfl (Nat.le_of_ble_eq_true rfl) (ct_X7_nearest hX hT hO hM (i := i) (by omega) ?_)
          show Wp g yX7_word cX7_word 4 (some .int) 4 0 0 (px_MQ g Q 0 0) 0 0 54 [some (.ref 60), some (.int (nI i)), some (.int (nI 3)), none] [.int (oN (nearS T i))] w
          refine r_istore_n (pc' := 55) (lo' := [some (.ref 60), some (.int (nI i)), some (.int (nI 3)), some (.int (oN (nearS T i)))]) dX7_word_54 rfl (by decide) rfl ?_
          refine r_iload_n (pc' := 56) dX7_word_55 rfl rfl ?_
          refine r_iconst (pc' := 57) (v := nI 3) dX7_word_56 rfl rfl ?_
          refine r_icmp_eq (pc' := 60) (P := 3 = 3) (tgt := 66) dX7_word_57 (by decide) rfl (nI_eq (a := 3) (b := 3) (by omega) (by omega)) (fun h57 => ?_) (fun h57 => ?_)
          · skip
            refine r_iload_n (pc' := 67) dX7_word_66 rfl rfl ?_
            refine r_goto (tgt := 76) dX7_word_67 (by decide) ?_
            refine r_ireturn dX7_word_76 rfl ?_
            refine px_eq hQ ?_
            rw [wordR, if_pos h10', nI_cl (show i < 2 ^ 31 by omega), pick_at 3 rfl (by decide)]
          · skip
            exfalso; omega
        · skip
          exfalso; omega
      
    · skip
      refine r_iconst (pc' := 23) (v := (-1)) dX7_word_22 rfl rfl ?_
      refine r_ireturn dX7_word_23 rfl ?_
      refine px_eq hQ ?_
      first | (rw [wordR, h10]; rfl) | (rw [wordR, if_pos h10']; exact (pick_f h19).symm)
set_option maxHeartbeats 200000 in
theorem ct_X7_letter {g : px_G} {w : px_W} {Q : px_Q} {tr : Int64} {ty nx tk pl va fa um : Int32} {T : px_T} {M : px_N} (hX : w[60]? = some (mobj tr ty nx tk pl va fa um)) (hT : MtA w T) (hO : TOK T) (hM : MnA w M) {a b : Int32} (hQ : Q (some (.int (letterR T a b))) w) : Ct g yX7_letter cX7_letter 3 (some .int) 3 0 0 [.ref 60, .int a, .int b] w Q := by
  refine Ct.of kX7_letter (by omega) (lo := [some (.ref 60), some (.int a), some (.int b)]) rfl (px_cat1 rfl) (Nat.le_of_ble_eq_true rfl) ?_
  obtain ⟨fm, fz, fl, fs, fd, g0, g1, g2, g3, ⟨c1, c2, c3, c4, c5, c6, c7, c8, c9⟩, ma, mz, ml, md, mg, ⟨sb1, sb2, sb3⟩, sb4, sb5⟩ := id hT
  obtain ⟨fn, cn, hf, mB1, mB2, mB3⟩ := id hM
  refine r_aload_n (pc' := 1) dX7_letter_0 rfl rfl ?_
  refine r_iconst (pc' := 2) (v := nI 0) dX7_letter_1 rfl rfl ?_
  refine r_put (pc' := 5) (ty := .int) (c' := .inr (6, [.int (nI 0), .long tr, .ref 61, .int ty, .int nx, .int tk, .int pl, .int va, .int fa, .ref 62, .ref 63, .ref 64, .ref 65, .ref 66, .ref 67, .ref 68, .ref 69, .ref 70, .ref 71, .ref 72, .ref 73, .ref 74, .int um, .ref 75])) fX7_62 dX7_letter_2 rfl hX (Nat.le_of_ble_eq_true rfl) rfl (by decide +kernel) rfl rfl rfl ?_
  refine px_id hX ?_
  refine r_aload_n (pc' := 6) dX7_letter_5 rfl rfl ?_
  refine r_iload_n (pc' := 7) dX7_letter_6 rfl rfl ?_
  refine r_callV (pc' := 10) (av := [.int a]) (rest := []) kX7_isWordAt vX7_isWordAt lX7_126 dX7_letter_7 rfl hX rfl rfl rfl ⟨by decide, by decide, by decide⟩ rfl rfl (Nat.le_of_ble_eq_true rfl) (ct_X7_isWordAt hX hT hO hM  ?_)
  show Wp g yX7_letter cX7_letter 3 (some .int) 3 0 0 (px_MQ g Q 0 0) 0 0 10 [some (.ref 60), some (.int a), some (.int b)] [.int (bI (hasI a (tW T)))] w
  refine r_if_eq (pc' := 13) (P := (hasI a (tW T)) = false) (tgt := 43) dX7_letter_10 (by decide) rfl (bI_0) (fun h10 => ?_) (fun h10 => ?_)
  · skip
    refine r_iconst (pc' := 44) (v := (-1)) dX7_letter_43 rfl rfl ?_
    refine r_ireturn dX7_letter_44 rfl ?_
    refine px_eq hQ ?_
    first | (simp [letterR, h10]; done) | (simp [letterR, nI_cl (show i < 2 ^ 31 by omega), h26]; done) | (rw [letterR, h10', nI_cl (show i < 2 ^ 31 by omega), h26', nI_cl (show x < 2 ^ 31 by omega)]; rfl)
  · have h10' := (by simpa using h10 : hasI a _ = true)
    obtain ⟨i, hi, rfl⟩ := hasI_t h10' (by omega)
    refine r_iload_n (pc' := 14) dX7_letter_13 rfl rfl ?_
    refine r_iconst (pc' := 15) (v := nI 0) dX7_letter_14 rfl rfl ?_
    refine r_aload_n (pc' := 16) dX7_letter_15 rfl rfl ?_
    refine r_get (pc' := 19) fX7_16 dX7_letter_16 rfl hX rfl ?_
    refine r_iload_n (pc' := 20) dX7_letter_19 rfl rfl ?_
    refine r_iaload (pc' := 21) (v := nI (tl T i)) dX7_letter_20 rfl c2 (vp_in_nI (n := i) (by omega) (by omega)) (by rw [nI_cl (by omega)]; exact (mz i (by omega)).1) ?_
    have e20 := sb4 i (by omega)
    refine r_iconst (pc' := 22) (v := nI 1) dX7_letter_21 rfl rfl ?_
    refine r_isub (pc' := 23) (v := (nI (tl T i)) - (nI 1)) dX7_letter_22 rfl (rfl) ?_
    refine r_callS (pc' := 26) (av := [.int b, .int (nI 0), .int ((nI (tl T i)) - (nI 1))]) (rest := []) kX7_in vX7_in lX7_66 dX7_letter_23 rfl rfl rfl ⟨by decide, by decide, by decide⟩ rfl rfl (Nat.le_of_ble_eq_true rfl) (ct_in_s (n := (tl T i)) (by omega) ?_)
    show Wp g yX7_letter cX7_letter 3 (some .int) 3 0 0 (px_MQ g Q 0 0) 0 0 26 [some (.ref 60), some (.int (nI i)), some (.int b)] [.int (bI (hasI b ((tl T i))))] w
    refine r_if_eq (pc' := 29) (P := (hasI b ((tl T i))) = false) (tgt := 43) dX7_letter_26 (by decide) rfl (bI_0) (fun h26 => ?_) (fun h26 => ?_)
    · skip
      refine r_iconst (pc' := 44) (v := (-1)) dX7_letter_43 rfl rfl ?_
      refine r_ireturn dX7_letter_44 rfl ?_
      refine px_eq hQ ?_
      first | (simp [letterR, h10]; done) | (simp [letterR, nI_cl (show i < 2 ^ 31 by omega), h26]; done) | (rw [letterR, h10', nI_cl (show i < 2 ^ 31 by omega), h26', nI_cl (show x < 2 ^ 31 by omega)]; rfl)
    · have h26' := (by simpa using h26 : hasI b _ = true)
      obtain ⟨x, hx, rfl⟩ := hasI_t h26' (by omega)
      refine r_aload_n (pc' := 30) dX7_letter_29 rfl rfl ?_
      refine r_get (pc' := 33) fX7_19 dX7_letter_30 rfl hX rfl ?_
      refine r_bipush (pc' := 35) (v := nI 6) dX7_letter_33 rfl rfl ?_
      refine r_iload_n (pc' := 36) dX7_letter_35 rfl rfl ?_
      refine r_imul (pc' := 37) (v := nI (6 * i)) dX7_letter_36 rfl (pk_mul 6 i) ?_
      refine r_iload_n (pc' := 38) dX7_letter_37 rfl rfl ?_
      refine r_iadd (pc' := 39) (v := nI (6 * i + x)) dX7_letter_38 rfl (nI_add (6 * i) x) ?_
      refine r_iaload (pc' := 40) (v := nI (tc T i x)) dX7_letter_39 rfl c3 (vp_in_nI (n := 6 * i + x) (by omega) (by omega)) (by rw [nI_cl (by omega)]; exact ml i x (by omega) (by omega)) ?_
      have e39 := tc_le hO ⟨⟨sb1, sb2, sb3⟩, sb4, sb5⟩ (i := i) (x := x) (by omega)
      refine r_goto (tgt := 44) dX7_letter_40 (by decide) ?_
      refine r_ireturn dX7_letter_44 rfl ?_
      refine px_eq hQ ?_
      first | (simp [letterR, h10]; done) | (simp [letterR, nI_cl (show i < 2 ^ 31 by omega), h26]; done) | (rw [letterR, h10', nI_cl (show i < 2 ^ 31 by omega), h26', nI_cl (show x < 2 ^ 31 by omega)]; rfl)
set_option maxHeartbeats 200000 in
theorem ct_X7_cell {g : px_G} {w : px_W} {Q : px_Q} {tr : Int64} {ty nx tk pl va fa um : Int32} {T : px_T} {M : px_N} (hX : w[60]? = some (mobj tr ty nx tk pl va fa um)) (hT : MtA w T) (hO : TOK T) (hM : MnA w M) {a b : Int32} (hQ : Q (some (.int (cellR T M a b))) w) : Ct g yX7_cell cX7_cell 3 (some .int) 3 0 0 [.ref 60, .int a, .int b] w Q := by
  refine Ct.of kX7_cell (by omega) (lo := [some (.ref 60), some (.int a), some (.int b)]) rfl (px_cat1 rfl) (Nat.le_of_ble_eq_true rfl) ?_
  obtain ⟨fm, fz, fl, fs, fd, g0, g1, g2, g3, ⟨c1, c2, c3, c4, c5, c6, c7, c8, c9⟩, ma, mz, ml, md, mg, ⟨sb1, sb2, sb3⟩, sb4, sb5⟩ := id hT
  obtain ⟨fn, cn, hf, mB1, mB2, mB3⟩ := id hM
  refine r_aload_n (pc' := 1) dX7_cell_0 rfl rfl ?_
  refine r_iconst (pc' := 2) (v := nI 0) dX7_cell_1 rfl rfl ?_
  refine r_put (pc' := 5) (ty := .int) (c' := .inr (6, [.int (nI 0), .long tr, .ref 61, .int ty, .int nx, .int tk, .int pl, .int va, .int fa, .ref 62, .ref 63, .ref 64, .ref 65, .ref 66, .ref 67, .ref 68, .ref 69, .ref 70, .ref 71, .ref 72, .ref 73, .ref 74, .int um, .ref 75])) fX7_62 dX7_cell_2 rfl hX (Nat.le_of_ble_eq_true rfl) rfl (by decide +kernel) rfl rfl rfl ?_
  refine px_id hX ?_
  refine r_aload_n (pc' := 6) dX7_cell_5 rfl rfl ?_
  refine r_iload_n (pc' := 7) dX7_cell_6 rfl rfl ?_
  refine r_callV (pc' := 10) (av := [.int a]) (rest := []) kX7_isDrive vX7_isDrive lX7_150 dX7_cell_7 rfl hX rfl rfl rfl ⟨by decide, by decide, by decide⟩ rfl rfl (Nat.le_of_ble_eq_true rfl) (ct_X7_isDrive hX hT hO hM  ?_)
  show Wp g yX7_cell cX7_cell 3 (some .int) 3 0 0 (px_MQ g Q 0 0) 0 0 10 [some (.ref 60), some (.int a), some (.int b)] [.int (bI (hasI a (tD T)))] w
  refine r_if_eq (pc' := 13) (P := (hasI a (tD T)) = false) (tgt := 29) dX7_cell_10 (by decide) rfl (bI_0) (fun h10 => ?_) (fun h10 => ?_)
  · skip
    refine r_iconst (pc' := 30) (v := (-1)) dX7_cell_29 rfl rfl ?_
    refine r_ireturn dX7_cell_30 rfl ?_
    refine px_eq hQ ?_
    first | (simp [cellR, hasC, h10]; done) | (simp [cellR, hasC, nI_cl (show d < 2 ^ 31 by omega), h26]; done)
  · have h10' := (by simpa using h10 : hasI a _ = true)
    obtain ⟨d, hd, rfl⟩ := hasI_t h10' (by omega)
    refine r_iload_n (pc' := 14) dX7_cell_13 rfl rfl ?_
    refine r_iconst (pc' := 15) (v := nI 0) dX7_cell_14 rfl rfl ?_
    refine r_aload_n (pc' := 16) dX7_cell_15 rfl rfl ?_
    refine r_get (pc' := 19) fX7_25 dX7_cell_16 rfl hX rfl ?_
    refine r_iload_n (pc' := 20) dX7_cell_19 rfl rfl ?_
    refine r_iaload (pc' := 21) (v := nI (td T d)) dX7_cell_20 rfl c5 (vp_in_nI (n := d) (by omega) (by omega)) (by rw [nI_cl (by omega)]; exact md d (by omega)) ?_
    have e20 := hO.2.2.1 d (by omega)
    refine r_iconst (pc' := 22) (v := nI 1) dX7_cell_21 rfl rfl ?_
    refine r_isub (pc' := 23) (v := (nI (td T d)) - (nI 1)) dX7_cell_22 rfl (rfl) ?_
    refine r_callS (pc' := 26) (av := [.int b, .int (nI 0), .int ((nI (td T d)) - (nI 1))]) (rest := []) kX7_in vX7_in lX7_66 dX7_cell_23 rfl rfl rfl ⟨by decide, by decide, by decide⟩ rfl rfl (Nat.le_of_ble_eq_true rfl) (ct_in_s (n := (td T d)) (by omega) ?_)
    show Wp g yX7_cell cX7_cell 3 (some .int) 3 0 0 (px_MQ g Q 0 0) 0 0 26 [some (.ref 60), some (.int (nI d)), some (.int b)] [.int (bI (hasI b ((td T d))))] w
    refine r_if_ne (pc' := 29) (P := (hasI b ((td T d))) = false) (tgt := 31) dX7_cell_26 (by decide) rfl (bI_0) (fun h26 => ?_) (fun h26 => ?_)
    · have h26' := (by simpa using h26 : hasI b _ = true)
      obtain ⟨x, hx, rfl⟩ := hasI_t h26' (by omega)
      refine r_aload_n (pc' := 32) dX7_cell_31 rfl rfl ?_
      refine r_iload_n (pc' := 33) dX7_cell_32 rfl rfl ?_
      refine r_iload_n (pc' := 34) dX7_cell_33 rfl rfl ?_
      refine r_callV (pc' := 37) (av := [.int (nI d), .int (nI x)]) (rest := []) kX7_isTrodden vX7_isTrodden lX7_133 dX7_cell_34 rfl hX rfl rfl rfl ⟨by decide, by decide, by decide⟩ rfl rfl (Nat.le_of_ble_eq_true rfl) (ct_X7_isTrodden hX hT hO hM (d := d) (x := x) (by omega) (by omega) ?_)
      show Wp g yX7_cell cX7_cell 3 (some .int) 3 0 0 (px_MQ g Q 0 0) 0 0 37 [some (.ref 60), some (.int (nI d)), some (.int (nI x))] [.int (bI ((nt M d).testBit x))] w
      refine r_if_eq (pc' := 40) (P := ((nt M d).testBit x) = false) (tgt := 45) dX7_cell_37 (by decide) rfl (bI_0) (fun h37 => ?_) (fun h37 => ?_)
      · skip
        refine r_aload_n (pc' := 46) dX7_cell_45 rfl rfl ?_
        refine r_get (pc' := 49) fX7_40 dX7_cell_46 rfl hX rfl ?_
        refine r_iconst (pc' := 50) (v := nI 0) dX7_cell_49 rfl rfl ?_
        refine r_bipush (pc' := 52) (v := nI 8) dX7_cell_50 rfl rfl ?_
        refine r_iload_n (pc' := 53) dX7_cell_52 rfl rfl ?_
        refine r_imul (pc' := 54) (v := nI (8 * d)) dX7_cell_53 rfl (pk_mul 8 d) ?_
        refine r_iadd (pc' := 55) (v := nI (0 + (8 * d))) dX7_cell_54 rfl (nI_add 0 (8 * d)) ?_
        refine r_iload_n (pc' := 56) dX7_cell_55 rfl rfl ?_
        refine r_iadd (pc' := 57) (v := nI (0 + (8 * d) + x)) dX7_cell_56 rfl (nI_add (0 + (8 * d)) x) ?_
        refine r_iaload (pc' := 58) (v := nI (nc M d x)) dX7_cell_57 rfl cn (vp_in_nI (n := 0 + (8 * d) + x) (by omega) (by omega)) (by rw [nI_cl (by omega), Nat.zero_add, hf _ (by omega), sv_c _ (by omega) (by omega)]) ?_
        have e57 := mB1 d x (by omega) (by omega)
        refine r_ireturn dX7_cell_58 rfl ?_
        refine px_eq hQ ?_
        have ho : hasC T (nI d) (nI x) = true := by rw [hasC, h10', nI_cl (show d < 2 ^ 31 by omega), h26']; rfl
        rw [cellR, if_pos ho, nI_cl (show d < 2 ^ 31 by omega), nI_cl (show x < 2 ^ 31 by omega)]; simp [h37]
      · skip
        refine r_bipush (pc' := 42) (v := (-9)) dX7_cell_40 rfl rfl ?_
        refine r_goto (tgt := 58) dX7_cell_42 (by decide) ?_
        refine r_ireturn dX7_cell_58 rfl ?_
        refine px_eq hQ ?_
        have ho : hasC T (nI d) (nI x) = true := by rw [hasC, h10', nI_cl (show d < 2 ^ 31 by omega), h26']; rfl
        rw [cellR, if_pos ho, nI_cl (show d < 2 ^ 31 by omega), nI_cl (show x < 2 ^ 31 by omega)]; simp [h37]
    · skip
      refine r_iconst (pc' := 30) (v := (-1)) dX7_cell_29 rfl rfl ?_
      refine r_ireturn dX7_cell_30 rfl ?_
      refine px_eq hQ ?_
      first | (simp [cellR, hasC, h10]; done) | (simp [cellR, hasC, nI_cl (show d < 2 ^ 31 by omega), h26]; done)
set_option maxHeartbeats 200000 in
theorem ct_X7_goer {g : px_G} {w : px_W} {Q : px_Q} {tr : Int64} {ty nx tk pl va fa um : Int32} {T : px_T} {M : px_N} (hX : w[60]? = some (mobj tr ty nx tk pl va fa um)) (hT : MtA w T) (hO : TOK T) (hM : MnA w M) {a b : Int32} (hQ : Q (some (.int (goerR T a b))) w) : Ct g yX7_goer cX7_goer 3 (some .int) 2 0 0 [.ref 60, .int a, .int b] w Q := by
  refine Ct.of kX7_goer (by omega) (lo := [some (.ref 60), some (.int a), some (.int b)]) rfl (px_cat1 rfl) (Nat.le_of_ble_eq_true rfl) ?_
  obtain ⟨fm, fz, fl, fs, fd, g0, g1, g2, g3, ⟨c1, c2, c3, c4, c5, c6, c7, c8, c9⟩, ma, mz, ml, md, mg, ⟨sb1, sb2, sb3⟩, sb4, sb5⟩ := id hT
  obtain ⟨fn, cn, hf, mB1, mB2, mB3⟩ := id hM
  refine r_aload_n (pc' := 1) dX7_goer_0 rfl rfl ?_
  refine r_iconst (pc' := 2) (v := nI 0) dX7_goer_1 rfl rfl ?_
  refine r_put (pc' := 5) (ty := .int) (c' := .inr (6, [.int (nI 0), .long tr, .ref 61, .int ty, .int nx, .int tk, .int pl, .int va, .int fa, .ref 62, .ref 63, .ref 64, .ref 65, .ref 66, .ref 67, .ref 68, .ref 69, .ref 70, .ref 71, .ref 72, .ref 73, .ref 74, .int um, .ref 75])) fX7_62 dX7_goer_2 rfl hX (Nat.le_of_ble_eq_true rfl) rfl (by decide +kernel) rfl rfl rfl ?_
  refine px_id hX ?_
  refine r_iload_n (pc' := 6) dX7_goer_5 rfl rfl ?_
  refine r_iconst (pc' := 7) (v := nI 0) dX7_goer_6 rfl rfl ?_
  refine r_aload_n (pc' := 8) dX7_goer_7 rfl rfl ?_
  refine r_get (pc' := 11) fX7_13 dX7_goer_8 rfl hX rfl ?_
  refine r_iconst (pc' := 12) (v := nI 2) dX7_goer_11 rfl rfl ?_
  refine r_iaload (pc' := 13) (v := nI (tG T)) dX7_goer_12 rfl c1 (vp_in_nI (n := 2) (by omega) (by omega)) (by rw [nI_cl (by omega)]; exact ma.2.2) ?_
  refine r_iconst (pc' := 14) (v := nI 1) dX7_goer_13 rfl rfl ?_
  refine r_isub (pc' := 15) (v := (nI (tG T)) - (nI 1)) dX7_goer_14 rfl (rfl) ?_
  refine r_callS (pc' := 18) (av := [.int a, .int (nI 0), .int ((nI (tG T)) - (nI 1))]) (rest := []) kX7_in vX7_in lX7_66 dX7_goer_15 rfl rfl rfl ⟨by decide, by decide, by decide⟩ rfl rfl (Nat.le_of_ble_eq_true rfl) (ct_in_s (n := (tG T)) (by omega) ?_)
  show Wp g yX7_goer cX7_goer 3 (some .int) 2 0 0 (px_MQ g Q 0 0) 0 0 18 [some (.ref 60), some (.int a), some (.int b)] [.int (bI (hasI a ((tG T))))] w
  refine r_if_eq (pc' := 21) (P := (hasI a ((tG T))) = false) (tgt := 30) dX7_goer_18 (by decide) rfl (bI_0) (fun h18 => ?_) (fun h18 => ?_)
  · skip
    refine r_iconst (pc' := 31) (v := (-1)) dX7_goer_30 rfl rfl ?_
    refine r_ireturn dX7_goer_31 rfl ?_
    refine px_eq hQ ?_
    first | (simp [goerR, h18]; done) | (simp [goerR, h27]; done)
  · have h18' := (by simpa using h18 : hasI a _ = true)
    obtain ⟨j, hj, rfl⟩ := hasI_t h18' (by omega)
    refine r_iload_n (pc' := 22) dX7_goer_21 rfl rfl ?_
    refine r_iconst (pc' := 23) (v := nI 0) dX7_goer_22 rfl rfl ?_
    refine r_iconst (pc' := 24) (v := nI 3) dX7_goer_23 rfl rfl ?_
    refine r_callS (pc' := 27) (av := [.int b, .int (nI 0), .int (nI 3)]) (rest := []) kX7_in vX7_in lX7_66 dX7_goer_24 rfl rfl rfl ⟨by decide, by decide, by decide⟩ rfl rfl (Nat.le_of_ble_eq_true rfl) (ct_in_c (n := 3) (by omega) ?_)
    show Wp g yX7_goer cX7_goer 3 (some .int) 2 0 0 (px_MQ g Q 0 0) 0 0 27 [some (.ref 60), some (.int (nI j)), some (.int b)] [.int (bI (hasI b (3 + 1)))] w
    refine r_if_ne (pc' := 30) (P := (hasI b (3 + 1)) = false) (tgt := 32) dX7_goer_27 (by decide) rfl (bI_0) (fun h27 => ?_) (fun h27 => ?_)
    · have h27' := (by simpa using h27 : hasI b _ = true)
      obtain ⟨p, hp, rfl⟩ := hasI_t h27' (by omega)
      rcases (show p = 0 ∨ p = 1 ∨ p = 2 ∨ p = 3 by omega) with rfl | rfl | rfl | rfl
      · skip
        refine r_iload_n (pc' := 33) dX7_goer_32 rfl rfl ?_
        refine r_if_ne (pc' := 36) (P := 0 = 0) (tgt := 45) dX7_goer_33 (by decide) rfl (nI_eq0 (n := 0) (by omega)) (fun h33 => ?_) (fun h33 => ?_)
        · skip
          exfalso; omega
        · skip
          refine r_aload_n (pc' := 37) dX7_goer_36 rfl rfl ?_
          refine r_get (pc' := 40) fX7_28 dX7_goer_37 rfl hX rfl ?_
          refine r_iload_n (pc' := 41) dX7_goer_40 rfl rfl ?_
          refine r_iaload (pc' := 42) (v := nI (tg T j 0)) dX7_goer_41 rfl c6 (vp_in_nI (n := j) (by omega) (by omega)) (by rw [nI_cl (by omega)]; exact (mg j (by omega)).1) ?_
          have e41 := hO.2.2.2 j (by omega)
          refine r_goto (tgt := 79) dX7_goer_42 (by decide) ?_
          refine r_ireturn dX7_goer_79 rfl ?_
          refine px_eq hQ ?_
          rw [goerR, h18', nI_cl (show j < 2 ^ 31 by omega), nI_cl (show 0 < 2 ^ 31 by omega)]; rfl
      · skip
        refine r_iload_n (pc' := 33) dX7_goer_32 rfl rfl ?_
        refine r_if_ne (pc' := 36) (P := 1 = 0) (tgt := 45) dX7_goer_33 (by decide) rfl (nI_eq0 (n := 1) (by omega)) (fun h33 => ?_) (fun h33 => ?_)
        · skip
          refine r_iload_n (pc' := 46) dX7_goer_45 rfl rfl ?_
          refine r_iconst (pc' := 47) (v := nI 1) dX7_goer_46 rfl rfl ?_
          refine r_icmp_ne (pc' := 50) (P := 1 = 1) (tgt := 59) dX7_goer_47 (by decide) rfl (nI_eq (a := 1) (b := 1) (by omega) (by omega)) (fun h47 => ?_) (fun h47 => ?_)
          · skip
            exfalso; omega
          · skip
            refine r_aload_n (pc' := 51) dX7_goer_50 rfl rfl ?_
            refine r_get (pc' := 54) fX7_31 dX7_goer_51 rfl hX rfl ?_
            refine r_iload_n (pc' := 55) dX7_goer_54 rfl rfl ?_
            refine r_iaload (pc' := 56) (v := nI (tg T j 1)) dX7_goer_55 rfl c7 (vp_in_nI (n := j) (by omega) (by omega)) (by rw [nI_cl (by omega)]; exact (mg j (by omega)).2.1) ?_
            have e55 := hO.2.2.2 j (by omega)
            refine r_goto (tgt := 79) dX7_goer_56 (by decide) ?_
            refine r_ireturn dX7_goer_79 rfl ?_
            refine px_eq hQ ?_
            rw [goerR, h18', nI_cl (show j < 2 ^ 31 by omega), nI_cl (show 1 < 2 ^ 31 by omega)]; rfl
        · skip
          exfalso; omega
      · skip
        refine r_iload_n (pc' := 33) dX7_goer_32 rfl rfl ?_
        refine r_if_ne (pc' := 36) (P := 2 = 0) (tgt := 45) dX7_goer_33 (by decide) rfl (nI_eq0 (n := 2) (by omega)) (fun h33 => ?_) (fun h33 => ?_)
        · skip
          refine r_iload_n (pc' := 46) dX7_goer_45 rfl rfl ?_
          refine r_iconst (pc' := 47) (v := nI 1) dX7_goer_46 rfl rfl ?_
          refine r_icmp_ne (pc' := 50) (P := 2 = 1) (tgt := 59) dX7_goer_47 (by decide) rfl (nI_eq (a := 2) (b := 1) (by omega) (by omega)) (fun h47 => ?_) (fun h47 => ?_)
          · skip
            refine r_iload_n (pc' := 60) dX7_goer_59 rfl rfl ?_
            refine r_iconst (pc' := 61) (v := nI 2) dX7_goer_60 rfl rfl ?_
            refine r_icmp_ne (pc' := 64) (P := 2 = 2) (tgt := 73) dX7_goer_61 (by decide) rfl (nI_eq (a := 2) (b := 2) (by omega) (by omega)) (fun h61 => ?_) (fun h61 => ?_)
            · skip
              exfalso; omega
            · skip
              refine r_aload_n (pc' := 65) dX7_goer_64 rfl rfl ?_
              refine r_get (pc' := 68) fX7_34 dX7_goer_65 rfl hX rfl ?_
              refine r_iload_n (pc' := 69) dX7_goer_68 rfl rfl ?_
              refine r_iaload (pc' := 70) (v := nI (tg T j 2)) dX7_goer_69 rfl c8 (vp_in_nI (n := j) (by omega) (by omega)) (by rw [nI_cl (by omega)]; exact (mg j (by omega)).2.2.1) ?_
              have e69 := hO.2.2.2 j (by omega)
              refine r_goto (tgt := 79) dX7_goer_70 (by decide) ?_
              refine r_ireturn dX7_goer_79 rfl ?_
              refine px_eq hQ ?_
              rw [goerR, h18', nI_cl (show j < 2 ^ 31 by omega), nI_cl (show 2 < 2 ^ 31 by omega)]; rfl
          · skip
            exfalso; omega
        · skip
          exfalso; omega
      · skip
        refine r_iload_n (pc' := 33) dX7_goer_32 rfl rfl ?_
        refine r_if_ne (pc' := 36) (P := 3 = 0) (tgt := 45) dX7_goer_33 (by decide) rfl (nI_eq0 (n := 3) (by omega)) (fun h33 => ?_) (fun h33 => ?_)
        · skip
          refine r_iload_n (pc' := 46) dX7_goer_45 rfl rfl ?_
          refine r_iconst (pc' := 47) (v := nI 1) dX7_goer_46 rfl rfl ?_
          refine r_icmp_ne (pc' := 50) (P := 3 = 1) (tgt := 59) dX7_goer_47 (by decide) rfl (nI_eq (a := 3) (b := 1) (by omega) (by omega)) (fun h47 => ?_) (fun h47 => ?_)
          · skip
            refine r_iload_n (pc' := 60) dX7_goer_59 rfl rfl ?_
            refine r_iconst (pc' := 61) (v := nI 2) dX7_goer_60 rfl rfl ?_
            refine r_icmp_ne (pc' := 64) (P := 3 = 2) (tgt := 73) dX7_goer_61 (by decide) rfl (nI_eq (a := 3) (b := 2) (by omega) (by omega)) (fun h61 => ?_) (fun h61 => ?_)
            · skip
              refine r_aload_n (pc' := 74) dX7_goer_73 rfl rfl ?_
              refine r_get (pc' := 77) fX7_37 dX7_goer_74 rfl hX rfl ?_
              refine r_iload_n (pc' := 78) dX7_goer_77 rfl rfl ?_
              refine r_iaload (pc' := 79) (v := nI (tg T j 3)) dX7_goer_78 rfl c9 (vp_in_nI (n := j) (by omega) (by omega)) (by rw [nI_cl (by omega)]; exact (mg j (by omega)).2.2.2) ?_
              have e78 := hO.2.2.2 j (by omega)
              refine r_ireturn dX7_goer_79 rfl ?_
              refine px_eq hQ ?_
              rw [goerR, h18', nI_cl (show j < 2 ^ 31 by omega), nI_cl (show 3 < 2 ^ 31 by omega)]; rfl
            · skip
              exfalso; omega
          · skip
            exfalso; omega
        · skip
          exfalso; omega
      
    · skip
      refine r_iconst (pc' := 31) (v := (-1)) dX7_goer_30 rfl rfl ?_
      refine r_ireturn dX7_goer_31 rfl ?_
      refine px_eq hQ ?_
      first | (simp [goerR, h18]; done) | (simp [goerR, h27]; done)
set_option maxHeartbeats 200000 in
theorem ct_X7_likely {g : px_G} {w : px_W} {Q : px_Q} {tr : Int64} {ty nx tk pl va fa um : Int32} {T : px_T} {M : px_N} (hX : w[60]? = some (mobj tr ty nx tk pl va fa um)) (hT : MtA w T) (hO : TOK T) (hM : MnA w M) {a b c : Int32} (hQ : Q (some (.int (likelyR T M a b c))) w) : Ct g yX7_likely cX7_likely 7 (some .int) 4 0 0 [.ref 60, .int a, .int b, .int c] w Q := by
  refine Ct.of kX7_likely (by omega) (lo := [some (.ref 60), some (.int a), some (.int b), some (.int c), none, none, none]) rfl (px_cat1 rfl) (Nat.le_of_ble_eq_true rfl) ?_
  obtain ⟨fm, fz, fl, fs, fd, g0, g1, g2, g3, ⟨c1, c2, c3, c4, c5, c6, c7, c8, c9⟩, ma, mz, ml, md, mg, ⟨sb1, sb2, sb3⟩, sb4, sb5⟩ := id hT
  obtain ⟨fn, cn, hf, mB1, mB2, mB3⟩ := id hM
  refine r_aload_n (pc' := 1) dX7_likely_0 rfl rfl ?_
  refine r_iconst (pc' := 2) (v := nI 0) dX7_likely_1 rfl rfl ?_
  refine r_put (pc' := 5) (ty := .int) (c' := .inr (6, [.int (nI 0), .long tr, .ref 61, .int ty, .int nx, .int tk, .int pl, .int va, .int fa, .ref 62, .ref 63, .ref 64, .ref 65, .ref 66, .ref 67, .ref 68, .ref 69, .ref 70, .ref 71, .ref 72, .ref 73, .ref 74, .int um, .ref 75])) fX7_62 dX7_likely_2 rfl hX (Nat.le_of_ble_eq_true rfl) rfl (by decide +kernel) rfl rfl rfl ?_
  refine px_id hX ?_
  refine r_aload_n (pc' := 6) dX7_likely_5 rfl rfl ?_
  refine r_iload_n (pc' := 7) dX7_likely_6 rfl rfl ?_
  refine r_callV (pc' := 10) (av := [.int a]) (rest := []) kX7_isDrive vX7_isDrive lX7_150 dX7_likely_7 rfl hX rfl rfl rfl ⟨by decide, by decide, by decide⟩ rfl rfl (Nat.le_of_ble_eq_true rfl) (ct_X7_isDrive hX hT hO hM  ?_)
  show Wp g yX7_likely cX7_likely 7 (some .int) 4 0 0 (px_MQ g Q 0 0) 0 0 10 [some (.ref 60), some (.int a), some (.int b), some (.int c), none, none, none] [.int (bI (hasI a (tD T)))] w
  refine r_if_eq (pc' := 13) (P := (hasI a (tD T)) = false) (tgt := 30) dX7_likely_10 (by decide) rfl (bI_0) (fun h10 => ?_) (fun h10 => ?_)
  · skip
    refine r_iconst (pc' := 31) (v := (-1)) dX7_likely_30 rfl rfl ?_
    refine r_ireturn dX7_likely_31 rfl ?_
    refine px_eq hQ ?_
    first | (simp [likelyR, h10]; done) | (simp [likelyR, h18]; done) | (simp [likelyR, h27]; done)
  · have h10' := (by simpa using h10 : hasI a _ = true)
    obtain ⟨d, hd, rfl⟩ := hasI_t h10' (by omega)
    refine r_aload_n (pc' := 14) dX7_likely_13 rfl rfl ?_
    refine r_iload_n (pc' := 15) dX7_likely_14 rfl rfl ?_
    refine r_callV (pc' := 18) (av := [.int b]) (rest := []) kX7_isWordAt vX7_isWordAt lX7_126 dX7_likely_15 rfl hX rfl rfl rfl ⟨by decide, by decide, by decide⟩ rfl rfl (Nat.le_of_ble_eq_true rfl) (ct_X7_isWordAt hX hT hO hM  ?_)
    show Wp g yX7_likely cX7_likely 7 (some .int) 4 0 0 (px_MQ g Q 0 0) 0 0 18 [some (.ref 60), some (.int (nI d)), some (.int b), some (.int c), none, none, none] [.int (bI (hasI b (tW T)))] w
    refine r_if_eq (pc' := 21) (P := (hasI b (tW T)) = false) (tgt := 30) dX7_likely_18 (by decide) rfl (bI_0) (fun h18 => ?_) (fun h18 => ?_)
    · skip
      refine r_iconst (pc' := 31) (v := (-1)) dX7_likely_30 rfl rfl ?_
      refine r_ireturn dX7_likely_31 rfl ?_
      refine px_eq hQ ?_
      first | (simp [likelyR, h10]; done) | (simp [likelyR, h18]; done) | (simp [likelyR, h27]; done)
    · have h18' := (by simpa using h18 : hasI b _ = true)
      obtain ⟨i, hi, rfl⟩ := hasI_t h18' (by omega)
      refine r_iload_n (pc' := 22) dX7_likely_21 rfl rfl ?_
      refine r_iconst (pc' := 23) (v := nI 0) dX7_likely_22 rfl rfl ?_
      refine r_iconst (pc' := 24) (v := nI 1) dX7_likely_23 rfl rfl ?_
      refine r_callS (pc' := 27) (av := [.int c, .int (nI 0), .int (nI 1)]) (rest := []) kX7_in vX7_in lX7_66 dX7_likely_24 rfl rfl rfl ⟨by decide, by decide, by decide⟩ rfl rfl (Nat.le_of_ble_eq_true rfl) (ct_in_c (n := 1) (by omega) ?_)
      show Wp g yX7_likely cX7_likely 7 (some .int) 4 0 0 (px_MQ g Q 0 0) 0 0 27 [some (.ref 60), some (.int (nI d)), some (.int (nI i)), some (.int c), none, none, none] [.int (bI (hasI c (1 + 1)))] w
      refine r_if_ne (pc' := 30) (P := (hasI c (1 + 1)) = false) (tgt := 32) dX7_likely_27 (by decide) rfl (bI_0) (fun h27 => ?_) (fun h27 => ?_)
      · have h27' := (by simpa using h27 : hasI c _ = true)
        obtain ⟨k, hk, rfl⟩ := hasI_t h27' (by omega)
        refine r_aload_n (pc' := 33) dX7_likely_32 rfl rfl ?_
        refine r_iload_n (pc' := 34) dX7_likely_33 rfl rfl ?_
        refine r_iload_n (pc' := 35) dX7_likely_34 rfl rfl ?_
        refine r_callV (pc' := 38) (av := [.int (nI d), .int (nI i)]) (rest := []) kX7_canBe vX7_canBe lX7_137 dX7_likely_35 rfl hX rfl rfl rfl ⟨by decide, by decide, by decide⟩ rfl rfl (Nat.le_of_ble_eq_true rfl) (ct_X7_canBe hX hT hO hM (d := d) (i := i) (by omega) (by omega) ?_)
        show Wp g yX7_likely cX7_likely 7 (some .int) 4 0 0 (px_MQ g Q 0 0) 0 0 38 [some (.ref 60), some (.int (nI d)), some (.int (nI i)), some (.int (nI k)), none, none, none] [.int (bI (canS T M d i))] w
        refine r_if_eq (pc' := 41) (P := (canS T M d i) = false) (tgt := 50) dX7_likely_38 (by decide) rfl (bI_0) (fun h38 => ?_) (fun h38 => ?_)
        · skip
          refine r_iconst (pc' := 51) (v := nI 0) dX7_likely_50 rfl rfl ?_
          refine r_istore (pc' := 53) (lo' := [some (.ref 60), some (.int (nI d)), some (.int (nI i)), some (.int (nI k)), some (.int (nI 0)), none, none]) dX7_likely_51 rfl (by decide) rfl ?_
          refine r_iload (pc' := 55) dX7_likely_53 rfl rfl ?_
          refine r_if_ne (pc' := 58) (P := 0 = 0) (tgt := 62) dX7_likely_55 (by decide) rfl (nI_eq0 (n := 0) (by omega)) (fun h55 => ?_) (fun h55 => ?_)
          · skip
            exfalso; omega
          · skip
            refine r_iconst (pc' := 59) (v := nI 1) dX7_likely_58 rfl rfl ?_
            refine r_goto (tgt := 71) dX7_likely_59 (by decide) ?_
            refine r_istore (pc' := 73) (lo' := [some (.ref 60), some (.int (nI d)), some (.int (nI i)), some (.int (nI k)), some (.int (nI 0)), some (.int (nI 1)), none]) dX7_likely_71 rfl (by decide) rfl ?_
            refine r_iload (pc' := 75) dX7_likely_73 rfl rfl ?_
            refine r_iload (pc' := 77) dX7_likely_75 rfl rfl ?_
            refine r_callS (pc' := 80) (av := [.int (nI 0), .int (nI 1)]) (rest := []) kX7_gcd vX7_gcd lX7_166 dX7_likely_77 rfl rfl rfl ⟨by decide, by decide, by decide⟩ rfl rfl (Nat.le_of_ble_eq_true rfl) (ct_X7_gcd (a := 0) (b := 1) (by omega) (by omega) ?_)
            show Wp g yX7_likely cX7_likely 7 (some .int) 4 0 0 (px_MQ g Q 0 0) 0 0 80 [some (.ref 60), some (.int (nI d)), some (.int (nI i)), some (.int (nI k)), some (.int (nI 0)), some (.int (nI 1)), none] [.int (nI (Nat.gcd 0 1))] w
            have hU : likU T M d i = 0 := by simp [likU, h38]
            have hL : likL T M d i = 1 := by simp [likL, h38]
            have hg1 : 0 < Nat.gcd (likU T M d i) (likL T M d i) := by first | exact Nat.gcd_pos_of_pos_left _ (by omega) | exact Nat.gcd_pos_of_pos_right _ (by omega)
            have hg2 : Nat.gcd (likU T M d i) (likL T M d i) ≤ 60 := by first | exact Nat.le_trans (Nat.gcd_le_left _ (by omega)) (by omega) | exact Nat.le_trans (Nat.gcd_le_right _ (by omega)) (by omega)
            rw [hU, hL] at hg1 hg2
            refine r_istore (pc' := 82) (lo' := [some (.ref 60), some (.int (nI d)), some (.int (nI i)), some (.int (nI k)), some (.int (nI 0)), some (.int (nI 1)), some (.int (nI (Nat.gcd 0 1)))]) dX7_likely_80 rfl (by decide) rfl ?_
            refine r_iload_n (pc' := 83) dX7_likely_82 rfl rfl ?_
            refine r_if_ne (pc' := 86) (P := k = 0) (tgt := 94) dX7_likely_83 (by decide) rfl (nI_eq0 (n := k) (by omega)) (fun h83 => ?_) (fun h83 => ?_)
            · skip
              refine r_iload (pc' := 96) dX7_likely_94 rfl rfl ?_
              refine r_iload (pc' := 98) dX7_likely_96 rfl rfl ?_
              refine r_idiv (pc' := 99) (v := nI (1 / (Nat.gcd 0 1))) dX7_likely_98 rfl (nI_ne0 (n := Nat.gcd 0 1) (by omega) (by omega)) (pk_div (a := 1) (d := Nat.gcd 0 1) (by omega) (by omega) (by omega)) ?_
              refine r_ireturn dX7_likely_99 rfl ?_
              refine px_eq hQ ?_
              rw [likelyR, h10', h18', h27', nI_cl (show d < 2 ^ 31 by omega), nI_cl (show i < 2 ^ 31 by omega), nI_cl (show k < 2 ^ 31 by omega), hU, hL]
              simp [h83]
            · skip
              refine r_iload (pc' := 88) dX7_likely_86 rfl rfl ?_
              refine r_iload (pc' := 90) dX7_likely_88 rfl rfl ?_
              refine r_idiv (pc' := 91) (v := nI (0 / (Nat.gcd 0 1))) dX7_likely_90 rfl (nI_ne0 (n := Nat.gcd 0 1) (by omega) (by omega)) (pk_div (a := 0) (d := Nat.gcd 0 1) (by omega) (by omega) (by omega)) ?_
              refine r_goto (tgt := 99) dX7_likely_91 (by decide) ?_
              refine r_ireturn dX7_likely_99 rfl ?_
              refine px_eq hQ ?_
              rw [likelyR, h10', h18', h27', nI_cl (show d < 2 ^ 31 by omega), nI_cl (show i < 2 ^ 31 by omega), nI_cl (show k < 2 ^ 31 by omega), hU, hL]
              simp [h83]
        · skip
          refine r_aload_n (pc' := 42) dX7_likely_41 rfl rfl ?_
          refine r_get (pc' := 45) fX7_22 dX7_likely_42 rfl hX rfl ?_
          refine r_iload_n (pc' := 46) dX7_likely_45 rfl rfl ?_
          refine r_iaload (pc' := 47) (v := nI (ts T i)) dX7_likely_46 rfl c4 (vp_in_nI (n := i) (by omega) (by omega)) (by rw [nI_cl (by omega)]; exact (mz i (by omega)).2) ?_
          have e46 := hO.1 i (by omega)
          refine r_goto (tgt := 51) dX7_likely_47 (by decide) ?_
          refine r_istore (pc' := 53) (lo' := [some (.ref 60), some (.int (nI d)), some (.int (nI i)), some (.int (nI k)), some (.int (nI (ts T i))), none, none]) dX7_likely_51 rfl (by decide) rfl ?_
          refine r_iload (pc' := 55) dX7_likely_53 rfl rfl ?_
          refine r_if_ne (pc' := 58) (P := ts T i = 0) (tgt := 62) dX7_likely_55 (by decide) rfl (nI_eq0 (n := ts T i) (by omega)) (fun h55 => ?_) (fun h55 => ?_)
          · skip
            refine r_aload_n (pc' := 63) dX7_likely_62 rfl rfl ?_
            refine r_aload_n (pc' := 64) dX7_likely_63 rfl rfl ?_
            refine r_iload_n (pc' := 65) dX7_likely_64 rfl rfl ?_
            refine r_callV (pc' := 68) (av := [.int (nI d)]) (rest := [.ref 60]) kX7_fitsOf vX7_fitsOf lX7_140 dX7_likely_65 rfl hX rfl rfl rfl ⟨by decide, by decide, by decide⟩ rfl rfl (Nat.le_of_ble_eq_true rfl) (ct_X7_fitsOf hX hT hO hM (d := d) (by omega) ?_)
            show Wp g yX7_likely cX7_likely 7 (some .int) 4 0 0 (px_MQ g Q 0 0) 0 0 68 [some (.ref 60), some (.int (nI d)), some (.int (nI i)), some (.int (nI k)), some (.int (nI (ts T i))), none, none] [.int (nI (fitS T M d)), .ref 60] w
            have e65 := fitS_lt (M := M) (d := d) sb1
            refine r_callV (pc' := 71) (av := [.int (nI (fitS T M d))]) (rest := []) kX7_weight vX7_weight lX7_163 dX7_likely_68 rfl hX rfl rfl rfl ⟨by decide, by decide, by decide⟩ rfl rfl (Nat.le_of_ble_eq_true rfl) (ct_X7_weight hX hT hO hM (bits := fitS T M d) (by omega) ?_)
            show Wp g yX7_likely cX7_likely 7 (some .int) 4 0 0 (px_MQ g Q 0 0) 0 0 71 [some (.ref 60), some (.int (nI d)), some (.int (nI i)), some (.int (nI k)), some (.int (nI (ts T i))), none, none] [.int (nI (wgt T (fitS T M d)))] w
            have e68 := wgt_le hO hT.b (fitS T M d)
            refine r_istore (pc' := 73) (lo' := [some (.ref 60), some (.int (nI d)), some (.int (nI i)), some (.int (nI k)), some (.int (nI (ts T i))), some (.int (nI (wgt T (fitS T M d)))), none]) dX7_likely_71 rfl (by decide) rfl ?_
            refine r_iload (pc' := 75) dX7_likely_73 rfl rfl ?_
            refine r_iload (pc' := 77) dX7_likely_75 rfl rfl ?_
            refine r_callS (pc' := 80) (av := [.int (nI (ts T i)), .int (nI (wgt T (fitS T M d)))]) (rest := []) kX7_gcd vX7_gcd lX7_166 dX7_likely_77 rfl rfl rfl ⟨by decide, by decide, by decide⟩ rfl rfl (Nat.le_of_ble_eq_true rfl) (ct_X7_gcd (a := ts T i) (b := wgt T (fitS T M d)) (by omega) (by omega) ?_)
            show Wp g yX7_likely cX7_likely 7 (some .int) 4 0 0 (px_MQ g Q 0 0) 0 0 80 [some (.ref 60), some (.int (nI d)), some (.int (nI i)), some (.int (nI k)), some (.int (nI (ts T i))), some (.int (nI (wgt T (fitS T M d)))), none] [.int (nI (Nat.gcd (ts T i) (wgt T (fitS T M d))))] w
            have hU : likU T M d i = (ts T i) := by simp [likU, h38]
            have hL : likL T M d i = (wgt T (fitS T M d)) := by simp [likL, h38]
            have hg1 : 0 < Nat.gcd (likU T M d i) (likL T M d i) := by first | exact Nat.gcd_pos_of_pos_left _ (by omega) | exact Nat.gcd_pos_of_pos_right _ (by omega)
            have hg2 : Nat.gcd (likU T M d i) (likL T M d i) ≤ 60 := by first | exact Nat.le_trans (Nat.gcd_le_left _ (by omega)) (by omega) | exact Nat.le_trans (Nat.gcd_le_right _ (by omega)) (by omega)
            rw [hU, hL] at hg1 hg2
            refine r_istore (pc' := 82) (lo' := [some (.ref 60), some (.int (nI d)), some (.int (nI i)), some (.int (nI k)), some (.int (nI (ts T i))), some (.int (nI (wgt T (fitS T M d)))), some (.int (nI (Nat.gcd (ts T i) (wgt T (fitS T M d)))))]) dX7_likely_80 rfl (by decide) rfl ?_
            refine r_iload_n (pc' := 83) dX7_likely_82 rfl rfl ?_
            refine r_if_ne (pc' := 86) (P := k = 0) (tgt := 94) dX7_likely_83 (by decide) rfl (nI_eq0 (n := k) (by omega)) (fun h83 => ?_) (fun h83 => ?_)
            · skip
              refine r_iload (pc' := 96) dX7_likely_94 rfl rfl ?_
              refine r_iload (pc' := 98) dX7_likely_96 rfl rfl ?_
              refine r_idiv (pc' := 99) (v := nI ((wgt T (fitS T M d)) / (Nat.gcd (ts T i) (wgt T (fitS T M d))))) dX7_likely_98 rfl (nI_ne0 (n := Nat.gcd (ts T i) (wgt T (fitS T M d))) (by omega) (by omega)) (pk_div (a := wgt T (fitS T M d)) (d := Nat.gcd (ts T i) (wgt T (fitS T M d))) (by omega) (by omega) (by omega)) ?_
              refine r_ireturn dX7_likely_99 rfl ?_
              refine px_eq hQ ?_
              rw [likelyR, h10', h18', h27', nI_cl (show d < 2 ^ 31 by omega), nI_cl (show i < 2 ^ 31 by omega), nI_cl (show k < 2 ^ 31 by omega), hU, hL]
              simp [h83]
            · skip
              refine r_iload (pc' := 88) dX7_likely_86 rfl rfl ?_
              refine r_iload (pc' := 90) dX7_likely_88 rfl rfl ?_
              refine r_idiv (pc' := 91) (v := nI ((ts T i) / (Nat.gcd (ts T i) (wgt T (fitS T M d))))) dX7_likely_90 rfl (nI_ne0 (n := Nat.gcd (ts T i) (wgt T (fitS T M d))) (by omega) (by omega)) (pk_div (a := ts T i) (d := Nat.gcd (ts T i) (wgt T (fitS T M d))) (by omega) (by omega) (by omega)) ?_
              refine r_goto (tgt := 99) dX7_likely_91 (by decide) ?_
              refine r_ireturn dX7_likely_99 rfl ?_
              refine px_eq hQ ?_
              rw [likelyR, h10', h18', h27', nI_cl (show d < 2 ^ 31 by omega), nI_cl (show i < 2 ^ 31 by omega), nI_cl (show k < 2 ^ 31 by omega), hU, hL]
              simp [h83]
          · skip
            exfalso; omega
      · skip
        refine r_iconst (pc' := 31) (v := (-1)) dX7_likely_30 rfl rfl ?_
        refine r_ireturn dX7_likely_31 rfl ?_
        refine px_eq hQ ?_
        first | (simp [likelyR, h10]; done) | (simp [likelyR, h18]; done) | (simp [likelyR, h27]; done)
set_option maxHeartbeats 200000 in
theorem ct_X7_spoil {g : px_G} {w : px_W} {Q : px_Q} {tr : Int64} {ty nx tk pl va fa um : Int32} {T : px_T} {M : px_N} (hX : w[60]? = some (mobj tr ty nx tk pl va fa um)) (hT : MtA w T) (hO : TOK T) (hM : MnA w M) {a b c : Int32} (hQ : Q (some (.int (spoilR T M a b c))) w) : Ct g yX7_spoil cX7_spoil 8 (some .int) 3 0 0 [.ref 60, .int a, .int b, .int c] w Q := by
  refine Ct.of kX7_spoil (by omega) (lo := [some (.ref 60), some (.int a), some (.int b), some (.int c), none, none, none, none]) rfl (px_cat1 rfl) (Nat.le_of_ble_eq_true rfl) ?_
  obtain ⟨fm, fz, fl, fs, fd, g0, g1, g2, g3, ⟨c1, c2, c3, c4, c5, c6, c7, c8, c9⟩, ma, mz, ml, md, mg, ⟨sb1, sb2, sb3⟩, sb4, sb5⟩ := id hT
  obtain ⟨fn, cn, hf, mB1, mB2, mB3⟩ := id hM
  refine r_aload_n (pc' := 1) dX7_spoil_0 rfl rfl ?_
  refine r_iconst (pc' := 2) (v := nI 0) dX7_spoil_1 rfl rfl ?_
  refine r_put (pc' := 5) (ty := .int) (c' := .inr (6, [.int (nI 0), .long tr, .ref 61, .int ty, .int nx, .int tk, .int pl, .int va, .int fa, .ref 62, .ref 63, .ref 64, .ref 65, .ref 66, .ref 67, .ref 68, .ref 69, .ref 70, .ref 71, .ref 72, .ref 73, .ref 74, .int um, .ref 75])) fX7_62 dX7_spoil_2 rfl hX (Nat.le_of_ble_eq_true rfl) rfl (by decide +kernel) rfl rfl rfl ?_
  refine px_id hX ?_
  refine r_aload_n (pc' := 6) dX7_spoil_5 rfl rfl ?_
  refine r_iload_n (pc' := 7) dX7_spoil_6 rfl rfl ?_
  refine r_callV (pc' := 10) (av := [.int a]) (rest := []) kX7_isDrive vX7_isDrive lX7_150 dX7_spoil_7 rfl hX rfl rfl rfl ⟨by decide, by decide, by decide⟩ rfl rfl (Nat.le_of_ble_eq_true rfl) (ct_X7_isDrive hX hT hO hM  ?_)
  show Wp g yX7_spoil cX7_spoil 8 (some .int) 3 0 0 (px_MQ g Q 0 0) 0 0 10 [some (.ref 60), some (.int a), some (.int b), some (.int c), none, none, none, none] [.int (bI (hasI a (tD T)))] w
  refine r_if_eq (pc' := 13) (P := (hasI a (tD T)) = false) (tgt := 31) dX7_spoil_10 (by decide) rfl (bI_0) (fun h10 => ?_) (fun h10 => ?_)
  · skip
    refine r_iconst (pc' := 32) (v := (-1)) dX7_spoil_31 rfl rfl ?_
    refine r_ireturn dX7_spoil_32 rfl ?_
    refine px_eq hQ ?_
    first | (simp [spoilR, h10]; done) | (simp [spoilR, h19]; done) | (simp [spoilR, h28]; done)
  · have h10' := (by simpa using h10 : hasI a _ = true)
    obtain ⟨d, hd, rfl⟩ := hasI_t h10' (by omega)
    refine r_iload_n (pc' := 14) dX7_spoil_13 rfl rfl ?_
    refine r_iconst (pc' := 15) (v := nI 1) dX7_spoil_14 rfl rfl ?_
    refine r_iconst (pc' := 16) (v := nI 4) dX7_spoil_15 rfl rfl ?_
    refine r_callS (pc' := 19) (av := [.int b, .int (nI 1), .int (nI 4)]) (rest := []) kX7_in vX7_in lX7_66 dX7_spoil_16 rfl rfl rfl ⟨by decide, by decide, by decide⟩ rfl rfl (Nat.le_of_ble_eq_true rfl) (ct_in_4 ?_)
    show Wp g yX7_spoil cX7_spoil 8 (some .int) 3 0 0 (px_MQ g Q 0 0) 0 0 19 [some (.ref 60), some (.int (nI d)), some (.int b), some (.int c), none, none, none, none] [.int (bI (strI b))] w
    refine r_if_eq (pc' := 22) (P := (strI b) = false) (tgt := 31) dX7_spoil_19 (by decide) rfl (bI_0) (fun h19 => ?_) (fun h19 => ?_)
    · skip
      refine r_iconst (pc' := 32) (v := (-1)) dX7_spoil_31 rfl rfl ?_
      refine r_ireturn dX7_spoil_32 rfl ?_
      refine px_eq hQ ?_
      first | (simp [spoilR, h10]; done) | (simp [spoilR, h19]; done) | (simp [spoilR, h28]; done)
    · have h19' : strI b = true := by simpa using h19
      obtain ⟨s, hs1, hs2, rfl⟩ := strI_t h19'
      refine r_iload_n (pc' := 23) dX7_spoil_22 rfl rfl ?_
      refine r_iconst (pc' := 24) (v := nI 0) dX7_spoil_23 rfl rfl ?_
      refine r_iconst (pc' := 25) (v := nI 1) dX7_spoil_24 rfl rfl ?_
      refine r_callS (pc' := 28) (av := [.int c, .int (nI 0), .int (nI 1)]) (rest := []) kX7_in vX7_in lX7_66 dX7_spoil_25 rfl rfl rfl ⟨by decide, by decide, by decide⟩ rfl rfl (Nat.le_of_ble_eq_true rfl) (ct_in_c (n := 1) (by omega) ?_)
      show Wp g yX7_spoil cX7_spoil 8 (some .int) 3 0 0 (px_MQ g Q 0 0) 0 0 28 [some (.ref 60), some (.int (nI d)), some (.int (nI s)), some (.int c), none, none, none, none] [.int (bI (hasI c (1 + 1)))] w
      refine r_if_ne (pc' := 31) (P := (hasI c (1 + 1)) = false) (tgt := 33) dX7_spoil_28 (by decide) rfl (bI_0) (fun h28 => ?_) (fun h28 => ?_)
      · have h28' := (by simpa using h28 : hasI c _ = true)
        obtain ⟨k, hk, rfl⟩ := hasI_t h28' (by omega)
        refine r_iconst (pc' := 34) (v := nI 0) dX7_spoil_33 rfl rfl ?_
        refine r_istore (pc' := 36) (lo' := [some (.ref 60), some (.int (nI d)), some (.int (nI s)), some (.int (nI k)), some (.int (nI 0)), none, none, none]) dX7_spoil_34 rfl (by decide) rfl ?_
        refine r_bipush (pc' := 38) (v := nI 99) dX7_spoil_36 rfl rfl ?_
        refine r_istore (pc' := 40) (lo' := [some (.ref 60), some (.int (nI d)), some (.int (nI s)), some (.int (nI k)), some (.int (nI 0)), some (.int (nI 99)), none, none]) dX7_spoil_38 rfl (by decide) rfl ?_
        refine r_iconst (pc' := 41) (v := nI 0) dX7_spoil_40 rfl rfl ?_
        refine r_istore (pc' := 43) (lo' := [some (.ref 60), some (.int (nI d)), some (.int (nI s)), some (.int (nI k)), some (.int (nI 0)), some (.int (nI 99)), some (.int (nI 0)), none]) dX7_spoil_41 rfl (by decide) rfl ?_
        have L43 : ∀ (fu : Nat) (f : Nat), s - f < fu → f ≤ s → Wp g yX7_spoil cX7_spoil 8 (some .int) 3 0 0 (px_MQ g Q 0 0) 0 0 43 [some (.ref 60), some (.int (nI d)), some (.int (nI s)), some (.int (nI k)), some (.int (nI (oZ (amin (fun _ => true) (spoF T M d s) f)))), some (.int (nI (aval (spoF T M d s) 99 (amin (fun _ => true) (spoF T M d s) f)))), some (.int (nI f)), none] [] w := by
          intro fu; induction fu with
          | zero => intro f hm; exact absurd hm (Nat.not_lt_zero _)
          | succ fu ih =>
            intro f hm hfl
            have hav : aval (spoF T M d s) 99 (amin (fun _ => true) (spoF T M d s) f) ≤ 99 := aval_le (fun v _ => by have := popc_le (rdbl T M d &&& trk v s (td T d)); show popc _ ≤ 99; omega)
            have ih43 := ih; clear ih
            refine r_iload (pc' := 45) dX7_spoil_43 rfl rfl ?_
            refine r_iload_n (pc' := 46) dX7_spoil_45 rfl rfl ?_
            refine r_icmp_ge (pc' := 49) (P := s ≤ f) (tgt := 106) dX7_spoil_46 (by decide) rfl (nI_leI (a := s) (b := f) (by omega) (by omega)) (fun h46 => ?_) (fun h46 => ?_)
            · have hf2 : f = s := by omega
              subst hf2
              refine r_iload_n (pc' := 107) dX7_spoil_106 rfl rfl ?_
              refine r_if_ne (pc' := 110) (P := k = 0) (tgt := 115) dX7_spoil_107 (by decide) rfl (nI_eq0 (n := k) (by omega)) (fun h107 => ?_) (fun h107 => ?_)
              · skip
                refine r_iload (pc' := 117) dX7_spoil_115 rfl rfl ?_
                refine r_ireturn dX7_spoil_117 rfl ?_
                refine px_eq hQ ?_
                obtain ⟨m, rfl⟩ : ∃ m, f = m + 1 := ⟨f - 1, by omega⟩
                obtain ⟨v, hv⟩ : ∃ v, amin (fun _ => true) (spoF T M d (m + 1)) (m + 1) = some v := by
                  rw [amin]
                  split
                  · exact ⟨_, rfl⟩
                  · split <;> exact ⟨_, rfl⟩
                rw [spoilR, h10', h19', h28', nI_cl (show d < 2 ^ 31 by omega), nI_cl (show m + 1 < 2 ^ 31 by omega), nI_cl (show k < 2 ^ 31 by omega), hv]
                simp [h107, oZ, aval]
              · skip
                refine r_iload (pc' := 112) dX7_spoil_110 rfl rfl ?_
                refine r_goto (tgt := 117) dX7_spoil_112 (by decide) ?_
                refine r_ireturn dX7_spoil_117 rfl ?_
                refine px_eq hQ ?_
                obtain ⟨m, rfl⟩ : ∃ m, f = m + 1 := ⟨f - 1, by omega⟩
                obtain ⟨v, hv⟩ : ∃ v, amin (fun _ => true) (spoF T M d (m + 1)) (m + 1) = some v := by
                  rw [amin]
                  split
                  · exact ⟨_, rfl⟩
                  · split <;> exact ⟨_, rfl⟩
                rw [spoilR, h10', h19', h28', nI_cl (show d < 2 ^ 31 by omega), nI_cl (show m + 1 < 2 ^ 31 by omega), nI_cl (show k < 2 ^ 31 by omega), hv]
                simp [h107, oZ, aval]
            · skip
              refine r_aload_n (pc' := 50) dX7_spoil_49 rfl rfl ?_
              refine r_iload_n (pc' := 51) dX7_spoil_50 rfl rfl ?_
              refine r_iload (pc' := 53) dX7_spoil_51 rfl rfl ?_
              refine r_iload_n (pc' := 54) dX7_spoil_53 rfl rfl ?_
              refine r_callV (pc' := 57) (av := [.int (nI d), .int (nI f), .int (nI s)]) (rest := []) kX7_stepsOf vX7_stepsOf lX7_146 dX7_spoil_54 rfl hX rfl rfl rfl ⟨by decide, by decide, by decide⟩ rfl rfl (Nat.le_of_ble_eq_true rfl) (ct_X7_stepsOf hX hT hO hM (d := d) (f := f) (s := s) (by omega) (by omega) (by omega) ?_)
              show Wp g yX7_spoil cX7_spoil 8 (some .int) 3 0 0 (px_MQ g Q 0 0) 0 0 57 [some (.ref 60), some (.int (nI d)), some (.int (nI s)), some (.int (nI k)), some (.int (nI (oZ (amin (fun _ => true) (spoF T M d s) f)))), some (.int (nI (aval (spoF T M d s) 99 (amin (fun _ => true) (spoF T M d s) f)))), some (.int (nI f)), none] [.int (nI (trk f s (td T d)))] w
              have e54 := trk_lt (f := f) (s := s) (hO.2.2.1 d (by omega)).2
              refine r_aload_n (pc' := 58) dX7_spoil_57 rfl rfl ?_
              refine r_iload_n (pc' := 59) dX7_spoil_58 rfl rfl ?_
              refine r_callV (pc' := 62) (av := [.int (nI d)]) (rest := [.int (nI (trk f s (td T d)))]) kX7_readable vX7_readable lX7_169 dX7_spoil_59 rfl hX rfl rfl rfl ⟨by decide, by decide, by decide⟩ rfl rfl (Nat.le_of_ble_eq_true rfl) (ct_X7_readable hX hT hO hM (d := d) (by omega) ?_)
              show Wp g yX7_spoil cX7_spoil 8 (some .int) 3 0 0 (px_MQ g Q 0 0) 0 0 62 [some (.ref 60), some (.int (nI d)), some (.int (nI s)), some (.int (nI k)), some (.int (nI (oZ (amin (fun _ => true) (spoF T M d s) f)))), some (.int (nI (aval (spoF T M d s) 99 (amin (fun _ => true) (spoF T M d s) f)))), some (.int (nI f)), none] [.int (nI (rdbl T M d)), .int (nI (trk f s (td T d)))] w
              have e59 := rdbl_lt (M := M) (hO.2.2.1 d (by omega)).2
              refine r_iand (pc' := 63) (v := nI ((trk f s (td T d)) &&& (rdbl T M d))) dX7_spoil_62 rfl (and_n (trk f s (td T d)) (rdbl T M d)) ?_
              refine r_callS (pc' := 66) (av := [.int (nI ((trk f s (td T d)) &&& (rdbl T M d)))]) (rest := []) kX7_ones vX7_ones lX7_143 dX7_spoil_63 rfl rfl rfl ⟨by decide, by decide, by decide⟩ rfl rfl (Nat.le_of_ble_eq_true rfl) (ct_X7_ones (n := (trk f s (td T d)) &&& (rdbl T M d)) (and_lt31 (by omega)) ?_)
              show Wp g yX7_spoil cX7_spoil 8 (some .int) 3 0 0 (px_MQ g Q 0 0) 0 0 66 [some (.ref 60), some (.int (nI d)), some (.int (nI s)), some (.int (nI k)), some (.int (nI (oZ (amin (fun _ => true) (spoF T M d s) f)))), some (.int (nI (aval (spoF T M d s) 99 (amin (fun _ => true) (spoF T M d s) f)))), some (.int (nI f)), none] [.int (nI (popc ((trk f s (td T d)) &&& (rdbl T M d))))] w
              have e63 := popc_le ((trk f s (td T d)) &&& (rdbl T M d))
              refine r_istore (pc' := 68) (lo' := [some (.ref 60), some (.int (nI d)), some (.int (nI s)), some (.int (nI k)), some (.int (nI (oZ (amin (fun _ => true) (spoF T M d s) f)))), some (.int (nI (aval (spoF T M d s) 99 (amin (fun _ => true) (spoF T M d s) f)))), some (.int (nI f)), some (.int (nI (popc ((trk f s (td T d)) &&& (rdbl T M d)))))]) dX7_spoil_66 rfl (by decide) rfl ?_
              refine r_iload (pc' := 70) dX7_spoil_68 rfl rfl ?_
              refine r_iload (pc' := 72) dX7_spoil_70 rfl rfl ?_
              refine r_icmp_ge (pc' := 75) (P := aval (spoF T M d s) 99 (amin (fun _ => true) (spoF T M d s) f) ≤ popc ((trk f s (td T d)) &&& (rdbl T M d))) (tgt := 80) dX7_spoil_72 (by decide) rfl (nI_leI (a := aval (spoF T M d s) 99 (amin (fun _ => true) (spoF T M d s) f)) (b := popc ((trk f s (td T d)) &&& (rdbl T M d))) (by omega) (by omega)) (fun h72 => ?_) (fun h72 => ?_)
              · skip
                refine r_iload (pc' := 82) dX7_spoil_80 rfl rfl ?_
                refine r_istore (pc' := 84) (lo' := [some (.ref 60), some (.int (nI d)), some (.int (nI s)), some (.int (nI k)), some (.int (nI (oZ (amin (fun _ => true) (spoF T M d s) f)))), some (.int (nI (aval (spoF T M d s) 99 (amin (fun _ => true) (spoF T M d s) f)))), some (.int (nI f)), some (.int (nI (popc ((trk f s (td T d)) &&& (rdbl T M d)))))]) dX7_spoil_82 rfl (by decide) rfl ?_
                refine r_iload (pc' := 86) dX7_spoil_84 rfl rfl ?_
                refine r_iload (pc' := 88) dX7_spoil_86 rfl rfl ?_
                refine r_icmp_ge (pc' := 91) (P := aval (spoF T M d s) 99 (amin (fun _ => true) (spoF T M d s) f) ≤ popc ((trk f s (td T d)) &&& (rdbl T M d))) (tgt := 96) dX7_spoil_88 (by decide) rfl (nI_leI (a := aval (spoF T M d s) 99 (amin (fun _ => true) (spoF T M d s) f)) (b := popc ((trk f s (td T d)) &&& (rdbl T M d))) (by omega) (by omega)) (fun h88 => ?_) (fun h88 => ?_)
                · skip
                  refine r_iload (pc' := 98) dX7_spoil_96 rfl rfl ?_
                  refine r_istore (pc' := 100) (lo' := [some (.ref 60), some (.int (nI d)), some (.int (nI s)), some (.int (nI k)), some (.int (nI (oZ (amin (fun _ => true) (spoF T M d s) f)))), some (.int (nI (aval (spoF T M d s) 99 (amin (fun _ => true) (spoF T M d s) f)))), some (.int (nI f)), some (.int (nI (popc ((trk f s (td T d)) &&& (rdbl T M d)))))]) dX7_spoil_98 rfl (by decide) rfl ?_
                  refine r_iinc (pc' := 103) (lo' := [some (.ref 60), some (.int (nI d)), some (.int (nI s)), some (.int (nI k)), some (.int (nI (oZ (amin (fun _ => true) (spoF T M d s) f)))), some (.int (nI (aval (spoF T M d s) 99 (amin (fun _ => true) (spoF T M d s) f)))), some (.int (nI (f + 1))), some (.int (nI (popc ((trk f s (td T d)) &&& (rdbl T M d)))))]) dX7_spoil_100 rfl (by decide) rfl (nI_add f 1) rfl ?_
                  refine r_goto (tgt := 43) dX7_spoil_103 (by decide) ?_
                  have e1 := amin_f (p := (fun _ => true)) (f := (spoF T M d s)) (n := f) (big := 99) (by show popc _ < 99; rw [Nat.and_comm]; omega) (Or.inr (by show ¬ popc _ < _; rw [Nat.and_comm]; omega))
                  have hi := ih43 (f + 1) (by omega) (by omega)
                  rw [e1] at hi
                  refine r_drop 7 rfl ?_
                  exact hi
                · skip
                  exfalso; omega
              · skip
                refine r_iload (pc' := 77) dX7_spoil_75 rfl rfl ?_
                refine r_goto (tgt := 82) dX7_spoil_77 (by decide) ?_
                refine r_istore (pc' := 84) (lo' := [some (.ref 60), some (.int (nI d)), some (.int (nI s)), some (.int (nI k)), some (.int (nI f)), some (.int (nI (aval (spoF T M d s) 99 (amin (fun _ => true) (spoF T M d s) f)))), some (.int (nI f)), some (.int (nI (popc ((trk f s (td T d)) &&& (rdbl T M d)))))]) dX7_spoil_82 rfl (by decide) rfl ?_
                refine r_iload (pc' := 86) dX7_spoil_84 rfl rfl ?_
                refine r_iload (pc' := 88) dX7_spoil_86 rfl rfl ?_
                refine r_icmp_ge (pc' := 91) (P := aval (spoF T M d s) 99 (amin (fun _ => true) (spoF T M d s) f) ≤ popc ((trk f s (td T d)) &&& (rdbl T M d))) (tgt := 96) dX7_spoil_88 (by decide) rfl (nI_leI (a := aval (spoF T M d s) 99 (amin (fun _ => true) (spoF T M d s) f)) (b := popc ((trk f s (td T d)) &&& (rdbl T M d))) (by omega) (by omega)) (fun h88 => ?_) (fun h88 => ?_)
                · skip
                  exfalso; omega
                · skip
                  refine r_iload (pc' := 93) dX7_spoil_91 rfl rfl ?_
                  refine r_goto (tgt := 98) dX7_spoil_93 (by decide) ?_
                  refine r_istore (pc' := 100) (lo' := [some (.ref 60), some (.int (nI d)), some (.int (nI s)), some (.int (nI k)), some (.int (nI f)), some (.int (nI (popc ((trk f s (td T d)) &&& (rdbl T M d))))), some (.int (nI f)), some (.int (nI (popc ((trk f s (td T d)) &&& (rdbl T M d)))))]) dX7_spoil_98 rfl (by decide) rfl ?_
                  refine r_iinc (pc' := 103) (lo' := [some (.ref 60), some (.int (nI d)), some (.int (nI s)), some (.int (nI k)), some (.int (nI f)), some (.int (nI (popc ((trk f s (td T d)) &&& (rdbl T M d))))), some (.int (nI (f + 1))), some (.int (nI (popc ((trk f s (td T d)) &&& (rdbl T M d)))))]) dX7_spoil_100 rfl (by decide) rfl (nI_add f 1) rfl ?_
                  refine r_goto (tgt := 43) dX7_spoil_103 (by decide) ?_
                  have e1 := amin_t (p := (fun _ => true)) (f := (spoF T M d s)) (n := f) (big := 99) (by show popc _ < 99; rw [Nat.and_comm]; omega) rfl (by show popc _ < _; rw [Nat.and_comm]; omega)
                  have hi := ih43 (f + 1) (by omega) (by omega)
                  rw [e1] at hi
                  refine r_drop 7 rfl ?_
                  rw [Nat.and_comm]
                  exact hi
        exact L43 ((s) + 1) 0 (Nat.lt_succ_self _) (by omega)
      · skip
        refine r_iconst (pc' := 32) (v := (-1)) dX7_spoil_31 rfl rfl ?_
        refine r_ireturn dX7_spoil_32 rfl ?_
        refine px_eq hQ ?_
        first | (simp [spoilR, h10]; done) | (simp [spoilR, h19]; done) | (simp [spoilR, h28]; done)
set_option maxHeartbeats 200000 in
theorem ct_X7_odds {g : px_G} {w : px_W} {Q : px_Q} {tr : Int64} {ty nx tk pl va fa um : Int32} {T : px_T} {M : px_N} (hX : w[60]? = some (mobj tr ty nx tk pl va fa um)) (hT : MtA w T) (hO : TOK T) (hM : MnA w M) {a b c : Int32} (hQ : Q (some (.int (oddsR T M a b c))) w) : Ct g yX7_odds cX7_odds 8 (some .int) 3 0 0 [.ref 60, .int a, .int b, .int c] w Q := by
  refine Ct.of kX7_odds (by omega) (lo := [some (.ref 60), some (.int a), some (.int b), some (.int c), none, none, none, none]) rfl (px_cat1 rfl) (Nat.le_of_ble_eq_true rfl) ?_
  obtain ⟨fm, fz, fl, fs, fd, g0, g1, g2, g3, ⟨c1, c2, c3, c4, c5, c6, c7, c8, c9⟩, ma, mz, ml, md, mg, ⟨sb1, sb2, sb3⟩, sb4, sb5⟩ := id hT
  obtain ⟨fn, cn, hf, mB1, mB2, mB3⟩ := id hM
  refine r_aload_n (pc' := 1) dX7_odds_0 rfl rfl ?_
  refine r_iconst (pc' := 2) (v := nI 0) dX7_odds_1 rfl rfl ?_
  refine r_put (pc' := 5) (ty := .int) (c' := .inr (6, [.int (nI 0), .long tr, .ref 61, .int ty, .int nx, .int tk, .int pl, .int va, .int fa, .ref 62, .ref 63, .ref 64, .ref 65, .ref 66, .ref 67, .ref 68, .ref 69, .ref 70, .ref 71, .ref 72, .ref 73, .ref 74, .int um, .ref 75])) fX7_62 dX7_odds_2 rfl hX (Nat.le_of_ble_eq_true rfl) rfl (by decide +kernel) rfl rfl rfl ?_
  refine px_id hX ?_
  refine r_aload_n (pc' := 6) dX7_odds_5 rfl rfl ?_
  refine r_iload_n (pc' := 7) dX7_odds_6 rfl rfl ?_
  refine r_callV (pc' := 10) (av := [.int a]) (rest := []) kX7_isDrive vX7_isDrive lX7_150 dX7_odds_7 rfl hX rfl rfl rfl ⟨by decide, by decide, by decide⟩ rfl rfl (Nat.le_of_ble_eq_true rfl) (ct_X7_isDrive hX hT hO hM  ?_)
  show Wp g yX7_odds cX7_odds 8 (some .int) 3 0 0 (px_MQ g Q 0 0) 0 0 10 [some (.ref 60), some (.int a), some (.int b), some (.int c), none, none, none, none] [.int (bI (hasI a (tD T)))] w
  refine r_if_eq (pc' := 13) (P := (hasI a (tD T)) = false) (tgt := 32) dX7_odds_10 (by decide) rfl (bI_0) (fun h10 => ?_) (fun h10 => ?_)
  · skip
    refine r_iconst (pc' := 33) (v := (-1)) dX7_odds_32 rfl rfl ?_
    refine r_ireturn dX7_odds_33 rfl ?_
    refine px_eq hQ ?_
    first | (simp [oddsR, h10]; done) | (simp [oddsR, h20]; done) | (simp [oddsR, h29]; done)
  · have h10' := (by simpa using h10 : hasI a _ = true)
    obtain ⟨d, hd, rfl⟩ := hasI_t h10' (by omega)
    refine r_iload_n (pc' := 14) dX7_odds_13 rfl rfl ?_
    refine r_iconst (pc' := 15) (v := nI 0) dX7_odds_14 rfl rfl ?_
    refine r_bipush (pc' := 17) (v := nI 10) dX7_odds_15 rfl rfl ?_
    refine r_callS (pc' := 20) (av := [.int b, .int (nI 0), .int (nI 10)]) (rest := []) kX7_in vX7_in lX7_66 dX7_odds_17 rfl rfl rfl ⟨by decide, by decide, by decide⟩ rfl rfl (Nat.le_of_ble_eq_true rfl) (ct_in_c (n := 10) (by omega) ?_)
    show Wp g yX7_odds cX7_odds 8 (some .int) 3 0 0 (px_MQ g Q 0 0) 0 0 20 [some (.ref 60), some (.int (nI d)), some (.int b), some (.int c), none, none, none, none] [.int (bI (hasI b (10 + 1)))] w
    refine r_if_eq (pc' := 23) (P := (hasI b (10 + 1)) = false) (tgt := 32) dX7_odds_20 (by decide) rfl (bI_0) (fun h20 => ?_) (fun h20 => ?_)
    · skip
      refine r_iconst (pc' := 33) (v := (-1)) dX7_odds_32 rfl rfl ?_
      refine r_ireturn dX7_odds_33 rfl ?_
      refine px_eq hQ ?_
      first | (simp [oddsR, h10]; done) | (simp [oddsR, h20]; done) | (simp [oddsR, h29]; done)
    · have h20' := (by simpa using h20 : hasI b _ = true)
      obtain ⟨x, hx, rfl⟩ := hasI_t h20' (by omega)
      refine r_iload_n (pc' := 24) dX7_odds_23 rfl rfl ?_
      refine r_iconst (pc' := 25) (v := nI 0) dX7_odds_24 rfl rfl ?_
      refine r_iconst (pc' := 26) (v := nI 1) dX7_odds_25 rfl rfl ?_
      refine r_callS (pc' := 29) (av := [.int c, .int (nI 0), .int (nI 1)]) (rest := []) kX7_in vX7_in lX7_66 dX7_odds_26 rfl rfl rfl ⟨by decide, by decide, by decide⟩ rfl rfl (Nat.le_of_ble_eq_true rfl) (ct_in_c (n := 1) (by omega) ?_)
      show Wp g yX7_odds cX7_odds 8 (some .int) 3 0 0 (px_MQ g Q 0 0) 0 0 29 [some (.ref 60), some (.int (nI d)), some (.int (nI x)), some (.int c), none, none, none, none] [.int (bI (hasI c (1 + 1)))] w
      refine r_if_ne (pc' := 32) (P := (hasI c (1 + 1)) = false) (tgt := 34) dX7_odds_29 (by decide) rfl (bI_0) (fun h29 => ?_) (fun h29 => ?_)
      · have h29' := (by simpa using h29 : hasI c _ = true)
        obtain ⟨k, hk, rfl⟩ := hasI_t h29' (by omega)
        refine r_iconst (pc' := 35) (v := nI 1) dX7_odds_34 rfl rfl ?_
        refine r_istore (pc' := 37) (lo' := [some (.ref 60), some (.int (nI d)), some (.int (nI x)), some (.int (nI k)), some (.int (nI 1)), none, none, none]) dX7_odds_35 rfl (by decide) rfl ?_
        refine r_iconst (pc' := 38) (v := nI 1) dX7_odds_37 rfl rfl ?_
        refine r_istore (pc' := 40) (lo' := [some (.ref 60), some (.int (nI d)), some (.int (nI x)), some (.int (nI k)), some (.int (nI 1)), some (.int (nI 1)), none, none]) dX7_odds_38 rfl (by decide) rfl ?_
        refine r_iconst (pc' := 41) (v := nI 0) dX7_odds_40 rfl rfl ?_
        refine r_istore (pc' := 43) (lo' := [some (.ref 60), some (.int (nI d)), some (.int (nI x)), some (.int (nI k)), some (.int (nI 1)), some (.int (nI 1)), some (.int (nI 0)), none]) dX7_odds_41 rfl (by decide) rfl ?_
        have L43 : ∀ (fu : Nat) (jq : Nat), tG T - jq < fu → jq ≤ tG T → Wp g yX7_odds cX7_odds 8 (some .int) 3 0 0 (px_MQ g Q 0 0) 0 0 43 [some (.ref 60), some (.int (nI d)), some (.int (nI x)), some (.int (nI k)), some (.int (nI ((10 - x) ^ cnt (fun j => canSp T M j d) jq))), some (.int (nI (10 ^ cnt (fun j => canSp T M j d) jq))), some (.int (nI jq)), none] [] w := by
          intro fu; induction fu with
          | zero => intro jq hm; exact absurd hm (Nat.not_lt_zero _)
          | succ fu ih =>
            intro jq hm hj
            have ih43 := ih; clear ih
            refine r_iload (pc' := 45) dX7_odds_43 rfl rfl ?_
            refine r_aload_n (pc' := 46) dX7_odds_45 rfl rfl ?_
            refine r_get (pc' := 49) fX7_13 dX7_odds_46 rfl hX rfl ?_
            refine r_iconst (pc' := 50) (v := nI 2) dX7_odds_49 rfl rfl ?_
            refine r_iaload (pc' := 51) (v := nI (tG T)) dX7_odds_50 rfl c1 (vp_in_nI (n := 2) (by omega) (by omega)) (by rw [nI_cl (by omega)]; exact ma.2.2) ?_
            refine r_icmp_ge (pc' := 54) (P := tG T ≤ jq) (tgt := 157) dX7_odds_51 (by decide) rfl (nI_leI (a := tG T) (b := jq) (by omega) (by omega)) (fun h51 => ?_) (fun h51 => ?_)
            · have hj2 : jq = tG T := by omega
              subst hj2
              have hn := cnt_le (fun j => canSp T M j d) (tG T)
              have hp1 : (10 - x) ^ cnt (fun j => canSp T M j d) (tG T) ≤ 10 ^ 6 := Nat.le_trans (Nat.pow_le_pow_left (by omega) _) (Nat.pow_le_pow_right (by decide) (by omega))
              have hp2 : 10 ^ cnt (fun j => canSp T M j d) (tG T) ≤ 10 ^ 6 := Nat.pow_le_pow_right (by decide) (by omega)
              have hp3 : 0 < 10 ^ cnt (fun j => canSp T M j d) (tG T) := Nat.pow_pos (by decide)
              have hg1 := Nat.gcd_pos_of_pos_right ((10 - x) ^ cnt (fun j => canSp T M j d) (tG T)) hp3
              have hg2 := Nat.gcd_le_right ((10 - x) ^ cnt (fun j => canSp T M j d) (tG T)) hp3
              refine r_iload (pc' := 159) dX7_odds_157 rfl rfl ?_
              refine r_iload (pc' := 161) dX7_odds_159 rfl rfl ?_
              refine r_callS (pc' := 164) (av := [.int (nI ((10 - x) ^ cnt (fun j => canSp T M j d) (tG T))), .int (nI (10 ^ cnt (fun j => canSp T M j d) (tG T)))]) (rest := []) kX7_gcd vX7_gcd lX7_166 dX7_odds_161 rfl rfl rfl ⟨by decide, by decide, by decide⟩ rfl rfl (Nat.le_of_ble_eq_true rfl) (ct_X7_gcd (a := (10 - x) ^ cnt (fun j => canSp T M j d) (tG T)) (b := 10 ^ cnt (fun j => canSp T M j d) (tG T)) (by omega) (by omega) ?_)
              show Wp g yX7_odds cX7_odds 8 (some .int) 3 0 0 (px_MQ g Q 0 0) 0 0 164 [some (.ref 60), some (.int (nI d)), some (.int (nI x)), some (.int (nI k)), some (.int (nI ((10 - x) ^ cnt (fun j => canSp T M j d) (tG T)))), some (.int (nI (10 ^ cnt (fun j => canSp T M j d) (tG T)))), some (.int (nI (tG T))), none] [.int (nI (Nat.gcd ((10 - x) ^ cnt (fun j => canSp T M j d) (tG T)) (10 ^ cnt (fun j => canSp T M j d) (tG T))))] w
              refine r_istore (pc' := 166) (lo' := [some (.ref 60), some (.int (nI d)), some (.int (nI x)), some (.int (nI k)), some (.int (nI ((10 - x) ^ cnt (fun j => canSp T M j d) (tG T)))), some (.int (nI (10 ^ cnt (fun j => canSp T M j d) (tG T)))), some (.int (nI (Nat.gcd ((10 - x) ^ cnt (fun j => canSp T M j d) (tG T)) (10 ^ cnt (fun j => canSp T M j d) (tG T))))), none]) dX7_odds_164 rfl (by decide) rfl ?_
              refine r_iload_n (pc' := 167) dX7_odds_166 rfl rfl ?_
              refine r_if_ne (pc' := 170) (P := k = 0) (tgt := 178) dX7_odds_167 (by decide) rfl (nI_eq0 (n := k) (by omega)) (fun h167 => ?_) (fun h167 => ?_)
              · skip
                refine r_iload (pc' := 180) dX7_odds_178 rfl rfl ?_
                refine r_iload (pc' := 182) dX7_odds_180 rfl rfl ?_
                refine r_idiv (pc' := 183) (v := nI ((10 ^ cnt (fun j => canSp T M j d) (tG T)) / (Nat.gcd ((10 - x) ^ cnt (fun j => canSp T M j d) (tG T)) (10 ^ cnt (fun j => canSp T M j d) (tG T))))) dX7_odds_182 rfl (nI_ne0 (n := Nat.gcd ((10 - x) ^ cnt (fun j => canSp T M j d) (tG T)) (10 ^ cnt (fun j => canSp T M j d) (tG T))) (by omega) (by omega)) (pk_div (a := 10 ^ cnt (fun j => canSp T M j d) (tG T)) (d := Nat.gcd ((10 - x) ^ cnt (fun j => canSp T M j d) (tG T)) (10 ^ cnt (fun j => canSp T M j d) (tG T))) (by omega) (by omega) (by omega)) ?_
                refine r_ireturn dX7_odds_183 rfl ?_
                refine px_eq hQ ?_
                rw [oddsR, h10', h20', h29', nI_cl (show d < 2 ^ 31 by omega), nI_cl (show x < 2 ^ 31 by omega), nI_cl (show k < 2 ^ 31 by omega), oddsV]
                simp [h167]
              · skip
                refine r_iload (pc' := 172) dX7_odds_170 rfl rfl ?_
                refine r_iload (pc' := 174) dX7_odds_172 rfl rfl ?_
                refine r_idiv (pc' := 175) (v := nI (((10 - x) ^ cnt (fun j => canSp T M j d) (tG T)) / (Nat.gcd ((10 - x) ^ cnt (fun j => canSp T M j d) (tG T)) (10 ^ cnt (fun j => canSp T M j d) (tG T))))) dX7_odds_174 rfl (nI_ne0 (n := Nat.gcd ((10 - x) ^ cnt (fun j => canSp T M j d) (tG T)) (10 ^ cnt (fun j => canSp T M j d) (tG T))) (by omega) (by omega)) (pk_div (a := (10 - x) ^ cnt (fun j => canSp T M j d) (tG T)) (d := Nat.gcd ((10 - x) ^ cnt (fun j => canSp T M j d) (tG T)) (10 ^ cnt (fun j => canSp T M j d) (tG T))) (by omega) (by omega) (by omega)) ?_
                refine r_goto (tgt := 183) dX7_odds_175 (by decide) ?_
                refine r_ireturn dX7_odds_183 rfl ?_
                refine px_eq hQ ?_
                rw [oddsR, h10', h20', h29', nI_cl (show d < 2 ^ 31 by omega), nI_cl (show x < 2 ^ 31 by omega), nI_cl (show k < 2 ^ 31 by omega), oddsV]
                simp [h167]
            · skip
              refine r_aload_n (pc' := 55) dX7_odds_54 rfl rfl ?_
              refine r_get (pc' := 58) fX7_31 dX7_odds_55 rfl hX rfl ?_
              refine r_iload (pc' := 60) dX7_odds_58 rfl rfl ?_
              refine r_iaload (pc' := 61) (v := nI (tg T jq 1)) dX7_odds_60 rfl c7 (vp_in_nI (n := jq) (by omega) (by omega)) (by rw [nI_cl (by omega)]; exact (mg jq (by omega)).2.1) ?_
              have e60 := hO.2.2.2 jq (by omega)
              refine r_iload_n (pc' := 62) dX7_odds_61 rfl rfl ?_
              refine r_icmp_ne (pc' := 65) (P := tg T jq 1 = d) (tgt := 114) dX7_odds_62 (by decide) rfl (nI_eq (a := tg T jq 1) (b := d) (by omega) (by omega)) (fun h62 => ?_) (fun h62 => ?_)
              · skip
                refine r_iconst (pc' := 115) (v := nI 0) dX7_odds_114 rfl rfl ?_
                refine r_istore (pc' := 117) (lo' := [some (.ref 60), some (.int (nI d)), some (.int (nI x)), some (.int (nI k)), some (.int (nI ((10 - x) ^ cnt (fun j => canSp T M j d) jq))), some (.int (nI (10 ^ cnt (fun j => canSp T M j d) jq))), some (.int (nI jq)), some (.int (nI 0))]) dX7_odds_115 rfl (by decide) rfl ?_
                refine r_iload (pc' := 119) dX7_odds_117 rfl rfl ?_
                refine r_iload (pc' := 121) dX7_odds_119 rfl rfl ?_
                refine r_if_eq (pc' := 124) (P := 0 = 0) (tgt := 131) dX7_odds_121 (by decide) rfl (nI_eq0 (n := 0) (by omega)) (fun h121 => ?_) (fun h121 => ?_)
                · skip
                  refine r_iconst (pc' := 132) (v := nI 1) dX7_odds_131 rfl rfl ?_
                  refine r_imul (pc' := 133) (v := nI (((10 - x) ^ cnt (fun j => canSp T M j d) jq) * 1)) dX7_odds_132 rfl (pk_mul ((10 - x) ^ cnt (fun j => canSp T M j d) jq) 1) ?_
                  refine r_istore (pc' := 135) (lo' := [some (.ref 60), some (.int (nI d)), some (.int (nI x)), some (.int (nI k)), some (.int (nI (((10 - x) ^ cnt (fun j => canSp T M j d) jq) * 1))), some (.int (nI (10 ^ cnt (fun j => canSp T M j d) jq))), some (.int (nI jq)), some (.int (nI 0))]) dX7_odds_133 rfl (by decide) rfl ?_
                  refine r_iload (pc' := 137) dX7_odds_135 rfl rfl ?_
                  refine r_iload (pc' := 139) dX7_odds_137 rfl rfl ?_
                  refine r_if_eq (pc' := 142) (P := 0 = 0) (tgt := 147) dX7_odds_139 (by decide) rfl (nI_eq0 (n := 0) (by omega)) (fun h139 => ?_) (fun h139 => ?_)
                  · skip
                    refine r_iconst (pc' := 148) (v := nI 1) dX7_odds_147 rfl rfl ?_
                    refine r_imul (pc' := 149) (v := nI ((10 ^ cnt (fun j => canSp T M j d) jq) * 1)) dX7_odds_148 rfl (pk_mul (10 ^ cnt (fun j => canSp T M j d) jq) 1) ?_
                    refine r_istore (pc' := 151) (lo' := [some (.ref 60), some (.int (nI d)), some (.int (nI x)), some (.int (nI k)), some (.int (nI (((10 - x) ^ cnt (fun j => canSp T M j d) jq) * 1))), some (.int (nI ((10 ^ cnt (fun j => canSp T M j d) jq) * 1))), some (.int (nI jq)), some (.int (nI 0))]) dX7_odds_149 rfl (by decide) rfl ?_
                    refine r_iinc (pc' := 154) (lo' := [some (.ref 60), some (.int (nI d)), some (.int (nI x)), some (.int (nI k)), some (.int (nI (((10 - x) ^ cnt (fun j => canSp T M j d) jq) * 1))), some (.int (nI ((10 ^ cnt (fun j => canSp T M j d) jq) * 1))), some (.int (nI (jq + 1))), some (.int (nI 0))]) dX7_odds_151 rfl (by decide) rfl (nI_add jq 1) rfl ?_
                    refine r_goto (tgt := 43) dX7_odds_154 (by decide) ?_
                    have hb : canSp T M jq d = false := by first | (simp [canSp, h62]; done) | (simp [canSp, h62, show ¬ nh M < tg T jq 0 by omega]; done) | (simp only [canSp, trkG, h62, Nat.and_comm (rdbl T M d)]; simp [h107]; done) | (simp only [canSp, trkG, h62, Nat.and_comm (rdbl T M d)]; simp [h107]; omega)
                    have ec := cnt_f (p := (fun j => canSp T M j d)) (n := jq) hb
                    have hi := ih43 (jq + 1) (by omega) (by omega)
                    rw [← ec] at hi
                    rw [Nat.mul_one, Nat.mul_one]
                    refine r_drop 7 rfl ?_
                    exact hi
                  · skip
                    exfalso; omega
                · skip
                  exfalso; omega
              · skip
                refine r_aload_n (pc' := 66) dX7_odds_65 rfl rfl ?_
                refine r_get (pc' := 69) fX7_28 dX7_odds_66 rfl hX rfl ?_
                refine r_iload (pc' := 71) dX7_odds_69 rfl rfl ?_
                refine r_iaload (pc' := 72) (v := nI (tg T jq 0)) dX7_odds_71 rfl c6 (vp_in_nI (n := jq) (by omega) (by omega)) (by rw [nI_cl (by omega)]; exact (mg jq (by omega)).1) ?_
                have e71 := hO.2.2.2 jq (by omega)
                refine r_aload_n (pc' := 73) dX7_odds_72 rfl rfl ?_
                refine r_get (pc' := 76) fX7_40 dX7_odds_73 rfl hX rfl ?_
                refine r_bipush (pc' := 78) (v := nI 36) dX7_odds_76 rfl rfl ?_
                refine r_iaload (pc' := 79) (v := nI (nh M)) dX7_odds_78 rfl cn (vp_in_nI (n := 36) (by omega) (by omega)) (by rw [nI_cl (by omega), hf _ (by omega), sv_h]) ?_
                refine r_icmp_le (pc' := 82) (P := tg T jq 0 ≤ nh M) (tgt := 114) dX7_odds_79 (by decide) rfl (nI_leI (a := tg T jq 0) (b := nh M) (by omega) (by omega)) (fun h79 => ?_) (fun h79 => ?_)
                · skip
                  refine r_iconst (pc' := 115) (v := nI 0) dX7_odds_114 rfl rfl ?_
                  refine r_istore (pc' := 117) (lo' := [some (.ref 60), some (.int (nI d)), some (.int (nI x)), some (.int (nI k)), some (.int (nI ((10 - x) ^ cnt (fun j => canSp T M j d) jq))), some (.int (nI (10 ^ cnt (fun j => canSp T M j d) jq))), some (.int (nI jq)), some (.int (nI 0))]) dX7_odds_115 rfl (by decide) rfl ?_
                  refine r_iload (pc' := 119) dX7_odds_117 rfl rfl ?_
                  refine r_iload (pc' := 121) dX7_odds_119 rfl rfl ?_
                  refine r_if_eq (pc' := 124) (P := 0 = 0) (tgt := 131) dX7_odds_121 (by decide) rfl (nI_eq0 (n := 0) (by omega)) (fun h121 => ?_) (fun h121 => ?_)
                  · skip
                    refine r_iconst (pc' := 132) (v := nI 1) dX7_odds_131 rfl rfl ?_
                    refine r_imul (pc' := 133) (v := nI (((10 - x) ^ cnt (fun j => canSp T M j d) jq) * 1)) dX7_odds_132 rfl (pk_mul ((10 - x) ^ cnt (fun j => canSp T M j d) jq) 1) ?_
                    refine r_istore (pc' := 135) (lo' := [some (.ref 60), some (.int (nI d)), some (.int (nI x)), some (.int (nI k)), some (.int (nI (((10 - x) ^ cnt (fun j => canSp T M j d) jq) * 1))), some (.int (nI (10 ^ cnt (fun j => canSp T M j d) jq))), some (.int (nI jq)), some (.int (nI 0))]) dX7_odds_133 rfl (by decide) rfl ?_
                    refine r_iload (pc' := 137) dX7_odds_135 rfl rfl ?_
                    refine r_iload (pc' := 139) dX7_odds_137 rfl rfl ?_
                    refine r_if_eq (pc' := 142) (P := 0 = 0) (tgt := 147) dX7_odds_139 (by decide) rfl (nI_eq0 (n := 0) (by omega)) (fun h139 => ?_) (fun h139 => ?_)
                    · skip
                      refine r_iconst (pc' := 148) (v := nI 1) dX7_odds_147 rfl rfl ?_
                      refine r_imul (pc' := 149) (v := nI ((10 ^ cnt (fun j => canSp T M j d) jq) * 1)) dX7_odds_148 rfl (pk_mul (10 ^ cnt (fun j => canSp T M j d) jq) 1) ?_
                      refine r_istore (pc' := 151) (lo' := [some (.ref 60), some (.int (nI d)), some (.int (nI x)), some (.int (nI k)), some (.int (nI (((10 - x) ^ cnt (fun j => canSp T M j d) jq) * 1))), some (.int (nI ((10 ^ cnt (fun j => canSp T M j d) jq) * 1))), some (.int (nI jq)), some (.int (nI 0))]) dX7_odds_149 rfl (by decide) rfl ?_
                      refine r_iinc (pc' := 154) (lo' := [some (.ref 60), some (.int (nI d)), some (.int (nI x)), some (.int (nI k)), some (.int (nI (((10 - x) ^ cnt (fun j => canSp T M j d) jq) * 1))), some (.int (nI ((10 ^ cnt (fun j => canSp T M j d) jq) * 1))), some (.int (nI (jq + 1))), some (.int (nI 0))]) dX7_odds_151 rfl (by decide) rfl (nI_add jq 1) rfl ?_
                      refine r_goto (tgt := 43) dX7_odds_154 (by decide) ?_
                      have hb : canSp T M jq d = false := by first | (simp [canSp, h62]; done) | (simp [canSp, h62, show ¬ nh M < tg T jq 0 by omega]; done) | (simp only [canSp, trkG, h62, Nat.and_comm (rdbl T M d)]; simp [h107]; done) | (simp only [canSp, trkG, h62, Nat.and_comm (rdbl T M d)]; simp [h107]; omega)
                      have ec := cnt_f (p := (fun j => canSp T M j d)) (n := jq) hb
                      have hi := ih43 (jq + 1) (by omega) (by omega)
                      rw [← ec] at hi
                      rw [Nat.mul_one, Nat.mul_one]
                      refine r_drop 7 rfl ?_
                      exact hi
                    · skip
                      exfalso; omega
                  · skip
                    exfalso; omega
                · skip
                  refine r_aload_n (pc' := 83) dX7_odds_82 rfl rfl ?_
                  refine r_iload_n (pc' := 84) dX7_odds_83 rfl rfl ?_
                  refine r_aload_n (pc' := 85) dX7_odds_84 rfl rfl ?_
                  refine r_get (pc' := 88) fX7_34 dX7_odds_85 rfl hX rfl ?_
                  refine r_iload (pc' := 90) dX7_odds_88 rfl rfl ?_
                  refine r_iaload (pc' := 91) (v := nI (tg T jq 2)) dX7_odds_90 rfl c8 (vp_in_nI (n := jq) (by omega) (by omega)) (by rw [nI_cl (by omega)]; exact (mg jq (by omega)).2.2.1) ?_
                  have e90 := hO.2.2.2 jq (by omega)
                  refine r_aload_n (pc' := 92) dX7_odds_91 rfl rfl ?_
                  refine r_get (pc' := 95) fX7_37 dX7_odds_92 rfl hX rfl ?_
                  refine r_iload (pc' := 97) dX7_odds_95 rfl rfl ?_
                  refine r_iaload (pc' := 98) (v := nI (tg T jq 3)) dX7_odds_97 rfl c9 (vp_in_nI (n := jq) (by omega) (by omega)) (by rw [nI_cl (by omega)]; exact (mg jq (by omega)).2.2.2) ?_
                  have e97 := hO.2.2.2 jq (by omega)
                  refine r_callV (pc' := 101) (av := [.int (nI d), .int (nI (tg T jq 2)), .int (nI (tg T jq 3))]) (rest := []) kX7_stepsOf vX7_stepsOf lX7_146 dX7_odds_98 rfl hX rfl rfl rfl ⟨by decide, by decide, by decide⟩ rfl rfl (Nat.le_of_ble_eq_true rfl) (ct_X7_stepsOf hX hT hO hM (d := d) (f := tg T jq 2) (s := tg T jq 3) (by omega) (by omega) (by omega) ?_)
                  show Wp g yX7_odds cX7_odds 8 (some .int) 3 0 0 (px_MQ g Q 0 0) 0 0 101 [some (.ref 60), some (.int (nI d)), some (.int (nI x)), some (.int (nI k)), some (.int (nI ((10 - x) ^ cnt (fun j => canSp T M j d) jq))), some (.int (nI (10 ^ cnt (fun j => canSp T M j d) jq))), some (.int (nI jq)), none] [.int (nI (trk (tg T jq 2) (tg T jq 3) (td T d)))] w
                  have e98 := trk_lt (f := tg T jq 2) (s := tg T jq 3) (hO.2.2.1 d (by omega)).2
                  refine r_aload_n (pc' := 102) dX7_odds_101 rfl rfl ?_
                  refine r_iload_n (pc' := 103) dX7_odds_102 rfl rfl ?_
                  refine r_callV (pc' := 106) (av := [.int (nI d)]) (rest := [.int (nI (trk (tg T jq 2) (tg T jq 3) (td T d)))]) kX7_readable vX7_readable lX7_169 dX7_odds_103 rfl hX rfl rfl rfl ⟨by decide, by decide, by decide⟩ rfl rfl (Nat.le_of_ble_eq_true rfl) (ct_X7_readable hX hT hO hM (d := d) (by omega) ?_)
                  show Wp g yX7_odds cX7_odds 8 (some .int) 3 0 0 (px_MQ g Q 0 0) 0 0 106 [some (.ref 60), some (.int (nI d)), some (.int (nI x)), some (.int (nI k)), some (.int (nI ((10 - x) ^ cnt (fun j => canSp T M j d) jq))), some (.int (nI (10 ^ cnt (fun j => canSp T M j d) jq))), some (.int (nI jq)), none] [.int (nI (rdbl T M d)), .int (nI (trk (tg T jq 2) (tg T jq 3) (td T d)))] w
                  have e103 := rdbl_lt (M := M) (hO.2.2.1 d (by omega)).2
                  refine r_iand (pc' := 107) (v := nI ((trk (tg T jq 2) (tg T jq 3) (td T d)) &&& (rdbl T M d))) dX7_odds_106 rfl (and_n (trk (tg T jq 2) (tg T jq 3) (td T d)) (rdbl T M d)) ?_
                  refine r_if_eq (pc' := 110) (P := (trk (tg T jq 2) (tg T jq 3) (td T d) &&& rdbl T M d) = 0) (tgt := 114) dX7_odds_107 (by decide) rfl (nI_eq0 (n := trk (tg T jq 2) (tg T jq 3) (td T d) &&& rdbl T M d) (and_lt31 (by omega))) (fun h107 => ?_) (fun h107 => ?_)
                  · skip
                    refine r_iconst (pc' := 115) (v := nI 0) dX7_odds_114 rfl rfl ?_
                    refine r_istore (pc' := 117) (lo' := [some (.ref 60), some (.int (nI d)), some (.int (nI x)), some (.int (nI k)), some (.int (nI ((10 - x) ^ cnt (fun j => canSp T M j d) jq))), some (.int (nI (10 ^ cnt (fun j => canSp T M j d) jq))), some (.int (nI jq)), some (.int (nI 0))]) dX7_odds_115 rfl (by decide) rfl ?_
                    refine r_iload (pc' := 119) dX7_odds_117 rfl rfl ?_
                    refine r_iload (pc' := 121) dX7_odds_119 rfl rfl ?_
                    refine r_if_eq (pc' := 124) (P := 0 = 0) (tgt := 131) dX7_odds_121 (by decide) rfl (nI_eq0 (n := 0) (by omega)) (fun h121 => ?_) (fun h121 => ?_)
                    · skip
                      refine r_iconst (pc' := 132) (v := nI 1) dX7_odds_131 rfl rfl ?_
                      refine r_imul (pc' := 133) (v := nI (((10 - x) ^ cnt (fun j => canSp T M j d) jq) * 1)) dX7_odds_132 rfl (pk_mul ((10 - x) ^ cnt (fun j => canSp T M j d) jq) 1) ?_
                      refine r_istore (pc' := 135) (lo' := [some (.ref 60), some (.int (nI d)), some (.int (nI x)), some (.int (nI k)), some (.int (nI (((10 - x) ^ cnt (fun j => canSp T M j d) jq) * 1))), some (.int (nI (10 ^ cnt (fun j => canSp T M j d) jq))), some (.int (nI jq)), some (.int (nI 0))]) dX7_odds_133 rfl (by decide) rfl ?_
                      refine r_iload (pc' := 137) dX7_odds_135 rfl rfl ?_
                      refine r_iload (pc' := 139) dX7_odds_137 rfl rfl ?_
                      refine r_if_eq (pc' := 142) (P := 0 = 0) (tgt := 147) dX7_odds_139 (by decide) rfl (nI_eq0 (n := 0) (by omega)) (fun h139 => ?_) (fun h139 => ?_)
                      · skip
                        refine r_iconst (pc' := 148) (v := nI 1) dX7_odds_147 rfl rfl ?_
                        refine r_imul (pc' := 149) (v := nI ((10 ^ cnt (fun j => canSp T M j d) jq) * 1)) dX7_odds_148 rfl (pk_mul (10 ^ cnt (fun j => canSp T M j d) jq) 1) ?_
                        refine r_istore (pc' := 151) (lo' := [some (.ref 60), some (.int (nI d)), some (.int (nI x)), some (.int (nI k)), some (.int (nI (((10 - x) ^ cnt (fun j => canSp T M j d) jq) * 1))), some (.int (nI ((10 ^ cnt (fun j => canSp T M j d) jq) * 1))), some (.int (nI jq)), some (.int (nI 0))]) dX7_odds_149 rfl (by decide) rfl ?_
                        refine r_iinc (pc' := 154) (lo' := [some (.ref 60), some (.int (nI d)), some (.int (nI x)), some (.int (nI k)), some (.int (nI (((10 - x) ^ cnt (fun j => canSp T M j d) jq) * 1))), some (.int (nI ((10 ^ cnt (fun j => canSp T M j d) jq) * 1))), some (.int (nI (jq + 1))), some (.int (nI 0))]) dX7_odds_151 rfl (by decide) rfl (nI_add jq 1) rfl ?_
                        refine r_goto (tgt := 43) dX7_odds_154 (by decide) ?_
                        have hb : canSp T M jq d = false := by first | (simp [canSp, h62]; done) | (simp [canSp, h62, show ¬ nh M < tg T jq 0 by omega]; done) | (simp only [canSp, trkG, h62, Nat.and_comm (rdbl T M d)]; simp [h107]; done) | (simp only [canSp, trkG, h62, Nat.and_comm (rdbl T M d)]; simp [h107]; omega)
                        have ec := cnt_f (p := (fun j => canSp T M j d)) (n := jq) hb
                        have hi := ih43 (jq + 1) (by omega) (by omega)
                        rw [← ec] at hi
                        rw [Nat.mul_one, Nat.mul_one]
                        refine r_drop 7 rfl ?_
                        exact hi
                      · skip
                        exfalso; omega
                    · skip
                      exfalso; omega
                  · skip
                    refine r_iconst (pc' := 111) (v := nI 1) dX7_odds_110 rfl rfl ?_
                    refine r_goto (tgt := 115) dX7_odds_111 (by decide) ?_
                    refine r_istore (pc' := 117) (lo' := [some (.ref 60), some (.int (nI d)), some (.int (nI x)), some (.int (nI k)), some (.int (nI ((10 - x) ^ cnt (fun j => canSp T M j d) jq))), some (.int (nI (10 ^ cnt (fun j => canSp T M j d) jq))), some (.int (nI jq)), some (.int (nI 1))]) dX7_odds_115 rfl (by decide) rfl ?_
                    refine r_iload (pc' := 119) dX7_odds_117 rfl rfl ?_
                    refine r_iload (pc' := 121) dX7_odds_119 rfl rfl ?_
                    refine r_if_eq (pc' := 124) (P := 1 = 0) (tgt := 131) dX7_odds_121 (by decide) rfl (nI_eq0 (n := 1) (by omega)) (fun h121 => ?_) (fun h121 => ?_)
                    · skip
                      exfalso; omega
                    · skip
                      refine r_bipush (pc' := 126) (v := nI 10) dX7_odds_124 rfl rfl ?_
                      refine r_iload_n (pc' := 127) dX7_odds_126 rfl rfl ?_
                      refine r_isub (pc' := 128) (v := nI (10 - x)) dX7_odds_127 rfl (pk_sub (a := 10) (b := x) (by omega)) ?_
                      refine r_goto (tgt := 132) dX7_odds_128 (by decide) ?_
                      refine r_imul (pc' := 133) (v := nI (((10 - x) ^ cnt (fun j => canSp T M j d) jq) * (10 - x))) dX7_odds_132 rfl (pk_mul ((10 - x) ^ cnt (fun j => canSp T M j d) jq) (10 - x)) ?_
                      refine r_istore (pc' := 135) (lo' := [some (.ref 60), some (.int (nI d)), some (.int (nI x)), some (.int (nI k)), some (.int (nI (((10 - x) ^ cnt (fun j => canSp T M j d) jq) * (10 - x)))), some (.int (nI (10 ^ cnt (fun j => canSp T M j d) jq))), some (.int (nI jq)), some (.int (nI 1))]) dX7_odds_133 rfl (by decide) rfl ?_
                      refine r_iload (pc' := 137) dX7_odds_135 rfl rfl ?_
                      refine r_iload (pc' := 139) dX7_odds_137 rfl rfl ?_
                      refine r_if_eq (pc' := 142) (P := 1 = 0) (tgt := 147) dX7_odds_139 (by decide) rfl (nI_eq0 (n := 1) (by omega)) (fun h139 => ?_) (fun h139 => ?_)
                      · skip
                        exfalso; omega
                      · skip
                        refine r_bipush (pc' := 144) (v := nI 10) dX7_odds_142 rfl rfl ?_
                        refine r_goto (tgt := 148) dX7_odds_144 (by decide) ?_
                        refine r_imul (pc' := 149) (v := nI ((10 ^ cnt (fun j => canSp T M j d) jq) * 10)) dX7_odds_148 rfl (pk_mul (10 ^ cnt (fun j => canSp T M j d) jq) 10) ?_
                        refine r_istore (pc' := 151) (lo' := [some (.ref 60), some (.int (nI d)), some (.int (nI x)), some (.int (nI k)), some (.int (nI (((10 - x) ^ cnt (fun j => canSp T M j d) jq) * (10 - x)))), some (.int (nI ((10 ^ cnt (fun j => canSp T M j d) jq) * 10))), some (.int (nI jq)), some (.int (nI 1))]) dX7_odds_149 rfl (by decide) rfl ?_
                        refine r_iinc (pc' := 154) (lo' := [some (.ref 60), some (.int (nI d)), some (.int (nI x)), some (.int (nI k)), some (.int (nI (((10 - x) ^ cnt (fun j => canSp T M j d) jq) * (10 - x)))), some (.int (nI ((10 ^ cnt (fun j => canSp T M j d) jq) * 10))), some (.int (nI (jq + 1))), some (.int (nI 1))]) dX7_odds_151 rfl (by decide) rfl (nI_add jq 1) rfl ?_
                        refine r_goto (tgt := 43) dX7_odds_154 (by decide) ?_
                        have hb : canSp T M jq d = true := by first | (simp [canSp, h62]; done) | (simp [canSp, h62, show ¬ nh M < tg T jq 0 by omega]; done) | (simp only [canSp, trkG, h62, Nat.and_comm (rdbl T M d)]; simp [h107]; done) | (simp only [canSp, trkG, h62, Nat.and_comm (rdbl T M d)]; simp [h107]; omega)
                        have ec := cnt_t (p := (fun j => canSp T M j d)) (n := jq) hb
                        have hi := ih43 (jq + 1) (by omega) (by omega)
                        rw [← ec, Nat.pow_succ, Nat.pow_succ] at hi
                        refine r_drop 7 rfl ?_
                        exact hi
        exact L43 ((tG T) + 1) 0 (Nat.lt_succ_self _) (by omega)
      · skip
        refine r_iconst (pc' := 33) (v := (-1)) dX7_odds_32 rfl rfl ?_
        refine r_ireturn dX7_odds_33 rfl ?_
        refine px_eq hQ ?_
        first | (simp [oddsR, h10]; done) | (simp [oddsR, h20]; done) | (simp [oddsR, h29]; done)
