theorem hasC_t {T : px_T} (hb : SubB T) (hO : TOK T) {a b : Int32} (h : hasC T a b = true) : ∃ d x, d < tD T ∧ x < td T d ∧ a = nI d ∧ b = nI x := by
  rw [hasC, Bool.and_eq_true] at h
  have h4 := hb.1.2.1
  obtain ⟨d, hd, rfl⟩ := hasI_t h.1 (by omega)
  have h8 := hO.2.2.1 d hd
  rw [nI_cl (by omega)] at h
  obtain ⟨x, hx, rfl⟩ := hasI_t h.2 (by omega)
  exact ⟨d, x, hd, hx, rfl, rfl⟩
set_option maxHeartbeats 200000 in
theorem ct_X6_word {g : px_G} {w : px_W} {Q : px_Q} {ik : Int32} {tr : Int64} {T : px_T} {M : px_N} (hX : w[0]? = some (.inr (5, [.ref 1, .ref 9, .ref 15, .ref 18, .ref 51, .ref 59, .int ik, .long tr]))) (hT : SubA w 9 T) (hO : TOK T) (hM : MorA w 15 M) {a b : Int32} (hQ : Q (some (.int (wordR T a b))) w) : Ct g yX6_word cX6_word 3 (some .int) 7 0 0 [.ref 0, .int a, .int b] w Q := by
  refine Ct.of kX6_word (by omega) (lo := [some (.ref 0), some (.int a), some (.int b)]) rfl (px_cat1 rfl) (Nat.le_of_ble_eq_true rfl) ?_
  obtain ⟨⟨sb1, sb2, sb3⟩, sb4, sb5⟩ := hT.b
  obtain ⟨mB1, mB2, mB3⟩ := hM.b
  refine r_aload_n (pc' := 1) dX6_word_0 rfl rfl ?_
  refine r_get (pc' := 4) fX6_19 dX6_word_1 rfl hX rfl ?_
  refine r_iload_n (pc' := 5) dX6_word_4 rfl rfl ?_
  refine r_callV (pc' := 8) (av := [.int a]) (rest := []) kX5_hasWord vX5_hasWord lX6_77 dX6_word_5 rfl hT.o rfl rfl rfl ⟨by decide, by decide, by decide⟩ rfl rfl (Nat.le_of_ble_eq_true rfl) (ct_X5_hasWord hT ?_)
  show Wp g yX6_word cX6_word 3 (some .int) 7 0 0 (px_MQ g Q 0 0) 0 0 8 [some (.ref 0), some (.int a), some (.int b)] [.int (bI (hasI a (tW T)))] w
  refine r_if_ne (pc' := 11) (P := (hasI a (tW T)) = false) (tgt := 13) dX6_word_8 (by decide) rfl (bI_0) (fun h8 => ?_) (fun h8 => ?_)
  · have h8' := (by simpa using h8 : hasI a _ = true)
    obtain ⟨i, hi, rfl⟩ := hasI_t h8' (by omega)
    refine r_iload_n (pc' := 14) dX6_word_13 rfl rfl ?_
    by_cases hsw : hasI b 4 = true
    · obtain ⟨sw14, hsw14, rfl⟩ := hasI_t hsw (by omega)
      rcases (show sw14 = 0 ∨ sw14 = 1 ∨ sw14 = 2 ∨ sw14 = 3 by omega) with rfl | rfl | rfl | rfl
      · refine r_tableIn (off := 30) (tgt := 44) dX6_word_14 (by decide) (by decide) (by decide) (by decide) ?_
        refine r_aload_n (pc' := 45) dX6_word_44 rfl rfl ?_
        refine r_get (pc' := 48) fX6_19 dX6_word_45 rfl hX rfl ?_
        refine r_iload_n (pc' := 49) dX6_word_48 rfl rfl ?_
        refine r_callV (pc' := 52) (av := [.int (nI i)]) (rest := []) kX5_longOfWord vX5_longOfWord lX6_81 dX6_word_49 rfl hT.o rfl rfl rfl ⟨by decide, by decide, by decide⟩ rfl rfl (Nat.le_of_ble_eq_true rfl) (ct_X5_longOfWord hT (i := i) (by omega) ?_)
        show Wp g yX6_word cX6_word 3 (some .int) 7 0 0 (px_MQ g Q 0 0) 0 0 52 [some (.ref 0), some (.int (nI i)), some (.int (nI 0))] [.int (nI (tl T i))] w
        have e49 := hT.b.2.1 i (by omega)
        refine r_ireturn dX6_word_52 rfl ?_
        refine px_eq hQ ?_
        rw [wordR, if_pos h8', nI_cl (show i < 2 ^ 31 by omega)]
        exact (pick_at 0 rfl (by decide)).symm
      · refine r_tableIn (off := 39) (tgt := 53) dX6_word_14 (by decide) (by decide) (by decide) (by decide) ?_
        refine r_aload_n (pc' := 54) dX6_word_53 rfl rfl ?_
        refine r_get (pc' := 57) fX6_19 dX6_word_54 rfl hX rfl ?_
        refine r_iload_n (pc' := 58) dX6_word_57 rfl rfl ?_
        refine r_callV (pc' := 61) (av := [.int (nI i)]) (rest := []) kX5_saidOf vX5_saidOf lX6_85 dX6_word_58 rfl hT.o rfl rfl rfl ⟨by decide, by decide, by decide⟩ rfl rfl (Nat.le_of_ble_eq_true rfl) (ct_X5_saidOf hT (i := i) (by omega) ?_)
        show Wp g yX6_word cX6_word 3 (some .int) 7 0 0 (px_MQ g Q 0 0) 0 0 61 [some (.ref 0), some (.int (nI i)), some (.int (nI 1))] [.int (nI (ts T i))] w
        have e58 := (hO.1 i (by omega))
        refine r_ireturn dX6_word_61 rfl ?_
        refine px_eq hQ ?_
        rw [wordR, if_pos h8', nI_cl (show i < 2 ^ 31 by omega)]
        exact (pick_at 1 rfl (by decide)).symm
      · refine r_tableIn (off := 48) (tgt := 62) dX6_word_14 (by decide) (by decide) (by decide) (by decide) ?_
        refine r_aload_n (pc' := 63) dX6_word_62 rfl rfl ?_
        refine r_iload_n (pc' := 64) dX6_word_63 rfl rfl ?_
        refine r_callV (pc' := 67) (av := [.int (nI i)]) (rest := []) kX6_doubtOf vX6_doubtOf lX6_88 dX6_word_64 rfl hX rfl rfl rfl ⟨by decide, by decide, by decide⟩ rfl rfl (Nat.le_of_ble_eq_true rfl) (ct_X6_doubtOf hX hT hO hM (i := i) (by omega) ?_)
        show Wp g yX6_word cX6_word 3 (some .int) 7 0 0 (px_MQ g Q 0 0) 0 0 67 [some (.ref 0), some (.int (nI i)), some (.int (nI 2))] [.int (oN (doubtS T i))] w
        refine r_ireturn dX6_word_67 rfl ?_
        refine px_eq hQ ?_
        rw [wordR, if_pos h8', nI_cl (show i < 2 ^ 31 by omega)]
        exact (pick_at 2 rfl (by decide)).symm
      · refine r_tableIn (off := 54) (tgt := 68) dX6_word_14 (by decide) (by decide) (by decide) (by decide) ?_
        refine r_aload_n (pc' := 69) dX6_word_68 rfl rfl ?_
        refine r_iload_n (pc' := 70) dX6_word_69 rfl rfl ?_
        refine r_callV (pc' := 73) (av := [.int (nI i)]) (rest := []) kX6_nearestTo vX6_nearestTo lX6_91 dX6_word_70 rfl hX rfl rfl rfl ⟨by decide, by decide, by decide⟩ rfl rfl (Nat.le_of_ble_eq_true rfl) (ct_X6_nearestTo hX hT hO hM (i := i) (by omega) ?_)
        show Wp g yX6_word cX6_word 3 (some .int) 7 0 0 (px_MQ g Q 0 0) 0 0 73 [some (.ref 0), some (.int (nI i)), some (.int (nI 3))] [.int (oN (nearS T i))] w
        refine r_ireturn dX6_word_73 rfl ?_
        refine px_eq hQ ?_
        rw [wordR, if_pos h8', nI_cl (show i < 2 ^ 31 by omega)]
        exact (pick_at 3 rfl (by decide)).symm
    · refine r_tableOut (tgt := 74) dX6_word_14 (out_hasI hsw) (by decide) ?_
      refine r_iconst (pc' := 75) (v := (-1)) dX6_word_74 rfl rfl ?_
      refine r_ireturn dX6_word_75 rfl ?_
      refine px_eq hQ ?_
      rw [wordR, if_pos h8', nI_cl (show i < 2 ^ 31 by omega)]
      exact (pick_f (by simpa using hsw)).symm
  · skip
    refine r_iconst (pc' := 12) (v := (-1)) dX6_word_11 rfl rfl ?_
    refine r_ireturn dX6_word_12 rfl ?_
    refine px_eq hQ ?_
    rw [wordR, h8]; rfl
set_option maxHeartbeats 200000 in
theorem ct_X6_drive {g : px_G} {w : px_W} {Q : px_Q} {ik : Int32} {tr : Int64} {T : px_T} {M : px_N} (hX : w[0]? = some (.inr (5, [.ref 1, .ref 9, .ref 15, .ref 18, .ref 51, .ref 59, .int ik, .long tr]))) (hT : SubA w 9 T) (hO : TOK T) (hM : MorA w 15 M) {a b : Int32} (hQ : Q (some (.int (driveR T M a b))) w) : Ct g yX6_drive cX6_drive 3 (some .int) 7 0 0 [.ref 0, .int a, .int b] w Q := by
  refine Ct.of kX6_drive (by omega) (lo := [some (.ref 0), some (.int a), some (.int b)]) rfl (px_cat1 rfl) (Nat.le_of_ble_eq_true rfl) ?_
  obtain ⟨⟨sb1, sb2, sb3⟩, sb4, sb5⟩ := hT.b
  obtain ⟨mB1, mB2, mB3⟩ := hM.b
  refine r_aload_n (pc' := 1) dX6_drive_0 rfl rfl ?_
  refine r_get (pc' := 4) fX6_19 dX6_drive_1 rfl hX rfl ?_
  refine r_iload_n (pc' := 5) dX6_drive_4 rfl rfl ?_
  refine r_callV (pc' := 8) (av := [.int a]) (rest := []) kX5_hasDrive vX5_hasDrive lX6_98 dX6_drive_5 rfl hT.o rfl rfl rfl ⟨by decide, by decide, by decide⟩ rfl rfl (Nat.le_of_ble_eq_true rfl) (ct_X5_hasDrive hT ?_)
  show Wp g yX6_drive cX6_drive 3 (some .int) 7 0 0 (px_MQ g Q 0 0) 0 0 8 [some (.ref 0), some (.int a), some (.int b)] [.int (bI (hasI a (tD T)))] w
  refine r_if_ne (pc' := 11) (P := (hasI a (tD T)) = false) (tgt := 13) dX6_drive_8 (by decide) rfl (bI_0) (fun h8 => ?_) (fun h8 => ?_)
  · have h8' := (by simpa using h8 : hasI a _ = true)
    obtain ⟨d, hd, rfl⟩ := hasI_t h8' (by omega)
    refine r_iload_n (pc' := 14) dX6_drive_13 rfl rfl ?_
    by_cases hsw : hasI b 6 = true
    · obtain ⟨sw14, hsw14, rfl⟩ := hasI_t hsw (by omega)
      rcases (show sw14 = 0 ∨ sw14 = 1 ∨ sw14 = 2 ∨ sw14 = 3 ∨ sw14 = 4 ∨ sw14 = 5 by omega) with rfl | rfl | rfl | rfl | rfl | rfl
      · refine r_tableIn (off := 38) (tgt := 52) dX6_drive_14 (by decide) (by decide) (by decide) (by decide) ?_
        refine r_aload_n (pc' := 53) dX6_drive_52 rfl rfl ?_
        refine r_get (pc' := 56) fX6_19 dX6_drive_53 rfl hX rfl ?_
        refine r_iload_n (pc' := 57) dX6_drive_56 rfl rfl ?_
        refine r_callV (pc' := 60) (av := [.int (nI d)]) (rest := []) kX5_longOfDrive vX5_longOfDrive lX6_101 dX6_drive_57 rfl hT.o rfl rfl rfl ⟨by decide, by decide, by decide⟩ rfl rfl (Nat.le_of_ble_eq_true rfl) (ct_X5_longOfDrive hT (i := d) (by omega) ?_)
        show Wp g yX6_drive cX6_drive 3 (some .int) 7 0 0 (px_MQ g Q 0 0) 0 0 60 [some (.ref 0), some (.int (nI d)), some (.int (nI 0))] [.int (nI (td T d))] w
        have e57 := (hO.2.2.1 d (by omega))
        refine r_ireturn dX6_drive_60 rfl ?_
        refine px_eq hQ ?_
        rw [driveR, if_pos h8', nI_cl (show d < 2 ^ 31 by omega)]
        exact (pick_at 0 rfl (by decide)).symm
      · refine r_tableIn (off := 47) (tgt := 61) dX6_drive_14 (by decide) (by decide) (by decide) (by decide) ?_
        refine r_aload_n (pc' := 62) dX6_drive_61 rfl rfl ?_
        refine r_get (pc' := 65) fX6_26 dX6_drive_62 rfl hX rfl ?_
        refine r_iload_n (pc' := 66) dX6_drive_65 rfl rfl ?_
        refine r_callV (pc' := 69) (av := [.int (nI d)]) (rest := []) kX0_troddenOf vX0_troddenOf lX6_104 dX6_drive_66 rfl hM.o rfl rfl rfl ⟨by decide, by decide, by decide⟩ rfl rfl (Nat.le_of_ble_eq_true rfl) (ct_X0_troddenOf hM (d := d) (by omega) ?_)
        show Wp g yX6_drive cX6_drive 3 (some .int) 7 0 0 (px_MQ g Q 0 0) 0 0 69 [some (.ref 0), some (.int (nI d)), some (.int (nI 1))] [.int (nI (nt M d))] w
        have e66 := hM.b.2.1 d (by omega)
        refine r_ireturn dX6_drive_69 rfl ?_
        refine px_eq hQ ?_
        rw [driveR, if_pos h8', nI_cl (show d < 2 ^ 31 by omega)]
        exact (pick_at 1 rfl (by decide)).symm
      · refine r_tableIn (off := 56) (tgt := 70) dX6_drive_14 (by decide) (by decide) (by decide) (by decide) ?_
        refine r_aload_n (pc' := 71) dX6_drive_70 rfl rfl ?_
        refine r_iload_n (pc' := 72) dX6_drive_71 rfl rfl ?_
        refine r_callV (pc' := 75) (av := [.int (nI d)]) (rest := []) kX6_fitsOf vX6_fitsOf lX6_107 dX6_drive_72 rfl hX rfl rfl rfl ⟨by decide, by decide, by decide⟩ rfl rfl (Nat.le_of_ble_eq_true rfl) (ct_X6_fitsOf hX hT hO hM (d := d) (by omega) ?_)
        show Wp g yX6_drive cX6_drive 3 (some .int) 7 0 0 (px_MQ g Q 0 0) 0 0 75 [some (.ref 0), some (.int (nI d)), some (.int (nI 2))] [.int (nI (fitS T M d))] w
        have e72 := fitS_lt (M := M) (d := d) sb1
        refine r_ireturn dX6_drive_75 rfl ?_
        refine px_eq hQ ?_
        rw [driveR, if_pos h8', nI_cl (show d < 2 ^ 31 by omega)]
        exact (pick_at 2 rfl (by decide)).symm
      · refine r_tableIn (off := 62) (tgt := 76) dX6_drive_14 (by decide) (by decide) (by decide) (by decide) ?_
        refine r_aload_n (pc' := 77) dX6_drive_76 rfl rfl ?_
        refine r_iload_n (pc' := 78) dX6_drive_77 rfl rfl ?_
        refine r_callV (pc' := 81) (av := [.int (nI d)]) (rest := []) kX6_lookOn vX6_lookOn lX6_110 dX6_drive_78 rfl hX rfl rfl rfl ⟨by decide, by decide, by decide⟩ rfl rfl (Nat.le_of_ble_eq_true rfl) (ct_X6_lookOn hX hT hO hM (d := d) (by omega) ?_)
        show Wp g yX6_drive cX6_drive 3 (some .int) 7 0 0 (px_MQ g Q 0 0) 0 0 81 [some (.ref 0), some (.int (nI d)), some (.int (nI 3))] [.int (oN (lookS T M d))] w
        refine r_ireturn dX6_drive_81 rfl ?_
        refine px_eq hQ ?_
        rw [driveR, if_pos h8', nI_cl (show d < 2 ^ 31 by omega)]
        exact (pick_at 3 rfl (by decide)).symm
      · refine r_tableIn (off := 68) (tgt := 82) dX6_drive_14 (by decide) (by decide) (by decide) (by decide) ?_
        refine r_aload_n (pc' := 83) dX6_drive_82 rfl rfl ?_
        refine r_iload_n (pc' := 84) dX6_drive_83 rfl rfl ?_
        refine r_callV (pc' := 87) (av := [.int (nI d)]) (rest := []) kX6_tracksOf vX6_tracksOf lX6_113 dX6_drive_84 rfl hX rfl rfl rfl ⟨by decide, by decide, by decide⟩ rfl rfl (Nat.le_of_ble_eq_true rfl) (ct_X6_tracksOf hX hT hO hM (d := d) (by omega) ?_)
        show Wp g yX6_drive cX6_drive 3 (some .int) 7 0 0 (px_MQ g Q 0 0) 0 0 87 [some (.ref 0), some (.int (nI d)), some (.int (nI 4))] [.int (nI (cnt (isT T M d) 32))] w
        refine r_ireturn dX6_drive_87 rfl ?_
        refine px_eq hQ ?_
        rw [driveR, if_pos h8', nI_cl (show d < 2 ^ 31 by omega)]
        exact (pick_at 4 rfl (by decide)).symm
      · refine r_tableIn (off := 74) (tgt := 88) dX6_drive_14 (by decide) (by decide) (by decide) (by decide) ?_
        refine r_aload_n (pc' := 89) dX6_drive_88 rfl rfl ?_
        refine r_iload_n (pc' := 90) dX6_drive_89 rfl rfl ?_
        refine r_callV (pc' := 93) (av := [.int (nI d)]) (rest := []) kX6_firstTrackOf vX6_firstTrackOf lX6_116 dX6_drive_90 rfl hX rfl rfl rfl ⟨by decide, by decide, by decide⟩ rfl rfl (Nat.le_of_ble_eq_true rfl) (ct_X6_firstTrackOf hX hT hO hM (d := d) (by omega) ?_)
        show Wp g yX6_drive cX6_drive 3 (some .int) 7 0 0 (px_MQ g Q 0 0) 0 0 93 [some (.ref 0), some (.int (nI d)), some (.int (nI 5))] [.int (oN (trackF T M d))] w
        refine r_ireturn dX6_drive_93 rfl ?_
        refine px_eq hQ ?_
        rw [driveR, if_pos h8', nI_cl (show d < 2 ^ 31 by omega)]
        exact (pick_at 5 rfl (by decide)).symm
    · refine r_tableOut (tgt := 94) dX6_drive_14 (out_hasI hsw) (by decide) ?_
      refine r_iconst (pc' := 95) (v := (-1)) dX6_drive_94 rfl rfl ?_
      refine r_ireturn dX6_drive_95 rfl ?_
      refine px_eq hQ ?_
      rw [driveR, if_pos h8', nI_cl (show d < 2 ^ 31 by omega)]
      exact (pick_f (by simpa using hsw)).symm
  · skip
    refine r_iconst (pc' := 12) (v := (-1)) dX6_drive_11 rfl rfl ?_
    refine r_ireturn dX6_drive_12 rfl ?_
    refine px_eq hQ ?_
    rw [driveR, h8]; rfl
set_option maxHeartbeats 200000 in
theorem ct_X6_letter {g : px_G} {w : px_W} {Q : px_Q} {ik : Int32} {tr : Int64} {T : px_T} {M : px_N} (hX : w[0]? = some (.inr (5, [.ref 1, .ref 9, .ref 15, .ref 18, .ref 51, .ref 59, .int ik, .long tr]))) (hT : SubA w 9 T) (hO : TOK T) (hM : MorA w 15 M) {a b : Int32} (hQ : Q (some (.int (letterR T a b))) w) : Ct g yX6_letter cX6_letter 3 (some .int) 4 0 0 [.ref 0, .int a, .int b] w Q := by
  refine Ct.of kX6_letter (by omega) (lo := [some (.ref 0), some (.int a), some (.int b)]) rfl (px_cat1 rfl) (Nat.le_of_ble_eq_true rfl) ?_
  obtain ⟨⟨sb1, sb2, sb3⟩, sb4, sb5⟩ := hT.b
  obtain ⟨mB1, mB2, mB3⟩ := hM.b
  refine r_aload_n (pc' := 1) dX6_letter_0 rfl rfl ?_
  refine r_get (pc' := 4) fX6_19 dX6_letter_1 rfl hX rfl ?_
  refine r_iload_n (pc' := 5) dX6_letter_4 rfl rfl ?_
  refine r_callV (pc' := 8) (av := [.int a]) (rest := []) kX5_hasWord vX5_hasWord lX6_77 dX6_letter_5 rfl hT.o rfl rfl rfl ⟨by decide, by decide, by decide⟩ rfl rfl (Nat.le_of_ble_eq_true rfl) (ct_X5_hasWord hT ?_)
  show Wp g yX6_letter cX6_letter 3 (some .int) 4 0 0 (px_MQ g Q 0 0) 0 0 8 [some (.ref 0), some (.int a), some (.int b)] [.int (bI (hasI a (tW T)))] w
  refine r_if_eq (pc' := 11) (P := (hasI a (tW T)) = false) (tgt := 27) dX6_letter_8 (by decide) rfl (bI_0) (fun h8 => ?_) (fun h8 => ?_)
  · skip
    refine r_iconst (pc' := 28) (v := (-1)) dX6_letter_27 rfl rfl ?_
    refine r_ireturn dX6_letter_28 rfl ?_
    refine px_eq hQ ?_
    first | (simp [letterR, h8]; done) | (rw [letterR, nI_cl (show i < 2 ^ 31 by omega), hc]; simp)
  · have h8' := (by simpa using h8 : hasI a _ = true)
    obtain ⟨i, hi, rfl⟩ := hasI_t h8' (by omega)
    refine r_iload_n (pc' := 12) dX6_letter_11 rfl rfl ?_
    refine r_if_lt (pc' := 15) (P := b < 0) (tgt := 27) dX6_letter_12 (by decide) rfl (Iff.rfl) (fun h12 => ?_) (fun h12 => ?_)
    · have hc := lt0_hasI (n := tl T i) h12
      refine r_iconst (pc' := 28) (v := (-1)) dX6_letter_27 rfl rfl ?_
      refine r_ireturn dX6_letter_28 rfl ?_
      refine px_eq hQ ?_
      first | (simp [letterR, h8]; done) | (rw [letterR, nI_cl (show i < 2 ^ 31 by omega), hc]; simp)
    · skip
      refine r_iload_n (pc' := 16) dX6_letter_15 rfl rfl ?_
      refine r_aload_n (pc' := 17) dX6_letter_16 rfl rfl ?_
      refine r_get (pc' := 20) fX6_19 dX6_letter_17 rfl hX rfl ?_
      refine r_iload_n (pc' := 21) dX6_letter_20 rfl rfl ?_
      refine r_callV (pc' := 24) (av := [.int (nI i)]) (rest := [.int b]) kX5_longOfWord vX5_longOfWord lX6_81 dX6_letter_21 rfl hT.o rfl rfl rfl ⟨by decide, by decide, by decide⟩ rfl rfl (Nat.le_of_ble_eq_true rfl) (ct_X5_longOfWord hT (i := i) (by omega) ?_)
      show Wp g yX6_letter cX6_letter 3 (some .int) 4 0 0 (px_MQ g Q 0 0) 0 0 24 [some (.ref 0), some (.int (nI i)), some (.int b)] [.int (nI (tl T i)), .int b] w
      have e21 := hT.b.2.1 i (by omega)
      refine r_icmp_lt (pc' := 27) (P := b < (nI (tl T i))) (tgt := 29) dX6_letter_24 (by decide) rfl (Iff.rfl) (fun h24 => ?_) (fun h24 => ?_)
      · have e24 := sb4 i (by omega)
        have h24' := in_hasI (n := tl T i) (by omega) h12 (by simpa using h24)
        obtain ⟨x, hx, rfl⟩ := hasI_t h24' (by omega)
        refine r_aload_n (pc' := 30) dX6_letter_29 rfl rfl ?_
        refine r_get (pc' := 33) fX6_19 dX6_letter_30 rfl hX rfl ?_
        refine r_iload_n (pc' := 34) dX6_letter_33 rfl rfl ?_
        refine r_iload_n (pc' := 35) dX6_letter_34 rfl rfl ?_
        refine r_callV (pc' := 38) (av := [.int (nI i), .int (nI x)]) (rest := []) kX5_contentOf vX5_contentOf lX6_94 dX6_letter_35 rfl hT.o rfl rfl rfl ⟨by decide, by decide, by decide⟩ rfl rfl (Nat.le_of_ble_eq_true rfl) (ct_X5_contentOf hT (i := i) (x := x) (by omega) (by omega) ?_)
        show Wp g yX6_letter cX6_letter 3 (some .int) 4 0 0 (px_MQ g Q 0 0) 0 0 38 [some (.ref 0), some (.int (nI i)), some (.int (nI x))] [.int (nI (tc T i x))] w
        have e35 := tc_le hO hT.b (i := i) (x := x) (by omega)
        refine r_ireturn dX6_letter_38 rfl ?_
        refine px_eq hQ ?_
        rw [letterR, h8', nI_cl (show i < 2 ^ 31 by omega), h24', nI_cl (show x < 2 ^ 31 by omega)]; rfl
      · have e24 := sb4 i (by omega)
        have hc := ge_hasI (n := tl T i) (by omega) (by simpa using h24)
        refine r_iconst (pc' := 28) (v := (-1)) dX6_letter_27 rfl rfl ?_
        refine r_ireturn dX6_letter_28 rfl ?_
        refine px_eq hQ ?_
        first | (simp [letterR, h8]; done) | (rw [letterR, nI_cl (show i < 2 ^ 31 by omega), hc]; simp)
set_option maxHeartbeats 200000 in
theorem ct_X6_cell {g : px_G} {w : px_W} {Q : px_Q} {ik : Int32} {tr : Int64} {T : px_T} {M : px_N} (hX : w[0]? = some (.inr (5, [.ref 1, .ref 9, .ref 15, .ref 18, .ref 51, .ref 59, .int ik, .long tr]))) (hT : SubA w 9 T) (hO : TOK T) (hM : MorA w 15 M) {a b : Int32} (hQ : Q (some (.int (cellR T M a b))) w) : Ct g yX6_cell cX6_cell 3 (some .int) 4 0 0 [.ref 0, .int a, .int b] w Q := by
  refine Ct.of kX6_cell (by omega) (lo := [some (.ref 0), some (.int a), some (.int b)]) rfl (px_cat1 rfl) (Nat.le_of_ble_eq_true rfl) ?_
  obtain ⟨⟨sb1, sb2, sb3⟩, sb4, sb5⟩ := hT.b
  obtain ⟨mB1, mB2, mB3⟩ := hM.b
  refine r_aload_n (pc' := 1) dX6_cell_0 rfl rfl ?_
  refine r_get (pc' := 4) fX6_19 dX6_cell_1 rfl hX rfl ?_
  refine r_iload_n (pc' := 5) dX6_cell_4 rfl rfl ?_
  refine r_iload_n (pc' := 6) dX6_cell_5 rfl rfl ?_
  refine r_callV (pc' := 9) (av := [.int a, .int b]) (rest := []) kX5_hasCell vX5_hasCell lX6_119 dX6_cell_6 rfl hT.o rfl rfl rfl ⟨by decide, by decide, by decide⟩ rfl rfl (Nat.le_of_ble_eq_true rfl) (ct_X5_hasCell hT hO ?_)
  show Wp g yX6_cell cX6_cell 3 (some .int) 4 0 0 (px_MQ g Q 0 0) 0 0 9 [some (.ref 0), some (.int a), some (.int b)] [.int (bI (hasC T a b))] w
  refine r_if_ne (pc' := 12) (P := (hasC T a b) = false) (tgt := 14) dX6_cell_9 (by decide) rfl (bI_0) (fun h9 => ?_) (fun h9 => ?_)
  · have h9' : hasC T a b = true := by simpa using h9
    obtain ⟨d, x, hd, hx, rfl, rfl⟩ := hasC_t hT.b hO h9'
    have e9 := hO.2.2.1 d hd
    refine r_aload_n (pc' := 15) dX6_cell_14 rfl rfl ?_
    refine r_get (pc' := 18) fX6_26 dX6_cell_15 rfl hX rfl ?_
    refine r_iload_n (pc' := 19) dX6_cell_18 rfl rfl ?_
    refine r_iload_n (pc' := 20) dX6_cell_19 rfl rfl ?_
    refine r_callV (pc' := 23) (av := [.int (nI d), .int (nI x)]) (rest := []) kX0_isTrodden vX0_isTrodden lX6_123 dX6_cell_20 rfl hM.o rfl rfl rfl ⟨by decide, by decide, by decide⟩ rfl rfl (Nat.le_of_ble_eq_true rfl) (ct_X0_isTrodden hM (d := d) (x := x) (by omega) (by omega) ?_)
    show Wp g yX6_cell cX6_cell 3 (some .int) 4 0 0 (px_MQ g Q 0 0) 0 0 23 [some (.ref 0), some (.int (nI d)), some (.int (nI x))] [.int (bI ((nt M d).testBit x))] w
    refine r_if_eq (pc' := 26) (P := ((nt M d).testBit x) = false) (tgt := 31) dX6_cell_23 (by decide) rfl (bI_0) (fun h23 => ?_) (fun h23 => ?_)
    · skip
      refine r_aload_n (pc' := 32) dX6_cell_31 rfl rfl ?_
      refine r_get (pc' := 35) fX6_26 dX6_cell_32 rfl hX rfl ?_
      refine r_iload_n (pc' := 36) dX6_cell_35 rfl rfl ?_
      refine r_iload_n (pc' := 37) dX6_cell_36 rfl rfl ?_
      refine r_callV (pc' := 40) (av := [.int (nI d), .int (nI x)]) (rest := []) kX0_contentOf vX0_contentOf lX6_126 dX6_cell_37 rfl hM.o rfl rfl rfl ⟨by decide, by decide, by decide⟩ rfl rfl (Nat.le_of_ble_eq_true rfl) (ct_X0_contentOf hM (d := d) (x := x) (by omega) (by omega) ?_)
      show Wp g yX6_cell cX6_cell 3 (some .int) 4 0 0 (px_MQ g Q 0 0) 0 0 40 [some (.ref 0), some (.int (nI d)), some (.int (nI x))] [.int (nI (nc M d x))] w
      have e37 := hM.b.1 d x (by omega) (by omega)
      refine r_ireturn dX6_cell_40 rfl ?_
      refine px_eq hQ ?_
      rw [cellR, if_pos h9', nI_cl (show d < 2 ^ 31 by omega), nI_cl (show x < 2 ^ 31 by omega)]; simp [h23]
    · skip
      refine r_bipush (pc' := 28) (v := (-9)) dX6_cell_26 rfl rfl ?_
      refine r_goto (tgt := 40) dX6_cell_28 (by decide) ?_
      refine r_ireturn dX6_cell_40 rfl ?_
      refine px_eq hQ ?_
      rw [cellR, if_pos h9', nI_cl (show d < 2 ^ 31 by omega), nI_cl (show x < 2 ^ 31 by omega)]; simp [h23]
  · skip
    refine r_iconst (pc' := 13) (v := (-1)) dX6_cell_12 rfl rfl ?_
    refine r_ireturn dX6_cell_13 rfl ?_
    refine px_eq hQ ?_
    first | (simp [cellR, h9]; done)
set_option maxHeartbeats 200000 in
theorem ct_X6_goer {g : px_G} {w : px_W} {Q : px_Q} {ik : Int32} {tr : Int64} {T : px_T} {M : px_N} (hX : w[0]? = some (.inr (5, [.ref 1, .ref 9, .ref 15, .ref 18, .ref 51, .ref 59, .int ik, .long tr]))) (hT : SubA w 9 T) (hO : TOK T) (hM : MorA w 15 M) {a b : Int32} (hQ : Q (some (.int (goerR T a b))) w) : Ct g yX6_goer cX6_goer 3 (some .int) 3 0 0 [.ref 0, .int a, .int b] w Q := by
  refine Ct.of kX6_goer (by omega) (lo := [some (.ref 0), some (.int a), some (.int b)]) rfl (px_cat1 rfl) (Nat.le_of_ble_eq_true rfl) ?_
  obtain ⟨⟨sb1, sb2, sb3⟩, sb4, sb5⟩ := hT.b
  obtain ⟨mB1, mB2, mB3⟩ := hM.b
  refine r_aload_n (pc' := 1) dX6_goer_0 rfl rfl ?_
  refine r_get (pc' := 4) fX6_19 dX6_goer_1 rfl hX rfl ?_
  refine r_iload_n (pc' := 5) dX6_goer_4 rfl rfl ?_
  refine r_callV (pc' := 8) (av := [.int a]) (rest := []) kX5_hasGoer vX5_hasGoer lX6_127 dX6_goer_5 rfl hT.o rfl rfl rfl ⟨by decide, by decide, by decide⟩ rfl rfl (Nat.le_of_ble_eq_true rfl) (ct_X5_hasGoer hT ?_)
  show Wp g yX6_goer cX6_goer 3 (some .int) 3 0 0 (px_MQ g Q 0 0) 0 0 8 [some (.ref 0), some (.int a), some (.int b)] [.int (bI (hasI a (tG T)))] w
  refine r_if_eq (pc' := 11) (P := (hasI a (tG T)) = false) (tgt := 20) dX6_goer_8 (by decide) rfl (bI_0) (fun h8 => ?_) (fun h8 => ?_)
  · skip
    refine r_iconst (pc' := 21) (v := (-1)) dX6_goer_20 rfl rfl ?_
    refine r_ireturn dX6_goer_21 rfl ?_
    refine px_eq hQ ?_
    first | (simp [goerR, h8]; done) | (simp [goerR, hc]; done)
  · have h8' := (by simpa using h8 : hasI a _ = true)
    obtain ⟨j, hj, rfl⟩ := hasI_t h8' (by omega)
    refine r_iload_n (pc' := 12) dX6_goer_11 rfl rfl ?_
    refine r_if_lt (pc' := 15) (P := b < 0) (tgt := 20) dX6_goer_12 (by decide) rfl (Iff.rfl) (fun h12 => ?_) (fun h12 => ?_)
    · have hc := lt0_hasI (n := 4) h12
      refine r_iconst (pc' := 21) (v := (-1)) dX6_goer_20 rfl rfl ?_
      refine r_ireturn dX6_goer_21 rfl ?_
      refine px_eq hQ ?_
      first | (simp [goerR, h8]; done) | (simp [goerR, hc]; done)
    · skip
      refine r_iload_n (pc' := 16) dX6_goer_15 rfl rfl ?_
      refine r_iconst (pc' := 17) (v := nI 4) dX6_goer_16 rfl rfl ?_
      refine r_icmp_lt (pc' := 20) (P := b < (nI 4)) (tgt := 22) dX6_goer_17 (by decide) rfl (Iff.rfl) (fun h17 => ?_) (fun h17 => ?_)
      · have h17' := in_hasI (n := 4) (by omega) h12 (by simpa using h17)
        obtain ⟨p, hp, rfl⟩ := hasI_t h17' (by omega)
        refine r_aload_n (pc' := 23) dX6_goer_22 rfl rfl ?_
        refine r_get (pc' := 26) fX6_19 dX6_goer_23 rfl hX rfl ?_
        refine r_iload_n (pc' := 27) dX6_goer_26 rfl rfl ?_
        refine r_iload_n (pc' := 28) dX6_goer_27 rfl rfl ?_
        refine r_callV (pc' := 31) (av := [.int (nI j), .int (nI p)]) (rest := []) kX5_partOfGoer vX5_partOfGoer lX6_130 dX6_goer_28 rfl hT.o rfl rfl rfl ⟨by decide, by decide, by decide⟩ rfl rfl (Nat.le_of_ble_eq_true rfl) (ct_X5_partOfGoer hT (i := j) (p := p) (by omega) (by omega) ?_)
        show Wp g yX6_goer cX6_goer 3 (some .int) 3 0 0 (px_MQ g Q 0 0) 0 0 31 [some (.ref 0), some (.int (nI j)), some (.int (nI p))] [.int (nI (tg T j p))] w
        have e28 := (hO.2.2.2 j (by omega))
        refine r_ireturn dX6_goer_31 rfl ?_
        refine px_eq hQ ?_
        rw [goerR, h8', h17', nI_cl (show j < 2 ^ 31 by omega), nI_cl (show p < 2 ^ 31 by omega)]; rfl
      · have hc := ge_hasI (n := 4) (by omega) (by simpa using h17)
        refine r_iconst (pc' := 21) (v := (-1)) dX6_goer_20 rfl rfl ?_
        refine r_ireturn dX6_goer_21 rfl ?_
        refine px_eq hQ ?_
        first | (simp [goerR, h8]; done) | (simp [goerR, hc]; done)
set_option maxHeartbeats 200000 in
theorem ct_X6_likely {g : px_G} {w : px_W} {Q : px_Q} {ik : Int32} {tr : Int64} {T : px_T} {M : px_N} (hX : w[0]? = some (.inr (5, [.ref 1, .ref 9, .ref 15, .ref 18, .ref 51, .ref 59, .int ik, .long tr]))) (hT : SubA w 9 T) (hO : TOK T) (hM : MorA w 15 M) {a b c : Int32} (hQ : Q (some (.int (likelyR T M a b c))) w) : Ct g yX6_likely cX6_likely 8 (some .int) 6 0 0 [.ref 0, .int a, .int b, .int c] w Q := by
  refine Ct.of kX6_likely (by omega) (lo := [some (.ref 0), some (.int a), some (.int b), some (.int c), none, none, none, none]) rfl (px_cat1 rfl) (Nat.le_of_ble_eq_true rfl) ?_
  obtain ⟨⟨sb1, sb2, sb3⟩, sb4, sb5⟩ := hT.b
  obtain ⟨mB1, mB2, mB3⟩ := hM.b
  refine r_aload_n (pc' := 1) dX6_likely_0 rfl rfl ?_
  refine r_get (pc' := 4) fX6_19 dX6_likely_1 rfl hX rfl ?_
  refine r_iload_n (pc' := 5) dX6_likely_4 rfl rfl ?_
  refine r_callV (pc' := 8) (av := [.int a]) (rest := []) kX5_hasDrive vX5_hasDrive lX6_98 dX6_likely_5 rfl hT.o rfl rfl rfl ⟨by decide, by decide, by decide⟩ rfl rfl (Nat.le_of_ble_eq_true rfl) (ct_X5_hasDrive hT ?_)
  show Wp g yX6_likely cX6_likely 8 (some .int) 6 0 0 (px_MQ g Q 0 0) 0 0 8 [some (.ref 0), some (.int a), some (.int b), some (.int c), none, none, none, none] [.int (bI (hasI a (tD T)))] w
  refine r_if_eq (pc' := 11) (P := (hasI a (tD T)) = false) (tgt := 31) dX6_likely_8 (by decide) rfl (bI_0) (fun h8 => ?_) (fun h8 => ?_)
  · skip
    refine r_iconst (pc' := 32) (v := (-1)) dX6_likely_31 rfl rfl ?_
    refine r_ireturn dX6_likely_32 rfl ?_
    refine px_eq hQ ?_
    first | (simp [likelyR, h8]; done) | (simp [likelyR, h19]; done) | (simp [likelyR, hc]; done)
  · have h8' := (by simpa using h8 : hasI a _ = true)
    obtain ⟨d, hd, rfl⟩ := hasI_t h8' (by omega)
    refine r_aload_n (pc' := 12) dX6_likely_11 rfl rfl ?_
    refine r_get (pc' := 15) fX6_19 dX6_likely_12 rfl hX rfl ?_
    refine r_iload_n (pc' := 16) dX6_likely_15 rfl rfl ?_
    refine r_callV (pc' := 19) (av := [.int b]) (rest := []) kX5_hasWord vX5_hasWord lX6_77 dX6_likely_16 rfl hT.o rfl rfl rfl ⟨by decide, by decide, by decide⟩ rfl rfl (Nat.le_of_ble_eq_true rfl) (ct_X5_hasWord hT ?_)
    show Wp g yX6_likely cX6_likely 8 (some .int) 6 0 0 (px_MQ g Q 0 0) 0 0 19 [some (.ref 0), some (.int (nI d)), some (.int b), some (.int c), none, none, none, none] [.int (bI (hasI b (tW T)))] w
    refine r_if_eq (pc' := 22) (P := (hasI b (tW T)) = false) (tgt := 31) dX6_likely_19 (by decide) rfl (bI_0) (fun h19 => ?_) (fun h19 => ?_)
    · skip
      refine r_iconst (pc' := 32) (v := (-1)) dX6_likely_31 rfl rfl ?_
      refine r_ireturn dX6_likely_32 rfl ?_
      refine px_eq hQ ?_
      first | (simp [likelyR, h8]; done) | (simp [likelyR, h19]; done) | (simp [likelyR, hc]; done)
    · have h19' := (by simpa using h19 : hasI b _ = true)
      obtain ⟨i, hi, rfl⟩ := hasI_t h19' (by omega)
      refine r_iload_n (pc' := 23) dX6_likely_22 rfl rfl ?_
      refine r_if_lt (pc' := 26) (P := c < 0) (tgt := 31) dX6_likely_23 (by decide) rfl (Iff.rfl) (fun h23 => ?_) (fun h23 => ?_)
      · have hc := lt0_hasI (n := 2) h23
        refine r_iconst (pc' := 32) (v := (-1)) dX6_likely_31 rfl rfl ?_
        refine r_ireturn dX6_likely_32 rfl ?_
        refine px_eq hQ ?_
        first | (simp [likelyR, h8]; done) | (simp [likelyR, h19]; done) | (simp [likelyR, hc]; done)
      · skip
        refine r_iload_n (pc' := 27) dX6_likely_26 rfl rfl ?_
        refine r_iconst (pc' := 28) (v := nI 1) dX6_likely_27 rfl rfl ?_
        refine r_icmp_le (pc' := 31) (P := c ≤ (nI 1)) (tgt := 33) dX6_likely_28 (by decide) rfl (Iff.rfl) (fun h28 => ?_) (fun h28 => ?_)
        · have h28' := ngt_hasI (n := 1) (by omega) h23 (by simpa using h28)
          obtain ⟨k, hk, rfl⟩ := hasI_t h28' (by omega)
          refine r_aload_n (pc' := 34) dX6_likely_33 rfl rfl ?_
          refine r_iload_n (pc' := 35) dX6_likely_34 rfl rfl ?_
          refine r_callV (pc' := 38) (av := [.int (nI d)]) (rest := []) kX6_fitsOf vX6_fitsOf lX6_107 dX6_likely_35 rfl hX rfl rfl rfl ⟨by decide, by decide, by decide⟩ rfl rfl (Nat.le_of_ble_eq_true rfl) (ct_X6_fitsOf hX hT hO hM (d := d) (by omega) ?_)
          show Wp g yX6_likely cX6_likely 8 (some .int) 6 0 0 (px_MQ g Q 0 0) 0 0 38 [some (.ref 0), some (.int (nI d)), some (.int (nI i)), some (.int (nI k)), none, none, none, none] [.int (nI (fitS T M d))] w
          have e35 := fitS_lt (M := M) (d := d) sb1
          refine r_istore (pc' := 40) (lo' := [some (.ref 0), some (.int (nI d)), some (.int (nI i)), some (.int (nI k)), some (.int (nI (fitS T M d))), none, none, none]) dX6_likely_38 rfl (by decide) rfl ?_
          have e38 := hO.1 i (by omega)
          refine r_iload (pc' := 42) dX6_likely_40 rfl rfl ?_
          refine r_iconst (pc' := 43) (v := nI 1) dX6_likely_42 rfl rfl ?_
          refine r_iload_n (pc' := 44) dX6_likely_43 rfl rfl ?_
          refine r_ishl (pc' := 45) (v := nI (2 ^ i)) dX6_likely_44 rfl (shl1_n (b := i) (by omega)) ?_
          refine r_iand (pc' := 46) (v := nI ((fitS T M d) &&& (2 ^ i))) dX6_likely_45 rfl (and_n (fitS T M d) (2 ^ i)) ?_
          refine r_if_eq (pc' := 49) (P := (fitS T M d).testBit i = false) (tgt := 53) dX6_likely_46 (by decide) rfl ((nI_eq0 (n := fitS T M d &&& 2 ^ i) (and_lt31 (by omega))).trans (tb_and _ i)) (fun h46 => ?_) (fun h46 => ?_)
          · skip
            refine r_iconst (pc' := 54) (v := nI 0) dX6_likely_53 rfl rfl ?_
            refine r_istore (pc' := 56) (lo' := [some (.ref 0), some (.int (nI d)), some (.int (nI i)), some (.int (nI k)), some (.int (nI (fitS T M d))), some (.int (nI 0)), none, none]) dX6_likely_54 rfl (by decide) rfl ?_
            refine r_iload (pc' := 58) dX6_likely_56 rfl rfl ?_
            refine r_if_eq (pc' := 61) (P := 0 = 0) (tgt := 72) dX6_likely_58 (by decide) rfl (nI_eq0 (n := 0) (by omega)) (fun h58 => ?_) (fun h58 => ?_)
            · skip
              refine r_iconst (pc' := 73) (v := nI 0) dX6_likely_72 rfl rfl ?_
              refine r_istore (pc' := 75) (lo' := [some (.ref 0), some (.int (nI d)), some (.int (nI i)), some (.int (nI k)), some (.int (nI (fitS T M d))), some (.int (nI 0)), some (.int (nI 0)), none]) dX6_likely_73 rfl (by decide) rfl ?_
              refine r_iload (pc' := 77) dX6_likely_75 rfl rfl ?_
              refine r_if_eq (pc' := 80) (P := 0 = 0) (tgt := 92) dX6_likely_77 (by decide) rfl (nI_eq0 (n := 0) (by omega)) (fun h77 => ?_) (fun h77 => ?_)
              · skip
                refine r_iconst (pc' := 93) (v := nI 1) dX6_likely_92 rfl rfl ?_
                refine r_istore (pc' := 95) (lo' := [some (.ref 0), some (.int (nI d)), some (.int (nI i)), some (.int (nI k)), some (.int (nI (fitS T M d))), some (.int (nI 0)), some (.int (nI 0)), some (.int (nI 1))]) dX6_likely_93 rfl (by decide) rfl ?_
                refine r_iload_n (pc' := 96) dX6_likely_95 rfl rfl ?_
                refine r_if_ne (pc' := 99) (P := k = 0) (tgt := 104) dX6_likely_96 (by decide) rfl (nI_eq0 (n := k) (by omega)) (fun h96 => ?_) (fun h96 => ?_)
                · skip
                  refine r_iload (pc' := 106) dX6_likely_104 rfl rfl ?_
                  refine r_iload (pc' := 108) dX6_likely_106 rfl rfl ?_
                  refine r_iload (pc' := 110) dX6_likely_108 rfl rfl ?_
                  refine r_callS (pc' := 113) (av := [.int (nI 0), .int (nI 1)]) (rest := [.int (nI 1)]) kX6_commonPart vX6_commonPart lX6_181 dX6_likely_110 rfl rfl rfl ⟨by decide, by decide, by decide⟩ rfl rfl (Nat.le_of_ble_eq_true rfl) (ct_X6_commonPart (a := 0) (b := 1) (by omega) (by omega) ?_)
                  show Wp g yX6_likely cX6_likely 8 (some .int) 6 0 0 (px_MQ g Q 0 0) 0 0 113 [some (.ref 0), some (.int (nI d)), some (.int (nI i)), some (.int (nI k)), some (.int (nI (fitS T M d))), some (.int (nI 0)), some (.int (nI 0)), some (.int (nI 1))] [.int (nI (cmp 0 1)), .int (nI 1)] w
                  have e110 := cpL_pos 0 1 (if 0 < 1 then 1 else 0)
                  have e110' : 1 ≤ cmp 0 1 := e110
                  have e110'' : cmp 0 1 < 2 ^ 21 := by have h := cpL_le 0 1 (if 0 < 1 then 1 else 0); have h' : cmp 0 1 ≤ (if 0 < 1 then 1 else 0) + 1 := h; split at h' <;> omega
                  refine r_callS (pc' := 116) (av := [.int (nI 1), .int (nI (cmp 0 1))]) (rest := []) kX6_inLeastTerms vX6_inLeastTerms lX6_184 dX6_likely_113 rfl rfl rfl ⟨by decide, by decide, by decide⟩ rfl rfl (Nat.le_of_ble_eq_true rfl) (ct_X6_inLeastTerms (n := 1) (c := cmp 0 1) (by omega) (by omega) (by omega) ?_)
                  show Wp g yX6_likely cX6_likely 8 (some .int) 6 0 0 (px_MQ g Q 0 0) 0 0 116 [some (.ref 0), some (.int (nI d)), some (.int (nI i)), some (.int (nI k)), some (.int (nI (fitS T M d))), some (.int (nI 0)), some (.int (nI 0)), some (.int (nI 1))] [.int (nI (1 / (cmp 0 1)))] w
                  refine r_ireturn dX6_likely_116 rfl ?_
                  refine px_eq hQ ?_
                  have hU : likU T M d i = 0 := by simp [likU, ← canS_fit (M := M) (d := d) hi, h46]
                  have hL : likL T M d i = 1 := by simp [likL, ← canS_fit (M := M) (d := d) hi, h46]
                  have hg := (cmp_gcd (likU T M d i) (by omega) (likL T M d i) (by omega)).resolve_left (by omega)
                  rw [likelyR, h8', h19', h28', nI_cl (show d < 2 ^ 31 by omega), nI_cl (show i < 2 ^ 31 by omega), nI_cl (show k < 2 ^ 31 by omega), ← hg, hU, hL]
                  simp [h96]
                · skip
                  refine r_iload (pc' := 101) dX6_likely_99 rfl rfl ?_
                  refine r_goto (tgt := 106) dX6_likely_101 (by decide) ?_
                  refine r_iload (pc' := 108) dX6_likely_106 rfl rfl ?_
                  refine r_iload (pc' := 110) dX6_likely_108 rfl rfl ?_
                  refine r_callS (pc' := 113) (av := [.int (nI 0), .int (nI 1)]) (rest := [.int (nI 0)]) kX6_commonPart vX6_commonPart lX6_181 dX6_likely_110 rfl rfl rfl ⟨by decide, by decide, by decide⟩ rfl rfl (Nat.le_of_ble_eq_true rfl) (ct_X6_commonPart (a := 0) (b := 1) (by omega) (by omega) ?_)
                  show Wp g yX6_likely cX6_likely 8 (some .int) 6 0 0 (px_MQ g Q 0 0) 0 0 113 [some (.ref 0), some (.int (nI d)), some (.int (nI i)), some (.int (nI k)), some (.int (nI (fitS T M d))), some (.int (nI 0)), some (.int (nI 0)), some (.int (nI 1))] [.int (nI (cmp 0 1)), .int (nI 0)] w
                  have e110 := cpL_pos 0 1 (if 0 < 1 then 1 else 0)
                  have e110' : 1 ≤ cmp 0 1 := e110
                  have e110'' : cmp 0 1 < 2 ^ 21 := by have h := cpL_le 0 1 (if 0 < 1 then 1 else 0); have h' : cmp 0 1 ≤ (if 0 < 1 then 1 else 0) + 1 := h; split at h' <;> omega
                  refine r_callS (pc' := 116) (av := [.int (nI 0), .int (nI (cmp 0 1))]) (rest := []) kX6_inLeastTerms vX6_inLeastTerms lX6_184 dX6_likely_113 rfl rfl rfl ⟨by decide, by decide, by decide⟩ rfl rfl (Nat.le_of_ble_eq_true rfl) (ct_X6_inLeastTerms (n := 0) (c := cmp 0 1) (by omega) (by omega) (by omega) ?_)
                  show Wp g yX6_likely cX6_likely 8 (some .int) 6 0 0 (px_MQ g Q 0 0) 0 0 116 [some (.ref 0), some (.int (nI d)), some (.int (nI i)), some (.int (nI k)), some (.int (nI (fitS T M d))), some (.int (nI 0)), some (.int (nI 0)), some (.int (nI 1))] [.int (nI (0 / (cmp 0 1)))] w
                  refine r_ireturn dX6_likely_116 rfl ?_
                  refine px_eq hQ ?_
                  have hU : likU T M d i = 0 := by simp [likU, ← canS_fit (M := M) (d := d) hi, h46]
                  have hL : likL T M d i = 1 := by simp [likL, ← canS_fit (M := M) (d := d) hi, h46]
                  have hg := (cmp_gcd (likU T M d i) (by omega) (likL T M d i) (by omega)).resolve_left (by omega)
                  rw [likelyR, h8', h19', h28', nI_cl (show d < 2 ^ 31 by omega), nI_cl (show i < 2 ^ 31 by omega), nI_cl (show k < 2 ^ 31 by omega), ← hg, hU, hL]
                  simp [h96]
              · skip
                exfalso; omega
            · skip
              exfalso; omega
          · skip
            refine r_iconst (pc' := 50) (v := nI 1) dX6_likely_49 rfl rfl ?_
            refine r_goto (tgt := 54) dX6_likely_50 (by decide) ?_
            refine r_istore (pc' := 56) (lo' := [some (.ref 0), some (.int (nI d)), some (.int (nI i)), some (.int (nI k)), some (.int (nI (fitS T M d))), some (.int (nI 1)), none, none]) dX6_likely_54 rfl (by decide) rfl ?_
            refine r_iload (pc' := 58) dX6_likely_56 rfl rfl ?_
            refine r_if_eq (pc' := 61) (P := 1 = 0) (tgt := 72) dX6_likely_58 (by decide) rfl (nI_eq0 (n := 1) (by omega)) (fun h58 => ?_) (fun h58 => ?_)
            · skip
              exfalso; omega
            · skip
              refine r_aload_n (pc' := 62) dX6_likely_61 rfl rfl ?_
              refine r_get (pc' := 65) fX6_19 dX6_likely_62 rfl hX rfl ?_
              refine r_iload_n (pc' := 66) dX6_likely_65 rfl rfl ?_
              refine r_callV (pc' := 69) (av := [.int (nI i)]) (rest := []) kX5_saidOf vX5_saidOf lX6_85 dX6_likely_66 rfl hT.o rfl rfl rfl ⟨by decide, by decide, by decide⟩ rfl rfl (Nat.le_of_ble_eq_true rfl) (ct_X5_saidOf hT (i := i) (by omega) ?_)
              show Wp g yX6_likely cX6_likely 8 (some .int) 6 0 0 (px_MQ g Q 0 0) 0 0 69 [some (.ref 0), some (.int (nI d)), some (.int (nI i)), some (.int (nI k)), some (.int (nI (fitS T M d))), some (.int (nI 1)), none, none] [.int (nI (ts T i))] w
              have e66 := (hO.1 i (by omega))
              refine r_goto (tgt := 73) dX6_likely_69 (by decide) ?_
              refine r_istore (pc' := 75) (lo' := [some (.ref 0), some (.int (nI d)), some (.int (nI i)), some (.int (nI k)), some (.int (nI (fitS T M d))), some (.int (nI 1)), some (.int (nI (ts T i))), none]) dX6_likely_73 rfl (by decide) rfl ?_
              refine r_iload (pc' := 77) dX6_likely_75 rfl rfl ?_
              refine r_if_eq (pc' := 80) (P := 1 = 0) (tgt := 92) dX6_likely_77 (by decide) rfl (nI_eq0 (n := 1) (by omega)) (fun h77 => ?_) (fun h77 => ?_)
              · skip
                exfalso; omega
              · skip
                refine r_aload_n (pc' := 81) dX6_likely_80 rfl rfl ?_
                refine r_get (pc' := 84) fX6_19 dX6_likely_81 rfl hX rfl ?_
                refine r_iload (pc' := 86) dX6_likely_84 rfl rfl ?_
                refine r_callV (pc' := 89) (av := [.int (nI (fitS T M d))]) (rest := []) kX5_weightOf vX5_weightOf lX6_178 dX6_likely_86 rfl hT.o rfl rfl rfl ⟨by decide, by decide, by decide⟩ rfl rfl (Nat.le_of_ble_eq_true rfl) (ct_X5_weightOf hT hO (bits := fitS T M d) (by omega) ?_)
                show Wp g yX6_likely cX6_likely 8 (some .int) 6 0 0 (px_MQ g Q 0 0) 0 0 89 [some (.ref 0), some (.int (nI d)), some (.int (nI i)), some (.int (nI k)), some (.int (nI (fitS T M d))), some (.int (nI 1)), some (.int (nI (ts T i))), none] [.int (nI (wgt T (fitS T M d)))] w
                have e86 := wgt_le hO hT.b (fitS T M d)
                refine r_goto (tgt := 93) dX6_likely_89 (by decide) ?_
                refine r_istore (pc' := 95) (lo' := [some (.ref 0), some (.int (nI d)), some (.int (nI i)), some (.int (nI k)), some (.int (nI (fitS T M d))), some (.int (nI 1)), some (.int (nI (ts T i))), some (.int (nI (wgt T (fitS T M d))))]) dX6_likely_93 rfl (by decide) rfl ?_
                refine r_iload_n (pc' := 96) dX6_likely_95 rfl rfl ?_
                refine r_if_ne (pc' := 99) (P := k = 0) (tgt := 104) dX6_likely_96 (by decide) rfl (nI_eq0 (n := k) (by omega)) (fun h96 => ?_) (fun h96 => ?_)
                · skip
                  refine r_iload (pc' := 106) dX6_likely_104 rfl rfl ?_
                  refine r_iload (pc' := 108) dX6_likely_106 rfl rfl ?_
                  refine r_iload (pc' := 110) dX6_likely_108 rfl rfl ?_
                  refine r_callS (pc' := 113) (av := [.int (nI (ts T i)), .int (nI (wgt T (fitS T M d)))]) (rest := [.int (nI (wgt T (fitS T M d)))]) kX6_commonPart vX6_commonPart lX6_181 dX6_likely_110 rfl rfl rfl ⟨by decide, by decide, by decide⟩ rfl rfl (Nat.le_of_ble_eq_true rfl) (ct_X6_commonPart (a := ts T i) (b := wgt T (fitS T M d)) (by omega) (by omega) ?_)
                  show Wp g yX6_likely cX6_likely 8 (some .int) 6 0 0 (px_MQ g Q 0 0) 0 0 113 [some (.ref 0), some (.int (nI d)), some (.int (nI i)), some (.int (nI k)), some (.int (nI (fitS T M d))), some (.int (nI 1)), some (.int (nI (ts T i))), some (.int (nI (wgt T (fitS T M d))))] [.int (nI (cmp (ts T i) (wgt T (fitS T M d)))), .int (nI (wgt T (fitS T M d)))] w
                  have e110 := cpL_pos (ts T i) (wgt T (fitS T M d)) (if ts T i < wgt T (fitS T M d) then wgt T (fitS T M d) else ts T i)
                  have e110' : 1 ≤ cmp (ts T i) (wgt T (fitS T M d)) := e110
                  have e110'' : cmp (ts T i) (wgt T (fitS T M d)) < 2 ^ 21 := by have h := cpL_le (ts T i) (wgt T (fitS T M d)) (if ts T i < wgt T (fitS T M d) then wgt T (fitS T M d) else ts T i); have h' : cmp (ts T i) (wgt T (fitS T M d)) ≤ (if ts T i < wgt T (fitS T M d) then wgt T (fitS T M d) else ts T i) + 1 := h; split at h' <;> omega
                  refine r_callS (pc' := 116) (av := [.int (nI (wgt T (fitS T M d))), .int (nI (cmp (ts T i) (wgt T (fitS T M d))))]) (rest := []) kX6_inLeastTerms vX6_inLeastTerms lX6_184 dX6_likely_113 rfl rfl rfl ⟨by decide, by decide, by decide⟩ rfl rfl (Nat.le_of_ble_eq_true rfl) (ct_X6_inLeastTerms (n := wgt T (fitS T M d)) (c := cmp (ts T i) (wgt T (fitS T M d))) (by omega) (by omega) (by omega) ?_)
                  show Wp g yX6_likely cX6_likely 8 (some .int) 6 0 0 (px_MQ g Q 0 0) 0 0 116 [some (.ref 0), some (.int (nI d)), some (.int (nI i)), some (.int (nI k)), some (.int (nI (fitS T M d))), some (.int (nI 1)), some (.int (nI (ts T i))), some (.int (nI (wgt T (fitS T M d))))] [.int (nI ((wgt T (fitS T M d)) / (cmp (ts T i) (wgt T (fitS T M d)))))] w
                  refine r_ireturn dX6_likely_116 rfl ?_
                  refine px_eq hQ ?_
                  have hU : likU T M d i = ts T i := by simp [likU, ← canS_fit (M := M) (d := d) hi, h46]
                  have hL : likL T M d i = wgt T (fitS T M d) := by simp [likL, ← canS_fit (M := M) (d := d) hi, h46]
                  have hg := (cmp_gcd (likU T M d i) (by omega) (likL T M d i) (by omega)).resolve_left (by omega)
                  rw [likelyR, h8', h19', h28', nI_cl (show d < 2 ^ 31 by omega), nI_cl (show i < 2 ^ 31 by omega), nI_cl (show k < 2 ^ 31 by omega), ← hg, hU, hL]
                  simp [h96]
                · skip
                  refine r_iload (pc' := 101) dX6_likely_99 rfl rfl ?_
                  refine r_goto (tgt := 106) dX6_likely_101 (by decide) ?_
                  refine r_iload (pc' := 108) dX6_likely_106 rfl rfl ?_
                  refine r_iload (pc' := 110) dX6_likely_108 rfl rfl ?_
                  refine r_callS (pc' := 113) (av := [.int (nI (ts T i)), .int (nI (wgt T (fitS T M d)))]) (rest := [.int (nI (ts T i))]) kX6_commonPart vX6_commonPart lX6_181 dX6_likely_110 rfl rfl rfl ⟨by decide, by decide, by decide⟩ rfl rfl (Nat.le_of_ble_eq_true rfl) (ct_X6_commonPart (a := ts T i) (b := wgt T (fitS T M d)) (by omega) (by omega) ?_)
                  show Wp g yX6_likely cX6_likely 8 (some .int) 6 0 0 (px_MQ g Q 0 0) 0 0 113 [some (.ref 0), some (.int (nI d)), some (.int (nI i)), some (.int (nI k)), some (.int (nI (fitS T M d))), some (.int (nI 1)), some (.int (nI (ts T i))), some (.int (nI (wgt T (fitS T M d))))] [.int (nI (cmp (ts T i) (wgt T (fitS T M d)))), .int (nI (ts T i))] w
                  have e110 := cpL_pos (ts T i) (wgt T (fitS T M d)) (if ts T i < wgt T (fitS T M d) then wgt T (fitS T M d) else ts T i)
                  have e110' : 1 ≤ cmp (ts T i) (wgt T (fitS T M d)) := e110
                  have e110'' : cmp (ts T i) (wgt T (fitS T M d)) < 2 ^ 21 := by have h := cpL_le (ts T i) (wgt T (fitS T M d)) (if ts T i < wgt T (fitS T M d) then wgt T (fitS T M d) else ts T i); have h' : cmp (ts T i) (wgt T (fitS T M d)) ≤ (if ts T i < wgt T (fitS T M d) then wgt T (fitS T M d) else ts T i) + 1 := h; split at h' <;> omega
                  refine r_callS (pc' := 116) (av := [.int (nI (ts T i)), .int (nI (cmp (ts T i) (wgt T (fitS T M d))))]) (rest := []) kX6_inLeastTerms vX6_inLeastTerms lX6_184 dX6_likely_113 rfl rfl rfl ⟨by decide, by decide, by decide⟩ rfl rfl (Nat.le_of_ble_eq_true rfl) (ct_X6_inLeastTerms (n := ts T i) (c := cmp (ts T i) (wgt T (fitS T M d))) (by omega) (by omega) (by omega) ?_)
                  show Wp g yX6_likely cX6_likely 8 (some .int) 6 0 0 (px_MQ g Q 0 0) 0 0 116 [some (.ref 0), some (.int (nI d)), some (.int (nI i)), some (.int (nI k)), some (.int (nI (fitS T M d))), some (.int (nI 1)), some (.int (nI (ts T i))), some (.int (nI (wgt T (fitS T M d))))] [.int (nI ((ts T i) / (cmp (ts T i) (wgt T (fitS T M d)))))] w
                  refine r_ireturn dX6_likely_116 rfl ?_
                  refine px_eq hQ ?_
                  have hU : likU T M d i = ts T i := by simp [likU, ← canS_fit (M := M) (d := d) hi, h46]
                  have hL : likL T M d i = wgt T (fitS T M d) := by simp [likL, ← canS_fit (M := M) (d := d) hi, h46]
                  have hg := (cmp_gcd (likU T M d i) (by omega) (likL T M d i) (by omega)).resolve_left (by omega)
                  rw [likelyR, h8', h19', h28', nI_cl (show d < 2 ^ 31 by omega), nI_cl (show i < 2 ^ 31 by omega), nI_cl (show k < 2 ^ 31 by omega), ← hg, hU, hL]
                  simp [h96]
        · have hc := gt_hasI (n := 1) (by omega) (by simpa using h28)
          refine r_iconst (pc' := 32) (v := (-1)) dX6_likely_31 rfl rfl ?_
          refine r_ireturn dX6_likely_32 rfl ?_
          refine px_eq hQ ?_
          first | (simp [likelyR, h8]; done) | (simp [likelyR, h19]; done) | (simp [likelyR, hc]; done)
def oZ (o : Option Nat) : Nat := match o with
  | some v => v
  | none => 0
set_option maxHeartbeats 200000 in
theorem ct_X6_spoil {g : px_G} {w : px_W} {Q : px_Q} {ik : Int32} {tr : Int64} {T : px_T} {M : px_N} (hX : w[0]? = some (.inr (5, [.ref 1, .ref 9, .ref 15, .ref 18, .ref 51, .ref 59, .int ik, .long tr]))) (hT : SubA w 9 T) (hO : TOK T) (hM : MorA w 15 M) {a b c : Int32} (hQ : Q (some (.int (spoilR T M a b c))) w) : Ct g yX6_spoil cX6_spoil 9 (some .int) 5 0 0 [.ref 0, .int a, .int b, .int c] w Q := by
  refine Ct.of kX6_spoil (by omega) (lo := [some (.ref 0), some (.int a), some (.int b), some (.int c), none, none, none, none, none]) rfl (px_cat1 rfl) (Nat.le_of_ble_eq_true rfl) ?_
  obtain ⟨⟨sb1, sb2, sb3⟩, sb4, sb5⟩ := hT.b
  obtain ⟨mB1, mB2, mB3⟩ := hM.b
  refine r_aload_n (pc' := 1) dX6_spoil_0 rfl rfl ?_
  refine r_get (pc' := 4) fX6_19 dX6_spoil_1 rfl hX rfl ?_
  refine r_iload_n (pc' := 5) dX6_spoil_4 rfl rfl ?_
  refine r_callV (pc' := 8) (av := [.int a]) (rest := []) kX5_hasDrive vX5_hasDrive lX6_98 dX6_spoil_5 rfl hT.o rfl rfl rfl ⟨by decide, by decide, by decide⟩ rfl rfl (Nat.le_of_ble_eq_true rfl) (ct_X5_hasDrive hT ?_)
  show Wp g yX6_spoil cX6_spoil 9 (some .int) 5 0 0 (px_MQ g Q 0 0) 0 0 8 [some (.ref 0), some (.int a), some (.int b), some (.int c), none, none, none, none, none] [.int (bI (hasI a (tD T)))] w
  refine r_if_eq (pc' := 11) (P := (hasI a (tD T)) = false) (tgt := 27) dX6_spoil_8 (by decide) rfl (bI_0) (fun h8 => ?_) (fun h8 => ?_)
  · skip
    refine r_iconst (pc' := 28) (v := (-1)) dX6_spoil_27 rfl rfl ?_
    refine r_ireturn dX6_spoil_28 rfl ?_
    refine px_eq hQ ?_
    first | (simp [spoilR, h8]; done) | (simp [spoilR, h15]; done) | (simp [spoilR, hc]; done)
  · have h8' := (by simpa using h8 : hasI a _ = true)
    obtain ⟨d, hd, rfl⟩ := hasI_t h8' (by omega)
    refine r_iload_n (pc' := 12) dX6_spoil_11 rfl rfl ?_
    refine r_callS (pc' := 15) (av := [.int b]) (rest := []) kX6_isStride vX6_isStride lX6_145 dX6_spoil_12 rfl rfl rfl ⟨by decide, by decide, by decide⟩ rfl rfl (Nat.le_of_ble_eq_true rfl) (ct_X6_isStride ?_)
    show Wp g yX6_spoil cX6_spoil 9 (some .int) 5 0 0 (px_MQ g Q 0 0) 0 0 15 [some (.ref 0), some (.int (nI d)), some (.int b), some (.int c), none, none, none, none, none] [.int (bI (strI b))] w
    refine r_if_eq (pc' := 18) (P := (strI b) = false) (tgt := 27) dX6_spoil_15 (by decide) rfl (bI_0) (fun h15 => ?_) (fun h15 => ?_)
    · skip
      refine r_iconst (pc' := 28) (v := (-1)) dX6_spoil_27 rfl rfl ?_
      refine r_ireturn dX6_spoil_28 rfl ?_
      refine px_eq hQ ?_
      first | (simp [spoilR, h8]; done) | (simp [spoilR, h15]; done) | (simp [spoilR, hc]; done)
    · have h15' : strI b = true := by simpa using h15
      obtain ⟨s, hs1, hs2, rfl⟩ := strI_t h15'
      refine r_iload_n (pc' := 19) dX6_spoil_18 rfl rfl ?_
      refine r_if_lt (pc' := 22) (P := c < 0) (tgt := 27) dX6_spoil_19 (by decide) rfl (Iff.rfl) (fun h19 => ?_) (fun h19 => ?_)
      · have hc := lt0_hasI (n := 2) h19
        refine r_iconst (pc' := 28) (v := (-1)) dX6_spoil_27 rfl rfl ?_
        refine r_ireturn dX6_spoil_28 rfl ?_
        refine px_eq hQ ?_
        first | (simp [spoilR, h8]; done) | (simp [spoilR, h15]; done) | (simp [spoilR, hc]; done)
      · skip
        refine r_iload_n (pc' := 23) dX6_spoil_22 rfl rfl ?_
        refine r_iconst (pc' := 24) (v := nI 1) dX6_spoil_23 rfl rfl ?_
        refine r_icmp_le (pc' := 27) (P := c ≤ (nI 1)) (tgt := 29) dX6_spoil_24 (by decide) rfl (Iff.rfl) (fun h24 => ?_) (fun h24 => ?_)
        · have h24' := ngt_hasI (n := 1) (by omega) h19 (by simpa using h24)
          obtain ⟨k, hk, rfl⟩ := hasI_t h24' (by omega)
          refine r_aload_n (pc' := 30) dX6_spoil_29 rfl rfl ?_
          refine r_iload_n (pc' := 31) dX6_spoil_30 rfl rfl ?_
          refine r_callV (pc' := 34) (av := [.int (nI d)]) (rest := []) kX6_readableOn vX6_readableOn lX6_187 dX6_spoil_31 rfl hX rfl rfl rfl ⟨by decide, by decide, by decide⟩ rfl rfl (Nat.le_of_ble_eq_true rfl) (ct_X6_readableOn hX hT hO hM (d := d) (by omega) ?_)
          show Wp g yX6_spoil cX6_spoil 9 (some .int) 5 0 0 (px_MQ g Q 0 0) 0 0 34 [some (.ref 0), some (.int (nI d)), some (.int (nI s)), some (.int (nI k)), none, none, none, none, none] [.int (nI (rdbl T M d))] w
          have e31 := rdbl_lt (M := M) (hO.2.2.1 d (by omega)).2
          refine r_istore (pc' := 36) (lo' := [some (.ref 0), some (.int (nI d)), some (.int (nI s)), some (.int (nI k)), some (.int (nI (rdbl T M d))), none, none, none, none]) dX6_spoil_34 rfl (by decide) rfl ?_
          refine r_iconst (pc' := 37) (v := nI 0) dX6_spoil_36 rfl rfl ?_
          refine r_istore (pc' := 39) (lo' := [some (.ref 0), some (.int (nI d)), some (.int (nI s)), some (.int (nI k)), some (.int (nI (rdbl T M d))), some (.int (nI 0)), none, none, none]) dX6_spoil_37 rfl (by decide) rfl ?_
          refine r_bipush (pc' := 41) (v := nI 9) dX6_spoil_39 rfl rfl ?_
          refine r_istore (pc' := 43) (lo' := [some (.ref 0), some (.int (nI d)), some (.int (nI s)), some (.int (nI k)), some (.int (nI (rdbl T M d))), some (.int (nI 0)), some (.int (nI 9)), none, none]) dX6_spoil_41 rfl (by decide) rfl ?_
          refine r_iconst (pc' := 44) (v := nI 0) dX6_spoil_43 rfl rfl ?_
          refine r_istore (pc' := 46) (lo' := [some (.ref 0), some (.int (nI d)), some (.int (nI s)), some (.int (nI k)), some (.int (nI (rdbl T M d))), some (.int (nI 0)), some (.int (nI 9)), some (.int (nI 0)), none]) dX6_spoil_44 rfl (by decide) rfl ?_
          have L46 : ∀ (fu : Nat) (f : Nat), s - f < fu → f ≤ s → Wp g yX6_spoil cX6_spoil 9 (some .int) 5 0 0 (px_MQ g Q 0 0) 0 0 46 [some (.ref 0), some (.int (nI d)), some (.int (nI s)), some (.int (nI k)), some (.int (nI (rdbl T M d))), some (.int (nI (oZ (amin (fun _ => true) (spoF T M d s) f)))), some (.int (nI (aval (spoF T M d s) 9 (amin (fun _ => true) (spoF T M d s) f)))), some (.int (nI f)), none] [] w := by
            intro fu; induction fu with
            | zero => intro f hm; exact absurd hm (Nat.not_lt_zero _)
            | succ fu ih =>
              intro f hm hf
              have hav : aval (spoF T M d s) 9 (amin (fun _ => true) (spoF T M d s) f) ≤ 9 := aval_le (fun v _ => by have := popc_le (rdbl T M d &&& trk v s (td T d)); show popc _ ≤ 9; omega)
              have ih46 := ih; clear ih
              refine r_iload (pc' := 48) dX6_spoil_46 rfl rfl ?_
              refine r_iload_n (pc' := 49) dX6_spoil_48 rfl rfl ?_
              refine r_icmp_ge (pc' := 52) (P := s ≤ f) (tgt := 89) dX6_spoil_49 (by decide) rfl (nI_leI (a := s) (b := f) (by omega) (by omega)) (fun h49 => ?_) (fun h49 => ?_)
              · have hf2 : f = s := by omega
                subst hf2
                refine r_iload_n (pc' := 90) dX6_spoil_89 rfl rfl ?_
                refine r_if_ne (pc' := 93) (P := k = 0) (tgt := 98) dX6_spoil_90 (by decide) rfl (nI_eq0 (n := k) (by omega)) (fun h90 => ?_) (fun h90 => ?_)
                · skip
                  refine r_iload (pc' := 100) dX6_spoil_98 rfl rfl ?_
                  refine r_ireturn dX6_spoil_100 rfl ?_
                  refine px_eq hQ ?_
                  obtain ⟨m, rfl⟩ : ∃ m, f = m + 1 := ⟨f - 1, by omega⟩
                  obtain ⟨v, hv⟩ : ∃ v, amin (fun _ => true) (spoF T M d (m + 1)) (m + 1) = some v := by
                    rw [amin]
                    split
                    · exact ⟨_, rfl⟩
                    · split <;> exact ⟨_, rfl⟩
                  rw [spoilR, h8', h15', h24', nI_cl (show d < 2 ^ 31 by omega), nI_cl (show m + 1 < 2 ^ 31 by omega), nI_cl (show k < 2 ^ 31 by omega), hv]
                  simp [h90, oZ, aval]
                · skip
                  refine r_iload (pc' := 95) dX6_spoil_93 rfl rfl ?_
                  refine r_goto (tgt := 100) dX6_spoil_95 (by decide) ?_
                  refine r_ireturn dX6_spoil_100 rfl ?_
                  refine px_eq hQ ?_
                  obtain ⟨m, rfl⟩ : ∃ m, f = m + 1 := ⟨f - 1, by omega⟩
                  obtain ⟨v, hv⟩ : ∃ v, amin (fun _ => true) (spoF T M d (m + 1)) (m + 1) = some v := by
                    rw [amin]
                    split
                    · exact ⟨_, rfl⟩
                    · split <;> exact ⟨_, rfl⟩
                  rw [spoilR, h8', h15', h24', nI_cl (show d < 2 ^ 31 by omega), nI_cl (show m + 1 < 2 ^ 31 by omega), nI_cl (show k < 2 ^ 31 by omega), hv]
                  simp [h90, oZ, aval]
              · skip
                refine r_iload (pc' := 54) dX6_spoil_52 rfl rfl ?_
                refine r_aload_n (pc' := 55) dX6_spoil_54 rfl rfl ?_
                refine r_iload_n (pc' := 56) dX6_spoil_55 rfl rfl ?_
                refine r_iload (pc' := 58) dX6_spoil_56 rfl rfl ?_
                refine r_iload_n (pc' := 59) dX6_spoil_58 rfl rfl ?_
                refine r_callV (pc' := 62) (av := [.int (nI d), .int (nI f), .int (nI s)]) (rest := [.int (nI (rdbl T M d))]) kX6_trackOn vX6_trackOn lX6_148 dX6_spoil_59 rfl hX rfl rfl rfl ⟨by decide, by decide, by decide⟩ rfl rfl (Nat.le_of_ble_eq_true rfl) (ct_X6_trackOn hX hT hO hM (d := d) (f := f) (s := s) (by omega) (by omega) (by omega) ?_)
                show Wp g yX6_spoil cX6_spoil 9 (some .int) 5 0 0 (px_MQ g Q 0 0) 0 0 62 [some (.ref 0), some (.int (nI d)), some (.int (nI s)), some (.int (nI k)), some (.int (nI (rdbl T M d))), some (.int (nI (oZ (amin (fun _ => true) (spoF T M d s) f)))), some (.int (nI (aval (spoF T M d s) 9 (amin (fun _ => true) (spoF T M d s) f)))), some (.int (nI f)), none] [.int (nI (trk f s (td T d))), .int (nI (rdbl T M d))] w
                have e59 := trk_lt (f := f) (s := s) (hO.2.2.1 d (by omega)).2
                refine r_iand (pc' := 63) (v := nI ((rdbl T M d) &&& (trk f s (td T d)))) dX6_spoil_62 rfl (and_n (rdbl T M d) (trk f s (td T d))) ?_
                refine r_callS (pc' := 66) (av := [.int (nI ((rdbl T M d) &&& (trk f s (td T d))))]) (rest := []) kJ6_bitCount_0f7a4 vJ6_bitCount_0f7a4 lX6_155 dX6_spoil_63 rfl rfl rfl ⟨by decide, by decide, by decide⟩ rfl rfl (Nat.le_of_ble_eq_true rfl) (ct_J6_bitCount_0f7a4 (n := (rdbl T M d) &&& (trk f s (td T d))) (Nat.lt_of_le_of_lt Nat.and_le_left (by omega)) ?_)
                show Wp g yX6_spoil cX6_spoil 9 (some .int) 5 0 0 (px_MQ g Q 0 0) 0 0 66 [some (.ref 0), some (.int (nI d)), some (.int (nI s)), some (.int (nI k)), some (.int (nI (rdbl T M d))), some (.int (nI (oZ (amin (fun _ => true) (spoF T M d s) f)))), some (.int (nI (aval (spoF T M d s) 9 (amin (fun _ => true) (spoF T M d s) f)))), some (.int (nI f)), none] [.int (nI (popc ((rdbl T M d) &&& (trk f s (td T d)))))] w
                have e63 := popc_le ((rdbl T M d) &&& (trk f s (td T d)))
                refine r_istore (pc' := 68) (lo' := [some (.ref 0), some (.int (nI d)), some (.int (nI s)), some (.int (nI k)), some (.int (nI (rdbl T M d))), some (.int (nI (oZ (amin (fun _ => true) (spoF T M d s) f)))), some (.int (nI (aval (spoF T M d s) 9 (amin (fun _ => true) (spoF T M d s) f)))), some (.int (nI f)), some (.int (nI (popc ((rdbl T M d) &&& (trk f s (td T d))))))]) dX6_spoil_66 rfl (by decide) rfl ?_
                refine r_iload (pc' := 70) dX6_spoil_68 rfl rfl ?_
                refine r_iload (pc' := 72) dX6_spoil_70 rfl rfl ?_
                refine r_icmp_ge (pc' := 75) (P := aval (spoF T M d s) 9 (amin (fun _ => true) (spoF T M d s) f) ≤ popc ((rdbl T M d) &&& (trk f s (td T d)))) (tgt := 83) dX6_spoil_72 (by decide) rfl (nI_leI (a := aval (spoF T M d s) 9 (amin (fun _ => true) (spoF T M d s) f)) (b := popc ((rdbl T M d) &&& (trk f s (td T d)))) (by omega) (by omega)) (fun h72 => ?_) (fun h72 => ?_)
                · skip
                  refine r_iinc (pc' := 86) (lo' := [some (.ref 0), some (.int (nI d)), some (.int (nI s)), some (.int (nI k)), some (.int (nI (rdbl T M d))), some (.int (nI (oZ (amin (fun _ => true) (spoF T M d s) f)))), some (.int (nI (aval (spoF T M d s) 9 (amin (fun _ => true) (spoF T M d s) f)))), some (.int (nI (f + 1))), some (.int (nI (popc ((rdbl T M d) &&& (trk f s (td T d))))))]) dX6_spoil_83 rfl (by decide) rfl (nI_add f 1) rfl ?_
                  refine r_goto (tgt := 46) dX6_spoil_86 (by decide) ?_
                  have e1 := amin_f (p := (fun _ => true)) (f := (spoF T M d s)) (n := f) (big := 9) (by have := popc_le (rdbl T M d &&& trk f s (td T d)); show popc _ < 9; omega) (Or.inr (by show ¬ popc _ < _; omega))
                  have hi := ih46 (f + 1) (by omega) (by omega)
                  rw [e1] at hi
                  refine r_drop 8 rfl ?_
                  exact hi
                · skip
                  refine r_iload (pc' := 77) dX6_spoil_75 rfl rfl ?_
                  refine r_istore (pc' := 79) (lo' := [some (.ref 0), some (.int (nI d)), some (.int (nI s)), some (.int (nI k)), some (.int (nI (rdbl T M d))), some (.int (nI f)), some (.int (nI (aval (spoF T M d s) 9 (amin (fun _ => true) (spoF T M d s) f)))), some (.int (nI f)), some (.int (nI (popc ((rdbl T M d) &&& (trk f s (td T d))))))]) dX6_spoil_77 rfl (by decide) rfl ?_
                  refine r_iload (pc' := 81) dX6_spoil_79 rfl rfl ?_
                  refine r_istore (pc' := 83) (lo' := [some (.ref 0), some (.int (nI d)), some (.int (nI s)), some (.int (nI k)), some (.int (nI (rdbl T M d))), some (.int (nI f)), some (.int (nI (popc ((rdbl T M d) &&& (trk f s (td T d)))))), some (.int (nI f)), some (.int (nI (popc ((rdbl T M d) &&& (trk f s (td T d))))))]) dX6_spoil_81 rfl (by decide) rfl ?_
                  refine r_iinc (pc' := 86) (lo' := [some (.ref 0), some (.int (nI d)), some (.int (nI s)), some (.int (nI k)), some (.int (nI (rdbl T M d))), some (.int (nI f)), some (.int (nI (popc ((rdbl T M d) &&& (trk f s (td T d)))))), some (.int (nI (f + 1))), some (.int (nI (popc ((rdbl T M d) &&& (trk f s (td T d))))))]) dX6_spoil_83 rfl (by decide) rfl (nI_add f 1) rfl ?_
                  refine r_goto (tgt := 46) dX6_spoil_86 (by decide) ?_
                  have e1 := amin_t (p := (fun _ => true)) (f := (spoF T M d s)) (n := f) (big := 9) (by show popc _ < 9; omega) rfl (by show popc _ < _; omega)
                  have hi := ih46 (f + 1) (by omega) (by omega)
                  rw [e1] at hi
                  refine r_drop 8 rfl ?_
                  exact hi
          exact L46 ((s) + 1) 0 (Nat.lt_succ_self _) (by omega)
        · have hc := gt_hasI (n := 1) (by omega) (by simpa using h24)
          refine r_iconst (pc' := 28) (v := (-1)) dX6_spoil_27 rfl rfl ?_
          refine r_ireturn dX6_spoil_28 rfl ?_
          refine px_eq hQ ?_
          first | (simp [spoilR, h8]; done) | (simp [spoilR, h15]; done) | (simp [spoilR, hc]; done)
set_option maxHeartbeats 200000 in
theorem ct_X6_odds {g : px_G} {w : px_W} {Q : px_Q} {ik : Int32} {tr : Int64} {T : px_T} {M : px_N} (hX : w[0]? = some (.inr (5, [.ref 1, .ref 9, .ref 15, .ref 18, .ref 51, .ref 59, .int ik, .long tr]))) (hT : SubA w 9 T) (hO : TOK T) (hM : MorA w 15 M) {a b c : Int32} (hQ : Q (some (.int (oddsR T M a b c))) w) : Ct g yX6_odds cX6_odds 8 (some .int) 6 0 0 [.ref 0, .int a, .int b, .int c] w Q := by
  refine Ct.of kX6_odds (by omega) (lo := [some (.ref 0), some (.int a), some (.int b), some (.int c), none, none, none, none]) rfl (px_cat1 rfl) (Nat.le_of_ble_eq_true rfl) ?_
  obtain ⟨⟨sb1, sb2, sb3⟩, sb4, sb5⟩ := hT.b
  obtain ⟨mB1, mB2, mB3⟩ := hM.b
  refine r_aload_n (pc' := 1) dX6_odds_0 rfl rfl ?_
  refine r_get (pc' := 4) fX6_19 dX6_odds_1 rfl hX rfl ?_
  refine r_iload_n (pc' := 5) dX6_odds_4 rfl rfl ?_
  refine r_callV (pc' := 8) (av := [.int a]) (rest := []) kX5_hasDrive vX5_hasDrive lX6_98 dX6_odds_5 rfl hT.o rfl rfl rfl ⟨by decide, by decide, by decide⟩ rfl rfl (Nat.le_of_ble_eq_true rfl) (ct_X5_hasDrive hT ?_)
  show Wp g yX6_odds cX6_odds 8 (some .int) 6 0 0 (px_MQ g Q 0 0) 0 0 8 [some (.ref 0), some (.int a), some (.int b), some (.int c), none, none, none, none] [.int (bI (hasI a (tD T)))] w
  refine r_if_eq (pc' := 11) (P := (hasI a (tD T)) = false) (tgt := 30) dX6_odds_8 (by decide) rfl (bI_0) (fun h8 => ?_) (fun h8 => ?_)
  · skip
    refine r_iconst (pc' := 31) (v := (-1)) dX6_odds_30 rfl rfl ?_
    refine r_ireturn dX6_odds_31 rfl ?_
    refine px_eq hQ ?_
    first | (simp [oddsR, h8]; done) | (simp [oddsR, hb]; done) | (simp [oddsR, hc]; done)
  · have h8' := (by simpa using h8 : hasI a _ = true)
    obtain ⟨d, hd, rfl⟩ := hasI_t h8' (by omega)
    refine r_iload_n (pc' := 12) dX6_odds_11 rfl rfl ?_
    refine r_if_lt (pc' := 15) (P := b < 0) (tgt := 30) dX6_odds_12 (by decide) rfl (Iff.rfl) (fun h12 => ?_) (fun h12 => ?_)
    · have hb := lt0_hasI (n := 11) h12
      refine r_iconst (pc' := 31) (v := (-1)) dX6_odds_30 rfl rfl ?_
      refine r_ireturn dX6_odds_31 rfl ?_
      refine px_eq hQ ?_
      first | (simp [oddsR, h8]; done) | (simp [oddsR, hb]; done) | (simp [oddsR, hc]; done)
    · skip
      refine r_iload_n (pc' := 16) dX6_odds_15 rfl rfl ?_
      refine r_bipush (pc' := 18) (v := nI 10) dX6_odds_16 rfl rfl ?_
      refine r_icmp_gt (pc' := 21) (P := (nI 10) < b) (tgt := 30) dX6_odds_18 (by decide) rfl (Iff.rfl) (fun h18 => ?_) (fun h18 => ?_)
      · have hb := gt_hasI (n := 10) (by omega) h18
        refine r_iconst (pc' := 31) (v := (-1)) dX6_odds_30 rfl rfl ?_
        refine r_ireturn dX6_odds_31 rfl ?_
        refine px_eq hQ ?_
        first | (simp [oddsR, h8]; done) | (simp [oddsR, hb]; done) | (simp [oddsR, hc]; done)
      · have h18' := ngt_hasI (n := 10) (by omega) h12 h18
        obtain ⟨x, hx, rfl⟩ := hasI_t h18' (by omega)
        refine r_iload_n (pc' := 22) dX6_odds_21 rfl rfl ?_
        refine r_if_lt (pc' := 25) (P := c < 0) (tgt := 30) dX6_odds_22 (by decide) rfl (Iff.rfl) (fun h22 => ?_) (fun h22 => ?_)
        · have hc := lt0_hasI (n := 2) h22
          refine r_iconst (pc' := 31) (v := (-1)) dX6_odds_30 rfl rfl ?_
          refine r_ireturn dX6_odds_31 rfl ?_
          refine px_eq hQ ?_
          first | (simp [oddsR, h8]; done) | (simp [oddsR, hb]; done) | (simp [oddsR, hc]; done)
        · skip
          refine r_iload_n (pc' := 26) dX6_odds_25 rfl rfl ?_
          refine r_iconst (pc' := 27) (v := nI 1) dX6_odds_26 rfl rfl ?_
          refine r_icmp_le (pc' := 30) (P := c ≤ (nI 1)) (tgt := 32) dX6_odds_27 (by decide) rfl (Iff.rfl) (fun h27 => ?_) (fun h27 => ?_)
          · have h27' := ngt_hasI (n := 1) (by omega) h22 (by simpa using h27)
            obtain ⟨k, hk, rfl⟩ := hasI_t h27' (by omega)
            refine r_bipush (pc' := 34) (v := nI 10) dX6_odds_32 rfl rfl ?_
            refine r_iload_n (pc' := 35) dX6_odds_34 rfl rfl ?_
            refine r_isub (pc' := 36) (v := nI (10 - x)) dX6_odds_35 rfl (pk_sub (a := 10) (b := x) (by omega)) ?_
            refine r_istore (pc' := 38) (lo' := [some (.ref 0), some (.int (nI d)), some (.int (nI x)), some (.int (nI k)), some (.int (nI (10 - x))), none, none, none]) dX6_odds_36 rfl (by decide) rfl ?_
            refine r_iload_n (pc' := 39) dX6_odds_38 rfl rfl ?_
            refine r_if_ne (pc' := 42) (P := k = 0) (tgt := 47) dX6_odds_39 (by decide) rfl (nI_eq0 (n := k) (by omega)) (fun h39 => ?_) (fun h39 => ?_)
            · skip
              refine r_bipush (pc' := 49) (v := nI 10) dX6_odds_47 rfl rfl ?_
              refine r_iload (pc' := 51) dX6_odds_49 rfl rfl ?_
              refine r_bipush (pc' := 53) (v := nI 10) dX6_odds_51 rfl rfl ?_
              refine r_callS (pc' := 56) (av := [.int (nI (10 - x)), .int (nI 10)]) (rest := [.int (nI 10)]) kX6_commonPart vX6_commonPart lX6_181 dX6_odds_53 rfl rfl rfl ⟨by decide, by decide, by decide⟩ rfl rfl (Nat.le_of_ble_eq_true rfl) (ct_X6_commonPart (a := 10 - x) (b := 10) (by omega) (by omega) ?_)
              show Wp g yX6_odds cX6_odds 8 (some .int) 6 0 0 (px_MQ g Q 0 0) 0 0 56 [some (.ref 0), some (.int (nI d)), some (.int (nI x)), some (.int (nI k)), some (.int (nI (10 - x))), none, none, none] [.int (nI (cmp (10 - x) 10)), .int (nI 10)] w
              have e53 := cpL_pos (10 - x) 10 (if 10 - x < 10 then 10 else 10 - x)
              have e53' : 1 ≤ cmp (10 - x) 10 := e53
              have e53'' : cmp (10 - x) 10 < 2 ^ 21 := by have h := cpL_le (10 - x) 10 (if 10 - x < 10 then 10 else 10 - x); have h' : cmp (10 - x) 10 ≤ (if 10 - x < 10 then 10 else 10 - x) + 1 := h; split at h' <;> omega
              refine r_callS (pc' := 59) (av := [.int (nI 10), .int (nI (cmp (10 - x) 10))]) (rest := []) kX6_inLeastTerms vX6_inLeastTerms lX6_184 dX6_odds_56 rfl rfl rfl ⟨by decide, by decide, by decide⟩ rfl rfl (Nat.le_of_ble_eq_true rfl) (ct_X6_inLeastTerms (n := 10) (c := cmp (10 - x) 10) (by omega) (by omega) (by omega) ?_)
              show Wp g yX6_odds cX6_odds 8 (some .int) 6 0 0 (px_MQ g Q 0 0) 0 0 59 [some (.ref 0), some (.int (nI d)), some (.int (nI x)), some (.int (nI k)), some (.int (nI (10 - x))), none, none, none] [.int (nI (10 / (cmp (10 - x) 10)))] w
              refine r_istore (pc' := 61) (lo' := [some (.ref 0), some (.int (nI d)), some (.int (nI x)), some (.int (nI k)), some (.int (nI (10 - x))), some (.int (nI (10 / (cmp (10 - x) 10)))), none, none]) dX6_odds_59 rfl (by decide) rfl ?_
              refine r_iconst (pc' := 62) (v := nI 1) dX6_odds_61 rfl rfl ?_
              refine r_istore (pc' := 64) (lo' := [some (.ref 0), some (.int (nI d)), some (.int (nI x)), some (.int (nI k)), some (.int (nI (10 - x))), some (.int (nI (10 / (cmp (10 - x) 10)))), some (.int (nI 1)), none]) dX6_odds_62 rfl (by decide) rfl ?_
              refine r_iconst (pc' := 65) (v := nI 0) dX6_odds_64 rfl rfl ?_
              refine r_istore (pc' := 67) (lo' := [some (.ref 0), some (.int (nI d)), some (.int (nI x)), some (.int (nI k)), some (.int (nI (10 - x))), some (.int (nI (10 / (cmp (10 - x) 10)))), some (.int (nI 1)), some (.int (nI 0))]) dX6_odds_65 rfl (by decide) rfl ?_
              obtain ⟨p, hp⟩ : ∃ p, p = 10 / (cmp (10 - x) 10) := ⟨_, rfl⟩
              rw [← hp]
              have L67 : ∀ (fu : Nat) (j : Nat), tG T - j < fu → j ≤ tG T → Wp g yX6_odds cX6_odds 8 (some .int) 6 0 0 (px_MQ g Q 0 0) 0 0 67 [some (.ref 0), some (.int (nI d)), some (.int (nI x)), some (.int (nI k)), some (.int (nI (10 - x))), some (.int (nI p)), some (.int (nI (p ^ cnt (fun j => canSp T M j d) j))), some (.int (nI j))] [] w := by
                intro fu; induction fu with
                | zero => intro j hm; exact absurd hm (Nat.not_lt_zero _)
                | succ fu ih =>
                  intro j hm hj
                  have ih67 := ih; clear ih
                  refine r_iload (pc' := 69) dX6_odds_67 rfl rfl ?_
                  refine r_aload_n (pc' := 70) dX6_odds_69 rfl rfl ?_
                  refine r_get (pc' := 73) fX6_19 dX6_odds_70 rfl hX rfl ?_
                  refine r_getN (pc' := 76) fX6_166 dX6_odds_73 rfl hT.o rfl ?_
                  refine r_icmp_ge (pc' := 79) (P := tG T ≤ j) (tgt := 102) dX6_odds_76 (by decide) rfl (nI_leI (a := tG T) (b := j) (by omega) (by omega)) (fun h76 => ?_) (fun h76 => ?_)
                  · have hj2 : j = tG T := by omega
                    subst hj2
                    refine r_iload (pc' := 104) dX6_odds_102 rfl rfl ?_
                    refine r_ireturn dX6_odds_104 rfl ?_
                    refine px_eq hQ ?_
                    have hn := cnt_le (fun j => canSp T M j d) (tG T)
                    have ho := odds_eq x hx (cnt (fun j => canSp T M j d) (tG T)) (by omega)
                    rw [oddsR, h8', h18', h27', nI_cl (show d < 2 ^ 31 by omega), nI_cl (show x < 2 ^ 31 by omega), nI_cl (show k < 2 ^ 31 by omega)]
                    first | (rw [hp, ho.1, h39]; rfl) | (rw [hp, ho.2, show k = 1 by omega]; rfl)
                  · skip
                    refine r_aload_n (pc' := 80) dX6_odds_79 rfl rfl ?_
                    refine r_iload (pc' := 82) dX6_odds_80 rfl rfl ?_
                    refine r_iload_n (pc' := 83) dX6_odds_82 rfl rfl ?_
                    refine r_callV (pc' := 86) (av := [.int (nI j), .int (nI d)]) (rest := []) kX6_canSpoil vX6_canSpoil lX6_209 dX6_odds_83 rfl hX rfl rfl rfl ⟨by decide, by decide, by decide⟩ rfl rfl (Nat.le_of_ble_eq_true rfl) (ct_X6_canSpoil hX hT hO hM (j := j) (d := d) (by omega) (by omega) ?_)
                    show Wp g yX6_odds cX6_odds 8 (some .int) 6 0 0 (px_MQ g Q 0 0) 0 0 86 [some (.ref 0), some (.int (nI d)), some (.int (nI x)), some (.int (nI k)), some (.int (nI (10 - x))), some (.int (nI p)), some (.int (nI (p ^ cnt (fun j => canSp T M j d) j))), some (.int (nI j))] [.int (bI (canSp T M j d))] w
                    refine r_if_eq (pc' := 89) (P := (canSp T M j d) = false) (tgt := 96) dX6_odds_86 (by decide) rfl (bI_0) (fun h86 => ?_) (fun h86 => ?_)
                    · skip
                      refine r_iinc (pc' := 99) (lo' := [some (.ref 0), some (.int (nI d)), some (.int (nI x)), some (.int (nI k)), some (.int (nI (10 - x))), some (.int (nI p)), some (.int (nI (p ^ cnt (fun j => canSp T M j d) j))), some (.int (nI (j + 1)))]) dX6_odds_96 rfl (by decide) rfl (nI_add j 1) rfl ?_
                      refine r_goto (tgt := 67) dX6_odds_99 (by decide) ?_
                      rw [show p ^ cnt (fun j => canSp T M j d) j = p ^ cnt (fun j => canSp T M j d) (j + 1) by rw [← cnt_f (p := (fun j => canSp T M j d)) (n := j) h86]]
                      exact ih67 (j + 1) (by omega) (by omega)
                    · skip
                      refine r_iload (pc' := 91) dX6_odds_89 rfl rfl ?_
                      refine r_iload (pc' := 93) dX6_odds_91 rfl rfl ?_
                      refine r_imul (pc' := 94) (v := nI ((p ^ cnt (fun j => canSp T M j d) j) * p)) dX6_odds_93 rfl (pk_mul (p ^ cnt (fun j => canSp T M j d) j) p) ?_
                      refine r_istore (pc' := 96) (lo' := [some (.ref 0), some (.int (nI d)), some (.int (nI x)), some (.int (nI k)), some (.int (nI (10 - x))), some (.int (nI p)), some (.int (nI ((p ^ cnt (fun j => canSp T M j d) j) * p))), some (.int (nI j))]) dX6_odds_94 rfl (by decide) rfl ?_
                      refine r_iinc (pc' := 99) (lo' := [some (.ref 0), some (.int (nI d)), some (.int (nI x)), some (.int (nI k)), some (.int (nI (10 - x))), some (.int (nI p)), some (.int (nI ((p ^ cnt (fun j => canSp T M j d) j) * p))), some (.int (nI (j + 1)))]) dX6_odds_96 rfl (by decide) rfl (nI_add j 1) rfl ?_
                      refine r_goto (tgt := 67) dX6_odds_99 (by decide) ?_
                      rw [show (p ^ cnt (fun j => canSp T M j d) j) * p = p ^ cnt (fun j => canSp T M j d) (j + 1) by rw [← cnt_t (p := (fun j => canSp T M j d)) (n := j) (by simpa using h86), Nat.pow_succ]]
                      exact ih67 (j + 1) (by omega) (by omega)
              exact L67 ((tG T) + 1) 0 (Nat.lt_succ_self _) (by omega)
            · skip
              refine r_iload (pc' := 44) dX6_odds_42 rfl rfl ?_
              refine r_goto (tgt := 49) dX6_odds_44 (by decide) ?_
              refine r_iload (pc' := 51) dX6_odds_49 rfl rfl ?_
              refine r_bipush (pc' := 53) (v := nI 10) dX6_odds_51 rfl rfl ?_
              refine r_callS (pc' := 56) (av := [.int (nI (10 - x)), .int (nI 10)]) (rest := [.int (nI (10 - x))]) kX6_commonPart vX6_commonPart lX6_181 dX6_odds_53 rfl rfl rfl ⟨by decide, by decide, by decide⟩ rfl rfl (Nat.le_of_ble_eq_true rfl) (ct_X6_commonPart (a := 10 - x) (b := 10) (by omega) (by omega) ?_)
              show Wp g yX6_odds cX6_odds 8 (some .int) 6 0 0 (px_MQ g Q 0 0) 0 0 56 [some (.ref 0), some (.int (nI d)), some (.int (nI x)), some (.int (nI k)), some (.int (nI (10 - x))), none, none, none] [.int (nI (cmp (10 - x) 10)), .int (nI (10 - x))] w
              have e53 := cpL_pos (10 - x) 10 (if 10 - x < 10 then 10 else 10 - x)
              have e53' : 1 ≤ cmp (10 - x) 10 := e53
              have e53'' : cmp (10 - x) 10 < 2 ^ 21 := by have h := cpL_le (10 - x) 10 (if 10 - x < 10 then 10 else 10 - x); have h' : cmp (10 - x) 10 ≤ (if 10 - x < 10 then 10 else 10 - x) + 1 := h; split at h' <;> omega
              refine r_callS (pc' := 59) (av := [.int (nI (10 - x)), .int (nI (cmp (10 - x) 10))]) (rest := []) kX6_inLeastTerms vX6_inLeastTerms lX6_184 dX6_odds_56 rfl rfl rfl ⟨by decide, by decide, by decide⟩ rfl rfl (Nat.le_of_ble_eq_true rfl) (ct_X6_inLeastTerms (n := 10 - x) (c := cmp (10 - x) 10) (by omega) (by omega) (by omega) ?_)
              show Wp g yX6_odds cX6_odds 8 (some .int) 6 0 0 (px_MQ g Q 0 0) 0 0 59 [some (.ref 0), some (.int (nI d)), some (.int (nI x)), some (.int (nI k)), some (.int (nI (10 - x))), none, none, none] [.int (nI ((10 - x) / (cmp (10 - x) 10)))] w
              refine r_istore (pc' := 61) (lo' := [some (.ref 0), some (.int (nI d)), some (.int (nI x)), some (.int (nI k)), some (.int (nI (10 - x))), some (.int (nI ((10 - x) / (cmp (10 - x) 10)))), none, none]) dX6_odds_59 rfl (by decide) rfl ?_
              refine r_iconst (pc' := 62) (v := nI 1) dX6_odds_61 rfl rfl ?_
              refine r_istore (pc' := 64) (lo' := [some (.ref 0), some (.int (nI d)), some (.int (nI x)), some (.int (nI k)), some (.int (nI (10 - x))), some (.int (nI ((10 - x) / (cmp (10 - x) 10)))), some (.int (nI 1)), none]) dX6_odds_62 rfl (by decide) rfl ?_
              refine r_iconst (pc' := 65) (v := nI 0) dX6_odds_64 rfl rfl ?_
              refine r_istore (pc' := 67) (lo' := [some (.ref 0), some (.int (nI d)), some (.int (nI x)), some (.int (nI k)), some (.int (nI (10 - x))), some (.int (nI ((10 - x) / (cmp (10 - x) 10)))), some (.int (nI 1)), some (.int (nI 0))]) dX6_odds_65 rfl (by decide) rfl ?_
              obtain ⟨p, hp⟩ : ∃ p, p = (10 - x) / (cmp (10 - x) 10) := ⟨_, rfl⟩
              rw [← hp]
              have L67 : ∀ (fu : Nat) (j : Nat), tG T - j < fu → j ≤ tG T → Wp g yX6_odds cX6_odds 8 (some .int) 6 0 0 (px_MQ g Q 0 0) 0 0 67 [some (.ref 0), some (.int (nI d)), some (.int (nI x)), some (.int (nI k)), some (.int (nI (10 - x))), some (.int (nI p)), some (.int (nI (p ^ cnt (fun j => canSp T M j d) j))), some (.int (nI j))] [] w := by
                intro fu; induction fu with
                | zero => intro j hm; exact absurd hm (Nat.not_lt_zero _)
                | succ fu ih =>
                  intro j hm hj
                  have ih67 := ih; clear ih
                  refine r_iload (pc' := 69) dX6_odds_67 rfl rfl ?_
                  refine r_aload_n (pc' := 70) dX6_odds_69 rfl rfl ?_
                  refine r_get (pc' := 73) fX6_19 dX6_odds_70 rfl hX rfl ?_
                  refine r_getN (pc' := 76) fX6_166 dX6_odds_73 rfl hT.o rfl ?_
                  refine r_icmp_ge (pc' := 79) (P := tG T ≤ j) (tgt := 102) dX6_odds_76 (by decide) rfl (nI_leI (a := tG T) (b := j) (by omega) (by omega)) (fun h76 => ?_) (fun h76 => ?_)
                  · have hj2 : j = tG T := by omega
                    subst hj2
                    refine r_iload (pc' := 104) dX6_odds_102 rfl rfl ?_
                    refine r_ireturn dX6_odds_104 rfl ?_
                    refine px_eq hQ ?_
                    have hn := cnt_le (fun j => canSp T M j d) (tG T)
                    have ho := odds_eq x hx (cnt (fun j => canSp T M j d) (tG T)) (by omega)
                    rw [oddsR, h8', h18', h27', nI_cl (show d < 2 ^ 31 by omega), nI_cl (show x < 2 ^ 31 by omega), nI_cl (show k < 2 ^ 31 by omega)]
                    first | (rw [hp, ho.1, h39]; rfl) | (rw [hp, ho.2, show k = 1 by omega]; rfl)
                  · skip
                    refine r_aload_n (pc' := 80) dX6_odds_79 rfl rfl ?_
                    refine r_iload (pc' := 82) dX6_odds_80 rfl rfl ?_
                    refine r_iload_n (pc' := 83) dX6_odds_82 rfl rfl ?_
                    refine r_callV (pc' := 86) (av := [.int (nI j), .int (nI d)]) (rest := []) kX6_canSpoil vX6_canSpoil lX6_209 dX6_odds_83 rfl hX rfl rfl rfl ⟨by decide, by decide, by decide⟩ rfl rfl (Nat.le_of_ble_eq_true rfl) (ct_X6_canSpoil hX hT hO hM (j := j) (d := d) (by omega) (by omega) ?_)
                    show Wp g yX6_odds cX6_odds 8 (some .int) 6 0 0 (px_MQ g Q 0 0) 0 0 86 [some (.ref 0), some (.int (nI d)), some (.int (nI x)), some (.int (nI k)), some (.int (nI (10 - x))), some (.int (nI p)), some (.int (nI (p ^ cnt (fun j => canSp T M j d) j))), some (.int (nI j))] [.int (bI (canSp T M j d))] w
                    refine r_if_eq (pc' := 89) (P := (canSp T M j d) = false) (tgt := 96) dX6_odds_86 (by decide) rfl (bI_0) (fun h86 => ?_) (fun h86 => ?_)
                    · skip
                      refine r_iinc (pc' := 99) (lo' := [some (.ref 0), some (.int (nI d)), some (.int (nI x)), some (.int (nI k)), some (.int (nI (10 - x))), some (.int (nI p)), some (.int (nI (p ^ cnt (fun j => canSp T M j d) j))), some (.int (nI (j + 1)))]) dX6_odds_96 rfl (by decide) rfl (nI_add j 1) rfl ?_
                      refine r_goto (tgt := 67) dX6_odds_99 (by decide) ?_
                      rw [show p ^ cnt (fun j => canSp T M j d) j = p ^ cnt (fun j => canSp T M j d) (j + 1) by rw [← cnt_f (p := (fun j => canSp T M j d)) (n := j) h86]]
                      exact ih67 (j + 1) (by omega) (by omega)
                    · skip
                      refine r_iload (pc' := 91) dX6_odds_89 rfl rfl ?_
                      refine r_iload (pc' := 93) dX6_odds_91 rfl rfl ?_
                      refine r_imul (pc' := 94) (v := nI ((p ^ cnt (fun j => canSp T M j d) j) * p)) dX6_odds_93 rfl (pk_mul (p ^ cnt (fun j => canSp T M j d) j) p) ?_
                      refine r_istore (pc' := 96) (lo' := [some (.ref 0), some (.int (nI d)), some (.int (nI x)), some (.int (nI k)), some (.int (nI (10 - x))), some (.int (nI p)), some (.int (nI ((p ^ cnt (fun j => canSp T M j d) j) * p))), some (.int (nI j))]) dX6_odds_94 rfl (by decide) rfl ?_
                      refine r_iinc (pc' := 99) (lo' := [some (.ref 0), some (.int (nI d)), some (.int (nI x)), some (.int (nI k)), some (.int (nI (10 - x))), some (.int (nI p)), some (.int (nI ((p ^ cnt (fun j => canSp T M j d) j) * p))), some (.int (nI (j + 1)))]) dX6_odds_96 rfl (by decide) rfl (nI_add j 1) rfl ?_
                      refine r_goto (tgt := 67) dX6_odds_99 (by decide) ?_
                      rw [show (p ^ cnt (fun j => canSp T M j d) j) * p = p ^ cnt (fun j => canSp T M j d) (j + 1) by rw [← cnt_t (p := (fun j => canSp T M j d)) (n := j) (by simpa using h86), Nat.pow_succ]]
                      exact ih67 (j + 1) (by omega) (by omega)
              exact L67 ((tG T) + 1) 0 (Nat.lt_succ_self _) (by omega)
          · have hc := gt_hasI (n := 1) (by omega) (by simpa using h27)
            refine r_iconst (pc' := 31) (v := (-1)) dX6_odds_30 rfl rfl ?_
            refine r_ireturn dX6_odds_31 rfl ?_
            refine px_eq hQ ?_
            first | (simp [oddsR, h8]; done) | (simp [oddsR, hb]; done) | (simp [oddsR, hc]; done)
