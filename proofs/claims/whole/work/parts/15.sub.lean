set_option maxHeartbeats 200000 in
theorem ct_X5_hasWord {g : px_G} {w : px_W} {Q : px_Q} {k : Nat} {T : px_T} (hT : SubA w k T) {a : Int32} (hQ : Q (some (.int (bI (hasI a (tW T))))) w) : Ct g yX5_hasWord cX5_hasWord 2 (some .boolean) 1 0 0 [.ref k, .int a] w Q := by
  refine Ct.of kX5_hasWord (by omega) (lo := [some (.ref k), some (.int a)]) rfl (px_cat1 rfl) (Nat.le_of_ble_eq_true rfl) ?_
  obtain ⟨fl, fw, fs, fd, fg, s0, s1, s2, s3, s4, s5, sW, sL, sD, sG, ⟨sb1, sb2, sb3⟩, sb4, sb5⟩ := id hT
  refine r_iload_n (pc' := 1) dX5_hasWord_0 rfl rfl ?_
  refine r_if_lt (pc' := 4) (P := a < 0) (tgt := 16) dX5_hasWord_1 (by decide) rfl (Iff.rfl) (fun h1 => ?_) (fun h1 => ?_)
  · skip
    refine r_iconst (pc' := 17) (v := bI false) dX5_hasWord_16 rfl rfl ?_
    refine r_zreturn dX5_hasWord_17 rfl (bI_nar _) ?_
    first | exact px_eqB hQ (lt0_hasI h1).symm | exact px_eqB hQ (ge_hasI (by omega) h9).symm | exact px_eqB hQ (in_hasI (by omega) h1 h9).symm
  · skip
    refine r_iload_n (pc' := 5) dX5_hasWord_4 rfl rfl ?_
    refine r_aload_n (pc' := 6) dX5_hasWord_5 rfl rfl ?_
    refine r_get (pc' := 9) fX5_27 dX5_hasWord_6 rfl s0 rfl ?_
    refine r_icmp_ge (pc' := 12) (P := (nI (tW T)) ≤ a) (tgt := 16) dX5_hasWord_9 (by decide) rfl (Iff.rfl) (fun h9 => ?_) (fun h9 => ?_)
    · skip
      refine r_iconst (pc' := 17) (v := bI false) dX5_hasWord_16 rfl rfl ?_
      refine r_zreturn dX5_hasWord_17 rfl (bI_nar _) ?_
      first | exact px_eqB hQ (lt0_hasI h1).symm | exact px_eqB hQ (ge_hasI (by omega) h9).symm | exact px_eqB hQ (in_hasI (by omega) h1 h9).symm
    · skip
      refine r_iconst (pc' := 13) (v := bI true) dX5_hasWord_12 rfl rfl ?_
      refine r_goto (tgt := 17) dX5_hasWord_13 (by decide) ?_
      refine r_zreturn dX5_hasWord_17 rfl (bI_nar _) ?_
      first | exact px_eqB hQ (lt0_hasI h1).symm | exact px_eqB hQ (ge_hasI (by omega) h9).symm | exact px_eqB hQ (in_hasI (by omega) h1 h9).symm
set_option maxHeartbeats 200000 in
theorem ct_X5_hasDrive {g : px_G} {w : px_W} {Q : px_Q} {k : Nat} {T : px_T} (hT : SubA w k T) {a : Int32} (hQ : Q (some (.int (bI (hasI a (tD T))))) w) : Ct g yX5_hasDrive cX5_hasDrive 2 (some .boolean) 1 0 0 [.ref k, .int a] w Q := by
  refine Ct.of kX5_hasDrive (by omega) (lo := [some (.ref k), some (.int a)]) rfl (px_cat1 rfl) (Nat.le_of_ble_eq_true rfl) ?_
  obtain ⟨fl, fw, fs, fd, fg, s0, s1, s2, s3, s4, s5, sW, sL, sD, sG, ⟨sb1, sb2, sb3⟩, sb4, sb5⟩ := id hT
  refine r_iload_n (pc' := 1) dX5_hasDrive_0 rfl rfl ?_
  refine r_if_lt (pc' := 4) (P := a < 0) (tgt := 16) dX5_hasDrive_1 (by decide) rfl (Iff.rfl) (fun h1 => ?_) (fun h1 => ?_)
  · skip
    refine r_iconst (pc' := 17) (v := bI false) dX5_hasDrive_16 rfl rfl ?_
    refine r_zreturn dX5_hasDrive_17 rfl (bI_nar _) ?_
    first | exact px_eqB hQ (lt0_hasI h1).symm | exact px_eqB hQ (ge_hasI (by omega) h9).symm | exact px_eqB hQ (in_hasI (by omega) h1 h9).symm
  · skip
    refine r_iload_n (pc' := 5) dX5_hasDrive_4 rfl rfl ?_
    refine r_aload_n (pc' := 6) dX5_hasDrive_5 rfl rfl ?_
    refine r_get (pc' := 9) fX5_31 dX5_hasDrive_6 rfl s0 rfl ?_
    refine r_icmp_ge (pc' := 12) (P := (nI (tD T)) ≤ a) (tgt := 16) dX5_hasDrive_9 (by decide) rfl (Iff.rfl) (fun h9 => ?_) (fun h9 => ?_)
    · skip
      refine r_iconst (pc' := 17) (v := bI false) dX5_hasDrive_16 rfl rfl ?_
      refine r_zreturn dX5_hasDrive_17 rfl (bI_nar _) ?_
      first | exact px_eqB hQ (lt0_hasI h1).symm | exact px_eqB hQ (ge_hasI (by omega) h9).symm | exact px_eqB hQ (in_hasI (by omega) h1 h9).symm
    · skip
      refine r_iconst (pc' := 13) (v := bI true) dX5_hasDrive_12 rfl rfl ?_
      refine r_goto (tgt := 17) dX5_hasDrive_13 (by decide) ?_
      refine r_zreturn dX5_hasDrive_17 rfl (bI_nar _) ?_
      first | exact px_eqB hQ (lt0_hasI h1).symm | exact px_eqB hQ (ge_hasI (by omega) h9).symm | exact px_eqB hQ (in_hasI (by omega) h1 h9).symm
set_option maxHeartbeats 200000 in
theorem ct_X5_hasGoer {g : px_G} {w : px_W} {Q : px_Q} {k : Nat} {T : px_T} (hT : SubA w k T) {a : Int32} (hQ : Q (some (.int (bI (hasI a (tG T))))) w) : Ct g yX5_hasGoer cX5_hasGoer 2 (some .boolean) 1 0 0 [.ref k, .int a] w Q := by
  refine Ct.of kX5_hasGoer (by omega) (lo := [some (.ref k), some (.int a)]) rfl (px_cat1 rfl) (Nat.le_of_ble_eq_true rfl) ?_
  obtain ⟨fl, fw, fs, fd, fg, s0, s1, s2, s3, s4, s5, sW, sL, sD, sG, ⟨sb1, sb2, sb3⟩, sb4, sb5⟩ := id hT
  refine r_iload_n (pc' := 1) dX5_hasGoer_0 rfl rfl ?_
  refine r_if_lt (pc' := 4) (P := a < 0) (tgt := 16) dX5_hasGoer_1 (by decide) rfl (Iff.rfl) (fun h1 => ?_) (fun h1 => ?_)
  · skip
    refine r_iconst (pc' := 17) (v := bI false) dX5_hasGoer_16 rfl rfl ?_
    refine r_zreturn dX5_hasGoer_17 rfl (bI_nar _) ?_
    first | exact px_eqB hQ (lt0_hasI h1).symm | exact px_eqB hQ (ge_hasI (by omega) h9).symm | exact px_eqB hQ (in_hasI (by omega) h1 h9).symm
  · skip
    refine r_iload_n (pc' := 5) dX5_hasGoer_4 rfl rfl ?_
    refine r_aload_n (pc' := 6) dX5_hasGoer_5 rfl rfl ?_
    refine r_get (pc' := 9) fX5_34 dX5_hasGoer_6 rfl s0 rfl ?_
    refine r_icmp_ge (pc' := 12) (P := (nI (tG T)) ≤ a) (tgt := 16) dX5_hasGoer_9 (by decide) rfl (Iff.rfl) (fun h9 => ?_) (fun h9 => ?_)
    · skip
      refine r_iconst (pc' := 17) (v := bI false) dX5_hasGoer_16 rfl rfl ?_
      refine r_zreturn dX5_hasGoer_17 rfl (bI_nar _) ?_
      first | exact px_eqB hQ (lt0_hasI h1).symm | exact px_eqB hQ (ge_hasI (by omega) h9).symm | exact px_eqB hQ (in_hasI (by omega) h1 h9).symm
    · skip
      refine r_iconst (pc' := 13) (v := bI true) dX5_hasGoer_12 rfl rfl ?_
      refine r_goto (tgt := 17) dX5_hasGoer_13 (by decide) ?_
      refine r_zreturn dX5_hasGoer_17 rfl (bI_nar _) ?_
      first | exact px_eqB hQ (lt0_hasI h1).symm | exact px_eqB hQ (ge_hasI (by omega) h9).symm | exact px_eqB hQ (in_hasI (by omega) h1 h9).symm
set_option maxHeartbeats 200000 in
theorem ct_X5_longOfWord {g : px_G} {w : px_W} {Q : px_Q} {k : Nat} {T : px_T} (hT : SubA w k T) {i : Nat} (hi : i < tW T) (hQ : Q (some (.int (nI (tl T i)))) w) : Ct g yX5_longOfWord cX5_longOfWord 2 (some .int) 2 0 0 [.ref k, .int (nI i)] w Q := by
  refine Ct.of kX5_longOfWord (by omega) (lo := [some (.ref k), some (.int (nI i))]) rfl (px_cat1 rfl) (Nat.le_of_ble_eq_true rfl) ?_
  obtain ⟨fl, fw, fs, fd, fg, s0, s1, s2, s3, s4, s5, sW, sL, sD, sG, ⟨sb1, sb2, sb3⟩, sb4, sb5⟩ := id hT
  refine r_aload_n (pc' := 1) dX5_longOfWord_0 rfl rfl ?_
  refine r_get (pc' := 4) fX5_15 dX5_longOfWord_1 rfl s0 rfl ?_
  refine r_iload_n (pc' := 5) dX5_longOfWord_4 rfl rfl ?_
  refine r_callS (pc' := 8) (av := [.ref (k + 2), .int (nI i)]) (rest := []) kX3_at vX3_at lX5_51 dX5_longOfWord_5 rfl rfl rfl ⟨by decide, by decide, by decide⟩ rfl rfl (Nat.le_of_ble_eq_true rfl) (ct_X3_at s2 (by decide) (by omega) ((sW i hi).1) ?_)
  show Wp g yX5_longOfWord cX5_longOfWord 2 (some .int) 2 0 0 (px_MQ g Q 0 0) 0 0 8 [some (.ref k), some (.int (nI i))] [.int (nI (tl T i))] w
  refine r_ireturn dX5_longOfWord_8 rfl ?_
  exact hQ
set_option maxHeartbeats 200000 in
theorem ct_X5_saidOf {g : px_G} {w : px_W} {Q : px_Q} {k : Nat} {T : px_T} (hT : SubA w k T) {i : Nat} (hi : i < tW T) (hQ : Q (some (.int (nI (ts T i)))) w) : Ct g yX5_saidOf cX5_saidOf 2 (some .int) 2 0 0 [.ref k, .int (nI i)] w Q := by
  refine Ct.of kX5_saidOf (by omega) (lo := [some (.ref k), some (.int (nI i))]) rfl (px_cat1 rfl) (Nat.le_of_ble_eq_true rfl) ?_
  obtain ⟨fl, fw, fs, fd, fg, s0, s1, s2, s3, s4, s5, sW, sL, sD, sG, ⟨sb1, sb2, sb3⟩, sb4, sb5⟩ := id hT
  refine r_aload_n (pc' := 1) dX5_saidOf_0 rfl rfl ?_
  refine r_get (pc' := 4) fX5_18 dX5_saidOf_1 rfl s0 rfl ?_
  refine r_iload_n (pc' := 5) dX5_saidOf_4 rfl rfl ?_
  refine r_callS (pc' := 8) (av := [.ref (k + 3), .int (nI i)]) (rest := []) kX3_at vX3_at lX5_51 dX5_saidOf_5 rfl rfl rfl ⟨by decide, by decide, by decide⟩ rfl rfl (Nat.le_of_ble_eq_true rfl) (ct_X3_at s3 (by decide) (by omega) ((sW i hi).2) ?_)
  show Wp g yX5_saidOf cX5_saidOf 2 (some .int) 2 0 0 (px_MQ g Q 0 0) 0 0 8 [some (.ref k), some (.int (nI i))] [.int (nI (ts T i))] w
  refine r_ireturn dX5_saidOf_8 rfl ?_
  exact hQ
set_option maxHeartbeats 200000 in
theorem ct_X5_longOfDrive {g : px_G} {w : px_W} {Q : px_Q} {k : Nat} {T : px_T} (hT : SubA w k T) {i : Nat} (hi : i < tD T) (hQ : Q (some (.int (nI (td T i)))) w) : Ct g yX5_longOfDrive cX5_longOfDrive 2 (some .int) 2 0 0 [.ref k, .int (nI i)] w Q := by
  refine Ct.of kX5_longOfDrive (by omega) (lo := [some (.ref k), some (.int (nI i))]) rfl (px_cat1 rfl) (Nat.le_of_ble_eq_true rfl) ?_
  obtain ⟨fl, fw, fs, fd, fg, s0, s1, s2, s3, s4, s5, sW, sL, sD, sG, ⟨sb1, sb2, sb3⟩, sb4, sb5⟩ := id hT
  refine r_aload_n (pc' := 1) dX5_longOfDrive_0 rfl rfl ?_
  refine r_get (pc' := 4) fX5_21 dX5_longOfDrive_1 rfl s0 rfl ?_
  refine r_iload_n (pc' := 5) dX5_longOfDrive_4 rfl rfl ?_
  refine r_callS (pc' := 8) (av := [.ref (k + 4), .int (nI i)]) (rest := []) kX3_at vX3_at lX5_51 dX5_longOfDrive_5 rfl rfl rfl ⟨by decide, by decide, by decide⟩ rfl rfl (Nat.le_of_ble_eq_true rfl) (ct_X3_at s4 (by decide) (by omega) (sD i hi) ?_)
  show Wp g yX5_longOfDrive cX5_longOfDrive 2 (some .int) 2 0 0 (px_MQ g Q 0 0) 0 0 8 [some (.ref k), some (.int (nI i))] [.int (nI (td T i))] w
  refine r_ireturn dX5_longOfDrive_8 rfl ?_
  exact hQ
set_option maxHeartbeats 200000 in
theorem ct_X5_partOfGoer {g : px_G} {w : px_W} {Q : px_Q} {k : Nat} {T : px_T} (hT : SubA w k T) {i p : Nat} (hi : i < tG T) (hp : p < 4) (hQ : Q (some (.int (nI (tg T i p)))) w) : Ct g yX5_partOfGoer cX5_partOfGoer 3 (some .int) 2 0 0 [.ref k, .int (nI i), .int (nI p)] w Q := by
  refine Ct.of kX5_partOfGoer (by omega) (lo := [some (.ref k), some (.int (nI i)), some (.int (nI p))]) rfl (px_cat1 rfl) (Nat.le_of_ble_eq_true rfl) ?_
  obtain ⟨fl, fw, fs, fd, fg, s0, s1, s2, s3, s4, s5, sW, sL, sD, sG, ⟨sb1, sb2, sb3⟩, sb4, sb5⟩ := id hT
  refine r_aload_n (pc' := 1) dX5_partOfGoer_0 rfl rfl ?_
  refine r_get (pc' := 4) fX5_24 dX5_partOfGoer_1 rfl s0 rfl ?_
  refine r_iload_n (pc' := 5) dX5_partOfGoer_4 rfl rfl ?_
  refine r_iconst (pc' := 6) (v := nI 4) dX5_partOfGoer_5 rfl rfl ?_
  refine r_imul (pc' := 7) (v := nI (i * 4)) dX5_partOfGoer_6 rfl (pk_mul i 4) ?_
  refine r_iload_n (pc' := 8) dX5_partOfGoer_7 rfl rfl ?_
  refine r_iadd (pc' := 9) (v := nI (i * 4 + p)) dX5_partOfGoer_8 rfl (nI_add (i * 4) p) ?_
  refine r_callS (pc' := 12) (av := [.ref (k + 5), .int (nI (i * 4 + p))]) (rest := []) kX3_at vX3_at lX5_51 dX5_partOfGoer_9 rfl rfl rfl ⟨by decide, by decide, by decide⟩ rfl rfl (Nat.le_of_ble_eq_true rfl) (ct_X3_at s5 (by decide) (by omega) (sG i p hi hp) ?_)
  show Wp g yX5_partOfGoer cX5_partOfGoer 3 (some .int) 2 0 0 (px_MQ g Q 0 0) 0 0 12 [some (.ref k), some (.int (nI i)), some (.int (nI p))] [.int (nI (tg T i p))] w
  refine r_ireturn dX5_partOfGoer_12 rfl ?_
  exact hQ
set_option maxHeartbeats 200000 in
theorem ct_X5_contentOf {g : px_G} {w : px_W} {Q : px_Q} {k : Nat} {T : px_T} (hT : SubA w k T) {i x : Nat} (hi : i < tW T) (hx : x < 2 ^ 31) (hQ : Q (some (.int (nI (tc T i x)))) w) : Ct g yX5_contentOf cX5_contentOf 3 (some .int) 3 0 0 [.ref k, .int (nI i), .int (nI x)] w Q := by
  refine Ct.of kX5_contentOf (by omega) (lo := [some (.ref k), some (.int (nI i)), some (.int (nI x))]) rfl (px_cat1 rfl) (Nat.le_of_ble_eq_true rfl) ?_
  obtain ⟨fl, fw, fs, fd, fg, s0, s1, s2, s3, s4, s5, sW, sL, sD, sG, ⟨sb1, sb2, sb3⟩, sb4, sb5⟩ := id hT
  refine r_iload_n (pc' := 1) dX5_contentOf_0 rfl rfl ?_
  refine r_aload_n (pc' := 2) dX5_contentOf_1 rfl rfl ?_
  refine r_iload_n (pc' := 3) dX5_contentOf_2 rfl rfl ?_
  refine r_callV (pc' := 6) (av := [.int (nI i)]) (rest := [.int (nI x)]) kX5_longOfWord vX5_longOfWord lX5_55 dX5_contentOf_3 rfl s0 rfl rfl rfl ⟨by decide, by decide, by decide⟩ rfl rfl (Nat.le_of_ble_eq_true rfl) (ct_X5_longOfWord hT (i := i) hi ?_)
  show Wp g yX5_contentOf cX5_contentOf 3 (some .int) 3 0 0 (px_MQ g Q 0 0) 0 0 6 [some (.ref k), some (.int (nI i)), some (.int (nI x))] [.int (nI (tl T i)), .int (nI x)] w
  have e3 := sb4 i hi
  refine r_icmp_ge (pc' := 9) (P := tl T i ≤ x) (tgt := 25) dX5_contentOf_6 (by decide) rfl (nI_leI (a := tl T i) (b := x) (by omega) (by omega)) (fun h6 => ?_) (fun h6 => ?_)
  · skip
    refine r_bipush (pc' := 27) (v := nI 8) dX5_contentOf_25 rfl rfl ?_
    refine r_ireturn dX5_contentOf_27 rfl ?_
    first | exact hQ | exact px_eqN hQ (sb5 i x hi (by omega)).symm
  · skip
    refine r_aload_n (pc' := 10) dX5_contentOf_9 rfl rfl ?_
    refine r_get (pc' := 13) fX5_9 dX5_contentOf_10 rfl s0 rfl ?_
    refine r_iload_n (pc' := 14) dX5_contentOf_13 rfl rfl ?_
    refine r_bipush (pc' := 16) (v := nI 6) dX5_contentOf_14 rfl rfl ?_
    refine r_imul (pc' := 17) (v := nI (i * 6)) dX5_contentOf_16 rfl (pk_mul i 6) ?_
    refine r_iload_n (pc' := 18) dX5_contentOf_17 rfl rfl ?_
    refine r_iadd (pc' := 19) (v := nI (i * 6 + x)) dX5_contentOf_18 rfl (nI_add (i * 6) x) ?_
    refine r_callS (pc' := 22) (av := [.ref (k + 1), .int (nI (i * 6 + x))]) (rest := []) kX3_at vX3_at lX5_51 dX5_contentOf_19 rfl rfl rfl ⟨by decide, by decide, by decide⟩ rfl rfl (Nat.le_of_ble_eq_true rfl) (ct_X3_at s1 (by decide) (by omega) (sL i x hi (by omega)) ?_)
    show Wp g yX5_contentOf cX5_contentOf 3 (some .int) 3 0 0 (px_MQ g Q 0 0) 0 0 22 [some (.ref k), some (.int (nI i)), some (.int (nI x))] [.int (nI (tc T i x))] w
    refine r_goto (tgt := 27) dX5_contentOf_22 (by decide) ?_
    refine r_ireturn dX5_contentOf_27 rfl ?_
    first | exact hQ | exact px_eqN hQ (sb5 i x hi (by omega)).symm
theorem tc_le {T : px_T} (hO : TOK T) (hb : SubB T) {i x : Nat} (hi : i < tW T) : tc T i x ≤ 8 := by
  rcases Nat.lt_or_ge x (tl T i) with h | h
  · have := hO.2.1 i x hi h; omega
  · have := hb.2.2 i x hi h; omega
def hasC (T : px_T) (a b : Int32) : Bool := hasI a (tD T) && hasI b (td T a.toNatClampNeg)
set_option maxHeartbeats 200000 in
theorem ct_X5_hasCell {g : px_G} {w : px_W} {Q : px_Q} {k : Nat} {T : px_T} (hT : SubA w k T) (hO : TOK T) {a b : Int32} (hQ : Q (some (.int (bI (hasC T a b)))) w) : Ct g yX5_hasCell cX5_hasCell 3 (some .boolean) 3 0 0 [.ref k, .int a, .int b] w Q := by
  refine Ct.of kX5_hasCell (by omega) (lo := [some (.ref k), some (.int a), some (.int b)]) rfl (px_cat1 rfl) (Nat.le_of_ble_eq_true rfl) ?_
  obtain ⟨fl, fw, fs, fd, fg, s0, s1, s2, s3, s4, s5, sW, sL, sD, sG, ⟨sb1, sb2, sb3⟩, sb4, sb5⟩ := id hT
  refine r_aload_n (pc' := 1) dX5_hasCell_0 rfl rfl ?_
  refine r_iload_n (pc' := 2) dX5_hasCell_1 rfl rfl ?_
  refine r_callV (pc' := 5) (av := [.int a]) (rest := []) kX5_hasDrive vX5_hasDrive lX5_43 dX5_hasCell_2 rfl s0 rfl rfl rfl ⟨by decide, by decide, by decide⟩ rfl rfl (Nat.le_of_ble_eq_true rfl) (ct_X5_hasDrive hT ?_)
  show Wp g yX5_hasCell cX5_hasCell 3 (some .boolean) 3 0 0 (px_MQ g Q 0 0) 0 0 5 [some (.ref k), some (.int a), some (.int b)] [.int (bI (hasI a (tD T)))] w
  refine r_if_eq (pc' := 8) (P := (hasI a (tD T)) = false) (tgt := 25) dX5_hasCell_5 (by decide) rfl (bI_0) (fun h5 => ?_) (fun h5 => ?_)
  · skip
    refine r_iconst (pc' := 26) (v := bI false) dX5_hasCell_25 rfl rfl ?_
    refine r_zreturn dX5_hasCell_26 rfl (bI_nar _) ?_
    refine px_eqB hQ ?_
    first | (rw [hasC, h5]; rfl) | (rw [hasC, h5', nI_cl (by omega), lt0_hasI h9]; rfl) | (rw [hasC, h5', nI_cl (by omega), ge_hasI (by omega) h18]; rfl) | (rw [hasC, h5', nI_cl (by omega), in_hasI (by omega) h9 h18]; rfl)
  · have h5' : hasI a (tD T) = true := by simpa using h5
    obtain ⟨j, hj, rfl⟩ := hasI_t h5' (by omega)
    have e0 := hO.2.2.1 j hj
    refine r_iload_n (pc' := 9) dX5_hasCell_8 rfl rfl ?_
    refine r_if_lt (pc' := 12) (P := b < 0) (tgt := 25) dX5_hasCell_9 (by decide) rfl (Iff.rfl) (fun h9 => ?_) (fun h9 => ?_)
    · skip
      refine r_iconst (pc' := 26) (v := bI false) dX5_hasCell_25 rfl rfl ?_
      refine r_zreturn dX5_hasCell_26 rfl (bI_nar _) ?_
      refine px_eqB hQ ?_
      first | (rw [hasC, h5]; rfl) | (rw [hasC, h5', nI_cl (by omega), lt0_hasI h9]; rfl) | (rw [hasC, h5', nI_cl (by omega), ge_hasI (by omega) h18]; rfl) | (rw [hasC, h5', nI_cl (by omega), in_hasI (by omega) h9 h18]; rfl)
    · skip
      refine r_iload_n (pc' := 13) dX5_hasCell_12 rfl rfl ?_
      refine r_aload_n (pc' := 14) dX5_hasCell_13 rfl rfl ?_
      refine r_iload_n (pc' := 15) dX5_hasCell_14 rfl rfl ?_
      refine r_callV (pc' := 18) (av := [.int (nI j)]) (rest := [.int b]) kX5_longOfDrive vX5_longOfDrive lX5_47 dX5_hasCell_15 rfl s0 rfl rfl rfl ⟨by decide, by decide, by decide⟩ rfl rfl (Nat.le_of_ble_eq_true rfl) (ct_X5_longOfDrive hT (i := j) hj ?_)
      show Wp g yX5_hasCell cX5_hasCell 3 (some .boolean) 3 0 0 (px_MQ g Q 0 0) 0 0 18 [some (.ref k), some (.int (nI j)), some (.int b)] [.int (nI (td T j)), .int b] w
      refine r_icmp_ge (pc' := 21) (P := (nI (td T j)) ≤ b) (tgt := 25) dX5_hasCell_18 (by decide) rfl (Iff.rfl) (fun h18 => ?_) (fun h18 => ?_)
      · skip
        refine r_iconst (pc' := 26) (v := bI false) dX5_hasCell_25 rfl rfl ?_
        refine r_zreturn dX5_hasCell_26 rfl (bI_nar _) ?_
        refine px_eqB hQ ?_
        first | (rw [hasC, h5]; rfl) | (rw [hasC, h5', nI_cl (by omega), lt0_hasI h9]; rfl) | (rw [hasC, h5', nI_cl (by omega), ge_hasI (by omega) h18]; rfl) | (rw [hasC, h5', nI_cl (by omega), in_hasI (by omega) h9 h18]; rfl)
      · skip
        refine r_iconst (pc' := 22) (v := bI true) dX5_hasCell_21 rfl rfl ?_
        refine r_goto (tgt := 26) dX5_hasCell_22 (by decide) ?_
        refine r_zreturn dX5_hasCell_26 rfl (bI_nar _) ?_
        refine px_eqB hQ ?_
        first | (rw [hasC, h5]; rfl) | (rw [hasC, h5', nI_cl (by omega), lt0_hasI h9]; rfl) | (rw [hasC, h5', nI_cl (by omega), ge_hasI (by omega) h18]; rfl) | (rw [hasC, h5', nI_cl (by omega), in_hasI (by omega) h9 h18]; rfl)
set_option maxHeartbeats 200000 in
theorem ct_X5_wordsWith {g : px_G} {w : px_W} {Q : px_Q} {k : Nat} {T : px_T} (hT : SubA w k T) (hO : TOK T) {x c : Nat} (hx : x < 2 ^ 31) (hc : c < 2 ^ 31) (hQ : Q (some (.int (nI (bset (fun i => tc T i x == c) (tW T))))) w) : Ct g yX5_wordsWith cX5_wordsWith 5 (some .int) 4 0 0 [.ref k, .int (nI x), .int (nI c)] w Q := by
  refine Ct.of kX5_wordsWith (by omega) (lo := [some (.ref k), some (.int (nI x)), some (.int (nI c)), none, none]) rfl (px_cat1 rfl) (Nat.le_of_ble_eq_true rfl) ?_
  obtain ⟨fl, fw, fs, fd, fg, s0, s1, s2, s3, s4, s5, sW, sL, sD, sG, ⟨sb1, sb2, sb3⟩, sb4, sb5⟩ := id hT
  refine r_iconst (pc' := 1) (v := nI 0) dX5_wordsWith_0 rfl rfl ?_
  refine r_istore_n (pc' := 2) (lo' := [some (.ref k), some (.int (nI x)), some (.int (nI c)), some (.int (nI 0)), none]) dX5_wordsWith_1 rfl (by decide) rfl ?_
  refine r_iconst (pc' := 3) (v := nI 0) dX5_wordsWith_2 rfl rfl ?_
  refine r_istore (pc' := 5) (lo' := [some (.ref k), some (.int (nI x)), some (.int (nI c)), some (.int (nI 0)), some (.int (nI 0))]) dX5_wordsWith_3 rfl (by decide) rfl ?_
  have L5 : ∀ (fu : Nat) (j : Nat), tW T - j < fu → j ≤ tW T → Wp g yX5_wordsWith cX5_wordsWith 5 (some .int) 4 0 0 (px_MQ g Q 0 0) 0 0 5 [some (.ref k), some (.int (nI x)), some (.int (nI c)), some (.int (nI (bset (fun i => tc T i x == c) j))), some (.int (nI j))] [] w := by
    intro fu; induction fu with
    | zero => intro j hm; exact absurd hm (Nat.not_lt_zero _)
    | succ fu ih =>
      intro j hm hj
      have ih5 := ih; clear ih
      refine r_iload (pc' := 7) dX5_wordsWith_5 rfl rfl ?_
      refine r_aload_n (pc' := 8) dX5_wordsWith_7 rfl rfl ?_
      refine r_get (pc' := 11) fX5_27 dX5_wordsWith_8 rfl s0 rfl ?_
      refine r_icmp_ge (pc' := 14) (P := tW T ≤ j) (tgt := 38) dX5_wordsWith_11 (by decide) rfl (nI_leI (a := tW T) (b := j) (by omega) (by omega)) (fun h11 => ?_) (fun h11 => ?_)
      · have hj2 : j = tW T := by omega
        subst hj2
        refine r_iload_n (pc' := 39) dX5_wordsWith_38 rfl rfl ?_
        refine r_ireturn dX5_wordsWith_39 rfl ?_
        exact hQ
      · skip
        refine r_aload_n (pc' := 15) dX5_wordsWith_14 rfl rfl ?_
        refine r_iload (pc' := 17) dX5_wordsWith_15 rfl rfl ?_
        refine r_iload_n (pc' := 18) dX5_wordsWith_17 rfl rfl ?_
        refine r_callV (pc' := 21) (av := [.int (nI j), .int (nI x)]) (rest := []) kX5_contentOf vX5_contentOf lX5_58 dX5_wordsWith_18 rfl s0 rfl rfl rfl ⟨by decide, by decide, by decide⟩ rfl rfl (Nat.le_of_ble_eq_true rfl) (ct_X5_contentOf hT (i := j) (x := x) (by omega) (by omega) ?_)
        show Wp g yX5_wordsWith cX5_wordsWith 5 (some .int) 4 0 0 (px_MQ g Q 0 0) 0 0 21 [some (.ref k), some (.int (nI x)), some (.int (nI c)), some (.int (nI (bset (fun i => tc T i x == c) j))), some (.int (nI j))] [.int (nI (tc T j x))] w
        have e18 := tc_le hO ⟨⟨sb1, sb2, sb3⟩, sb4, sb5⟩ (i := j) (x := x) (by omega)
        refine r_iload_n (pc' := 22) dX5_wordsWith_21 rfl rfl ?_
        refine r_icmp_ne (pc' := 25) (P := tc T j x = c) (tgt := 32) dX5_wordsWith_22 (by decide) rfl (nI_eq (a := tc T j x) (b := c) (by omega) (by omega)) (fun h22 => ?_) (fun h22 => ?_)
        · skip
          refine r_iinc (pc' := 35) (lo' := [some (.ref k), some (.int (nI x)), some (.int (nI c)), some (.int (nI (bset (fun i => tc T i x == c) j))), some (.int (nI (j + 1)))]) dX5_wordsWith_32 rfl (by decide) rfl (nI_add j 1) rfl ?_
          refine r_goto (tgt := 5) dX5_wordsWith_35 (by decide) ?_
          first | rw [← bset_t (p := (fun i => tc T i x == c)) (by simpa using h22)] | rw [← bset_f (p := (fun i => tc T i x == c)) (by simpa using h22)]
          exact ih5 ((j + 1)) (by omega) (by omega)
        · skip
          refine r_iload_n (pc' := 26) dX5_wordsWith_25 rfl rfl ?_
          refine r_iconst (pc' := 27) (v := nI 1) dX5_wordsWith_26 rfl rfl ?_
          refine r_iload (pc' := 29) dX5_wordsWith_27 rfl rfl ?_
          refine r_ishl (pc' := 30) (v := nI (2 ^ j)) dX5_wordsWith_29 rfl (shl1_n (b := j) (by omega)) ?_
          refine r_ior (pc' := 31) (v := nI ((bset (fun i => tc T i x == c) j) ||| (2 ^ j))) dX5_wordsWith_30 rfl (or_n (bset (fun i => tc T i x == c) j) (2 ^ j)) ?_
          refine r_istore_n (pc' := 32) (lo' := [some (.ref k), some (.int (nI x)), some (.int (nI c)), some (.int (nI ((bset (fun i => tc T i x == c) j) ||| (2 ^ j)))), some (.int (nI j))]) dX5_wordsWith_31 rfl (by decide) rfl ?_
          refine r_iinc (pc' := 35) (lo' := [some (.ref k), some (.int (nI x)), some (.int (nI c)), some (.int (nI ((bset (fun i => tc T i x == c) j) ||| (2 ^ j)))), some (.int (nI (j + 1)))]) dX5_wordsWith_32 rfl (by decide) rfl (nI_add j 1) rfl ?_
          refine r_goto (tgt := 5) dX5_wordsWith_35 (by decide) ?_
          first | rw [← bset_t (p := (fun i => tc T i x == c)) (by simpa using h22)] | rw [← bset_f (p := (fun i => tc T i x == c)) (by simpa using h22)]
          exact ih5 ((j + 1)) (by omega) (by omega)
  exact L5 ((tW T) + 1) 0 (Nat.lt_succ_self _) (Nat.zero_le _)
def wgt (T : px_T) (bits : Nat) : Nat := nsum (fun i => if bits.testBit i then ts T i else 0) (tW T)
theorem wgt_le {T : px_T} (hO : TOK T) (hb : SubB T) (bits : Nat) : wgt T bits ≤ 54 := by
  have h : ∀ n, n ≤ tW T → nsum (fun i => if bits.testBit i then ts T i else 0) n ≤ n * 9 := by
    intro n; induction n with
    | zero => intro _; simp [nsum]
    | succ n ih =>
      intro hn
      have h1 := ih (by omega)
      have h2 := (hO.1 n (by omega))
      unfold nsum
      split <;> omega
  have h1 := h (tW T) (Nat.le_refl _)
  have h2 := hb.1.1
  unfold wgt; omega
set_option maxHeartbeats 200000 in
theorem ct_X5_weightOf {g : px_G} {w : px_W} {Q : px_Q} {k : Nat} {T : px_T} (hT : SubA w k T) (hO : TOK T) {bits : Nat} (hb : bits < 2 ^ 31) (hQ : Q (some (.int (nI (wgt T bits)))) w) : Ct g yX5_weightOf cX5_weightOf 4 (some .int) 3 0 0 [.ref k, .int (nI bits)] w Q := by
  refine Ct.of kX5_weightOf (by omega) (lo := [some (.ref k), some (.int (nI bits)), none, none]) rfl (px_cat1 rfl) (Nat.le_of_ble_eq_true rfl) ?_
  obtain ⟨fl, fw, fs, fd, fg, s0, s1, s2, s3, s4, s5, sW, sL, sD, sG, ⟨sb1, sb2, sb3⟩, sb4, sb5⟩ := id hT
  refine r_iconst (pc' := 1) (v := nI 0) dX5_weightOf_0 rfl rfl ?_
  refine r_istore_n (pc' := 2) (lo' := [some (.ref k), some (.int (nI bits)), some (.int (nI 0)), none]) dX5_weightOf_1 rfl (by decide) rfl ?_
  refine r_iconst (pc' := 3) (v := nI 0) dX5_weightOf_2 rfl rfl ?_
  refine r_istore_n (pc' := 4) (lo' := [some (.ref k), some (.int (nI bits)), some (.int (nI 0)), some (.int (nI 0))]) dX5_weightOf_3 rfl (by decide) rfl ?_
  have L4 : ∀ (fu : Nat) (j : Nat), tW T - j < fu → j ≤ tW T → Wp g yX5_weightOf cX5_weightOf 4 (some .int) 3 0 0 (px_MQ g Q 0 0) 0 0 4 [some (.ref k), some (.int (nI bits)), some (.int (nI (nsum (fun i => if bits.testBit i then ts T i else 0) j))), some (.int (nI j))] [] w := by
    intro fu; induction fu with
    | zero => intro j hm; exact absurd hm (Nat.not_lt_zero _)
    | succ fu ih =>
      intro j hm hj
      have ih4 := ih; clear ih
      refine r_iload_n (pc' := 5) dX5_weightOf_4 rfl rfl ?_
      refine r_aload_n (pc' := 6) dX5_weightOf_5 rfl rfl ?_
      refine r_get (pc' := 9) fX5_27 dX5_weightOf_6 rfl s0 rfl ?_
      refine r_icmp_ge (pc' := 12) (P := tW T ≤ j) (tgt := 38) dX5_weightOf_9 (by decide) rfl (nI_leI (a := tW T) (b := j) (by omega) (by omega)) (fun h9 => ?_) (fun h9 => ?_)
      · have hj2 : j = tW T := by omega
        subst hj2
        refine r_iload_n (pc' := 39) dX5_weightOf_38 rfl rfl ?_
        refine r_ireturn dX5_weightOf_39 rfl ?_
        exact hQ
      · skip
        refine r_iload_n (pc' := 13) dX5_weightOf_12 rfl rfl ?_
        refine r_iload_n (pc' := 14) dX5_weightOf_13 rfl rfl ?_
        refine r_iconst (pc' := 15) (v := nI 1) dX5_weightOf_14 rfl rfl ?_
        refine r_iload_n (pc' := 16) dX5_weightOf_15 rfl rfl ?_
        refine r_ishl (pc' := 17) (v := nI (2 ^ j)) dX5_weightOf_16 rfl (shl1_n (b := j) (by omega)) ?_
        refine r_iand (pc' := 18) (v := nI (bits &&& (2 ^ j))) dX5_weightOf_17 rfl (and_n bits (2 ^ j)) ?_
        refine r_if_eq (pc' := 21) (P := bits.testBit j = false) (tgt := 29) dX5_weightOf_18 (by decide) rfl ((nI_eq0 (n := bits &&& 2 ^ j) (and_lt31 hb)).trans (tb_and bits j)) (fun h18 => ?_) (fun h18 => ?_)
        · skip
          refine r_iconst (pc' := 30) (v := nI 0) dX5_weightOf_29 rfl rfl ?_
          refine r_iadd (pc' := 31) (v := nI (nsum (fun i => if bits.testBit i then ts T i else 0) j + 0)) dX5_weightOf_30 rfl (nI_add (nsum (fun i => if bits.testBit i then ts T i else 0) j) 0) ?_
          refine r_istore_n (pc' := 32) (lo' := [some (.ref k), some (.int (nI bits)), some (.int (nI (nsum (fun i => if bits.testBit i then ts T i else 0) j + 0))), some (.int (nI j))]) dX5_weightOf_31 rfl (by decide) rfl ?_
          refine r_iinc (pc' := 35) (lo' := [some (.ref k), some (.int (nI bits)), some (.int (nI (nsum (fun i => if bits.testBit i then ts T i else 0) j + 0))), some (.int (nI (j + 1)))]) dX5_weightOf_32 rfl (by decide) rfl (nI_add j 1) rfl ?_
          refine r_goto (tgt := 4) dX5_weightOf_35 (by decide) ?_
          have hx : nsum (fun i => if bits.testBit i then ts T i else 0) j + 0 = nsum (fun i => if bits.testBit i then ts T i else 0) (j + 1) := by simp [nsum, h18]
          rw [hx]
          exact ih4 ((j + 1)) (by omega) (by omega)
        · skip
          refine r_aload_n (pc' := 22) dX5_weightOf_21 rfl rfl ?_
          refine r_iload_n (pc' := 23) dX5_weightOf_22 rfl rfl ?_
          refine r_callV (pc' := 26) (av := [.int (nI j)]) (rest := [.int (nI (nsum (fun i => if bits.testBit i then ts T i else 0) j))]) kX5_saidOf vX5_saidOf lX5_62 dX5_weightOf_23 rfl s0 rfl rfl rfl ⟨by decide, by decide, by decide⟩ rfl rfl (Nat.le_of_ble_eq_true rfl) (ct_X5_saidOf hT (i := j) (by omega) ?_)
          show Wp g yX5_weightOf cX5_weightOf 4 (some .int) 3 0 0 (px_MQ g Q 0 0) 0 0 26 [some (.ref k), some (.int (nI bits)), some (.int (nI (nsum (fun i => if bits.testBit i then ts T i else 0) j))), some (.int (nI j))] [.int (nI (ts T j)), .int (nI (nsum (fun i => if bits.testBit i then ts T i else 0) j))] w
          have e23 := hO.1 j (by omega)
          refine r_goto (tgt := 30) dX5_weightOf_26 (by decide) ?_
          refine r_iadd (pc' := 31) (v := nI (nsum (fun i => if bits.testBit i then ts T i else 0) j + (ts T j))) dX5_weightOf_30 rfl (nI_add (nsum (fun i => if bits.testBit i then ts T i else 0) j) (ts T j)) ?_
          refine r_istore_n (pc' := 32) (lo' := [some (.ref k), some (.int (nI bits)), some (.int (nI (nsum (fun i => if bits.testBit i then ts T i else 0) j + (ts T j)))), some (.int (nI j))]) dX5_weightOf_31 rfl (by decide) rfl ?_
          refine r_iinc (pc' := 35) (lo' := [some (.ref k), some (.int (nI bits)), some (.int (nI (nsum (fun i => if bits.testBit i then ts T i else 0) j + (ts T j)))), some (.int (nI (j + 1)))]) dX5_weightOf_32 rfl (by decide) rfl (nI_add j 1) rfl ?_
          refine r_goto (tgt := 4) dX5_weightOf_35 (by decide) ?_
          have hx : nsum (fun i => if bits.testBit i then ts T i else 0) j + (ts T j) = nsum (fun i => if bits.testBit i then ts T i else 0) (j + 1) := by simp [nsum, h18]
          rw [hx]
          exact ih4 ((j + 1)) (by omega) (by omega)
  exact L4 ((tW T) + 1) 0 (Nat.lt_succ_self _) (Nat.zero_le _)
def vow (n : Nat) : Bool := n == 0 || n == 4
set_option maxHeartbeats 200000 in
theorem ct_X6_isVowel {g : px_G} {w : px_W} {Q : px_Q} {n : Nat} (hn : n < 2 ^ 31) (hQ : Q (some (.int (bI (vow n)))) w) : Ct g yX6_isVowel cX6_isVowel 1 (some .boolean) 1 0 0 [.int (nI n)] w Q := by
  refine Ct.of kX6_isVowel (by omega) (lo := [some (.int (nI n))]) rfl (px_cat1 rfl) (Nat.le_of_ble_eq_true rfl) ?_
  refine r_iload_n (pc' := 1) dX6_isVowel_0 rfl rfl ?_
  refine r_if_eq (pc' := 4) (P := n = 0) (tgt := 9) dX6_isVowel_1 (by decide) rfl (nI_eq0 (n := n) (by omega)) (fun h1 => ?_) (fun h1 => ?_)
  · skip
    refine r_iconst (pc' := 10) (v := bI true) dX6_isVowel_9 rfl rfl ?_
    refine r_goto (tgt := 14) dX6_isVowel_10 (by decide) ?_
    refine r_zreturn dX6_isVowel_14 rfl (bI_nar _) ?_
    refine px_eqB hQ ?_
    first | (simp [vow, h1]; done) | (simp [vow, h1, h6]; done)
  · skip
    refine r_iload_n (pc' := 5) dX6_isVowel_4 rfl rfl ?_
    refine r_iconst (pc' := 6) (v := nI 4) dX6_isVowel_5 rfl rfl ?_
    refine r_icmp_ne (pc' := 9) (P := n = 4) (tgt := 13) dX6_isVowel_6 (by decide) rfl (nI_eq (a := n) (b := 4) (by omega) (by omega)) (fun h6 => ?_) (fun h6 => ?_)
    · skip
      refine r_iconst (pc' := 14) (v := bI false) dX6_isVowel_13 rfl rfl ?_
      refine r_zreturn dX6_isVowel_14 rfl (bI_nar _) ?_
      refine px_eqB hQ ?_
      first | (simp [vow, h1]; done) | (simp [vow, h1, h6]; done)
    · skip
      refine r_iconst (pc' := 10) (v := bI true) dX6_isVowel_9 rfl rfl ?_
      refine r_goto (tgt := 14) dX6_isVowel_10 (by decide) ?_
      refine r_zreturn dX6_isVowel_14 rfl (bI_nar _) ?_
      refine px_eqB hQ ?_
      first | (simp [vow, h1]; done) | (simp [vow, h1, h6]; done)
def vwl (T : px_T) (i : Nat) : Nat := nsum (fun x => if vow (tc T i x) then 1 else 0) (tl T i)
set_option maxHeartbeats 200000 in
theorem ct_X5_vowelsOf {g : px_G} {w : px_W} {Q : px_Q} {k : Nat} {T : px_T} (hT : SubA w k T) (hO : TOK T) {i : Nat} (hi : i < tW T) (hQ : Q (some (.int (nI (vwl T i)))) w) : Ct g yX5_vowelsOf cX5_vowelsOf 5 (some .int) 4 0 0 [.ref k, .int (nI i)] w Q := by
  refine Ct.of kX5_vowelsOf (by omega) (lo := [some (.ref k), some (.int (nI i)), none, none, none]) rfl (px_cat1 rfl) (Nat.le_of_ble_eq_true rfl) ?_
  obtain ⟨fl, fw, fs, fd, fg, s0, s1, s2, s3, s4, s5, sW, sL, sD, sG, ⟨sb1, sb2, sb3⟩, sb4, sb5⟩ := id hT
  refine r_iconst (pc' := 1) (v := nI 0) dX5_vowelsOf_0 rfl rfl ?_
  refine r_istore_n (pc' := 2) (lo' := [some (.ref k), some (.int (nI i)), some (.int (nI 0)), none, none]) dX5_vowelsOf_1 rfl (by decide) rfl ?_
  refine r_aload_n (pc' := 3) dX5_vowelsOf_2 rfl rfl ?_
  refine r_iload_n (pc' := 4) dX5_vowelsOf_3 rfl rfl ?_
  refine r_callV (pc' := 7) (av := [.int (nI i)]) (rest := []) kX5_longOfWord vX5_longOfWord lX5_55 dX5_vowelsOf_4 rfl s0 rfl rfl rfl ⟨by decide, by decide, by decide⟩ rfl rfl (Nat.le_of_ble_eq_true rfl) (ct_X5_longOfWord hT (i := i) hi ?_)
  show Wp g yX5_vowelsOf cX5_vowelsOf 5 (some .int) 4 0 0 (px_MQ g Q 0 0) 0 0 7 [some (.ref k), some (.int (nI i)), some (.int (nI 0)), none, none] [.int (nI (tl T i))] w
  have e3 := sb4 i hi
  refine r_istore_n (pc' := 8) (lo' := [some (.ref k), some (.int (nI i)), some (.int (nI 0)), some (.int (nI (tl T i))), none]) dX5_vowelsOf_7 rfl (by decide) rfl ?_
  refine r_iconst (pc' := 9) (v := nI 0) dX5_vowelsOf_8 rfl rfl ?_
  refine r_istore (pc' := 11) (lo' := [some (.ref k), some (.int (nI i)), some (.int (nI 0)), some (.int (nI (tl T i))), some (.int (nI 0))]) dX5_vowelsOf_9 rfl (by decide) rfl ?_
  have L11 : ∀ (fu : Nat) (j : Nat), tl T i - j < fu → j ≤ tl T i → Wp g yX5_vowelsOf cX5_vowelsOf 5 (some .int) 4 0 0 (px_MQ g Q 0 0) 0 0 11 [some (.ref k), some (.int (nI i)), some (.int (nI (nsum (fun x => if vow (tc T i x) then 1 else 0) j))), some (.int (nI (tl T i))), some (.int (nI j))] [] w := by
    intro fu; induction fu with
    | zero => intro j hm; exact absurd hm (Nat.not_lt_zero _)
    | succ fu ih =>
      intro j hm hj
      have ih11 := ih; clear ih
      refine r_iload (pc' := 13) dX5_vowelsOf_11 rfl rfl ?_
      refine r_iload_n (pc' := 14) dX5_vowelsOf_13 rfl rfl ?_
      refine r_icmp_ge (pc' := 17) (P := tl T i ≤ j) (tgt := 44) dX5_vowelsOf_14 (by decide) rfl (nI_leI (a := tl T i) (b := j) (by omega) (by omega)) (fun h14 => ?_) (fun h14 => ?_)
      · have hj2 : j = tl T i := by omega
        subst hj2
        refine r_iload_n (pc' := 45) dX5_vowelsOf_44 rfl rfl ?_
        refine r_ireturn dX5_vowelsOf_45 rfl ?_
        exact hQ
      · skip
        refine r_iload_n (pc' := 18) dX5_vowelsOf_17 rfl rfl ?_
        refine r_aload_n (pc' := 19) dX5_vowelsOf_18 rfl rfl ?_
        refine r_iload_n (pc' := 20) dX5_vowelsOf_19 rfl rfl ?_
        refine r_iload (pc' := 22) dX5_vowelsOf_20 rfl rfl ?_
        refine r_callV (pc' := 25) (av := [.int (nI i), .int (nI j)]) (rest := [.int (nI (nsum (fun x => if vow (tc T i x) then 1 else 0) j))]) kX5_contentOf vX5_contentOf lX5_58 dX5_vowelsOf_22 rfl s0 rfl rfl rfl ⟨by decide, by decide, by decide⟩ rfl rfl (Nat.le_of_ble_eq_true rfl) (ct_X5_contentOf hT (i := i) (x := j) (by omega) (by omega) ?_)
        show Wp g yX5_vowelsOf cX5_vowelsOf 5 (some .int) 4 0 0 (px_MQ g Q 0 0) 0 0 25 [some (.ref k), some (.int (nI i)), some (.int (nI (nsum (fun x => if vow (tc T i x) then 1 else 0) j))), some (.int (nI (tl T i))), some (.int (nI j))] [.int (nI (tc T i j)), .int (nI (nsum (fun x => if vow (tc T i x) then 1 else 0) j))] w
        have e22 := tc_le hO ⟨⟨sb1, sb2, sb3⟩, sb4, sb5⟩ (i := i) (x := j) (by omega)
        refine r_callSN (pc' := 28) (av := [.int (nI (tc T i j))]) (rest := [.int (nI (nsum (fun x => if vow (tc T i x) then 1 else 0) j))]) kX6_isVowel vX6_isVowel lX5_65 dX5_vowelsOf_25 rfl rfl rfl ⟨by decide, by decide, by decide⟩ rfl rfl (Nat.le_of_ble_eq_true rfl) (ct_X6_isVowel (n := tc T i j) (by omega) ?_)
        show Wp g yX5_vowelsOf cX5_vowelsOf 5 (some .int) 4 0 0 (px_MQ g Q 0 0) 0 0 28 [some (.ref k), some (.int (nI i)), some (.int (nI (nsum (fun x => if vow (tc T i x) then 1 else 0) j))), some (.int (nI (tl T i))), some (.int (nI j))] [.int (bI (vow (tc T i j))), .int (nI (nsum (fun x => if vow (tc T i x) then 1 else 0) j))] w
        refine r_if_eq (pc' := 31) (P := (vow (tc T i j)) = false) (tgt := 35) dX5_vowelsOf_28 (by decide) rfl (bI_0) (fun h28 => ?_) (fun h28 => ?_)
        · skip
          refine r_iconst (pc' := 36) (v := nI 0) dX5_vowelsOf_35 rfl rfl ?_
          refine r_iadd (pc' := 37) (v := nI (nsum (fun x => if vow (tc T i x) then 1 else 0) j + 0)) dX5_vowelsOf_36 rfl (nI_add (nsum (fun x => if vow (tc T i x) then 1 else 0) j) 0) ?_
          refine r_istore_n (pc' := 38) (lo' := [some (.ref k), some (.int (nI i)), some (.int (nI (nsum (fun x => if vow (tc T i x) then 1 else 0) j + 0))), some (.int (nI (tl T i))), some (.int (nI j))]) dX5_vowelsOf_37 rfl (by decide) rfl ?_
          refine r_iinc (pc' := 41) (lo' := [some (.ref k), some (.int (nI i)), some (.int (nI (nsum (fun x => if vow (tc T i x) then 1 else 0) j + 0))), some (.int (nI (tl T i))), some (.int (nI (j + 1)))]) dX5_vowelsOf_38 rfl (by decide) rfl (nI_add j 1) rfl ?_
          refine r_goto (tgt := 11) dX5_vowelsOf_41 (by decide) ?_
          have hx : nsum (fun x => if vow (tc T i x) then 1 else 0) j + 0 = nsum (fun x => if vow (tc T i x) then 1 else 0) (j + 1) := by simp [nsum, h28]
          rw [hx]
          exact ih11 ((j + 1)) (by omega) (by omega)
        · skip
          refine r_iconst (pc' := 32) (v := nI 1) dX5_vowelsOf_31 rfl rfl ?_
          refine r_goto (tgt := 36) dX5_vowelsOf_32 (by decide) ?_
          refine r_iadd (pc' := 37) (v := nI (nsum (fun x => if vow (tc T i x) then 1 else 0) j + 1)) dX5_vowelsOf_36 rfl (nI_add (nsum (fun x => if vow (tc T i x) then 1 else 0) j) 1) ?_
          refine r_istore_n (pc' := 38) (lo' := [some (.ref k), some (.int (nI i)), some (.int (nI (nsum (fun x => if vow (tc T i x) then 1 else 0) j + 1))), some (.int (nI (tl T i))), some (.int (nI j))]) dX5_vowelsOf_37 rfl (by decide) rfl ?_
          refine r_iinc (pc' := 41) (lo' := [some (.ref k), some (.int (nI i)), some (.int (nI (nsum (fun x => if vow (tc T i x) then 1 else 0) j + 1))), some (.int (nI (tl T i))), some (.int (nI (j + 1)))]) dX5_vowelsOf_38 rfl (by decide) rfl (nI_add j 1) rfl ?_
          refine r_goto (tgt := 11) dX5_vowelsOf_41 (by decide) ?_
          have hx : nsum (fun x => if vow (tc T i x) then 1 else 0) j + 1 = nsum (fun x => if vow (tc T i x) then 1 else 0) (j + 1) := by simp [nsum, h28]
          rw [hx]
          exact ih11 ((j + 1)) (by omega) (by omega)
  exact L11 ((tl T i) + 1) 0 (Nat.lt_succ_self _) (Nat.zero_le _)
theorem vwl_le {T : px_T} (hb : SubB T) {i : Nat} (hi : i < tW T) : vwl T i ≤ tl T i := by
  have := nsum_le (f := fun x => if vow (tc T i x) then 1 else 0) (b := 1) (fun x => by split <;> omega) (tl T i)
  unfold vwl; omega
def bc1 (i : Int32) : Int32 := i - ((i.toUInt32 >>> ((1 : Int32).toUInt32 &&& Int32.toUInt32 31)).toInt32 &&& 1431655765)
def bc2 (i : Int32) : Int32 := (i &&& 858993459) + ((i.toUInt32 >>> ((2 : Int32).toUInt32 &&& Int32.toUInt32 31)).toInt32 &&& 858993459)
def bc3 (i : Int32) : Int32 := (i + (i.toUInt32 >>> ((4 : Int32).toUInt32 &&& Int32.toUInt32 31)).toInt32) &&& 252645135
def bc4 (i : Int32) : Int32 := i + (i.toUInt32 >>> ((8 : Int32).toUInt32 &&& Int32.toUInt32 31)).toInt32
def bc5 (i : Int32) : Int32 := i + (i.toUInt32 >>> ((16 : Int32).toUInt32 &&& Int32.toUInt32 31)).toInt32
theorem bc_ok : ∀ n, n < 256 → bc5 (bc4 (bc3 (bc2 (bc1 (nI n))))) &&& 63 = nI (popc n) := by decide +kernel
set_option maxHeartbeats 200000 in
theorem ct_J6_bitCount_0f7a4 {g : px_G} {w : px_W} {Q : px_Q} {n : Nat} (hn : n < 256) (hQ : Q (some (.int (nI (popc n)))) w) : Ct g yJ6_bitCount_0f7a4 cJ6_bitCount_0f7a4 1 (some .int) 1 0 0 [.int (nI n)] w Q := by
  refine Ct.of kJ6_bitCount_0f7a4 (by omega) (lo := [some (.int (nI n))]) rfl (px_cat1 rfl) (Nat.le_of_ble_eq_true rfl) ?_
  refine r_iload_n (pc' := 1) dJ6_bitCount_0f7a4_0 rfl rfl ?_
  refine r_iload_n (pc' := 2) dJ6_bitCount_0f7a4_1 rfl rfl ?_
  refine r_iconst (pc' := 3) (v := (1 : Int32)) dJ6_bitCount_0f7a4_2 rfl rfl ?_
  refine r_iushr (pc' := 4) (v := ((nI n).toUInt32 >>> (((1 : Int32)).toUInt32 &&& Int32.toUInt32 31)).toInt32) dJ6_bitCount_0f7a4_3 rfl (rfl) ?_
  refine r_ldcw (pc' := 7) dJ6_bitCount_0f7a4_4 rfl cnJ6_265 ?_
  refine r_iand (pc' := 8) (v := (((nI n).toUInt32 >>> (((1 : Int32)).toUInt32 &&& Int32.toUInt32 31)).toInt32) &&& 1431655765) dJ6_bitCount_0f7a4_7 rfl (rfl) ?_
  refine r_isub (pc' := 9) (v := bc1 (nI n)) dJ6_bitCount_0f7a4_8 rfl (rfl) ?_
  refine r_istore_n (pc' := 10) (lo' := [some (.int (bc1 (nI n)))]) dJ6_bitCount_0f7a4_9 rfl (by decide) rfl ?_
  refine r_iload_n (pc' := 11) dJ6_bitCount_0f7a4_10 rfl rfl ?_
  refine r_ldcw (pc' := 14) dJ6_bitCount_0f7a4_11 rfl cnJ6_266 ?_
  refine r_iand (pc' := 15) (v := (bc1 (nI n)) &&& 858993459) dJ6_bitCount_0f7a4_14 rfl (rfl) ?_
  refine r_iload_n (pc' := 16) dJ6_bitCount_0f7a4_15 rfl rfl ?_
  refine r_iconst (pc' := 17) (v := (2 : Int32)) dJ6_bitCount_0f7a4_16 rfl rfl ?_
  refine r_iushr (pc' := 18) (v := ((bc1 (nI n)).toUInt32 >>> (((2 : Int32)).toUInt32 &&& Int32.toUInt32 31)).toInt32) dJ6_bitCount_0f7a4_17 rfl (rfl) ?_
  refine r_ldcw (pc' := 21) dJ6_bitCount_0f7a4_18 rfl cnJ6_266 ?_
  refine r_iand (pc' := 22) (v := (((bc1 (nI n)).toUInt32 >>> (((2 : Int32)).toUInt32 &&& Int32.toUInt32 31)).toInt32) &&& 858993459) dJ6_bitCount_0f7a4_21 rfl (rfl) ?_
  refine r_iadd (pc' := 23) (v := bc2 (bc1 (nI n))) dJ6_bitCount_0f7a4_22 rfl (rfl) ?_
  refine r_istore_n (pc' := 24) (lo' := [some (.int (bc2 (bc1 (nI n))))]) dJ6_bitCount_0f7a4_23 rfl (by decide) rfl ?_
  refine r_iload_n (pc' := 25) dJ6_bitCount_0f7a4_24 rfl rfl ?_
  refine r_iload_n (pc' := 26) dJ6_bitCount_0f7a4_25 rfl rfl ?_
  refine r_iconst (pc' := 27) (v := (4 : Int32)) dJ6_bitCount_0f7a4_26 rfl rfl ?_
  refine r_iushr (pc' := 28) (v := ((bc2 (bc1 (nI n))).toUInt32 >>> (((4 : Int32)).toUInt32 &&& Int32.toUInt32 31)).toInt32) dJ6_bitCount_0f7a4_27 rfl (rfl) ?_
  refine r_iadd (pc' := 29) (v := bc2 (bc1 (nI n)) + (((bc2 (bc1 (nI n))).toUInt32 >>> (((4 : Int32)).toUInt32 &&& Int32.toUInt32 31)).toInt32)) dJ6_bitCount_0f7a4_28 rfl (rfl) ?_
  refine r_ldcw (pc' := 32) dJ6_bitCount_0f7a4_29 rfl cnJ6_267 ?_
  refine r_iand (pc' := 33) (v := bc3 (bc2 (bc1 (nI n)))) dJ6_bitCount_0f7a4_32 rfl (rfl) ?_
  refine r_istore_n (pc' := 34) (lo' := [some (.int (bc3 (bc2 (bc1 (nI n)))))]) dJ6_bitCount_0f7a4_33 rfl (by decide) rfl ?_
  refine r_iload_n (pc' := 35) dJ6_bitCount_0f7a4_34 rfl rfl ?_
  refine r_iload_n (pc' := 36) dJ6_bitCount_0f7a4_35 rfl rfl ?_
  refine r_bipush (pc' := 38) (v := (8 : Int32)) dJ6_bitCount_0f7a4_36 rfl rfl ?_
  refine r_iushr (pc' := 39) (v := ((bc3 (bc2 (bc1 (nI n)))).toUInt32 >>> (((8 : Int32)).toUInt32 &&& Int32.toUInt32 31)).toInt32) dJ6_bitCount_0f7a4_38 rfl (rfl) ?_
  refine r_iadd (pc' := 40) (v := bc4 (bc3 (bc2 (bc1 (nI n))))) dJ6_bitCount_0f7a4_39 rfl (rfl) ?_
  refine r_istore_n (pc' := 41) (lo' := [some (.int (bc4 (bc3 (bc2 (bc1 (nI n))))))]) dJ6_bitCount_0f7a4_40 rfl (by decide) rfl ?_
  refine r_iload_n (pc' := 42) dJ6_bitCount_0f7a4_41 rfl rfl ?_
  refine r_iload_n (pc' := 43) dJ6_bitCount_0f7a4_42 rfl rfl ?_
  refine r_bipush (pc' := 45) (v := (16 : Int32)) dJ6_bitCount_0f7a4_43 rfl rfl ?_
  refine r_iushr (pc' := 46) (v := ((bc4 (bc3 (bc2 (bc1 (nI n))))).toUInt32 >>> (((16 : Int32)).toUInt32 &&& Int32.toUInt32 31)).toInt32) dJ6_bitCount_0f7a4_45 rfl (rfl) ?_
  refine r_iadd (pc' := 47) (v := bc5 (bc4 (bc3 (bc2 (bc1 (nI n)))))) dJ6_bitCount_0f7a4_46 rfl (rfl) ?_
  refine r_istore_n (pc' := 48) (lo' := [some (.int (bc5 (bc4 (bc3 (bc2 (bc1 (nI n)))))))]) dJ6_bitCount_0f7a4_47 rfl (by decide) rfl ?_
  refine r_iload_n (pc' := 49) dJ6_bitCount_0f7a4_48 rfl rfl ?_
  refine r_bipush (pc' := 51) (v := (63 : Int32)) dJ6_bitCount_0f7a4_49 rfl rfl ?_
  refine r_iand (pc' := 52) (v := (bc5 (bc4 (bc3 (bc2 (bc1 (nI n)))))) &&& ((63 : Int32))) dJ6_bitCount_0f7a4_51 rfl (rfl) ?_
  refine r_ireturn dJ6_bitCount_0f7a4_52 rfl ?_
  exact px_eq hQ (bc_ok n hn)
