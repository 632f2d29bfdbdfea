set_option maxHeartbeats 200000 in
theorem ct_X7_count {g : px_G} {w : px_W} {Q : px_Q} {T : px_T} {M : px_N} {U : List px_N} {I : Nat → Option px_N} {n : Nat} {tx : Nat → Nat} {tr : Int64} (hS : MSx w T M U I n tx tr) (hO : TOK T) {a : Int32} (hQ : ∀ w', MSx w' T M U I n tx tr → Frm w w' 60 76 → Q (some (.int (countR T M U.length n a))) w') : Ct g yX7_count cX7_count 2 (some .int) 2 0 0 [.ref 60, .int a] w Q := by
  refine Ct.of kX7_count (by omega) (lo := [some (.ref 60), some (.int a)]) rfl (px_cat1 rfl) (Nat.le_of_ble_eq_true rfl) ?_
  obtain ⟨nx, tk, pl, va, fa, hX, hT, hM, hTx, hK, hU, hB⟩ := id hS
  obtain ⟨fm, fz, fl, fs, fd, g0, g1, g2, g3, ⟨c1, c2, c3, c4, c5, c6, c7, c8, c9⟩, ma, mz, ml, md, mg, ⟨sb1, sb2, sb3⟩, sb4, sb5⟩ := id hT
  obtain ⟨fn, cn, hf, mB1, mB2, mB3⟩ := id hM
  obtain ⟨fx, x1, x2, x3⟩ := id hTx
  obtain ⟨fk, bk, k1, k2, k3⟩ := id hK
  obtain ⟨fq, u1, u2⟩ := id hU
  have u3 := u2.1
  refine r_aload_n (pc' := 1) dX7_count_0 rfl rfl ?_
  refine r_iconst (pc' := 2) (v := nI 0) dX7_count_1 rfl rfl ?_
  refine r_put (pc' := 5) (ty := .int) (c' := .inr (6, [.int (nI 0), .long tr, .ref 61, .int (nI n), .int nx, .int tk, .int pl, .int va, .int fa, .ref 62, .ref 63, .ref 64, .ref 65, .ref 66, .ref 67, .ref 68, .ref 69, .ref 70, .ref 71, .ref 72, .ref 73, .ref 74, .int (nI U.length), .ref 75])) fX7_62 dX7_count_2 rfl hX (Nat.le_of_ble_eq_true rfl) rfl (by decide +kernel) rfl rfl rfl ?_
  refine px_id hX ?_
  refine r_iload_n (pc' := 6) dX7_count_5 rfl rfl ?_
  refine r_iconst (pc' := 7) (v := nI 0) dX7_count_6 rfl rfl ?_
  refine r_iconst (pc' := 8) (v := nI 5) dX7_count_7 rfl rfl ?_
  refine r_callS (pc' := 11) (av := [.int a, .int (nI 0), .int (nI 5)]) (rest := []) kX7_in vX7_in lX7_66 dX7_count_8 rfl rfl rfl ⟨by decide, by decide, by decide⟩ rfl rfl (Nat.le_of_ble_eq_true rfl) (ct_in_c (n := 5) (by omega) ?_)
  show Wp g yX7_count cX7_count 2 (some .int) 2 0 0 (px_MQ g Q 0 0) 0 0 11 [some (.ref 60), some (.int a)] [.int (bI (hasI a (5 + 1)))] w
  refine r_if_ne (pc' := 14) (P := (hasI a (5 + 1)) = false) (tgt := 16) dX7_count_11 (by decide) rfl (bI_0) (fun h11 => ?_) (fun h11 => ?_)
  · have h11' := (by simpa using h11 : hasI a _ = true)
    obtain ⟨j, hj, rfl⟩ := hasI_t h11' (by omega)
    rcases (show j = 0 ∨ j = 1 ∨ j = 2 ∨ j = 3 ∨ j = 4 ∨ j = 5 by omega) with rfl | rfl | rfl | rfl | rfl | rfl
    · skip
      refine r_iload_n (pc' := 17) dX7_count_16 rfl rfl ?_
      refine r_iconst (pc' := 18) (v := nI 3) dX7_count_17 rfl rfl ?_
      refine r_icmp_ge (pc' := 21) (P := 3 ≤ 0) (tgt := 30) dX7_count_18 (by decide) rfl (nI_leI (a := 3) (b := 0) (by omega) (by omega)) (fun h18 => ?_) (fun h18 => ?_)
      · skip
        exfalso; omega
      · skip
        refine r_aload_n (pc' := 22) dX7_count_21 rfl rfl ?_
        refine r_get (pc' := 25) fX7_13 dX7_count_22 rfl hX rfl ?_
        refine r_iload_n (pc' := 26) dX7_count_25 rfl rfl ?_
        refine r_iaload (pc' := 27) (v := nI (tW T)) dX7_count_26 rfl c1 (vp_in_nI (n := 0) (by omega) (by omega)) (by rw [nI_cl (by omega)]; exact ma.1) ?_
        refine r_goto (tgt := 61) dX7_count_27 (by decide) ?_
        refine r_ireturn dX7_count_61 rfl ?_
        refine px_eq (hQ w hS Frm.rf) ?_
        exact (pick_at 0 rfl (by decide)).symm
    · skip
      refine r_iload_n (pc' := 17) dX7_count_16 rfl rfl ?_
      refine r_iconst (pc' := 18) (v := nI 3) dX7_count_17 rfl rfl ?_
      refine r_icmp_ge (pc' := 21) (P := 3 ≤ 1) (tgt := 30) dX7_count_18 (by decide) rfl (nI_leI (a := 3) (b := 1) (by omega) (by omega)) (fun h18 => ?_) (fun h18 => ?_)
      · skip
        exfalso; omega
      · skip
        refine r_aload_n (pc' := 22) dX7_count_21 rfl rfl ?_
        refine r_get (pc' := 25) fX7_13 dX7_count_22 rfl hX rfl ?_
        refine r_iload_n (pc' := 26) dX7_count_25 rfl rfl ?_
        refine r_iaload (pc' := 27) (v := nI (tD T)) dX7_count_26 rfl c1 (vp_in_nI (n := 1) (by omega) (by omega)) (by rw [nI_cl (by omega)]; exact ma.2.1) ?_
        refine r_goto (tgt := 61) dX7_count_27 (by decide) ?_
        refine r_ireturn dX7_count_61 rfl ?_
        refine px_eq (hQ w hS Frm.rf) ?_
        exact (pick_at 1 rfl (by decide)).symm
    · skip
      refine r_iload_n (pc' := 17) dX7_count_16 rfl rfl ?_
      refine r_iconst (pc' := 18) (v := nI 3) dX7_count_17 rfl rfl ?_
      refine r_icmp_ge (pc' := 21) (P := 3 ≤ 2) (tgt := 30) dX7_count_18 (by decide) rfl (nI_leI (a := 3) (b := 2) (by omega) (by omega)) (fun h18 => ?_) (fun h18 => ?_)
      · skip
        exfalso; omega
      · skip
        refine r_aload_n (pc' := 22) dX7_count_21 rfl rfl ?_
        refine r_get (pc' := 25) fX7_13 dX7_count_22 rfl hX rfl ?_
        refine r_iload_n (pc' := 26) dX7_count_25 rfl rfl ?_
        refine r_iaload (pc' := 27) (v := nI (tG T)) dX7_count_26 rfl c1 (vp_in_nI (n := 2) (by omega) (by omega)) (by rw [nI_cl (by omega)]; exact ma.2.2) ?_
        refine r_goto (tgt := 61) dX7_count_27 (by decide) ?_
        refine r_ireturn dX7_count_61 rfl ?_
        refine px_eq (hQ w hS Frm.rf) ?_
        exact (pick_at 2 rfl (by decide)).symm
    · skip
      refine r_iload_n (pc' := 17) dX7_count_16 rfl rfl ?_
      refine r_iconst (pc' := 18) (v := nI 3) dX7_count_17 rfl rfl ?_
      refine r_icmp_ge (pc' := 21) (P := 3 ≤ 3) (tgt := 30) dX7_count_18 (by decide) rfl (nI_leI (a := 3) (b := 3) (by omega) (by omega)) (fun h18 => ?_) (fun h18 => ?_)
      · skip
        refine r_iload_n (pc' := 31) dX7_count_30 rfl rfl ?_
        refine r_iconst (pc' := 32) (v := nI 3) dX7_count_31 rfl rfl ?_
        refine r_icmp_ne (pc' := 35) (P := 3 = 3) (tgt := 45) dX7_count_32 (by decide) rfl (nI_eq (a := 3) (b := 3) (by omega) (by omega)) (fun h32 => ?_) (fun h32 => ?_)
        · skip
          exfalso; omega
        · skip
          refine r_aload_n (pc' := 36) dX7_count_35 rfl rfl ?_
          refine r_get (pc' := 39) fX7_40 dX7_count_36 rfl hX rfl ?_
          refine r_bipush (pc' := 41) (v := nI 36) dX7_count_39 rfl rfl ?_
          refine r_iaload (pc' := 42) (v := nI (nh M)) dX7_count_41 rfl cn (vp_in_nI (n := 36) (by omega) (by omega)) (by rw [nI_cl (by omega), hf _ (by omega), sv_h]) ?_
          refine r_goto (tgt := 61) dX7_count_42 (by decide) ?_
          refine r_ireturn dX7_count_61 rfl ?_
          refine px_eq (hQ w hS Frm.rf) ?_
          exact (pick_at 3 rfl (by decide)).symm
      · skip
        exfalso; omega
    · skip
      refine r_iload_n (pc' := 17) dX7_count_16 rfl rfl ?_
      refine r_iconst (pc' := 18) (v := nI 3) dX7_count_17 rfl rfl ?_
      refine r_icmp_ge (pc' := 21) (P := 3 ≤ 4) (tgt := 30) dX7_count_18 (by decide) rfl (nI_leI (a := 3) (b := 4) (by omega) (by omega)) (fun h18 => ?_) (fun h18 => ?_)
      · skip
        refine r_iload_n (pc' := 31) dX7_count_30 rfl rfl ?_
        refine r_iconst (pc' := 32) (v := nI 3) dX7_count_31 rfl rfl ?_
        refine r_icmp_ne (pc' := 35) (P := 4 = 3) (tgt := 45) dX7_count_32 (by decide) rfl (nI_eq (a := 4) (b := 3) (by omega) (by omega)) (fun h32 => ?_) (fun h32 => ?_)
        · skip
          refine r_iload_n (pc' := 46) dX7_count_45 rfl rfl ?_
          refine r_iconst (pc' := 47) (v := nI 4) dX7_count_46 rfl rfl ?_
          refine r_icmp_ne (pc' := 50) (P := 4 = 4) (tgt := 57) dX7_count_47 (by decide) rfl (nI_eq (a := 4) (b := 4) (by omega) (by omega)) (fun h47 => ?_) (fun h47 => ?_)
          · skip
            exfalso; omega
          · skip
            refine r_aload_n (pc' := 51) dX7_count_50 rfl rfl ?_
            refine r_get (pc' := 54) fX7_117 dX7_count_51 rfl hX rfl ?_
            refine r_goto (tgt := 61) dX7_count_54 (by decide) ?_
            refine r_ireturn dX7_count_61 rfl ?_
            refine px_eq (hQ w hS Frm.rf) ?_
            exact (pick_at 4 rfl (by decide)).symm
        · skip
          exfalso; omega
      · skip
        exfalso; omega
    · skip
      refine r_iload_n (pc' := 17) dX7_count_16 rfl rfl ?_
      refine r_iconst (pc' := 18) (v := nI 3) dX7_count_17 rfl rfl ?_
      refine r_icmp_ge (pc' := 21) (P := 3 ≤ 5) (tgt := 30) dX7_count_18 (by decide) rfl (nI_leI (a := 3) (b := 5) (by omega) (by omega)) (fun h18 => ?_) (fun h18 => ?_)
      · skip
        refine r_iload_n (pc' := 31) dX7_count_30 rfl rfl ?_
        refine r_iconst (pc' := 32) (v := nI 3) dX7_count_31 rfl rfl ?_
        refine r_icmp_ne (pc' := 35) (P := 5 = 3) (tgt := 45) dX7_count_32 (by decide) rfl (nI_eq (a := 5) (b := 3) (by omega) (by omega)) (fun h32 => ?_) (fun h32 => ?_)
        · skip
          refine r_iload_n (pc' := 46) dX7_count_45 rfl rfl ?_
          refine r_iconst (pc' := 47) (v := nI 4) dX7_count_46 rfl rfl ?_
          refine r_icmp_ne (pc' := 50) (P := 5 = 4) (tgt := 57) dX7_count_47 (by decide) rfl (nI_eq (a := 5) (b := 4) (by omega) (by omega)) (fun h47 => ?_) (fun h47 => ?_)
          · skip
            refine r_aload_n (pc' := 58) dX7_count_57 rfl rfl ?_
            refine r_get (pc' := 61) fX7_70 dX7_count_58 rfl hX rfl ?_
            refine r_ireturn dX7_count_61 rfl ?_
            refine px_eq (hQ w hS Frm.rf) ?_
            exact (pick_at 5 rfl (by decide)).symm
          · skip
            exfalso; omega
        · skip
          exfalso; omega
      · skip
        exfalso; omega
    
  · skip
    refine r_iconst (pc' := 15) (v := (-1)) dX7_count_14 rfl rfl ?_
    refine r_ireturn dX7_count_15 rfl ?_
    refine px_eq (hQ w hS Frm.rf) ?_
    exact (pick_f (by simpa using h11)).symm
set_option maxHeartbeats 200000 in
theorem ct_X7_trace {g : px_G} {w : px_W} {Q : px_Q} {T : px_T} {M : px_N} {U : List px_N} {I : Nat → Option px_N} {n : Nat} {tx : Nat → Nat} {tr : Int64} (hS : MSx w T M U I n tx tr) (hO : TOK T) (hQ : ∀ w', MSx w' T M U I n tx tr → Frm w w' 60 76 → Q (some (.long tr)) w') : Ct g yX7_trace cX7_trace 1 (some .long) 1 0 0 [.ref 60] w Q := by
  refine Ct.of kX7_trace (by omega) (lo := [some (.ref 60)]) rfl (px_cat1 rfl) (Nat.le_of_ble_eq_true rfl) ?_
  obtain ⟨nx, tk, pl, va, fa, hX, hT, hM, hTx, hK, hU, hB⟩ := id hS
  obtain ⟨fm, fz, fl, fs, fd, g0, g1, g2, g3, ⟨c1, c2, c3, c4, c5, c6, c7, c8, c9⟩, ma, mz, ml, md, mg, ⟨sb1, sb2, sb3⟩, sb4, sb5⟩ := id hT
  obtain ⟨fn, cn, hf, mB1, mB2, mB3⟩ := id hM
  obtain ⟨fx, x1, x2, x3⟩ := id hTx
  obtain ⟨fk, bk, k1, k2, k3⟩ := id hK
  obtain ⟨fq, u1, u2⟩ := id hU
  have u3 := u2.1
  refine r_aload_n (pc' := 1) dX7_trace_0 rfl rfl ?_
  refine r_iconst (pc' := 2) (v := nI 0) dX7_trace_1 rfl rfl ?_
  refine r_put (pc' := 5) (ty := .int) (c' := .inr (6, [.int (nI 0), .long tr, .ref 61, .int (nI n), .int nx, .int tk, .int pl, .int va, .int fa, .ref 62, .ref 63, .ref 64, .ref 65, .ref 66, .ref 67, .ref 68, .ref 69, .ref 70, .ref 71, .ref 72, .ref 73, .ref 74, .int (nI U.length), .ref 75])) fX7_62 dX7_trace_2 rfl hX (Nat.le_of_ble_eq_true rfl) rfl (by decide +kernel) rfl rfl rfl ?_
  refine px_id hX ?_
  refine r_aload_n (pc' := 6) dX7_trace_5 rfl rfl ?_
  refine r_get (pc' := 9) fX7_185 dX7_trace_6 rfl hX rfl ?_
  refine r_lreturn dX7_trace_9 rfl ?_
  exact hQ w hS Frm.rf
set_option maxHeartbeats 200000 in
theorem ct_X7_drive {g : px_G} {w : px_W} {Q : px_Q} {T : px_T} {M : px_N} {U : List px_N} {I : Nat → Option px_N} {n : Nat} {tx : Nat → Nat} {tr : Int64} (hS : MSx w T M U I n tx tr) (hO : TOK T) {a b : Int32} (hQ : ∀ w', MSx w' T M U I n tx tr → Frm w w' 60 76 → Q (some (.int (driveR T M a b))) w') : Ct g yX7_drive cX7_drive 3 (some .int) 5 0 0 [.ref 60, .int a, .int b] w Q := by
  refine Ct.of kX7_drive (by omega) (lo := [some (.ref 60), some (.int a), some (.int b)]) rfl (px_cat1 rfl) (Nat.le_of_ble_eq_true rfl) ?_
  obtain ⟨nx, tk, pl, va, fa, hX, hT, hM, hTx, hK, hU, hB⟩ := id hS
  obtain ⟨fm, fz, fl, fs, fd, g0, g1, g2, g3, ⟨c1, c2, c3, c4, c5, c6, c7, c8, c9⟩, ma, mz, ml, md, mg, ⟨sb1, sb2, sb3⟩, sb4, sb5⟩ := id hT
  obtain ⟨fn, cn, hf, mB1, mB2, mB3⟩ := id hM
  obtain ⟨fx, x1, x2, x3⟩ := id hTx
  obtain ⟨fk, bk, k1, k2, k3⟩ := id hK
  obtain ⟨fq, u1, u2⟩ := id hU
  have u3 := u2.1
  refine r_aload_n (pc' := 1) dX7_drive_0 rfl rfl ?_
  refine r_iconst (pc' := 2) (v := nI 0) dX7_drive_1 rfl rfl ?_
  refine r_put (pc' := 5) (ty := .int) (c' := .inr (6, [.int (nI 0), .long tr, .ref 61, .int (nI n), .int nx, .int tk, .int pl, .int va, .int fa, .ref 62, .ref 63, .ref 64, .ref 65, .ref 66, .ref 67, .ref 68, .ref 69, .ref 70, .ref 71, .ref 72, .ref 73, .ref 74, .int (nI U.length), .ref 75])) fX7_62 dX7_drive_2 rfl hX (Nat.le_of_ble_eq_true rfl) rfl (by decide +kernel) rfl rfl rfl ?_
  refine px_id hX ?_
  refine r_aload_n (pc' := 6) dX7_drive_5 rfl rfl ?_
  refine r_iload_n (pc' := 7) dX7_drive_6 rfl rfl ?_
  refine r_callV (pc' := 10) (av := [.int a]) (rest := []) kX7_isDrive vX7_isDrive lX7_150 dX7_drive_7 rfl hX rfl rfl rfl ⟨by decide, by decide, by decide⟩ rfl rfl (Nat.le_of_ble_eq_true rfl) (ct_X7_isDrive hX hT hO hM  ?_)
  show Wp g yX7_drive cX7_drive 3 (some .int) 5 0 0 (px_MQ g Q 0 0) 0 0 10 [some (.ref 60), some (.int a), some (.int b)] [.int (bI (hasI a (tD T)))] w
  refine r_if_eq (pc' := 13) (P := (hasI a (tD T)) = false) (tgt := 22) dX7_drive_10 (by decide) rfl (bI_0) (fun h10 => ?_) (fun h10 => ?_)
  · skip
    refine r_iconst (pc' := 23) (v := (-1)) dX7_drive_22 rfl rfl ?_
    refine r_ireturn dX7_drive_23 rfl ?_
    refine px_eq (hQ w hS Frm.rf) ?_
    rw [driveR, h10]; rfl
  · have h10' := (by simpa using h10 : hasI a _ = true)
    obtain ⟨i, hi, rfl⟩ := hasI_t h10' (by omega)
    refine r_iload_n (pc' := 14) dX7_drive_13 rfl rfl ?_
    refine r_iconst (pc' := 15) (v := nI 0) dX7_drive_14 rfl rfl ?_
    refine r_iconst (pc' := 16) (v := nI 5) dX7_drive_15 rfl rfl ?_
    refine r_callS (pc' := 19) (av := [.int b, .int (nI 0), .int (nI 5)]) (rest := []) kX7_in vX7_in lX7_66 dX7_drive_16 rfl rfl rfl ⟨by decide, by decide, by decide⟩ rfl rfl (Nat.le_of_ble_eq_true rfl) (ct_in_c (n := 5) (by omega) ?_)
    show Wp g yX7_drive cX7_drive 3 (some .int) 5 0 0 (px_MQ g Q 0 0) 0 0 19 [some (.ref 60), some (.int (nI i)), some (.int b)] [.int (bI (hasI b (5 + 1)))] w
    refine r_if_ne (pc' := 22) (P := (hasI b (5 + 1)) = false) (tgt := 24) dX7_drive_19 (by decide) rfl (bI_0) (fun h19 => ?_) (fun h19 => ?_)
    · have h19' := (by simpa using h19 : hasI b _ = true)
      obtain ⟨j, hj, rfl⟩ := hasI_t h19' (by omega)
      rcases (show j = 0 ∨ j = 1 ∨ j = 2 ∨ j = 3 ∨ j = 4 ∨ j = 5 by omega) with rfl | rfl | rfl | rfl | rfl | rfl
      · skip
        refine r_iload_n (pc' := 25) dX7_drive_24 rfl rfl ?_
        refine r_iconst (pc' := 26) (v := nI 3) dX7_drive_25 rfl rfl ?_
        refine r_icmp_ge (pc' := 29) (P := 3 ≤ 0) (tgt := 65) dX7_drive_26 (by decide) rfl (nI_leI (a := 3) (b := 0) (by omega) (by omega)) (fun h26 => ?_) (fun h26 => ?_)
        · skip
          exfalso; omega
        · skip
          refine r_iload_n (pc' := 30) dX7_drive_29 rfl rfl ?_
          refine r_if_ne (pc' := 33) (P := 0 = 0) (tgt := 42) dX7_drive_30 (by decide) rfl (nI_eq0 (n := 0) (by omega)) (fun h30 => ?_) (fun h30 => ?_)
          · skip
            exfalso; omega
          · skip
            refine r_aload_n (pc' := 34) dX7_drive_33 rfl rfl ?_
            refine r_get (pc' := 37) fX7_25 dX7_drive_34 rfl hX rfl ?_
            refine r_iload_n (pc' := 38) dX7_drive_37 rfl rfl ?_
            refine r_iaload (pc' := 39) (v := nI (td T i)) dX7_drive_38 rfl c5 (vp_in_nI (n := i) (by omega) (by omega)) (by rw [nI_cl (by omega)]; exact md i (by omega)) ?_
            have e38 := hO.2.2.1 i (by omega)
            refine r_goto (tgt := 64) dX7_drive_39 (by decide) ?_
            refine r_ireturn dX7_drive_64 rfl ?_
            refine px_eq (hQ (w) ⟨nx, tk, pl, va, fa, hX, hT, hM, hTx, hK, hU, hB⟩ (Frm.rf (a := 60) (b := 76))) ?_
            rw [driveR, if_pos h10', nI_cl (show i < 2 ^ 31 by omega), pick_at 0 rfl (by decide)]
      · skip
        refine r_iload_n (pc' := 25) dX7_drive_24 rfl rfl ?_
        refine r_iconst (pc' := 26) (v := nI 3) dX7_drive_25 rfl rfl ?_
        refine r_icmp_ge (pc' := 29) (P := 3 ≤ 1) (tgt := 65) dX7_drive_26 (by decide) rfl (nI_leI (a := 3) (b := 1) (by omega) (by omega)) (fun h26 => ?_) (fun h26 => ?_)
        · skip
          exfalso; omega
        · skip
          refine r_iload_n (pc' := 30) dX7_drive_29 rfl rfl ?_
          refine r_if_ne (pc' := 33) (P := 1 = 0) (tgt := 42) dX7_drive_30 (by decide) rfl (nI_eq0 (n := 1) (by omega)) (fun h30 => ?_) (fun h30 => ?_)
          · skip
            refine r_iload_n (pc' := 43) dX7_drive_42 rfl rfl ?_
            refine r_iconst (pc' := 44) (v := nI 1) dX7_drive_43 rfl rfl ?_
            refine r_icmp_ne (pc' := 47) (P := 1 = 1) (tgt := 59) dX7_drive_44 (by decide) rfl (nI_eq (a := 1) (b := 1) (by omega) (by omega)) (fun h44 => ?_) (fun h44 => ?_)
            · skip
              exfalso; omega
            · skip
              refine r_aload_n (pc' := 48) dX7_drive_47 rfl rfl ?_
              refine r_get (pc' := 51) fX7_40 dX7_drive_48 rfl hX rfl ?_
              refine r_bipush (pc' := 53) (v := nI 32) dX7_drive_51 rfl rfl ?_
              refine r_iload_n (pc' := 54) dX7_drive_53 rfl rfl ?_
              refine r_iadd (pc' := 55) (v := nI (32 + i)) dX7_drive_54 rfl (nI_add 32 i) ?_
              refine r_iaload (pc' := 56) (v := nI (nt M i)) dX7_drive_55 rfl cn (vp_in_nI (n := 32 + i) (by omega) (by omega)) (by rw [nI_cl (by omega), hf _ (by omega), sv_t _ (by omega)]) ?_
              have e55 := mB2 i (by omega)
              refine r_goto (tgt := 64) dX7_drive_56 (by decide) ?_
              refine r_ireturn dX7_drive_64 rfl ?_
              refine px_eq (hQ (w) ⟨nx, tk, pl, va, fa, hX, hT, hM, hTx, hK, hU, hB⟩ (Frm.rf (a := 60) (b := 76))) ?_
              rw [driveR, if_pos h10', nI_cl (show i < 2 ^ 31 by omega), pick_at 1 rfl (by decide)]
          · skip
            exfalso; omega
      · skip
        refine r_iload_n (pc' := 25) dX7_drive_24 rfl rfl ?_
        refine r_iconst (pc' := 26) (v := nI 3) dX7_drive_25 rfl rfl ?_
        refine r_icmp_ge (pc' := 29) (P := 3 ≤ 2) (tgt := 65) dX7_drive_26 (by decide) rfl (nI_leI (a := 3) (b := 2) (by omega) (by omega)) (fun h26 => ?_) (fun h26 => ?_)
        · skip
          exfalso; omega
        · skip
          refine r_iload_n (pc' := 30) dX7_drive_29 rfl rfl ?_
          refine r_if_ne (pc' := 33) (P := 2 = 0) (tgt := 42) dX7_drive_30 (by decide) rfl (nI_eq0 (n := 2) (by omega)) (fun h30 => ?_) (fun h30 => ?_)
          · skip
            refine r_iload_n (pc' := 43) dX7_drive_42 rfl rfl ?_
            refine r_iconst (pc' := 44) (v := nI 1) dX7_drive_43 rfl rfl ?_
            refine r_icmp_ne (pc' := 47) (P := 2 = 1) (tgt := 59) dX7_drive_44 (by decide) rfl (nI_eq (a := 2) (b := 1) (by omega) (by omega)) (fun h44 => ?_) (fun h44 => ?_)
            · skip
              refine r_aload_n (pc' := 60) dX7_drive_59 rfl rfl ?_
              refine r_iload_n (pc' := 61) dX7_drive_60 rfl rfl ?_
              refine r_callV (pc' := 64) (av := [.int (nI i)]) (rest := []) kX7_fitsOf vX7_fitsOf lX7_140 dX7_drive_61 rfl hX rfl rfl rfl ⟨by decide, by decide, by decide⟩ rfl rfl (Nat.le_of_ble_eq_true rfl) (ct_X7_fitsOf hX hT hO hM (d := i) (by omega) ?_)
              show Wp g yX7_drive cX7_drive 3 (some .int) 5 0 0 (px_MQ g Q 0 0) 0 0 64 [some (.ref 60), some (.int (nI i)), some (.int (nI 2))] [.int (nI (fitS T M i))] w
              have e61 := fitS_lt (M := M) (d := i) sb1
              refine r_ireturn dX7_drive_64 rfl ?_
              refine px_eq (hQ (w) ⟨nx, tk, pl, va, fa, hX, hT, hM, hTx, hK, hU, hB⟩ (Frm.rf (a := 60) (b := 76))) ?_
              rw [driveR, if_pos h10', nI_cl (show i < 2 ^ 31 by omega), pick_at 2 rfl (by decide)]
            · skip
              exfalso; omega
          · skip
            exfalso; omega
      · skip
        refine r_iload_n (pc' := 25) dX7_drive_24 rfl rfl ?_
        refine r_iconst (pc' := 26) (v := nI 3) dX7_drive_25 rfl rfl ?_
        refine r_icmp_ge (pc' := 29) (P := 3 ≤ 3) (tgt := 65) dX7_drive_26 (by decide) rfl (nI_leI (a := 3) (b := 3) (by omega) (by omega)) (fun h26 => ?_) (fun h26 => ?_)
        · skip
          refine r_iload_n (pc' := 66) dX7_drive_65 rfl rfl ?_
          refine r_iconst (pc' := 67) (v := nI 3) dX7_drive_66 rfl rfl ?_
          refine r_icmp_ne (pc' := 70) (P := 3 = 3) (tgt := 78) dX7_drive_67 (by decide) rfl (nI_eq (a := 3) (b := 3) (by omega) (by omega)) (fun h67 => ?_) (fun h67 => ?_)
          · skip
            exfalso; omega
          · skip
            refine r_aload_n (pc' := 71) dX7_drive_70 rfl rfl ?_
            refine r_iload_n (pc' := 72) dX7_drive_71 rfl rfl ?_
            refine r_callV (pc' := 75) (av := [.int (nI i)]) (rest := []) kX7_lookOf vX7_lookOf lX7_153 dX7_drive_72 rfl hX rfl rfl rfl ⟨by decide, by decide, by decide⟩ rfl rfl (Nat.le_of_ble_eq_true rfl) (ct_X7_lookOf hX hT hO hM hB (d := i) (by omega) (fun w72 hB72 hF72 => ?_))
            have hT_w72 := hT.fr hF72 (by omega)
            have hM_w72 := hM.fr hF72 (by omega)
            have hTx_w72 := hTx.fr hF72 (by omega)
            have hK_w72 := hK.fr hF72 (by omega)
            have hU_w72 := hU.fr hF72 (by omega)
            show Wp g yX7_drive cX7_drive 3 (some .int) 5 0 0 (px_MQ g Q 0 0) 0 0 75 [some (.ref 60), some (.int (nI i)), some (.int (nI 3))] [.int (oN (lookS T M i))] w72
            refine r_goto (tgt := 93) dX7_drive_75 (by decide) ?_
            refine r_ireturn dX7_drive_93 rfl ?_
            refine px_eq (hQ (w72) ⟨nx, tk, pl, va, fa, hF72.at hX (by omega), hT_w72, hM_w72, hTx_w72, hK_w72, hU_w72, hB72⟩ ((Frm.rf (a := 60) (b := 76)).tr (a := 60) (b := 76) hF72 (by omega) (by omega) (by omega) (by omega))) ?_
            rw [driveR, if_pos h10', nI_cl (show i < 2 ^ 31 by omega), pick_at 3 rfl (by decide)]
        · skip
          exfalso; omega
      · skip
        refine r_iload_n (pc' := 25) dX7_drive_24 rfl rfl ?_
        refine r_iconst (pc' := 26) (v := nI 3) dX7_drive_25 rfl rfl ?_
        refine r_icmp_ge (pc' := 29) (P := 3 ≤ 4) (tgt := 65) dX7_drive_26 (by decide) rfl (nI_leI (a := 3) (b := 4) (by omega) (by omega)) (fun h26 => ?_) (fun h26 => ?_)
        · skip
          refine r_iload_n (pc' := 66) dX7_drive_65 rfl rfl ?_
          refine r_iconst (pc' := 67) (v := nI 3) dX7_drive_66 rfl rfl ?_
          refine r_icmp_ne (pc' := 70) (P := 4 = 3) (tgt := 78) dX7_drive_67 (by decide) rfl (nI_eq (a := 4) (b := 3) (by omega) (by omega)) (fun h67 => ?_) (fun h67 => ?_)
          · skip
            refine r_aload_n (pc' := 79) dX7_drive_78 rfl rfl ?_
            refine r_iload_n (pc' := 80) dX7_drive_79 rfl rfl ?_
            refine r_iload_n (pc' := 81) dX7_drive_80 rfl rfl ?_
            refine r_iconst (pc' := 82) (v := nI 5) dX7_drive_81 rfl rfl ?_
            refine r_icmp_ne (pc' := 85) (P := 4 = 5) (tgt := 89) dX7_drive_82 (by decide) rfl (nI_eq (a := 4) (b := 5) (by omega) (by omega)) (fun h82 => ?_) (fun h82 => ?_)
            · skip
              refine r_iconst (pc' := 90) (v := bI false) dX7_drive_89 rfl rfl ?_
              refine r_callV (pc' := 93) (av := [.int (nI i), .int (bI false)]) (rest := []) kX7_tracksOf vX7_tracksOf lX7_156 dX7_drive_90 rfl hX rfl rfl rfl ⟨by decide, by decide, by decide⟩ rfl rfl (Nat.le_of_ble_eq_true rfl) (ct_tracksN hX hT hO hM (d := i) (by omega) ?_)
              show Wp g yX7_drive cX7_drive 3 (some .int) 5 0 0 (px_MQ g Q 0 0) 0 0 93 [some (.ref 60), some (.int (nI i)), some (.int (nI 4))] [.int (nI (cnt (isT T M i) 32))] w
              refine r_ireturn dX7_drive_93 rfl ?_
              refine px_eq (hQ (w) ⟨nx, tk, pl, va, fa, hX, hT, hM, hTx, hK, hU, hB⟩ (Frm.rf (a := 60) (b := 76))) ?_
              rw [driveR, if_pos h10', nI_cl (show i < 2 ^ 31 by omega), pick_at 4 rfl (by decide)]
            · skip
              exfalso; omega
          · skip
            exfalso; omega
        · skip
          exfalso; omega
      · skip
        refine r_iload_n (pc' := 25) dX7_drive_24 rfl rfl ?_
        refine r_iconst (pc' := 26) (v := nI 3) dX7_drive_25 rfl rfl ?_
        refine r_icmp_ge (pc' := 29) (P := 3 ≤ 5) (tgt := 65) dX7_drive_26 (by decide) rfl (nI_leI (a := 3) (b := 5) (by omega) (by omega)) (fun h26 => ?_) (fun h26 => ?_)
        · skip
          refine r_iload_n (pc' := 66) dX7_drive_65 rfl rfl ?_
          refine r_iconst (pc' := 67) (v := nI 3) dX7_drive_66 rfl rfl ?_
          refine r_icmp_ne (pc' := 70) (P := 5 = 3) (tgt := 78) dX7_drive_67 (by decide) rfl (nI_eq (a := 5) (b := 3) (by omega) (by omega)) (fun h67 => ?_) (fun h67 => ?_)
          · skip
            refine r_aload_n (pc' := 79) dX7_drive_78 rfl rfl ?_
            refine r_iload_n (pc' := 80) dX7_drive_79 rfl rfl ?_
            refine r_iload_n (pc' := 81) dX7_drive_80 rfl rfl ?_
            refine r_iconst (pc' := 82) (v := nI 5) dX7_drive_81 rfl rfl ?_
            refine r_icmp_ne (pc' := 85) (P := 5 = 5) (tgt := 89) dX7_drive_82 (by decide) rfl (nI_eq (a := 5) (b := 5) (by omega) (by omega)) (fun h82 => ?_) (fun h82 => ?_)
            · skip
              exfalso; omega
            · skip
              refine r_iconst (pc' := 86) (v := bI true) dX7_drive_85 rfl rfl ?_
              refine r_goto (tgt := 90) dX7_drive_86 (by decide) ?_
              refine r_callV (pc' := 93) (av := [.int (nI i), .int (bI true)]) (rest := []) kX7_tracksOf vX7_tracksOf lX7_156 dX7_drive_90 rfl hX rfl rfl rfl ⟨by decide, by decide, by decide⟩ rfl rfl (Nat.le_of_ble_eq_true rfl) (ct_tracksF hX hT hO hM (d := i) (by omega) ?_)
              show Wp g yX7_drive cX7_drive 3 (some .int) 5 0 0 (px_MQ g Q 0 0) 0 0 93 [some (.ref 60), some (.int (nI i)), some (.int (nI 5))] [.int (oN (trackF T M i))] w
              refine r_ireturn dX7_drive_93 rfl ?_
              refine px_eq (hQ (w) ⟨nx, tk, pl, va, fa, hX, hT, hM, hTx, hK, hU, hB⟩ (Frm.rf (a := 60) (b := 76))) ?_
              rw [driveR, if_pos h10', nI_cl (show i < 2 ^ 31 by omega), pick_at 5 rfl (by decide)]
          · skip
            exfalso; omega
        · skip
          exfalso; omega
      
    · skip
      refine r_iconst (pc' := 23) (v := (-1)) dX7_drive_22 rfl rfl ?_
      refine r_ireturn dX7_drive_23 rfl ?_
      refine px_eq (hQ w hS Frm.rf) ?_
      rw [driveR, if_pos h10']; exact (pick_f (by simpa using h19)).symm
theorem TxA.add {w : px_W} {n v : Nat} {tx : Nat → Nat} {fs : Nat → Int32} (r2 : w[61]? = some (.inl (0, 150, .inl (upd fs n (nI v))))) (r5 : ∀ j, j < n → fs j = nI (tx j) ∧ tx j < 256) (hn : n < 150) (hv : v < 256) : TxA w (n + 1) (txP tx n v) := by
  refine ⟨_, r2, by omega, fun j hj => ?_⟩
  by_cases e : j = n
  · subst e; simp [upd, txP, hv]
  · simp only [upd, txP, e, if_false]; exact r5 j (by omega)
set_option maxHeartbeats 200000 in
theorem ct_X7_type {g : px_G} {w : px_W} {Q : px_Q} {T : px_T} {M : px_N} {U : List px_N} {I : Nat → Option px_N} {n : Nat} {tx : Nat → Nat} {tr : Int64} (hS : MSx w T M U I n tx tr) (hO : TOK T) {a : Int32} (hQ : ∀ w', MSx w' T M U I (typeN n a) (typeX n tx a) tr → Frm w w' 60 76 → Q (some (.int (typeR n a))) w') : Ct g yX7_type cX7_type 2 (some .int) 2 0 0 [.ref 60, .int a] w Q := by
  refine Ct.of kX7_type (by omega) (lo := [some (.ref 60), some (.int a)]) rfl (px_cat1 rfl) (Nat.le_of_ble_eq_true rfl) ?_
  obtain ⟨nx, tk, pl, va, fa, hX, hT, hM, hTx, hK, hU, hB⟩ := id hS
  obtain ⟨fm, fz, fl, fs, fd, g0, g1, g2, g3, ⟨c1, c2, c3, c4, c5, c6, c7, c8, c9⟩, ma, mz, ml, md, mg, ⟨sb1, sb2, sb3⟩, sb4, sb5⟩ := id hT
  obtain ⟨fn, cn, hf, mB1, mB2, mB3⟩ := id hM
  obtain ⟨fx, x1, x2, x3⟩ := id hTx
  obtain ⟨fk, bk, k1, k2, k3⟩ := id hK
  obtain ⟨fq, u1, u2⟩ := id hU
  have u3 := u2.1
  refine r_aload_n (pc' := 1) dX7_type_0 rfl rfl ?_
  refine r_iconst (pc' := 2) (v := nI 0) dX7_type_1 rfl rfl ?_
  refine r_put (pc' := 5) (ty := .int) (c' := .inr (6, [.int (nI 0), .long tr, .ref 61, .int (nI n), .int nx, .int tk, .int pl, .int va, .int fa, .ref 62, .ref 63, .ref 64, .ref 65, .ref 66, .ref 67, .ref 68, .ref 69, .ref 70, .ref 71, .ref 72, .ref 73, .ref 74, .int (nI U.length), .ref 75])) fX7_62 dX7_type_2 rfl hX (Nat.le_of_ble_eq_true rfl) rfl (by decide +kernel) rfl rfl rfl ?_
  refine px_id hX ?_
  refine r_iload_n (pc' := 6) dX7_type_5 rfl rfl ?_
  refine r_iconst (pc' := 7) (v := nI 0) dX7_type_6 rfl rfl ?_
  refine r_sipush (pc' := 10) (v := nI 255) dX7_type_7 rfl rfl ?_
  refine r_callS (pc' := 13) (av := [.int a, .int (nI 0), .int (nI 255)]) (rest := []) kX7_in vX7_in lX7_66 dX7_type_10 rfl rfl rfl ⟨by decide, by decide, by decide⟩ rfl rfl (Nat.le_of_ble_eq_true rfl) (ct_in_c (n := 255) (by omega) ?_)
  show Wp g yX7_type cX7_type 2 (some .int) 2 0 0 (px_MQ g Q 0 0) 0 0 13 [some (.ref 60), some (.int a)] [.int (bI (hasI a (255 + 1)))] w
  refine r_if_ne (pc' := 16) (P := (hasI a (255 + 1)) = false) (tgt := 18) dX7_type_13 (by decide) rfl (bI_0) (fun h13 => ?_) (fun h13 => ?_)
  · have h13' : hasI a 256 = true := by simpa using h13
    obtain ⟨v, hv, rfl⟩ := hasI_t h13' (by omega)
    refine r_aload_n (pc' := 19) dX7_type_18 rfl rfl ?_
    refine r_get (pc' := 22) fX7_70 dX7_type_19 rfl hX rfl ?_
    refine r_sipush (pc' := 25) (v := nI 150) dX7_type_22 rfl rfl ?_
    refine r_icmp_ne (pc' := 28) (P := n = 150) (tgt := 31) dX7_type_25 (by decide) rfl (nI_eq (a := n) (b := 150) (by omega) (by omega)) (fun h25 => ?_) (fun h25 => ?_)
    · skip
      refine r_aload_n (pc' := 32) dX7_type_31 rfl rfl ?_
      refine r_get (pc' := 35) fX7_7 dX7_type_32 rfl hX rfl ?_
      refine r_aload_n (pc' := 36) dX7_type_35 rfl rfl ?_
      refine r_get (pc' := 39) fX7_70 dX7_type_36 rfl hX rfl ?_
      refine r_iload_n (pc' := 40) dX7_type_39 rfl rfl ?_
      refine r_iastore (pc' := 41) (c' := .inl (0, 150, .inl (upd fx n (nI v)))) dX7_type_40 rfl x1 (vp_in_nI (n := n) (by omega) (by omega)) (by rw [nI_cl (by omega)]) ?_
      refine r_aload_n (pc' := 42) dX7_type_41 rfl rfl ?_
      refine r_dup (pc' := 43) dX7_type_42 rfl rfl ?_
      refine r_get (pc' := 46) fX7_70 dX7_type_43 rfl (gs_ne hX (by decide)) rfl ?_
      refine r_iconst (pc' := 47) (v := nI 1) dX7_type_46 rfl rfl ?_
      refine r_iadd (pc' := 48) (v := nI (n + 1)) dX7_type_47 rfl (nI_add n 1) ?_
      refine r_put (pc' := 51) (ty := .int) (c' := .inr (6, [.int (nI 0), .long tr, .ref 61, .int (nI (n + 1)), .int nx, .int tk, .int pl, .int va, .int fa, .ref 62, .ref 63, .ref 64, .ref 65, .ref 66, .ref 67, .ref 68, .ref 69, .ref 70, .ref 71, .ref 72, .ref 73, .ref 74, .int (nI U.length), .ref 75])) fX7_70 dX7_type_48 rfl (gs_ne hX (by decide)) (Nat.le_of_ble_eq_true rfl) rfl (by decide +kernel) rfl rfl rfl ?_
      refine r_aload_n (pc' := 52) dX7_type_51 rfl rfl ?_
      refine r_get (pc' := 55) fX7_70 dX7_type_52 rfl (gs_eq (gs_ne hX (by decide))) rfl ?_
      refine r_ireturn dX7_type_55 rfl ?_
      have ho : typeO n (nI v) = true := by rw [typeO, h13']; simp; omega
      rw [typeN, typeX, ho] at hQ
      simp only [if_true] at hQ
      rw [nI_cl (show v < 2 ^ 31 by omega)] at hQ
      refine px_eq (hQ ((w.set 61 (.inl (0, 150, .inl (upd fx n (nI v))))).set 60 (.inr (6, [.int (nI 0), .long tr, .ref 61, .int (nI (n + 1)), .int nx, .int tk, .int pl, .int va, .int fa, .ref 62, .ref 63, .ref 64, .ref 65, .ref 66, .ref 67, .ref 68, .ref 69, .ref 70, .ref 71, .ref 72, .ref 73, .ref 74, .int (nI U.length), .ref 75]))) ⟨nx, tk, pl, va, fa, gs_eq (gs_ne hX (by decide)), ((hT.fr (a := 61) (b := 62) (Frm.set (by omega) (by omega)) (by omega)).fr (a := 60) (b := 61) (Frm.set (by omega) (by omega)) (by omega)), ((hM.fr (a := 61) (b := 62) (Frm.set (by omega) (by omega)) (by omega)).fr (a := 60) (b := 61) (Frm.set (by omega) (by omega)) (by omega)), ((TxA.add (gs_ne (gs_eq x1) (by decide)) x3 (by omega) hv)), ((hK.fr (a := 61) (b := 62) (Frm.set (by omega) (by omega)) (by omega)).fr (a := 60) (b := 61) (Frm.set (by omega) (by omega)) (by omega)), ((hU.fr (a := 61) (b := 62) (Frm.set (by omega) (by omega)) (by omega)).fr (a := 60) (b := 61) (Frm.set (by omega) (by omega)) (by omega)), ((hB.fr (a := 61) (b := 62) (Frm.set (by omega) (by omega)) (by omega)).fr (a := 60) (b := 61) (Frm.set (by omega) (by omega)) (by omega))⟩ (((Frm.rf (a := 60) (b := 76)).sets (k := 61) (by omega) (by omega)).sets (k := 60) (by omega) (by omega))) ?_
      rw [typeR, if_pos h13', if_pos (by omega)]
    · skip
      refine r_bipush (pc' := 30) (v := (-3)) dX7_type_28 rfl rfl ?_
      refine r_ireturn dX7_type_30 rfl ?_
      have ho : typeO n (nI v) = false := by simp [typeO]; intro _; omega
      refine px_eq (hQ w ?_ Frm.rf) ?_
      · rw [typeN, typeX, ho]; exact hS
      · rw [typeR, if_pos h13', if_neg (by omega)]
  · have hb : hasI a 256 = false := by simpa using h13
    refine r_iconst (pc' := 17) (v := (-1)) dX7_type_16 rfl rfl ?_
    refine r_ireturn dX7_type_17 rfl ?_
    refine px_eq (hQ w ?_ Frm.rf) ?_
    · simpa [typeN, typeX, typeO, hb] using hS
    · simp [typeR, hb]
set_option maxHeartbeats 200000 in
theorem ct_X7_clear {g : px_G} {w : px_W} {Q : px_Q} {T : px_T} {M : px_N} {U : List px_N} {I : Nat → Option px_N} {n : Nat} {tx : Nat → Nat} {tr : Int64} (hS : MSx w T M U I n tx tr) (hO : TOK T) (hQ : ∀ w', MSx w' T M U I 0 tx tr → Frm w w' 60 76 → Q (some (.int (nI n))) w') : Ct g yX7_clear cX7_clear 2 (some .int) 1 0 0 [.ref 60] w Q := by
  refine Ct.of kX7_clear (by omega) (lo := [some (.ref 60), none]) rfl (px_cat1 rfl) (Nat.le_of_ble_eq_true rfl) ?_
  obtain ⟨nx, tk, pl, va, fa, hX, hT, hM, hTx, hK, hU, hB⟩ := id hS
  obtain ⟨fm, fz, fl, fs, fd, g0, g1, g2, g3, ⟨c1, c2, c3, c4, c5, c6, c7, c8, c9⟩, ma, mz, ml, md, mg, ⟨sb1, sb2, sb3⟩, sb4, sb5⟩ := id hT
  obtain ⟨fn, cn, hf, mB1, mB2, mB3⟩ := id hM
  obtain ⟨fx, x1, x2, x3⟩ := id hTx
  obtain ⟨fk, bk, k1, k2, k3⟩ := id hK
  obtain ⟨fq, u1, u2⟩ := id hU
  have u3 := u2.1
  refine r_aload_n (pc' := 1) dX7_clear_0 rfl rfl ?_
  refine r_iconst (pc' := 2) (v := nI 0) dX7_clear_1 rfl rfl ?_
  refine r_put (pc' := 5) (ty := .int) (c' := .inr (6, [.int (nI 0), .long tr, .ref 61, .int (nI n), .int nx, .int tk, .int pl, .int va, .int fa, .ref 62, .ref 63, .ref 64, .ref 65, .ref 66, .ref 67, .ref 68, .ref 69, .ref 70, .ref 71, .ref 72, .ref 73, .ref 74, .int (nI U.length), .ref 75])) fX7_62 dX7_clear_2 rfl hX (Nat.le_of_ble_eq_true rfl) rfl (by decide +kernel) rfl rfl rfl ?_
  refine px_id hX ?_
  refine r_aload_n (pc' := 6) dX7_clear_5 rfl rfl ?_
  refine r_get (pc' := 9) fX7_70 dX7_clear_6 rfl hX rfl ?_
  refine r_istore_n (pc' := 10) (lo' := [some (.ref 60), some (.int (nI n))]) dX7_clear_9 rfl (by decide) rfl ?_
  refine r_aload_n (pc' := 11) dX7_clear_10 rfl rfl ?_
  refine r_iconst (pc' := 12) (v := nI 0) dX7_clear_11 rfl rfl ?_
  refine r_put (pc' := 15) (ty := .int) (c' := .inr (6, [.int (nI 0), .long tr, .ref 61, .int (nI 0), .int nx, .int tk, .int pl, .int va, .int fa, .ref 62, .ref 63, .ref 64, .ref 65, .ref 66, .ref 67, .ref 68, .ref 69, .ref 70, .ref 71, .ref 72, .ref 73, .ref 74, .int (nI U.length), .ref 75])) fX7_70 dX7_clear_12 rfl hX (Nat.le_of_ble_eq_true rfl) rfl (by decide +kernel) rfl rfl rfl ?_
  refine r_iload_n (pc' := 16) dX7_clear_15 rfl rfl ?_
  refine r_ireturn dX7_clear_16 rfl ?_
  refine px_eq (hQ (w.set 60 (.inr (6, [.int (nI 0), .long tr, .ref 61, .int (nI 0), .int nx, .int tk, .int pl, .int va, .int fa, .ref 62, .ref 63, .ref 64, .ref 65, .ref 66, .ref 67, .ref 68, .ref 69, .ref 70, .ref 71, .ref 72, .ref 73, .ref 74, .int (nI U.length), .ref 75]))) ⟨nx, tk, pl, va, fa, gs_eq hX, (hT.fr (a := 60) (b := 61) (Frm.set (by omega) (by omega)) (by omega)), (hM.fr (a := 60) (b := 61) (Frm.set (by omega) (by omega)) (by omega)), ⟨fx, gs_ne x1 (by decide), by omega, fun j hj => absurd hj (by omega)⟩, (hK.fr (a := 60) (b := 61) (Frm.set (by omega) (by omega)) (by omega)), (hU.fr (a := 60) (b := 61) (Frm.set (by omega) (by omega)) (by omega)), (hB.fr (a := 60) (b := 61) (Frm.set (by omega) (by omega)) (by omega))⟩ ((Frm.rf (a := 60) (b := 76)).sets (k := 60) (by omega) (by omega))) ?_
  rfl
theorem vow_4 {v : Nat} (h : v < 8) : vow v = decide (v % 4 = 0) := by
  have : ∀ v, v < 8 → vow v = decide (v % 4 = 0) := by decide
  exact this v h
theorem vwn_le (T : px_T) (i x : Nat) : nsum (fun x => if vow (tc T i x) then 1 else 0) x ≤ x := by have := nsum_le (b := 1) (f := fun x => if vow (tc T i x) then 1 else 0) (fun x => by split <;> omega) x; omega
set_option maxHeartbeats 200000 in
theorem ct_X7_rate {g : px_G} {w : px_W} {Q : px_Q} {T : px_T} {M : px_N} {U : List px_N} {I : Nat → Option px_N} {n : Nat} {tx : Nat → Nat} {tr : Int64} (hS : MSx w T M U I n tx tr) (hO : TOK T) {a b : Int32} (hQ : ∀ w', MSx w' T M U I n tx (rateT T tr a b) → Frm w w' 60 76 → Q (some (.int (rateR T M a b))) w') : Ct g yX7_rate cX7_rate 7 (some .int) 3 0 0 [.ref 60, .int a, .int b] w Q := by
  refine Ct.of kX7_rate (by omega) (lo := [some (.ref 60), some (.int a), some (.int b), none, none, none, none]) rfl (px_cat1 rfl) (Nat.le_of_ble_eq_true rfl) ?_
  obtain ⟨nx, tk, pl, va, fa, hX, hT, hM, hTx, hK, hU, hB⟩ := id hS
  obtain ⟨fm, fz, fl, fs, fd, g0, g1, g2, g3, ⟨c1, c2, c3, c4, c5, c6, c7, c8, c9⟩, ma, mz, ml, md, mg, ⟨sb1, sb2, sb3⟩, sb4, sb5⟩ := id hT
  obtain ⟨fn, cn, hf, mB1, mB2, mB3⟩ := id hM
  obtain ⟨fx, x1, x2, x3⟩ := id hTx
  obtain ⟨fk, bk, k1, k2, k3⟩ := id hK
  obtain ⟨fq, u1, u2⟩ := id hU
  have u3 := u2.1
  refine r_aload_n (pc' := 1) dX7_rate_0 rfl rfl ?_
  refine r_iconst (pc' := 2) (v := nI 0) dX7_rate_1 rfl rfl ?_
  refine r_put (pc' := 5) (ty := .int) (c' := .inr (6, [.int (nI 0), .long tr, .ref 61, .int (nI n), .int nx, .int tk, .int pl, .int va, .int fa, .ref 62, .ref 63, .ref 64, .ref 65, .ref 66, .ref 67, .ref 68, .ref 69, .ref 70, .ref 71, .ref 72, .ref 73, .ref 74, .int (nI U.length), .ref 75])) fX7_62 dX7_rate_2 rfl hX (Nat.le_of_ble_eq_true rfl) rfl (by decide +kernel) rfl rfl rfl ?_
  refine px_id hX ?_
  refine r_iload_n (pc' := 6) dX7_rate_5 rfl rfl ?_
  refine r_iconst (pc' := 7) (v := nI 0) dX7_rate_6 rfl rfl ?_
  refine r_iconst (pc' := 8) (v := nI 5) dX7_rate_7 rfl rfl ?_
  refine r_callS (pc' := 11) (av := [.int a, .int (nI 0), .int (nI 5)]) (rest := []) kX7_in vX7_in lX7_66 dX7_rate_8 rfl rfl rfl ⟨by decide, by decide, by decide⟩ rfl rfl (Nat.le_of_ble_eq_true rfl) (ct_in_c (n := 5) (by omega) ?_)
  show Wp g yX7_rate cX7_rate 7 (some .int) 3 0 0 (px_MQ g Q 0 0) 0 0 11 [some (.ref 60), some (.int a), some (.int b), none, none, none, none] [.int (bI (hasI a (5 + 1)))] w
  refine r_if_eq (pc' := 14) (P := (hasI a (5 + 1)) = false) (tgt := 22) dX7_rate_11 (by decide) rfl (bI_0) (fun h11 => ?_) (fun h11 => ?_)
  · skip
    refine r_ldc (pc' := 24) dX7_rate_22 rfl cnX7_184 ?_
    refine r_ireturn dX7_rate_24 rfl ?_
    refine px_eq (hQ w ?_ Frm.rf) ?_
    · simpa [rateT, h11] using hS
    · simp [rateR, h11]
  · have h11' : hasI a 6 = true := by simpa using h11
    obtain ⟨k, hk, rfl⟩ := hasI_t h11' (by omega)
    refine r_aload_n (pc' := 15) dX7_rate_14 rfl rfl ?_
    refine r_iload_n (pc' := 16) dX7_rate_15 rfl rfl ?_
    refine r_callV (pc' := 19) (av := [.int b]) (rest := []) kX7_isWordAt vX7_isWordAt lX7_126 dX7_rate_16 rfl hX rfl rfl rfl ⟨by decide, by decide, by decide⟩ rfl rfl (Nat.le_of_ble_eq_true rfl) (ct_X7_isWordAt hX hT hO hM  ?_)
    show Wp g yX7_rate cX7_rate 7 (some .int) 3 0 0 (px_MQ g Q 0 0) 0 0 19 [some (.ref 60), some (.int (nI k)), some (.int b), none, none, none, none] [.int (bI (hasI b (tW T)))] w
    refine r_if_ne (pc' := 22) (P := (hasI b (tW T)) = false) (tgt := 25) dX7_rate_19 (by decide) rfl (bI_0) (fun h19 => ?_) (fun h19 => ?_)
    · have h19' := (by simpa using h19 : hasI b _ = true)
      obtain ⟨i, hi, rfl⟩ := hasI_t h19' (by omega)
      refine r_aload_n (pc' := 26) dX7_rate_25 rfl rfl ?_
      refine r_get (pc' := 29) fX7_16 dX7_rate_26 rfl hX rfl ?_
      refine r_iload_n (pc' := 30) dX7_rate_29 rfl rfl ?_
      refine r_iaload (pc' := 31) (v := nI (tl T i)) dX7_rate_30 rfl c2 (vp_in_nI (n := i) (by omega) (by omega)) (by rw [nI_cl (by omega)]; exact (mz i (by omega)).1) ?_
      have e30 := sb4 i (by omega)
      have e30b := hO.1 i hi
      refine r_istore_n (pc' := 32) (lo' := [some (.ref 60), some (.int (nI k)), some (.int (nI i)), some (.int (nI (tl T i))), none, none, none]) dX7_rate_31 rfl (by decide) rfl ?_
      refine r_iconst (pc' := 33) (v := nI 0) dX7_rate_32 rfl rfl ?_
      refine r_istore (pc' := 35) (lo' := [some (.ref 60), some (.int (nI k)), some (.int (nI i)), some (.int (nI (tl T i))), some (.int (nI 0)), none, none]) dX7_rate_33 rfl (by decide) rfl ?_
      refine r_iconst (pc' := 36) (v := nI 0) dX7_rate_35 rfl rfl ?_
      refine r_istore (pc' := 38) (lo' := [some (.ref 60), some (.int (nI k)), some (.int (nI i)), some (.int (nI (tl T i))), some (.int (nI 0)), some (.int (nI 0)), none]) dX7_rate_36 rfl (by decide) rfl ?_
      have L38 : ∀ (fu : Nat) (xq : Nat), tl T i - xq < fu → xq ≤ tl T i → Wp g yX7_rate cX7_rate 7 (some .int) 3 0 0 (px_MQ g Q 0 0) 0 0 38 [some (.ref 60), some (.int (nI k)), some (.int (nI i)), some (.int (nI (tl T i))), some (.int (nI (nsum (fun x => if vow (tc T i x) then 1 else 0) xq))), some (.int (nI xq)), none] [] w := by
        intro fu; induction fu with
        | zero => intro xq hm; exact absurd hm (Nat.not_lt_zero _)
        | succ fu ih =>
          intro xq hm hx
          have ev := vwn_le T i xq
          have ih38 := ih; clear ih
          refine r_iload (pc' := 40) dX7_rate_38 rfl rfl ?_
          refine r_iload_n (pc' := 41) dX7_rate_40 rfl rfl ?_
          refine r_icmp_ge (pc' := 44) (P := tl T i ≤ xq) (tgt := 77) dX7_rate_41 (by decide) rfl (nI_leI (a := tl T i) (b := xq) (by omega) (by omega)) (fun h41 => ?_) (fun h41 => ?_)
          · obtain rfl : xq = tl T i := by omega
            have ev := vwn_le T i (tl T i)
            refine r_iload_n (pc' := 78) dX7_rate_77 rfl rfl ?_
            refine r_aload_n (pc' := 79) dX7_rate_78 rfl rfl ?_
            refine r_get (pc' := 82) fX7_22 dX7_rate_79 rfl hX rfl ?_
            refine r_iload_n (pc' := 83) dX7_rate_82 rfl rfl ?_
            refine r_iaload (pc' := 84) (v := nI (ts T i)) dX7_rate_83 rfl c4 (vp_in_nI (n := i) (by omega) (by omega)) (by rw [nI_cl (by omega)]; exact (mz i (by omega)).2) ?_
            have e83 := hO.1 i (by omega)
            refine r_iadd (pc' := 85) (v := nI (tl T i + (ts T i))) dX7_rate_84 rfl (nI_add (tl T i) (ts T i)) ?_
            refine r_istore (pc' := 87) (lo' := [some (.ref 60), some (.int (nI k)), some (.int (nI i)), some (.int (nI (tl T i))), some (.int (nI (nsum (fun x => if vow (tc T i x) then 1 else 0) (tl T i)))), some (.int (nI (tl T i + (ts T i)))), none]) dX7_rate_85 rfl (by decide) rfl ?_
            refine r_iload_n (pc' := 88) dX7_rate_87 rfl rfl ?_
            refine r_iload (pc' := 90) dX7_rate_88 rfl rfl ?_
            refine r_isub (pc' := 91) (v := nI (tl T i - (nsum (fun x => if vow (tc T i x) then 1 else 0) (tl T i)))) dX7_rate_90 rfl (pk_sub (a := tl T i) (b := nsum (fun x => if vow (tc T i x) then 1 else 0) (tl T i)) (by omega)) ?_
            refine r_istore (pc' := 93) (lo' := [some (.ref 60), some (.int (nI k)), some (.int (nI i)), some (.int (nI (tl T i))), some (.int (nI (nsum (fun x => if vow (tc T i x) then 1 else 0) (tl T i)))), some (.int (nI (tl T i + (ts T i)))), some (.int (nI (tl T i - (nsum (fun x => if vow (tc T i x) then 1 else 0) (tl T i)))))]) dX7_rate_91 rfl (by decide) rfl ?_
            refine r_aload_n (pc' := 94) dX7_rate_93 rfl rfl ?_
            refine r_dup (pc' := 95) dX7_rate_94 rfl rfl ?_
            refine r_get (pc' := 98) fX7_185 dX7_rate_95 rfl hX rfl ?_
            rcases (show k = 0 ∨ k = 1 ∨ k = 2 ∨ k = 3 ∨ k = 4 ∨ k = 5 by omega) with rfl | rfl | rfl | rfl | rfl | rfl
            · skip
              refine r_iload_n (pc' := 99) dX7_rate_98 rfl rfl ?_
              refine r_if_ne (pc' := 102) (P := 0 = 0) (tgt := 106) dX7_rate_99 (by decide) rfl (nI_eq0 (n := 0) (by omega)) (fun h99 => ?_) (fun h99 => ?_)
              · skip
                exfalso; omega
              · skip
                refine r_lconst (pc' := 103) (v := 1) dX7_rate_102 rfl rfl ?_
                refine r_goto (tgt := 153) dX7_rate_103 (by decide) ?_
                refine r_ladd (pc' := 154) (v := tr + 1) dX7_rate_153 rfl (rfl) ?_
                refine r_put (pc' := 157) (ty := .long) (c' := .inr (6, [.int (nI 0), .long (tr + 1), .ref 61, .int (nI n), .int nx, .int tk, .int pl, .int va, .int fa, .ref 62, .ref 63, .ref 64, .ref 65, .ref 66, .ref 67, .ref 68, .ref 69, .ref 70, .ref 71, .ref 72, .ref 73, .ref 74, .int (nI U.length), .ref 75])) fX7_185 dX7_rate_154 rfl hX (Nat.le_of_ble_eq_true rfl) rfl (by decide +kernel) rfl rfl rfl ?_
                refine r_iload_n (pc' := 158) dX7_rate_157 rfl rfl ?_
                refine r_if_ne (pc' := 161) (P := 0 = 0) (tgt := 165) dX7_rate_158 (by decide) rfl (nI_eq0 (n := 0) (by omega)) (fun h158 => ?_) (fun h158 => ?_)
                · skip
                  exfalso; omega
                · skip
                  refine r_iload_n (pc' := 162) dX7_rate_161 rfl rfl ?_
                  refine r_goto (tgt := 218) dX7_rate_162 (by decide) ?_
                  refine r_ireturn dX7_rate_218 rfl ?_
                  have ho : (hasI (nI 0) 6 && hasI (nI i) (tW T)) = true := by rw [h19']; rfl
                  rw [rateR, rateT, if_pos ho, if_pos ho, nI_cl (show i < 2 ^ 31 by omega)] at hQ
                  refine px_eq (hQ (w.set 60 (.inr (6, [.int (nI 0), .long (tr + 1), .ref 61, .int (nI n), .int nx, .int tk, .int pl, .int va, .int fa, .ref 62, .ref 63, .ref 64, .ref 65, .ref 66, .ref 67, .ref 68, .ref 69, .ref 70, .ref 71, .ref 72, .ref 73, .ref 74, .int (nI U.length), .ref 75]))) ⟨nx, tk, pl, va, fa, gs_eq hX, (hT.fr (a := 60) (b := 61) (Frm.set (by omega) (by omega)) (by omega)), (hM.fr (a := 60) (b := 61) (Frm.set (by omega) (by omega)) (by omega)), (hTx.fr (a := 60) (b := 61) (Frm.set (by omega) (by omega)) (by omega)), (hK.fr (a := 60) (b := 61) (Frm.set (by omega) (by omega)) (by omega)), (hU.fr (a := 60) (b := 61) (Frm.set (by omega) (by omega)) (by omega)), (hB.fr (a := 60) (b := 61) (Frm.set (by omega) (by omega)) (by omega))⟩ ((Frm.rf (a := 60) (b := 76)).sets (k := 60) (by omega) (by omega))) ?_
                  rfl
            · skip
              refine r_iload_n (pc' := 99) dX7_rate_98 rfl rfl ?_
              refine r_if_ne (pc' := 102) (P := 1 = 0) (tgt := 106) dX7_rate_99 (by decide) rfl (nI_eq0 (n := 1) (by omega)) (fun h99 => ?_) (fun h99 => ?_)
              · skip
                refine r_iload_n (pc' := 107) dX7_rate_106 rfl rfl ?_
                refine r_iconst (pc' := 108) (v := nI 1) dX7_rate_107 rfl rfl ?_
                refine r_icmp_ne (pc' := 111) (P := 1 = 1) (tgt := 117) dX7_rate_108 (by decide) rfl (nI_eq (a := 1) (b := 1) (by omega) (by omega)) (fun h108 => ?_) (fun h108 => ?_)
                · skip
                  exfalso; omega
                · skip
                  refine r_ldc2 (pc' := 114) dX7_rate_111 rfl cnX7_189 ?_
                  refine r_goto (tgt := 153) dX7_rate_114 (by decide) ?_
                  refine r_ladd (pc' := 154) (v := tr + 11) dX7_rate_153 rfl (rfl) ?_
                  refine r_put (pc' := 157) (ty := .long) (c' := .inr (6, [.int (nI 0), .long (tr + 11), .ref 61, .int (nI n), .int nx, .int tk, .int pl, .int va, .int fa, .ref 62, .ref 63, .ref 64, .ref 65, .ref 66, .ref 67, .ref 68, .ref 69, .ref 70, .ref 71, .ref 72, .ref 73, .ref 74, .int (nI U.length), .ref 75])) fX7_185 dX7_rate_154 rfl hX (Nat.le_of_ble_eq_true rfl) rfl (by decide +kernel) rfl rfl rfl ?_
                  refine r_iload_n (pc' := 158) dX7_rate_157 rfl rfl ?_
                  refine r_if_ne (pc' := 161) (P := 1 = 0) (tgt := 165) dX7_rate_158 (by decide) rfl (nI_eq0 (n := 1) (by omega)) (fun h158 => ?_) (fun h158 => ?_)
                  · skip
                    refine r_iload_n (pc' := 166) dX7_rate_165 rfl rfl ?_
                    refine r_iconst (pc' := 167) (v := nI 1) dX7_rate_166 rfl rfl ?_
                    refine r_icmp_ne (pc' := 170) (P := 1 = 1) (tgt := 175) dX7_rate_167 (by decide) rfl (nI_eq (a := 1) (b := 1) (by omega) (by omega)) (fun h167 => ?_) (fun h167 => ?_)
                    · skip
                      exfalso; omega
                    · skip
                      refine r_iload (pc' := 172) dX7_rate_170 rfl rfl ?_
                      refine r_goto (tgt := 218) dX7_rate_172 (by decide) ?_
                      refine r_ireturn dX7_rate_218 rfl ?_
                      have ho : (hasI (nI 1) 6 && hasI (nI i) (tW T)) = true := by rw [h19']; rfl
                      rw [rateR, rateT, if_pos ho, if_pos ho, nI_cl (show i < 2 ^ 31 by omega)] at hQ
                      refine px_eq (hQ (w.set 60 (.inr (6, [.int (nI 0), .long (tr + 11), .ref 61, .int (nI n), .int nx, .int tk, .int pl, .int va, .int fa, .ref 62, .ref 63, .ref 64, .ref 65, .ref 66, .ref 67, .ref 68, .ref 69, .ref 70, .ref 71, .ref 72, .ref 73, .ref 74, .int (nI U.length), .ref 75]))) ⟨nx, tk, pl, va, fa, gs_eq hX, (hT.fr (a := 60) (b := 61) (Frm.set (by omega) (by omega)) (by omega)), (hM.fr (a := 60) (b := 61) (Frm.set (by omega) (by omega)) (by omega)), (hTx.fr (a := 60) (b := 61) (Frm.set (by omega) (by omega)) (by omega)), (hK.fr (a := 60) (b := 61) (Frm.set (by omega) (by omega)) (by omega)), (hU.fr (a := 60) (b := 61) (Frm.set (by omega) (by omega)) (by omega)), (hB.fr (a := 60) (b := 61) (Frm.set (by omega) (by omega)) (by omega))⟩ ((Frm.rf (a := 60) (b := 76)).sets (k := 60) (by omega) (by omega))) ?_
                      rfl
                  · skip
                    exfalso; omega
              · skip
                exfalso; omega
            · skip
              refine r_iload_n (pc' := 99) dX7_rate_98 rfl rfl ?_
              refine r_if_ne (pc' := 102) (P := 2 = 0) (tgt := 106) dX7_rate_99 (by decide) rfl (nI_eq0 (n := 2) (by omega)) (fun h99 => ?_) (fun h99 => ?_)
              · skip
                refine r_iload_n (pc' := 107) dX7_rate_106 rfl rfl ?_
                refine r_iconst (pc' := 108) (v := nI 1) dX7_rate_107 rfl rfl ?_
                refine r_icmp_ne (pc' := 111) (P := 2 = 1) (tgt := 117) dX7_rate_108 (by decide) rfl (nI_eq (a := 2) (b := 1) (by omega) (by omega)) (fun h108 => ?_) (fun h108 => ?_)
                · skip
                  refine r_iload_n (pc' := 118) dX7_rate_117 rfl rfl ?_
                  refine r_iconst (pc' := 119) (v := nI 2) dX7_rate_118 rfl rfl ?_
                  refine r_icmp_ne (pc' := 122) (P := 2 = 2) (tgt := 128) dX7_rate_119 (by decide) rfl (nI_eq (a := 2) (b := 2) (by omega) (by omega)) (fun h119 => ?_) (fun h119 => ?_)
                  · skip
                    exfalso; omega
                  · skip
                    refine r_ldc2 (pc' := 125) dX7_rate_122 rfl cnX7_191 ?_
                    refine r_goto (tgt := 153) dX7_rate_125 (by decide) ?_
                    refine r_ladd (pc' := 154) (v := tr + 101) dX7_rate_153 rfl (rfl) ?_
                    refine r_put (pc' := 157) (ty := .long) (c' := .inr (6, [.int (nI 0), .long (tr + 101), .ref 61, .int (nI n), .int nx, .int tk, .int pl, .int va, .int fa, .ref 62, .ref 63, .ref 64, .ref 65, .ref 66, .ref 67, .ref 68, .ref 69, .ref 70, .ref 71, .ref 72, .ref 73, .ref 74, .int (nI U.length), .ref 75])) fX7_185 dX7_rate_154 rfl hX (Nat.le_of_ble_eq_true rfl) rfl (by decide +kernel) rfl rfl rfl ?_
                    refine r_iload_n (pc' := 158) dX7_rate_157 rfl rfl ?_
                    refine r_if_ne (pc' := 161) (P := 2 = 0) (tgt := 165) dX7_rate_158 (by decide) rfl (nI_eq0 (n := 2) (by omega)) (fun h158 => ?_) (fun h158 => ?_)
                    · skip
                      refine r_iload_n (pc' := 166) dX7_rate_165 rfl rfl ?_
                      refine r_iconst (pc' := 167) (v := nI 1) dX7_rate_166 rfl rfl ?_
                      refine r_icmp_ne (pc' := 170) (P := 2 = 1) (tgt := 175) dX7_rate_167 (by decide) rfl (nI_eq (a := 2) (b := 1) (by omega) (by omega)) (fun h167 => ?_) (fun h167 => ?_)
                      · skip
                        refine r_iload_n (pc' := 176) dX7_rate_175 rfl rfl ?_
                        refine r_iconst (pc' := 177) (v := nI 2) dX7_rate_176 rfl rfl ?_
                        refine r_icmp_ne (pc' := 180) (P := 2 = 2) (tgt := 185) dX7_rate_177 (by decide) rfl (nI_eq (a := 2) (b := 2) (by omega) (by omega)) (fun h177 => ?_) (fun h177 => ?_)
                        · skip
                          exfalso; omega
                        · skip
                          refine r_iload (pc' := 182) dX7_rate_180 rfl rfl ?_
                          refine r_goto (tgt := 218) dX7_rate_182 (by decide) ?_
                          refine r_ireturn dX7_rate_218 rfl ?_
                          have ho : (hasI (nI 2) 6 && hasI (nI i) (tW T)) = true := by rw [h19']; rfl
                          rw [rateR, rateT, if_pos ho, if_pos ho, nI_cl (show i < 2 ^ 31 by omega)] at hQ
                          refine px_eq (hQ (w.set 60 (.inr (6, [.int (nI 0), .long (tr + 101), .ref 61, .int (nI n), .int nx, .int tk, .int pl, .int va, .int fa, .ref 62, .ref 63, .ref 64, .ref 65, .ref 66, .ref 67, .ref 68, .ref 69, .ref 70, .ref 71, .ref 72, .ref 73, .ref 74, .int (nI U.length), .ref 75]))) ⟨nx, tk, pl, va, fa, gs_eq hX, (hT.fr (a := 60) (b := 61) (Frm.set (by omega) (by omega)) (by omega)), (hM.fr (a := 60) (b := 61) (Frm.set (by omega) (by omega)) (by omega)), (hTx.fr (a := 60) (b := 61) (Frm.set (by omega) (by omega)) (by omega)), (hK.fr (a := 60) (b := 61) (Frm.set (by omega) (by omega)) (by omega)), (hU.fr (a := 60) (b := 61) (Frm.set (by omega) (by omega)) (by omega)), (hB.fr (a := 60) (b := 61) (Frm.set (by omega) (by omega)) (by omega))⟩ ((Frm.rf (a := 60) (b := 76)).sets (k := 60) (by omega) (by omega))) ?_
                          rfl
                      · skip
                        exfalso; omega
                    · skip
                      exfalso; omega
                · skip
                  exfalso; omega
              · skip
                exfalso; omega
            · skip
              refine r_iload_n (pc' := 99) dX7_rate_98 rfl rfl ?_
              refine r_if_ne (pc' := 102) (P := 3 = 0) (tgt := 106) dX7_rate_99 (by decide) rfl (nI_eq0 (n := 3) (by omega)) (fun h99 => ?_) (fun h99 => ?_)
              · skip
                refine r_iload_n (pc' := 107) dX7_rate_106 rfl rfl ?_
                refine r_iconst (pc' := 108) (v := nI 1) dX7_rate_107 rfl rfl ?_
                refine r_icmp_ne (pc' := 111) (P := 3 = 1) (tgt := 117) dX7_rate_108 (by decide) rfl (nI_eq (a := 3) (b := 1) (by omega) (by omega)) (fun h108 => ?_) (fun h108 => ?_)
                · skip
                  refine r_iload_n (pc' := 118) dX7_rate_117 rfl rfl ?_
                  refine r_iconst (pc' := 119) (v := nI 2) dX7_rate_118 rfl rfl ?_
                  refine r_icmp_ne (pc' := 122) (P := 3 = 2) (tgt := 128) dX7_rate_119 (by decide) rfl (nI_eq (a := 3) (b := 2) (by omega) (by omega)) (fun h119 => ?_) (fun h119 => ?_)
                  · skip
                    refine r_iload_n (pc' := 129) dX7_rate_128 rfl rfl ?_
                    refine r_iconst (pc' := 130) (v := nI 3) dX7_rate_129 rfl rfl ?_
                    refine r_icmp_ne (pc' := 133) (P := 3 = 3) (tgt := 139) dX7_rate_130 (by decide) rfl (nI_eq (a := 3) (b := 3) (by omega) (by omega)) (fun h130 => ?_) (fun h130 => ?_)
                    · skip
                      exfalso; omega
                    · skip
                      refine r_ldc2 (pc' := 136) dX7_rate_133 rfl cnX7_193 ?_
                      refine r_goto (tgt := 153) dX7_rate_136 (by decide) ?_
                      refine r_ladd (pc' := 154) (v := tr + 1011) dX7_rate_153 rfl (rfl) ?_
                      refine r_put (pc' := 157) (ty := .long) (c' := .inr (6, [.int (nI 0), .long (tr + 1011), .ref 61, .int (nI n), .int nx, .int tk, .int pl, .int va, .int fa, .ref 62, .ref 63, .ref 64, .ref 65, .ref 66, .ref 67, .ref 68, .ref 69, .ref 70, .ref 71, .ref 72, .ref 73, .ref 74, .int (nI U.length), .ref 75])) fX7_185 dX7_rate_154 rfl hX (Nat.le_of_ble_eq_true rfl) rfl (by decide +kernel) rfl rfl rfl ?_
                      refine r_iload_n (pc' := 158) dX7_rate_157 rfl rfl ?_
                      refine r_if_ne (pc' := 161) (P := 3 = 0) (tgt := 165) dX7_rate_158 (by decide) rfl (nI_eq0 (n := 3) (by omega)) (fun h158 => ?_) (fun h158 => ?_)
                      · skip
                        refine r_iload_n (pc' := 166) dX7_rate_165 rfl rfl ?_
                        refine r_iconst (pc' := 167) (v := nI 1) dX7_rate_166 rfl rfl ?_
                        refine r_icmp_ne (pc' := 170) (P := 3 = 1) (tgt := 175) dX7_rate_167 (by decide) rfl (nI_eq (a := 3) (b := 1) (by omega) (by omega)) (fun h167 => ?_) (fun h167 => ?_)
                        · skip
                          refine r_iload_n (pc' := 176) dX7_rate_175 rfl rfl ?_
                          refine r_iconst (pc' := 177) (v := nI 2) dX7_rate_176 rfl rfl ?_
                          refine r_icmp_ne (pc' := 180) (P := 3 = 2) (tgt := 185) dX7_rate_177 (by decide) rfl (nI_eq (a := 3) (b := 2) (by omega) (by omega)) (fun h177 => ?_) (fun h177 => ?_)
                          · skip
                            refine r_iload_n (pc' := 186) dX7_rate_185 rfl rfl ?_
                            refine r_iconst (pc' := 187) (v := nI 3) dX7_rate_186 rfl rfl ?_
                            refine r_icmp_ne (pc' := 190) (P := 3 = 3) (tgt := 197) dX7_rate_187 (by decide) rfl (nI_eq (a := 3) (b := 3) (by omega) (by omega)) (fun h187 => ?_) (fun h187 => ?_)
                            · skip
                              exfalso; omega
                            · skip
                              refine r_iconst (pc' := 191) (v := nI 2) dX7_rate_190 rfl rfl ?_
                              refine r_iload (pc' := 193) dX7_rate_191 rfl rfl ?_
                              refine r_imul (pc' := 194) (v := nI (2 * (tl T i + (ts T i)))) dX7_rate_193 rfl (pk_mul 2 (tl T i + (ts T i))) ?_
                              refine r_goto (tgt := 218) dX7_rate_194 (by decide) ?_
                              refine r_ireturn dX7_rate_218 rfl ?_
                              have ho : (hasI (nI 3) 6 && hasI (nI i) (tW T)) = true := by rw [h19']; rfl
                              rw [rateR, rateT, if_pos ho, if_pos ho, nI_cl (show i < 2 ^ 31 by omega)] at hQ
                              refine px_eq (hQ (w.set 60 (.inr (6, [.int (nI 0), .long (tr + 1011), .ref 61, .int (nI n), .int nx, .int tk, .int pl, .int va, .int fa, .ref 62, .ref 63, .ref 64, .ref 65, .ref 66, .ref 67, .ref 68, .ref 69, .ref 70, .ref 71, .ref 72, .ref 73, .ref 74, .int (nI U.length), .ref 75]))) ⟨nx, tk, pl, va, fa, gs_eq hX, (hT.fr (a := 60) (b := 61) (Frm.set (by omega) (by omega)) (by omega)), (hM.fr (a := 60) (b := 61) (Frm.set (by omega) (by omega)) (by omega)), (hTx.fr (a := 60) (b := 61) (Frm.set (by omega) (by omega)) (by omega)), (hK.fr (a := 60) (b := 61) (Frm.set (by omega) (by omega)) (by omega)), (hU.fr (a := 60) (b := 61) (Frm.set (by omega) (by omega)) (by omega)), (hB.fr (a := 60) (b := 61) (Frm.set (by omega) (by omega)) (by omega))⟩ ((Frm.rf (a := 60) (b := 76)).sets (k := 60) (by omega) (by omega))) ?_
                              rfl
                          · skip
                            exfalso; omega
                        · skip
                          exfalso; omega
                      · skip
                        exfalso; omega
                  · skip
                    exfalso; omega
                · skip
                  exfalso; omega
              · skip
                exfalso; omega
            · skip
              refine r_iload_n (pc' := 99) dX7_rate_98 rfl rfl ?_
              refine r_if_ne (pc' := 102) (P := 4 = 0) (tgt := 106) dX7_rate_99 (by decide) rfl (nI_eq0 (n := 4) (by omega)) (fun h99 => ?_) (fun h99 => ?_)
              · skip
                refine r_iload_n (pc' := 107) dX7_rate_106 rfl rfl ?_
                refine r_iconst (pc' := 108) (v := nI 1) dX7_rate_107 rfl rfl ?_
                refine r_icmp_ne (pc' := 111) (P := 4 = 1) (tgt := 117) dX7_rate_108 (by decide) rfl (nI_eq (a := 4) (b := 1) (by omega) (by omega)) (fun h108 => ?_) (fun h108 => ?_)
                · skip
                  refine r_iload_n (pc' := 118) dX7_rate_117 rfl rfl ?_
                  refine r_iconst (pc' := 119) (v := nI 2) dX7_rate_118 rfl rfl ?_
                  refine r_icmp_ne (pc' := 122) (P := 4 = 2) (tgt := 128) dX7_rate_119 (by decide) rfl (nI_eq (a := 4) (b := 2) (by omega) (by omega)) (fun h119 => ?_) (fun h119 => ?_)
                  · skip
                    refine r_iload_n (pc' := 129) dX7_rate_128 rfl rfl ?_
                    refine r_iconst (pc' := 130) (v := nI 3) dX7_rate_129 rfl rfl ?_
                    refine r_icmp_ne (pc' := 133) (P := 4 = 3) (tgt := 139) dX7_rate_130 (by decide) rfl (nI_eq (a := 4) (b := 3) (by omega) (by omega)) (fun h130 => ?_) (fun h130 => ?_)
                    · skip
                      refine r_iload_n (pc' := 140) dX7_rate_139 rfl rfl ?_
                      refine r_iconst (pc' := 141) (v := nI 4) dX7_rate_140 rfl rfl ?_
                      refine r_icmp_ne (pc' := 144) (P := 4 = 4) (tgt := 150) dX7_rate_141 (by decide) rfl (nI_eq (a := 4) (b := 4) (by omega) (by omega)) (fun h141 => ?_) (fun h141 => ?_)
                      · skip
                        exfalso; omega
                      · skip
                        refine r_ldc2 (pc' := 147) dX7_rate_144 rfl cnX7_195 ?_
                        refine r_goto (tgt := 153) dX7_rate_147 (by decide) ?_
                        refine r_ladd (pc' := 154) (v := tr + 10101) dX7_rate_153 rfl (rfl) ?_
                        refine r_put (pc' := 157) (ty := .long) (c' := .inr (6, [.int (nI 0), .long (tr + 10101), .ref 61, .int (nI n), .int nx, .int tk, .int pl, .int va, .int fa, .ref 62, .ref 63, .ref 64, .ref 65, .ref 66, .ref 67, .ref 68, .ref 69, .ref 70, .ref 71, .ref 72, .ref 73, .ref 74, .int (nI U.length), .ref 75])) fX7_185 dX7_rate_154 rfl hX (Nat.le_of_ble_eq_true rfl) rfl (by decide +kernel) rfl rfl rfl ?_
                        refine r_iload_n (pc' := 158) dX7_rate_157 rfl rfl ?_
                        refine r_if_ne (pc' := 161) (P := 4 = 0) (tgt := 165) dX7_rate_158 (by decide) rfl (nI_eq0 (n := 4) (by omega)) (fun h158 => ?_) (fun h158 => ?_)
                        · skip
                          refine r_iload_n (pc' := 166) dX7_rate_165 rfl rfl ?_
                          refine r_iconst (pc' := 167) (v := nI 1) dX7_rate_166 rfl rfl ?_
                          refine r_icmp_ne (pc' := 170) (P := 4 = 1) (tgt := 175) dX7_rate_167 (by decide) rfl (nI_eq (a := 4) (b := 1) (by omega) (by omega)) (fun h167 => ?_) (fun h167 => ?_)
                          · skip
                            refine r_iload_n (pc' := 176) dX7_rate_175 rfl rfl ?_
                            refine r_iconst (pc' := 177) (v := nI 2) dX7_rate_176 rfl rfl ?_
                            refine r_icmp_ne (pc' := 180) (P := 4 = 2) (tgt := 185) dX7_rate_177 (by decide) rfl (nI_eq (a := 4) (b := 2) (by omega) (by omega)) (fun h177 => ?_) (fun h177 => ?_)
                            · skip
                              refine r_iload_n (pc' := 186) dX7_rate_185 rfl rfl ?_
                              refine r_iconst (pc' := 187) (v := nI 3) dX7_rate_186 rfl rfl ?_
                              refine r_icmp_ne (pc' := 190) (P := 4 = 3) (tgt := 197) dX7_rate_187 (by decide) rfl (nI_eq (a := 4) (b := 3) (by omega) (by omega)) (fun h187 => ?_) (fun h187 => ?_)
                              · skip
                                refine r_iload_n (pc' := 198) dX7_rate_197 rfl rfl ?_
                                refine r_iconst (pc' := 199) (v := nI 4) dX7_rate_198 rfl rfl ?_
                                refine r_icmp_ne (pc' := 202) (P := 4 = 4) (tgt := 209) dX7_rate_199 (by decide) rfl (nI_eq (a := 4) (b := 4) (by omega) (by omega)) (fun h199 => ?_) (fun h199 => ?_)
                                · skip
                                  exfalso; omega
                                · skip
                                  refine r_iload (pc' := 204) dX7_rate_202 rfl rfl ?_
                                  refine r_iload_n (pc' := 205) dX7_rate_204 rfl rfl ?_
                                  refine r_iadd (pc' := 206) (v := nI (tl T i - (nsum (fun x => if vow (tc T i x) then 1 else 0) (tl T i)) + i)) dX7_rate_205 rfl (nI_add (tl T i - (nsum (fun x => if vow (tc T i x) then 1 else 0) (tl T i))) i) ?_
                                  refine r_goto (tgt := 218) dX7_rate_206 (by decide) ?_
                                  refine r_ireturn dX7_rate_218 rfl ?_
                                  have ho : (hasI (nI 4) 6 && hasI (nI i) (tW T)) = true := by rw [h19']; rfl
                                  rw [rateR, rateT, if_pos ho, if_pos ho, nI_cl (show i < 2 ^ 31 by omega)] at hQ
                                  refine px_eq (hQ (w.set 60 (.inr (6, [.int (nI 0), .long (tr + 10101), .ref 61, .int (nI n), .int nx, .int tk, .int pl, .int va, .int fa, .ref 62, .ref 63, .ref 64, .ref 65, .ref 66, .ref 67, .ref 68, .ref 69, .ref 70, .ref 71, .ref 72, .ref 73, .ref 74, .int (nI U.length), .ref 75]))) ⟨nx, tk, pl, va, fa, gs_eq hX, (hT.fr (a := 60) (b := 61) (Frm.set (by omega) (by omega)) (by omega)), (hM.fr (a := 60) (b := 61) (Frm.set (by omega) (by omega)) (by omega)), (hTx.fr (a := 60) (b := 61) (Frm.set (by omega) (by omega)) (by omega)), (hK.fr (a := 60) (b := 61) (Frm.set (by omega) (by omega)) (by omega)), (hU.fr (a := 60) (b := 61) (Frm.set (by omega) (by omega)) (by omega)), (hB.fr (a := 60) (b := 61) (Frm.set (by omega) (by omega)) (by omega))⟩ ((Frm.rf (a := 60) (b := 76)).sets (k := 60) (by omega) (by omega))) ?_
                                  rfl
                              · skip
                                exfalso; omega
                            · skip
                              exfalso; omega
                          · skip
                            exfalso; omega
                        · skip
                          exfalso; omega
                    · skip
                      exfalso; omega
                  · skip
                    exfalso; omega
                · skip
                  exfalso; omega
              · skip
                exfalso; omega
            · skip
              refine r_iload_n (pc' := 99) dX7_rate_98 rfl rfl ?_
              refine r_if_ne (pc' := 102) (P := 5 = 0) (tgt := 106) dX7_rate_99 (by decide) rfl (nI_eq0 (n := 5) (by omega)) (fun h99 => ?_) (fun h99 => ?_)
              · skip
                refine r_iload_n (pc' := 107) dX7_rate_106 rfl rfl ?_
                refine r_iconst (pc' := 108) (v := nI 1) dX7_rate_107 rfl rfl ?_
                refine r_icmp_ne (pc' := 111) (P := 5 = 1) (tgt := 117) dX7_rate_108 (by decide) rfl (nI_eq (a := 5) (b := 1) (by omega) (by omega)) (fun h108 => ?_) (fun h108 => ?_)
                · skip
                  refine r_iload_n (pc' := 118) dX7_rate_117 rfl rfl ?_
                  refine r_iconst (pc' := 119) (v := nI 2) dX7_rate_118 rfl rfl ?_
                  refine r_icmp_ne (pc' := 122) (P := 5 = 2) (tgt := 128) dX7_rate_119 (by decide) rfl (nI_eq (a := 5) (b := 2) (by omega) (by omega)) (fun h119 => ?_) (fun h119 => ?_)
                  · skip
                    refine r_iload_n (pc' := 129) dX7_rate_128 rfl rfl ?_
                    refine r_iconst (pc' := 130) (v := nI 3) dX7_rate_129 rfl rfl ?_
                    refine r_icmp_ne (pc' := 133) (P := 5 = 3) (tgt := 139) dX7_rate_130 (by decide) rfl (nI_eq (a := 5) (b := 3) (by omega) (by omega)) (fun h130 => ?_) (fun h130 => ?_)
                    · skip
                      refine r_iload_n (pc' := 140) dX7_rate_139 rfl rfl ?_
                      refine r_iconst (pc' := 141) (v := nI 4) dX7_rate_140 rfl rfl ?_
                      refine r_icmp_ne (pc' := 144) (P := 5 = 4) (tgt := 150) dX7_rate_141 (by decide) rfl (nI_eq (a := 5) (b := 4) (by omega) (by omega)) (fun h141 => ?_) (fun h141 => ?_)
                      · skip
                        refine r_ldc2 (pc' := 153) dX7_rate_150 rfl cnX7_197 ?_
                        refine r_ladd (pc' := 154) (v := tr + 100001) dX7_rate_153 rfl (rfl) ?_
                        refine r_put (pc' := 157) (ty := .long) (c' := .inr (6, [.int (nI 0), .long (tr + 100001), .ref 61, .int (nI n), .int nx, .int tk, .int pl, .int va, .int fa, .ref 62, .ref 63, .ref 64, .ref 65, .ref 66, .ref 67, .ref 68, .ref 69, .ref 70, .ref 71, .ref 72, .ref 73, .ref 74, .int (nI U.length), .ref 75])) fX7_185 dX7_rate_154 rfl hX (Nat.le_of_ble_eq_true rfl) rfl (by decide +kernel) rfl rfl rfl ?_
                        refine r_iload_n (pc' := 158) dX7_rate_157 rfl rfl ?_
                        refine r_if_ne (pc' := 161) (P := 5 = 0) (tgt := 165) dX7_rate_158 (by decide) rfl (nI_eq0 (n := 5) (by omega)) (fun h158 => ?_) (fun h158 => ?_)
                        · skip
                          refine r_iload_n (pc' := 166) dX7_rate_165 rfl rfl ?_
                          refine r_iconst (pc' := 167) (v := nI 1) dX7_rate_166 rfl rfl ?_
                          refine r_icmp_ne (pc' := 170) (P := 5 = 1) (tgt := 175) dX7_rate_167 (by decide) rfl (nI_eq (a := 5) (b := 1) (by omega) (by omega)) (fun h167 => ?_) (fun h167 => ?_)
                          · skip
                            refine r_iload_n (pc' := 176) dX7_rate_175 rfl rfl ?_
                            refine r_iconst (pc' := 177) (v := nI 2) dX7_rate_176 rfl rfl ?_
                            refine r_icmp_ne (pc' := 180) (P := 5 = 2) (tgt := 185) dX7_rate_177 (by decide) rfl (nI_eq (a := 5) (b := 2) (by omega) (by omega)) (fun h177 => ?_) (fun h177 => ?_)
                            · skip
                              refine r_iload_n (pc' := 186) dX7_rate_185 rfl rfl ?_
                              refine r_iconst (pc' := 187) (v := nI 3) dX7_rate_186 rfl rfl ?_
                              refine r_icmp_ne (pc' := 190) (P := 5 = 3) (tgt := 197) dX7_rate_187 (by decide) rfl (nI_eq (a := 5) (b := 3) (by omega) (by omega)) (fun h187 => ?_) (fun h187 => ?_)
                              · skip
                                refine r_iload_n (pc' := 198) dX7_rate_197 rfl rfl ?_
                                refine r_iconst (pc' := 199) (v := nI 4) dX7_rate_198 rfl rfl ?_
                                refine r_icmp_ne (pc' := 202) (P := 5 = 4) (tgt := 209) dX7_rate_199 (by decide) rfl (nI_eq (a := 5) (b := 4) (by omega) (by omega)) (fun h199 => ?_) (fun h199 => ?_)
                                · skip
                                  refine r_iload_n (pc' := 210) dX7_rate_209 rfl rfl ?_
                                  refine r_aload_n (pc' := 211) dX7_rate_210 rfl rfl ?_
                                  refine r_get (pc' := 214) fX7_40 dX7_rate_211 rfl (gs_eq hX) rfl ?_
                                  refine r_bipush (pc' := 216) (v := nI 36) dX7_rate_214 rfl rfl ?_
                                  refine r_iaload (pc' := 217) (v := nI (nh M)) dX7_rate_216 rfl (gs_ne cn (by decide)) (vp_in_nI (n := 36) (by omega) (by omega)) (by rw [nI_cl (by omega), hf _ (by omega), sv_h]) ?_
                                  refine r_iadd (pc' := 218) (v := nI (tl T i + (nh M))) dX7_rate_217 rfl (nI_add (tl T i) (nh M)) ?_
                                  refine r_ireturn dX7_rate_218 rfl ?_
                                  have ho : (hasI (nI 5) 6 && hasI (nI i) (tW T)) = true := by rw [h19']; rfl
                                  rw [rateR, rateT, if_pos ho, if_pos ho, nI_cl (show i < 2 ^ 31 by omega)] at hQ
                                  refine px_eq (hQ (w.set 60 (.inr (6, [.int (nI 0), .long (tr + 100001), .ref 61, .int (nI n), .int nx, .int tk, .int pl, .int va, .int fa, .ref 62, .ref 63, .ref 64, .ref 65, .ref 66, .ref 67, .ref 68, .ref 69, .ref 70, .ref 71, .ref 72, .ref 73, .ref 74, .int (nI U.length), .ref 75]))) ⟨nx, tk, pl, va, fa, gs_eq hX, (hT.fr (a := 60) (b := 61) (Frm.set (by omega) (by omega)) (by omega)), (hM.fr (a := 60) (b := 61) (Frm.set (by omega) (by omega)) (by omega)), (hTx.fr (a := 60) (b := 61) (Frm.set (by omega) (by omega)) (by omega)), (hK.fr (a := 60) (b := 61) (Frm.set (by omega) (by omega)) (by omega)), (hU.fr (a := 60) (b := 61) (Frm.set (by omega) (by omega)) (by omega)), (hB.fr (a := 60) (b := 61) (Frm.set (by omega) (by omega)) (by omega))⟩ ((Frm.rf (a := 60) (b := 76)).sets (k := 60) (by omega) (by omega))) ?_
                                  rfl
                                · skip
                                  exfalso; omega
                              · skip
                                exfalso; omega
                            · skip
                              exfalso; omega
                          · skip
                            exfalso; omega
                        · skip
                          exfalso; omega
                      · skip
                        exfalso; omega
                    · skip
                      exfalso; omega
                  · skip
                    exfalso; omega
                · skip
                  exfalso; omega
              · skip
                exfalso; omega
            
          · skip
            refine r_iload (pc' := 46) dX7_rate_44 rfl rfl ?_
            refine r_aload_n (pc' := 47) dX7_rate_46 rfl rfl ?_
            refine r_get (pc' := 50) fX7_19 dX7_rate_47 rfl hX rfl ?_
            refine r_bipush (pc' := 52) (v := nI 6) dX7_rate_50 rfl rfl ?_
            refine r_iload_n (pc' := 53) dX7_rate_52 rfl rfl ?_
            refine r_imul (pc' := 54) (v := nI (6 * i)) dX7_rate_53 rfl (pk_mul 6 i) ?_
            refine r_iload (pc' := 56) dX7_rate_54 rfl rfl ?_
            refine r_iadd (pc' := 57) (v := nI (6 * i + xq)) dX7_rate_56 rfl (nI_add (6 * i) xq) ?_
            refine r_iaload (pc' := 58) (v := nI (tc T i xq)) dX7_rate_57 rfl c3 (vp_in_nI (n := 6 * i + xq) (by omega) (by omega)) (by rw [nI_cl (by omega)]; exact ml i xq (by omega) (by omega)) ?_
            have e57 := tc_le hO ⟨⟨sb1, sb2, sb3⟩, sb4, sb5⟩ (i := i) (x := xq) (by omega)
            have e57' := hO.2.1 i xq hi (by omega)
            refine r_iconst (pc' := 59) (v := nI 4) dX7_rate_58 rfl rfl ?_
            refine r_irem (pc' := 60) (v := nI ((tc T i xq) % 4)) dX7_rate_59 rfl (nI_ne0 (n := 4) (by omega) (by omega)) (pk_rem (a := tc T i xq) (d := 4) (by omega) (by omega) (by omega)) ?_
            refine r_if_ne (pc' := 63) (P := (tc T i xq) % 4 = 0) (tgt := 67) dX7_rate_60 (by decide) rfl (nI_eq0 (n := (tc T i xq) % 4) (by omega)) (fun h60 => ?_) (fun h60 => ?_)
            · skip
              refine r_iconst (pc' := 68) (v := nI 0) dX7_rate_67 rfl rfl ?_
              refine r_iadd (pc' := 69) (v := nI (nsum (fun x => if vow (tc T i x) then 1 else 0) xq + 0)) dX7_rate_68 rfl (nI_add (nsum (fun x => if vow (tc T i x) then 1 else 0) xq) 0) ?_
              refine r_istore (pc' := 71) (lo' := [some (.ref 60), some (.int (nI k)), some (.int (nI i)), some (.int (nI (tl T i))), some (.int (nI (nsum (fun x => if vow (tc T i x) then 1 else 0) xq + 0))), some (.int (nI xq)), none]) dX7_rate_69 rfl (by decide) rfl ?_
              refine r_iinc (pc' := 74) (lo' := [some (.ref 60), some (.int (nI k)), some (.int (nI i)), some (.int (nI (tl T i))), some (.int (nI (nsum (fun x => if vow (tc T i x) then 1 else 0) xq + 0))), some (.int (nI (xq + 1))), none]) dX7_rate_71 rfl (by decide) rfl (nI_add xq 1) rfl ?_
              refine r_goto (tgt := 38) dX7_rate_74 (by decide) ?_
              have hx2 : nsum (fun x => if vow (tc T i x) then 1 else 0) xq + 0 = nsum (fun x => if vow (tc T i x) then 1 else 0) (xq + 1) := by simp [nsum, vow_4 e57', h60]
              rw [hx2]
              exact ih38 (xq + 1) (by omega) (by omega)
            · skip
              refine r_iconst (pc' := 64) (v := nI 1) dX7_rate_63 rfl rfl ?_
              refine r_goto (tgt := 68) dX7_rate_64 (by decide) ?_
              refine r_iadd (pc' := 69) (v := nI (nsum (fun x => if vow (tc T i x) then 1 else 0) xq + 1)) dX7_rate_68 rfl (nI_add (nsum (fun x => if vow (tc T i x) then 1 else 0) xq) 1) ?_
              refine r_istore (pc' := 71) (lo' := [some (.ref 60), some (.int (nI k)), some (.int (nI i)), some (.int (nI (tl T i))), some (.int (nI (nsum (fun x => if vow (tc T i x) then 1 else 0) xq + 1))), some (.int (nI xq)), none]) dX7_rate_69 rfl (by decide) rfl ?_
              refine r_iinc (pc' := 74) (lo' := [some (.ref 60), some (.int (nI k)), some (.int (nI i)), some (.int (nI (tl T i))), some (.int (nI (nsum (fun x => if vow (tc T i x) then 1 else 0) xq + 1))), some (.int (nI (xq + 1))), none]) dX7_rate_71 rfl (by decide) rfl (nI_add xq 1) rfl ?_
              refine r_goto (tgt := 38) dX7_rate_74 (by decide) ?_
              have hx2 : nsum (fun x => if vow (tc T i x) then 1 else 0) xq + 1 = nsum (fun x => if vow (tc T i x) then 1 else 0) (xq + 1) := by simp [nsum, vow_4 e57', h60]
              rw [hx2]
              exact ih38 (xq + 1) (by omega) (by omega)
      exact L38 ((tl T i) + 1) 0 (Nat.lt_succ_self _) (by omega)
    · skip
      refine r_ldc (pc' := 24) dX7_rate_22 rfl cnX7_184 ?_
      refine r_ireturn dX7_rate_24 rfl ?_
      refine px_eq (hQ w ?_ Frm.rf) ?_
      · simpa [rateT, h19] using hS
      · simp [rateR, h19]
