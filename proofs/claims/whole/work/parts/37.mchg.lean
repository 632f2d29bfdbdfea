theorem KpA.keep {w : px_W} {I : Nat → Option px_N} {fk bk : Nat → Int32} {M : px_N} (hM : NOK M) {i : Nat} (h1 : w[72]? = some (.inl (0, 74, .inl (snp fk i M 37)))) (h2 : w[73]? = some (.inl (1, 2, .inl (upd bk i (nI 1))))) (k3 : ∀ i, i < 2 → bk i = bI (I i).isSome ∧ ∀ N, I i = some N → NOK N ∧ ∀ k, k < 37 → fk (37 * i + k) = nI (sv N k)) : KpA w (iSet I i M) := by
  refine ⟨_, _, h1, h2, fun j hj => ?_⟩
  by_cases e : j = i
  · subst e
    refine ⟨by simp [upd, iSet]; rfl, fun N hN => ?_⟩
    simp [iSet] at hN
    subst hN
    exact ⟨hM, fun k hk => snp_in hk⟩
  · refine ⟨by simp only [upd, iSet, e, if_false]; exact (k3 j hj).1, fun N hN => ?_⟩
    simp only [iSet, e, if_false] at hN
    refine ⟨((k3 j hj).2 N hN).1, fun k hk => ?_⟩
    rw [snp_out hk e]
    exact ((k3 j hj).2 N hN).2 k hk
set_option maxHeartbeats 200000 in
theorem ct_X7_keep {g : px_G} {w : px_W} {Q : px_Q} {T : px_T} {M : px_N} {U : List px_N} {I : Nat → Option px_N} {n : Nat} {tx : Nat → Nat} {tr : Int64} (hS : MSx w T M U I n tx tr) (hO : TOK T) {a : Int32} (hQ : ∀ w', MSx w' T M U (keepI M I a) n tx tr → Frm w w' 60 76 → Q (some (.int (keepR M a))) w') : Ct g yX7_keep cX7_keep 3 (some .int) 2 0 0 [.ref 60, .int a] w Q := by
  refine Ct.of kX7_keep (by omega) (lo := [some (.ref 60), some (.int a), none]) rfl (px_cat1 rfl) (Nat.le_of_ble_eq_true rfl) ?_
  obtain ⟨nx, tk, pl, va, fa, hX, hT, hM, hTx, hK, hU, hB⟩ := id hS
  obtain ⟨fm, fz, fl, fs, fd, g0, g1, g2, g3, ⟨c1, c2, c3, c4, c5, c6, c7, c8, c9⟩, ma, mz, ml, md, mg, ⟨sb1, sb2, sb3⟩, sb4, sb5⟩ := id hT
  obtain ⟨fn, cn, hf, mB1, mB2, mB3⟩ := id hM
  obtain ⟨fx, x1, x2, x3⟩ := id hTx
  obtain ⟨fk, bk, k1, k2, k3⟩ := id hK
  obtain ⟨fq, u1, u2⟩ := id hU
  have u3 := u2.1
  refine r_aload_n (pc' := 1) dX7_keep_0 rfl rfl ?_
  refine r_iconst (pc' := 2) (v := nI 0) dX7_keep_1 rfl rfl ?_
  refine r_put (pc' := 5) (ty := .int) (c' := .inr (6, [.int (nI 0), .long tr, .ref 61, .int (nI n), .int nx, .int tk, .int pl, .int va, .int fa, .ref 62, .ref 63, .ref 64, .ref 65, .ref 66, .ref 67, .ref 68, .ref 69, .ref 70, .ref 71, .ref 72, .ref 73, .ref 74, .int (nI U.length), .ref 75])) fX7_62 dX7_keep_2 rfl hX (Nat.le_of_ble_eq_true rfl) rfl (by decide +kernel) rfl rfl rfl ?_
  refine px_id hX ?_
  refine r_iload_n (pc' := 6) dX7_keep_5 rfl rfl ?_
  refine r_iconst (pc' := 7) (v := nI 0) dX7_keep_6 rfl rfl ?_
  refine r_iconst (pc' := 8) (v := nI 1) dX7_keep_7 rfl rfl ?_
  refine r_callS (pc' := 11) (av := [.int a, .int (nI 0), .int (nI 1)]) (rest := []) kX7_in vX7_in lX7_66 dX7_keep_8 rfl rfl rfl ⟨by decide, by decide, by decide⟩ rfl rfl (Nat.le_of_ble_eq_true rfl) (ct_in_c (n := 1) (by omega) ?_)
  show Wp g yX7_keep cX7_keep 3 (some .int) 2 0 0 (px_MQ g Q 0 0) 0 0 11 [some (.ref 60), some (.int a), none] [.int (bI (hasI a (1 + 1)))] w
  refine r_if_ne (pc' := 14) (P := (hasI a (1 + 1)) = false) (tgt := 16) dX7_keep_11 (by decide) rfl (bI_0) (fun h11 => ?_) (fun h11 => ?_)
  · have h11' : hasI a 2 = true := by simpa using h11
    obtain ⟨i, hi, rfl⟩ := hasI_t h11' (by omega)
    refine r_iconst (pc' := 17) (v := nI 0) dX7_keep_16 rfl rfl ?_
    refine r_istore_n (pc' := 18) (lo' := [some (.ref 60), some (.int (nI i)), some (.int (nI 0))]) dX7_keep_17 rfl (by decide) rfl ?_
    have L18 : ∀ (fu : Nat) (k : Nat), 37 - k < fu → k ≤ 37 → Wp g yX7_keep cX7_keep 3 (some .int) 2 0 0 (px_MQ g Q 0 0) 0 0 18 [some (.ref 60), some (.int (nI i)), some (.int (nI k))] [] (w.set 72 (.inl (0, 74, .inl (snp fk i M k)))) := by
      intro fu; induction fu with
      | zero => intro k hm; exact absurd hm (Nat.not_lt_zero _)
      | succ fu ih =>
        intro k hm hk
        have ih18 := ih; clear ih
        refine r_iload_n (pc' := 19) dX7_keep_18 rfl rfl ?_
        refine r_bipush (pc' := 21) (v := nI 37) dX7_keep_19 rfl rfl ?_
        refine r_icmp_ge (pc' := 24) (P := 37 ≤ k) (tgt := 47) dX7_keep_21 (by decide) rfl (nI_leI (a := 37) (b := k) (by omega) (by omega)) (fun h21 => ?_) (fun h21 => ?_)
        · obtain rfl : k = 37 := by omega
          refine r_aload_n (pc' := 48) dX7_keep_47 rfl rfl ?_
          refine r_get (pc' := 51) fX7_46 dX7_keep_48 rfl (gs_ne hX (by decide)) rfl ?_
          refine r_iload_n (pc' := 52) dX7_keep_51 rfl rfl ?_
          refine r_iconst (pc' := 53) (v := nI 1) dX7_keep_52 rfl rfl ?_
          refine r_bastore (pc' := 54) (c' := .inl (1, 2, .inl (upd bk i (nI 1)))) dX7_keep_53 rfl (gs_ne k2 (by decide)) (vp_in_nI (n := i) (by omega) (by omega)) (rfl) (by rw [nI_cl (by omega)]) ?_
          refine r_aload_n (pc' := 55) dX7_keep_54 rfl rfl ?_
          refine r_get (pc' := 58) fX7_40 dX7_keep_55 rfl (gs_ne (gs_ne hX (by decide)) (by decide)) rfl ?_
          refine r_bipush (pc' := 60) (v := nI 36) dX7_keep_58 rfl rfl ?_
          refine r_iaload (pc' := 61) (v := nI (nh M)) dX7_keep_60 rfl (gs_ne (gs_ne cn (by decide)) (by decide)) (vp_in_nI (n := 36) (by omega) (by omega)) (by rw [nI_cl (by omega), hf _ (by omega), sv_h]) ?_
          refine r_ireturn dX7_keep_61 rfl ?_
          rw [keepI, if_pos h11', nI_cl (show i < 2 ^ 31 by omega)] at hQ
          refine px_eq (hQ ((w.set 72 (.inl (0, 74, .inl (snp fk i M 37)))).set 73 (.inl (1, 2, .inl (upd bk i (nI 1))))) ⟨nx, tk, pl, va, fa, gs_ne (gs_ne hX (by decide)) (by decide), ((hT.fr (a := 72) (b := 73) (Frm.set (by omega) (by omega)) (by omega)).fr (a := 73) (b := 74) (Frm.set (by omega) (by omega)) (by omega)), ((hM.fr (a := 72) (b := 73) (Frm.set (by omega) (by omega)) (by omega)).fr (a := 73) (b := 74) (Frm.set (by omega) (by omega)) (by omega)), ((hTx.fr (a := 72) (b := 73) (Frm.set (by omega) (by omega)) (by omega)).fr (a := 73) (b := 74) (Frm.set (by omega) (by omega)) (by omega)), (KpA.keep ⟨mB1, mB2, mB3⟩ (gs_ne (gs_eq k1) (by decide)) (gs_eq (gs_ne k2 (by decide))) k3), ((hU.fr (a := 72) (b := 73) (Frm.set (by omega) (by omega)) (by omega)).fr (a := 73) (b := 74) (Frm.set (by omega) (by omega)) (by omega)), ((hB.fr (a := 72) (b := 73) (Frm.set (by omega) (by omega)) (by omega)).fr (a := 73) (b := 74) (Frm.set (by omega) (by omega)) (by omega))⟩ (((Frm.rf (a := 60) (b := 76)).sets (k := 72) (by omega) (by omega)).sets (k := 73) (by omega) (by omega))) ?_
          rw [keepR, if_pos h11']
        · skip
          refine r_aload_n (pc' := 25) dX7_keep_24 rfl rfl ?_
          refine r_get (pc' := 28) fX7_43 dX7_keep_25 rfl (gs_ne hX (by decide)) rfl ?_
          refine r_bipush (pc' := 30) (v := nI 37) dX7_keep_28 rfl rfl ?_
          refine r_iload_n (pc' := 31) dX7_keep_30 rfl rfl ?_
          refine r_imul (pc' := 32) (v := nI (37 * i)) dX7_keep_31 rfl (pk_mul 37 i) ?_
          refine r_iload_n (pc' := 33) dX7_keep_32 rfl rfl ?_
          refine r_iadd (pc' := 34) (v := nI (37 * i + k)) dX7_keep_33 rfl (nI_add (37 * i) k) ?_
          refine r_aload_n (pc' := 35) dX7_keep_34 rfl rfl ?_
          refine r_get (pc' := 38) fX7_40 dX7_keep_35 rfl (gs_ne hX (by decide)) rfl ?_
          refine r_iload_n (pc' := 39) dX7_keep_38 rfl rfl ?_
          refine r_iaload (pc' := 40) (v := nI (sv M k)) dX7_keep_39 rfl (gs_ne cn (by decide)) (vp_in_nI (n := k) (by omega) (by omega)) (by rw [nI_cl (by omega)]; exact hf _ (by omega)) ?_
          refine r_iastore (pc' := 41) (c' := .inl (0, 74, .inl (snp fk i M (k + 1)))) dX7_keep_40 rfl (gs_eq k1) (vp_in_nI (n := 37 * i + k) (by omega) (by omega)) (by rw [nI_cl (by omega), ← snp_s]) ?_
          rw [gs_set]
          refine r_iinc (pc' := 44) (lo' := [some (.ref 60), some (.int (nI i)), some (.int (nI (k + 1)))]) dX7_keep_41 rfl (by decide) rfl (nI_add k 1) rfl ?_
          refine r_goto (tgt := 18) dX7_keep_44 (by decide) ?_
          exact ih18 (k + 1) (by omega) (by omega)
    have L0 := L18 38 0 (by omega) (Nat.zero_le _)
    rw [snp_0, gs_id k1] at L0
    exact L0
  · skip
    refine r_iconst (pc' := 15) (v := (-1)) dX7_keep_14 rfl rfl ?_
    refine r_ireturn dX7_keep_15 rfl ?_
    refine px_eq (hQ w ?_ Frm.rf) ?_
    · simpa [keepI, h11] using hS
    · simp [keepR, h11]
theorem MnF.back {f fu : Nat → Int32} {m : Nat} {N : px_N} (h : ∀ k, k < 37 → fu (37 * m + k) = nI (sv N k)) : MnF (rst f fu m 37) N := by
  intro k hk
  unfold rst
  rw [if_pos hk]
  exact h k hk
set_option maxHeartbeats 200000 in
theorem ct_X7_back {g : px_G} {w : px_W} {Q : px_Q} {T : px_T} {M : px_N} {U : List px_N} {I : Nat → Option px_N} {n : Nat} {tx : Nat → Nat} {tr : Int64} (hS : MSx w T M U I n tx tr) (hO : TOK T) {a : Int32} (hQ : ∀ w', MSx w' T (backM M I a) (backU U I a) I n tx tr → Frm w w' 60 76 → Q (some (.int (backR I a))) w') : Ct g yX7_back cX7_back 3 (some .int) 2 0 0 [.ref 60, .int a] w Q := by
  refine Ct.of kX7_back (by omega) (lo := [some (.ref 60), some (.int a), none]) rfl (px_cat1 rfl) (Nat.le_of_ble_eq_true rfl) ?_
  obtain ⟨nx, tk, pl, va, fa, hX, hT, hM, hTx, hK, hU, hB⟩ := id hS
  obtain ⟨fm, fz, fl, fs, fd, g0, g1, g2, g3, ⟨c1, c2, c3, c4, c5, c6, c7, c8, c9⟩, ma, mz, ml, md, mg, ⟨sb1, sb2, sb3⟩, sb4, sb5⟩ := id hT
  obtain ⟨fn, cn, hf, mB1, mB2, mB3⟩ := id hM
  obtain ⟨fx, x1, x2, x3⟩ := id hTx
  obtain ⟨fk, bk, k1, k2, k3⟩ := id hK
  obtain ⟨fq, u1, u2⟩ := id hU
  have u3 := u2.1
  refine r_aload_n (pc' := 1) dX7_back_0 rfl rfl ?_
  refine r_iconst (pc' := 2) (v := nI 0) dX7_back_1 rfl rfl ?_
  refine r_put (pc' := 5) (ty := .int) (c' := .inr (6, [.int (nI 0), .long tr, .ref 61, .int (nI n), .int nx, .int tk, .int pl, .int va, .int fa, .ref 62, .ref 63, .ref 64, .ref 65, .ref 66, .ref 67, .ref 68, .ref 69, .ref 70, .ref 71, .ref 72, .ref 73, .ref 74, .int (nI U.length), .ref 75])) fX7_62 dX7_back_2 rfl hX (Nat.le_of_ble_eq_true rfl) rfl (by decide +kernel) rfl rfl rfl ?_
  refine px_id hX ?_
  refine r_iload_n (pc' := 6) dX7_back_5 rfl rfl ?_
  refine r_iconst (pc' := 7) (v := nI 0) dX7_back_6 rfl rfl ?_
  refine r_iconst (pc' := 8) (v := nI 1) dX7_back_7 rfl rfl ?_
  refine r_callS (pc' := 11) (av := [.int a, .int (nI 0), .int (nI 1)]) (rest := []) kX7_in vX7_in lX7_66 dX7_back_8 rfl rfl rfl ⟨by decide, by decide, by decide⟩ rfl rfl (Nat.le_of_ble_eq_true rfl) (ct_in_c (n := 1) (by omega) ?_)
  show Wp g yX7_back cX7_back 3 (some .int) 2 0 0 (px_MQ g Q 0 0) 0 0 11 [some (.ref 60), some (.int a), none] [.int (bI (hasI a (1 + 1)))] w
  refine r_if_ne (pc' := 14) (P := (hasI a (1 + 1)) = false) (tgt := 16) dX7_back_11 (by decide) rfl (bI_0) (fun h11 => ?_) (fun h11 => ?_)
  · have h11' : hasI a 2 = true := by simpa using h11
    obtain ⟨i, hi, rfl⟩ := hasI_t h11' (by omega)
    refine r_aload_n (pc' := 17) dX7_back_16 rfl rfl ?_
    refine r_get (pc' := 20) fX7_46 dX7_back_17 rfl hX rfl ?_
    refine r_iload_n (pc' := 21) dX7_back_20 rfl rfl ?_
    refine r_baload (pc' := 22) (v := bI ((I i).isSome)) dX7_back_21 rfl k2 (vp_in_nI (n := i) (by omega) (by omega)) (by rw [nI_cl (by omega)]; exact (k3 i hi).1) ?_
    refine r_if_ne (pc' := 25) (P := ((I i).isSome) = false) (tgt := 28) dX7_back_22 (by decide) rfl (bI_0) (fun h22 => ?_) (fun h22 => ?_)
    · obtain ⟨N, hN⟩ : ∃ N, I i = some N := by
        cases hI2 : I i with
        | none => simp [hI2] at h22
        | some N => exact ⟨N, rfl⟩
      obtain ⟨kN1, kN2⟩ := (k3 i hi).2 N hN
      refine r_iconst (pc' := 29) (v := nI 0) dX7_back_28 rfl rfl ?_
      refine r_istore_n (pc' := 30) (lo' := [some (.ref 60), some (.int (nI i)), some (.int (nI 0))]) dX7_back_29 rfl (by decide) rfl ?_
      have L30 : ∀ (fu : Nat) (k : Nat), 37 - k < fu → k ≤ 37 → Wp g yX7_back cX7_back 3 (some .int) 2 0 0 (px_MQ g Q 0 0) 0 0 30 [some (.ref 60), some (.int (nI i)), some (.int (nI k))] [] (w.set 71 (.inl (0, 37, .inl (rst fn fk i k)))) := by
        intro fu; induction fu with
        | zero => intro k hm; exact absurd hm (Nat.not_lt_zero _)
        | succ fu ih =>
          intro k hm hk
          have ih30 := ih; clear ih
          refine r_iload_n (pc' := 31) dX7_back_30 rfl rfl ?_
          refine r_bipush (pc' := 33) (v := nI 37) dX7_back_31 rfl rfl ?_
          refine r_icmp_ge (pc' := 36) (P := 37 ≤ k) (tgt := 59) dX7_back_33 (by decide) rfl (nI_leI (a := 37) (b := k) (by omega) (by omega)) (fun h33 => ?_) (fun h33 => ?_)
          · obtain rfl : k = 37 := by omega
            refine r_aload_n (pc' := 60) dX7_back_59 rfl rfl ?_
            refine r_iconst (pc' := 61) (v := nI 0) dX7_back_60 rfl rfl ?_
            refine r_put (pc' := 64) (ty := .int) (c' := .inr (6, [.int (nI 0), .long tr, .ref 61, .int (nI n), .int nx, .int tk, .int pl, .int va, .int fa, .ref 62, .ref 63, .ref 64, .ref 65, .ref 66, .ref 67, .ref 68, .ref 69, .ref 70, .ref 71, .ref 72, .ref 73, .ref 74, .int (nI 0), .ref 75])) fX7_117 dX7_back_61 rfl (gs_ne hX (by decide)) (Nat.le_of_ble_eq_true rfl) rfl (by decide +kernel) rfl rfl rfl ?_
            refine r_aload_n (pc' := 65) dX7_back_64 rfl rfl ?_
            refine r_get (pc' := 68) fX7_40 dX7_back_65 rfl (gs_eq (gs_ne hX (by decide))) rfl ?_
            refine r_bipush (pc' := 70) (v := nI 36) dX7_back_68 rfl rfl ?_
            refine r_iaload (pc' := 71) (v := nI (nh N)) dX7_back_70 rfl (gs_ne (gs_eq cn) (by decide)) (vp_in_nI (n := 36) (by omega) (by omega)) (by rw [nI_cl (by omega)]; exact MnF.back kN2 36 (by omega)) ?_
            refine r_ireturn dX7_back_71 rfl ?_
            have hg : backG I (nI i) = some N := by rw [backG, if_pos h11', nI_cl (show i < 2 ^ 31 by omega)]; exact hN
            rw [backM, backU, backR, hg, if_pos h11', nI_cl (show i < 2 ^ 31 by omega), hN] at hQ
            simp only at hQ
            refine px_eq (hQ ((w.set 71 (.inl (0, 37, .inl (rst fn fk i 37)))).set 60 (.inr (6, [.int (nI 0), .long tr, .ref 61, .int (nI n), .int nx, .int tk, .int pl, .int va, .int fa, .ref 62, .ref 63, .ref 64, .ref 65, .ref 66, .ref 67, .ref 68, .ref 69, .ref 70, .ref 71, .ref 72, .ref 73, .ref 74, .int (nI 0), .ref 75]))) ⟨nx, tk, pl, va, fa, gs_eq (gs_ne hX (by decide)), ((hT.fr (a := 71) (b := 72) (Frm.set (by omega) (by omega)) (by omega)).fr (a := 60) (b := 61) (Frm.set (by omega) (by omega)) (by omega)), (MnA.of (gs_ne (gs_eq cn) (by decide)) (MnF.back kN2) kN1), ((hTx.fr (a := 71) (b := 72) (Frm.set (by omega) (by omega)) (by omega)).fr (a := 60) (b := 61) (Frm.set (by omega) (by omega)) (by omega)), ((hK.fr (a := 71) (b := 72) (Frm.set (by omega) (by omega)) (by omega)).fr (a := 60) (b := 61) (Frm.set (by omega) (by omega)) (by omega)), ⟨fq, gs_ne (gs_ne u1 (by decide)) (by decide), UdF.nil fq⟩, ((hB.fr (a := 71) (b := 72) (Frm.set (by omega) (by omega)) (by omega)).fr (a := 60) (b := 61) (Frm.set (by omega) (by omega)) (by omega))⟩ (((Frm.rf (a := 60) (b := 76)).sets (k := 71) (by omega) (by omega)).sets (k := 60) (by omega) (by omega))) ?_
            rfl
          · skip
            refine r_aload_n (pc' := 37) dX7_back_36 rfl rfl ?_
            refine r_get (pc' := 40) fX7_40 dX7_back_37 rfl (gs_ne hX (by decide)) rfl ?_
            refine r_iload_n (pc' := 41) dX7_back_40 rfl rfl ?_
            refine r_aload_n (pc' := 42) dX7_back_41 rfl rfl ?_
            refine r_get (pc' := 45) fX7_43 dX7_back_42 rfl (gs_ne hX (by decide)) rfl ?_
            refine r_bipush (pc' := 47) (v := nI 37) dX7_back_45 rfl rfl ?_
            refine r_iload_n (pc' := 48) dX7_back_47 rfl rfl ?_
            refine r_imul (pc' := 49) (v := nI (37 * i)) dX7_back_48 rfl (pk_mul 37 i) ?_
            refine r_iload_n (pc' := 50) dX7_back_49 rfl rfl ?_
            refine r_iadd (pc' := 51) (v := nI (37 * i + k)) dX7_back_50 rfl (nI_add (37 * i) k) ?_
            refine r_iaload (pc' := 52) (v := fk (37 * i + k)) dX7_back_51 rfl (gs_ne k1 (by decide)) (vp_in_nI (n := 37 * i + k) (by omega) (by omega)) (by rw [nI_cl (by omega)]) ?_
            refine r_iastore (pc' := 53) (c' := .inl (0, 37, .inl (rst fn fk i (k + 1)))) dX7_back_52 rfl (gs_eq cn) (vp_in_nI (n := k) (by omega) (by omega)) (by rw [nI_cl (by omega), ← rst_s]) ?_
            rw [gs_set]
            refine r_iinc (pc' := 56) (lo' := [some (.ref 60), some (.int (nI i)), some (.int (nI (k + 1)))]) dX7_back_53 rfl (by decide) rfl (nI_add k 1) rfl ?_
            refine r_goto (tgt := 30) dX7_back_56 (by decide) ?_
            exact ih30 (k + 1) (by omega) (by omega)
      have L0 := L30 38 0 (by omega) (Nat.zero_le _)
      rw [rst_0, gs_id cn] at L0
      exact L0
    · have hN : I i = none := by simpa using h22
      refine r_bipush (pc' := 27) (v := (-2)) dX7_back_25 rfl rfl ?_
      refine r_ireturn dX7_back_27 rfl ?_
      have hg : backG I (nI i) = none := by rw [backG, if_pos h11', nI_cl (show i < 2 ^ 31 by omega)]; exact hN
      rw [backM, backU, backR, hg, if_pos h11', nI_cl (show i < 2 ^ 31 by omega), hN] at hQ
      exact hQ w hS Frm.rf
  · skip
    refine r_iconst (pc' := 15) (v := (-1)) dX7_back_14 rfl rfl ?_
    refine r_ireturn dX7_back_15 rfl ?_
    refine px_eq (hQ w ?_ Frm.rf) ?_
    · simpa [backM, backU, backG, h11] using hS
    · simp [backR, h11]
set_option maxHeartbeats 200000 in
theorem ct_X7_undo {g : px_G} {w : px_W} {Q : px_Q} {T : px_T} {M : px_N} {U : List px_N} {I : Nat → Option px_N} {n : Nat} {tx : Nat → Nat} {tr : Int64} (hS : MSx w T M U I n tx tr) (hO : TOK T) (hQ : ∀ w', MSx w' T (undoM M U) (undoU U) I n tx tr → Frm w w' 60 76 → Q (some (.int (undoR U))) w') : Ct g yX7_undo cX7_undo 2 (some .int) 1 0 0 [.ref 60] w Q := by
  refine Ct.of kX7_undo (by omega) (lo := [some (.ref 60), none]) rfl (px_cat1 rfl) (Nat.le_of_ble_eq_true rfl) ?_
  obtain ⟨nx, tk, pl, va, fa, hX, hT, hM, hTx, hK, hU, hB⟩ := id hS
  obtain ⟨fm, fz, fl, fs, fd, g0, g1, g2, g3, ⟨c1, c2, c3, c4, c5, c6, c7, c8, c9⟩, ma, mz, ml, md, mg, ⟨sb1, sb2, sb3⟩, sb4, sb5⟩ := id hT
  obtain ⟨fn, cn, hf, mB1, mB2, mB3⟩ := id hM
  obtain ⟨fx, x1, x2, x3⟩ := id hTx
  obtain ⟨fk, bk, k1, k2, k3⟩ := id hK
  obtain ⟨fq, u1, u2⟩ := id hU
  have u3 := u2.1
  refine r_aload_n (pc' := 1) dX7_undo_0 rfl rfl ?_
  refine r_iconst (pc' := 2) (v := nI 0) dX7_undo_1 rfl rfl ?_
  refine r_put (pc' := 5) (ty := .int) (c' := .inr (6, [.int (nI 0), .long tr, .ref 61, .int (nI n), .int nx, .int tk, .int pl, .int va, .int fa, .ref 62, .ref 63, .ref 64, .ref 65, .ref 66, .ref 67, .ref 68, .ref 69, .ref 70, .ref 71, .ref 72, .ref 73, .ref 74, .int (nI U.length), .ref 75])) fX7_62 dX7_undo_2 rfl hX (Nat.le_of_ble_eq_true rfl) rfl (by decide +kernel) rfl rfl rfl ?_
  refine px_id hX ?_
  refine r_aload_n (pc' := 6) dX7_undo_5 rfl rfl ?_
  refine r_get (pc' := 9) fX7_117 dX7_undo_6 rfl hX rfl ?_
  refine r_if_ne (pc' := 12) (P := U.length = 0) (tgt := 15) dX7_undo_9 (by decide) rfl (nI_eq0 (n := U.length) (by omega)) (fun h9 => ?_) (fun h9 => ?_)
  · obtain ⟨N, U', hUe⟩ : ∃ N U', U = N :: U' := by cases U with
      | nil => simp at h9
      | cons N U' => exact ⟨N, U', rfl⟩
    have hl : U.length = U'.length + 1 := by rw [hUe]; rfl
    have u5 := (hUe ▸ u2 : UdF fq (N :: U')).tl
    refine r_aload_n (pc' := 16) dX7_undo_15 rfl rfl ?_
    refine r_dup (pc' := 17) dX7_undo_16 rfl rfl ?_
    refine r_get (pc' := 20) fX7_117 dX7_undo_17 rfl hX rfl ?_
    refine r_iconst (pc' := 21) (v := nI 1) dX7_undo_20 rfl rfl ?_
    refine r_isub (pc' := 22) (v := nI U'.length) dX7_undo_21 rfl ((pk_sub (a := U.length) (b := 1) (by omega)).trans (by rw [hl]; rfl)) ?_
    refine r_put (pc' := 25) (ty := .int) (c' := .inr (6, [.int (nI 0), .long tr, .ref 61, .int (nI n), .int nx, .int tk, .int pl, .int va, .int fa, .ref 62, .ref 63, .ref 64, .ref 65, .ref 66, .ref 67, .ref 68, .ref 69, .ref 70, .ref 71, .ref 72, .ref 73, .ref 74, .int (nI U'.length), .ref 75])) fX7_117 dX7_undo_22 rfl hX (Nat.le_of_ble_eq_true rfl) rfl (by decide +kernel) rfl rfl rfl ?_
    refine r_iconst (pc' := 26) (v := nI 0) dX7_undo_25 rfl rfl ?_
    refine r_istore_n (pc' := 27) (lo' := [some (.ref 60), some (.int (nI 0))]) dX7_undo_26 rfl (by decide) rfl ?_
    have L27 : ∀ (fu : Nat) (k : Nat), 37 - k < fu → k ≤ 37 → Wp g yX7_undo cX7_undo 2 (some .int) 1 0 0 (px_MQ g Q 0 0) 0 0 27 [some (.ref 60), some (.int (nI k))] [] ((w.set 60 (.inr (6, [.int (nI 0), .long tr, .ref 61, .int (nI n), .int nx, .int tk, .int pl, .int va, .int fa, .ref 62, .ref 63, .ref 64, .ref 65, .ref 66, .ref 67, .ref 68, .ref 69, .ref 70, .ref 71, .ref 72, .ref 73, .ref 74, .int (nI U'.length), .ref 75]))).set 71 (.inl (0, 37, .inl (rst fn fq U'.length k)))) := by
      intro fu; induction fu with
      | zero => intro k hm; exact absurd hm (Nat.not_lt_zero _)
      | succ fu ih =>
        intro k hm hk
        have ih27 := ih; clear ih
        refine r_iload_n (pc' := 28) dX7_undo_27 rfl rfl ?_
        refine r_bipush (pc' := 30) (v := nI 37) dX7_undo_28 rfl rfl ?_
        refine r_icmp_ge (pc' := 33) (P := 37 ≤ k) (tgt := 59) dX7_undo_30 (by decide) rfl (nI_leI (a := 37) (b := k) (by omega) (by omega)) (fun h30 => ?_) (fun h30 => ?_)
        · obtain rfl : k = 37 := by omega
          refine r_aload_n (pc' := 60) dX7_undo_59 rfl rfl ?_
          refine r_get (pc' := 63) fX7_117 dX7_undo_60 rfl (gs_ne (gs_eq hX) (by decide)) rfl ?_
          refine r_ireturn dX7_undo_63 rfl ?_
          subst hUe
          refine px_eq (hQ ((w.set 60 (.inr (6, [.int (nI 0), .long tr, .ref 61, .int (nI n), .int nx, .int tk, .int pl, .int va, .int fa, .ref 62, .ref 63, .ref 64, .ref 65, .ref 66, .ref 67, .ref 68, .ref 69, .ref 70, .ref 71, .ref 72, .ref 73, .ref 74, .int (nI U'.length), .ref 75]))).set 71 (.inl (0, 37, .inl (rst fn fq U'.length 37)))) ⟨nx, tk, pl, va, fa, gs_ne (gs_eq hX) (by decide), ((hT.fr (a := 60) (b := 61) (Frm.set (by omega) (by omega)) (by omega)).fr (a := 71) (b := 72) (Frm.set (by omega) (by omega)) (by omega)), (MnA.of (gs_eq (gs_ne cn (by decide))) (MnF.back u5.2.2) u5.2.1), ((hTx.fr (a := 60) (b := 61) (Frm.set (by omega) (by omega)) (by omega)).fr (a := 71) (b := 72) (Frm.set (by omega) (by omega)) (by omega)), ((hK.fr (a := 60) (b := 61) (Frm.set (by omega) (by omega)) (by omega)).fr (a := 71) (b := 72) (Frm.set (by omega) (by omega)) (by omega)), ⟨fq, gs_ne (gs_ne u1 (by decide)) (by decide), u5.1⟩, ((hB.fr (a := 60) (b := 61) (Frm.set (by omega) (by omega)) (by omega)).fr (a := 71) (b := 72) (Frm.set (by omega) (by omega)) (by omega))⟩ (((Frm.rf (a := 60) (b := 76)).sets (k := 60) (by omega) (by omega)).sets (k := 71) (by omega) (by omega))) ?_
          rfl
        · skip
          refine r_aload_n (pc' := 34) dX7_undo_33 rfl rfl ?_
          refine r_get (pc' := 37) fX7_40 dX7_undo_34 rfl (gs_ne (gs_eq hX) (by decide)) rfl ?_
          refine r_iload_n (pc' := 38) dX7_undo_37 rfl rfl ?_
          refine r_aload_n (pc' := 39) dX7_undo_38 rfl rfl ?_
          refine r_get (pc' := 42) fX7_50 dX7_undo_39 rfl (gs_ne (gs_eq hX) (by decide)) rfl ?_
          refine r_bipush (pc' := 44) (v := nI 37) dX7_undo_42 rfl rfl ?_
          refine r_aload_n (pc' := 45) dX7_undo_44 rfl rfl ?_
          refine r_get (pc' := 48) fX7_117 dX7_undo_45 rfl (gs_ne (gs_eq hX) (by decide)) rfl ?_
          refine r_imul (pc' := 49) (v := nI (37 * U'.length)) dX7_undo_48 rfl (pk_mul 37 U'.length) ?_
          refine r_iload_n (pc' := 50) dX7_undo_49 rfl rfl ?_
          refine r_iadd (pc' := 51) (v := nI (37 * U'.length + k)) dX7_undo_50 rfl (nI_add (37 * U'.length) k) ?_
          refine r_iaload (pc' := 52) (v := fq (37 * U'.length + k)) dX7_undo_51 rfl (gs_ne (gs_ne u1 (by decide)) (by decide)) (vp_in_nI (n := 37 * U'.length + k) (by omega) (by omega)) (by rw [nI_cl (by omega)]) ?_
          refine r_iastore (pc' := 53) (c' := .inl (0, 37, .inl (rst fn fq U'.length (k + 1)))) dX7_undo_52 rfl (gs_eq (gs_ne cn (by decide))) (vp_in_nI (n := k) (by omega) (by omega)) (by rw [nI_cl (by omega), ← rst_s]) ?_
          rw [gs_set]
          refine r_iinc (pc' := 56) (lo' := [some (.ref 60), some (.int (nI (k + 1)))]) dX7_undo_53 rfl (by decide) rfl (nI_add k 1) rfl ?_
          refine r_goto (tgt := 27) dX7_undo_56 (by decide) ?_
          exact ih27 (k + 1) (by omega) (by omega)
    have L0 := L27 38 0 (by omega) (Nat.zero_le _)
    rw [rst_0, gs_id (gs_ne cn (by decide))] at L0
    exact L0
  · have hn : U = [] := List.eq_nil_of_length_eq_zero (by omega)
    refine r_bipush (pc' := 14) (v := (-2)) dX7_undo_12 rfl rfl ?_
    refine r_ireturn dX7_undo_14 rfl ?_
    subst hn
    exact hQ w hS Frm.rf
set_option maxHeartbeats 200000 in
theorem ct_X7_notes {g : px_G} {w : px_W} {Q : px_Q} {tr : Int64} {ty nx tk pl va fa um : Int32} {T : px_T} {M : px_N} (hX : w[60]? = some (mobj tr ty nx tk pl va fa um)) (hT : MtA w T) (hO : TOK T) (hM : MnA w M) {U : List px_N} (hum : um = nI U.length) (hU : UdA w U) (hQ : ∀ w1, Frm (w.set 60 (mobj tr ty nx tk pl va fa (nI (note M U).length))) w1 74 75 → UdA w1 (note M U) → Q none w1) : Ct g yX7_notes cX7_notes 2 none 1 0 0 [.ref 60] w Q := by
  refine Ct.of kX7_notes (by omega) (lo := [some (.ref 60), none]) rfl (px_cat1 rfl) (Nat.le_of_ble_eq_true rfl) ?_
  subst hum
  obtain ⟨fm, fz, fl, fs, fd, g0, g1, g2, g3, ⟨c1, c2, c3, c4, c5, c6, c7, c8, c9⟩, ma, mz, ml, md, mg, ⟨sb1, sb2, sb3⟩, sb4, sb5⟩ := id hT
  obtain ⟨fn, cn, hf, mB1, mB2, mB3⟩ := id hM
  obtain ⟨fq, u1, u2⟩ := id hU
  have u3 := u2.1
  refine r_aload_n (pc' := 1) dX7_notes_0 rfl rfl ?_
  refine r_get (pc' := 4) fX7_117 dX7_notes_1 rfl hX rfl ?_
  refine r_bipush (pc' := 6) (v := nI 10) dX7_notes_4 rfl rfl ?_
  refine r_icmp_ne (pc' := 9) (P := U.length = 10) (tgt := 45) dX7_notes_6 (by decide) rfl (nI_eq (a := U.length) (b := 10) (by omega) (by omega)) (fun h6 => ?_) (fun h6 => ?_)
  · skip
    refine r_iconst (pc' := 46) (v := nI 0) dX7_notes_45 rfl rfl ?_
    refine r_istore_n (pc' := 47) (lo' := [some (.ref 60), some (.int (nI 0))]) dX7_notes_46 rfl (by decide) rfl ?_
    have L47 : ∀ (fu : Nat) (k : Nat), 37 - k < fu → k ≤ 37 → Wp g yX7_notes cX7_notes 2 none 1 0 0 (px_MQ g Q 0 0) 0 0 47 [some (.ref 60), some (.int (nI k))] [] (w.set 74 (.inl (0, 370, .inl (snp fq U.length M k)))) := by
      intro fu; induction fu with
      | zero => intro k hm; exact absurd hm (Nat.not_lt_zero _)
      | succ fu ih =>
        intro k hm hk
        have ih47 := ih; clear ih
        refine r_iload_n (pc' := 48) dX7_notes_47 rfl rfl ?_
        refine r_bipush (pc' := 50) (v := nI 37) dX7_notes_48 rfl rfl ?_
        refine r_icmp_ge (pc' := 53) (P := 37 ≤ k) (tgt := 79) dX7_notes_50 (by decide) rfl (nI_leI (a := 37) (b := k) (by omega) (by omega)) (fun h50 => ?_) (fun h50 => ?_)
        · obtain rfl : k = 37 := by omega
          refine r_aload_n (pc' := 80) dX7_notes_79 rfl rfl ?_
          refine r_dup (pc' := 81) dX7_notes_80 rfl rfl ?_
          refine r_get (pc' := 84) fX7_117 dX7_notes_81 rfl (gs_ne hX (by decide)) rfl ?_
          refine r_iconst (pc' := 85) (v := nI 1) dX7_notes_84 rfl rfl ?_
          refine r_iadd (pc' := 86) (v := nI (U.length + 1)) dX7_notes_85 rfl (nI_add U.length 1) ?_
          refine r_put (pc' := 89) (ty := .int) (c' := .inr (6, [.int (nI 0), .long tr, .ref 61, .int ty, .int nx, .int tk, .int pl, .int va, .int fa, .ref 62, .ref 63, .ref 64, .ref 65, .ref 66, .ref 67, .ref 68, .ref 69, .ref 70, .ref 71, .ref 72, .ref 73, .ref 74, .int (nI (U.length + 1)), .ref 75])) fX7_117 dX7_notes_86 rfl (gs_ne hX (by decide)) (Nat.le_of_ble_eq_true rfl) rfl (by decide +kernel) rfl rfl rfl ?_
          refine r_return dX7_notes_89 rfl ?_
          have hA := UdF.add u2 ⟨mB1, mB2, mB3⟩ (by omega)
          refine hQ _ ?_ ⟨_, gs_ne (gs_eq u1) (by decide), hA.1⟩
          intro j hj
          rw [hA.2]
          by_cases e : j = 60
          · subst e; exact (gs_eq (gs_ne hX (by decide))).trans (gs_eq hX).symm
          · rw [gs_off (show 60 ≠ j by omega)]
            rw [gs_off (show 74 ≠ j by omega)]
            rw [gs_off (show 60 ≠ j by omega)]
        · skip
          refine r_aload_n (pc' := 54) dX7_notes_53 rfl rfl ?_
          refine r_get (pc' := 57) fX7_50 dX7_notes_54 rfl (gs_ne hX (by decide)) rfl ?_
          refine r_bipush (pc' := 59) (v := nI 37) dX7_notes_57 rfl rfl ?_
          refine r_aload_n (pc' := 60) dX7_notes_59 rfl rfl ?_
          refine r_get (pc' := 63) fX7_117 dX7_notes_60 rfl (gs_ne hX (by decide)) rfl ?_
          refine r_imul (pc' := 64) (v := nI (37 * U.length)) dX7_notes_63 rfl (pk_mul 37 U.length) ?_
          refine r_iload_n (pc' := 65) dX7_notes_64 rfl rfl ?_
          refine r_iadd (pc' := 66) (v := nI (37 * U.length + k)) dX7_notes_65 rfl (nI_add (37 * U.length) k) ?_
          refine r_aload_n (pc' := 67) dX7_notes_66 rfl rfl ?_
          refine r_get (pc' := 70) fX7_40 dX7_notes_67 rfl (gs_ne hX (by decide)) rfl ?_
          refine r_iload_n (pc' := 71) dX7_notes_70 rfl rfl ?_
          refine r_iaload (pc' := 72) (v := nI (sv M k)) dX7_notes_71 rfl (gs_ne cn (by decide)) (vp_in_nI (n := k) (by omega) (by omega)) (by rw [nI_cl (by omega)]; exact hf _ (by omega)) ?_
          refine r_iastore (pc' := 73) (c' := .inl (0, 370, .inl (snp fq U.length M (k + 1)))) dX7_notes_72 rfl (gs_eq u1) (vp_in_nI (n := 37 * U.length + k) (by omega) (by omega)) (by rw [nI_cl (by omega), ← snp_s]) ?_
          rw [gs_set]
          refine r_iinc (pc' := 76) (lo' := [some (.ref 60), some (.int (nI (k + 1)))]) dX7_notes_73 rfl (by decide) rfl (nI_add k 1) rfl ?_
          refine r_goto (tgt := 47) dX7_notes_76 (by decide) ?_
          exact ih47 (k + 1) (by omega) (by omega)
    have L0 := L47 38 0 (by omega) (Nat.zero_le _)
    rw [snp_0, gs_id u1] at L0
    exact L0
  · skip
    refine r_iconst (pc' := 10) (v := nI 0) dX7_notes_9 rfl rfl ?_
    refine r_istore_n (pc' := 11) (lo' := [some (.ref 60), some (.int (nI 0))]) dX7_notes_10 rfl (by decide) rfl ?_
    have L11 : ∀ (fu : Nat) (k : Nat), 333 - k < fu → k ≤ 333 → Wp g yX7_notes cX7_notes 2 none 1 0 0 (px_MQ g Q 0 0) 0 0 11 [some (.ref 60), some (.int (nI k))] [] (w.set 74 (.inl (0, 370, .inl (shf fq k)))) := by
      intro fu; induction fu with
      | zero => intro k hm; exact absurd hm (Nat.not_lt_zero _)
      | succ fu ih =>
        intro k hm hk
        have ih11 := ih; clear ih
        refine r_iload_n (pc' := 12) dX7_notes_11 rfl rfl ?_
        refine r_sipush (pc' := 15) (v := nI 333) dX7_notes_12 rfl rfl ?_
        refine r_icmp_ge (pc' := 18) (P := 333 ≤ k) (tgt := 39) dX7_notes_15 (by decide) rfl (nI_leI (a := 333) (b := k) (by omega) (by omega)) (fun h15 => ?_) (fun h15 => ?_)
        · obtain rfl : k = 333 := by omega
          refine r_aload_n (pc' := 40) dX7_notes_39 rfl rfl ?_
          refine r_bipush (pc' := 42) (v := nI 9) dX7_notes_40 rfl rfl ?_
          refine r_put (pc' := 45) (ty := .int) (c' := .inr (6, [.int (nI 0), .long tr, .ref 61, .int ty, .int nx, .int tk, .int pl, .int va, .int fa, .ref 62, .ref 63, .ref 64, .ref 65, .ref 66, .ref 67, .ref 68, .ref 69, .ref 70, .ref 71, .ref 72, .ref 73, .ref 74, .int (nI 9), .ref 75])) fX7_117 dX7_notes_42 rfl (gs_ne hX (by decide)) (Nat.le_of_ble_eq_true rfl) rfl (by decide +kernel) rfl rfl rfl ?_
          refine r_iconst (pc' := 46) (v := nI 0) dX7_notes_45 rfl rfl ?_
          refine r_istore_n (pc' := 47) (lo' := [some (.ref 60), some (.int (nI 0))]) dX7_notes_46 rfl (by decide) rfl ?_
          have L47 : ∀ (fu : Nat) (k : Nat), 37 - k < fu → k ≤ 37 → Wp g yX7_notes cX7_notes 2 none 1 0 0 (px_MQ g Q 0 0) 0 0 47 [some (.ref 60), some (.int (nI k))] [] (((w.set 74 (.inl (0, 370, .inl (shf fq 333)))).set 60 (.inr (6, [.int (nI 0), .long tr, .ref 61, .int ty, .int nx, .int tk, .int pl, .int va, .int fa, .ref 62, .ref 63, .ref 64, .ref 65, .ref 66, .ref 67, .ref 68, .ref 69, .ref 70, .ref 71, .ref 72, .ref 73, .ref 74, .int (nI 9), .ref 75]))).set 74 (.inl (0, 370, .inl (snp (shf fq 333) 9 M k)))) := by
            intro fu; induction fu with
            | zero => intro k hm; exact absurd hm (Nat.not_lt_zero _)
            | succ fu ih =>
              intro k hm hk
              have ih47 := ih; clear ih
              refine r_iload_n (pc' := 48) dX7_notes_47 rfl rfl ?_
              refine r_bipush (pc' := 50) (v := nI 37) dX7_notes_48 rfl rfl ?_
              refine r_icmp_ge (pc' := 53) (P := 37 ≤ k) (tgt := 79) dX7_notes_50 (by decide) rfl (nI_leI (a := 37) (b := k) (by omega) (by omega)) (fun h50 => ?_) (fun h50 => ?_)
              · obtain rfl : k = 37 := by omega
                refine r_aload_n (pc' := 80) dX7_notes_79 rfl rfl ?_
                refine r_dup (pc' := 81) dX7_notes_80 rfl rfl ?_
                refine r_get (pc' := 84) fX7_117 dX7_notes_81 rfl (gs_ne (gs_eq (gs_ne hX (by decide))) (by decide)) rfl ?_
                refine r_iconst (pc' := 85) (v := nI 1) dX7_notes_84 rfl rfl ?_
                refine r_iadd (pc' := 86) (v := nI (9 + 1)) dX7_notes_85 rfl (nI_add 9 1) ?_
                refine r_put (pc' := 89) (ty := .int) (c' := .inr (6, [.int (nI 0), .long tr, .ref 61, .int ty, .int nx, .int tk, .int pl, .int va, .int fa, .ref 62, .ref 63, .ref 64, .ref 65, .ref 66, .ref 67, .ref 68, .ref 69, .ref 70, .ref 71, .ref 72, .ref 73, .ref 74, .int (nI (9 + 1)), .ref 75])) fX7_117 dX7_notes_86 rfl (gs_ne (gs_eq (gs_ne hX (by decide))) (by decide)) (Nat.le_of_ble_eq_true rfl) rfl (by decide +kernel) rfl rfl rfl ?_
                refine r_return dX7_notes_89 rfl ?_
                have hA := UdF.add10 u2 ⟨mB1, mB2, mB3⟩ (by omega)
                refine hQ _ ?_ ⟨_, gs_ne (gs_eq (gs_ne (gs_eq u1) (by decide))) (by decide), hA.1⟩
                intro j hj
                rw [hA.2]
                by_cases e : j = 60
                · subst e; exact (gs_eq (gs_ne (gs_eq (gs_ne hX (by decide))) (by decide))).trans (gs_eq hX).symm
                · rw [gs_off (show 60 ≠ j by omega)]
                  rw [gs_off (show 74 ≠ j by omega)]
                  rw [gs_off (show 60 ≠ j by omega)]
                  rw [gs_off (show 74 ≠ j by omega)]
                  rw [gs_off (show 60 ≠ j by omega)]
              · skip
                refine r_aload_n (pc' := 54) dX7_notes_53 rfl rfl ?_
                refine r_get (pc' := 57) fX7_50 dX7_notes_54 rfl (gs_ne (gs_eq (gs_ne hX (by decide))) (by decide)) rfl ?_
                refine r_bipush (pc' := 59) (v := nI 37) dX7_notes_57 rfl rfl ?_
                refine r_aload_n (pc' := 60) dX7_notes_59 rfl rfl ?_
                refine r_get (pc' := 63) fX7_117 dX7_notes_60 rfl (gs_ne (gs_eq (gs_ne hX (by decide))) (by decide)) rfl ?_
                refine r_imul (pc' := 64) (v := nI (37 * 9)) dX7_notes_63 rfl (pk_mul 37 9) ?_
                refine r_iload_n (pc' := 65) dX7_notes_64 rfl rfl ?_
                refine r_iadd (pc' := 66) (v := nI (37 * 9 + k)) dX7_notes_65 rfl (nI_add (37 * 9) k) ?_
                refine r_aload_n (pc' := 67) dX7_notes_66 rfl rfl ?_
                refine r_get (pc' := 70) fX7_40 dX7_notes_67 rfl (gs_ne (gs_eq (gs_ne hX (by decide))) (by decide)) rfl ?_
                refine r_iload_n (pc' := 71) dX7_notes_70 rfl rfl ?_
                refine r_iaload (pc' := 72) (v := nI (sv M k)) dX7_notes_71 rfl (gs_ne (gs_ne (gs_ne cn (by decide)) (by decide)) (by decide)) (vp_in_nI (n := k) (by omega) (by omega)) (by rw [nI_cl (by omega)]; exact hf _ (by omega)) ?_
                refine r_iastore (pc' := 73) (c' := .inl (0, 370, .inl (snp (shf fq 333) 9 M (k + 1)))) dX7_notes_72 rfl (gs_eq (gs_ne (gs_eq u1) (by decide))) (vp_in_nI (n := 37 * 9 + k) (by omega) (by omega)) (by rw [nI_cl (by omega), ← snp_s]) ?_
                rw [gs_set]
                refine r_iinc (pc' := 76) (lo' := [some (.ref 60), some (.int (nI (k + 1)))]) dX7_notes_73 rfl (by decide) rfl (nI_add k 1) rfl ?_
                refine r_goto (tgt := 47) dX7_notes_76 (by decide) ?_
                exact ih47 (k + 1) (by omega) (by omega)
          have L0 := L47 38 0 (by omega) (Nat.zero_le _)
          rw [snp_0, gs_id (gs_ne (gs_eq u1) (by decide))] at L0
          exact L0
        · skip
          refine r_aload_n (pc' := 19) dX7_notes_18 rfl rfl ?_
          refine r_get (pc' := 22) fX7_50 dX7_notes_19 rfl (gs_ne hX (by decide)) rfl ?_
          refine r_iload_n (pc' := 23) dX7_notes_22 rfl rfl ?_
          refine r_aload_n (pc' := 24) dX7_notes_23 rfl rfl ?_
          refine r_get (pc' := 27) fX7_50 dX7_notes_24 rfl (gs_ne hX (by decide)) rfl ?_
          refine r_iload_n (pc' := 28) dX7_notes_27 rfl rfl ?_
          refine r_bipush (pc' := 30) (v := nI 37) dX7_notes_28 rfl rfl ?_
          refine r_iadd (pc' := 31) (v := nI (k + 37)) dX7_notes_30 rfl (nI_add k 37) ?_
          refine r_iaload (pc' := 32) (v := fq (k + 37)) dX7_notes_31 rfl (gs_eq u1) (vp_in_nI (n := k + 37) (by omega) (by omega)) (by rw [nI_cl (by omega)]; exact shf_x) ?_
          refine r_iastore (pc' := 33) (c' := .inl (0, 370, .inl (shf fq (k + 1)))) dX7_notes_32 rfl (gs_eq u1) (vp_in_nI (n := k) (by omega) (by omega)) (by rw [nI_cl (by omega), ← shf_s]) ?_
          rw [gs_set]
          refine r_iinc (pc' := 36) (lo' := [some (.ref 60), some (.int (nI (k + 1)))]) dX7_notes_33 rfl (by decide) rfl (nI_add k 1) rfl ?_
          refine r_goto (tgt := 11) dX7_notes_36 (by decide) ?_
          exact ih11 (k + 1) (by omega) (by omega)
    have L0 := L11 334 0 (by omega) (Nat.zero_le _)
    rw [shf_0, gs_id u1] at L0
    exact L0
