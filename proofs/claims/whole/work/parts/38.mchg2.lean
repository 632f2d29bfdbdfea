theorem nRk_ok {T : px_T} {M : px_N} (hO : TOK T) (hb : SubB T) (hM : NOK M) {d i : Nat} (hi : i < tW T) (x : Nat) : NOK (nRk T M d i x) := by
  refine ⟨fun a b ha hb2 => ?_, hM.2.1, hM.2.2⟩
  by_cases e : a = d ∧ b < x
  · have := tc_le hO hb (i := i) (x := b) hi
    simp [nRk, nc, e.1, e.2, this]
  · have := hM.1 a b ha hb2
    simp only [nRk, nc, e, if_false]
    exact this
set_option maxHeartbeats 200000 in
theorem ct_X7_rakes {g : px_G} {w : px_W} {Q : px_Q} {T : px_T} {M : px_N} {U : List px_N} {I : Nat → Option px_N} {n : Nat} {tx : Nat → Nat} {tr : Int64} (hS : MSx w T M U I n tx tr) (hO : TOK T) {a b : Int32} (hQ : ∀ w', MSx w' T (rakesM T M a b) (rakesU T M U a b) I n tx tr → Frm w w' 60 76 → Q (some (.int (rakesR T a b))) w') : Ct g yX7_rakes cX7_rakes 4 (some .int) 3 0 0 [.ref 60, .int a, .int b] w Q := by
  refine Ct.of kX7_rakes (by omega) (lo := [some (.ref 60), some (.int a), some (.int b), none]) rfl (px_cat1 rfl) (Nat.le_of_ble_eq_true rfl) ?_
  obtain ⟨nx, tk, pl, va, fa, hX, hT, hM, hTx, hK, hU, hB⟩ := id hS
  obtain ⟨fm, fz, fl, fs, fd, g0, g1, g2, g3, ⟨c1, c2, c3, c4, c5, c6, c7, c8, c9⟩, ma, mz, ml, md, mg, ⟨sb1, sb2, sb3⟩, sb4, sb5⟩ := id hT
  obtain ⟨fn, cn, hf, mB1, mB2, mB3⟩ := id hM
  obtain ⟨fx, x1, x2, x3⟩ := id hTx
  obtain ⟨fk, bk, k1, k2, k3⟩ := id hK
  obtain ⟨fq, u1, u2⟩ := id hU
  have u3 := u2.1
  refine r_aload_n (pc' := 1) dX7_rakes_0 rfl rfl ?_
  refine r_iconst (pc' := 2) (v := nI 0) dX7_rakes_1 rfl rfl ?_
  refine r_put (pc' := 5) (ty := .int) (c' := .inr (6, [.int (nI 0), .long tr, .ref 61, .int (nI n), .int nx, .int tk, .int pl, .int va, .int fa, .ref 62, .ref 63, .ref 64, .ref 65, .ref 66, .ref 67, .ref 68, .ref 69, .ref 70, .ref 71, .ref 72, .ref 73, .ref 74, .int (nI U.length), .ref 75])) fX7_62 dX7_rakes_2 rfl hX (Nat.le_of_ble_eq_true rfl) rfl (by decide +kernel) rfl rfl rfl ?_
  refine px_id hX ?_
  refine r_aload_n (pc' := 6) dX7_rakes_5 rfl rfl ?_
  refine r_iload_n (pc' := 7) dX7_rakes_6 rfl rfl ?_
  refine r_callV (pc' := 10) (av := [.int a]) (rest := []) kX7_isDrive vX7_isDrive lX7_150 dX7_rakes_7 rfl hX rfl rfl rfl ⟨by decide, by decide, by decide⟩ rfl rfl (Nat.le_of_ble_eq_true rfl) (ct_X7_isDrive hX hT hO hM  ?_)
  show Wp g yX7_rakes cX7_rakes 4 (some .int) 3 0 0 (px_MQ g Q 0 0) 0 0 10 [some (.ref 60), some (.int a), some (.int b), none] [.int (bI (hasI a (tD T)))] w
  refine r_if_eq (pc' := 13) (P := (hasI a (tD T)) = false) (tgt := 21) dX7_rakes_10 (by decide) rfl (bI_0) (fun h10 => ?_) (fun h10 => ?_)
  · skip
    refine r_iconst (pc' := 22) (v := (-1)) dX7_rakes_21 rfl rfl ?_
    refine r_ireturn dX7_rakes_22 rfl ?_
    refine px_eq (hQ w ?_ Frm.rf) ?_
    · first | (simpa [rakesM, rakesU, rakO, rakC, h10] using hS) | (simpa [rakesM, rakesU, rakO, rakC, h18] using hS)
    · first | (simp [rakesR, rakO, rakC, h10]; done) | (simp [rakesR, rakO, rakC, h18]; done)
  · have h10' := (by simpa using h10 : hasI a _ = true)
    obtain ⟨d, hd, rfl⟩ := hasI_t h10' (by omega)
    refine r_aload_n (pc' := 14) dX7_rakes_13 rfl rfl ?_
    refine r_iload_n (pc' := 15) dX7_rakes_14 rfl rfl ?_
    refine r_callV (pc' := 18) (av := [.int b]) (rest := []) kX7_isWordAt vX7_isWordAt lX7_126 dX7_rakes_15 rfl hX rfl rfl rfl ⟨by decide, by decide, by decide⟩ rfl rfl (Nat.le_of_ble_eq_true rfl) (ct_X7_isWordAt hX hT hO hM  ?_)
    show Wp g yX7_rakes cX7_rakes 4 (some .int) 3 0 0 (px_MQ g Q 0 0) 0 0 18 [some (.ref 60), some (.int (nI d)), some (.int b), none] [.int (bI (hasI b (tW T)))] w
    refine r_if_ne (pc' := 21) (P := (hasI b (tW T)) = false) (tgt := 23) dX7_rakes_18 (by decide) rfl (bI_0) (fun h18 => ?_) (fun h18 => ?_)
    · have h18' := (by simpa using h18 : hasI b _ = true)
      obtain ⟨i, hi, rfl⟩ := hasI_t h18' (by omega)
      refine r_aload_n (pc' := 24) dX7_rakes_23 rfl rfl ?_
      refine r_get (pc' := 27) fX7_16 dX7_rakes_24 rfl hX rfl ?_
      refine r_iload_n (pc' := 28) dX7_rakes_27 rfl rfl ?_
      refine r_iaload (pc' := 29) (v := nI (tl T i)) dX7_rakes_28 rfl c2 (vp_in_nI (n := i) (by omega) (by omega)) (by rw [nI_cl (by omega)]; exact (mz i (by omega)).1) ?_
      have e28 := sb4 i (by omega)
      refine r_aload_n (pc' := 30) dX7_rakes_29 rfl rfl ?_
      refine r_get (pc' := 33) fX7_25 dX7_rakes_30 rfl hX rfl ?_
      refine r_iload_n (pc' := 34) dX7_rakes_33 rfl rfl ?_
      refine r_iaload (pc' := 35) (v := nI (td T d)) dX7_rakes_34 rfl c5 (vp_in_nI (n := d) (by omega) (by omega)) (by rw [nI_cl (by omega)]; exact md d (by omega)) ?_
      have e34 := hO.2.2.1 d (by omega)
      refine r_icmp_le (pc' := 38) (P := tl T i ≤ td T d) (tgt := 41) dX7_rakes_35 (by decide) rfl (nI_leI (a := tl T i) (b := td T d) (by omega) (by omega)) (fun h35 => ?_) (fun h35 => ?_)
      · skip
        refine r_aload_n (pc' := 42) dX7_rakes_41 rfl rfl ?_
        refine r_callV (pc' := 45) (av := []) (rest := []) kX7_notes vX7_notes lX7_160 dX7_rakes_42 rfl hX rfl rfl rfl ⟨by decide, by decide, by decide⟩ rfl rfl (Nat.le_of_ble_eq_true rfl) (ct_X7_notes hX hT hO hM rfl hU (fun w42 hF42 hU42 => ?_))
        have hmt62_w42 := (hT.fr (a := 60) (b := 61) (Frm.set (by omega) (by omega)) (by omega)).fr hF42 (by omega)
        have hmn71_w42 := (hM.fr (a := 60) (b := 61) (Frm.set (by omega) (by omega)) (by omega)).fr hF42 (by omega)
        have htx61_w42 := (hTx.fr (a := 60) (b := 61) (Frm.set (by omega) (by omega)) (by omega)).fr hF42 (by omega)
        have hkp72_w42 := (hK.fr (a := 60) (b := 61) (Frm.set (by omega) (by omega)) (by omega)).fr hF42 (by omega)
        have hby75_w42 := (hB.fr (a := 60) (b := 61) (Frm.set (by omega) (by omega)) (by omega)).fr hF42 (by omega)
        show Wp g yX7_rakes cX7_rakes 4 (some .int) 3 0 0 (px_MQ g Q 0 0) 0 0 45 [some (.ref 60), some (.int (nI d)), some (.int (nI i)), none] [] w42
        refine r_iconst (pc' := 46) (v := nI 0) dX7_rakes_45 rfl rfl ?_
        refine r_istore_n (pc' := 47) (lo' := [some (.ref 60), some (.int (nI d)), some (.int (nI i)), some (.int (nI 0))]) dX7_rakes_46 rfl (by decide) rfl ?_
        have L47 : ∀ (fu : Nat) (x : Nat) (f2 : Nat → Int32), 8 - x < fu → x ≤ 8 → MnF f2 (nRk T M d i x) → Wp g yX7_rakes cX7_rakes 4 (some .int) 3 0 0 (px_MQ g Q 0 0) 0 0 47 [some (.ref 60), some (.int (nI d)), some (.int (nI i)), some (.int (nI x))] [] (w42.set 71 (.inl (0, 37, .inl f2))) := by
          intro fu; induction fu with
          | zero => intro x f2 hm; exact absurd hm (Nat.not_lt_zero _)
          | succ fu ih =>
            intro x f2 hm hx hf2
            have hn2 := nRk_ok hO ⟨⟨sb1, sb2, sb3⟩, sb4, sb5⟩ ⟨mB1, mB2, mB3⟩ (d := d) (i := i) (by omega) x
            have ih47 := ih; clear ih
            refine r_iload_n (pc' := 48) dX7_rakes_47 rfl rfl ?_
            refine r_bipush (pc' := 50) (v := nI 8) dX7_rakes_48 rfl rfl ?_
            refine r_icmp_ge (pc' := 53) (P := 8 ≤ x) (tgt := 78) dX7_rakes_50 (by decide) rfl (nI_leI (a := 8) (b := x) (by omega) (by omega)) (fun h50 => ?_) (fun h50 => ?_)
            · obtain rfl : x = 8 := by omega
              refine r_aload_n (pc' := 79) dX7_rakes_78 rfl rfl ?_
              refine r_get (pc' := 82) fX7_40 dX7_rakes_79 rfl (gs_ne (hF42.at (gs_eq hX) (by omega)) (by decide)) rfl ?_
              refine r_bipush (pc' := 84) (v := nI 32) dX7_rakes_82 rfl rfl ?_
              refine r_iload_n (pc' := 85) dX7_rakes_84 rfl rfl ?_
              refine r_iadd (pc' := 86) (v := nI (32 + d)) dX7_rakes_85 rfl (nI_add 32 d) ?_
              refine r_iconst (pc' := 87) (v := nI 0) dX7_rakes_86 rfl rfl ?_
              refine r_iastore (pc' := 88) (c' := .inl (0, 37, .inl (upd f2 (32 + d) (nI 0)))) dX7_rakes_87 rfl (gs_eq (hF42.at (gs_ne cn (by decide)) (by omega))) (vp_in_nI (n := 32 + d) (by omega) (by omega)) (by rw [nI_cl (by omega)]) ?_
              refine r_aload_n (pc' := 89) dX7_rakes_88 rfl rfl ?_
              refine r_get (pc' := 92) fX7_25 dX7_rakes_89 rfl (gs_ne (gs_ne (hF42.at (gs_eq hX) (by omega)) (by decide)) (by decide)) rfl ?_
              refine r_iload_n (pc' := 93) dX7_rakes_92 rfl rfl ?_
              refine r_iaload (pc' := 94) (v := nI (td T d)) dX7_rakes_93 rfl (gs_ne (gs_ne (hF42.at (gs_ne c5 (by decide)) (by omega)) (by decide)) (by decide)) (vp_in_nI (n := d) (by omega) (by omega)) (by rw [nI_cl (by omega)]; exact md d (by omega)) ?_
              have e93 := hO.2.2.1 d (by omega)
              refine r_aload_n (pc' := 95) dX7_rakes_94 rfl rfl ?_
              refine r_get (pc' := 98) fX7_16 dX7_rakes_95 rfl (gs_ne (gs_ne (hF42.at (gs_eq hX) (by omega)) (by decide)) (by decide)) rfl ?_
              refine r_iload_n (pc' := 99) dX7_rakes_98 rfl rfl ?_
              refine r_iaload (pc' := 100) (v := nI (tl T i)) dX7_rakes_99 rfl (gs_ne (gs_ne (hF42.at (gs_ne c2 (by decide)) (by omega)) (by decide)) (by decide)) (vp_in_nI (n := i) (by omega) (by omega)) (by rw [nI_cl (by omega)]; exact (mz i (by omega)).1) ?_
              have e99 := sb4 i (by omega)
              refine r_isub (pc' := 101) (v := nI (td T d - (tl T i))) dX7_rakes_100 rfl (pk_sub (a := td T d) (b := tl T i) (by omega)) ?_
              refine r_ireturn dX7_rakes_101 rfl ?_
              have ho : rakO T (nI d) (nI i) = true := by simp [rakO, rakC, h10', h18', nI_cl (show d < 2 ^ 31 by omega), nI_cl (show i < 2 ^ 31 by omega)]; omega
              rw [rakesM, rakesU, rakesR, if_pos ho, if_pos ho, if_pos ho, nI_cl (show d < 2 ^ 31 by omega), nI_cl (show i < 2 ^ 31 by omega)] at hQ
              refine px_eq (hQ ((w42.set 71 (.inl (0, 37, .inl f2))).set 71 (.inl (0, 37, .inl (upd f2 (32 + d) (nI 0))))) ⟨nx, tk, pl, va, fa, gs_ne (gs_ne (hF42.at (gs_eq hX) (by omega)) (by decide)) (by decide), ((hmt62_w42.fr (a := 71) (b := 72) (Frm.set (by omega) (by omega)) (by omega)).fr (a := 71) (b := 72) (Frm.set (by omega) (by omega)) (by omega)), (MnA.of (gs_eq (gs_eq (hF42.at (gs_ne cn (by decide)) (by omega)))) (MnF.setT hf2 (by omega)) (NOK.setT hn2 (by omega))), ((htx61_w42.fr (a := 71) (b := 72) (Frm.set (by omega) (by omega)) (by omega)).fr (a := 71) (b := 72) (Frm.set (by omega) (by omega)) (by omega)), ((hkp72_w42.fr (a := 71) (b := 72) (Frm.set (by omega) (by omega)) (by omega)).fr (a := 71) (b := 72) (Frm.set (by omega) (by omega)) (by omega)), ((hU42.fr (a := 71) (b := 72) (Frm.set (by omega) (by omega)) (by omega)).fr (a := 71) (b := 72) (Frm.set (by omega) (by omega)) (by omega)), ((hby75_w42.fr (a := 71) (b := 72) (Frm.set (by omega) (by omega)) (by omega)).fr (a := 71) (b := 72) (Frm.set (by omega) (by omega)) (by omega))⟩ (((((Frm.rf (a := 60) (b := 76)).sets (k := 60) (by omega) (by omega)).tr (a := 60) (b := 76) hF42 (by omega) (by omega) (by omega) (by omega)).sets (k := 71) (by omega) (by omega)).sets (k := 71) (by omega) (by omega))) ?_
              rfl
            · skip
              refine r_aload_n (pc' := 54) dX7_rakes_53 rfl rfl ?_
              refine r_get (pc' := 57) fX7_40 dX7_rakes_54 rfl (gs_ne (hF42.at (gs_eq hX) (by omega)) (by decide)) rfl ?_
              refine r_iconst (pc' := 58) (v := nI 0) dX7_rakes_57 rfl rfl ?_
              refine r_bipush (pc' := 60) (v := nI 8) dX7_rakes_58 rfl rfl ?_
              refine r_iload_n (pc' := 61) dX7_rakes_60 rfl rfl ?_
              refine r_imul (pc' := 62) (v := nI (8 * d)) dX7_rakes_61 rfl (pk_mul 8 d) ?_
              refine r_iadd (pc' := 63) (v := nI (0 + (8 * d))) dX7_rakes_62 rfl (nI_add 0 (8 * d)) ?_
              refine r_iload_n (pc' := 64) dX7_rakes_63 rfl rfl ?_
              refine r_iadd (pc' := 65) (v := nI (0 + (8 * d) + x)) dX7_rakes_64 rfl (nI_add (0 + (8 * d)) x) ?_
              refine r_aload_n (pc' := 66) dX7_rakes_65 rfl rfl ?_
              refine r_iload_n (pc' := 67) dX7_rakes_66 rfl rfl ?_
              refine r_iload_n (pc' := 68) dX7_rakes_67 rfl rfl ?_
              refine r_callV (pc' := 71) (av := [.int (nI i), .int (nI x)]) (rest := [.int (nI (0 + (8 * d) + x)), .ref 71]) kX7_letterOf vX7_letterOf lX7_120 dX7_rakes_68 rfl (gs_ne (hF42.at (gs_eq hX) (by omega)) (by decide)) rfl rfl rfl ⟨by decide, by decide, by decide⟩ rfl rfl (Nat.le_of_ble_eq_true rfl) (ct_X7_letterOf (gs_ne (hF42.at (gs_eq hX) (by omega)) (by decide)) (hmt62_w42.fr (a := 71) (b := 72) (Frm.set (by omega) (by omega)) (by omega)) hO (MnA.of (gs_eq (hF42.at (gs_ne cn (by decide)) (by omega))) hf2 hn2) (i := i) (x := x) (by omega) (by omega) ?_)
              show Wp g yX7_rakes cX7_rakes 4 (some .int) 3 0 0 (px_MQ g Q 0 0) 0 0 71 [some (.ref 60), some (.int (nI d)), some (.int (nI i)), some (.int (nI x))] [.int (nI (tc T i x)), .int (nI (0 + (8 * d) + x)), .ref 71] (w42.set 71 (.inl (0, 37, .inl f2)))
              have e68 := tc_le hO hT.b (i := i) (x := x) (by omega)
              refine r_iastore (pc' := 72) (c' := .inl (0, 37, .inl (upd f2 (8 * d + x) (nI (tc T i x))))) dX7_rakes_71 rfl (gs_eq (hF42.at (gs_ne cn (by decide)) (by omega))) (vp_in_nI (n := 0 + (8 * d) + x) (by omega) (by omega)) (by rw [nI_cl (by omega), Nat.zero_add]) ?_
              rw [gs_set]
              refine r_iinc (pc' := 75) (lo' := [some (.ref 60), some (.int (nI d)), some (.int (nI i)), some (.int (nI (x + 1)))]) dX7_rakes_72 rfl (by decide) rfl (nI_add x 1) rfl ?_
              refine r_goto (tgt := 47) dX7_rakes_75 (by decide) ?_
              exact ih47 (x + 1) _ (by omega) (by omega) (nRk_s T M d i x ▸ MnF.lay hf2 (by omega) (by omega))
        have L0 := L47 9 0 fn (by omega) (Nat.zero_le _) (by rw [nRk_0]; exact hf)
        rw [gs_id (hF42.at (gs_ne cn (by decide)) (by omega))] at L0
        exact L0
      · skip
        refine r_bipush (pc' := 40) (v := (-2)) dX7_rakes_38 rfl rfl ?_
        refine r_ireturn dX7_rakes_40 rfl ?_
        have ho : rakO T (nI d) (nI i) = false := by simp [rakO, rakC, h10', h18', nI_cl (show d < 2 ^ 31 by omega), nI_cl (show i < 2 ^ 31 by omega)]; omega
        have hc : rakC T (nI d) (nI i) = true := by simp [rakC, h10', h18']
        rw [rakesM, rakesU, rakesR, ho, hc] at hQ
        exact hQ w hS Frm.rf
    · skip
      refine r_iconst (pc' := 22) (v := (-1)) dX7_rakes_21 rfl rfl ?_
      refine r_ireturn dX7_rakes_22 rfl ?_
      refine px_eq (hQ w ?_ Frm.rf) ?_
      · first | (simpa [rakesM, rakesU, rakO, rakC, h10] using hS) | (simpa [rakesM, rakesU, rakO, rakC, h18] using hS)
      · first | (simp [rakesR, rakO, rakC, h10]; done) | (simp [rakesR, rakO, rakC, h18]; done)
set_option maxHeartbeats 200000 in
theorem ct_X7_treads {g : px_G} {w : px_W} {Q : px_Q} {T : px_T} {M : px_N} {U : List px_N} {I : Nat → Option px_N} {n : Nat} {tx : Nat → Nat} {tr : Int64} (hS : MSx w T M U I n tx tr) (hO : TOK T) {a b c : Int32} (hQ : ∀ w', MSx w' T (treadsM T M a b c) (treadsU T M U a b c) I n tx tr → Frm w w' 60 76 → Q (some (.int (treadsR T M a b c))) w') : Ct g yX7_treads cX7_treads 5 (some .int) 3 0 0 [.ref 60, .int a, .int b, .int c] w Q := by
  refine Ct.of kX7_treads (by omega) (lo := [some (.ref 60), some (.int a), some (.int b), some (.int c), none]) rfl (px_cat1 rfl) (Nat.le_of_ble_eq_true rfl) ?_
  obtain ⟨nx, tk, pl, va, fa, hX, hT, hM, hTx, hK, hU, hB⟩ := id hS
  obtain ⟨fm, fz, fl, fs, fd, g0, g1, g2, g3, ⟨c1, c2, c3, c4, c5, c6, c7, c8, c9⟩, ma, mz, ml, md, mg, ⟨sb1, sb2, sb3⟩, sb4, sb5⟩ := id hT
  obtain ⟨fn, cn, hf, mB1, mB2, mB3⟩ := id hM
  obtain ⟨fx, x1, x2, x3⟩ := id hTx
  obtain ⟨fk, bk, k1, k2, k3⟩ := id hK
  obtain ⟨fq, u1, u2⟩ := id hU
  have u3 := u2.1
  refine r_aload_n (pc' := 1) dX7_treads_0 rfl rfl ?_
  refine r_iconst (pc' := 2) (v := nI 0) dX7_treads_1 rfl rfl ?_
  refine r_put (pc' := 5) (ty := .int) (c' := .inr (6, [.int (nI 0), .long tr, .ref 61, .int (nI n), .int nx, .int tk, .int pl, .int va, .int fa, .ref 62, .ref 63, .ref 64, .ref 65, .ref 66, .ref 67, .ref 68, .ref 69, .ref 70, .ref 71, .ref 72, .ref 73, .ref 74, .int (nI U.length), .ref 75])) fX7_62 dX7_treads_2 rfl hX (Nat.le_of_ble_eq_true rfl) rfl (by decide +kernel) rfl rfl rfl ?_
  refine px_id hX ?_
  refine r_aload_n (pc' := 6) dX7_treads_5 rfl rfl ?_
  refine r_iload_n (pc' := 7) dX7_treads_6 rfl rfl ?_
  refine r_callV (pc' := 10) (av := [.int a]) (rest := []) kX7_isDrive vX7_isDrive lX7_150 dX7_treads_7 rfl hX rfl rfl rfl ⟨by decide, by decide, by decide⟩ rfl rfl (Nat.le_of_ble_eq_true rfl) (ct_X7_isDrive hX hT hO hM  ?_)
  show Wp g yX7_treads cX7_treads 5 (some .int) 3 0 0 (px_MQ g Q 0 0) 0 0 10 [some (.ref 60), some (.int a), some (.int b), some (.int c), none] [.int (bI (hasI a (tD T)))] w
  refine r_if_eq (pc' := 13) (P := (hasI a (tD T)) = false) (tgt := 32) dX7_treads_10 (by decide) rfl (bI_0) (fun h10 => ?_) (fun h10 => ?_)
  · skip
    refine r_iconst (pc' := 33) (v := (-1)) dX7_treads_32 rfl rfl ?_
    refine r_ireturn dX7_treads_33 rfl ?_
    refine px_eq (hQ w ?_ Frm.rf) ?_
    · first | (simpa [treadsM, treadsU, treO, h10] using hS) | (simpa [treadsM, treadsU, treO, h20] using hS) | (simpa [treadsM, treadsU, treO, h29] using hS)
    · first | (simp [treadsR, treO, h10]; done) | (simp [treadsR, treO, h20]; done) | (simp [treadsR, treO, h29]; done)
  · have h10' := (by simpa using h10 : hasI a _ = true)
    obtain ⟨d, hd, rfl⟩ := hasI_t h10' (by omega)
    refine r_iload_n (pc' := 14) dX7_treads_13 rfl rfl ?_
    refine r_iconst (pc' := 15) (v := nI 0) dX7_treads_14 rfl rfl ?_
    refine r_bipush (pc' := 17) (v := nI 7) dX7_treads_15 rfl rfl ?_
    refine r_callS (pc' := 20) (av := [.int b, .int (nI 0), .int (nI 7)]) (rest := []) kX7_in vX7_in lX7_66 dX7_treads_17 rfl rfl rfl ⟨by decide, by decide, by decide⟩ rfl rfl (Nat.le_of_ble_eq_true rfl) (ct_in_c (n := 7) (by omega) ?_)
    show Wp g yX7_treads cX7_treads 5 (some .int) 3 0 0 (px_MQ g Q 0 0) 0 0 20 [some (.ref 60), some (.int (nI d)), some (.int b), some (.int c), none] [.int (bI (hasI b (7 + 1)))] w
    refine r_if_eq (pc' := 23) (P := (hasI b (7 + 1)) = false) (tgt := 32) dX7_treads_20 (by decide) rfl (bI_0) (fun h20 => ?_) (fun h20 => ?_)
    · skip
      refine r_iconst (pc' := 33) (v := (-1)) dX7_treads_32 rfl rfl ?_
      refine r_ireturn dX7_treads_33 rfl ?_
      refine px_eq (hQ w ?_ Frm.rf) ?_
      · first | (simpa [treadsM, treadsU, treO, h10] using hS) | (simpa [treadsM, treadsU, treO, h20] using hS) | (simpa [treadsM, treadsU, treO, h29] using hS)
      · first | (simp [treadsR, treO, h10]; done) | (simp [treadsR, treO, h20]; done) | (simp [treadsR, treO, h29]; done)
    · have h20' : hasI b 8 = true := by simpa using h20
      obtain ⟨x, hx, rfl⟩ := hasI_t h20' (by omega)
      refine r_iload_n (pc' := 24) dX7_treads_23 rfl rfl ?_
      refine r_iconst (pc' := 25) (v := nI 1) dX7_treads_24 rfl rfl ?_
      refine r_iconst (pc' := 26) (v := nI 4) dX7_treads_25 rfl rfl ?_
      refine r_callS (pc' := 29) (av := [.int c, .int (nI 1), .int (nI 4)]) (rest := []) kX7_in vX7_in lX7_66 dX7_treads_26 rfl rfl rfl ⟨by decide, by decide, by decide⟩ rfl rfl (Nat.le_of_ble_eq_true rfl) (ct_in_4 ?_)
      show Wp g yX7_treads cX7_treads 5 (some .int) 3 0 0 (px_MQ g Q 0 0) 0 0 29 [some (.ref 60), some (.int (nI d)), some (.int (nI x)), some (.int c), none] [.int (bI (strI c))] w
      refine r_if_ne (pc' := 32) (P := (strI c) = false) (tgt := 34) dX7_treads_29 (by decide) rfl (bI_0) (fun h29 => ?_) (fun h29 => ?_)
      · have h29' : strI c = true := by simpa using h29
        obtain ⟨s, hs1, hs2, rfl⟩ := strI_t h29'
        have e25 := hO.2.2.1 d hd
        have e26 := trk_lt (f := x) (s := s) e25.2
        refine r_aload_n (pc' := 35) dX7_treads_34 rfl rfl ?_
        refine r_callV (pc' := 38) (av := []) (rest := []) kX7_notes vX7_notes lX7_160 dX7_treads_35 rfl hX rfl rfl rfl ⟨by decide, by decide, by decide⟩ rfl rfl (Nat.le_of_ble_eq_true rfl) (ct_X7_notes hX hT hO hM rfl hU (fun w35 hF35 hU35 => ?_))
        have hmt62_w35 := (hT.fr (a := 60) (b := 61) (Frm.set (by omega) (by omega)) (by omega)).fr hF35 (by omega)
        have hmn71_w35 := (hM.fr (a := 60) (b := 61) (Frm.set (by omega) (by omega)) (by omega)).fr hF35 (by omega)
        have htx61_w35 := (hTx.fr (a := 60) (b := 61) (Frm.set (by omega) (by omega)) (by omega)).fr hF35 (by omega)
        have hkp72_w35 := (hK.fr (a := 60) (b := 61) (Frm.set (by omega) (by omega)) (by omega)).fr hF35 (by omega)
        have hby75_w35 := (hB.fr (a := 60) (b := 61) (Frm.set (by omega) (by omega)) (by omega)).fr hF35 (by omega)
        show Wp g yX7_treads cX7_treads 5 (some .int) 3 0 0 (px_MQ g Q 0 0) 0 0 38 [some (.ref 60), some (.int (nI d)), some (.int (nI x)), some (.int (nI s)), none] [] w35
        refine r_aload_n (pc' := 39) dX7_treads_38 rfl rfl ?_
        refine r_iload_n (pc' := 40) dX7_treads_39 rfl rfl ?_
        refine r_iload_n (pc' := 41) dX7_treads_40 rfl rfl ?_
        refine r_iload_n (pc' := 42) dX7_treads_41 rfl rfl ?_
        refine r_callV (pc' := 45) (av := [.int (nI d), .int (nI x), .int (nI s)]) (rest := []) kX7_stepsOf vX7_stepsOf lX7_146 dX7_treads_42 rfl (hF35.at (gs_eq hX) (by omega)) rfl rfl rfl ⟨by decide, by decide, by decide⟩ rfl rfl (Nat.le_of_ble_eq_true rfl) (ct_X7_stepsOf (hF35.at (gs_eq hX) (by omega)) hmt62_w35 hO hmn71_w35 (d := d) (f := x) (s := s) (by omega) (by omega) (by omega) ?_)
        show Wp g yX7_treads cX7_treads 5 (some .int) 3 0 0 (px_MQ g Q 0 0) 0 0 45 [some (.ref 60), some (.int (nI d)), some (.int (nI x)), some (.int (nI s)), none] [.int (nI (trk x s (td T d)))] w35
        have e42 := trk_lt (f := x) (s := s) (hO.2.2.1 d (by omega)).2
        refine r_aload_n (pc' := 46) dX7_treads_45 rfl rfl ?_
        refine r_get (pc' := 49) fX7_40 dX7_treads_46 rfl (hF35.at (gs_eq hX) (by omega)) rfl ?_
        refine r_bipush (pc' := 51) (v := nI 32) dX7_treads_49 rfl rfl ?_
        refine r_iload_n (pc' := 52) dX7_treads_51 rfl rfl ?_
        refine r_iadd (pc' := 53) (v := nI (32 + d)) dX7_treads_52 rfl (nI_add 32 d) ?_
        refine r_iaload (pc' := 54) (v := nI (nt M d)) dX7_treads_53 rfl (hF35.at (gs_ne cn (by decide)) (by omega)) (vp_in_nI (n := 32 + d) (by omega) (by omega)) (by rw [nI_cl (by omega), hf _ (by omega), sv_t _ (by omega)]) ?_
        have e53 := mB2 d (by omega)
        refine r_iconst (pc' := 55) (v := (-1)) dX7_treads_54 rfl rfl ?_
        refine r_ixor (pc' := 56) (v := (nI (nt M d)) ^^^ ((-1))) dX7_treads_55 rfl (rfl) ?_
        refine r_iand (pc' := 57) (v := nI (ndif (trk x s (td T d)) (nt M d))) dX7_treads_56 rfl (ndif_n (by omega)) ?_
        have e56 := ndif_le (trk x s (td T d)) (nt M d)
        refine r_istore (pc' := 59) (lo' := [some (.ref 60), some (.int (nI d)), some (.int (nI x)), some (.int (nI s)), some (.int (nI (ndif (trk x s (td T d)) (nt M d))))]) dX7_treads_57 rfl (by decide) rfl ?_
        refine r_aload_n (pc' := 60) dX7_treads_59 rfl rfl ?_
        refine r_get (pc' := 63) fX7_40 dX7_treads_60 rfl (hF35.at (gs_eq hX) (by omega)) rfl ?_
        refine r_bipush (pc' := 65) (v := nI 32) dX7_treads_63 rfl rfl ?_
        refine r_iload_n (pc' := 66) dX7_treads_65 rfl rfl ?_
        refine r_iadd (pc' := 67) (v := nI (32 + d)) dX7_treads_66 rfl (nI_add 32 d) ?_
        refine r_dup2 (pc' := 68) dX7_treads_67 rfl rfl rfl ?_
        refine r_iaload (pc' := 69) (v := nI (nt M d)) dX7_treads_68 rfl (hF35.at (gs_ne cn (by decide)) (by omega)) (vp_in_nI (n := 32 + d) (by omega) (by omega)) (by rw [nI_cl (by omega), hf _ (by omega), sv_t _ (by omega)]) ?_
        refine r_iload (pc' := 71) dX7_treads_69 rfl rfl ?_
        refine r_ior (pc' := 72) (v := nI ((nt M d) ||| (ndif (trk x s (td T d)) (nt M d)))) dX7_treads_71 rfl (or_n (nt M d) (ndif (trk x s (td T d)) (nt M d))) ?_
        refine r_iastore (pc' := 73) (c' := .inl (0, 37, .inl (upd fn (32 + d) (nI ((nt M d) ||| (ndif (trk x s (td T d)) (nt M d))))))) dX7_treads_72 rfl (hF35.at (gs_ne cn (by decide)) (by omega)) (vp_in_nI (n := 32 + d) (by omega) (by omega)) (by rw [nI_cl (by omega)]) ?_
        refine r_iload (pc' := 75) dX7_treads_73 rfl rfl ?_
        refine r_callS (pc' := 78) (av := [.int (nI (ndif (trk x s (td T d)) (nt M d)))]) (rest := []) kX7_ones vX7_ones lX7_143 dX7_treads_75 rfl rfl rfl ⟨by decide, by decide, by decide⟩ rfl rfl (Nat.le_of_ble_eq_true rfl) (ct_X7_ones (n := ndif (trk x s (td T d)) (nt M d)) (by first | omega | assumption) ?_)
        show Wp g yX7_treads cX7_treads 5 (some .int) 3 0 0 (px_MQ g Q 0 0) 0 0 78 [some (.ref 60), some (.int (nI d)), some (.int (nI x)), some (.int (nI s)), some (.int (nI (ndif (trk x s (td T d)) (nt M d))))] [.int (nI (popc (ndif (trk x s (td T d)) (nt M d))))] (w35.set 71 (.inl (0, 37, .inl (upd fn (32 + d) (nI ((nt M d) ||| (ndif (trk x s (td T d)) (nt M d))))))))
        have e75 := popc_le (ndif (trk x s (td T d)) (nt M d))
        refine r_ireturn dX7_treads_78 rfl ?_
        have ho : treO T (nI d) (nI x) (nI s) = true := by rw [treO, h10', h20', h29']; rfl
        have hb : treB T (nI d) (nI x) (nI s) = trk x s (td T d) := by rw [treB, nI_cl (show d < 2 ^ 31 by omega), nI_cl (show x < 2 ^ 31 by omega), nI_cl (show s < 2 ^ 31 by omega)]
        rw [treadsM, treadsU, treadsR, if_pos ho, if_pos ho, if_pos ho, hb, nI_cl (show d < 2 ^ 31 by omega), nTread, ← ndif_or] at hQ
        refine px_eq (hQ (w35.set 71 (.inl (0, 37, .inl (upd fn (32 + d) (nI ((nt M d) ||| (ndif (trk x s (td T d)) (nt M d)))))))) ⟨nx, tk, pl, va, fa, gs_ne (hF35.at (gs_eq hX) (by omega)) (by decide), (hmt62_w35.fr (a := 71) (b := 72) (Frm.set (by omega) (by omega)) (by omega)), (MnA.of (gs_eq (hF35.at (gs_ne cn (by decide)) (by omega))) (MnF.setT hf (by omega)) (NOK.setT ⟨mB1, mB2, mB3⟩ (or_256 e53 (Nat.lt_of_le_of_lt (ndif_le _ _) (by omega))))), (htx61_w35.fr (a := 71) (b := 72) (Frm.set (by omega) (by omega)) (by omega)), (hkp72_w35.fr (a := 71) (b := 72) (Frm.set (by omega) (by omega)) (by omega)), (hU35.fr (a := 71) (b := 72) (Frm.set (by omega) (by omega)) (by omega)), (hby75_w35.fr (a := 71) (b := 72) (Frm.set (by omega) (by omega)) (by omega))⟩ ((((Frm.rf (a := 60) (b := 76)).sets (k := 60) (by omega) (by omega)).tr (a := 60) (b := 76) hF35 (by omega) (by omega) (by omega) (by omega)).sets (k := 71) (by omega) (by omega))) ?_
        rfl
      · skip
        refine r_iconst (pc' := 33) (v := (-1)) dX7_treads_32 rfl rfl ?_
        refine r_ireturn dX7_treads_33 rfl ?_
        refine px_eq (hQ w ?_ Frm.rf) ?_
        · first | (simpa [treadsM, treadsU, treO, h10] using hS) | (simpa [treadsM, treadsU, treO, h20] using hS) | (simpa [treadsM, treadsU, treO, h29] using hS)
        · first | (simp [treadsR, treO, h10]; done) | (simp [treadsR, treO, h20]; done) | (simp [treadsR, treO, h29]; done)
set_option maxHeartbeats 200000 in
theorem ct_X7_cat {g : px_G} {w : px_W} {Q : px_Q} {T : px_T} {M : px_N} {U : List px_N} {I : Nat → Option px_N} {n : Nat} {tx : Nat → Nat} {tr : Int64} (hS : MSx w T M U I n tx tr) (hO : TOK T) {a b : Int32} (hQ : ∀ w', MSx w' T (catM T M a b) (catU T M U a b) I n tx tr → Frm w w' 60 76 → Q (some (.int (catR T M a b))) w') : Ct g yX7_cat cX7_cat 3 (some .int) 3 0 0 [.ref 60, .int a, .int b] w Q := by
  refine Ct.of kX7_cat (by omega) (lo := [some (.ref 60), some (.int a), some (.int b)]) rfl (px_cat1 rfl) (Nat.le_of_ble_eq_true rfl) ?_
  obtain ⟨nx, tk, pl, va, fa, hX, hT, hM, hTx, hK, hU, hB⟩ := id hS
  obtain ⟨fm, fz, fl, fs, fd, g0, g1, g2, g3, ⟨c1, c2, c3, c4, c5, c6, c7, c8, c9⟩, ma, mz, ml, md, mg, ⟨sb1, sb2, sb3⟩, sb4, sb5⟩ := id hT
  obtain ⟨fn, cn, hf, mB1, mB2, mB3⟩ := id hM
  obtain ⟨fx, x1, x2, x3⟩ := id hTx
  obtain ⟨fk, bk, k1, k2, k3⟩ := id hK
  obtain ⟨fq, u1, u2⟩ := id hU
  have u3 := u2.1
  refine r_aload_n (pc' := 1) dX7_cat_0 rfl rfl ?_
  refine r_iconst (pc' := 2) (v := nI 0) dX7_cat_1 rfl rfl ?_
  refine r_put (pc' := 5) (ty := .int) (c' := .inr (6, [.int (nI 0), .long tr, .ref 61, .int (nI n), .int nx, .int tk, .int pl, .int va, .int fa, .ref 62, .ref 63, .ref 64, .ref 65, .ref 66, .ref 67, .ref 68, .ref 69, .ref 70, .ref 71, .ref 72, .ref 73, .ref 74, .int (nI U.length), .ref 75])) fX7_62 dX7_cat_2 rfl hX (Nat.le_of_ble_eq_true rfl) rfl (by decide +kernel) rfl rfl rfl ?_
  refine px_id hX ?_
  refine r_aload_n (pc' := 6) dX7_cat_5 rfl rfl ?_
  refine r_iload_n (pc' := 7) dX7_cat_6 rfl rfl ?_
  refine r_callV (pc' := 10) (av := [.int a]) (rest := []) kX7_isDrive vX7_isDrive lX7_150 dX7_cat_7 rfl hX rfl rfl rfl ⟨by decide, by decide, by decide⟩ rfl rfl (Nat.le_of_ble_eq_true rfl) (ct_X7_isDrive hX hT hO hM  ?_)
  show Wp g yX7_cat cX7_cat 3 (some .int) 3 0 0 (px_MQ g Q 0 0) 0 0 10 [some (.ref 60), some (.int a), some (.int b)] [.int (bI (hasI a (tD T)))] w
  refine r_if_eq (pc' := 13) (P := (hasI a (tD T)) = false) (tgt := 29) dX7_cat_10 (by decide) rfl (bI_0) (fun h10 => ?_) (fun h10 => ?_)
  · skip
    refine r_iconst (pc' := 30) (v := (-1)) dX7_cat_29 rfl rfl ?_
    refine r_ireturn dX7_cat_30 rfl ?_
    refine px_eq (hQ w ?_ Frm.rf) ?_
    · first | (simpa [catM, catU, catO, hasC, h10] using hS)
    · first | (simp [catR, catO, hasC, h10]; done)
  · have h10' := (by simpa using h10 : hasI a _ = true)
    obtain ⟨d, hd, rfl⟩ := hasI_t h10' (by omega)
    refine r_iload_n (pc' := 14) dX7_cat_13 rfl rfl ?_
    refine r_iconst (pc' := 15) (v := nI 0) dX7_cat_14 rfl rfl ?_
    refine r_aload_n (pc' := 16) dX7_cat_15 rfl rfl ?_
    refine r_get (pc' := 19) fX7_25 dX7_cat_16 rfl hX rfl ?_
    refine r_iload_n (pc' := 20) dX7_cat_19 rfl rfl ?_
    refine r_iaload (pc' := 21) (v := nI (td T d)) dX7_cat_20 rfl c5 (vp_in_nI (n := d) (by omega) (by omega)) (by rw [nI_cl (by omega)]; exact md d (by omega)) ?_
    have e20 := hO.2.2.1 d (by omega)
    refine r_iconst (pc' := 22) (v := nI 1) dX7_cat_21 rfl rfl ?_
    refine r_isub (pc' := 23) (v := (nI (td T d)) - (nI 1)) dX7_cat_22 rfl (rfl) ?_
    refine r_callS (pc' := 26) (av := [.int b, .int (nI 0), .int ((nI (td T d)) - (nI 1))]) (rest := []) kX7_in vX7_in lX7_66 dX7_cat_23 rfl rfl rfl ⟨by decide, by decide, by decide⟩ rfl rfl (Nat.le_of_ble_eq_true rfl) (ct_in_s (n := (td T d)) (by omega) ?_)
    show Wp g yX7_cat cX7_cat 3 (some .int) 3 0 0 (px_MQ g Q 0 0) 0 0 26 [some (.ref 60), some (.int (nI d)), some (.int b)] [.int (bI (hasI b ((td T d))))] w
    refine r_if_ne (pc' := 29) (P := (hasI b ((td T d))) = false) (tgt := 31) dX7_cat_26 (by decide) rfl (bI_0) (fun h26 => ?_) (fun h26 => ?_)
    · have h26' : hasI b (td T d) = true := by simpa using h26
      obtain ⟨x, hx, rfl⟩ := hasI_t h26' (by omega)
      have hc1 : hasC T (nI d) (nI x) = true := by rw [hasC, h10', nI_cl (show d < 2 ^ 31 by omega), h26']; rfl
      have e9 := hO.2.2.1 d hd
      have e10 := pow_256 (x := x) (by omega)
      refine r_aload_n (pc' := 32) dX7_cat_31 rfl rfl ?_
      refine r_iload_n (pc' := 33) dX7_cat_32 rfl rfl ?_
      refine r_iload_n (pc' := 34) dX7_cat_33 rfl rfl ?_
      refine r_callV (pc' := 37) (av := [.int (nI d), .int (nI x)]) (rest := []) kX7_isTrodden vX7_isTrodden lX7_133 dX7_cat_34 rfl hX rfl rfl rfl ⟨by decide, by decide, by decide⟩ rfl rfl (Nat.le_of_ble_eq_true rfl) (ct_X7_isTrodden hX hT hO hM (d := d) (x := x) (by omega) (by omega) ?_)
      show Wp g yX7_cat cX7_cat 3 (some .int) 3 0 0 (px_MQ g Q 0 0) 0 0 37 [some (.ref 60), some (.int (nI d)), some (.int (nI x))] [.int (bI ((nt M d).testBit x))] w
      refine r_if_eq (pc' := 40) (P := ((nt M d).testBit x) = false) (tgt := 43) dX7_cat_37 (by decide) rfl (bI_0) (fun h37 => ?_) (fun h37 => ?_)
      · skip
        refine r_aload_n (pc' := 44) dX7_cat_43 rfl rfl ?_
        refine r_callV (pc' := 47) (av := []) (rest := []) kX7_notes vX7_notes lX7_160 dX7_cat_44 rfl hX rfl rfl rfl ⟨by decide, by decide, by decide⟩ rfl rfl (Nat.le_of_ble_eq_true rfl) (ct_X7_notes hX hT hO hM rfl hU (fun w44 hF44 hU44 => ?_))
        have hmt62_w44 := (hT.fr (a := 60) (b := 61) (Frm.set (by omega) (by omega)) (by omega)).fr hF44 (by omega)
        have hmn71_w44 := (hM.fr (a := 60) (b := 61) (Frm.set (by omega) (by omega)) (by omega)).fr hF44 (by omega)
        have htx61_w44 := (hTx.fr (a := 60) (b := 61) (Frm.set (by omega) (by omega)) (by omega)).fr hF44 (by omega)
        have hkp72_w44 := (hK.fr (a := 60) (b := 61) (Frm.set (by omega) (by omega)) (by omega)).fr hF44 (by omega)
        have hby75_w44 := (hB.fr (a := 60) (b := 61) (Frm.set (by omega) (by omega)) (by omega)).fr hF44 (by omega)
        show Wp g yX7_cat cX7_cat 3 (some .int) 3 0 0 (px_MQ g Q 0 0) 0 0 47 [some (.ref 60), some (.int (nI d)), some (.int (nI x))] [] w44
        refine r_aload_n (pc' := 48) dX7_cat_47 rfl rfl ?_
        refine r_get (pc' := 51) fX7_40 dX7_cat_48 rfl (hF44.at (gs_eq hX) (by omega)) rfl ?_
        refine r_bipush (pc' := 53) (v := nI 32) dX7_cat_51 rfl rfl ?_
        refine r_iload_n (pc' := 54) dX7_cat_53 rfl rfl ?_
        refine r_iadd (pc' := 55) (v := nI (32 + d)) dX7_cat_54 rfl (nI_add 32 d) ?_
        refine r_dup2 (pc' := 56) dX7_cat_55 rfl rfl rfl ?_
        refine r_iaload (pc' := 57) (v := nI (nt M d)) dX7_cat_56 rfl (hF44.at (gs_ne cn (by decide)) (by omega)) (vp_in_nI (n := 32 + d) (by omega) (by omega)) (by rw [nI_cl (by omega), hf _ (by omega), sv_t _ (by omega)]) ?_
        have e56 := mB2 d (by omega)
        refine r_iconst (pc' := 58) (v := nI 1) dX7_cat_57 rfl rfl ?_
        refine r_iload_n (pc' := 59) dX7_cat_58 rfl rfl ?_
        refine r_ishl (pc' := 60) (v := nI (2 ^ x)) dX7_cat_59 rfl (shl1_n (b := x) (by omega)) ?_
        refine r_ior (pc' := 61) (v := nI ((nt M d) ||| (2 ^ x))) dX7_cat_60 rfl (or_n (nt M d) (2 ^ x)) ?_
        refine r_iastore (pc' := 62) (c' := .inl (0, 37, .inl (upd fn (32 + d) (nI ((nt M d) ||| (2 ^ x)))))) dX7_cat_61 rfl (hF44.at (gs_ne cn (by decide)) (by omega)) (vp_in_nI (n := 32 + d) (by omega) (by omega)) (by rw [nI_cl (by omega)]) ?_
        refine r_aload_n (pc' := 63) dX7_cat_62 rfl rfl ?_
        refine r_get (pc' := 66) fX7_40 dX7_cat_63 rfl (gs_ne (hF44.at (gs_eq hX) (by omega)) (by decide)) rfl ?_
        refine r_bipush (pc' := 68) (v := nI 32) dX7_cat_66 rfl rfl ?_
        refine r_iload_n (pc' := 69) dX7_cat_68 rfl rfl ?_
        refine r_iadd (pc' := 70) (v := nI (32 + d)) dX7_cat_69 rfl (nI_add 32 d) ?_
        refine r_iaload (pc' := 71) (v := nI (nt M d ||| 2 ^ x)) dX7_cat_70 rfl (gs_eq (hF44.at (gs_ne cn (by decide)) (by omega))) (vp_in_nI (n := 32 + d) (by omega) (by omega)) (by rw [nI_cl (by omega)]; simp [upd]) ?_
        have e70 := or_256 e56 e10
        refine r_callS (pc' := 74) (av := [.int (nI (nt M d ||| 2 ^ x))]) (rest := []) kX7_ones vX7_ones lX7_143 dX7_cat_71 rfl rfl rfl ⟨by decide, by decide, by decide⟩ rfl rfl (Nat.le_of_ble_eq_true rfl) (ct_X7_ones (n := nt M d ||| 2 ^ x) (by first | omega | assumption) ?_)
        show Wp g yX7_cat cX7_cat 3 (some .int) 3 0 0 (px_MQ g Q 0 0) 0 0 74 [some (.ref 60), some (.int (nI d)), some (.int (nI x))] [.int (nI (popc (nt M d ||| 2 ^ x)))] (w44.set 71 (.inl (0, 37, .inl (upd fn (32 + d) (nI ((nt M d) ||| (2 ^ x)))))))
        have e71 := popc_le (nt M d ||| 2 ^ x)
        refine r_ireturn dX7_cat_74 rfl ?_
        have ho : catO T M (nI d) (nI x) = true := by rw [catO, hc1, nI_cl (show d < 2 ^ 31 by omega), nI_cl (show x < 2 ^ 31 by omega), h37]; rfl
        rw [catM, catU, catR, if_pos ho, if_pos ho, if_pos ho, nI_cl (show d < 2 ^ 31 by omega), nI_cl (show x < 2 ^ 31 by omega)] at hQ
        refine px_eq (hQ (w44.set 71 (.inl (0, 37, .inl (upd fn (32 + d) (nI ((nt M d) ||| (2 ^ x))))))) ⟨nx, tk, pl, va, fa, gs_ne (hF44.at (gs_eq hX) (by omega)) (by decide), (hmt62_w44.fr (a := 71) (b := 72) (Frm.set (by omega) (by omega)) (by omega)), (MnA.of (gs_eq (hF44.at (gs_ne cn (by decide)) (by omega))) (MnF.setT hf (by omega)) (NOK.setT ⟨mB1, mB2, mB3⟩ (or_256 e56 e10))), (htx61_w44.fr (a := 71) (b := 72) (Frm.set (by omega) (by omega)) (by omega)), (hkp72_w44.fr (a := 71) (b := 72) (Frm.set (by omega) (by omega)) (by omega)), (hU44.fr (a := 71) (b := 72) (Frm.set (by omega) (by omega)) (by omega)), (hby75_w44.fr (a := 71) (b := 72) (Frm.set (by omega) (by omega)) (by omega))⟩ ((((Frm.rf (a := 60) (b := 76)).sets (k := 60) (by omega) (by omega)).tr (a := 60) (b := 76) hF44 (by omega) (by omega) (by omega) (by omega)).sets (k := 71) (by omega) (by omega))) ?_
        rfl
      · skip
        refine r_bipush (pc' := 42) (v := (-2)) dX7_cat_40 rfl rfl ?_
        refine r_ireturn dX7_cat_42 rfl ?_
        have ho : catO T M (nI d) (nI x) = false := by rw [catO, hc1, nI_cl (show d < 2 ^ 31 by omega), nI_cl (show x < 2 ^ 31 by omega)]; simp at h37; rw [h37]; rfl
        rw [catM, catU, catR, ho, hc1] at hQ
        exact hQ w hS Frm.rf
    · skip
      refine r_iconst (pc' := 30) (v := (-1)) dX7_cat_29 rfl rfl ?_
      refine r_ireturn dX7_cat_30 rfl ?_
      refine px_eq (hQ w ?_ Frm.rf) ?_
      · first | (simpa [catM, catU, catO, hasC, nI_cl (show d < 2 ^ 31 by omega), h26] using hS)
      · first | (simp [catR, catO, hasC, nI_cl (show d < 2 ^ 31 by omega), h26]; done)
theorem MnF.rain {f : Nat → Int32} {M : px_N} (h : MnF f M) : MnF (cpf (fun j => nI (wsh (cx M j))) f 32) (nRain M) := by
  intro k hk
  unfold cpf
  by_cases h32 : k < 32
  · rw [if_pos h32, sv_x _ h32]; rfl
  · rw [if_neg h32, h k hk]
    unfold sv
    rw [if_neg h32, if_neg h32]; rfl
theorem NOK.rain {M : px_N} (h : NOK M) : NOK (nRain M) := ⟨fun a b ha hb => wsh_le (h.1 a b ha hb), h.2.1, h.2.2⟩
set_option maxHeartbeats 200000 in
theorem ct_X7_rains {g : px_G} {w : px_W} {Q : px_Q} {T : px_T} {M : px_N} {U : List px_N} {I : Nat → Option px_N} {n : Nat} {tx : Nat → Nat} {tr : Int64} (hS : MSx w T M U I n tx tr) (hO : TOK T) (hQ : ∀ w', MSx w' T (nRain M) (note M U) I n tx tr → Frm w w' 60 76 → Q (some (.int (nI (rainN M 32)))) w') : Ct g yX7_rains cX7_rains 4 (some .int) 2 0 0 [.ref 60] w Q := by
  refine Ct.of kX7_rains (by omega) (lo := [some (.ref 60), none, none, none]) rfl (px_cat1 rfl) (Nat.le_of_ble_eq_true rfl) ?_
  obtain ⟨nx, tk, pl, va, fa, hX, hT, hM, hTx, hK, hU, hB⟩ := id hS
  obtain ⟨fm, fz, fl, fs, fd, g0, g1, g2, g3, ⟨c1, c2, c3, c4, c5, c6, c7, c8, c9⟩, ma, mz, ml, md, mg, ⟨sb1, sb2, sb3⟩, sb4, sb5⟩ := id hT
  obtain ⟨fn, cn, hf, mB1, mB2, mB3⟩ := id hM
  obtain ⟨fx, x1, x2, x3⟩ := id hTx
  obtain ⟨fk, bk, k1, k2, k3⟩ := id hK
  obtain ⟨fq, u1, u2⟩ := id hU
  have u3 := u2.1
  refine r_aload_n (pc' := 1) dX7_rains_0 rfl rfl ?_
  refine r_iconst (pc' := 2) (v := nI 0) dX7_rains_1 rfl rfl ?_
  refine r_put (pc' := 5) (ty := .int) (c' := .inr (6, [.int (nI 0), .long tr, .ref 61, .int (nI n), .int nx, .int tk, .int pl, .int va, .int fa, .ref 62, .ref 63, .ref 64, .ref 65, .ref 66, .ref 67, .ref 68, .ref 69, .ref 70, .ref 71, .ref 72, .ref 73, .ref 74, .int (nI U.length), .ref 75])) fX7_62 dX7_rains_2 rfl hX (Nat.le_of_ble_eq_true rfl) rfl (by decide +kernel) rfl rfl rfl ?_
  refine px_id hX ?_
  refine r_aload_n (pc' := 6) dX7_rains_5 rfl rfl ?_
  refine r_callV (pc' := 9) (av := []) (rest := []) kX7_notes vX7_notes lX7_160 dX7_rains_6 rfl hX rfl rfl rfl ⟨by decide, by decide, by decide⟩ rfl rfl (Nat.le_of_ble_eq_true rfl) (ct_X7_notes hX hT hO hM rfl hU (fun w6 hF6 hU6 => ?_))
  have hmt62_w6 := (hT.fr (a := 60) (b := 61) (Frm.set (by omega) (by omega)) (by omega)).fr hF6 (by omega)
  have hmn71_w6 := (hM.fr (a := 60) (b := 61) (Frm.set (by omega) (by omega)) (by omega)).fr hF6 (by omega)
  have htx61_w6 := (hTx.fr (a := 60) (b := 61) (Frm.set (by omega) (by omega)) (by omega)).fr hF6 (by omega)
  have hkp72_w6 := (hK.fr (a := 60) (b := 61) (Frm.set (by omega) (by omega)) (by omega)).fr hF6 (by omega)
  have hby75_w6 := (hB.fr (a := 60) (b := 61) (Frm.set (by omega) (by omega)) (by omega)).fr hF6 (by omega)
  show Wp g yX7_rains cX7_rains 4 (some .int) 2 0 0 (px_MQ g Q 0 0) 0 0 9 [some (.ref 60), none, none, none] [] w6
  refine r_iconst (pc' := 10) (v := nI 0) dX7_rains_9 rfl rfl ?_
  refine r_istore_n (pc' := 11) (lo' := [some (.ref 60), some (.int (nI 0)), none, none]) dX7_rains_10 rfl (by decide) rfl ?_
  refine r_iconst (pc' := 12) (v := nI 0) dX7_rains_11 rfl rfl ?_
  refine r_istore_n (pc' := 13) (lo' := [some (.ref 60), some (.int (nI 0)), some (.int (nI 0)), none]) dX7_rains_12 rfl (by decide) rfl ?_
  have L13 : ∀ (fu : Nat) (k : Nat), 32 - k < fu → k ≤ 32 → Wp g yX7_rains cX7_rains 4 (some .int) 2 0 0 (px_MQ g Q 0 0) 0 0 13 [some (.ref 60), some (.int (nI (rainN M k))), some (.int (nI k)), none] [] (w6.set 71 (.inl (0, 37, .inl (cpf (fun j => nI (wsh (cx M j))) fn k)))) := by
    intro fu; induction fu with
    | zero => intro k hm; exact absurd hm (Nat.not_lt_zero _)
    | succ fu ih =>
      intro k hm hk
      have er : rainN M k ≤ k := by have := nsum_le (b := 1) (f := fun j => if cx M j == 8 || vow (cx M j) then 0 else 1) (fun j => by split <;> omega) k; simpa [rainN] using this
      have ih13 := ih; clear ih
      refine r_iload_n (pc' := 14) dX7_rains_13 rfl rfl ?_
      refine r_bipush (pc' := 16) (v := nI 32) dX7_rains_14 rfl rfl ?_
      refine r_icmp_ge (pc' := 19) (P := 32 ≤ k) (tgt := 104) dX7_rains_16 (by decide) rfl (nI_leI (a := 32) (b := k) (by omega) (by omega)) (fun h16 => ?_) (fun h16 => ?_)
      · obtain rfl : k = 32 := by omega
        refine r_iload_n (pc' := 105) dX7_rains_104 rfl rfl ?_
        refine r_ireturn dX7_rains_105 rfl ?_
        refine px_eq (hQ (w6.set 71 (.inl (0, 37, .inl (cpf (fun j => nI (wsh (cx M j))) fn 32)))) ⟨nx, tk, pl, va, fa, gs_ne (hF6.at (gs_eq hX) (by omega)) (by decide), (hmt62_w6.fr (a := 71) (b := 72) (Frm.set (by omega) (by omega)) (by omega)), (MnA.of (gs_eq (hF6.at (gs_ne cn (by decide)) (by omega))) (MnF.rain hf) (NOK.rain ⟨mB1, mB2, mB3⟩)), (htx61_w6.fr (a := 71) (b := 72) (Frm.set (by omega) (by omega)) (by omega)), (hkp72_w6.fr (a := 71) (b := 72) (Frm.set (by omega) (by omega)) (by omega)), (hU6.fr (a := 71) (b := 72) (Frm.set (by omega) (by omega)) (by omega)), (hby75_w6.fr (a := 71) (b := 72) (Frm.set (by omega) (by omega)) (by omega))⟩ ((((Frm.rf (a := 60) (b := 76)).sets (k := 60) (by omega) (by omega)).tr (a := 60) (b := 76) hF6 (by omega) (by omega) (by omega) (by omega)).sets (k := 71) (by omega) (by omega))) ?_
        rfl
      · skip
        refine r_aload_n (pc' := 20) dX7_rains_19 rfl rfl ?_
        refine r_get (pc' := 23) fX7_40 dX7_rains_20 rfl (gs_ne (hF6.at (gs_eq hX) (by omega)) (by decide)) rfl ?_
        refine r_iconst (pc' := 24) (v := nI 0) dX7_rains_23 rfl rfl ?_
        refine r_iload_n (pc' := 25) dX7_rains_24 rfl rfl ?_
        refine r_iadd (pc' := 26) (v := nI (0 + k)) dX7_rains_25 rfl (nI_add 0 k) ?_
        refine r_iaload (pc' := 27) (v := nI (cx M k)) dX7_rains_26 rfl (gs_eq (hF6.at (gs_ne cn (by decide)) (by omega))) (vp_in_nI (n := 0 + k) (by omega) (by omega)) (by rw [nI_cl (by omega), Nat.zero_add]; unfold cpf; rw [if_neg (by omega), hf _ (by omega), sv_x _ (by omega)]) ?_
        have ecx := cx_le ⟨mB1, mB2, mB3⟩ (j := k) (by omega)
        refine r_bipush (pc' := 29) (v := nI 8) dX7_rains_27 rfl rfl ?_
        refine r_icmp_eq (pc' := 32) (P := cx M k = 8) (tgt := 59) dX7_rains_29 (by decide) rfl (nI_eq (a := cx M k) (b := 8) (by omega) (by omega)) (fun h29 => ?_) (fun h29 => ?_)
        · skip
          refine r_iconst (pc' := 60) (v := bI false) dX7_rains_59 rfl rfl ?_
          refine r_istore_n (pc' := 61) (lo' := [some (.ref 60), some (.int (nI (rainN M k))), some (.int (nI k)), some (.int (bI false))]) dX7_rains_60 rfl (by decide) rfl ?_
          refine r_aload_n (pc' := 62) dX7_rains_61 rfl rfl ?_
          refine r_get (pc' := 65) fX7_40 dX7_rains_62 rfl (gs_ne (hF6.at (gs_eq hX) (by omega)) (by decide)) rfl ?_
          refine r_iconst (pc' := 66) (v := nI 0) dX7_rains_65 rfl rfl ?_
          refine r_iload_n (pc' := 67) dX7_rains_66 rfl rfl ?_
          refine r_iadd (pc' := 68) (v := nI (0 + k)) dX7_rains_67 rfl (nI_add 0 k) ?_
          refine r_iload_n (pc' := 69) dX7_rains_68 rfl rfl ?_
          refine r_if_eq (pc' := 72) (P := false = false) (tgt := 77) dX7_rains_69 (by decide) rfl (bI_0) (fun h69 => ?_) (fun h69 => ?_)
          · skip
            refine r_aload_n (pc' := 78) dX7_rains_77 rfl rfl ?_
            refine r_get (pc' := 81) fX7_40 dX7_rains_78 rfl (gs_ne (hF6.at (gs_eq hX) (by omega)) (by decide)) rfl ?_
            refine r_iconst (pc' := 82) (v := nI 0) dX7_rains_81 rfl rfl ?_
            refine r_iload_n (pc' := 83) dX7_rains_82 rfl rfl ?_
            refine r_iadd (pc' := 84) (v := nI (0 + k)) dX7_rains_83 rfl (nI_add 0 k) ?_
            refine r_iaload (pc' := 85) (v := nI (cx M k)) dX7_rains_84 rfl (gs_eq (hF6.at (gs_ne cn (by decide)) (by omega))) (vp_in_nI (n := 0 + k) (by omega) (by omega)) (by rw [nI_cl (by omega), Nat.zero_add]; unfold cpf; rw [if_neg (by omega), hf _ (by omega), sv_x _ (by omega)]) ?_
            have ecx := cx_le ⟨mB1, mB2, mB3⟩ (j := k) (by omega)
            have hb : (cx M k == 8 || vow (cx M k)) = true := by first | (simp [h29]; done) | (simp [vow, h40]; done) | (simp [vow, h52]; done)
            have hw : wsh (cx M k) = cx M k := by unfold wsh; rw [hb]; rfl
            refine r_iastore (pc' := 86) (c' := .inl (0, 37, .inl (cpf (fun j => nI (wsh (cx M j))) fn (k + 1)))) dX7_rains_85 rfl (gs_eq (hF6.at (gs_ne cn (by decide)) (by omega))) (vp_in_nI (n := 0 + k) (by omega) (by omega)) (by rw [nI_cl (by omega), Nat.zero_add, ← hw, ← cpf_s]) ?_
            rw [gs_set]
            refine r_iload_n (pc' := 87) dX7_rains_86 rfl rfl ?_
            refine r_iload_n (pc' := 88) dX7_rains_87 rfl rfl ?_
            refine r_if_eq (pc' := 91) (P := false = false) (tgt := 95) dX7_rains_88 (by decide) rfl (bI_0) (fun h88 => ?_) (fun h88 => ?_)
            · skip
              refine r_iconst (pc' := 96) (v := nI 0) dX7_rains_95 rfl rfl ?_
              refine r_iadd (pc' := 97) (v := nI (rainN M k + 0)) dX7_rains_96 rfl (nI_add (rainN M k) 0) ?_
              refine r_istore_n (pc' := 98) (lo' := [some (.ref 60), some (.int (nI (rainN M k + 0))), some (.int (nI k)), some (.int (bI false))]) dX7_rains_97 rfl (by decide) rfl ?_
              refine r_iinc (pc' := 101) (lo' := [some (.ref 60), some (.int (nI (rainN M k + 0))), some (.int (nI (k + 1))), some (.int (bI false))]) dX7_rains_98 rfl (by decide) rfl (nI_add k 1) rfl ?_
              refine r_goto (tgt := 13) dX7_rains_101 (by decide) ?_
              have hb : (cx M k == 8 || vow (cx M k)) = true := by first | (simp [h29]; done) | (simp [vow, h40]; done) | (simp [vow, h52]; done)
              have hx : rainN M k + 0 = rainN M (k + 1) := by simp only [rainN, nsum, hb]; rfl
              rw [hx]
              refine r_drop 3 rfl ?_
              exact ih13 (k + 1) (by omega) (by omega)
            · skip
              exfalso; exact h88 rfl
          · skip
            exfalso; exact h69 rfl
        · skip
          refine r_aload_n (pc' := 33) dX7_rains_32 rfl rfl ?_
          refine r_get (pc' := 36) fX7_40 dX7_rains_33 rfl (gs_ne (hF6.at (gs_eq hX) (by omega)) (by decide)) rfl ?_
          refine r_iconst (pc' := 37) (v := nI 0) dX7_rains_36 rfl rfl ?_
          refine r_iload_n (pc' := 38) dX7_rains_37 rfl rfl ?_
          refine r_iadd (pc' := 39) (v := nI (0 + k)) dX7_rains_38 rfl (nI_add 0 k) ?_
          refine r_iaload (pc' := 40) (v := nI (cx M k)) dX7_rains_39 rfl (gs_eq (hF6.at (gs_ne cn (by decide)) (by omega))) (vp_in_nI (n := 0 + k) (by omega) (by omega)) (by rw [nI_cl (by omega), Nat.zero_add]; unfold cpf; rw [if_neg (by omega), hf _ (by omega), sv_x _ (by omega)]) ?_
          have ecx := cx_le ⟨mB1, mB2, mB3⟩ (j := k) (by omega)
          refine r_if_eq (pc' := 43) (P := cx M k = 0) (tgt := 59) dX7_rains_40 (by decide) rfl (nI_eq0 (n := cx M k) (by omega)) (fun h40 => ?_) (fun h40 => ?_)
          · skip
            refine r_iconst (pc' := 60) (v := bI false) dX7_rains_59 rfl rfl ?_
            refine r_istore_n (pc' := 61) (lo' := [some (.ref 60), some (.int (nI (rainN M k))), some (.int (nI k)), some (.int (bI false))]) dX7_rains_60 rfl (by decide) rfl ?_
            refine r_aload_n (pc' := 62) dX7_rains_61 rfl rfl ?_
            refine r_get (pc' := 65) fX7_40 dX7_rains_62 rfl (gs_ne (hF6.at (gs_eq hX) (by omega)) (by decide)) rfl ?_
            refine r_iconst (pc' := 66) (v := nI 0) dX7_rains_65 rfl rfl ?_
            refine r_iload_n (pc' := 67) dX7_rains_66 rfl rfl ?_
            refine r_iadd (pc' := 68) (v := nI (0 + k)) dX7_rains_67 rfl (nI_add 0 k) ?_
            refine r_iload_n (pc' := 69) dX7_rains_68 rfl rfl ?_
            refine r_if_eq (pc' := 72) (P := false = false) (tgt := 77) dX7_rains_69 (by decide) rfl (bI_0) (fun h69 => ?_) (fun h69 => ?_)
            · skip
              refine r_aload_n (pc' := 78) dX7_rains_77 rfl rfl ?_
              refine r_get (pc' := 81) fX7_40 dX7_rains_78 rfl (gs_ne (hF6.at (gs_eq hX) (by omega)) (by decide)) rfl ?_
              refine r_iconst (pc' := 82) (v := nI 0) dX7_rains_81 rfl rfl ?_
              refine r_iload_n (pc' := 83) dX7_rains_82 rfl rfl ?_
              refine r_iadd (pc' := 84) (v := nI (0 + k)) dX7_rains_83 rfl (nI_add 0 k) ?_
              refine r_iaload (pc' := 85) (v := nI (cx M k)) dX7_rains_84 rfl (gs_eq (hF6.at (gs_ne cn (by decide)) (by omega))) (vp_in_nI (n := 0 + k) (by omega) (by omega)) (by rw [nI_cl (by omega), Nat.zero_add]; unfold cpf; rw [if_neg (by omega), hf _ (by omega), sv_x _ (by omega)]) ?_
              have ecx := cx_le ⟨mB1, mB2, mB3⟩ (j := k) (by omega)
              have hb : (cx M k == 8 || vow (cx M k)) = true := by first | (simp [h29]; done) | (simp [vow, h40]; done) | (simp [vow, h52]; done)
              have hw : wsh (cx M k) = cx M k := by unfold wsh; rw [hb]; rfl
              refine r_iastore (pc' := 86) (c' := .inl (0, 37, .inl (cpf (fun j => nI (wsh (cx M j))) fn (k + 1)))) dX7_rains_85 rfl (gs_eq (hF6.at (gs_ne cn (by decide)) (by omega))) (vp_in_nI (n := 0 + k) (by omega) (by omega)) (by rw [nI_cl (by omega), Nat.zero_add, ← hw, ← cpf_s]) ?_
              rw [gs_set]
              refine r_iload_n (pc' := 87) dX7_rains_86 rfl rfl ?_
              refine r_iload_n (pc' := 88) dX7_rains_87 rfl rfl ?_
              refine r_if_eq (pc' := 91) (P := false = false) (tgt := 95) dX7_rains_88 (by decide) rfl (bI_0) (fun h88 => ?_) (fun h88 => ?_)
              · skip
                refine r_iconst (pc' := 96) (v := nI 0) dX7_rains_95 rfl rfl ?_
                refine r_iadd (pc' := 97) (v := nI (rainN M k + 0)) dX7_rains_96 rfl (nI_add (rainN M k) 0) ?_
                refine r_istore_n (pc' := 98) (lo' := [some (.ref 60), some (.int (nI (rainN M k + 0))), some (.int (nI k)), some (.int (bI false))]) dX7_rains_97 rfl (by decide) rfl ?_
                refine r_iinc (pc' := 101) (lo' := [some (.ref 60), some (.int (nI (rainN M k + 0))), some (.int (nI (k + 1))), some (.int (bI false))]) dX7_rains_98 rfl (by decide) rfl (nI_add k 1) rfl ?_
                refine r_goto (tgt := 13) dX7_rains_101 (by decide) ?_
                have hb : (cx M k == 8 || vow (cx M k)) = true := by first | (simp [h29]; done) | (simp [vow, h40]; done) | (simp [vow, h52]; done)
                have hx : rainN M k + 0 = rainN M (k + 1) := by simp only [rainN, nsum, hb]; rfl
                rw [hx]
                refine r_drop 3 rfl ?_
                exact ih13 (k + 1) (by omega) (by omega)
              · skip
                exfalso; exact h88 rfl
            · skip
              exfalso; exact h69 rfl
          · skip
            refine r_aload_n (pc' := 44) dX7_rains_43 rfl rfl ?_
            refine r_get (pc' := 47) fX7_40 dX7_rains_44 rfl (gs_ne (hF6.at (gs_eq hX) (by omega)) (by decide)) rfl ?_
            refine r_iconst (pc' := 48) (v := nI 0) dX7_rains_47 rfl rfl ?_
            refine r_iload_n (pc' := 49) dX7_rains_48 rfl rfl ?_
            refine r_iadd (pc' := 50) (v := nI (0 + k)) dX7_rains_49 rfl (nI_add 0 k) ?_
            refine r_iaload (pc' := 51) (v := nI (cx M k)) dX7_rains_50 rfl (gs_eq (hF6.at (gs_ne cn (by decide)) (by omega))) (vp_in_nI (n := 0 + k) (by omega) (by omega)) (by rw [nI_cl (by omega), Nat.zero_add]; unfold cpf; rw [if_neg (by omega), hf _ (by omega), sv_x _ (by omega)]) ?_
            have ecx := cx_le ⟨mB1, mB2, mB3⟩ (j := k) (by omega)
            refine r_iconst (pc' := 52) (v := nI 4) dX7_rains_51 rfl rfl ?_
            refine r_icmp_eq (pc' := 55) (P := cx M k = 4) (tgt := 59) dX7_rains_52 (by decide) rfl (nI_eq (a := cx M k) (b := 4) (by omega) (by omega)) (fun h52 => ?_) (fun h52 => ?_)
            · skip
              refine r_iconst (pc' := 60) (v := bI false) dX7_rains_59 rfl rfl ?_
              refine r_istore_n (pc' := 61) (lo' := [some (.ref 60), some (.int (nI (rainN M k))), some (.int (nI k)), some (.int (bI false))]) dX7_rains_60 rfl (by decide) rfl ?_
              refine r_aload_n (pc' := 62) dX7_rains_61 rfl rfl ?_
              refine r_get (pc' := 65) fX7_40 dX7_rains_62 rfl (gs_ne (hF6.at (gs_eq hX) (by omega)) (by decide)) rfl ?_
              refine r_iconst (pc' := 66) (v := nI 0) dX7_rains_65 rfl rfl ?_
              refine r_iload_n (pc' := 67) dX7_rains_66 rfl rfl ?_
              refine r_iadd (pc' := 68) (v := nI (0 + k)) dX7_rains_67 rfl (nI_add 0 k) ?_
              refine r_iload_n (pc' := 69) dX7_rains_68 rfl rfl ?_
              refine r_if_eq (pc' := 72) (P := false = false) (tgt := 77) dX7_rains_69 (by decide) rfl (bI_0) (fun h69 => ?_) (fun h69 => ?_)
              · skip
                refine r_aload_n (pc' := 78) dX7_rains_77 rfl rfl ?_
                refine r_get (pc' := 81) fX7_40 dX7_rains_78 rfl (gs_ne (hF6.at (gs_eq hX) (by omega)) (by decide)) rfl ?_
                refine r_iconst (pc' := 82) (v := nI 0) dX7_rains_81 rfl rfl ?_
                refine r_iload_n (pc' := 83) dX7_rains_82 rfl rfl ?_
                refine r_iadd (pc' := 84) (v := nI (0 + k)) dX7_rains_83 rfl (nI_add 0 k) ?_
                refine r_iaload (pc' := 85) (v := nI (cx M k)) dX7_rains_84 rfl (gs_eq (hF6.at (gs_ne cn (by decide)) (by omega))) (vp_in_nI (n := 0 + k) (by omega) (by omega)) (by rw [nI_cl (by omega), Nat.zero_add]; unfold cpf; rw [if_neg (by omega), hf _ (by omega), sv_x _ (by omega)]) ?_
                have ecx := cx_le ⟨mB1, mB2, mB3⟩ (j := k) (by omega)
                have hb : (cx M k == 8 || vow (cx M k)) = true := by first | (simp [h29]; done) | (simp [vow, h40]; done) | (simp [vow, h52]; done)
                have hw : wsh (cx M k) = cx M k := by unfold wsh; rw [hb]; rfl
                refine r_iastore (pc' := 86) (c' := .inl (0, 37, .inl (cpf (fun j => nI (wsh (cx M j))) fn (k + 1)))) dX7_rains_85 rfl (gs_eq (hF6.at (gs_ne cn (by decide)) (by omega))) (vp_in_nI (n := 0 + k) (by omega) (by omega)) (by rw [nI_cl (by omega), Nat.zero_add, ← hw, ← cpf_s]) ?_
                rw [gs_set]
                refine r_iload_n (pc' := 87) dX7_rains_86 rfl rfl ?_
                refine r_iload_n (pc' := 88) dX7_rains_87 rfl rfl ?_
                refine r_if_eq (pc' := 91) (P := false = false) (tgt := 95) dX7_rains_88 (by decide) rfl (bI_0) (fun h88 => ?_) (fun h88 => ?_)
                · skip
                  refine r_iconst (pc' := 96) (v := nI 0) dX7_rains_95 rfl rfl ?_
                  refine r_iadd (pc' := 97) (v := nI (rainN M k + 0)) dX7_rains_96 rfl (nI_add (rainN M k) 0) ?_
                  refine r_istore_n (pc' := 98) (lo' := [some (.ref 60), some (.int (nI (rainN M k + 0))), some (.int (nI k)), some (.int (bI false))]) dX7_rains_97 rfl (by decide) rfl ?_
                  refine r_iinc (pc' := 101) (lo' := [some (.ref 60), some (.int (nI (rainN M k + 0))), some (.int (nI (k + 1))), some (.int (bI false))]) dX7_rains_98 rfl (by decide) rfl (nI_add k 1) rfl ?_
                  refine r_goto (tgt := 13) dX7_rains_101 (by decide) ?_
                  have hb : (cx M k == 8 || vow (cx M k)) = true := by first | (simp [h29]; done) | (simp [vow, h40]; done) | (simp [vow, h52]; done)
                  have hx : rainN M k + 0 = rainN M (k + 1) := by simp only [rainN, nsum, hb]; rfl
                  rw [hx]
                  refine r_drop 3 rfl ?_
                  exact ih13 (k + 1) (by omega) (by omega)
                · skip
                  exfalso; exact h88 rfl
              · skip
                exfalso; exact h69 rfl
            · skip
              refine r_iconst (pc' := 56) (v := bI true) dX7_rains_55 rfl rfl ?_
              refine r_goto (tgt := 60) dX7_rains_56 (by decide) ?_
              refine r_istore_n (pc' := 61) (lo' := [some (.ref 60), some (.int (nI (rainN M k))), some (.int (nI k)), some (.int (bI true))]) dX7_rains_60 rfl (by decide) rfl ?_
              refine r_aload_n (pc' := 62) dX7_rains_61 rfl rfl ?_
              refine r_get (pc' := 65) fX7_40 dX7_rains_62 rfl (gs_ne (hF6.at (gs_eq hX) (by omega)) (by decide)) rfl ?_
              refine r_iconst (pc' := 66) (v := nI 0) dX7_rains_65 rfl rfl ?_
              refine r_iload_n (pc' := 67) dX7_rains_66 rfl rfl ?_
              refine r_iadd (pc' := 68) (v := nI (0 + k)) dX7_rains_67 rfl (nI_add 0 k) ?_
              refine r_iload_n (pc' := 69) dX7_rains_68 rfl rfl ?_
              refine r_if_eq (pc' := 72) (P := true = false) (tgt := 77) dX7_rains_69 (by decide) rfl (bI_0) (fun h69 => ?_) (fun h69 => ?_)
              · skip
                exfalso; cases h69
              · skip
                refine r_bipush (pc' := 74) (v := nI 8) dX7_rains_72 rfl rfl ?_
                refine r_goto (tgt := 85) dX7_rains_74 (by decide) ?_
                have hb : (cx M k == 8 || vow (cx M k)) = false := by simp [vow, h29, h40, h52]
                have hw : wsh (cx M k) = 8 := by unfold wsh; rw [hb]; rfl
                refine r_iastore (pc' := 86) (c' := .inl (0, 37, .inl (cpf (fun j => nI (wsh (cx M j))) fn (k + 1)))) dX7_rains_85 rfl (gs_eq (hF6.at (gs_ne cn (by decide)) (by omega))) (vp_in_nI (n := 0 + k) (by omega) (by omega)) (by rw [nI_cl (by omega), Nat.zero_add, ← hw, ← cpf_s]) ?_
                rw [gs_set]
                refine r_iload_n (pc' := 87) dX7_rains_86 rfl rfl ?_
                refine r_iload_n (pc' := 88) dX7_rains_87 rfl rfl ?_
                refine r_if_eq (pc' := 91) (P := true = false) (tgt := 95) dX7_rains_88 (by decide) rfl (bI_0) (fun h88 => ?_) (fun h88 => ?_)
                · skip
                  exfalso; cases h88
                · skip
                  refine r_iconst (pc' := 92) (v := nI 1) dX7_rains_91 rfl rfl ?_
                  refine r_goto (tgt := 96) dX7_rains_92 (by decide) ?_
                  refine r_iadd (pc' := 97) (v := nI (rainN M k + 1)) dX7_rains_96 rfl (nI_add (rainN M k) 1) ?_
                  refine r_istore_n (pc' := 98) (lo' := [some (.ref 60), some (.int (nI (rainN M k + 1))), some (.int (nI k)), some (.int (bI true))]) dX7_rains_97 rfl (by decide) rfl ?_
                  refine r_iinc (pc' := 101) (lo' := [some (.ref 60), some (.int (nI (rainN M k + 1))), some (.int (nI (k + 1))), some (.int (bI true))]) dX7_rains_98 rfl (by decide) rfl (nI_add k 1) rfl ?_
                  refine r_goto (tgt := 13) dX7_rains_101 (by decide) ?_
                  have hb : (cx M k == 8 || vow (cx M k)) = false := by simp [vow, h29, h40, h52]
                  have hx : rainN M k + 1 = rainN M (k + 1) := by simp only [rainN, nsum, hb]; rfl
                  rw [hx]
                  refine r_drop 3 rfl ?_
                  exact ih13 (k + 1) (by omega) (by omega)
  have L0 := L13 33 0 (by omega) (Nat.zero_le _)
  rw [cpf_0, gs_id (hF6.at (gs_ne cn (by decide)) (by omega))] at L0
  exact L0
theorem hrM_ok {T : px_T} {M : px_N} (hO : TOK T) (hM : NOK M) : ∀ j, j ≤ tG T → NOK (hrM T M j)
  | 0, _ => hM
  | j + 1, hj => by
    have h := hrM_ok hO hM j (by omega)
    unfold hrM
    split
    · have hg := hO.2.2.2 j (by omega)
      have e := trk_lt (f := tg T j 2) (s := tg T j 3) (hO.2.2.1 (tg T j 1) hg.2.2.1).2
      by_cases h4 : tg T j 1 < 4
      · exact NOK.setT h (or_256 (h.2.1 _ h4) e)
      · refine ⟨h.1, fun a ha => ?_, h.2.2⟩
        have : ¬ a = tg T j 1 := by omega
        simp only [nTread, nSet, nt, this, if_false]
        exact h.2.1 a ha
    · exact h
set_option maxHeartbeats 200000 in
theorem ct_X7_hour {g : px_G} {w : px_W} {Q : px_Q} {T : px_T} {M : px_N} {U : List px_N} {I : Nat → Option px_N} {n : Nat} {tx : Nat → Nat} {tr : Int64} (hS : MSx w T M U I n tx tr) (hO : TOK T) (hQ : ∀ w', MSx w' T (hourM T M) (hourU M U) I n tx tr → Frm w w' 60 76 → Q (some (.int (hourR T M))) w') : Ct g yX7_hour cX7_hour 3 (some .int) 2 0 0 [.ref 60] w Q := by
  refine Ct.of kX7_hour (by omega) (lo := [some (.ref 60), none, none]) rfl (px_cat1 rfl) (Nat.le_of_ble_eq_true rfl) ?_
  obtain ⟨nx, tk, pl, va, fa, hX, hT, hM, hTx, hK, hU, hB⟩ := id hS
  obtain ⟨fm, fz, fl, fs, fd, g0, g1, g2, g3, ⟨c1, c2, c3, c4, c5, c6, c7, c8, c9⟩, ma, mz, ml, md, mg, ⟨sb1, sb2, sb3⟩, sb4, sb5⟩ := id hT
  obtain ⟨fn, cn, hf, mB1, mB2, mB3⟩ := id hM
  obtain ⟨fx, x1, x2, x3⟩ := id hTx
  obtain ⟨fk, bk, k1, k2, k3⟩ := id hK
  obtain ⟨fq, u1, u2⟩ := id hU
  have u3 := u2.1
  refine r_aload_n (pc' := 1) dX7_hour_0 rfl rfl ?_
  refine r_iconst (pc' := 2) (v := nI 0) dX7_hour_1 rfl rfl ?_
  refine r_put (pc' := 5) (ty := .int) (c' := .inr (6, [.int (nI 0), .long tr, .ref 61, .int (nI n), .int nx, .int tk, .int pl, .int va, .int fa, .ref 62, .ref 63, .ref 64, .ref 65, .ref 66, .ref 67, .ref 68, .ref 69, .ref 70, .ref 71, .ref 72, .ref 73, .ref 74, .int (nI U.length), .ref 75])) fX7_62 dX7_hour_2 rfl hX (Nat.le_of_ble_eq_true rfl) rfl (by decide +kernel) rfl rfl rfl ?_
  refine px_id hX ?_
  refine r_aload_n (pc' := 6) dX7_hour_5 rfl rfl ?_
  refine r_get (pc' := 9) fX7_40 dX7_hour_6 rfl hX rfl ?_
  refine r_bipush (pc' := 11) (v := nI 36) dX7_hour_9 rfl rfl ?_
  refine r_iaload (pc' := 12) (v := nI (nh M)) dX7_hour_11 rfl cn (vp_in_nI (n := 36) (by omega) (by omega)) (by rw [nI_cl (by omega), hf _ (by omega), sv_h]) ?_
  refine r_bipush (pc' := 14) (v := nI 24) dX7_hour_12 rfl rfl ?_
  refine r_icmp_ne (pc' := 17) (P := nh M = 24) (tgt := 20) dX7_hour_14 (by decide) rfl (nI_eq (a := nh M) (b := 24) (by omega) (by omega)) (fun h14 => ?_) (fun h14 => ?_)
  · skip
    refine r_aload_n (pc' := 21) dX7_hour_20 rfl rfl ?_
    refine r_callV (pc' := 24) (av := []) (rest := []) kX7_notes vX7_notes lX7_160 dX7_hour_21 rfl hX rfl rfl rfl ⟨by decide, by decide, by decide⟩ rfl rfl (Nat.le_of_ble_eq_true rfl) (ct_X7_notes hX hT hO hM rfl hU (fun w21 hF21 hU21 => ?_))
    have hmt62_w21 := (hT.fr (a := 60) (b := 61) (Frm.set (by omega) (by omega)) (by omega)).fr hF21 (by omega)
    have hmn71_w21 := (hM.fr (a := 60) (b := 61) (Frm.set (by omega) (by omega)) (by omega)).fr hF21 (by omega)
    have htx61_w21 := (hTx.fr (a := 60) (b := 61) (Frm.set (by omega) (by omega)) (by omega)).fr hF21 (by omega)
    have hkp72_w21 := (hK.fr (a := 60) (b := 61) (Frm.set (by omega) (by omega)) (by omega)).fr hF21 (by omega)
    have hby75_w21 := (hB.fr (a := 60) (b := 61) (Frm.set (by omega) (by omega)) (by omega)).fr hF21 (by omega)
    show Wp g yX7_hour cX7_hour 3 (some .int) 2 0 0 (px_MQ g Q 0 0) 0 0 24 [some (.ref 60), none, none] [] w21
    refine r_aload_n (pc' := 25) dX7_hour_24 rfl rfl ?_
    refine r_get (pc' := 28) fX7_40 dX7_hour_25 rfl (hF21.at (gs_eq hX) (by omega)) rfl ?_
    refine r_bipush (pc' := 30) (v := nI 36) dX7_hour_28 rfl rfl ?_
    refine r_dup2 (pc' := 31) dX7_hour_30 rfl rfl rfl ?_
    refine r_iaload (pc' := 32) (v := nI (nh M)) dX7_hour_31 rfl (hF21.at (gs_ne cn (by decide)) (by omega)) (vp_in_nI (n := 36) (by omega) (by omega)) (by rw [nI_cl (by omega), hf _ (by omega), sv_h]) ?_
    refine r_iconst (pc' := 33) (v := nI 1) dX7_hour_32 rfl rfl ?_
    refine r_iadd (pc' := 34) (v := nI (nh M + 1)) dX7_hour_33 rfl (nI_add (nh M) 1) ?_
    refine r_iastore (pc' := 35) (c' := .inl (0, 37, .inl (upd fn 36 (nI (nh M + 1))))) dX7_hour_34 rfl (hF21.at (gs_ne cn (by decide)) (by omega)) (vp_in_nI (n := 36) (by omega) (by omega)) (by rw [nI_cl (by omega)]) ?_
    refine r_iconst (pc' := 36) (v := nI 0) dX7_hour_35 rfl rfl ?_
    refine r_istore_n (pc' := 37) (lo' := [some (.ref 60), some (.int (nI 0)), none]) dX7_hour_36 rfl (by decide) rfl ?_
    refine r_iconst (pc' := 38) (v := nI 0) dX7_hour_37 rfl rfl ?_
    refine r_istore_n (pc' := 39) (lo' := [some (.ref 60), some (.int (nI 0)), some (.int (nI 0))]) dX7_hour_38 rfl (by decide) rfl ?_
    have L39 : ∀ (fu : Nat) (jq : Nat) (f2 : Nat → Int32), tG T - jq < fu → jq ≤ tG T → MnF f2 (hrM T (nHour M (nh M + 1)) jq) → Wp g yX7_hour cX7_hour 3 (some .int) 2 0 0 (px_MQ g Q 0 0) 0 0 39 [some (.ref 60), some (.int (nI (cnt (fun j => tg T j 0 == nh M + 1) jq))), some (.int (nI jq))] [] ((w21.set 71 (.inl (0, 37, .inl (upd fn 36 (nI (nh M + 1)))))).set 71 (.inl (0, 37, .inl f2))) := by
      intro fu; induction fu with
      | zero => intro jq f2 hm; exact absurd hm (Nat.not_lt_zero _)
      | succ fu ih =>
        intro jq f2 hm hj hf2
        have hn2 : NOK (hrM T (nHour M (nh M + 1)) jq) := hrM_ok hO (NOK.setH ⟨mB1, mB2, mB3⟩ (by omega)) jq hj
        have hh : nh (hrM T (nHour M (nh M + 1)) jq) = nh M + 1 := hrM_h T (nHour M (nh M + 1)) jq
        have hc9 := cnt_le (fun j => tg T j 0 == nh M + 1) jq
        have ih39 := ih; clear ih
        refine r_iload_n (pc' := 40) dX7_hour_39 rfl rfl ?_
        refine r_aload_n (pc' := 41) dX7_hour_40 rfl rfl ?_
        refine r_get (pc' := 44) fX7_13 dX7_hour_41 rfl (gs_ne (gs_ne (hF21.at (gs_eq hX) (by omega)) (by decide)) (by decide)) rfl ?_
        refine r_iconst (pc' := 45) (v := nI 2) dX7_hour_44 rfl rfl ?_
        refine r_iaload (pc' := 46) (v := nI (tG T)) dX7_hour_45 rfl (gs_ne (gs_ne (hF21.at (gs_ne c1 (by decide)) (by omega)) (by decide)) (by decide)) (vp_in_nI (n := 2) (by omega) (by omega)) (by rw [nI_cl (by omega)]; exact ma.2.2) ?_
        refine r_icmp_ge (pc' := 49) (P := tG T ≤ jq) (tgt := 113) dX7_hour_46 (by decide) rfl (nI_leI (a := tG T) (b := jq) (by omega) (by omega)) (fun h46 => ?_) (fun h46 => ?_)
        · obtain rfl : jq = tG T := by omega
          refine r_iload_n (pc' := 114) dX7_hour_113 rfl rfl ?_
          refine r_ireturn dX7_hour_114 rfl ?_
          have hn : ¬ nh M = 24 := by omega
          rw [hourM, hourU, hourR, if_neg hn, if_neg hn, if_neg hn] at hQ
          refine px_eq (hQ ((w21.set 71 (.inl (0, 37, .inl (upd fn 36 (nI (nh M + 1)))))).set 71 (.inl (0, 37, .inl f2))) ⟨nx, tk, pl, va, fa, gs_ne (gs_ne (hF21.at (gs_eq hX) (by omega)) (by decide)) (by decide), ((hmt62_w21.fr (a := 71) (b := 72) (Frm.set (by omega) (by omega)) (by omega)).fr (a := 71) (b := 72) (Frm.set (by omega) (by omega)) (by omega)), (MnA.of (gs_eq (gs_eq (hF21.at (gs_ne cn (by decide)) (by omega)))) hf2 hn2), ((htx61_w21.fr (a := 71) (b := 72) (Frm.set (by omega) (by omega)) (by omega)).fr (a := 71) (b := 72) (Frm.set (by omega) (by omega)) (by omega)), ((hkp72_w21.fr (a := 71) (b := 72) (Frm.set (by omega) (by omega)) (by omega)).fr (a := 71) (b := 72) (Frm.set (by omega) (by omega)) (by omega)), ((hU21.fr (a := 71) (b := 72) (Frm.set (by omega) (by omega)) (by omega)).fr (a := 71) (b := 72) (Frm.set (by omega) (by omega)) (by omega)), ((hby75_w21.fr (a := 71) (b := 72) (Frm.set (by omega) (by omega)) (by omega)).fr (a := 71) (b := 72) (Frm.set (by omega) (by omega)) (by omega))⟩ (((((Frm.rf (a := 60) (b := 76)).sets (k := 60) (by omega) (by omega)).tr (a := 60) (b := 76) hF21 (by omega) (by omega) (by omega) (by omega)).sets (k := 71) (by omega) (by omega)).sets (k := 71) (by omega) (by omega))) ?_
          rfl
        · skip
          refine r_aload_n (pc' := 50) dX7_hour_49 rfl rfl ?_
          refine r_get (pc' := 53) fX7_28 dX7_hour_50 rfl (gs_ne (gs_ne (hF21.at (gs_eq hX) (by omega)) (by decide)) (by decide)) rfl ?_
          refine r_iload_n (pc' := 54) dX7_hour_53 rfl rfl ?_
          refine r_iaload (pc' := 55) (v := nI (tg T jq 0)) dX7_hour_54 rfl (gs_ne (gs_ne (hF21.at (gs_ne c6 (by decide)) (by omega)) (by decide)) (by decide)) (vp_in_nI (n := jq) (by omega) (by omega)) (by rw [nI_cl (by omega)]; exact (mg jq (by omega)).1) ?_
          have e54 := hO.2.2.2 jq (by omega)
          refine r_aload_n (pc' := 56) dX7_hour_55 rfl rfl ?_
          refine r_get (pc' := 59) fX7_40 dX7_hour_56 rfl (gs_ne (gs_ne (hF21.at (gs_eq hX) (by omega)) (by decide)) (by decide)) rfl ?_
          refine r_bipush (pc' := 61) (v := nI 36) dX7_hour_59 rfl rfl ?_
          refine r_iaload (pc' := 62) (v := nI (nh M + 1)) dX7_hour_61 rfl (gs_eq (gs_eq (hF21.at (gs_ne cn (by decide)) (by omega)))) (vp_in_nI (n := 36) (by omega) (by omega)) (by rw [nI_cl (by omega), hf2 _ (by omega), sv_h, hh]) ?_
          refine r_icmp_ne (pc' := 65) (P := tg T jq 0 = nh M + 1) (tgt := 107) dX7_hour_62 (by decide) rfl (nI_eq (a := tg T jq 0) (b := nh M + 1) (by omega) (by omega)) (fun h62 => ?_) (fun h62 => ?_)
          · skip
            refine r_iinc (pc' := 110) (lo' := [some (.ref 60), some (.int (nI (cnt (fun j => tg T j 0 == nh M + 1) jq))), some (.int (nI (jq + 1)))]) dX7_hour_107 rfl (by decide) rfl (nI_add jq 1) rfl ?_
            refine r_goto (tgt := 39) dX7_hour_110 (by decide) ?_
            rw [show cnt (fun j => tg T j 0 == nh M + 1) jq = cnt (fun j => tg T j 0 == nh M + 1) (jq + 1) from cnt_f (p := (fun j => tg T j 0 == nh M + 1)) (by simp; omega)]
            exact ih39 (jq + 1) f2 (by omega) (by omega) (by rw [hrM, if_neg (by simp [nHour, nh]; simp [nh] at *; omega)]; exact hf2)
          · skip
            refine r_aload_n (pc' := 66) dX7_hour_65 rfl rfl ?_
            refine r_get (pc' := 69) fX7_40 dX7_hour_66 rfl (gs_ne (gs_ne (hF21.at (gs_eq hX) (by omega)) (by decide)) (by decide)) rfl ?_
            refine r_bipush (pc' := 71) (v := nI 32) dX7_hour_69 rfl rfl ?_
            refine r_aload_n (pc' := 72) dX7_hour_71 rfl rfl ?_
            refine r_get (pc' := 75) fX7_31 dX7_hour_72 rfl (gs_ne (gs_ne (hF21.at (gs_eq hX) (by omega)) (by decide)) (by decide)) rfl ?_
            refine r_iload_n (pc' := 76) dX7_hour_75 rfl rfl ?_
            refine r_iaload (pc' := 77) (v := nI (tg T jq 1)) dX7_hour_76 rfl (gs_ne (gs_ne (hF21.at (gs_ne c7 (by decide)) (by omega)) (by decide)) (by decide)) (vp_in_nI (n := jq) (by omega) (by omega)) (by rw [nI_cl (by omega)]; exact (mg jq (by omega)).2.1) ?_
            have e76 := hO.2.2.2 jq (by omega)
            refine r_iadd (pc' := 78) (v := nI (32 + (tg T jq 1))) dX7_hour_77 rfl (nI_add 32 (tg T jq 1)) ?_
            refine r_dup2 (pc' := 79) dX7_hour_78 rfl rfl rfl ?_
            refine r_iaload (pc' := 80) (v := nI (nt ((hrM T (nHour M (nh M + 1)) jq)) ((tg T jq 1)))) dX7_hour_79 rfl (gs_eq (gs_eq (hF21.at (gs_ne cn (by decide)) (by omega)))) (vp_in_nI (n := 32 + (tg T jq 1)) (by omega) (by omega)) (by rw [nI_cl (by omega), hf2 _ (by omega), sv_t _ (by omega)]) ?_
            have e79 := hn2.2.1 (tg T jq 1) (by omega)
            refine r_aload_n (pc' := 81) dX7_hour_80 rfl rfl ?_
            refine r_aload_n (pc' := 82) dX7_hour_81 rfl rfl ?_
            refine r_get (pc' := 85) fX7_31 dX7_hour_82 rfl (gs_ne (gs_ne (hF21.at (gs_eq hX) (by omega)) (by decide)) (by decide)) rfl ?_
            refine r_iload_n (pc' := 86) dX7_hour_85 rfl rfl ?_
            refine r_iaload (pc' := 87) (v := nI (tg T jq 1)) dX7_hour_86 rfl (gs_ne (gs_ne (hF21.at (gs_ne c7 (by decide)) (by omega)) (by decide)) (by decide)) (vp_in_nI (n := jq) (by omega) (by omega)) (by rw [nI_cl (by omega)]; exact (mg jq (by omega)).2.1) ?_
            have e86 := hO.2.2.2 jq (by omega)
            refine r_aload_n (pc' := 88) dX7_hour_87 rfl rfl ?_
            refine r_get (pc' := 91) fX7_34 dX7_hour_88 rfl (gs_ne (gs_ne (hF21.at (gs_eq hX) (by omega)) (by decide)) (by decide)) rfl ?_
            refine r_iload_n (pc' := 92) dX7_hour_91 rfl rfl ?_
            refine r_iaload (pc' := 93) (v := nI (tg T jq 2)) dX7_hour_92 rfl (gs_ne (gs_ne (hF21.at (gs_ne c8 (by decide)) (by omega)) (by decide)) (by decide)) (vp_in_nI (n := jq) (by omega) (by omega)) (by rw [nI_cl (by omega)]; exact (mg jq (by omega)).2.2.1) ?_
            have e92 := hO.2.2.2 jq (by omega)
            refine r_aload_n (pc' := 94) dX7_hour_93 rfl rfl ?_
            refine r_get (pc' := 97) fX7_37 dX7_hour_94 rfl (gs_ne (gs_ne (hF21.at (gs_eq hX) (by omega)) (by decide)) (by decide)) rfl ?_
            refine r_iload_n (pc' := 98) dX7_hour_97 rfl rfl ?_
            refine r_iaload (pc' := 99) (v := nI (tg T jq 3)) dX7_hour_98 rfl (gs_ne (gs_ne (hF21.at (gs_ne c9 (by decide)) (by omega)) (by decide)) (by decide)) (vp_in_nI (n := jq) (by omega) (by omega)) (by rw [nI_cl (by omega)]; exact (mg jq (by omega)).2.2.2) ?_
            have e98 := hO.2.2.2 jq (by omega)
            refine r_callV (pc' := 102) (av := [.int (nI (tg T jq 1)), .int (nI (tg T jq 2)), .int (nI (tg T jq 3))]) (rest := [.int (nI (nt ((hrM T (nHour M (nh M + 1)) jq)) ((tg T jq 1)))), .int (nI (32 + (tg T jq 1))), .ref 71]) kX7_stepsOf vX7_stepsOf lX7_146 dX7_hour_99 rfl (gs_ne (gs_ne (hF21.at (gs_eq hX) (by omega)) (by decide)) (by decide)) rfl rfl rfl ⟨by decide, by decide, by decide⟩ rfl rfl (Nat.le_of_ble_eq_true rfl) (ct_X7_stepsOf (gs_ne (gs_ne (hF21.at (gs_eq hX) (by omega)) (by decide)) (by decide)) ((hmt62_w21.fr (a := 71) (b := 72) (Frm.set (by omega) (by omega)) (by omega)).fr (a := 71) (b := 72) (Frm.set (by omega) (by omega)) (by omega)) hO (MnA.of (gs_eq (gs_eq (hF21.at (gs_ne cn (by decide)) (by omega)))) hf2 hn2) (d := tg T jq 1) (f := tg T jq 2) (s := tg T jq 3) (by omega) (by omega) (by omega) ?_)
            show Wp g yX7_hour cX7_hour 3 (some .int) 2 0 0 (px_MQ g Q 0 0) 0 0 102 [some (.ref 60), some (.int (nI (cnt (fun j => tg T j 0 == nh M + 1) jq))), some (.int (nI jq))] [.int (nI (trk (tg T jq 2) (tg T jq 3) (td T (tg T jq 1)))), .int (nI (nt ((hrM T (nHour M (nh M + 1)) jq)) ((tg T jq 1)))), .int (nI (32 + (tg T jq 1))), .ref 71] ((w21.set 71 (.inl (0, 37, .inl (upd fn 36 (nI (nh M + 1)))))).set 71 (.inl (0, 37, .inl f2)))
            have e99 := trk_lt (f := tg T jq 2) (s := tg T jq 3) (hO.2.2.1 (tg T jq 1) (by omega)).2
            refine r_ior (pc' := 103) (v := nI ((nt ((hrM T (nHour M (nh M + 1)) jq)) ((tg T jq 1))) ||| (trk (tg T jq 2) (tg T jq 3) (td T (tg T jq 1))))) dX7_hour_102 rfl (or_n (nt ((hrM T (nHour M (nh M + 1)) jq)) ((tg T jq 1))) (trk (tg T jq 2) (tg T jq 3) (td T (tg T jq 1)))) ?_
            refine r_iastore (pc' := 104) (c' := .inl (0, 37, .inl (upd f2 (32 + (tg T jq 1)) (nI ((nt ((hrM T (nHour M (nh M + 1)) jq)) ((tg T jq 1))) ||| (trk (tg T jq 2) (tg T jq 3) (td T (tg T jq 1)))))))) dX7_hour_103 rfl (gs_eq (gs_eq (hF21.at (gs_ne cn (by decide)) (by omega)))) (vp_in_nI (n := 32 + (tg T jq 1)) (by omega) (by omega)) (by rw [nI_cl (by omega)]) ?_
            rw [gs_set]
            refine r_iinc (pc' := 107) (lo' := [some (.ref 60), some (.int (nI (cnt (fun j => tg T j 0 == nh M + 1) jq + 1))), some (.int (nI jq))]) dX7_hour_104 rfl (by decide) rfl (nI_add (cnt (fun j => tg T j 0 == nh M + 1) jq) 1) rfl ?_
            refine r_iinc (pc' := 110) (lo' := [some (.ref 60), some (.int (nI (cnt (fun j => tg T j 0 == nh M + 1) jq + 1))), some (.int (nI (jq + 1)))]) dX7_hour_107 rfl (by decide) rfl (nI_add jq 1) rfl ?_
            refine r_goto (tgt := 39) dX7_hour_110 (by decide) ?_
            rw [show cnt (fun j => tg T j 0 == nh M + 1) jq + 1 = cnt (fun j => tg T j 0 == nh M + 1) (jq + 1) from cnt_t (p := (fun j => tg T j 0 == nh M + 1)) (by simp; omega)]
            exact ih39 (jq + 1) _ (by omega) (by omega) (by rw [hrM, if_pos (by simp [nHour, nh]; simp [nh] at *; omega)]; exact MnF.setT hf2 (by omega))
    have L0 := L39 (tG T + 1) 0 _ (by omega) (Nat.zero_le _) (MnF.setH hf)
    rw [gs_set] at L0
    exact L0
  · skip
    refine r_bipush (pc' := 19) (v := (-2)) dX7_hour_17 rfl rfl ?_
    refine r_ireturn dX7_hour_19 rfl ?_
    rw [hourM, hourU, hourR, if_pos (by omega), if_pos (by omega), if_pos (by omega)] at hQ
    exact hQ w hS Frm.rf
