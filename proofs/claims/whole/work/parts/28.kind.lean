set_option maxHeartbeats 200000 in
theorem ct_X6_askWord {g : px_G} {w : px_W} {Q : px_Q} {ik : Nat} {tr : Int64} {T : px_T} {M : px_N} (hX : w[0]? = some (xobj ik tr)) (hT : SubA w 9 T) (hO : TOK T) (hM : MorA w 15 M) {i : Nat} (hi : i < tW T) (hQ : Q (some (.int (nI (tl T i)))) (w.set 0 (xobj ik (tr + 1)))) : Ct g yX6_askWord cX6_askWord 2 (some .int) 3 0 0 [.ref 0, .int (nI i)] w Q := by
  refine Ct.of kX6_askWord (by omega) (lo := [some (.ref 0), some (.int (nI i))]) rfl (px_cat1 rfl) (Nat.le_of_ble_eq_true rfl) ?_
  obtain ⟨⟨sb1, sb2, sb3⟩, sb4, sb5⟩ := hT.b
  obtain ⟨mB1, mB2, mB3⟩ := hM.b
  refine r_aload_n (pc' := 1) dX6_askWord_0 rfl rfl ?_
  refine r_dup (pc' := 2) dX6_askWord_1 rfl rfl ?_
  refine r_get (pc' := 5) fX6_244 dX6_askWord_2 rfl hX rfl ?_
  refine r_lconst (pc' := 6) (v := 1) dX6_askWord_5 rfl rfl ?_
  refine r_ladd (pc' := 7) (v := tr + 1) dX6_askWord_6 rfl (rfl) ?_
  refine r_put (pc' := 10) (ty := .long) (c' := .inr (5, [.ref 1, .ref 9, .ref 15, .ref 18, .ref 51, .ref 59, .int (nI ik), .long (tr + 1)])) fX6_244 dX6_askWord_7 rfl hX (Nat.le_of_ble_eq_true rfl) rfl (by decide +kernel) rfl rfl rfl ?_
  have hT1 : SubA (w.set 0 (.inr (5, [.ref 1, .ref 9, .ref 15, .ref 18, .ref 51, .ref 59, .int (nI ik), .long (tr + 1)]))) 9 T := hT.fr (a := 0) (b := 1) (Frm.set (by omega) (by omega)) (by omega)
  have hM1 : MorA (w.set 0 (.inr (5, [.ref 1, .ref 9, .ref 15, .ref 18, .ref 51, .ref 59, .int (nI ik), .long (tr + 1)]))) 15 M := hM.fr (a := 0) (b := 1) (Frm.set (by omega) (by omega)) (by omega)
  refine r_aload_n (pc' := 11) dX6_askWord_10 rfl rfl ?_
  refine r_get (pc' := 14) fX6_19 dX6_askWord_11 rfl (gs_eq hX) rfl ?_
  refine r_iload_n (pc' := 15) dX6_askWord_14 rfl rfl ?_
  refine r_callV (pc' := 18) (av := [.int (nI i)]) (rest := []) kX5_longOfWord vX5_longOfWord lX6_81 dX6_askWord_15 rfl hT1.o rfl rfl rfl ⟨by decide, by decide, by decide⟩ rfl rfl (Nat.le_of_ble_eq_true rfl) (ct_X5_longOfWord hT1 (i := i) (by omega) ?_)
  show Wp g yX6_askWord cX6_askWord 2 (some .int) 3 0 0 (px_MQ g Q 0 0) 0 0 18 [some (.ref 0), some (.int (nI i))] [.int (nI (tl T i))] (w.set 0 (.inr (5, [.ref 1, .ref 9, .ref 15, .ref 18, .ref 51, .ref 59, .int (nI ik), .long (tr + 1)])))
  have e15 := hT1.b.2.1 i (by omega)
  refine r_ireturn dX6_askWord_18 rfl ?_
  exact hQ
set_option maxHeartbeats 200000 in
theorem ct_X6_askLetter {g : px_G} {w : px_W} {Q : px_Q} {ik : Nat} {tr : Int64} {T : px_T} {M : px_N} (hX : w[0]? = some (xobj ik tr)) (hT : SubA w 9 T) (hO : TOK T) (hM : MorA w 15 M) {i : Nat} (hi : i < tW T) (hQ : Q (some (.int (nI (tl T i + ts T i)))) (w.set 0 (xobj ik ((tr + 10) + 1)))) : Ct g yX6_askLetter cX6_askLetter 2 (some .int) 4 0 0 [.ref 0, .int (nI i)] w Q := by
  refine Ct.of kX6_askLetter (by omega) (lo := [some (.ref 0), some (.int (nI i))]) rfl (px_cat1 rfl) (Nat.le_of_ble_eq_true rfl) ?_
  obtain ⟨⟨sb1, sb2, sb3⟩, sb4, sb5⟩ := hT.b
  obtain ⟨mB1, mB2, mB3⟩ := hM.b
  refine r_aload_n (pc' := 1) dX6_askLetter_0 rfl rfl ?_
  refine r_dup (pc' := 2) dX6_askLetter_1 rfl rfl ?_
  refine r_get (pc' := 5) fX6_244 dX6_askLetter_2 rfl hX rfl ?_
  refine r_ldc2 (pc' := 8) dX6_askLetter_5 rfl cnX6_282 ?_
  refine r_ladd (pc' := 9) (v := tr + 10) dX6_askLetter_8 rfl (rfl) ?_
  refine r_put (pc' := 12) (ty := .long) (c' := .inr (5, [.ref 1, .ref 9, .ref 15, .ref 18, .ref 51, .ref 59, .int (nI ik), .long (tr + 10)])) fX6_244 dX6_askLetter_9 rfl hX (Nat.le_of_ble_eq_true rfl) rfl (by decide +kernel) rfl rfl rfl ?_
  have hT1 : SubA (w.set 0 (.inr (5, [.ref 1, .ref 9, .ref 15, .ref 18, .ref 51, .ref 59, .int (nI ik), .long (tr + 10)]))) 9 T := hT.fr (a := 0) (b := 1) (Frm.set (by omega) (by omega)) (by omega)
  have hM1 : MorA (w.set 0 (.inr (5, [.ref 1, .ref 9, .ref 15, .ref 18, .ref 51, .ref 59, .int (nI ik), .long (tr + 10)]))) 15 M := hM.fr (a := 0) (b := 1) (Frm.set (by omega) (by omega)) (by omega)
  refine r_aload_n (pc' := 13) dX6_askLetter_12 rfl rfl ?_
  refine r_iload_n (pc' := 14) dX6_askLetter_13 rfl rfl ?_
  refine r_callV (pc' := 17) (av := [.int (nI i)]) (rest := []) kX6_askWord vX6_askWord lX6_213 dX6_askLetter_14 rfl (gs_eq hX) rfl rfl rfl ⟨by decide, by decide, by decide⟩ rfl rfl (Nat.le_of_ble_eq_true rfl) (ct_X6_askWord (gs_eq hX) hT1 hO hM1 (i := i) hi ?_)
  have hT2 : SubA (w.set 0 (xobj ik ((tr + 10) + 1))) 9 T := hT.fr (a := 0) (b := 1) (Frm.set (by omega) (by omega)) (by omega)
  have hM2 : MorA (w.set 0 (xobj ik ((tr + 10) + 1))) 15 M := hM.fr (a := 0) (b := 1) (Frm.set (by omega) (by omega)) (by omega)
  rw [gs_set]
  show Wp g yX6_askLetter cX6_askLetter 2 (some .int) 4 0 0 (px_MQ g Q 0 0) 0 0 17 [some (.ref 0), some (.int (nI i))] [.int (nI (tl T i))] (w.set 0 (xobj ik ((tr + 10) + 1)))
  refine r_aload_n (pc' := 18) dX6_askLetter_17 rfl rfl ?_
  refine r_get (pc' := 21) fX6_19 dX6_askLetter_18 rfl (gs_eq hX) rfl ?_
  refine r_iload_n (pc' := 22) dX6_askLetter_21 rfl rfl ?_
  refine r_callV (pc' := 25) (av := [.int (nI i)]) (rest := [.int (nI (tl T i))]) kX5_saidOf vX5_saidOf lX6_85 dX6_askLetter_22 rfl hT2.o rfl rfl rfl ⟨by decide, by decide, by decide⟩ rfl rfl (Nat.le_of_ble_eq_true rfl) (ct_X5_saidOf hT2 (i := i) (by omega) ?_)
  show Wp g yX6_askLetter cX6_askLetter 2 (some .int) 4 0 0 (px_MQ g Q 0 0) 0 0 25 [some (.ref 0), some (.int (nI i))] [.int (nI (ts T i)), .int (nI (tl T i))] (w.set 0 (xobj ik ((tr + 10) + 1)))
  have e22 := (hO.1 i (by omega))
  refine r_iadd (pc' := 26) (v := nI (tl T i + (ts T i))) dX6_askLetter_25 rfl (nI_add (tl T i) (ts T i)) ?_
  refine r_ireturn dX6_askLetter_26 rfl ?_
  exact hQ
set_option maxHeartbeats 200000 in
theorem ct_X6_askBill {g : px_G} {w : px_W} {Q : px_Q} {ik : Nat} {tr : Int64} {T : px_T} {M : px_N} (hX : w[0]? = some (xobj ik tr)) (hT : SubA w 9 T) (hO : TOK T) (hM : MorA w 15 M) {i : Nat} (hi : i < tW T) (hQ : Q (some (.int (nI (tl T i - vwl T i)))) (w.set 0 (xobj ik ((tr + 100) + 1)))) : Ct g yX6_askBill cX6_askBill 2 (some .int) 5 0 0 [.ref 0, .int (nI i)] w Q := by
  refine Ct.of kX6_askBill (by omega) (lo := [some (.ref 0), some (.int (nI i))]) rfl (px_cat1 rfl) (Nat.le_of_ble_eq_true rfl) ?_
  obtain ⟨⟨sb1, sb2, sb3⟩, sb4, sb5⟩ := hT.b
  obtain ⟨mB1, mB2, mB3⟩ := hM.b
  refine r_aload_n (pc' := 1) dX6_askBill_0 rfl rfl ?_
  refine r_dup (pc' := 2) dX6_askBill_1 rfl rfl ?_
  refine r_get (pc' := 5) fX6_244 dX6_askBill_2 rfl hX rfl ?_
  refine r_ldc2 (pc' := 8) dX6_askBill_5 rfl cnX6_284 ?_
  refine r_ladd (pc' := 9) (v := tr + 100) dX6_askBill_8 rfl (rfl) ?_
  refine r_put (pc' := 12) (ty := .long) (c' := .inr (5, [.ref 1, .ref 9, .ref 15, .ref 18, .ref 51, .ref 59, .int (nI ik), .long (tr + 100)])) fX6_244 dX6_askBill_9 rfl hX (Nat.le_of_ble_eq_true rfl) rfl (by decide +kernel) rfl rfl rfl ?_
  have hT1 : SubA (w.set 0 (.inr (5, [.ref 1, .ref 9, .ref 15, .ref 18, .ref 51, .ref 59, .int (nI ik), .long (tr + 100)]))) 9 T := hT.fr (a := 0) (b := 1) (Frm.set (by omega) (by omega)) (by omega)
  have hM1 : MorA (w.set 0 (.inr (5, [.ref 1, .ref 9, .ref 15, .ref 18, .ref 51, .ref 59, .int (nI ik), .long (tr + 100)]))) 15 M := hM.fr (a := 0) (b := 1) (Frm.set (by omega) (by omega)) (by omega)
  refine r_aload_n (pc' := 13) dX6_askBill_12 rfl rfl ?_
  refine r_iload_n (pc' := 14) dX6_askBill_13 rfl rfl ?_
  refine r_callV (pc' := 17) (av := [.int (nI i)]) (rest := []) kX6_askWord vX6_askWord lX6_213 dX6_askBill_14 rfl (gs_eq hX) rfl rfl rfl ⟨by decide, by decide, by decide⟩ rfl rfl (Nat.le_of_ble_eq_true rfl) (ct_X6_askWord (gs_eq hX) hT1 hO hM1 (i := i) hi ?_)
  have hT2 : SubA (w.set 0 (xobj ik ((tr + 100) + 1))) 9 T := hT.fr (a := 0) (b := 1) (Frm.set (by omega) (by omega)) (by omega)
  have hM2 : MorA (w.set 0 (xobj ik ((tr + 100) + 1))) 15 M := hM.fr (a := 0) (b := 1) (Frm.set (by omega) (by omega)) (by omega)
  rw [gs_set]
  show Wp g yX6_askBill cX6_askBill 2 (some .int) 5 0 0 (px_MQ g Q 0 0) 0 0 17 [some (.ref 0), some (.int (nI i))] [.int (nI (tl T i))] (w.set 0 (xobj ik ((tr + 100) + 1)))
  refine r_aload_n (pc' := 18) dX6_askBill_17 rfl rfl ?_
  refine r_get (pc' := 21) fX6_19 dX6_askBill_18 rfl (gs_eq hX) rfl ?_
  refine r_iload_n (pc' := 22) dX6_askBill_21 rfl rfl ?_
  refine r_callV (pc' := 25) (av := [.int (nI i)]) (rest := [.int (nI (tl T i))]) kX5_vowelsOf vX5_vowelsOf lX6_286 dX6_askBill_22 rfl hT2.o rfl rfl rfl ⟨by decide, by decide, by decide⟩ rfl rfl (Nat.le_of_ble_eq_true rfl) (ct_X5_vowelsOf hT2 hO (i := i) (by omega) ?_)
  show Wp g yX6_askBill cX6_askBill 2 (some .int) 5 0 0 (px_MQ g Q 0 0) 0 0 25 [some (.ref 0), some (.int (nI i))] [.int (nI (vwl T i)), .int (nI (tl T i))] (w.set 0 (xobj ik ((tr + 100) + 1)))
  have e22 := vwl_le hT2.b (i := i) (by omega)
  refine r_isub (pc' := 26) (v := nI (tl T i - (vwl T i))) dX6_askBill_25 rfl (pk_sub (a := tl T i) (b := vwl T i) (by omega)) ?_
  refine r_ireturn dX6_askBill_26 rfl ?_
  exact hQ
set_option maxHeartbeats 200000 in
theorem ct_X6_askWill {g : px_G} {w : px_W} {Q : px_Q} {ik : Nat} {tr : Int64} {T : px_T} {M : px_N} (hX : w[0]? = some (xobj ik tr)) (hT : SubA w 9 T) (hO : TOK T) (hM : MorA w 15 M) {i : Nat} (hi : i < tW T) (hQ : Q (some (.int (nI (tl T i + nh M)))) (w.set 0 (xobj ik ((tr + 100000) + 1)))) : Ct g yX6_askWill cX6_askWill 2 (some .int) 4 0 0 [.ref 0, .int (nI i)] w Q := by
  refine Ct.of kX6_askWill (by omega) (lo := [some (.ref 0), some (.int (nI i))]) rfl (px_cat1 rfl) (Nat.le_of_ble_eq_true rfl) ?_
  obtain ⟨⟨sb1, sb2, sb3⟩, sb4, sb5⟩ := hT.b
  obtain ⟨mB1, mB2, mB3⟩ := hM.b
  refine r_aload_n (pc' := 1) dX6_askWill_0 rfl rfl ?_
  refine r_dup (pc' := 2) dX6_askWill_1 rfl rfl ?_
  refine r_get (pc' := 5) fX6_244 dX6_askWill_2 rfl hX rfl ?_
  refine r_ldc2 (pc' := 8) dX6_askWill_5 rfl cnX6_293 ?_
  refine r_ladd (pc' := 9) (v := tr + 100000) dX6_askWill_8 rfl (rfl) ?_
  refine r_put (pc' := 12) (ty := .long) (c' := .inr (5, [.ref 1, .ref 9, .ref 15, .ref 18, .ref 51, .ref 59, .int (nI ik), .long (tr + 100000)])) fX6_244 dX6_askWill_9 rfl hX (Nat.le_of_ble_eq_true rfl) rfl (by decide +kernel) rfl rfl rfl ?_
  have hT1 : SubA (w.set 0 (.inr (5, [.ref 1, .ref 9, .ref 15, .ref 18, .ref 51, .ref 59, .int (nI ik), .long (tr + 100000)]))) 9 T := hT.fr (a := 0) (b := 1) (Frm.set (by omega) (by omega)) (by omega)
  have hM1 : MorA (w.set 0 (.inr (5, [.ref 1, .ref 9, .ref 15, .ref 18, .ref 51, .ref 59, .int (nI ik), .long (tr + 100000)]))) 15 M := hM.fr (a := 0) (b := 1) (Frm.set (by omega) (by omega)) (by omega)
  refine r_aload_n (pc' := 13) dX6_askWill_12 rfl rfl ?_
  refine r_iload_n (pc' := 14) dX6_askWill_13 rfl rfl ?_
  refine r_callV (pc' := 17) (av := [.int (nI i)]) (rest := []) kX6_askWord vX6_askWord lX6_213 dX6_askWill_14 rfl (gs_eq hX) rfl rfl rfl ⟨by decide, by decide, by decide⟩ rfl rfl (Nat.le_of_ble_eq_true rfl) (ct_X6_askWord (gs_eq hX) hT1 hO hM1 (i := i) hi ?_)
  have hT2 : SubA (w.set 0 (xobj ik ((tr + 100000) + 1))) 9 T := hT.fr (a := 0) (b := 1) (Frm.set (by omega) (by omega)) (by omega)
  have hM2 : MorA (w.set 0 (xobj ik ((tr + 100000) + 1))) 15 M := hM.fr (a := 0) (b := 1) (Frm.set (by omega) (by omega)) (by omega)
  rw [gs_set]
  show Wp g yX6_askWill cX6_askWill 2 (some .int) 4 0 0 (px_MQ g Q 0 0) 0 0 17 [some (.ref 0), some (.int (nI i))] [.int (nI (tl T i))] (w.set 0 (xobj ik ((tr + 100000) + 1)))
  refine r_aload_n (pc' := 18) dX6_askWill_17 rfl rfl ?_
  refine r_get (pc' := 21) fX6_26 dX6_askWill_18 rfl (gs_eq hX) rfl ?_
  refine r_getN (pc' := 24) fX6_163 dX6_askWill_21 rfl hM2.o rfl ?_
  refine r_iadd (pc' := 25) (v := nI (tl T i + (nh M))) dX6_askWill_24 rfl (nI_add (tl T i) (nh M)) ?_
  refine r_ireturn dX6_askWill_25 rfl ?_
  exact hQ
set_option maxHeartbeats 200000 in
theorem ct_X6_askVow {g : px_G} {w : px_W} {Q : px_Q} {ik : Nat} {tr : Int64} {T : px_T} {M : px_N} (hX : w[0]? = some (xobj ik tr)) (hT : SubA w 9 T) (hO : TOK T) (hM : MorA w 15 M) {i : Nat} (hi : i < tW T) (hQ : Q (some (.int (nI (2 * (tl T i + ts T i))))) (w.set 0 (xobj ik (((tr + 1000) + 10) + 1)))) : Ct g yX6_askVow cX6_askVow 2 (some .int) 5 0 0 [.ref 0, .int (nI i)] w Q := by
  refine Ct.of kX6_askVow (by omega) (lo := [some (.ref 0), some (.int (nI i))]) rfl (px_cat1 rfl) (Nat.le_of_ble_eq_true rfl) ?_
  obtain ⟨⟨sb1, sb2, sb3⟩, sb4, sb5⟩ := hT.b
  obtain ⟨mB1, mB2, mB3⟩ := hM.b
  refine r_aload_n (pc' := 1) dX6_askVow_0 rfl rfl ?_
  refine r_dup (pc' := 2) dX6_askVow_1 rfl rfl ?_
  refine r_get (pc' := 5) fX6_244 dX6_askVow_2 rfl hX rfl ?_
  refine r_ldc2 (pc' := 8) dX6_askVow_5 rfl cnX6_289 ?_
  refine r_ladd (pc' := 9) (v := tr + 1000) dX6_askVow_8 rfl (rfl) ?_
  refine r_put (pc' := 12) (ty := .long) (c' := .inr (5, [.ref 1, .ref 9, .ref 15, .ref 18, .ref 51, .ref 59, .int (nI ik), .long (tr + 1000)])) fX6_244 dX6_askVow_9 rfl hX (Nat.le_of_ble_eq_true rfl) rfl (by decide +kernel) rfl rfl rfl ?_
  have hT1 : SubA (w.set 0 (.inr (5, [.ref 1, .ref 9, .ref 15, .ref 18, .ref 51, .ref 59, .int (nI ik), .long (tr + 1000)]))) 9 T := hT.fr (a := 0) (b := 1) (Frm.set (by omega) (by omega)) (by omega)
  have hM1 : MorA (w.set 0 (.inr (5, [.ref 1, .ref 9, .ref 15, .ref 18, .ref 51, .ref 59, .int (nI ik), .long (tr + 1000)]))) 15 M := hM.fr (a := 0) (b := 1) (Frm.set (by omega) (by omega)) (by omega)
  refine r_iconst (pc' := 13) (v := nI 2) dX6_askVow_12 rfl rfl ?_
  refine r_aload_n (pc' := 14) dX6_askVow_13 rfl rfl ?_
  refine r_iload_n (pc' := 15) dX6_askVow_14 rfl rfl ?_
  refine r_callV (pc' := 18) (av := [.int (nI i)]) (rest := [.int (nI 2)]) kX6_askLetter vX6_askLetter lX6_216 dX6_askVow_15 rfl (gs_eq hX) rfl rfl rfl ⟨by decide, by decide, by decide⟩ rfl rfl (Nat.le_of_ble_eq_true rfl) (ct_X6_askLetter (gs_eq hX) hT1 hO hM1 (i := i) hi ?_)
  have hT2 : SubA (w.set 0 (xobj ik (((tr + 1000) + 10) + 1))) 9 T := hT.fr (a := 0) (b := 1) (Frm.set (by omega) (by omega)) (by omega)
  have hM2 : MorA (w.set 0 (xobj ik (((tr + 1000) + 10) + 1))) 15 M := hM.fr (a := 0) (b := 1) (Frm.set (by omega) (by omega)) (by omega)
  rw [gs_set]
  show Wp g yX6_askVow cX6_askVow 2 (some .int) 5 0 0 (px_MQ g Q 0 0) 0 0 18 [some (.ref 0), some (.int (nI i))] [.int (nI (tl T i + ts T i)), .int (nI 2)] (w.set 0 (xobj ik (((tr + 1000) + 10) + 1)))
  refine r_imul (pc' := 19) (v := nI (2 * (tl T i + ts T i))) dX6_askVow_18 rfl (pk_mul 2 (tl T i + ts T i)) ?_
  refine r_ireturn dX6_askVow_19 rfl ?_
  exact hQ
set_option maxHeartbeats 200000 in
theorem ct_X6_askWrit {g : px_G} {w : px_W} {Q : px_Q} {ik : Nat} {tr : Int64} {T : px_T} {M : px_N} (hX : w[0]? = some (xobj ik tr)) (hT : SubA w 9 T) (hO : TOK T) (hM : MorA w 15 M) {i : Nat} (hi : i < tW T) (hQ : Q (some (.int (nI (tl T i - vwl T i + i)))) (w.set 0 (xobj ik (((tr + 10000) + 100) + 1)))) : Ct g yX6_askWrit cX6_askWrit 2 (some .int) 6 0 0 [.ref 0, .int (nI i)] w Q := by
  refine Ct.of kX6_askWrit (by omega) (lo := [some (.ref 0), some (.int (nI i))]) rfl (px_cat1 rfl) (Nat.le_of_ble_eq_true rfl) ?_
  obtain ⟨⟨sb1, sb2, sb3⟩, sb4, sb5⟩ := hT.b
  obtain ⟨mB1, mB2, mB3⟩ := hM.b
  refine r_aload_n (pc' := 1) dX6_askWrit_0 rfl rfl ?_
  refine r_dup (pc' := 2) dX6_askWrit_1 rfl rfl ?_
  refine r_get (pc' := 5) fX6_244 dX6_askWrit_2 rfl hX rfl ?_
  refine r_ldc2 (pc' := 8) dX6_askWrit_5 rfl cnX6_291 ?_
  refine r_ladd (pc' := 9) (v := tr + 10000) dX6_askWrit_8 rfl (rfl) ?_
  refine r_put (pc' := 12) (ty := .long) (c' := .inr (5, [.ref 1, .ref 9, .ref 15, .ref 18, .ref 51, .ref 59, .int (nI ik), .long (tr + 10000)])) fX6_244 dX6_askWrit_9 rfl hX (Nat.le_of_ble_eq_true rfl) rfl (by decide +kernel) rfl rfl rfl ?_
  have hT1 : SubA (w.set 0 (.inr (5, [.ref 1, .ref 9, .ref 15, .ref 18, .ref 51, .ref 59, .int (nI ik), .long (tr + 10000)]))) 9 T := hT.fr (a := 0) (b := 1) (Frm.set (by omega) (by omega)) (by omega)
  have hM1 : MorA (w.set 0 (.inr (5, [.ref 1, .ref 9, .ref 15, .ref 18, .ref 51, .ref 59, .int (nI ik), .long (tr + 10000)]))) 15 M := hM.fr (a := 0) (b := 1) (Frm.set (by omega) (by omega)) (by omega)
  refine r_aload_n (pc' := 13) dX6_askWrit_12 rfl rfl ?_
  refine r_iload_n (pc' := 14) dX6_askWrit_13 rfl rfl ?_
  refine r_callV (pc' := 17) (av := [.int (nI i)]) (rest := []) kX6_askBill vX6_askBill lX6_219 dX6_askWrit_14 rfl (gs_eq hX) rfl rfl rfl ⟨by decide, by decide, by decide⟩ rfl rfl (Nat.le_of_ble_eq_true rfl) (ct_X6_askBill (gs_eq hX) hT1 hO hM1 (i := i) hi ?_)
  have hT2 : SubA (w.set 0 (xobj ik (((tr + 10000) + 100) + 1))) 9 T := hT.fr (a := 0) (b := 1) (Frm.set (by omega) (by omega)) (by omega)
  have hM2 : MorA (w.set 0 (xobj ik (((tr + 10000) + 100) + 1))) 15 M := hM.fr (a := 0) (b := 1) (Frm.set (by omega) (by omega)) (by omega)
  rw [gs_set]
  show Wp g yX6_askWrit cX6_askWrit 2 (some .int) 6 0 0 (px_MQ g Q 0 0) 0 0 17 [some (.ref 0), some (.int (nI i))] [.int (nI (tl T i - vwl T i))] (w.set 0 (xobj ik (((tr + 10000) + 100) + 1)))
  refine r_iload_n (pc' := 18) dX6_askWrit_17 rfl rfl ?_
  refine r_iadd (pc' := 19) (v := nI (tl T i - vwl T i + i)) dX6_askWrit_18 rfl (nI_add (tl T i - vwl T i) i) ?_
  refine r_ireturn dX6_askWrit_19 rfl ?_
  exact hQ
set_option maxHeartbeats 200000 in
theorem ct_X6_rate {g : px_G} {w : px_W} {Q : px_Q} {ik : Nat} {tr : Int64} {T : px_T} {M : px_N} (hX : w[0]? = some (xobj ik tr)) (hT : SubA w 9 T) (hO : TOK T) (hM : MorA w 15 M) {a b : Int32} (hQ : Q (some (.int (rateR T M a b))) (w.set 0 (xobj ik (rateT T tr a b)))) : Ct g yX6_rate cX6_rate 3 (some .int) 7 0 0 [.ref 0, .int a, .int b] w Q := by
  refine Ct.of kX6_rate (by omega) (lo := [some (.ref 0), some (.int a), some (.int b)]) rfl (px_cat1 rfl) (Nat.le_of_ble_eq_true rfl) ?_
  obtain ⟨⟨sb1, sb2, sb3⟩, sb4, sb5⟩ := hT.b
  obtain ⟨mB1, mB2, mB3⟩ := hM.b
  refine r_aload_n (pc' := 1) dX6_rate_0 rfl rfl ?_
  refine r_get (pc' := 4) fX6_19 dX6_rate_1 rfl hX rfl ?_
  refine r_iload_n (pc' := 5) dX6_rate_4 rfl rfl ?_
  refine r_callV (pc' := 8) (av := [.int b]) (rest := []) kX5_hasWord vX5_hasWord lX6_77 dX6_rate_5 rfl hT.o rfl rfl rfl ⟨by decide, by decide, by decide⟩ rfl rfl (Nat.le_of_ble_eq_true rfl) (ct_X5_hasWord hT ?_)
  show Wp g yX6_rate cX6_rate 3 (some .int) 7 0 0 (px_MQ g Q 0 0) 0 0 8 [some (.ref 0), some (.int a), some (.int b)] [.int (bI (hasI b (tW T)))] w
  refine r_if_ne (pc' := 11) (P := (hasI b (tW T)) = false) (tgt := 14) dX6_rate_8 (by decide) rfl (bI_0) (fun h8 => ?_) (fun h8 => ?_)
  · have h8' := (by simpa using h8 : hasI b _ = true)
    obtain ⟨i, hi, rfl⟩ := hasI_t h8' (by omega)
    refine r_iload_n (pc' := 15) dX6_rate_14 rfl rfl ?_
    by_cases hsw : hasI a 6 = true
    · obtain ⟨sw15, hsw15, rfl⟩ := hasI_t hsw (by omega)
      rcases (show sw15 = 0 ∨ sw15 = 1 ∨ sw15 = 2 ∨ sw15 = 3 ∨ sw15 = 4 ∨ sw15 = 5 by omega) with rfl | rfl | rfl | rfl | rfl | rfl
      · refine r_tableIn (off := 37) (tgt := 52) dX6_rate_15 (by decide) (by decide) (by decide) (by decide) ?_
        refine r_aload_n (pc' := 53) dX6_rate_52 rfl rfl ?_
        refine r_iload_n (pc' := 54) dX6_rate_53 rfl rfl ?_
        refine r_callV (pc' := 57) (av := [.int (nI i)]) (rest := []) kX6_askWord vX6_askWord lX6_213 dX6_rate_54 rfl hX rfl rfl rfl ⟨by decide, by decide, by decide⟩ rfl rfl (Nat.le_of_ble_eq_true rfl) (ct_X6_askWord hX hT hO hM (i := i) hi ?_)
        show Wp g yX6_rate cX6_rate 3 (some .int) 7 0 0 (px_MQ g Q 0 0) 0 0 57 [some (.ref 0), some (.int (nI 0)), some (.int (nI i))] [.int (nI (tl T i))] (w.set 0 (xobj ik (tr + 1)))
        refine r_ireturn dX6_rate_57 rfl ?_
        have ho : (hasI (nI 0) 6 && hasI (nI i) (tW T)) = true := by rw [h8']; rfl
        have e1 : rateR T M (nI 0) (nI i) = nI (tl T i) := by rw [rateR, if_pos ho, nI_cl (show i < 2 ^ 31 by omega)]; rfl
        have e2 : rateT T tr (nI 0) (nI i) = (tr + 1) := by rw [rateT, if_pos ho]; (try simp only [Int64.add_assoc]); rfl
        rw [← e1]
        rw [← e2]
        exact hQ
      · refine r_tableIn (off := 43) (tgt := 58) dX6_rate_15 (by decide) (by decide) (by decide) (by decide) ?_
        refine r_aload_n (pc' := 59) dX6_rate_58 rfl rfl ?_
        refine r_iload_n (pc' := 60) dX6_rate_59 rfl rfl ?_
        refine r_callV (pc' := 63) (av := [.int (nI i)]) (rest := []) kX6_askLetter vX6_askLetter lX6_216 dX6_rate_60 rfl hX rfl rfl rfl ⟨by decide, by decide, by decide⟩ rfl rfl (Nat.le_of_ble_eq_true rfl) (ct_X6_askLetter hX hT hO hM (i := i) hi ?_)
        show Wp g yX6_rate cX6_rate 3 (some .int) 7 0 0 (px_MQ g Q 0 0) 0 0 63 [some (.ref 0), some (.int (nI 1)), some (.int (nI i))] [.int (nI (tl T i + ts T i))] (w.set 0 (xobj ik ((tr + 10) + 1)))
        refine r_ireturn dX6_rate_63 rfl ?_
        have ho : (hasI (nI 1) 6 && hasI (nI i) (tW T)) = true := by rw [h8']; rfl
        have e1 : rateR T M (nI 1) (nI i) = nI (tl T i + ts T i) := by rw [rateR, if_pos ho, nI_cl (show i < 2 ^ 31 by omega)]; rfl
        have e2 : rateT T tr (nI 1) (nI i) = ((tr + 10) + 1) := by rw [rateT, if_pos ho]; (try simp only [Int64.add_assoc]); rfl
        rw [← e1]
        rw [← e2]
        exact hQ
      · refine r_tableIn (off := 49) (tgt := 64) dX6_rate_15 (by decide) (by decide) (by decide) (by decide) ?_
        refine r_aload_n (pc' := 65) dX6_rate_64 rfl rfl ?_
        refine r_iload_n (pc' := 66) dX6_rate_65 rfl rfl ?_
        refine r_callV (pc' := 69) (av := [.int (nI i)]) (rest := []) kX6_askBill vX6_askBill lX6_219 dX6_rate_66 rfl hX rfl rfl rfl ⟨by decide, by decide, by decide⟩ rfl rfl (Nat.le_of_ble_eq_true rfl) (ct_X6_askBill hX hT hO hM (i := i) hi ?_)
        show Wp g yX6_rate cX6_rate 3 (some .int) 7 0 0 (px_MQ g Q 0 0) 0 0 69 [some (.ref 0), some (.int (nI 2)), some (.int (nI i))] [.int (nI (tl T i - vwl T i))] (w.set 0 (xobj ik ((tr + 100) + 1)))
        refine r_ireturn dX6_rate_69 rfl ?_
        have ho : (hasI (nI 2) 6 && hasI (nI i) (tW T)) = true := by rw [h8']; rfl
        have e1 : rateR T M (nI 2) (nI i) = nI (tl T i - vwl T i) := by rw [rateR, if_pos ho, nI_cl (show i < 2 ^ 31 by omega)]; rfl
        have e2 : rateT T tr (nI 2) (nI i) = ((tr + 100) + 1) := by rw [rateT, if_pos ho]; (try simp only [Int64.add_assoc]); rfl
        rw [← e1]
        rw [← e2]
        exact hQ
      · refine r_tableIn (off := 55) (tgt := 70) dX6_rate_15 (by decide) (by decide) (by decide) (by decide) ?_
        refine r_aload_n (pc' := 71) dX6_rate_70 rfl rfl ?_
        refine r_iload_n (pc' := 72) dX6_rate_71 rfl rfl ?_
        refine r_callV (pc' := 75) (av := [.int (nI i)]) (rest := []) kX6_askVow vX6_askVow lX6_222 dX6_rate_72 rfl hX rfl rfl rfl ⟨by decide, by decide, by decide⟩ rfl rfl (Nat.le_of_ble_eq_true rfl) (ct_X6_askVow hX hT hO hM (i := i) hi ?_)
        show Wp g yX6_rate cX6_rate 3 (some .int) 7 0 0 (px_MQ g Q 0 0) 0 0 75 [some (.ref 0), some (.int (nI 3)), some (.int (nI i))] [.int (nI (2 * (tl T i + ts T i)))] (w.set 0 (xobj ik (((tr + 1000) + 10) + 1)))
        refine r_ireturn dX6_rate_75 rfl ?_
        have ho : (hasI (nI 3) 6 && hasI (nI i) (tW T)) = true := by rw [h8']; rfl
        have e1 : rateR T M (nI 3) (nI i) = nI (2 * (tl T i + ts T i)) := by rw [rateR, if_pos ho, nI_cl (show i < 2 ^ 31 by omega)]; rfl
        have e2 : rateT T tr (nI 3) (nI i) = (((tr + 1000) + 10) + 1) := by rw [rateT, if_pos ho]; (try simp only [Int64.add_assoc]); rfl
        rw [← e1]
        rw [← e2]
        exact hQ
      · refine r_tableIn (off := 61) (tgt := 76) dX6_rate_15 (by decide) (by decide) (by decide) (by decide) ?_
        refine r_aload_n (pc' := 77) dX6_rate_76 rfl rfl ?_
        refine r_iload_n (pc' := 78) dX6_rate_77 rfl rfl ?_
        refine r_callV (pc' := 81) (av := [.int (nI i)]) (rest := []) kX6_askWrit vX6_askWrit lX6_225 dX6_rate_78 rfl hX rfl rfl rfl ⟨by decide, by decide, by decide⟩ rfl rfl (Nat.le_of_ble_eq_true rfl) (ct_X6_askWrit hX hT hO hM (i := i) hi ?_)
        show Wp g yX6_rate cX6_rate 3 (some .int) 7 0 0 (px_MQ g Q 0 0) 0 0 81 [some (.ref 0), some (.int (nI 4)), some (.int (nI i))] [.int (nI (tl T i - vwl T i + i))] (w.set 0 (xobj ik (((tr + 10000) + 100) + 1)))
        refine r_ireturn dX6_rate_81 rfl ?_
        have ho : (hasI (nI 4) 6 && hasI (nI i) (tW T)) = true := by rw [h8']; rfl
        have e1 : rateR T M (nI 4) (nI i) = nI (tl T i - vwl T i + i) := by rw [rateR, if_pos ho, nI_cl (show i < 2 ^ 31 by omega)]; rfl
        have e2 : rateT T tr (nI 4) (nI i) = (((tr + 10000) + 100) + 1) := by rw [rateT, if_pos ho]; (try simp only [Int64.add_assoc]); rfl
        rw [← e1]
        rw [← e2]
        exact hQ
      · refine r_tableIn (off := 67) (tgt := 82) dX6_rate_15 (by decide) (by decide) (by decide) (by decide) ?_
        refine r_aload_n (pc' := 83) dX6_rate_82 rfl rfl ?_
        refine r_iload_n (pc' := 84) dX6_rate_83 rfl rfl ?_
        refine r_callV (pc' := 87) (av := [.int (nI i)]) (rest := []) kX6_askWill vX6_askWill lX6_228 dX6_rate_84 rfl hX rfl rfl rfl ⟨by decide, by decide, by decide⟩ rfl rfl (Nat.le_of_ble_eq_true rfl) (ct_X6_askWill hX hT hO hM (i := i) hi ?_)
        show Wp g yX6_rate cX6_rate 3 (some .int) 7 0 0 (px_MQ g Q 0 0) 0 0 87 [some (.ref 0), some (.int (nI 5)), some (.int (nI i))] [.int (nI (tl T i + nh M))] (w.set 0 (xobj ik ((tr + 100000) + 1)))
        refine r_ireturn dX6_rate_87 rfl ?_
        have ho : (hasI (nI 5) 6 && hasI (nI i) (tW T)) = true := by rw [h8']; rfl
        have e1 : rateR T M (nI 5) (nI i) = nI (tl T i + nh M) := by rw [rateR, if_pos ho, nI_cl (show i < 2 ^ 31 by omega)]; rfl
        have e2 : rateT T tr (nI 5) (nI i) = ((tr + 100000) + 1) := by rw [rateT, if_pos ho]; (try simp only [Int64.add_assoc]); rfl
        rw [← e1]
        rw [← e2]
        exact hQ
    · refine r_tableOut (tgt := 88) dX6_rate_15 (out_hasI hsw) (by decide) ?_
      refine r_ldc (pc' := 90) dX6_rate_88 rfl cnX6_212 ?_
      refine r_ireturn dX6_rate_90 rfl ?_
      rw [rateR, rateT] at hQ
      rw [show hasI a 6 = false by simpa using hsw] at hQ
      simp only [Bool.false_and, Bool.and_false, Bool.false_eq_true, if_false] at hQ
      rw [gs_id hX] at hQ
      exact hQ
  · skip
    refine r_ldc (pc' := 13) dX6_rate_11 rfl cnX6_212 ?_
    refine r_ireturn dX6_rate_13 rfl ?_
    rw [rateR, rateT] at hQ
    rw [h8] at hQ
    simp only [Bool.false_and, Bool.and_false, Bool.false_eq_true, if_false] at hQ
    rw [gs_id hX] at hQ
    exact hQ
