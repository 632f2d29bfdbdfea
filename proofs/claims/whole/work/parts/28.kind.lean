set_option maxHeartbeats 200000 in
theorem ct_askKind_m {g : px_G} {w : px_W} {Q : px_Q} {ik : Nat} {tr : Int64} {T : px_T} {M : px_N} (hX : w[0]? = some (xobj ik tr)) (hT : SubA w 9 T) (hO : TOK T) (hM : MorA w 15 M) {i c : Nat} (hi : i < tW T) (hc : c ≤ 20) (hQ : Q (some (.int (nI 0))) w) : Ct g yX6_askKind cX6_askKind 5 (some .int) 1 0 0 [.ref 0, .int ((-1)), .int (nI i), .int (nI c)] w Q := by
  refine Ct.of kX6_askKind (by omega) (lo := [some (.ref 0), some (.int ((-1))), some (.int (nI i)), some (.int (nI c)), none]) rfl (px_cat1 rfl) (Nat.le_of_ble_eq_true rfl) ?_
  obtain ⟨⟨sb1, sb2, sb3⟩, sb4, sb5⟩ := hT.b
  obtain ⟨mB1, mB2, mB3⟩ := hM.b
  refine r_iload_n (pc' := 1) dX6_askKind_0 rfl rfl ?_
  refine r_if_lt (pc' := 4) (P := ((-1)) < 0) (tgt := 10) dX6_askKind_1 (by decide) rfl (Iff.rfl) (fun h1 => ?_) (fun h1 => ?_)
  · skip
    refine r_iconst (pc' := 11) (v := nI 0) dX6_askKind_10 rfl rfl ?_
    refine r_ireturn dX6_askKind_11 rfl ?_
    exact hQ
  · skip
    exfalso; exact h1 (by decide)
set_option maxHeartbeats 200000 in
theorem ct_askKind_0 {g : px_G} {w : px_W} {Q : px_Q} {ik : Nat} {tr : Int64} {T : px_T} {M : px_N} (hX : w[0]? = some (xobj ik tr)) (hT : SubA w 9 T) (hO : TOK T) (hM : MorA w 15 M) {i c : Nat} (hi : i < tW T) (hc : c + 2 ≤ 6) (hQ : Q (some (.int (nI (tl T i)))) (w.set 0 (xobj ik (tr + 1)))) : Ct g yX6_askKind cX6_askKind 5 (some .int) 10 0 0 [.ref 0, .int (nI 0), .int (nI i), .int (nI c)] w Q := by
  refine Ct.of kX6_askKind (by omega) (lo := [some (.ref 0), some (.int (nI 0)), some (.int (nI i)), some (.int (nI c)), none]) rfl (px_cat1 rfl) (Nat.le_of_ble_eq_true rfl) ?_
  obtain ⟨⟨sb1, sb2, sb3⟩, sb4, sb5⟩ := hT.b
  obtain ⟨mB1, mB2, mB3⟩ := hM.b
  refine r_iload_n (pc' := 1) dX6_askKind_0 rfl rfl ?_
  refine r_if_lt (pc' := 4) (P := False) (tgt := 10) dX6_askKind_1 (by decide) rfl (nI_lt0 (n := 0) (by omega)) (fun h1 => ?_) (fun h1 => ?_)
  · skip
    exfalso; exact h1
  · skip
    refine r_iload_n (pc' := 5) dX6_askKind_4 rfl rfl ?_
    refine r_bipush (pc' := 7) (v := nI 6) dX6_askKind_5 rfl rfl ?_
    refine r_icmp_lt (pc' := 10) (P := c < 6) (tgt := 12) dX6_askKind_7 (by decide) rfl (nI_ltI (a := c) (b := 6) (by omega) (by omega)) (fun h7 => ?_) (fun h7 => ?_)
    · skip
      refine r_aload_n (pc' := 13) dX6_askKind_12 rfl rfl ?_
      refine r_dup (pc' := 14) dX6_askKind_13 rfl rfl ?_
      refine r_get (pc' := 17) fX6_215 dX6_askKind_14 rfl hX rfl ?_
      refine r_getT (pc' := 20) dX6_askKind_17 rfl fX6_249 ?_
      refine r_iload_n (pc' := 21) dX6_askKind_20 rfl rfl ?_
      refine r_callS (pc' := 24) (av := [.ref 1000, .int (nI 0)]) (rest := [.long tr, .ref 0]) kX3_at vX3_at lX6_253 dX6_askKind_21 rfl rfl rfl ⟨by decide, by decide, by decide⟩ rfl rfl (Nat.le_of_ble_eq_true rfl) (ct_X3_atT (q := 1000) (by decide) rfl (by decide) (j := 0) (by decide) (v := 1) rfl ?_)
      show Wp g yX6_askKind cX6_askKind 5 (some .int) 10 0 0 (px_MQ g Q 0 0) 0 0 24 [some (.ref 0), some (.int (nI 0)), some (.int (nI i)), some (.int (nI c)), none] [.int ((1 : Int32)), .long tr, .ref 0] w
      refine r_i2l (pc' := 25) (v := 1) dX6_askKind_24 rfl (by decide) ?_
      refine r_ladd (pc' := 26) (v := tr + 1) dX6_askKind_25 rfl (rfl) ?_
      refine r_put (pc' := 29) (ty := .long) (c' := .inr (5, [.ref 1, .ref 9, .ref 15, .ref 18, .ref 51, .int (nI ik), .long (tr + 1)])) fX6_215 dX6_askKind_26 rfl hX (Nat.le_of_ble_eq_true rfl) rfl (by decide +kernel) rfl rfl rfl ?_
      refine r_aload_n (pc' := 30) dX6_askKind_29 rfl rfl ?_
      refine r_getA (pc' := 33) dX6_askKind_30 rfl fX6_259 ?_
      refine r_iload_n (pc' := 34) dX6_askKind_33 rfl rfl ?_
      refine r_callS (pc' := 37) (av := [.ref 1001, .int (nI 0)]) (rest := [.ref 0]) kX3_at vX3_at lX6_253 dX6_askKind_34 rfl rfl rfl ⟨by decide, by decide, by decide⟩ rfl rfl (Nat.le_of_ble_eq_true rfl) (ct_X3_atT (q := 1001) (by decide) rfl (by decide) (j := 0) (by decide) (v := (-1)) rfl ?_)
      show Wp g yX6_askKind cX6_askKind 5 (some .int) 10 0 0 (px_MQ g Q 0 0) 0 0 37 [some (.ref 0), some (.int (nI 0)), some (.int (nI i)), some (.int (nI c)), none] [.int ((-1)), .ref 0] (w.set 0 (.inr (5, [.ref 1, .ref 9, .ref 15, .ref 18, .ref 51, .int (nI ik), .long (tr + 1)])))
      refine r_iload_n (pc' := 38) dX6_askKind_37 rfl rfl ?_
      refine r_iload_n (pc' := 39) dX6_askKind_38 rfl rfl ?_
      refine r_iconst (pc' := 40) (v := nI 1) dX6_askKind_39 rfl rfl ?_
      refine r_iadd (pc' := 41) (v := nI (c + 1)) dX6_askKind_40 rfl (nI_add c 1) ?_
      refine r_callV (pc' := 44) (av := [.int ((-1)), .int (nI i), .int (nI (c + 1))]) (rest := []) kX6_askKind vX6_askKind lX6_199 dX6_askKind_41 rfl (gs_eq hX) rfl rfl rfl ⟨by decide, by decide, by decide⟩ rfl rfl (Nat.le_of_ble_eq_true rfl) (ct_askKind_m (gs_eq hX) ((hT.fr (a := 0) (b := 1) (Frm.set (by omega) (by omega)) (by omega))) hO ((hM.fr (a := 0) (b := 1) (Frm.set (by omega) (by omega)) (by omega))) (i := i) (c := c + 1) hi (by omega) ?_)
      have hT2 : SubA (w.set 0 (xobj ik (tr + 1))) 9 T := hT.fr (a := 0) (b := 1) (Frm.set (by omega) (by omega)) (by omega)
      have hM2 : MorA (w.set 0 (xobj ik (tr + 1))) 15 M := hM.fr (a := 0) (b := 1) (Frm.set (by omega) (by omega)) (by omega)
      show Wp g yX6_askKind cX6_askKind 5 (some .int) 10 0 0 (px_MQ g Q 0 0) 0 0 44 [some (.ref 0), some (.int (nI 0)), some (.int (nI i)), some (.int (nI c)), none] [.int (nI 0)] (w.set 0 (xobj ik (tr + 1)))
      refine r_istore (pc' := 46) (lo' := [some (.ref 0), some (.int (nI 0)), some (.int (nI i)), some (.int (nI c)), some (.int (nI 0))]) dX6_askKind_44 rfl (by decide) rfl ?_
      refine r_iload_n (pc' := 47) dX6_askKind_46 rfl rfl ?_
      refine r_tableIn (off := 37) (tgt := 84) dX6_askKind_47 (by decide) (by decide) (by decide) (by decide) ?_
      refine r_aload_n (pc' := 85) dX6_askKind_84 rfl rfl ?_
      refine r_get (pc' := 88) fX6_19 dX6_askKind_85 rfl (gs_eq hX) rfl ?_
      refine r_iload_n (pc' := 89) dX6_askKind_88 rfl rfl ?_
      refine r_callV (pc' := 92) (av := [.int (nI i)]) (rest := []) kX5_longOfWord vX5_longOfWord lX6_77 dX6_askKind_89 rfl hT2.o rfl rfl rfl ⟨by decide, by decide, by decide⟩ rfl rfl (Nat.le_of_ble_eq_true rfl) (ct_X5_longOfWord hT2 (i := i) (by omega) ?_)
      show Wp g yX6_askKind cX6_askKind 5 (some .int) 10 0 0 (px_MQ g Q 0 0) 0 0 92 [some (.ref 0), some (.int (nI 0)), some (.int (nI i)), some (.int (nI c)), some (.int (nI 0))] [.int (nI (tl T i))] (w.set 0 (xobj ik (tr + 1)))
      have e89 := hT2.b.2.1 i (by omega)
      refine r_ireturn dX6_askKind_92 rfl ?_
      exact hQ
    · skip
      exfalso; omega
set_option maxHeartbeats 200000 in
theorem ct_askKind_1 {g : px_G} {w : px_W} {Q : px_Q} {ik : Nat} {tr : Int64} {T : px_T} {M : px_N} (hX : w[0]? = some (xobj ik tr)) (hT : SubA w 9 T) (hO : TOK T) (hM : MorA w 15 M) {i c : Nat} (hi : i < tW T) (hc : c + 3 ≤ 6) (hQ : Q (some (.int (nI (tl T i + ts T i)))) (w.set 0 (xobj ik ((tr + 10) + 1)))) : Ct g yX6_askKind cX6_askKind 5 (some .int) 11 0 0 [.ref 0, .int (nI 1), .int (nI i), .int (nI c)] w Q := by
  refine Ct.of kX6_askKind (by omega) (lo := [some (.ref 0), some (.int (nI 1)), some (.int (nI i)), some (.int (nI c)), none]) rfl (px_cat1 rfl) (Nat.le_of_ble_eq_true rfl) ?_
  obtain ⟨⟨sb1, sb2, sb3⟩, sb4, sb5⟩ := hT.b
  obtain ⟨mB1, mB2, mB3⟩ := hM.b
  refine r_iload_n (pc' := 1) dX6_askKind_0 rfl rfl ?_
  refine r_if_lt (pc' := 4) (P := False) (tgt := 10) dX6_askKind_1 (by decide) rfl (nI_lt0 (n := 1) (by omega)) (fun h1 => ?_) (fun h1 => ?_)
  · skip
    exfalso; exact h1
  · skip
    refine r_iload_n (pc' := 5) dX6_askKind_4 rfl rfl ?_
    refine r_bipush (pc' := 7) (v := nI 6) dX6_askKind_5 rfl rfl ?_
    refine r_icmp_lt (pc' := 10) (P := c < 6) (tgt := 12) dX6_askKind_7 (by decide) rfl (nI_ltI (a := c) (b := 6) (by omega) (by omega)) (fun h7 => ?_) (fun h7 => ?_)
    · skip
      refine r_aload_n (pc' := 13) dX6_askKind_12 rfl rfl ?_
      refine r_dup (pc' := 14) dX6_askKind_13 rfl rfl ?_
      refine r_get (pc' := 17) fX6_215 dX6_askKind_14 rfl hX rfl ?_
      refine r_getT (pc' := 20) dX6_askKind_17 rfl fX6_249 ?_
      refine r_iload_n (pc' := 21) dX6_askKind_20 rfl rfl ?_
      refine r_callS (pc' := 24) (av := [.ref 1000, .int (nI 1)]) (rest := [.long tr, .ref 0]) kX3_at vX3_at lX6_253 dX6_askKind_21 rfl rfl rfl ⟨by decide, by decide, by decide⟩ rfl rfl (Nat.le_of_ble_eq_true rfl) (ct_X3_atT (q := 1000) (by decide) rfl (by decide) (j := 1) (by decide) (v := 10) rfl ?_)
      show Wp g yX6_askKind cX6_askKind 5 (some .int) 11 0 0 (px_MQ g Q 0 0) 0 0 24 [some (.ref 0), some (.int (nI 1)), some (.int (nI i)), some (.int (nI c)), none] [.int ((10 : Int32)), .long tr, .ref 0] w
      refine r_i2l (pc' := 25) (v := 10) dX6_askKind_24 rfl (by decide) ?_
      refine r_ladd (pc' := 26) (v := tr + 10) dX6_askKind_25 rfl (rfl) ?_
      refine r_put (pc' := 29) (ty := .long) (c' := .inr (5, [.ref 1, .ref 9, .ref 15, .ref 18, .ref 51, .int (nI ik), .long (tr + 10)])) fX6_215 dX6_askKind_26 rfl hX (Nat.le_of_ble_eq_true rfl) rfl (by decide +kernel) rfl rfl rfl ?_
      refine r_aload_n (pc' := 30) dX6_askKind_29 rfl rfl ?_
      refine r_getA (pc' := 33) dX6_askKind_30 rfl fX6_259 ?_
      refine r_iload_n (pc' := 34) dX6_askKind_33 rfl rfl ?_
      refine r_callS (pc' := 37) (av := [.ref 1001, .int (nI 1)]) (rest := [.ref 0]) kX3_at vX3_at lX6_253 dX6_askKind_34 rfl rfl rfl ⟨by decide, by decide, by decide⟩ rfl rfl (Nat.le_of_ble_eq_true rfl) (ct_X3_atT (q := 1001) (by decide) rfl (by decide) (j := 1) (by decide) (v := nI 0) rfl ?_)
      show Wp g yX6_askKind cX6_askKind 5 (some .int) 11 0 0 (px_MQ g Q 0 0) 0 0 37 [some (.ref 0), some (.int (nI 1)), some (.int (nI i)), some (.int (nI c)), none] [.int (nI 0), .ref 0] (w.set 0 (.inr (5, [.ref 1, .ref 9, .ref 15, .ref 18, .ref 51, .int (nI ik), .long (tr + 10)])))
      refine r_iload_n (pc' := 38) dX6_askKind_37 rfl rfl ?_
      refine r_iload_n (pc' := 39) dX6_askKind_38 rfl rfl ?_
      refine r_iconst (pc' := 40) (v := nI 1) dX6_askKind_39 rfl rfl ?_
      refine r_iadd (pc' := 41) (v := nI (c + 1)) dX6_askKind_40 rfl (nI_add c 1) ?_
      refine r_callV (pc' := 44) (av := [.int (nI 0), .int (nI i), .int (nI (c + 1))]) (rest := []) kX6_askKind vX6_askKind lX6_199 dX6_askKind_41 rfl (gs_eq hX) rfl rfl rfl ⟨by decide, by decide, by decide⟩ rfl rfl (Nat.le_of_ble_eq_true rfl) (ct_askKind_0 (gs_eq hX) ((hT.fr (a := 0) (b := 1) (Frm.set (by omega) (by omega)) (by omega))) hO ((hM.fr (a := 0) (b := 1) (Frm.set (by omega) (by omega)) (by omega))) (i := i) (c := c + 1) hi (by omega) ?_)
      have hT2 : SubA (w.set 0 (xobj ik ((tr + 10) + 1))) 9 T := hT.fr (a := 0) (b := 1) (Frm.set (by omega) (by omega)) (by omega)
      have hM2 : MorA (w.set 0 (xobj ik ((tr + 10) + 1))) 15 M := hM.fr (a := 0) (b := 1) (Frm.set (by omega) (by omega)) (by omega)
      rw [gs_set]
      show Wp g yX6_askKind cX6_askKind 5 (some .int) 11 0 0 (px_MQ g Q 0 0) 0 0 44 [some (.ref 0), some (.int (nI 1)), some (.int (nI i)), some (.int (nI c)), none] [.int (nI (tl T i))] (w.set 0 (xobj ik ((tr + 10) + 1)))
      refine r_istore (pc' := 46) (lo' := [some (.ref 0), some (.int (nI 1)), some (.int (nI i)), some (.int (nI c)), some (.int (nI (tl T i)))]) dX6_askKind_44 rfl (by decide) rfl ?_
      refine r_iload_n (pc' := 47) dX6_askKind_46 rfl rfl ?_
      refine r_tableIn (off := 46) (tgt := 93) dX6_askKind_47 (by decide) (by decide) (by decide) (by decide) ?_
      refine r_iload (pc' := 95) dX6_askKind_93 rfl rfl ?_
      refine r_aload_n (pc' := 96) dX6_askKind_95 rfl rfl ?_
      refine r_get (pc' := 99) fX6_19 dX6_askKind_96 rfl (gs_eq hX) rfl ?_
      refine r_iload_n (pc' := 100) dX6_askKind_99 rfl rfl ?_
      refine r_callV (pc' := 103) (av := [.int (nI i)]) (rest := [.int (nI (tl T i))]) kX5_saidOf vX5_saidOf lX6_81 dX6_askKind_100 rfl hT2.o rfl rfl rfl ⟨by decide, by decide, by decide⟩ rfl rfl (Nat.le_of_ble_eq_true rfl) (ct_X5_saidOf hT2 (i := i) (by omega) ?_)
      show Wp g yX6_askKind cX6_askKind 5 (some .int) 11 0 0 (px_MQ g Q 0 0) 0 0 103 [some (.ref 0), some (.int (nI 1)), some (.int (nI i)), some (.int (nI c)), some (.int (nI (tl T i)))] [.int (nI (ts T i)), .int (nI (tl T i))] (w.set 0 (xobj ik ((tr + 10) + 1)))
      have e100 := (hO.1 i (by omega))
      refine r_iadd (pc' := 104) (v := nI (tl T i + (ts T i))) dX6_askKind_103 rfl (nI_add (tl T i) (ts T i)) ?_
      refine r_ireturn dX6_askKind_104 rfl ?_
      exact hQ
    · skip
      exfalso; omega
set_option maxHeartbeats 200000 in
theorem ct_askKind_2 {g : px_G} {w : px_W} {Q : px_Q} {ik : Nat} {tr : Int64} {T : px_T} {M : px_N} (hX : w[0]? = some (xobj ik tr)) (hT : SubA w 9 T) (hO : TOK T) (hM : MorA w 15 M) {i c : Nat} (hi : i < tW T) (hc : c + 3 ≤ 6) (hQ : Q (some (.int (nI (tl T i - vwl T i)))) (w.set 0 (xobj ik ((tr + 100) + 1)))) : Ct g yX6_askKind cX6_askKind 5 (some .int) 11 0 0 [.ref 0, .int (nI 2), .int (nI i), .int (nI c)] w Q := by
  refine Ct.of kX6_askKind (by omega) (lo := [some (.ref 0), some (.int (nI 2)), some (.int (nI i)), some (.int (nI c)), none]) rfl (px_cat1 rfl) (Nat.le_of_ble_eq_true rfl) ?_
  obtain ⟨⟨sb1, sb2, sb3⟩, sb4, sb5⟩ := hT.b
  obtain ⟨mB1, mB2, mB3⟩ := hM.b
  refine r_iload_n (pc' := 1) dX6_askKind_0 rfl rfl ?_
  refine r_if_lt (pc' := 4) (P := False) (tgt := 10) dX6_askKind_1 (by decide) rfl (nI_lt0 (n := 2) (by omega)) (fun h1 => ?_) (fun h1 => ?_)
  · skip
    exfalso; exact h1
  · skip
    refine r_iload_n (pc' := 5) dX6_askKind_4 rfl rfl ?_
    refine r_bipush (pc' := 7) (v := nI 6) dX6_askKind_5 rfl rfl ?_
    refine r_icmp_lt (pc' := 10) (P := c < 6) (tgt := 12) dX6_askKind_7 (by decide) rfl (nI_ltI (a := c) (b := 6) (by omega) (by omega)) (fun h7 => ?_) (fun h7 => ?_)
    · skip
      refine r_aload_n (pc' := 13) dX6_askKind_12 rfl rfl ?_
      refine r_dup (pc' := 14) dX6_askKind_13 rfl rfl ?_
      refine r_get (pc' := 17) fX6_215 dX6_askKind_14 rfl hX rfl ?_
      refine r_getT (pc' := 20) dX6_askKind_17 rfl fX6_249 ?_
      refine r_iload_n (pc' := 21) dX6_askKind_20 rfl rfl ?_
      refine r_callS (pc' := 24) (av := [.ref 1000, .int (nI 2)]) (rest := [.long tr, .ref 0]) kX3_at vX3_at lX6_253 dX6_askKind_21 rfl rfl rfl ⟨by decide, by decide, by decide⟩ rfl rfl (Nat.le_of_ble_eq_true rfl) (ct_X3_atT (q := 1000) (by decide) rfl (by decide) (j := 2) (by decide) (v := 100) rfl ?_)
      show Wp g yX6_askKind cX6_askKind 5 (some .int) 11 0 0 (px_MQ g Q 0 0) 0 0 24 [some (.ref 0), some (.int (nI 2)), some (.int (nI i)), some (.int (nI c)), none] [.int ((100 : Int32)), .long tr, .ref 0] w
      refine r_i2l (pc' := 25) (v := 100) dX6_askKind_24 rfl (by decide) ?_
      refine r_ladd (pc' := 26) (v := tr + 100) dX6_askKind_25 rfl (rfl) ?_
      refine r_put (pc' := 29) (ty := .long) (c' := .inr (5, [.ref 1, .ref 9, .ref 15, .ref 18, .ref 51, .int (nI ik), .long (tr + 100)])) fX6_215 dX6_askKind_26 rfl hX (Nat.le_of_ble_eq_true rfl) rfl (by decide +kernel) rfl rfl rfl ?_
      refine r_aload_n (pc' := 30) dX6_askKind_29 rfl rfl ?_
      refine r_getA (pc' := 33) dX6_askKind_30 rfl fX6_259 ?_
      refine r_iload_n (pc' := 34) dX6_askKind_33 rfl rfl ?_
      refine r_callS (pc' := 37) (av := [.ref 1001, .int (nI 2)]) (rest := [.ref 0]) kX3_at vX3_at lX6_253 dX6_askKind_34 rfl rfl rfl ⟨by decide, by decide, by decide⟩ rfl rfl (Nat.le_of_ble_eq_true rfl) (ct_X3_atT (q := 1001) (by decide) rfl (by decide) (j := 2) (by decide) (v := nI 0) rfl ?_)
      show Wp g yX6_askKind cX6_askKind 5 (some .int) 11 0 0 (px_MQ g Q 0 0) 0 0 37 [some (.ref 0), some (.int (nI 2)), some (.int (nI i)), some (.int (nI c)), none] [.int (nI 0), .ref 0] (w.set 0 (.inr (5, [.ref 1, .ref 9, .ref 15, .ref 18, .ref 51, .int (nI ik), .long (tr + 100)])))
      refine r_iload_n (pc' := 38) dX6_askKind_37 rfl rfl ?_
      refine r_iload_n (pc' := 39) dX6_askKind_38 rfl rfl ?_
      refine r_iconst (pc' := 40) (v := nI 1) dX6_askKind_39 rfl rfl ?_
      refine r_iadd (pc' := 41) (v := nI (c + 1)) dX6_askKind_40 rfl (nI_add c 1) ?_
      refine r_callV (pc' := 44) (av := [.int (nI 0), .int (nI i), .int (nI (c + 1))]) (rest := []) kX6_askKind vX6_askKind lX6_199 dX6_askKind_41 rfl (gs_eq hX) rfl rfl rfl ⟨by decide, by decide, by decide⟩ rfl rfl (Nat.le_of_ble_eq_true rfl) (ct_askKind_0 (gs_eq hX) ((hT.fr (a := 0) (b := 1) (Frm.set (by omega) (by omega)) (by omega))) hO ((hM.fr (a := 0) (b := 1) (Frm.set (by omega) (by omega)) (by omega))) (i := i) (c := c + 1) hi (by omega) ?_)
      have hT2 : SubA (w.set 0 (xobj ik ((tr + 100) + 1))) 9 T := hT.fr (a := 0) (b := 1) (Frm.set (by omega) (by omega)) (by omega)
      have hM2 : MorA (w.set 0 (xobj ik ((tr + 100) + 1))) 15 M := hM.fr (a := 0) (b := 1) (Frm.set (by omega) (by omega)) (by omega)
      rw [gs_set]
      show Wp g yX6_askKind cX6_askKind 5 (some .int) 11 0 0 (px_MQ g Q 0 0) 0 0 44 [some (.ref 0), some (.int (nI 2)), some (.int (nI i)), some (.int (nI c)), none] [.int (nI (tl T i))] (w.set 0 (xobj ik ((tr + 100) + 1)))
      refine r_istore (pc' := 46) (lo' := [some (.ref 0), some (.int (nI 2)), some (.int (nI i)), some (.int (nI c)), some (.int (nI (tl T i)))]) dX6_askKind_44 rfl (by decide) rfl ?_
      refine r_iload_n (pc' := 47) dX6_askKind_46 rfl rfl ?_
      refine r_tableIn (off := 58) (tgt := 105) dX6_askKind_47 (by decide) (by decide) (by decide) (by decide) ?_
      refine r_iload (pc' := 107) dX6_askKind_105 rfl rfl ?_
      refine r_aload_n (pc' := 108) dX6_askKind_107 rfl rfl ?_
      refine r_get (pc' := 111) fX6_19 dX6_askKind_108 rfl (gs_eq hX) rfl ?_
      refine r_iload_n (pc' := 112) dX6_askKind_111 rfl rfl ?_
      refine r_callV (pc' := 115) (av := [.int (nI i)]) (rest := [.int (nI (tl T i))]) kX5_vowelsOf vX5_vowelsOf lX6_262 dX6_askKind_112 rfl hT2.o rfl rfl rfl ⟨by decide, by decide, by decide⟩ rfl rfl (Nat.le_of_ble_eq_true rfl) (ct_X5_vowelsOf hT2 hO (i := i) (by omega) ?_)
      show Wp g yX6_askKind cX6_askKind 5 (some .int) 11 0 0 (px_MQ g Q 0 0) 0 0 115 [some (.ref 0), some (.int (nI 2)), some (.int (nI i)), some (.int (nI c)), some (.int (nI (tl T i)))] [.int (nI (vwl T i)), .int (nI (tl T i))] (w.set 0 (xobj ik ((tr + 100) + 1)))
      have e112 := vwl_le hT2.b (i := i) (by omega)
      refine r_isub (pc' := 116) (v := nI (tl T i - (vwl T i))) dX6_askKind_115 rfl (pk_sub (a := tl T i) (b := vwl T i) (by omega)) ?_
      refine r_ireturn dX6_askKind_116 rfl ?_
      exact hQ
    · skip
      exfalso; omega
set_option maxHeartbeats 200000 in
theorem ct_askKind_5 {g : px_G} {w : px_W} {Q : px_Q} {ik : Nat} {tr : Int64} {T : px_T} {M : px_N} (hX : w[0]? = some (xobj ik tr)) (hT : SubA w 9 T) (hO : TOK T) (hM : MorA w 15 M) {i c : Nat} (hi : i < tW T) (hc : c + 3 ≤ 6) (hQ : Q (some (.int (nI (tl T i + nh M)))) (w.set 0 (xobj ik ((tr + 100000) + 1)))) : Ct g yX6_askKind cX6_askKind 5 (some .int) 11 0 0 [.ref 0, .int (nI 5), .int (nI i), .int (nI c)] w Q := by
  refine Ct.of kX6_askKind (by omega) (lo := [some (.ref 0), some (.int (nI 5)), some (.int (nI i)), some (.int (nI c)), none]) rfl (px_cat1 rfl) (Nat.le_of_ble_eq_true rfl) ?_
  obtain ⟨⟨sb1, sb2, sb3⟩, sb4, sb5⟩ := hT.b
  obtain ⟨mB1, mB2, mB3⟩ := hM.b
  refine r_iload_n (pc' := 1) dX6_askKind_0 rfl rfl ?_
  refine r_if_lt (pc' := 4) (P := False) (tgt := 10) dX6_askKind_1 (by decide) rfl (nI_lt0 (n := 5) (by omega)) (fun h1 => ?_) (fun h1 => ?_)
  · skip
    exfalso; exact h1
  · skip
    refine r_iload_n (pc' := 5) dX6_askKind_4 rfl rfl ?_
    refine r_bipush (pc' := 7) (v := nI 6) dX6_askKind_5 rfl rfl ?_
    refine r_icmp_lt (pc' := 10) (P := c < 6) (tgt := 12) dX6_askKind_7 (by decide) rfl (nI_ltI (a := c) (b := 6) (by omega) (by omega)) (fun h7 => ?_) (fun h7 => ?_)
    · skip
      refine r_aload_n (pc' := 13) dX6_askKind_12 rfl rfl ?_
      refine r_dup (pc' := 14) dX6_askKind_13 rfl rfl ?_
      refine r_get (pc' := 17) fX6_215 dX6_askKind_14 rfl hX rfl ?_
      refine r_getT (pc' := 20) dX6_askKind_17 rfl fX6_249 ?_
      refine r_iload_n (pc' := 21) dX6_askKind_20 rfl rfl ?_
      refine r_callS (pc' := 24) (av := [.ref 1000, .int (nI 5)]) (rest := [.long tr, .ref 0]) kX3_at vX3_at lX6_253 dX6_askKind_21 rfl rfl rfl ⟨by decide, by decide, by decide⟩ rfl rfl (Nat.le_of_ble_eq_true rfl) (ct_X3_atT (q := 1000) (by decide) rfl (by decide) (j := 5) (by decide) (v := 100000) rfl ?_)
      show Wp g yX6_askKind cX6_askKind 5 (some .int) 11 0 0 (px_MQ g Q 0 0) 0 0 24 [some (.ref 0), some (.int (nI 5)), some (.int (nI i)), some (.int (nI c)), none] [.int ((100000 : Int32)), .long tr, .ref 0] w
      refine r_i2l (pc' := 25) (v := 100000) dX6_askKind_24 rfl (by decide) ?_
      refine r_ladd (pc' := 26) (v := tr + 100000) dX6_askKind_25 rfl (rfl) ?_
      refine r_put (pc' := 29) (ty := .long) (c' := .inr (5, [.ref 1, .ref 9, .ref 15, .ref 18, .ref 51, .int (nI ik), .long (tr + 100000)])) fX6_215 dX6_askKind_26 rfl hX (Nat.le_of_ble_eq_true rfl) rfl (by decide +kernel) rfl rfl rfl ?_
      refine r_aload_n (pc' := 30) dX6_askKind_29 rfl rfl ?_
      refine r_getA (pc' := 33) dX6_askKind_30 rfl fX6_259 ?_
      refine r_iload_n (pc' := 34) dX6_askKind_33 rfl rfl ?_
      refine r_callS (pc' := 37) (av := [.ref 1001, .int (nI 5)]) (rest := [.ref 0]) kX3_at vX3_at lX6_253 dX6_askKind_34 rfl rfl rfl ⟨by decide, by decide, by decide⟩ rfl rfl (Nat.le_of_ble_eq_true rfl) (ct_X3_atT (q := 1001) (by decide) rfl (by decide) (j := 5) (by decide) (v := nI 0) rfl ?_)
      show Wp g yX6_askKind cX6_askKind 5 (some .int) 11 0 0 (px_MQ g Q 0 0) 0 0 37 [some (.ref 0), some (.int (nI 5)), some (.int (nI i)), some (.int (nI c)), none] [.int (nI 0), .ref 0] (w.set 0 (.inr (5, [.ref 1, .ref 9, .ref 15, .ref 18, .ref 51, .int (nI ik), .long (tr + 100000)])))
      refine r_iload_n (pc' := 38) dX6_askKind_37 rfl rfl ?_
      refine r_iload_n (pc' := 39) dX6_askKind_38 rfl rfl ?_
      refine r_iconst (pc' := 40) (v := nI 1) dX6_askKind_39 rfl rfl ?_
      refine r_iadd (pc' := 41) (v := nI (c + 1)) dX6_askKind_40 rfl (nI_add c 1) ?_
      refine r_callV (pc' := 44) (av := [.int (nI 0), .int (nI i), .int (nI (c + 1))]) (rest := []) kX6_askKind vX6_askKind lX6_199 dX6_askKind_41 rfl (gs_eq hX) rfl rfl rfl ⟨by decide, by decide, by decide⟩ rfl rfl (Nat.le_of_ble_eq_true rfl) (ct_askKind_0 (gs_eq hX) ((hT.fr (a := 0) (b := 1) (Frm.set (by omega) (by omega)) (by omega))) hO ((hM.fr (a := 0) (b := 1) (Frm.set (by omega) (by omega)) (by omega))) (i := i) (c := c + 1) hi (by omega) ?_)
      have hT2 : SubA (w.set 0 (xobj ik ((tr + 100000) + 1))) 9 T := hT.fr (a := 0) (b := 1) (Frm.set (by omega) (by omega)) (by omega)
      have hM2 : MorA (w.set 0 (xobj ik ((tr + 100000) + 1))) 15 M := hM.fr (a := 0) (b := 1) (Frm.set (by omega) (by omega)) (by omega)
      rw [gs_set]
      show Wp g yX6_askKind cX6_askKind 5 (some .int) 11 0 0 (px_MQ g Q 0 0) 0 0 44 [some (.ref 0), some (.int (nI 5)), some (.int (nI i)), some (.int (nI c)), none] [.int (nI (tl T i))] (w.set 0 (xobj ik ((tr + 100000) + 1)))
      refine r_istore (pc' := 46) (lo' := [some (.ref 0), some (.int (nI 5)), some (.int (nI i)), some (.int (nI c)), some (.int (nI (tl T i)))]) dX6_askKind_44 rfl (by decide) rfl ?_
      refine r_iload_n (pc' := 47) dX6_askKind_46 rfl rfl ?_
      refine r_tableIn (off := 80) (tgt := 127) dX6_askKind_47 (by decide) (by decide) (by decide) (by decide) ?_
      refine r_iload (pc' := 129) dX6_askKind_127 rfl rfl ?_
      refine r_aload_n (pc' := 130) dX6_askKind_129 rfl rfl ?_
      refine r_get (pc' := 133) fX6_26 dX6_askKind_130 rfl (gs_eq hX) rfl ?_
      refine r_getN (pc' := 136) fX6_159 dX6_askKind_133 rfl hM2.o rfl ?_
      refine r_iadd (pc' := 137) (v := nI (tl T i + (nh M))) dX6_askKind_136 rfl (nI_add (tl T i) (nh M)) ?_
      refine r_ireturn dX6_askKind_137 rfl ?_
      exact hQ
    · skip
      exfalso; omega
set_option maxHeartbeats 200000 in
theorem ct_askKind_3 {g : px_G} {w : px_W} {Q : px_Q} {ik : Nat} {tr : Int64} {T : px_T} {M : px_N} (hX : w[0]? = some (xobj ik tr)) (hT : SubA w 9 T) (hO : TOK T) (hM : MorA w 15 M) {i c : Nat} (hi : i < tW T) (hc : c + 4 ≤ 6) (hQ : Q (some (.int (nI (2 * (tl T i + ts T i))))) (w.set 0 (xobj ik (((tr + 1000) + 10) + 1)))) : Ct g yX6_askKind cX6_askKind 5 (some .int) 12 0 0 [.ref 0, .int (nI 3), .int (nI i), .int (nI c)] w Q := by
  refine Ct.of kX6_askKind (by omega) (lo := [some (.ref 0), some (.int (nI 3)), some (.int (nI i)), some (.int (nI c)), none]) rfl (px_cat1 rfl) (Nat.le_of_ble_eq_true rfl) ?_
  obtain ⟨⟨sb1, sb2, sb3⟩, sb4, sb5⟩ := hT.b
  obtain ⟨mB1, mB2, mB3⟩ := hM.b
  refine r_iload_n (pc' := 1) dX6_askKind_0 rfl rfl ?_
  refine r_if_lt (pc' := 4) (P := False) (tgt := 10) dX6_askKind_1 (by decide) rfl (nI_lt0 (n := 3) (by omega)) (fun h1 => ?_) (fun h1 => ?_)
  · skip
    exfalso; exact h1
  · skip
    refine r_iload_n (pc' := 5) dX6_askKind_4 rfl rfl ?_
    refine r_bipush (pc' := 7) (v := nI 6) dX6_askKind_5 rfl rfl ?_
    refine r_icmp_lt (pc' := 10) (P := c < 6) (tgt := 12) dX6_askKind_7 (by decide) rfl (nI_ltI (a := c) (b := 6) (by omega) (by omega)) (fun h7 => ?_) (fun h7 => ?_)
    · skip
      refine r_aload_n (pc' := 13) dX6_askKind_12 rfl rfl ?_
      refine r_dup (pc' := 14) dX6_askKind_13 rfl rfl ?_
      refine r_get (pc' := 17) fX6_215 dX6_askKind_14 rfl hX rfl ?_
      refine r_getT (pc' := 20) dX6_askKind_17 rfl fX6_249 ?_
      refine r_iload_n (pc' := 21) dX6_askKind_20 rfl rfl ?_
      refine r_callS (pc' := 24) (av := [.ref 1000, .int (nI 3)]) (rest := [.long tr, .ref 0]) kX3_at vX3_at lX6_253 dX6_askKind_21 rfl rfl rfl ⟨by decide, by decide, by decide⟩ rfl rfl (Nat.le_of_ble_eq_true rfl) (ct_X3_atT (q := 1000) (by decide) rfl (by decide) (j := 3) (by decide) (v := 1000) rfl ?_)
      show Wp g yX6_askKind cX6_askKind 5 (some .int) 12 0 0 (px_MQ g Q 0 0) 0 0 24 [some (.ref 0), some (.int (nI 3)), some (.int (nI i)), some (.int (nI c)), none] [.int ((1000 : Int32)), .long tr, .ref 0] w
      refine r_i2l (pc' := 25) (v := 1000) dX6_askKind_24 rfl (by decide) ?_
      refine r_ladd (pc' := 26) (v := tr + 1000) dX6_askKind_25 rfl (rfl) ?_
      refine r_put (pc' := 29) (ty := .long) (c' := .inr (5, [.ref 1, .ref 9, .ref 15, .ref 18, .ref 51, .int (nI ik), .long (tr + 1000)])) fX6_215 dX6_askKind_26 rfl hX (Nat.le_of_ble_eq_true rfl) rfl (by decide +kernel) rfl rfl rfl ?_
      refine r_aload_n (pc' := 30) dX6_askKind_29 rfl rfl ?_
      refine r_getA (pc' := 33) dX6_askKind_30 rfl fX6_259 ?_
      refine r_iload_n (pc' := 34) dX6_askKind_33 rfl rfl ?_
      refine r_callS (pc' := 37) (av := [.ref 1001, .int (nI 3)]) (rest := [.ref 0]) kX3_at vX3_at lX6_253 dX6_askKind_34 rfl rfl rfl ⟨by decide, by decide, by decide⟩ rfl rfl (Nat.le_of_ble_eq_true rfl) (ct_X3_atT (q := 1001) (by decide) rfl (by decide) (j := 3) (by decide) (v := nI 1) rfl ?_)
      show Wp g yX6_askKind cX6_askKind 5 (some .int) 12 0 0 (px_MQ g Q 0 0) 0 0 37 [some (.ref 0), some (.int (nI 3)), some (.int (nI i)), some (.int (nI c)), none] [.int (nI 1), .ref 0] (w.set 0 (.inr (5, [.ref 1, .ref 9, .ref 15, .ref 18, .ref 51, .int (nI ik), .long (tr + 1000)])))
      refine r_iload_n (pc' := 38) dX6_askKind_37 rfl rfl ?_
      refine r_iload_n (pc' := 39) dX6_askKind_38 rfl rfl ?_
      refine r_iconst (pc' := 40) (v := nI 1) dX6_askKind_39 rfl rfl ?_
      refine r_iadd (pc' := 41) (v := nI (c + 1)) dX6_askKind_40 rfl (nI_add c 1) ?_
      refine r_callV (pc' := 44) (av := [.int (nI 1), .int (nI i), .int (nI (c + 1))]) (rest := []) kX6_askKind vX6_askKind lX6_199 dX6_askKind_41 rfl (gs_eq hX) rfl rfl rfl ⟨by decide, by decide, by decide⟩ rfl rfl (Nat.le_of_ble_eq_true rfl) (ct_askKind_1 (gs_eq hX) ((hT.fr (a := 0) (b := 1) (Frm.set (by omega) (by omega)) (by omega))) hO ((hM.fr (a := 0) (b := 1) (Frm.set (by omega) (by omega)) (by omega))) (i := i) (c := c + 1) hi (by omega) ?_)
      have hT2 : SubA (w.set 0 (xobj ik (((tr + 1000) + 10) + 1))) 9 T := hT.fr (a := 0) (b := 1) (Frm.set (by omega) (by omega)) (by omega)
      have hM2 : MorA (w.set 0 (xobj ik (((tr + 1000) + 10) + 1))) 15 M := hM.fr (a := 0) (b := 1) (Frm.set (by omega) (by omega)) (by omega)
      rw [gs_set]
      show Wp g yX6_askKind cX6_askKind 5 (some .int) 12 0 0 (px_MQ g Q 0 0) 0 0 44 [some (.ref 0), some (.int (nI 3)), some (.int (nI i)), some (.int (nI c)), none] [.int (nI (tl T i + ts T i))] (w.set 0 (xobj ik (((tr + 1000) + 10) + 1)))
      refine r_istore (pc' := 46) (lo' := [some (.ref 0), some (.int (nI 3)), some (.int (nI i)), some (.int (nI c)), some (.int (nI (tl T i + ts T i)))]) dX6_askKind_44 rfl (by decide) rfl ?_
      refine r_iload_n (pc' := 47) dX6_askKind_46 rfl rfl ?_
      refine r_tableIn (off := 70) (tgt := 117) dX6_askKind_47 (by decide) (by decide) (by decide) (by decide) ?_
      refine r_iconst (pc' := 118) (v := nI 2) dX6_askKind_117 rfl rfl ?_
      refine r_iload (pc' := 120) dX6_askKind_118 rfl rfl ?_
      refine r_imul (pc' := 121) (v := nI (2 * (tl T i + ts T i))) dX6_askKind_120 rfl (pk_mul 2 (tl T i + ts T i)) ?_
      refine r_ireturn dX6_askKind_121 rfl ?_
      exact hQ
    · skip
      exfalso; omega
set_option maxHeartbeats 200000 in
theorem ct_askKind_4 {g : px_G} {w : px_W} {Q : px_Q} {ik : Nat} {tr : Int64} {T : px_T} {M : px_N} (hX : w[0]? = some (xobj ik tr)) (hT : SubA w 9 T) (hO : TOK T) (hM : MorA w 15 M) {i c : Nat} (hi : i < tW T) (hc : c + 4 ≤ 6) (hQ : Q (some (.int (nI (tl T i - vwl T i + i)))) (w.set 0 (xobj ik (((tr + 10000) + 100) + 1)))) : Ct g yX6_askKind cX6_askKind 5 (some .int) 12 0 0 [.ref 0, .int (nI 4), .int (nI i), .int (nI c)] w Q := by
  refine Ct.of kX6_askKind (by omega) (lo := [some (.ref 0), some (.int (nI 4)), some (.int (nI i)), some (.int (nI c)), none]) rfl (px_cat1 rfl) (Nat.le_of_ble_eq_true rfl) ?_
  obtain ⟨⟨sb1, sb2, sb3⟩, sb4, sb5⟩ := hT.b
  obtain ⟨mB1, mB2, mB3⟩ := hM.b
  refine r_iload_n (pc' := 1) dX6_askKind_0 rfl rfl ?_
  refine r_if_lt (pc' := 4) (P := False) (tgt := 10) dX6_askKind_1 (by decide) rfl (nI_lt0 (n := 4) (by omega)) (fun h1 => ?_) (fun h1 => ?_)
  · skip
    exfalso; exact h1
  · skip
    refine r_iload_n (pc' := 5) dX6_askKind_4 rfl rfl ?_
    refine r_bipush (pc' := 7) (v := nI 6) dX6_askKind_5 rfl rfl ?_
    refine r_icmp_lt (pc' := 10) (P := c < 6) (tgt := 12) dX6_askKind_7 (by decide) rfl (nI_ltI (a := c) (b := 6) (by omega) (by omega)) (fun h7 => ?_) (fun h7 => ?_)
    · skip
      refine r_aload_n (pc' := 13) dX6_askKind_12 rfl rfl ?_
      refine r_dup (pc' := 14) dX6_askKind_13 rfl rfl ?_
      refine r_get (pc' := 17) fX6_215 dX6_askKind_14 rfl hX rfl ?_
      refine r_getT (pc' := 20) dX6_askKind_17 rfl fX6_249 ?_
      refine r_iload_n (pc' := 21) dX6_askKind_20 rfl rfl ?_
      refine r_callS (pc' := 24) (av := [.ref 1000, .int (nI 4)]) (rest := [.long tr, .ref 0]) kX3_at vX3_at lX6_253 dX6_askKind_21 rfl rfl rfl ⟨by decide, by decide, by decide⟩ rfl rfl (Nat.le_of_ble_eq_true rfl) (ct_X3_atT (q := 1000) (by decide) rfl (by decide) (j := 4) (by decide) (v := 10000) rfl ?_)
      show Wp g yX6_askKind cX6_askKind 5 (some .int) 12 0 0 (px_MQ g Q 0 0) 0 0 24 [some (.ref 0), some (.int (nI 4)), some (.int (nI i)), some (.int (nI c)), none] [.int ((10000 : Int32)), .long tr, .ref 0] w
      refine r_i2l (pc' := 25) (v := 10000) dX6_askKind_24 rfl (by decide) ?_
      refine r_ladd (pc' := 26) (v := tr + 10000) dX6_askKind_25 rfl (rfl) ?_
      refine r_put (pc' := 29) (ty := .long) (c' := .inr (5, [.ref 1, .ref 9, .ref 15, .ref 18, .ref 51, .int (nI ik), .long (tr + 10000)])) fX6_215 dX6_askKind_26 rfl hX (Nat.le_of_ble_eq_true rfl) rfl (by decide +kernel) rfl rfl rfl ?_
      refine r_aload_n (pc' := 30) dX6_askKind_29 rfl rfl ?_
      refine r_getA (pc' := 33) dX6_askKind_30 rfl fX6_259 ?_
      refine r_iload_n (pc' := 34) dX6_askKind_33 rfl rfl ?_
      refine r_callS (pc' := 37) (av := [.ref 1001, .int (nI 4)]) (rest := [.ref 0]) kX3_at vX3_at lX6_253 dX6_askKind_34 rfl rfl rfl ⟨by decide, by decide, by decide⟩ rfl rfl (Nat.le_of_ble_eq_true rfl) (ct_X3_atT (q := 1001) (by decide) rfl (by decide) (j := 4) (by decide) (v := nI 2) rfl ?_)
      show Wp g yX6_askKind cX6_askKind 5 (some .int) 12 0 0 (px_MQ g Q 0 0) 0 0 37 [some (.ref 0), some (.int (nI 4)), some (.int (nI i)), some (.int (nI c)), none] [.int (nI 2), .ref 0] (w.set 0 (.inr (5, [.ref 1, .ref 9, .ref 15, .ref 18, .ref 51, .int (nI ik), .long (tr + 10000)])))
      refine r_iload_n (pc' := 38) dX6_askKind_37 rfl rfl ?_
      refine r_iload_n (pc' := 39) dX6_askKind_38 rfl rfl ?_
      refine r_iconst (pc' := 40) (v := nI 1) dX6_askKind_39 rfl rfl ?_
      refine r_iadd (pc' := 41) (v := nI (c + 1)) dX6_askKind_40 rfl (nI_add c 1) ?_
      refine r_callV (pc' := 44) (av := [.int (nI 2), .int (nI i), .int (nI (c + 1))]) (rest := []) kX6_askKind vX6_askKind lX6_199 dX6_askKind_41 rfl (gs_eq hX) rfl rfl rfl ⟨by decide, by decide, by decide⟩ rfl rfl (Nat.le_of_ble_eq_true rfl) (ct_askKind_2 (gs_eq hX) ((hT.fr (a := 0) (b := 1) (Frm.set (by omega) (by omega)) (by omega))) hO ((hM.fr (a := 0) (b := 1) (Frm.set (by omega) (by omega)) (by omega))) (i := i) (c := c + 1) hi (by omega) ?_)
      have hT2 : SubA (w.set 0 (xobj ik (((tr + 10000) + 100) + 1))) 9 T := hT.fr (a := 0) (b := 1) (Frm.set (by omega) (by omega)) (by omega)
      have hM2 : MorA (w.set 0 (xobj ik (((tr + 10000) + 100) + 1))) 15 M := hM.fr (a := 0) (b := 1) (Frm.set (by omega) (by omega)) (by omega)
      rw [gs_set]
      show Wp g yX6_askKind cX6_askKind 5 (some .int) 12 0 0 (px_MQ g Q 0 0) 0 0 44 [some (.ref 0), some (.int (nI 4)), some (.int (nI i)), some (.int (nI c)), none] [.int (nI (tl T i - vwl T i))] (w.set 0 (xobj ik (((tr + 10000) + 100) + 1)))
      refine r_istore (pc' := 46) (lo' := [some (.ref 0), some (.int (nI 4)), some (.int (nI i)), some (.int (nI c)), some (.int (nI (tl T i - vwl T i)))]) dX6_askKind_44 rfl (by decide) rfl ?_
      refine r_iload_n (pc' := 47) dX6_askKind_46 rfl rfl ?_
      refine r_tableIn (off := 75) (tgt := 122) dX6_askKind_47 (by decide) (by decide) (by decide) (by decide) ?_
      refine r_iload (pc' := 124) dX6_askKind_122 rfl rfl ?_
      refine r_iload_n (pc' := 125) dX6_askKind_124 rfl rfl ?_
      refine r_iadd (pc' := 126) (v := nI (tl T i - vwl T i + i)) dX6_askKind_125 rfl (nI_add (tl T i - vwl T i) i) ?_
      refine r_ireturn dX6_askKind_126 rfl ?_
      exact hQ
    · skip
      exfalso; omega
set_option maxHeartbeats 200000 in
theorem ct_X6_rate {g : px_G} {w : px_W} {Q : px_Q} {ik : Nat} {tr : Int64} {T : px_T} {M : px_N} (hX : w[0]? = some (xobj ik tr)) (hT : SubA w 9 T) (hO : TOK T) (hM : MorA w 15 M) {a b : Int32} (hQ : Q (some (.int (rateR T M a b))) (w.set 0 (xobj ik (rateT T tr a b)))) : Ct g yX6_rate cX6_rate 3 (some .int) 31 0 0 [.ref 0, .int a, .int b] w Q := by
  refine Ct.of kX6_rate (by omega) (lo := [some (.ref 0), some (.int a), some (.int b)]) rfl (px_cat1 rfl) (Nat.le_of_ble_eq_true rfl) ?_
  obtain ⟨⟨sb1, sb2, sb3⟩, sb4, sb5⟩ := hT.b
  obtain ⟨mB1, mB2, mB3⟩ := hM.b
  refine r_iload_n (pc' := 1) dX6_rate_0 rfl rfl ?_
  refine r_if_lt (pc' := 4) (P := a < 0) (tgt := 21) dX6_rate_1 (by decide) rfl (Iff.rfl) (fun h1 => ?_) (fun h1 => ?_)
  · have hb := lt0_hasI (n := 6) h1
    refine r_ldc (pc' := 23) dX6_rate_21 rfl cnX6_198 ?_
    refine r_ireturn dX6_rate_23 rfl ?_
    rw [rateR, rateT] at hQ
    first | rw [hb] at hQ | rw [h18, Bool.and_false] at hQ
    simp only [Bool.false_and, Bool.false_eq_true, if_false] at hQ
    rw [gs_id hX] at hQ
    exact hQ
  · skip
    refine r_iload_n (pc' := 5) dX6_rate_4 rfl rfl ?_
    refine r_bipush (pc' := 7) (v := nI 6) dX6_rate_5 rfl rfl ?_
    refine r_icmp_ge (pc' := 10) (P := (nI 6) ≤ a) (tgt := 21) dX6_rate_7 (by decide) rfl (Iff.rfl) (fun h7 => ?_) (fun h7 => ?_)
    · have hb := ge_hasI (n := 6) (by omega) h7
      refine r_ldc (pc' := 23) dX6_rate_21 rfl cnX6_198 ?_
      refine r_ireturn dX6_rate_23 rfl ?_
      rw [rateR, rateT] at hQ
      first | rw [hb] at hQ | rw [h18, Bool.and_false] at hQ
      simp only [Bool.false_and, Bool.false_eq_true, if_false] at hQ
      rw [gs_id hX] at hQ
      exact hQ
    · have h7' := in_hasI (n := 6) (by omega) h1 h7
      obtain ⟨k, hk, rfl⟩ := hasI_t h7' (by omega)
      refine r_aload_n (pc' := 11) dX6_rate_10 rfl rfl ?_
      refine r_get (pc' := 14) fX6_19 dX6_rate_11 rfl hX rfl ?_
      refine r_iload_n (pc' := 15) dX6_rate_14 rfl rfl ?_
      refine r_callV (pc' := 18) (av := [.int b]) (rest := []) kX5_hasWord vX5_hasWord lX6_73 dX6_rate_15 rfl hT.o rfl rfl rfl ⟨by decide, by decide, by decide⟩ rfl rfl (Nat.le_of_ble_eq_true rfl) (ct_X5_hasWord hT ?_)
      show Wp g yX6_rate cX6_rate 3 (some .int) 31 0 0 (px_MQ g Q 0 0) 0 0 18 [some (.ref 0), some (.int (nI k)), some (.int b)] [.int (bI (hasI b (tW T)))] w
      refine r_if_ne (pc' := 21) (P := (hasI b (tW T)) = false) (tgt := 24) dX6_rate_18 (by decide) rfl (bI_0) (fun h18 => ?_) (fun h18 => ?_)
      · have h18' := (by simpa using h18 : hasI b _ = true)
        obtain ⟨i, hi, rfl⟩ := hasI_t h18' (by omega)
        rcases (show k = 0 ∨ k = 1 ∨ k = 2 ∨ k = 3 ∨ k = 4 ∨ k = 5 by omega) with rfl | rfl | rfl | rfl | rfl | rfl
        · skip
          refine r_aload_n (pc' := 25) dX6_rate_24 rfl rfl ?_
          refine r_iload_n (pc' := 26) dX6_rate_25 rfl rfl ?_
          refine r_iload_n (pc' := 27) dX6_rate_26 rfl rfl ?_
          refine r_iconst (pc' := 28) (v := nI 0) dX6_rate_27 rfl rfl ?_
          refine r_callV (pc' := 31) (av := [.int (nI 0), .int (nI i), .int (nI 0)]) (rest := []) kX6_askKind vX6_askKind lX6_199 dX6_rate_28 rfl hX rfl rfl rfl ⟨by decide, by decide, by decide⟩ rfl rfl (Nat.le_of_ble_eq_true rfl) (ct_askKind_0 hX hT hO hM (i := i) (c := 0) hi (by omega) ?_)
          show Wp g yX6_rate cX6_rate 3 (some .int) 31 0 0 (px_MQ g Q 0 0) 0 0 31 [some (.ref 0), some (.int (nI 0)), some (.int (nI i))] [.int (nI (tl T i))] (w.set 0 (xobj ik (tr + 1)))
          refine r_ireturn dX6_rate_31 rfl ?_
          have ho : (hasI (nI 0) 6 && hasI (nI i) (tW T)) = true := by rw [h18']; rfl
          have e1 : rateR T M (nI 0) (nI i) = nI (tl T i) := by rw [rateR, if_pos ho, nI_cl (show i < 2 ^ 31 by omega)]; rfl
          have e2 : rateT T tr (nI 0) (nI i) = (tr + 1) := by rw [rateT, if_pos ho]; (try simp only [Int64.add_assoc]); rfl
          rw [← e1]
          rw [← e2]
          exact hQ
        · skip
          refine r_aload_n (pc' := 25) dX6_rate_24 rfl rfl ?_
          refine r_iload_n (pc' := 26) dX6_rate_25 rfl rfl ?_
          refine r_iload_n (pc' := 27) dX6_rate_26 rfl rfl ?_
          refine r_iconst (pc' := 28) (v := nI 0) dX6_rate_27 rfl rfl ?_
          refine r_callV (pc' := 31) (av := [.int (nI 1), .int (nI i), .int (nI 0)]) (rest := []) kX6_askKind vX6_askKind lX6_199 dX6_rate_28 rfl hX rfl rfl rfl ⟨by decide, by decide, by decide⟩ rfl rfl (Nat.le_of_ble_eq_true rfl) (ct_askKind_1 hX hT hO hM (i := i) (c := 0) hi (by omega) ?_)
          show Wp g yX6_rate cX6_rate 3 (some .int) 31 0 0 (px_MQ g Q 0 0) 0 0 31 [some (.ref 0), some (.int (nI 1)), some (.int (nI i))] [.int (nI (tl T i + ts T i))] (w.set 0 (xobj ik ((tr + 10) + 1)))
          refine r_ireturn dX6_rate_31 rfl ?_
          have ho : (hasI (nI 1) 6 && hasI (nI i) (tW T)) = true := by rw [h18']; rfl
          have e1 : rateR T M (nI 1) (nI i) = nI (tl T i + ts T i) := by rw [rateR, if_pos ho, nI_cl (show i < 2 ^ 31 by omega)]; rfl
          have e2 : rateT T tr (nI 1) (nI i) = ((tr + 10) + 1) := by rw [rateT, if_pos ho]; (try simp only [Int64.add_assoc]); rfl
          rw [← e1]
          rw [← e2]
          exact hQ
        · skip
          refine r_aload_n (pc' := 25) dX6_rate_24 rfl rfl ?_
          refine r_iload_n (pc' := 26) dX6_rate_25 rfl rfl ?_
          refine r_iload_n (pc' := 27) dX6_rate_26 rfl rfl ?_
          refine r_iconst (pc' := 28) (v := nI 0) dX6_rate_27 rfl rfl ?_
          refine r_callV (pc' := 31) (av := [.int (nI 2), .int (nI i), .int (nI 0)]) (rest := []) kX6_askKind vX6_askKind lX6_199 dX6_rate_28 rfl hX rfl rfl rfl ⟨by decide, by decide, by decide⟩ rfl rfl (Nat.le_of_ble_eq_true rfl) (ct_askKind_2 hX hT hO hM (i := i) (c := 0) hi (by omega) ?_)
          show Wp g yX6_rate cX6_rate 3 (some .int) 31 0 0 (px_MQ g Q 0 0) 0 0 31 [some (.ref 0), some (.int (nI 2)), some (.int (nI i))] [.int (nI (tl T i - vwl T i))] (w.set 0 (xobj ik ((tr + 100) + 1)))
          refine r_ireturn dX6_rate_31 rfl ?_
          have ho : (hasI (nI 2) 6 && hasI (nI i) (tW T)) = true := by rw [h18']; rfl
          have e1 : rateR T M (nI 2) (nI i) = nI (tl T i - vwl T i) := by rw [rateR, if_pos ho, nI_cl (show i < 2 ^ 31 by omega)]; rfl
          have e2 : rateT T tr (nI 2) (nI i) = ((tr + 100) + 1) := by rw [rateT, if_pos ho]; (try simp only [Int64.add_assoc]); rfl
          rw [← e1]
          rw [← e2]
          exact hQ
        · skip
          refine r_aload_n (pc' := 25) dX6_rate_24 rfl rfl ?_
          refine r_iload_n (pc' := 26) dX6_rate_25 rfl rfl ?_
          refine r_iload_n (pc' := 27) dX6_rate_26 rfl rfl ?_
          refine r_iconst (pc' := 28) (v := nI 0) dX6_rate_27 rfl rfl ?_
          refine r_callV (pc' := 31) (av := [.int (nI 3), .int (nI i), .int (nI 0)]) (rest := []) kX6_askKind vX6_askKind lX6_199 dX6_rate_28 rfl hX rfl rfl rfl ⟨by decide, by decide, by decide⟩ rfl rfl (Nat.le_of_ble_eq_true rfl) (ct_askKind_3 hX hT hO hM (i := i) (c := 0) hi (by omega) ?_)
          show Wp g yX6_rate cX6_rate 3 (some .int) 31 0 0 (px_MQ g Q 0 0) 0 0 31 [some (.ref 0), some (.int (nI 3)), some (.int (nI i))] [.int (nI (2 * (tl T i + ts T i)))] (w.set 0 (xobj ik (((tr + 1000) + 10) + 1)))
          refine r_ireturn dX6_rate_31 rfl ?_
          have ho : (hasI (nI 3) 6 && hasI (nI i) (tW T)) = true := by rw [h18']; rfl
          have e1 : rateR T M (nI 3) (nI i) = nI (2 * (tl T i + ts T i)) := by rw [rateR, if_pos ho, nI_cl (show i < 2 ^ 31 by omega)]; rfl
          have e2 : rateT T tr (nI 3) (nI i) = (((tr + 1000) + 10) + 1) := by rw [rateT, if_pos ho]; (try simp only [Int64.add_assoc]); rfl
          rw [← e1]
          rw [← e2]
          exact hQ
        · skip
          refine r_aload_n (pc' := 25) dX6_rate_24 rfl rfl ?_
          refine r_iload_n (pc' := 26) dX6_rate_25 rfl rfl ?_
          refine r_iload_n (pc' := 27) dX6_rate_26 rfl rfl ?_
          refine r_iconst (pc' := 28) (v := nI 0) dX6_rate_27 rfl rfl ?_
          refine r_callV (pc' := 31) (av := [.int (nI 4), .int (nI i), .int (nI 0)]) (rest := []) kX6_askKind vX6_askKind lX6_199 dX6_rate_28 rfl hX rfl rfl rfl ⟨by decide, by decide, by decide⟩ rfl rfl (Nat.le_of_ble_eq_true rfl) (ct_askKind_4 hX hT hO hM (i := i) (c := 0) hi (by omega) ?_)
          show Wp g yX6_rate cX6_rate 3 (some .int) 31 0 0 (px_MQ g Q 0 0) 0 0 31 [some (.ref 0), some (.int (nI 4)), some (.int (nI i))] [.int (nI (tl T i - vwl T i + i))] (w.set 0 (xobj ik (((tr + 10000) + 100) + 1)))
          refine r_ireturn dX6_rate_31 rfl ?_
          have ho : (hasI (nI 4) 6 && hasI (nI i) (tW T)) = true := by rw [h18']; rfl
          have e1 : rateR T M (nI 4) (nI i) = nI (tl T i - vwl T i + i) := by rw [rateR, if_pos ho, nI_cl (show i < 2 ^ 31 by omega)]; rfl
          have e2 : rateT T tr (nI 4) (nI i) = (((tr + 10000) + 100) + 1) := by rw [rateT, if_pos ho]; (try simp only [Int64.add_assoc]); rfl
          rw [← e1]
          rw [← e2]
          exact hQ
        · skip
          refine r_aload_n (pc' := 25) dX6_rate_24 rfl rfl ?_
          refine r_iload_n (pc' := 26) dX6_rate_25 rfl rfl ?_
          refine r_iload_n (pc' := 27) dX6_rate_26 rfl rfl ?_
          refine r_iconst (pc' := 28) (v := nI 0) dX6_rate_27 rfl rfl ?_
          refine r_callV (pc' := 31) (av := [.int (nI 5), .int (nI i), .int (nI 0)]) (rest := []) kX6_askKind vX6_askKind lX6_199 dX6_rate_28 rfl hX rfl rfl rfl ⟨by decide, by decide, by decide⟩ rfl rfl (Nat.le_of_ble_eq_true rfl) (ct_askKind_5 hX hT hO hM (i := i) (c := 0) hi (by omega) ?_)
          show Wp g yX6_rate cX6_rate 3 (some .int) 31 0 0 (px_MQ g Q 0 0) 0 0 31 [some (.ref 0), some (.int (nI 5)), some (.int (nI i))] [.int (nI (tl T i + nh M))] (w.set 0 (xobj ik ((tr + 100000) + 1)))
          refine r_ireturn dX6_rate_31 rfl ?_
          have ho : (hasI (nI 5) 6 && hasI (nI i) (tW T)) = true := by rw [h18']; rfl
          have e1 : rateR T M (nI 5) (nI i) = nI (tl T i + nh M) := by rw [rateR, if_pos ho, nI_cl (show i < 2 ^ 31 by omega)]; rfl
          have e2 : rateT T tr (nI 5) (nI i) = ((tr + 100000) + 1) := by rw [rateT, if_pos ho]; (try simp only [Int64.add_assoc]); rfl
          rw [← e1]
          rw [← e2]
          exact hQ
        
      · skip
        refine r_ldc (pc' := 23) dX6_rate_21 rfl cnX6_198 ?_
        refine r_ireturn dX6_rate_23 rfl ?_
        rw [rateR, rateT] at hQ
        first | rw [hb] at hQ | rw [h18, Bool.and_false] at hQ
        simp only [Bool.false_and, Bool.false_eq_true, if_false] at hQ
        rw [gs_id hX] at hQ
        exact hQ
