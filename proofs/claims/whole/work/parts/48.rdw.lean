set_option maxHeartbeats 200000 in
theorem ct_X2_readWord {g : px_G} {w : px_W} {Q : px_Q} {T : px_T} {n p : Nat} {tx : Nat → Nat} {fs : Nat → Int32} (r1 : w[1]? = some (rdp tx n p)) (r2 : w[2]? = some (.inl (0, 150, .inl fs))) (rt : ∀ j, j < n → fs j = nI (tx j) ∧ tx j < 256) (hn : n ≤ 150) (hp : p ≤ n) (hT : SubA w 3 T) (hO : TOK T) (hW : tW T < 6) (hok : ∀ w' T' p', itW tx n T p = .inr (T', p') → w'[1]? = some (rdp tx n p') → w'[2]? = some (.inl (0, 150, .inl fs)) → SubA w' 3 T' → Frm w w' 1 9 → Q (some (.int (bI true))) w') (hno : ∀ w' T' e c f v, itW tx n T p = .inl f → w'[1]? = some (rdc n e c f v) → w'[2]? = some (.inl (0, 150, .inl fs)) → SubA w' 3 T' → Frm w w' 1 9 → Q (some (.int (bI false))) w') : Ct g yX2_readWord cX2_readWord 4 (some .boolean) 5 0 0 [.ref 1] w Q := by
  refine Ct.of kX2_readWord (by omega) (lo := [some (.ref 1), none, none, none]) rfl (px_cat1 rfl) (Nat.le_of_ble_eq_true rfl) ?_
  have b1 := tS_le (tx := tx) hp
  have b2 := tE_ge tx n p
  have b3 := tE_le (tx := tx) hp
  have b4 := tV_le tx n p
  have b5 := tC_b tx n p
  obtain ⟨⟨sb1, sb2, sb3⟩, sb4, sb5⟩ := hT.b
  refine r_aload_n (pc' := 1) dX2_readWord_0 rfl rfl ?_
  refine r_callV (pc' := 4) (av := []) (rest := []) kX2_next vX2_next lX2_38 dX2_readWord_1 rfl r1 rfl rfl rfl ⟨by decide, by decide, by decide⟩ rfl rfl (Nat.le_of_ble_eq_true rfl) (ct_X2_next r1 r2 rt hn (tE_le hp) ?_)
  show Wp g yX2_readWord cX2_readWord 4 (some .boolean) 5 0 0 (px_MQ g Q 0 0) 0 0 4 [some (.ref 1), none, none, none] [] (w.set 1 (.inr (2, [.ref 2, .int (nI n), .ref 3, .int (nI (tE tx n (tE tx n p))), .int (nI (tC tx n (tE tx n p))), .int (nI (tS tx n (tE tx n p))), .int (nI (tV tx n (tE tx n p)))])))
  have c1 := tV_le tx n (tE tx n p)
  have d1 := tC_b tx n (tE tx n p)
  have i1 : tE tx n (tE tx n p) ≤ n := tE_le (tE_le hp)
  have j1 := tE_ge tx n (tE tx n p)
  have k1 : tS tx n (tE tx n p) ≤ n := tS_le (tE_le hp)
  refine r_aload_n (pc' := 5) dX2_readWord_4 rfl rfl ?_
  refine r_iconst (pc' := 6) (v := nI 1) dX2_readWord_5 rfl rfl ?_
  refine r_bipush (pc' := 8) (v := nI 9) dX2_readWord_6 rfl rfl ?_
  cases ho8 : okN tx n (tE tx n p) 1 10 with
  | true =>
    refine r_callV (pc' := 11) (av := [.int (nI 1), .int (nI 9)]) (rest := []) kX2_takeNumber vX2_takeNumber lX2_77 dX2_readWord_8 rfl (gs_eq r1) rfl rfl rfl ⟨by decide, by decide, by decide⟩ rfl rfl (Nat.le_of_ble_eq_true rfl) (ct_take_y (gs_eq r1) (gs_ne r2 (by decide)) rt hn (tE_le hp) (lo := 1) (by decide) (hiOK_n (m := 9) (by decide)) ho8 ?_)
    show Wp g yX2_readWord cX2_readWord 4 (some .boolean) 5 0 0 (px_MQ g Q 0 0) 0 0 11 [some (.ref 1), none, none, none] [.int (nI (tV tx n (tE tx n p)))] ((w.set 1 (.inr (2, [.ref 2, .int (nI n), .ref 3, .int (nI (tE tx n (tE tx n p))), .int (nI (tC tx n (tE tx n p))), .int (nI (tS tx n (tE tx n p))), .int (nI (tV tx n (tE tx n p)))]))).set 1 (.inr (2, [.ref 2, .int (nI n), .ref 3, .int (nI (tE tx n (tE tx n (tE tx n p)))), .int (nI (tC tx n (tE tx n (tE tx n p)))), .int (nI (tS tx n (tE tx n (tE tx n p)))), .int (nI (tV tx n (tE tx n (tE tx n p))))])))
    have o8 := okN_e ho8
    have i8 : tE tx n (tE tx n (tE tx n p)) ≤ n := tE_le (tE_le (tE_le hp))
    have j8 := tE_ge tx n (tE tx n (tE tx n p))
    have k8 : tS tx n (tE tx n (tE tx n p)) ≤ n := tS_le (tE_le (tE_le hp))
    have c8 := tV_le tx n (tE tx n (tE tx n p))
    have d8 := tC_b tx n (tE tx n (tE tx n p))
    refine r_istore_n (pc' := 12) (lo' := [some (.ref 1), some (.int (nI (tV tx n (tE tx n p)))), none, none]) dX2_readWord_11 rfl (by decide) rfl ?_
    refine r_iload_n (pc' := 13) dX2_readWord_12 rfl rfl ?_
    refine r_if_lt (pc' := 16) (P := False) (tgt := 38) dX2_readWord_13 (by decide) rfl (nI_lt0 (n := tV tx n (tE tx n p)) (by omega)) (fun h13 => ?_) (fun h13 => ?_)
    · skip
      exfalso; exact h13
    · skip
      refine r_aload_n (pc' := 17) dX2_readWord_16 rfl rfl ?_
      refine r_get (pc' := 20) fX2_41 dX2_readWord_17 rfl (gs_eq (gs_eq r1)) rfl ?_
      refine r_iconst (pc' := 21) (v := nI 2) dX2_readWord_20 rfl rfl ?_
      refine r_icmp_ne (pc' := 24) (P := tC tx n (tE tx n (tE tx n p)) = 2) (tgt := 38) dX2_readWord_21 (by decide) rfl (nI_eq (a := tC tx n (tE tx n (tE tx n p))) (b := 2) (by omega) (by omega)) (fun h21 => ?_) (fun h21 => ?_)
      · skip
        refine r_iconst (pc' := 39) (v := bI false) dX2_readWord_38 rfl rfl ?_
        refine r_zreturn dX2_readWord_39 rfl (bI_nar _) ?_
        refine hno ((w.set 1 (.inr (2, [.ref 2, .int (nI n), .ref 3, .int (nI (tE tx n (tE tx n p))), .int (nI (tC tx n (tE tx n p))), .int (nI (tS tx n (tE tx n p))), .int (nI (tV tx n (tE tx n p)))]))).set 1 (.inr (2, [.ref 2, .int (nI n), .ref 3, .int (nI (tE tx n (tE tx n (tE tx n p)))), .int (nI (tC tx n (tE tx n (tE tx n p)))), .int (nI (tS tx n (tE tx n (tE tx n p)))), .int (nI (tV tx n (tE tx n (tE tx n p))))]))) _ _ _ _ _ ?_ (gs_eq (gs_eq r1)) (gs_ne (gs_ne r2 (by decide)) (by decide)) ((hT.fr (a := 1) (b := 2) (Frm.set (by omega) (by omega)) (by omega)).fr (a := 1) (b := 2) (Frm.set (by omega) (by omega)) (by omega)) (((Frm.rf (a := 1) (b := 9)).sets (k := 1) (by omega) (by omega)).sets (k := 1) (by omega) (by omega))
        first | (rw [itW, if_neg (by rw [ho8]; decide)]; done) | (rw [itW, if_pos ho8, if_neg (by rw [okR_f (Or.inl h21)]; decide)]; done) | (rw [itW, if_pos ho8, if_neg (by rw [okR_f (Or.inr h35)]; decide)]; done) | (rw [itW, if_pos ho8, if_neg (by rw [okR_l (k := k) (by omega) (by omega)]; decide)]; done)
      · skip
        refine r_aload_n (pc' := 25) dX2_readWord_24 rfl rfl ?_
        refine r_get (pc' := 28) fX2_35 dX2_readWord_25 rfl (gs_eq (gs_eq r1)) rfl ?_
        refine r_aload_n (pc' := 29) dX2_readWord_28 rfl rfl ?_
        refine r_get (pc' := 32) fX2_48 dX2_readWord_29 rfl (gs_eq (gs_eq r1)) rfl ?_
        refine r_isub (pc' := 33) (v := nI (tE tx n (tE tx n (tE tx n p)) - (tS tx n (tE tx n (tE tx n p))))) dX2_readWord_32 rfl (pk_sub (a := tE tx n (tE tx n (tE tx n p))) (b := tS tx n (tE tx n (tE tx n p))) (by omega)) ?_
        refine r_bipush (pc' := 35) (v := nI 6) dX2_readWord_33 rfl rfl ?_
        refine r_icmp_le (pc' := 38) (P := tE tx n (tE tx n (tE tx n p)) - (tS tx n (tE tx n (tE tx n p))) ≤ 6) (tgt := 40) dX2_readWord_35 (by decide) rfl (nI_leI (a := tE tx n (tE tx n (tE tx n p)) - (tS tx n (tE tx n (tE tx n p)))) (b := 6) (by omega) (by omega)) (fun h35 => ?_) (fun h35 => ?_)
        · skip
          refine r_aload_n (pc' := 41) dX2_readWord_40 rfl rfl ?_
          refine r_get (pc' := 44) fX2_18 dX2_readWord_41 rfl (gs_eq (gs_eq r1)) rfl ?_
          refine r_iload_n (pc' := 45) dX2_readWord_44 rfl rfl ?_
          refine r_callV (pc' := 48) (av := [.int (nI (tV tx n (tE tx n p)))]) (rest := []) kX5_addWord vX5_addWord lX2_81 dX2_readWord_45 rfl (((hT.fr (a := 1) (b := 2) (Frm.set (by omega) (by omega)) (by omega)).fr (a := 1) (b := 2) (Frm.set (by omega) (by omega)) (by omega)).o) rfl rfl rfl ⟨by decide, by decide, by decide⟩ rfl rfl (Nat.le_of_ble_eq_true rfl) (ct_X5_addWord (((hT.fr (a := 1) (b := 2) (Frm.set (by omega) (by omega)) (by omega)).fr (a := 1) (b := 2) (Frm.set (by omega) (by omega)) (by omega))) hW (tx := tx) (s := (tS tx n (tE tx n (tE tx n p)))) (by omega) (fun w45 hT45 hF45 => ?_))
          show Wp g yX2_readWord cX2_readWord 4 (some .boolean) 5 0 0 (px_MQ g Q 0 0) 0 0 48 [some (.ref 1), some (.int (nI (tV tx n (tE tx n p)))), none, none] [] w45
          refine r_aload_n (pc' := 49) dX2_readWord_48 rfl rfl ?_
          refine r_get (pc' := 52) fX2_48 dX2_readWord_49 rfl (hF45.at (gs_eq (gs_eq r1)) (by omega)) rfl ?_
          refine r_istore_n (pc' := 53) (lo' := [some (.ref 1), some (.int (nI (tV tx n (tE tx n p)))), some (.int (nI (tS tx n (tE tx n (tE tx n p))))), none]) dX2_readWord_52 rfl (by decide) rfl ?_
          have L53 : ∀ (fu : Nat) (k : Nat) (w1 : px_W), (tE tx n (tE tx n (tE tx n p))) - (tS tx n (tE tx n (tE tx n p))) - k < fu → k ≤ (tE tx n (tE tx n (tE tx n p))) - (tS tx n (tE tx n (tE tx n p))) → SubA w1 3 (aW tx T (tV tx n (tE tx n p)) (tS tx n (tE tx n (tE tx n p))) k) → Frm w45 w1 3 9 → (∀ x, x < k → 97 ≤ tx ((tS tx n (tE tx n (tE tx n p))) + x) ∧ tx ((tS tx n (tE tx n (tE tx n p))) + x) ≤ 104) → Wp g yX2_readWord cX2_readWord 4 (some .boolean) 5 0 0 (px_MQ g Q 0 0) 0 0 53 [some (.ref 1), some (.int (nI (tV tx n (tE tx n p)))), some (.int (nI ((tS tx n (tE tx n (tE tx n p))) + k))), none] [] w1 := by
            intro fu; induction fu with
            | zero => intro k w1 hm; exact absurd hm (Nat.not_lt_zero _)
            | succ fu ih =>
              intro k w1 hm hk hT1 hF1 hlt
              have ih53 := ih; clear ih
              refine r_iload_n (pc' := 54) dX2_readWord_53 rfl rfl ?_
              refine r_aload_n (pc' := 55) dX2_readWord_54 rfl rfl ?_
              refine r_get (pc' := 58) fX2_35 dX2_readWord_55 rfl (hF1.at (hF45.at (gs_eq (gs_eq r1)) (by omega)) (by omega)) rfl ?_
              refine r_icmp_ge (pc' := 61) (P := tE tx n (tE tx n (tE tx n p)) ≤ (tS tx n (tE tx n (tE tx n p))) + k) (tgt := 99) dX2_readWord_58 (by decide) rfl (nI_leI (a := tE tx n (tE tx n (tE tx n p))) (b := (tS tx n (tE tx n (tE tx n p))) + k) (by omega) (by omega)) (fun h58 => ?_) (fun h58 => ?_)
              · skip
                obtain rfl : k = (tE tx n (tE tx n (tE tx n p))) - (tS tx n (tE tx n (tE tx n p))) := by omega
                refine r_aload_n (pc' := 100) dX2_readWord_99 rfl rfl ?_
                refine r_callV (pc' := 103) (av := []) (rest := []) kX2_next vX2_next lX2_38 dX2_readWord_100 rfl (hF1.at (hF45.at (gs_eq (gs_eq r1)) (by omega)) (by omega)) rfl rfl rfl ⟨by decide, by decide, by decide⟩ rfl rfl (Nat.le_of_ble_eq_true rfl) (ct_X2_next (hF1.at (hF45.at (gs_eq (gs_eq r1)) (by omega)) (by omega)) (hF1.at (hF45.at (gs_ne (gs_ne r2 (by decide)) (by decide)) (by omega)) (by omega)) rt hn (tE_le (tE_le (tE_le hp))) ?_)
                show Wp g yX2_readWord cX2_readWord 4 (some .boolean) 5 0 0 (px_MQ g Q 0 0) 0 0 103 [some (.ref 1), some (.int (nI (tV tx n (tE tx n p)))), some (.int (nI ((tS tx n (tE tx n (tE tx n p))) + ((tE tx n (tE tx n (tE tx n p))) - (tS tx n (tE tx n (tE tx n p))))))), none] [] (w1.set 1 (.inr (2, [.ref 2, .int (nI n), .ref 3, .int (nI (tE tx n (tE tx n (tE tx n (tE tx n p))))), .int (nI (tC tx n (tE tx n (tE tx n (tE tx n p))))), .int (nI (tS tx n (tE tx n (tE tx n (tE tx n p))))), .int (nI (tV tx n (tE tx n (tE tx n (tE tx n p)))))])))
                have c100 := tV_le tx n (tE tx n (tE tx n (tE tx n p)))
                have d100 := tC_b tx n (tE tx n (tE tx n (tE tx n p)))
                have i100 : tE tx n (tE tx n (tE tx n (tE tx n p))) ≤ n := tE_le (tE_le (tE_le (tE_le hp)))
                have j100 := tE_ge tx n (tE tx n (tE tx n (tE tx n p)))
                have k100 : tS tx n (tE tx n (tE tx n (tE tx n p))) ≤ n := tS_le (tE_le (tE_le (tE_le hp)))
                refine r_iconst (pc' := 104) (v := bI true) dX2_readWord_103 rfl rfl ?_
                refine r_zreturn dX2_readWord_104 rfl (bI_nar _) ?_
                refine hok (w1.set 1 (.inr (2, [.ref 2, .int (nI n), .ref 3, .int (nI (tE tx n (tE tx n (tE tx n (tE tx n p))))), .int (nI (tC tx n (tE tx n (tE tx n (tE tx n p))))), .int (nI (tS tx n (tE tx n (tE tx n (tE tx n p))))), .int (nI (tV tx n (tE tx n (tE tx n (tE tx n p)))))]))) _ _ ?_ (gs_eq (hF1.at (hF45.at (gs_eq (gs_eq r1)) (by omega)) (by omega))) (gs_ne (hF1.at (hF45.at (gs_ne (gs_ne r2 (by decide)) (by decide)) (by omega)) (by omega)) (by decide)) (hT1.fr (a := 1) (b := 2) (Frm.set (by omega) (by omega)) (by omega)) ((((((Frm.rf (a := 1) (b := 9)).sets (k := 1) (by omega) (by omega)).sets (k := 1) (by omega) (by omega)).tr (a := 1) (b := 9) hF45 (by omega) (by omega) (by omega) (by omega)).tr (a := 1) (b := 9) hF1 (by omega) (by omega) (by omega) (by omega)).sets (k := 1) (by omega) (by omega))
                rw [itW, if_pos ho8, if_pos (okR_i (by omega) (by omega) (fun x hx => hlt x (by omega)))]
              · have hri := row_in (i := (tS tx n (tE tx n (tE tx n p))) + k) h21 (by omega) (by omega)
                refine r_aload_n (pc' := 62) dX2_readWord_61 rfl rfl ?_
                refine r_get (pc' := 65) fX2_9 dX2_readWord_62 rfl (hF1.at (hF45.at (gs_eq (gs_eq r1)) (by omega)) (by omega)) rfl ?_
                refine r_iload_n (pc' := 66) dX2_readWord_65 rfl rfl ?_
                refine r_callS (pc' := 69) (av := [.ref 2, .int (nI ((tS tx n (tE tx n (tE tx n p))) + k))]) (rest := []) kX3_at vX3_at lX2_73 dX2_readWord_66 rfl rfl rfl ⟨by decide, by decide, by decide⟩ rfl rfl (Nat.le_of_ble_eq_true rfl) (ct_X3_at (hF1.at (hF45.at (gs_ne (gs_ne r2 (by decide)) (by decide)) (by omega)) (by omega)) (by decide) (j := (tS tx n (tE tx n (tE tx n p))) + k) (by omega) (rt ((tS tx n (tE tx n (tE tx n p))) + k) (by omega)).1 ?_)
                show Wp g yX2_readWord cX2_readWord 4 (some .boolean) 5 0 0 (px_MQ g Q 0 0) 0 0 69 [some (.ref 1), some (.int (nI (tV tx n (tE tx n p)))), some (.int (nI ((tS tx n (tE tx n (tE tx n p))) + k))), none] [.int (nI (tx ((tS tx n (tE tx n (tE tx n p))) + k)))] w1
                have t66 := (rt ((tS tx n (tE tx n (tE tx n p))) + k) (by omega)).2
                refine r_bipush (pc' := 71) (v := nI 97) dX2_readWord_69 rfl rfl ?_
                refine r_isub (pc' := 72) (v := nI (tx ((tS tx n (tE tx n (tE tx n p))) + k) - 97)) dX2_readWord_71 rfl (pk_sub (a := tx ((tS tx n (tE tx n (tE tx n p))) + k)) (b := 97) (by omega)) ?_
                refine r_istore_n (pc' := 73) (lo' := [some (.ref 1), some (.int (nI (tV tx n (tE tx n p)))), some (.int (nI ((tS tx n (tE tx n (tE tx n p))) + k))), some (.int (nI (tx ((tS tx n (tE tx n (tE tx n p))) + k) - 97)))]) dX2_readWord_72 rfl (by decide) rfl ?_
                refine r_iload_n (pc' := 74) dX2_readWord_73 rfl rfl ?_
                refine r_if_lt (pc' := 77) (P := False) (tgt := 83) dX2_readWord_74 (by decide) rfl (nI_lt0 (n := tx ((tS tx n (tE tx n (tE tx n p))) + k) - 97) (by omega)) (fun h74 => ?_) (fun h74 => ?_)
                · skip
                  exfalso; exact h74
                · skip
                  refine r_iload_n (pc' := 78) dX2_readWord_77 rfl rfl ?_
                  refine r_bipush (pc' := 80) (v := nI 8) dX2_readWord_78 rfl rfl ?_
                  refine r_icmp_lt (pc' := 83) (P := tx ((tS tx n (tE tx n (tE tx n p))) + k) - 97 < 8) (tgt := 85) dX2_readWord_80 (by decide) rfl (nI_ltI (a := tx ((tS tx n (tE tx n (tE tx n p))) + k) - 97) (b := 8) (by omega) (by omega)) (fun h80 => ?_) (fun h80 => ?_)
                  · skip
                    refine r_aload_n (pc' := 86) dX2_readWord_85 rfl rfl ?_
                    refine r_get (pc' := 89) fX2_18 dX2_readWord_86 rfl (hF1.at (hF45.at (gs_eq (gs_eq r1)) (by omega)) (by omega)) rfl ?_
                    refine r_iload_n (pc' := 90) dX2_readWord_89 rfl rfl ?_
                    refine r_callV (pc' := 93) (av := [.int (nI (tx ((tS tx n (tE tx n (tE tx n p))) + k) - 97))]) (rest := []) kX5_addLetter vX5_addLetter lX2_85 dX2_readWord_90 rfl hT1.o rfl rfl rfl ⟨by decide, by decide, by decide⟩ rfl rfl (Nat.le_of_ble_eq_true rfl) (ct_X5_addLetter hT1 hW hT.b (by omega) (fun w90 hT90 hF90 => ?_))
                    show Wp g yX2_readWord cX2_readWord 4 (some .boolean) 5 0 0 (px_MQ g Q 0 0) 0 0 93 [some (.ref 1), some (.int (nI (tV tx n (tE tx n p)))), some (.int (nI ((tS tx n (tE tx n (tE tx n p))) + k))), some (.int (nI (tx ((tS tx n (tE tx n (tE tx n p))) + k) - 97)))] [] w90
                    refine r_iinc (pc' := 96) (lo' := [some (.ref 1), some (.int (nI (tV tx n (tE tx n p)))), some (.int (nI ((tS tx n (tE tx n (tE tx n p))) + k + 1))), some (.int (nI (tx ((tS tx n (tE tx n (tE tx n p))) + k) - 97)))]) dX2_readWord_93 rfl (by decide) rfl (nI_add ((tS tx n (tE tx n (tE tx n p))) + k) 1) rfl ?_
                    refine r_goto (tgt := 53) dX2_readWord_96 (by decide) ?_
                    refine r_drop 3 rfl ?_
                    exact ih53 (k + 1) w90 (by omega) (by omega) hT90 (hF1.tr hF90 (by omega) (by omega) (by omega) (by omega)) (fun x hx => by rcases (show x < k ∨ x = k by omega) with q | rfl; exact hlt x q; omega)
                  · skip
                    refine r_iconst (pc' := 84) (v := bI false) dX2_readWord_83 rfl rfl ?_
                    refine r_zreturn dX2_readWord_84 rfl (bI_nar _) ?_
                    refine hno (w1) _ _ _ _ _ ?_ (hF1.at (hF45.at (gs_eq (gs_eq r1)) (by omega)) (by omega)) (hF1.at (hF45.at (gs_ne (gs_ne r2 (by decide)) (by decide)) (by omega)) (by omega)) hT1 (((((Frm.rf (a := 1) (b := 9)).sets (k := 1) (by omega) (by omega)).sets (k := 1) (by omega) (by omega)).tr (a := 1) (b := 9) hF45 (by omega) (by omega) (by omega) (by omega)).tr (a := 1) (b := 9) hF1 (by omega) (by omega) (by omega) (by omega))
                    first | (rw [itW, if_neg (by rw [ho8]; decide)]; done) | (rw [itW, if_pos ho8, if_neg (by rw [okR_f (Or.inl h21)]; decide)]; done) | (rw [itW, if_pos ho8, if_neg (by rw [okR_f (Or.inr h35)]; decide)]; done) | (rw [itW, if_pos ho8, if_neg (by rw [okR_l (k := k) (by omega) (by omega)]; decide)]; done)
          exact L53 ((tE tx n (tE tx n (tE tx n p))) - (tS tx n (tE tx n (tE tx n p))) + 1) 0 _ (by omega) (Nat.zero_le _) hT45 Frm.rf (fun x hx => absurd hx (Nat.not_lt_zero _))
        · skip
          refine r_iconst (pc' := 39) (v := bI false) dX2_readWord_38 rfl rfl ?_
          refine r_zreturn dX2_readWord_39 rfl (bI_nar _) ?_
          refine hno ((w.set 1 (.inr (2, [.ref 2, .int (nI n), .ref 3, .int (nI (tE tx n (tE tx n p))), .int (nI (tC tx n (tE tx n p))), .int (nI (tS tx n (tE tx n p))), .int (nI (tV tx n (tE tx n p)))]))).set 1 (.inr (2, [.ref 2, .int (nI n), .ref 3, .int (nI (tE tx n (tE tx n (tE tx n p)))), .int (nI (tC tx n (tE tx n (tE tx n p)))), .int (nI (tS tx n (tE tx n (tE tx n p)))), .int (nI (tV tx n (tE tx n (tE tx n p))))]))) _ _ _ _ _ ?_ (gs_eq (gs_eq r1)) (gs_ne (gs_ne r2 (by decide)) (by decide)) ((hT.fr (a := 1) (b := 2) (Frm.set (by omega) (by omega)) (by omega)).fr (a := 1) (b := 2) (Frm.set (by omega) (by omega)) (by omega)) (((Frm.rf (a := 1) (b := 9)).sets (k := 1) (by omega) (by omega)).sets (k := 1) (by omega) (by omega))
          first | (rw [itW, if_neg (by rw [ho8]; decide)]; done) | (rw [itW, if_pos ho8, if_neg (by rw [okR_f (Or.inl h21)]; decide)]; done) | (rw [itW, if_pos ho8, if_neg (by rw [okR_f (Or.inr h35)]; decide)]; done) | (rw [itW, if_pos ho8, if_neg (by rw [okR_l (k := k) (by omega) (by omega)]; decide)]; done)
  | false =>
    refine r_callV (pc' := 11) (av := [.int (nI 1), .int (nI 9)]) (rest := []) kX2_takeNumber vX2_takeNumber lX2_77 dX2_readWord_8 rfl (gs_eq r1) rfl rfl rfl ⟨by decide, by decide, by decide⟩ rfl rfl (Nat.le_of_ble_eq_true rfl) (ct_take_n (gs_eq r1) (gs_ne r2 (by decide)) rt hn (tE_le hp) (lo := 1) (by decide) (hiOK_n (m := 9) (by decide)) ho8 ?_)
    show Wp g yX2_readWord cX2_readWord 4 (some .boolean) 5 0 0 (px_MQ g Q 0 0) 0 0 11 [some (.ref 1), none, none, none] [.int ((-1))] (w.set 1 (.inr (2, [.ref 2, .int (nI n), .ref 3, .int (nI (tE tx n (tE tx n p))), .int (nI (tC tx n (tE tx n p))), .int (nI (tS tx n (tE tx n p))), .int (nI (tV tx n (tE tx n p)))])))
    refine r_istore_n (pc' := 12) (lo' := [some (.ref 1), some (.int ((-1))), none, none]) dX2_readWord_11 rfl (by decide) rfl ?_
    refine r_iload_n (pc' := 13) dX2_readWord_12 rfl rfl ?_
    refine r_if_lt (pc' := 16) (P := ((-1)) < 0) (tgt := 38) dX2_readWord_13 (by decide) rfl (Iff.rfl) (fun h13 => ?_) (fun h13 => ?_)
    · skip
      refine r_iconst (pc' := 39) (v := bI false) dX2_readWord_38 rfl rfl ?_
      refine r_zreturn dX2_readWord_39 rfl (bI_nar _) ?_
      refine hno (w.set 1 (.inr (2, [.ref 2, .int (nI n), .ref 3, .int (nI (tE tx n (tE tx n p))), .int (nI (tC tx n (tE tx n p))), .int (nI (tS tx n (tE tx n p))), .int (nI (tV tx n (tE tx n p)))]))) _ _ _ _ _ ?_ (gs_eq r1) (gs_ne r2 (by decide)) (hT.fr (a := 1) (b := 2) (Frm.set (by omega) (by omega)) (by omega)) ((Frm.rf (a := 1) (b := 9)).sets (k := 1) (by omega) (by omega))
      first | (rw [itW, if_neg (by rw [ho8]; decide)]; done) | (rw [itW, if_pos ho8, if_neg (by rw [okR_f (Or.inl h21)]; decide)]; done) | (rw [itW, if_pos ho8, if_neg (by rw [okR_f (Or.inr h35)]; decide)]; done) | (rw [itW, if_pos ho8, if_neg (by rw [okR_l (k := k) (by omega) (by omega)]; decide)]; done)
    · skip
      exfalso; exact h13 (by decide)
  
