theorem nmax_le' {f : Nat → Nat} {b n : Nat} (h : ∀ i, i < n → f i ≤ b) : nmax f n ≤ b := by
  rcases nmax_in (f := f) n with q | ⟨i, hi, q⟩
  · omega
  · have := h i hi; omega
set_option maxHeartbeats 200000 in
theorem ct_X7_lookOf {g : px_G} {w : px_W} {Q : px_Q} {tr : Int64} {ty nx tk pl va fa um : Int32} {T : px_T} {M : px_N} (hX : w[60]? = some (mobj tr ty nx tk pl va fa um)) (hT : MtA w T) (hO : TOK T) (hM : MnA w M) (hB : byA w) {d : Nat} (hd : d < tD T) (hQ : ∀ w', byA w' → Frm w w' 75 76 → Q (some (.int (oN (lookS T M d)))) w') : Ct g yX7_lookOf cX7_lookOf 9 (some .int) 4 0 0 [.ref 60, .int (nI d)] w Q := by
  refine Ct.of kX7_lookOf (by omega) (lo := [some (.ref 60), some (.int (nI d)), none, none, none, none, none, none, none]) rfl (px_cat1 rfl) (Nat.le_of_ble_eq_true rfl) ?_
  obtain ⟨fm, fz, fl, fs, fd, g0, g1, g2, g3, ⟨c1, c2, c3, c4, c5, c6, c7, c8, c9⟩, ma, mz, ml, md, mg, ⟨sb1, sb2, sb3⟩, sb4, sb5⟩ := id hT
  obtain ⟨fn, cn, hf, mB1, mB2, mB3⟩ := id hM
  have e0 := hO.2.2.1 d hd
  refine r_aload_n (pc' := 1) dX7_lookOf_0 rfl rfl ?_
  refine r_iload_n (pc' := 2) dX7_lookOf_1 rfl rfl ?_
  refine r_callV (pc' := 5) (av := [.int (nI d)]) (rest := []) kX7_fitsOf vX7_fitsOf lX7_140 dX7_lookOf_2 rfl hX rfl rfl rfl ⟨by decide, by decide, by decide⟩ rfl rfl (Nat.le_of_ble_eq_true rfl) (ct_X7_fitsOf hX hT hO hM (d := d) (by omega) ?_)
  show Wp g yX7_lookOf cX7_lookOf 9 (some .int) 4 0 0 (px_MQ g Q 0 0) 0 0 5 [some (.ref 60), some (.int (nI d)), none, none, none, none, none, none, none] [.int (nI (fitS T M d))] w
  have e2 := fitS_lt (M := M) (d := d) sb1
  refine r_istore_n (pc' := 6) (lo' := [some (.ref 60), some (.int (nI d)), some (.int (nI (fitS T M d))), none, none, none, none, none, none]) dX7_lookOf_5 rfl (by decide) rfl ?_
  refine r_bipush (pc' := 8) (v := (-9)) dX7_lookOf_6 rfl rfl ?_
  refine r_istore_n (pc' := 9) (lo' := [some (.ref 60), some (.int (nI d)), some (.int (nI (fitS T M d))), some (.int ((-9))), none, none, none, none, none]) dX7_lookOf_8 rfl (by decide) rfl ?_
  refine r_bipush (pc' := 11) (v := nI 99) dX7_lookOf_9 rfl rfl ?_
  refine r_istore (pc' := 13) (lo' := [some (.ref 60), some (.int (nI d)), some (.int (nI (fitS T M d))), some (.int ((-9))), some (.int (nI 99)), none, none, none, none]) dX7_lookOf_11 rfl (by decide) rfl ?_
  refine r_iconst (pc' := 14) (v := nI 0) dX7_lookOf_13 rfl rfl ?_
  refine r_istore (pc' := 16) (lo' := [some (.ref 60), some (.int (nI d)), some (.int (nI (fitS T M d))), some (.int ((-9))), some (.int (nI 99)), some (.int (nI 0)), none, none, none]) dX7_lookOf_14 rfl (by decide) rfl ?_
  have L16 : ∀ (fu : Nat) (x : Nat) (w1 : px_W), td T d - x < fu → x ≤ td T d → x = 0 ∨ 2 ≤ popc (fitS T M d) → Frm w w1 75 76 → byA w1 → Wp g yX7_lookOf cX7_lookOf 9 (some .int) 4 0 0 (px_MQ g Q 0 0) 0 0 16 [some (.ref 60), some (.int (nI d)), some (.int (nI (fitS T M d))), some (.int (oN (amin (fun x => (nt M d).testBit x) (fun x => hvy T x (fitS T M d)) x))), some (.int (nI (aval (fun x => hvy T x (fitS T M d)) 99 (amin (fun x => (nt M d).testBit x) (fun x => hvy T x (fitS T M d)) x)))), some (.int (nI x)), none, none, none] [] w1 := by
    intro fu; induction fu with
    | zero => intro x w1 hm; exact absurd hm (Nat.not_lt_zero _)
    | succ fu ih =>
      intro x w1 hm hx hp hF hB1
      have hav : aval (fun x => hvy T x (fitS T M d)) 99 (amin (fun x => (nt M d).testBit x) (fun x => hvy T x (fitS T M d)) x) ≤ 99 := aval_le (fun v _ => by have := hvy_le hO hT.b v (fitS T M d); show hvy _ _ _ ≤ 99; omega)
      obtain ⟨fy, y1⟩ := id hB1
      have ih16 := ih; clear ih
      refine r_iload (pc' := 18) dX7_lookOf_16 rfl rfl ?_
      refine r_aload_n (pc' := 19) dX7_lookOf_18 rfl rfl ?_
      refine r_get (pc' := 22) fX7_25 dX7_lookOf_19 rfl (hF.at hX (by omega)) rfl ?_
      refine r_iload_n (pc' := 23) dX7_lookOf_22 rfl rfl ?_
      refine r_iaload (pc' := 24) (v := nI (td T d)) dX7_lookOf_23 rfl (hF.at c5 (by omega)) (vp_in_nI (n := d) (by omega) (by omega)) (by rw [nI_cl (by omega)]; exact md d (by omega)) ?_
      have e23 := hO.2.2.1 d (by omega)
      refine r_icmp_ge (pc' := 27) (P := td T d ≤ x) (tgt := 195) dX7_lookOf_24 (by decide) rfl (nI_leI (a := td T d) (b := x) (by omega) (by omega)) (fun h24 => ?_) (fun h24 => ?_)
      · have hx2 : x = td T d := by omega
        refine r_iload_n (pc' := 196) dX7_lookOf_195 rfl rfl ?_
        refine r_ireturn dX7_lookOf_196 rfl ?_
        refine px_eq (hQ w1 hB1 hF) ?_
        first | (rw [lookS, if_neg (by omega), hx2]; done) | (rw [lookS, if_pos (by omega), show x = 0 by omega]; rfl)
      · skip
        refine r_iload_n (pc' := 28) dX7_lookOf_27 rfl rfl ?_
        refine r_callS (pc' := 31) (av := [.int (nI (fitS T M d))]) (rest := []) kX7_ones vX7_ones lX7_143 dX7_lookOf_28 rfl rfl rfl ⟨by decide, by decide, by decide⟩ rfl rfl (Nat.le_of_ble_eq_true rfl) (ct_X7_ones (n := fitS T M d) (by omega) ?_)
        show Wp g yX7_lookOf cX7_lookOf 9 (some .int) 4 0 0 (px_MQ g Q 0 0) 0 0 31 [some (.ref 60), some (.int (nI d)), some (.int (nI (fitS T M d))), some (.int (oN (amin (fun x => (nt M d).testBit x) (fun x => hvy T x (fitS T M d)) x))), some (.int (nI (aval (fun x => hvy T x (fitS T M d)) 99 (amin (fun x => (nt M d).testBit x) (fun x => hvy T x (fitS T M d)) x)))), some (.int (nI x)), none, none, none] [.int (nI (popc (fitS T M d)))] w1
        have e28 := popc_le (fitS T M d)
        refine r_iconst (pc' := 32) (v := nI 1) dX7_lookOf_31 rfl rfl ?_
        refine r_icmp_le (pc' := 35) (P := popc (fitS T M d) ≤ 1) (tgt := 195) dX7_lookOf_32 (by decide) rfl (nI_leI (a := popc (fitS T M d)) (b := 1) (by omega) (by omega)) (fun h32 => ?_) (fun h32 => ?_)
        · skip
          refine r_iload_n (pc' := 196) dX7_lookOf_195 rfl rfl ?_
          refine r_ireturn dX7_lookOf_196 rfl ?_
          refine px_eq (hQ w1 hB1 hF) ?_
          first | (rw [lookS, if_neg (by omega), hx2]; done) | (rw [lookS, if_pos (by omega), show x = 0 by omega]; rfl)
        · skip
          refine r_aload_n (pc' := 36) dX7_lookOf_35 rfl rfl ?_
          refine r_iload_n (pc' := 37) dX7_lookOf_36 rfl rfl ?_
          refine r_iload (pc' := 39) dX7_lookOf_37 rfl rfl ?_
          refine r_callV (pc' := 42) (av := [.int (nI d), .int (nI x)]) (rest := []) kX7_isTrodden vX7_isTrodden lX7_133 dX7_lookOf_39 rfl (hF.at hX (by omega)) rfl rfl rfl ⟨by decide, by decide, by decide⟩ rfl rfl (Nat.le_of_ble_eq_true rfl) (ct_X7_isTrodden (hF.at hX (by omega)) (hT.fr hF (by omega)) hO (hM.fr hF (by omega)) (d := d) (x := x) (by omega) (by omega) ?_)
          show Wp g yX7_lookOf cX7_lookOf 9 (some .int) 4 0 0 (px_MQ g Q 0 0) 0 0 42 [some (.ref 60), some (.int (nI d)), some (.int (nI (fitS T M d))), some (.int (oN (amin (fun x => (nt M d).testBit x) (fun x => hvy T x (fitS T M d)) x))), some (.int (nI (aval (fun x => hvy T x (fitS T M d)) 99 (amin (fun x => (nt M d).testBit x) (fun x => hvy T x (fitS T M d)) x)))), some (.int (nI x)), none, none, none] [.int (bI ((nt M d).testBit x))] w1
          refine r_if_eq (pc' := 45) (P := ((nt M d).testBit x) = false) (tgt := 189) dX7_lookOf_42 (by decide) rfl (bI_0) (fun h42 => ?_) (fun h42 => ?_)
          · skip
            refine r_iinc (pc' := 192) (lo' := [some (.ref 60), some (.int (nI d)), some (.int (nI (fitS T M d))), some (.int (oN (amin (fun x => (nt M d).testBit x) (fun x => hvy T x (fitS T M d)) x))), some (.int (nI (aval (fun x => hvy T x (fitS T M d)) 99 (amin (fun x => (nt M d).testBit x) (fun x => hvy T x (fitS T M d)) x)))), some (.int (nI (x + 1))), none, none, none]) dX7_lookOf_189 rfl (by decide) rfl (nI_add x 1) rfl ?_
            refine r_goto (tgt := 16) dX7_lookOf_192 (by decide) ?_
            have e1 := amin_f (p := (fun x => (nt M d).testBit x)) (f := (fun x => hvy T x (fitS T M d))) (n := x) (big := 99) (by have := hvy_le hO hT.b x (fitS T M d); show hvy _ _ _ < 99; omega) (Or.inl h42)
            have hi := ih16 (x + 1) w1 (by omega) (by omega) (Or.inr (by omega)) hF hB1
            rw [e1] at hi
            exact hi
          · skip
            refine r_iconst (pc' := 46) (v := nI 0) dX7_lookOf_45 rfl rfl ?_
            refine r_istore (pc' := 48) (lo' := [some (.ref 60), some (.int (nI d)), some (.int (nI (fitS T M d))), some (.int (oN (amin (fun x => (nt M d).testBit x) (fun x => hvy T x (fitS T M d)) x))), some (.int (nI (aval (fun x => hvy T x (fitS T M d)) 99 (amin (fun x => (nt M d).testBit x) (fun x => hvy T x (fitS T M d)) x)))), some (.int (nI x)), some (.int (nI 0)), none, none]) dX7_lookOf_46 rfl (by decide) rfl ?_
            have L48 : ∀ (fu : Nat) (c : Nat), 9 - c < fu → c ≤ 9 → Wp g yX7_lookOf cX7_lookOf 9 (some .int) 4 0 0 (px_MQ g Q 0 0) 0 0 48 [some (.ref 60), some (.int (nI d)), some (.int (nI (fitS T M d))), some (.int (oN (amin (fun x => (nt M d).testBit x) (fun x => hvy T x (fitS T M d)) x))), some (.int (nI (aval (fun x => hvy T x (fitS T M d)) 99 (amin (fun x => (nt M d).testBit x) (fun x => hvy T x (fitS T M d)) x)))), some (.int (nI x)), some (.int (nI c)), none, none] [] (w1.set 75 (.inl (0, 9, .inl (cpf (fun _ => nI 0) fy c)))) := by
              intro fu; induction fu with
              | zero => intro c hm; exact absurd hm (Nat.not_lt_zero _)
              | succ fu ih =>
                intro c hm hc
                have ih48 := ih; clear ih
                refine r_iload (pc' := 50) dX7_lookOf_48 rfl rfl ?_
                refine r_bipush (pc' := 52) (v := nI 9) dX7_lookOf_50 rfl rfl ?_
                refine r_icmp_ge (pc' := 55) (P := 9 ≤ c) (tgt := 69) dX7_lookOf_52 (by decide) rfl (nI_leI (a := 9) (b := c) (by omega) (by omega)) (fun h52 => ?_) (fun h52 => ?_)
                · have hc2 : c = 9 := by omega
                  subst hc2
                  refine r_iconst (pc' := 70) (v := nI 0) dX7_lookOf_69 rfl rfl ?_
                  refine r_istore (pc' := 72) (lo' := [some (.ref 60), some (.int (nI d)), some (.int (nI (fitS T M d))), some (.int (oN (amin (fun x => (nt M d).testBit x) (fun x => hvy T x (fitS T M d)) x))), some (.int (nI (aval (fun x => hvy T x (fitS T M d)) 99 (amin (fun x => (nt M d).testBit x) (fun x => hvy T x (fitS T M d)) x)))), some (.int (nI x)), some (.int (nI 0)), none, none]) dX7_lookOf_70 rfl (by decide) rfl ?_
                  refine r_iconst (pc' := 73) (v := nI 0) dX7_lookOf_72 rfl rfl ?_
                  refine r_istore (pc' := 75) (lo' := [some (.ref 60), some (.int (nI d)), some (.int (nI (fitS T M d))), some (.int (oN (amin (fun x => (nt M d).testBit x) (fun x => hvy T x (fitS T M d)) x))), some (.int (nI (aval (fun x => hvy T x (fitS T M d)) 99 (amin (fun x => (nt M d).testBit x) (fun x => hvy T x (fitS T M d)) x)))), some (.int (nI x)), some (.int (nI 0)), some (.int (nI 0)), none]) dX7_lookOf_73 rfl (by decide) rfl ?_
                  have L75 : ∀ (fu : Nat) (i : Nat) (w2 : px_W) (fz2 : Nat → Int32), tW T - i < fu → i ≤ tW T → Frm w1 w2 75 76 → w2[75]? = some (.inl (0, 9, .inl fz2)) → (∀ j, j < 9 → fz2 j = nI (pw T x (fitS T M d) j i)) → Wp g yX7_lookOf cX7_lookOf 9 (some .int) 4 0 0 (px_MQ g Q 0 0) 0 0 75 [some (.ref 60), some (.int (nI d)), some (.int (nI (fitS T M d))), some (.int (oN (amin (fun x => (nt M d).testBit x) (fun x => hvy T x (fitS T M d)) x))), some (.int (nI (aval (fun x => hvy T x (fitS T M d)) 99 (amin (fun x => (nt M d).testBit x) (fun x => hvy T x (fitS T M d)) x)))), some (.int (nI x)), some (.int (nI (nmax (fun c => pw T x (fitS T M d) c i) 9))), some (.int (nI i)), none] [] w2 := by
                    intro fu; induction fu with
                    | zero => intro i w2 fz2 hm; exact absurd hm (Nat.not_lt_zero _)
                    | succ fu ih =>
                      intro i w2 fz2 hm hi hF2 y2 hv
                      have hm54 : nmax (fun c => pw T x (fitS T M d) c i) 9 ≤ 54 := nmax_le' (fun c hc => pw_54 hO hT.b x (fitS T M d) c hi)
                      have ih75 := ih; clear ih
                      refine r_iload (pc' := 77) dX7_lookOf_75 rfl rfl ?_
                      refine r_aload_n (pc' := 78) dX7_lookOf_77 rfl rfl ?_
                      refine r_get (pc' := 81) fX7_13 dX7_lookOf_78 rfl (hF2.at (hF.at hX (by omega)) (by omega)) rfl ?_
                      refine r_iconst (pc' := 82) (v := nI 0) dX7_lookOf_81 rfl rfl ?_
                      refine r_iaload (pc' := 83) (v := nI (tW T)) dX7_lookOf_82 rfl (hF2.at (hF.at c1 (by omega)) (by omega)) (vp_in_nI (n := 0) (by omega) (by omega)) (by rw [nI_cl (by omega)]; exact ma.1) ?_
                      refine r_icmp_ge (pc' := 86) (P := tW T ≤ i) (tgt := 159) dX7_lookOf_83 (by decide) rfl (nI_leI (a := tW T) (b := i) (by omega) (by omega)) (fun h83 => ?_) (fun h83 => ?_)
                      · have hi2 : i = tW T := by omega
                        subst hi2
                        rw [hvy_pw]
                        have e83 := hvy_le hO hT.b x (fitS T M d)
                        show Wp g yX7_lookOf cX7_lookOf 9 (some .int) 4 0 0 (px_MQ g Q 0 0) 0 0 159 [some (.ref 60), some (.int (nI d)), some (.int (nI (fitS T M d))), some (.int (oN (amin (fun x => (nt M d).testBit x) (fun x => hvy T x (fitS T M d)) x))), some (.int (nI (aval (fun x => hvy T x (fitS T M d)) 99 (amin (fun x => (nt M d).testBit x) (fun x => hvy T x (fitS T M d)) x)))), some (.int (nI x)), some (.int (nI (hvy T x (fitS T M d)))), some (.int (nI (tW T))), none] [] w2
                        refine r_iload (pc' := 161) dX7_lookOf_159 rfl rfl ?_
                        refine r_iload (pc' := 163) dX7_lookOf_161 rfl rfl ?_
                        refine r_icmp_ge (pc' := 166) (P := aval (fun x => hvy T x (fitS T M d)) 99 (amin (fun x => (nt M d).testBit x) (fun x => hvy T x (fitS T M d)) x) ≤ hvy T x (fitS T M d)) (tgt := 171) dX7_lookOf_163 (by decide) rfl (nI_leI (a := aval (fun x => hvy T x (fitS T M d)) 99 (amin (fun x => (nt M d).testBit x) (fun x => hvy T x (fitS T M d)) x)) (b := hvy T x (fitS T M d)) (by omega) (by omega)) (fun h163 => ?_) (fun h163 => ?_)
                        · skip
                          refine r_iload_n (pc' := 172) dX7_lookOf_171 rfl rfl ?_
                          refine r_istore_n (pc' := 173) (lo' := [some (.ref 60), some (.int (nI d)), some (.int (nI (fitS T M d))), some (.int (oN (amin (fun x => (nt M d).testBit x) (fun x => hvy T x (fitS T M d)) x))), some (.int (nI (aval (fun x => hvy T x (fitS T M d)) 99 (amin (fun x => (nt M d).testBit x) (fun x => hvy T x (fitS T M d)) x)))), some (.int (nI x)), some (.int (nI (hvy T x (fitS T M d)))), some (.int (nI (tW T))), none]) dX7_lookOf_172 rfl (by decide) rfl ?_
                          refine r_iload (pc' := 175) dX7_lookOf_173 rfl rfl ?_
                          refine r_iload (pc' := 177) dX7_lookOf_175 rfl rfl ?_
                          refine r_icmp_ge (pc' := 180) (P := aval (fun x => hvy T x (fitS T M d)) 99 (amin (fun x => (nt M d).testBit x) (fun x => hvy T x (fitS T M d)) x) ≤ hvy T x (fitS T M d)) (tgt := 185) dX7_lookOf_177 (by decide) rfl (nI_leI (a := aval (fun x => hvy T x (fitS T M d)) 99 (amin (fun x => (nt M d).testBit x) (fun x => hvy T x (fitS T M d)) x)) (b := hvy T x (fitS T M d)) (by omega) (by omega)) (fun h177 => ?_) (fun h177 => ?_)
                          · skip
                            refine r_iload (pc' := 187) dX7_lookOf_185 rfl rfl ?_
                            refine r_istore (pc' := 189) (lo' := [some (.ref 60), some (.int (nI d)), some (.int (nI (fitS T M d))), some (.int (oN (amin (fun x => (nt M d).testBit x) (fun x => hvy T x (fitS T M d)) x))), some (.int (nI (aval (fun x => hvy T x (fitS T M d)) 99 (amin (fun x => (nt M d).testBit x) (fun x => hvy T x (fitS T M d)) x)))), some (.int (nI x)), some (.int (nI (hvy T x (fitS T M d)))), some (.int (nI (tW T))), none]) dX7_lookOf_187 rfl (by decide) rfl ?_
                            refine r_iinc (pc' := 192) (lo' := [some (.ref 60), some (.int (nI d)), some (.int (nI (fitS T M d))), some (.int (oN (amin (fun x => (nt M d).testBit x) (fun x => hvy T x (fitS T M d)) x))), some (.int (nI (aval (fun x => hvy T x (fitS T M d)) 99 (amin (fun x => (nt M d).testBit x) (fun x => hvy T x (fitS T M d)) x)))), some (.int (nI (x + 1))), some (.int (nI (hvy T x (fitS T M d)))), some (.int (nI (tW T))), none]) dX7_lookOf_189 rfl (by decide) rfl (nI_add x 1) rfl ?_
                            refine r_goto (tgt := 16) dX7_lookOf_192 (by decide) ?_
                            have e1 := amin_f (p := (fun x => (nt M d).testBit x)) (f := (fun x => hvy T x (fitS T M d))) (n := x) (big := 99) (by show hvy _ _ _ < 99; omega) (Or.inr (by show ¬ hvy _ _ _ < _; omega))
                            have hi := ih16 (x + 1) w2 (by omega) (by omega) (Or.inr (by omega)) (hF.tr hF2 (by omega) (by omega) (by omega) (by omega)) ⟨fz2, y2⟩
                            rw [e1] at hi
                            refine r_drop 6 rfl ?_
                            refine r_drop 7 rfl ?_
                            exact hi
                          · skip
                            exfalso; omega
                        · skip
                          refine r_iload (pc' := 168) dX7_lookOf_166 rfl rfl ?_
                          refine r_goto (tgt := 172) dX7_lookOf_168 (by decide) ?_
                          refine r_istore_n (pc' := 173) (lo' := [some (.ref 60), some (.int (nI d)), some (.int (nI (fitS T M d))), some (.int (nI x)), some (.int (nI (aval (fun x => hvy T x (fitS T M d)) 99 (amin (fun x => (nt M d).testBit x) (fun x => hvy T x (fitS T M d)) x)))), some (.int (nI x)), some (.int (nI (hvy T x (fitS T M d)))), some (.int (nI (tW T))), none]) dX7_lookOf_172 rfl (by decide) rfl ?_
                          refine r_iload (pc' := 175) dX7_lookOf_173 rfl rfl ?_
                          refine r_iload (pc' := 177) dX7_lookOf_175 rfl rfl ?_
                          refine r_icmp_ge (pc' := 180) (P := aval (fun x => hvy T x (fitS T M d)) 99 (amin (fun x => (nt M d).testBit x) (fun x => hvy T x (fitS T M d)) x) ≤ hvy T x (fitS T M d)) (tgt := 185) dX7_lookOf_177 (by decide) rfl (nI_leI (a := aval (fun x => hvy T x (fitS T M d)) 99 (amin (fun x => (nt M d).testBit x) (fun x => hvy T x (fitS T M d)) x)) (b := hvy T x (fitS T M d)) (by omega) (by omega)) (fun h177 => ?_) (fun h177 => ?_)
                          · skip
                            exfalso; omega
                          · skip
                            refine r_iload (pc' := 182) dX7_lookOf_180 rfl rfl ?_
                            refine r_goto (tgt := 187) dX7_lookOf_182 (by decide) ?_
                            refine r_istore (pc' := 189) (lo' := [some (.ref 60), some (.int (nI d)), some (.int (nI (fitS T M d))), some (.int (nI x)), some (.int (nI (hvy T x (fitS T M d)))), some (.int (nI x)), some (.int (nI (hvy T x (fitS T M d)))), some (.int (nI (tW T))), none]) dX7_lookOf_187 rfl (by decide) rfl ?_
                            refine r_iinc (pc' := 192) (lo' := [some (.ref 60), some (.int (nI d)), some (.int (nI (fitS T M d))), some (.int (nI x)), some (.int (nI (hvy T x (fitS T M d)))), some (.int (nI (x + 1))), some (.int (nI (hvy T x (fitS T M d)))), some (.int (nI (tW T))), none]) dX7_lookOf_189 rfl (by decide) rfl (nI_add x 1) rfl ?_
                            refine r_goto (tgt := 16) dX7_lookOf_192 (by decide) ?_
                            have e1 := amin_t (p := (fun x => (nt M d).testBit x)) (f := (fun x => hvy T x (fitS T M d))) (n := x) (big := 99) (by show hvy _ _ _ < 99; omega) (by simpa using h42) (by show hvy _ _ _ < _; omega)
                            have hi := ih16 (x + 1) w2 (by omega) (by omega) (Or.inr (by omega)) (hF.tr hF2 (by omega) (by omega) (by omega) (by omega)) ⟨fz2, y2⟩
                            rw [e1] at hi
                            refine r_drop 6 rfl ?_
                            refine r_drop 7 rfl ?_
                            exact hi
                      · skip
                        refine r_aload_n (pc' := 87) dX7_lookOf_86 rfl rfl ?_
                        refine r_iload (pc' := 89) dX7_lookOf_87 rfl rfl ?_
                        refine r_iload (pc' := 91) dX7_lookOf_89 rfl rfl ?_
                        refine r_callV (pc' := 94) (av := [.int (nI i), .int (nI x)]) (rest := []) kX7_letterOf vX7_letterOf lX7_120 dX7_lookOf_91 rfl (hF2.at (hF.at hX (by omega)) (by omega)) rfl rfl rfl ⟨by decide, by decide, by decide⟩ rfl rfl (Nat.le_of_ble_eq_true rfl) (ct_X7_letterOf (hF2.at (hF.at hX (by omega)) (by omega)) ((hT.fr hF (by omega)).fr hF2 (by omega)) hO ((hM.fr hF (by omega)).fr hF2 (by omega)) (i := i) (x := x) (by omega) (by omega) ?_)
                        show Wp g yX7_lookOf cX7_lookOf 9 (some .int) 4 0 0 (px_MQ g Q 0 0) 0 0 94 [some (.ref 60), some (.int (nI d)), some (.int (nI (fitS T M d))), some (.int (oN (amin (fun x => (nt M d).testBit x) (fun x => hvy T x (fitS T M d)) x))), some (.int (nI (aval (fun x => hvy T x (fitS T M d)) 99 (amin (fun x => (nt M d).testBit x) (fun x => hvy T x (fitS T M d)) x)))), some (.int (nI x)), some (.int (nI (nmax (fun c => pw T x (fitS T M d) c i) 9))), some (.int (nI i)), none] [.int (nI (tc T i x))] w2
                        have e91 := tc_le hO hT.b (i := i) (x := x) (by omega)
                        refine r_istore (pc' := 96) (lo' := [some (.ref 60), some (.int (nI d)), some (.int (nI (fitS T M d))), some (.int (oN (amin (fun x => (nt M d).testBit x) (fun x => hvy T x (fitS T M d)) x))), some (.int (nI (aval (fun x => hvy T x (fitS T M d)) 99 (amin (fun x => (nt M d).testBit x) (fun x => hvy T x (fitS T M d)) x)))), some (.int (nI x)), some (.int (nI (nmax (fun c => pw T x (fitS T M d) c i) 9))), some (.int (nI i)), some (.int (nI (tc T i x)))]) dX7_lookOf_94 rfl (by decide) rfl ?_
                        refine r_aload_n (pc' := 97) dX7_lookOf_96 rfl rfl ?_
                        refine r_get (pc' := 100) fX7_53 dX7_lookOf_97 rfl (hF2.at (hF.at hX (by omega)) (by omega)) rfl ?_
                        refine r_iload (pc' := 102) dX7_lookOf_100 rfl rfl ?_
                        refine r_dup2 (pc' := 103) dX7_lookOf_102 rfl rfl rfl ?_
                        refine r_iaload (pc' := 104) (v := nI (pw T x (fitS T M d) (tc T i x) i)) dX7_lookOf_103 rfl y2 (vp_in_nI (n := tc T i x) (by omega) (by omega)) (by rw [nI_cl (by omega)]; exact hv _ (by omega)) ?_
                        have e103 := pw_54 hO hT.b x (fitS T M d) (tc T i x) hi
                        refine r_iload_n (pc' := 105) dX7_lookOf_104 rfl rfl ?_
                        refine r_iload (pc' := 107) dX7_lookOf_105 rfl rfl ?_
                        refine r_ishr (pc' := 108) (v := nI ((fitS T M d) / 2 ^ i)) dX7_lookOf_107 rfl (shr_n (a := fitS T M d) (b := i) (by omega) (by omega)) ?_
                        refine r_iconst (pc' := 109) (v := nI 1) dX7_lookOf_108 rfl rfl ?_
                        refine r_iand (pc' := 110) (v := nI (((fitS T M d) / 2 ^ i) &&& 1)) dX7_lookOf_109 rfl (and_n ((fitS T M d) / 2 ^ i) 1) ?_
                        refine r_iconst (pc' := 111) (v := nI 1) dX7_lookOf_110 rfl rfl ?_
                        refine r_icmp_ne (pc' := 114) (P := ((fitS T M d)).testBit i = true) (tgt := 124) dX7_lookOf_111 (by decide) rfl ((nI_eq (a := (fitS T M d) / 2 ^ i &&& 1) (b := 1) (and_lt31 (Nat.lt_of_le_of_lt (Nat.div_le_self _ _) (by omega))) (by omega)).trans (by rw [tb_eq, Nat.and_one_is_mod, decide_eq_true_iff])) (fun h111 => ?_) (fun h111 => ?_)
                        · skip
                          refine r_iconst (pc' := 125) (v := nI 0) dX7_lookOf_124 rfl rfl ?_
                          refine r_iadd (pc' := 126) (v := nI (pw T x (fitS T M d) (tc T i x) i + 0)) dX7_lookOf_125 rfl (nI_add (pw T x (fitS T M d) (tc T i x) i) 0) ?_
                          refine r_iastore (pc' := 127) (c' := .inl (0, 9, .inl (upd fz2 (tc T i x) (nI (pw T x (fitS T M d) (tc T i x) i + 0))))) dX7_lookOf_126 rfl y2 (vp_in_nI (n := tc T i x) (by omega) (by omega)) (by rw [nI_cl (by omega)]) ?_
                          refine r_aload_n (pc' := 128) dX7_lookOf_127 rfl rfl ?_
                          refine r_get (pc' := 131) fX7_53 dX7_lookOf_128 rfl (gs_ne (hF2.at (hF.at hX (by omega)) (by omega)) (by decide)) rfl ?_
                          refine r_iload (pc' := 133) dX7_lookOf_131 rfl rfl ?_
                          refine r_iaload (pc' := 134) (v := nI (pw T x (fitS T M d) (tc T i x) i + 0)) dX7_lookOf_133 rfl (gs_eq y2) (vp_in_nI (n := tc T i x) (by omega) (by omega)) (by rw [nI_cl (by omega)]; simp [upd]) ?_
                          refine r_iload (pc' := 136) dX7_lookOf_134 rfl rfl ?_
                          refine r_icmp_le (pc' := 139) (P := pw T x (fitS T M d) (tc T i x) i + 0 ≤ nmax (fun c => pw T x (fitS T M d) c i) 9) (tgt := 149) dX7_lookOf_136 (by decide) rfl (nI_leI (a := pw T x (fitS T M d) (tc T i x) i + 0) (b := nmax (fun c => pw T x (fitS T M d) c i) 9) (by omega) (by omega)) (fun h136 => ?_) (fun h136 => ?_)
                          · skip
                            refine r_iload (pc' := 151) dX7_lookOf_149 rfl rfl ?_
                            refine r_istore (pc' := 153) (lo' := [some (.ref 60), some (.int (nI d)), some (.int (nI (fitS T M d))), some (.int (oN (amin (fun x => (nt M d).testBit x) (fun x => hvy T x (fitS T M d)) x))), some (.int (nI (aval (fun x => hvy T x (fitS T M d)) 99 (amin (fun x => (nt M d).testBit x) (fun x => hvy T x (fitS T M d)) x)))), some (.int (nI x)), some (.int (nI (nmax (fun c => pw T x (fitS T M d) c i) 9))), some (.int (nI i)), some (.int (nI (tc T i x)))]) dX7_lookOf_151 rfl (by decide) rfl ?_
                            refine r_iinc (pc' := 156) (lo' := [some (.ref 60), some (.int (nI d)), some (.int (nI (fitS T M d))), some (.int (oN (amin (fun x => (nt M d).testBit x) (fun x => hvy T x (fitS T M d)) x))), some (.int (nI (aval (fun x => hvy T x (fitS T M d)) 99 (amin (fun x => (nt M d).testBit x) (fun x => hvy T x (fitS T M d)) x)))), some (.int (nI x)), some (.int (nI (nmax (fun c => pw T x (fitS T M d) c i) 9))), some (.int (nI (i + 1))), some (.int (nI (tc T i x)))]) dX7_lookOf_153 rfl (by decide) rfl (nI_add i 1) rfl ?_
                            refine r_goto (tgt := 75) dX7_lookOf_156 (by decide) ?_
                            have hpw : pw T x (fitS T M d) (tc T i x) (i + 1) = pw T x (fitS T M d) (tc T i x) i + 0 := by rw [pw_s]; simp [h111]
                            have hup := pw_up (T := T) (x := x) (fits := fitS T M d) (i := i) (by omega)
                            rw [hpw] at hup
                            have hv' : ∀ j, j < 9 → (upd fz2 (tc T i x) (nI (pw T x (fitS T M d) (tc T i x) i + 0))) j = nI (pw T x (fitS T M d) j (i + 1)) := by
                              intro j hj
                              by_cases e : j = tc T i x
                              · subst e; rw [hpw]; simp [upd]
                              · simp only [upd, e, if_false]
                                rw [hv j hj, pw_s, if_neg (by simp; intro _ q; exact e q.symm)]; rfl
                            have hi2 := ih75 (i + 1) _ _ (by omega) (by omega) (hF2.sets (k := 75) (by omega) (by omega)) (gs_eq y2) hv'
                            rw [hup] at hi2
                            first | rw [if_pos (by omega)] at hi2 | rw [if_neg (by omega)] at hi2
                            refine r_drop 8 rfl ?_
                            exact hi2
                          · skip
                            refine r_aload_n (pc' := 140) dX7_lookOf_139 rfl rfl ?_
                            refine r_get (pc' := 143) fX7_53 dX7_lookOf_140 rfl (gs_ne (hF2.at (hF.at hX (by omega)) (by omega)) (by decide)) rfl ?_
                            refine r_iload (pc' := 145) dX7_lookOf_143 rfl rfl ?_
                            refine r_iaload (pc' := 146) (v := nI (pw T x (fitS T M d) (tc T i x) i + 0)) dX7_lookOf_145 rfl (gs_eq y2) (vp_in_nI (n := tc T i x) (by omega) (by omega)) (by rw [nI_cl (by omega)]; simp [upd]) ?_
                            refine r_goto (tgt := 151) dX7_lookOf_146 (by decide) ?_
                            refine r_istore (pc' := 153) (lo' := [some (.ref 60), some (.int (nI d)), some (.int (nI (fitS T M d))), some (.int (oN (amin (fun x => (nt M d).testBit x) (fun x => hvy T x (fitS T M d)) x))), some (.int (nI (aval (fun x => hvy T x (fitS T M d)) 99 (amin (fun x => (nt M d).testBit x) (fun x => hvy T x (fitS T M d)) x)))), some (.int (nI x)), some (.int (nI (pw T x (fitS T M d) (tc T i x) i + 0))), some (.int (nI i)), some (.int (nI (tc T i x)))]) dX7_lookOf_151 rfl (by decide) rfl ?_
                            refine r_iinc (pc' := 156) (lo' := [some (.ref 60), some (.int (nI d)), some (.int (nI (fitS T M d))), some (.int (oN (amin (fun x => (nt M d).testBit x) (fun x => hvy T x (fitS T M d)) x))), some (.int (nI (aval (fun x => hvy T x (fitS T M d)) 99 (amin (fun x => (nt M d).testBit x) (fun x => hvy T x (fitS T M d)) x)))), some (.int (nI x)), some (.int (nI (pw T x (fitS T M d) (tc T i x) i + 0))), some (.int (nI (i + 1))), some (.int (nI (tc T i x)))]) dX7_lookOf_153 rfl (by decide) rfl (nI_add i 1) rfl ?_
                            refine r_goto (tgt := 75) dX7_lookOf_156 (by decide) ?_
                            have hpw : pw T x (fitS T M d) (tc T i x) (i + 1) = pw T x (fitS T M d) (tc T i x) i + 0 := by rw [pw_s]; simp [h111]
                            have hup := pw_up (T := T) (x := x) (fits := fitS T M d) (i := i) (by omega)
                            rw [hpw] at hup
                            have hv' : ∀ j, j < 9 → (upd fz2 (tc T i x) (nI (pw T x (fitS T M d) (tc T i x) i + 0))) j = nI (pw T x (fitS T M d) j (i + 1)) := by
                              intro j hj
                              by_cases e : j = tc T i x
                              · subst e; rw [hpw]; simp [upd]
                              · simp only [upd, e, if_false]
                                rw [hv j hj, pw_s, if_neg (by simp; intro _ q; exact e q.symm)]; rfl
                            have hi2 := ih75 (i + 1) _ _ (by omega) (by omega) (hF2.sets (k := 75) (by omega) (by omega)) (gs_eq y2) hv'
                            rw [hup] at hi2
                            first | rw [if_pos (by omega)] at hi2 | rw [if_neg (by omega)] at hi2
                            refine r_drop 8 rfl ?_
                            exact hi2
                        · skip
                          refine r_aload_n (pc' := 115) dX7_lookOf_114 rfl rfl ?_
                          refine r_get (pc' := 118) fX7_22 dX7_lookOf_115 rfl (hF2.at (hF.at hX (by omega)) (by omega)) rfl ?_
                          refine r_iload (pc' := 120) dX7_lookOf_118 rfl rfl ?_
                          refine r_iaload (pc' := 121) (v := nI (ts T i)) dX7_lookOf_120 rfl (hF2.at (hF.at c4 (by omega)) (by omega)) (vp_in_nI (n := i) (by omega) (by omega)) (by rw [nI_cl (by omega)]; exact (mz i (by omega)).2) ?_
                          have e120 := hO.1 i (by omega)
                          refine r_goto (tgt := 125) dX7_lookOf_121 (by decide) ?_
                          refine r_iadd (pc' := 126) (v := nI (pw T x (fitS T M d) (tc T i x) i + (ts T i))) dX7_lookOf_125 rfl (nI_add (pw T x (fitS T M d) (tc T i x) i) (ts T i)) ?_
                          refine r_iastore (pc' := 127) (c' := .inl (0, 9, .inl (upd fz2 (tc T i x) (nI (pw T x (fitS T M d) (tc T i x) i + (ts T i)))))) dX7_lookOf_126 rfl y2 (vp_in_nI (n := tc T i x) (by omega) (by omega)) (by rw [nI_cl (by omega)]) ?_
                          refine r_aload_n (pc' := 128) dX7_lookOf_127 rfl rfl ?_
                          refine r_get (pc' := 131) fX7_53 dX7_lookOf_128 rfl (gs_ne (hF2.at (hF.at hX (by omega)) (by omega)) (by decide)) rfl ?_
                          refine r_iload (pc' := 133) dX7_lookOf_131 rfl rfl ?_
                          refine r_iaload (pc' := 134) (v := nI (pw T x (fitS T M d) (tc T i x) i + (ts T i))) dX7_lookOf_133 rfl (gs_eq y2) (vp_in_nI (n := tc T i x) (by omega) (by omega)) (by rw [nI_cl (by omega)]; simp [upd]) ?_
                          refine r_iload (pc' := 136) dX7_lookOf_134 rfl rfl ?_
                          refine r_icmp_le (pc' := 139) (P := pw T x (fitS T M d) (tc T i x) i + (ts T i) ≤ nmax (fun c => pw T x (fitS T M d) c i) 9) (tgt := 149) dX7_lookOf_136 (by decide) rfl (nI_leI (a := pw T x (fitS T M d) (tc T i x) i + (ts T i)) (b := nmax (fun c => pw T x (fitS T M d) c i) 9) (by omega) (by omega)) (fun h136 => ?_) (fun h136 => ?_)
                          · skip
                            refine r_iload (pc' := 151) dX7_lookOf_149 rfl rfl ?_
                            refine r_istore (pc' := 153) (lo' := [some (.ref 60), some (.int (nI d)), some (.int (nI (fitS T M d))), some (.int (oN (amin (fun x => (nt M d).testBit x) (fun x => hvy T x (fitS T M d)) x))), some (.int (nI (aval (fun x => hvy T x (fitS T M d)) 99 (amin (fun x => (nt M d).testBit x) (fun x => hvy T x (fitS T M d)) x)))), some (.int (nI x)), some (.int (nI (nmax (fun c => pw T x (fitS T M d) c i) 9))), some (.int (nI i)), some (.int (nI (tc T i x)))]) dX7_lookOf_151 rfl (by decide) rfl ?_
                            refine r_iinc (pc' := 156) (lo' := [some (.ref 60), some (.int (nI d)), some (.int (nI (fitS T M d))), some (.int (oN (amin (fun x => (nt M d).testBit x) (fun x => hvy T x (fitS T M d)) x))), some (.int (nI (aval (fun x => hvy T x (fitS T M d)) 99 (amin (fun x => (nt M d).testBit x) (fun x => hvy T x (fitS T M d)) x)))), some (.int (nI x)), some (.int (nI (nmax (fun c => pw T x (fitS T M d) c i) 9))), some (.int (nI (i + 1))), some (.int (nI (tc T i x)))]) dX7_lookOf_153 rfl (by decide) rfl (nI_add i 1) rfl ?_
                            refine r_goto (tgt := 75) dX7_lookOf_156 (by decide) ?_
                            have hpw : pw T x (fitS T M d) (tc T i x) (i + 1) = pw T x (fitS T M d) (tc T i x) i + (ts T i) := by rw [pw_s]; simp [h111]
                            have hup := pw_up (T := T) (x := x) (fits := fitS T M d) (i := i) (by omega)
                            rw [hpw] at hup
                            have hv' : ∀ j, j < 9 → (upd fz2 (tc T i x) (nI (pw T x (fitS T M d) (tc T i x) i + (ts T i)))) j = nI (pw T x (fitS T M d) j (i + 1)) := by
                              intro j hj
                              by_cases e : j = tc T i x
                              · subst e; rw [hpw]; simp [upd]
                              · simp only [upd, e, if_false]
                                rw [hv j hj, pw_s, if_neg (by simp; intro _ q; exact e q.symm)]; rfl
                            have hi2 := ih75 (i + 1) _ _ (by omega) (by omega) (hF2.sets (k := 75) (by omega) (by omega)) (gs_eq y2) hv'
                            rw [hup] at hi2
                            first | rw [if_pos (by omega)] at hi2 | rw [if_neg (by omega)] at hi2
                            refine r_drop 8 rfl ?_
                            exact hi2
                          · skip
                            refine r_aload_n (pc' := 140) dX7_lookOf_139 rfl rfl ?_
                            refine r_get (pc' := 143) fX7_53 dX7_lookOf_140 rfl (gs_ne (hF2.at (hF.at hX (by omega)) (by omega)) (by decide)) rfl ?_
                            refine r_iload (pc' := 145) dX7_lookOf_143 rfl rfl ?_
                            refine r_iaload (pc' := 146) (v := nI (pw T x (fitS T M d) (tc T i x) i + (ts T i))) dX7_lookOf_145 rfl (gs_eq y2) (vp_in_nI (n := tc T i x) (by omega) (by omega)) (by rw [nI_cl (by omega)]; simp [upd]) ?_
                            refine r_goto (tgt := 151) dX7_lookOf_146 (by decide) ?_
                            refine r_istore (pc' := 153) (lo' := [some (.ref 60), some (.int (nI d)), some (.int (nI (fitS T M d))), some (.int (oN (amin (fun x => (nt M d).testBit x) (fun x => hvy T x (fitS T M d)) x))), some (.int (nI (aval (fun x => hvy T x (fitS T M d)) 99 (amin (fun x => (nt M d).testBit x) (fun x => hvy T x (fitS T M d)) x)))), some (.int (nI x)), some (.int (nI (pw T x (fitS T M d) (tc T i x) i + (ts T i)))), some (.int (nI i)), some (.int (nI (tc T i x)))]) dX7_lookOf_151 rfl (by decide) rfl ?_
                            refine r_iinc (pc' := 156) (lo' := [some (.ref 60), some (.int (nI d)), some (.int (nI (fitS T M d))), some (.int (oN (amin (fun x => (nt M d).testBit x) (fun x => hvy T x (fitS T M d)) x))), some (.int (nI (aval (fun x => hvy T x (fitS T M d)) 99 (amin (fun x => (nt M d).testBit x) (fun x => hvy T x (fitS T M d)) x)))), some (.int (nI x)), some (.int (nI (pw T x (fitS T M d) (tc T i x) i + (ts T i)))), some (.int (nI (i + 1))), some (.int (nI (tc T i x)))]) dX7_lookOf_153 rfl (by decide) rfl (nI_add i 1) rfl ?_
                            refine r_goto (tgt := 75) dX7_lookOf_156 (by decide) ?_
                            have hpw : pw T x (fitS T M d) (tc T i x) (i + 1) = pw T x (fitS T M d) (tc T i x) i + (ts T i) := by rw [pw_s]; simp [h111]
                            have hup := pw_up (T := T) (x := x) (fits := fitS T M d) (i := i) (by omega)
                            rw [hpw] at hup
                            have hv' : ∀ j, j < 9 → (upd fz2 (tc T i x) (nI (pw T x (fitS T M d) (tc T i x) i + (ts T i)))) j = nI (pw T x (fitS T M d) j (i + 1)) := by
                              intro j hj
                              by_cases e : j = tc T i x
                              · subst e; rw [hpw]; simp [upd]
                              · simp only [upd, e, if_false]
                                rw [hv j hj, pw_s, if_neg (by simp; intro _ q; exact e q.symm)]; rfl
                            have hi2 := ih75 (i + 1) _ _ (by omega) (by omega) (hF2.sets (k := 75) (by omega) (by omega)) (gs_eq y2) hv'
                            rw [hup] at hi2
                            first | rw [if_pos (by omega)] at hi2 | rw [if_neg (by omega)] at hi2
                            refine r_drop 8 rfl ?_
                            exact hi2
                  have L0 := L75 (tW T + 1) 0 _ _ (by omega) (Nat.zero_le _) (Frm.set (k := 75) (c := .inl (0, 9, .inl (cpf (fun _ => nI 0) fy 9))) (by omega) (by omega)) (gs_eq y1) (fun j hj => by simp only [cpf, hj, if_true]; rfl)
                  rw [pw_0] at L0
                  exact L0
                · skip
                  refine r_aload_n (pc' := 56) dX7_lookOf_55 rfl rfl ?_
                  refine r_get (pc' := 59) fX7_53 dX7_lookOf_56 rfl (gs_ne (hF.at hX (by omega)) (by decide)) rfl ?_
                  refine r_iload (pc' := 61) dX7_lookOf_59 rfl rfl ?_
                  refine r_iconst (pc' := 62) (v := nI 0) dX7_lookOf_61 rfl rfl ?_
                  refine r_iastore (pc' := 63) (c' := .inl (0, 9, .inl (cpf (fun _ => nI 0) fy (c + 1)))) dX7_lookOf_62 rfl (gs_eq y1) (vp_in_nI (n := c) (by omega) (by omega)) (by rw [nI_cl (by omega), ← cpf_s]) ?_
                  rw [gs_set]
                  refine r_iinc (pc' := 66) (lo' := [some (.ref 60), some (.int (nI d)), some (.int (nI (fitS T M d))), some (.int (oN (amin (fun x => (nt M d).testBit x) (fun x => hvy T x (fitS T M d)) x))), some (.int (nI (aval (fun x => hvy T x (fitS T M d)) 99 (amin (fun x => (nt M d).testBit x) (fun x => hvy T x (fitS T M d)) x)))), some (.int (nI x)), some (.int (nI (c + 1))), none, none]) dX7_lookOf_63 rfl (by decide) rfl (nI_add c 1) rfl ?_
                  refine r_goto (tgt := 48) dX7_lookOf_66 (by decide) ?_
                  exact ih48 (c + 1) (by omega) (by omega)
            have L0 := L48 10 0 (by omega) (Nat.zero_le _)
            rw [cpf_0, gs_id y1] at L0
            exact L0
  exact L16 (td T d + 1) 0 w (by omega) (Nat.zero_le _) (Or.inl rfl) Frm.rf hB
