abbrev rdc (n e c s v : Nat) : px_C := .inr (2, [.ref 2, .int (nI n), .ref 3, .int (nI e), .int (nI c), .int (nI s), .int (nI v)])
theorem srt_i {tx : Nat → Nat} {n i : Nat} (h : i < n) : srt tx n i = cls (tx i) := by rw [srt, if_pos h]
theorem cls_2 {v : Nat} (h1 : 97 ≤ v) (h2 : v ≤ 122) : cls v = 2 := by rw [cls, if_pos ⟨h1, h2⟩]
theorem cls_3 {v : Nat} (h1 : 48 ≤ v) (h2 : v ≤ 57) : cls v = 3 := by rw [cls, if_neg (by omega), if_pos ⟨h1, h2⟩]
theorem cls_1 {v : Nat} (h : v = 32) : cls v = 1 := by subst h; rfl
theorem cls_4 {v : Nat} (h : v = 59) : cls v = 4 := by subst h; rfl
theorem cls_5 {v : Nat} (h1 : ¬ (97 ≤ v ∧ v ≤ 122)) (h2 : ¬ (48 ≤ v ∧ v ≤ 57)) (h3 : ¬ v = 32) (h4 : ¬ v = 59) : cls v = 5 := by rw [cls, if_neg h1, if_neg h2, if_neg h3, if_neg h4]
theorem cls_2i {v : Nat} (h : cls v = 2) : 97 ≤ v ∧ v ≤ 122 := by
  unfold cls at h
  split at h
  · assumption
  · split at h
    · cases h
    · split at h
      · cases h
      · split at h <;> cases h
theorem cls_3i {v : Nat} (h : cls v = 3) : 48 ≤ v ∧ v ≤ 57 := by
  unfold cls at h
  split at h
  · cases h
  · split at h
    · assumption
    · split at h
      · cases h
      · split at h <;> cases h
theorem cap_s {m d : Nat} (h1 : 48 ≤ d) (h2 : d ≤ 57) : (if cap m * 10 + d - 48 < 100 then cap m * 10 + d - 48 else 100) = cap (if 99 < m then m else 10 * m + (d - 48)) := by
  by_cases h : m < 100
  · have e1 : cap m = m := if_pos h
    rw [e1, if_neg (show ¬ 99 < m by omega), cap, show m * 10 + d - 48 = 10 * m + (d - 48) by omega]
  · have e1 : cap m = 100 := if_neg h
    rw [e1, if_pos (show 99 < m by omega), cap, if_neg h, if_neg (by omega)]
set_option maxHeartbeats 200000 in
theorem ct_X2_sortAt {g : px_G} {w : px_W} {Q : px_Q} {n e c s v : Nat} {tx : Nat → Nat} {fs : Nat → Int32} (r1 : w[1]? = some (rdc n e c s v)) (r2 : w[2]? = some (.inl (0, 150, .inl fs))) (rt : ∀ j, j < n → fs j = nI (tx j) ∧ tx j < 256) (hn : n ≤ 150) {i : Nat} (hi : i < 2 ^ 20) (hQ : Q (some (.int (nI (srt tx n i)))) w) : Ct g yX2_sortAt cX2_sortAt 3 (some .int) 2 0 0 [.ref 1, .int (nI i)] w Q := by
  refine Ct.of kX2_sortAt (by omega) (lo := [some (.ref 1), some (.int (nI i)), none]) rfl (px_cat1 rfl) (Nat.le_of_ble_eq_true rfl) ?_
  refine r_iload_n (pc' := 1) dX2_sortAt_0 rfl rfl ?_
  refine r_aload_n (pc' := 2) dX2_sortAt_1 rfl rfl ?_
  refine r_get (pc' := 5) fX2_22 dX2_sortAt_2 rfl r1 rfl ?_
  refine r_icmp_lt (pc' := 8) (P := i < n) (tgt := 10) dX2_sortAt_5 (by decide) rfl (nI_ltI (a := i) (b := n) (by omega) (by omega)) (fun h5 => ?_) (fun h5 => ?_)
  · skip
    refine r_aload_n (pc' := 11) dX2_sortAt_10 rfl rfl ?_
    refine r_get (pc' := 14) fX2_9 dX2_sortAt_11 rfl r1 rfl ?_
    refine r_iload_n (pc' := 15) dX2_sortAt_14 rfl rfl ?_
    refine r_callS (pc' := 18) (av := [.ref 2, .int (nI i)]) (rest := []) kX3_at vX3_at lX2_73 dX2_sortAt_15 rfl rfl rfl ⟨by decide, by decide, by decide⟩ rfl rfl (Nat.le_of_ble_eq_true rfl) (ct_X3_at r2 (by decide) (j := i) (by omega) (rt i (by omega)).1 ?_)
    show Wp g yX2_sortAt cX2_sortAt 3 (some .int) 2 0 0 (px_MQ g Q 0 0) 0 0 18 [some (.ref 1), some (.int (nI i)), none] [.int (nI (tx i))] w
    have t15 := (rt i (by omega)).2
    refine r_istore_n (pc' := 19) (lo' := [some (.ref 1), some (.int (nI i)), some (.int (nI (tx i)))]) dX2_sortAt_18 rfl (by decide) rfl ?_
    refine r_iload_n (pc' := 20) dX2_sortAt_19 rfl rfl ?_
    refine r_bipush (pc' := 22) (v := nI 97) dX2_sortAt_20 rfl rfl ?_
    refine r_icmp_lt (pc' := 25) (P := tx i < 97) (tgt := 33) dX2_sortAt_22 (by decide) rfl (nI_ltI (a := tx i) (b := 97) (by omega) (by omega)) (fun h22 => ?_) (fun h22 => ?_)
    · skip
      refine r_iload_n (pc' := 34) dX2_sortAt_33 rfl rfl ?_
      refine r_bipush (pc' := 36) (v := nI 48) dX2_sortAt_34 rfl rfl ?_
      refine r_icmp_lt (pc' := 39) (P := tx i < 48) (tgt := 47) dX2_sortAt_36 (by decide) rfl (nI_ltI (a := tx i) (b := 48) (by omega) (by omega)) (fun h36 => ?_) (fun h36 => ?_)
      · skip
        refine r_iload_n (pc' := 48) dX2_sortAt_47 rfl rfl ?_
        refine r_bipush (pc' := 50) (v := nI 32) dX2_sortAt_48 rfl rfl ?_
        refine r_icmp_ne (pc' := 53) (P := tx i = 32) (tgt := 57) dX2_sortAt_50 (by decide) rfl (nI_eq (a := tx i) (b := 32) (by omega) (by omega)) (fun h50 => ?_) (fun h50 => ?_)
        · skip
          refine r_iload_n (pc' := 58) dX2_sortAt_57 rfl rfl ?_
          refine r_bipush (pc' := 60) (v := nI 59) dX2_sortAt_58 rfl rfl ?_
          refine r_icmp_ne (pc' := 63) (P := tx i = 59) (tgt := 67) dX2_sortAt_60 (by decide) rfl (nI_eq (a := tx i) (b := 59) (by omega) (by omega)) (fun h60 => ?_) (fun h60 => ?_)
          · skip
            refine r_iconst (pc' := 68) (v := nI 5) dX2_sortAt_67 rfl rfl ?_
            refine r_ireturn dX2_sortAt_68 rfl ?_
            refine px_eqN hQ ?_
            rw [srt_i (by omega)]
            first | exact (cls_1 (by omega)).symm | exact (cls_4 (by omega)).symm | exact (cls_5 (by omega) (by omega) (by omega) (by omega)).symm
          · skip
            refine r_iconst (pc' := 64) (v := nI 4) dX2_sortAt_63 rfl rfl ?_
            refine r_goto (tgt := 68) dX2_sortAt_64 (by decide) ?_
            refine r_ireturn dX2_sortAt_68 rfl ?_
            refine px_eqN hQ ?_
            rw [srt_i (by omega)]
            first | exact (cls_1 (by omega)).symm | exact (cls_4 (by omega)).symm | exact (cls_5 (by omega) (by omega) (by omega) (by omega)).symm
        · skip
          refine r_iconst (pc' := 54) (v := nI 1) dX2_sortAt_53 rfl rfl ?_
          refine r_goto (tgt := 68) dX2_sortAt_54 (by decide) ?_
          refine r_ireturn dX2_sortAt_68 rfl ?_
          refine px_eqN hQ ?_
          rw [srt_i (by omega)]
          first | exact (cls_1 (by omega)).symm | exact (cls_4 (by omega)).symm | exact (cls_5 (by omega) (by omega) (by omega) (by omega)).symm
      · skip
        refine r_iload_n (pc' := 40) dX2_sortAt_39 rfl rfl ?_
        refine r_bipush (pc' := 42) (v := nI 57) dX2_sortAt_40 rfl rfl ?_
        refine r_icmp_gt (pc' := 45) (P := 57 < tx i) (tgt := 47) dX2_sortAt_42 (by decide) rfl (nI_ltI (a := 57) (b := tx i) (by omega) (by omega)) (fun h42 => ?_) (fun h42 => ?_)
        · skip
          refine r_iload_n (pc' := 48) dX2_sortAt_47 rfl rfl ?_
          refine r_bipush (pc' := 50) (v := nI 32) dX2_sortAt_48 rfl rfl ?_
          refine r_icmp_ne (pc' := 53) (P := tx i = 32) (tgt := 57) dX2_sortAt_50 (by decide) rfl (nI_eq (a := tx i) (b := 32) (by omega) (by omega)) (fun h50 => ?_) (fun h50 => ?_)
          · skip
            refine r_iload_n (pc' := 58) dX2_sortAt_57 rfl rfl ?_
            refine r_bipush (pc' := 60) (v := nI 59) dX2_sortAt_58 rfl rfl ?_
            refine r_icmp_ne (pc' := 63) (P := tx i = 59) (tgt := 67) dX2_sortAt_60 (by decide) rfl (nI_eq (a := tx i) (b := 59) (by omega) (by omega)) (fun h60 => ?_) (fun h60 => ?_)
            · skip
              refine r_iconst (pc' := 68) (v := nI 5) dX2_sortAt_67 rfl rfl ?_
              refine r_ireturn dX2_sortAt_68 rfl ?_
              refine px_eqN hQ ?_
              rw [srt_i (by omega)]
              first | exact (cls_1 (by omega)).symm | exact (cls_4 (by omega)).symm | exact (cls_5 (by omega) (by omega) (by omega) (by omega)).symm
            · skip
              refine r_iconst (pc' := 64) (v := nI 4) dX2_sortAt_63 rfl rfl ?_
              refine r_goto (tgt := 68) dX2_sortAt_64 (by decide) ?_
              refine r_ireturn dX2_sortAt_68 rfl ?_
              refine px_eqN hQ ?_
              rw [srt_i (by omega)]
              first | exact (cls_1 (by omega)).symm | exact (cls_4 (by omega)).symm | exact (cls_5 (by omega) (by omega) (by omega) (by omega)).symm
          · skip
            refine r_iconst (pc' := 54) (v := nI 1) dX2_sortAt_53 rfl rfl ?_
            refine r_goto (tgt := 68) dX2_sortAt_54 (by decide) ?_
            refine r_ireturn dX2_sortAt_68 rfl ?_
            refine px_eqN hQ ?_
            rw [srt_i (by omega)]
            first | exact (cls_1 (by omega)).symm | exact (cls_4 (by omega)).symm | exact (cls_5 (by omega) (by omega) (by omega) (by omega)).symm
        · skip
          refine r_iconst (pc' := 46) (v := nI 3) dX2_sortAt_45 rfl rfl ?_
          refine r_ireturn dX2_sortAt_46 rfl ?_
          refine px_eqN hQ ?_
          rw [srt_i (by omega), cls_3 (by omega) (by omega)]
    · skip
      refine r_iload_n (pc' := 26) dX2_sortAt_25 rfl rfl ?_
      refine r_bipush (pc' := 28) (v := nI 122) dX2_sortAt_26 rfl rfl ?_
      refine r_icmp_gt (pc' := 31) (P := 122 < tx i) (tgt := 33) dX2_sortAt_28 (by decide) rfl (nI_ltI (a := 122) (b := tx i) (by omega) (by omega)) (fun h28 => ?_) (fun h28 => ?_)
      · skip
        refine r_iload_n (pc' := 34) dX2_sortAt_33 rfl rfl ?_
        refine r_bipush (pc' := 36) (v := nI 48) dX2_sortAt_34 rfl rfl ?_
        refine r_icmp_lt (pc' := 39) (P := tx i < 48) (tgt := 47) dX2_sortAt_36 (by decide) rfl (nI_ltI (a := tx i) (b := 48) (by omega) (by omega)) (fun h36 => ?_) (fun h36 => ?_)
        · skip
          refine r_iload_n (pc' := 48) dX2_sortAt_47 rfl rfl ?_
          refine r_bipush (pc' := 50) (v := nI 32) dX2_sortAt_48 rfl rfl ?_
          refine r_icmp_ne (pc' := 53) (P := tx i = 32) (tgt := 57) dX2_sortAt_50 (by decide) rfl (nI_eq (a := tx i) (b := 32) (by omega) (by omega)) (fun h50 => ?_) (fun h50 => ?_)
          · skip
            refine r_iload_n (pc' := 58) dX2_sortAt_57 rfl rfl ?_
            refine r_bipush (pc' := 60) (v := nI 59) dX2_sortAt_58 rfl rfl ?_
            refine r_icmp_ne (pc' := 63) (P := tx i = 59) (tgt := 67) dX2_sortAt_60 (by decide) rfl (nI_eq (a := tx i) (b := 59) (by omega) (by omega)) (fun h60 => ?_) (fun h60 => ?_)
            · skip
              refine r_iconst (pc' := 68) (v := nI 5) dX2_sortAt_67 rfl rfl ?_
              refine r_ireturn dX2_sortAt_68 rfl ?_
              refine px_eqN hQ ?_
              rw [srt_i (by omega)]
              first | exact (cls_1 (by omega)).symm | exact (cls_4 (by omega)).symm | exact (cls_5 (by omega) (by omega) (by omega) (by omega)).symm
            · skip
              refine r_iconst (pc' := 64) (v := nI 4) dX2_sortAt_63 rfl rfl ?_
              refine r_goto (tgt := 68) dX2_sortAt_64 (by decide) ?_
              refine r_ireturn dX2_sortAt_68 rfl ?_
              refine px_eqN hQ ?_
              rw [srt_i (by omega)]
              first | exact (cls_1 (by omega)).symm | exact (cls_4 (by omega)).symm | exact (cls_5 (by omega) (by omega) (by omega) (by omega)).symm
          · skip
            refine r_iconst (pc' := 54) (v := nI 1) dX2_sortAt_53 rfl rfl ?_
            refine r_goto (tgt := 68) dX2_sortAt_54 (by decide) ?_
            refine r_ireturn dX2_sortAt_68 rfl ?_
            refine px_eqN hQ ?_
            rw [srt_i (by omega)]
            first | exact (cls_1 (by omega)).symm | exact (cls_4 (by omega)).symm | exact (cls_5 (by omega) (by omega) (by omega) (by omega)).symm
        · skip
          refine r_iload_n (pc' := 40) dX2_sortAt_39 rfl rfl ?_
          refine r_bipush (pc' := 42) (v := nI 57) dX2_sortAt_40 rfl rfl ?_
          refine r_icmp_gt (pc' := 45) (P := 57 < tx i) (tgt := 47) dX2_sortAt_42 (by decide) rfl (nI_ltI (a := 57) (b := tx i) (by omega) (by omega)) (fun h42 => ?_) (fun h42 => ?_)
          · skip
            refine r_iload_n (pc' := 48) dX2_sortAt_47 rfl rfl ?_
            refine r_bipush (pc' := 50) (v := nI 32) dX2_sortAt_48 rfl rfl ?_
            refine r_icmp_ne (pc' := 53) (P := tx i = 32) (tgt := 57) dX2_sortAt_50 (by decide) rfl (nI_eq (a := tx i) (b := 32) (by omega) (by omega)) (fun h50 => ?_) (fun h50 => ?_)
            · skip
              refine r_iload_n (pc' := 58) dX2_sortAt_57 rfl rfl ?_
              refine r_bipush (pc' := 60) (v := nI 59) dX2_sortAt_58 rfl rfl ?_
              refine r_icmp_ne (pc' := 63) (P := tx i = 59) (tgt := 67) dX2_sortAt_60 (by decide) rfl (nI_eq (a := tx i) (b := 59) (by omega) (by omega)) (fun h60 => ?_) (fun h60 => ?_)
              · skip
                refine r_iconst (pc' := 68) (v := nI 5) dX2_sortAt_67 rfl rfl ?_
                refine r_ireturn dX2_sortAt_68 rfl ?_
                refine px_eqN hQ ?_
                rw [srt_i (by omega)]
                first | exact (cls_1 (by omega)).symm | exact (cls_4 (by omega)).symm | exact (cls_5 (by omega) (by omega) (by omega) (by omega)).symm
              · skip
                refine r_iconst (pc' := 64) (v := nI 4) dX2_sortAt_63 rfl rfl ?_
                refine r_goto (tgt := 68) dX2_sortAt_64 (by decide) ?_
                refine r_ireturn dX2_sortAt_68 rfl ?_
                refine px_eqN hQ ?_
                rw [srt_i (by omega)]
                first | exact (cls_1 (by omega)).symm | exact (cls_4 (by omega)).symm | exact (cls_5 (by omega) (by omega) (by omega) (by omega)).symm
            · skip
              refine r_iconst (pc' := 54) (v := nI 1) dX2_sortAt_53 rfl rfl ?_
              refine r_goto (tgt := 68) dX2_sortAt_54 (by decide) ?_
              refine r_ireturn dX2_sortAt_68 rfl ?_
              refine px_eqN hQ ?_
              rw [srt_i (by omega)]
              first | exact (cls_1 (by omega)).symm | exact (cls_4 (by omega)).symm | exact (cls_5 (by omega) (by omega) (by omega) (by omega)).symm
          · skip
            refine r_iconst (pc' := 46) (v := nI 3) dX2_sortAt_45 rfl rfl ?_
            refine r_ireturn dX2_sortAt_46 rfl ?_
            refine px_eqN hQ ?_
            rw [srt_i (by omega), cls_3 (by omega) (by omega)]
      · skip
        refine r_iconst (pc' := 32) (v := nI 2) dX2_sortAt_31 rfl rfl ?_
        refine r_ireturn dX2_sortAt_32 rfl ?_
        refine px_eqN hQ ?_
        rw [srt_i (by omega), cls_2 (by omega) (by omega)]
  · skip
    refine r_iconst (pc' := 9) (v := nI 0) dX2_sortAt_8 rfl rfl ?_
    refine r_ireturn dX2_sortAt_9 rfl ?_
    refine px_eqN hQ ?_
    rw [srt_0.mpr (by omega)]
set_option maxHeartbeats 200000 in
theorem ct_X2_next {g : px_G} {w : px_W} {Q : px_Q} {n e c s v : Nat} {tx : Nat → Nat} {fs : Nat → Int32} (r1 : w[1]? = some (rdc n e c s v)) (r2 : w[2]? = some (.inl (0, 150, .inl fs))) (rt : ∀ j, j < n → fs j = nI (tx j) ∧ tx j < 256) (hn : n ≤ 150) (he : e ≤ n) (hQ : Q none (w.set 1 (rdc n (tE tx n e) (tC tx n e) (tS tx n e) (tV tx n e)))) : Ct g yX2_next cX2_next 1 none 3 0 0 [.ref 1] w Q := by
  refine Ct.of kX2_next (by omega) (lo := [some (.ref 1)]) rfl (px_cat1 rfl) (Nat.le_of_ble_eq_true rfl) ?_
  have L0 : ∀ (fu : Nat) (p : Nat), n - p < fu → p ≤ n → runP tx n 1 p = tS tx n e → Wp g yX2_next cX2_next 1 none 3 0 0 (px_MQ g Q 0 0) 0 0 0 [some (.ref 1)] [] (w.set 1 (rdc n p c s v)) := by
    intro fu; induction fu with
    | zero => intro p hm; exact absurd hm (Nat.not_lt_zero _)
    | succ fu ih =>
      intro p hm hp hI
      have ih0 := ih; clear ih
      refine r_aload_n (pc' := 1) dX2_next_0 rfl rfl ?_
      refine r_get (pc' := 4) fX2_35 dX2_next_1 rfl (gs_eq r1) rfl ?_
      refine r_aload_n (pc' := 5) dX2_next_4 rfl rfl ?_
      refine r_get (pc' := 8) fX2_22 dX2_next_5 rfl (gs_eq r1) rfl ?_
      refine r_icmp_ge (pc' := 11) (P := n ≤ p) (tgt := 36) dX2_next_8 (by decide) rfl (nI_leI (a := n) (b := p) (by omega) (by omega)) (fun h8 => ?_) (fun h8 => ?_)
      · have hS : tS tx n e = p := by rw [← hI, run_f (by rw [srt_0.mpr h8]; decide)]
        obtain rfl : p = tS tx n e := hS.symm
        refine r_aload_n (pc' := 37) dX2_next_36 rfl rfl ?_
        refine r_aload_n (pc' := 38) dX2_next_37 rfl rfl ?_
        refine r_get (pc' := 41) fX2_35 dX2_next_38 rfl (gs_eq r1) rfl ?_
        refine r_put (pc' := 44) (ty := .int) (c' := .inr (2, [.ref 2, .int (nI n), .ref 3, .int (nI ((tS tx n e))), .int (nI c), .int (nI ((tS tx n e))), .int (nI v)])) fX2_48 dX2_next_41 rfl (gs_eq r1) (Nat.le_of_ble_eq_true rfl) rfl (by decide +kernel) rfl rfl rfl ?_
        refine r_aload_n (pc' := 45) dX2_next_44 rfl rfl ?_
        refine r_aload_n (pc' := 46) dX2_next_45 rfl rfl ?_
        refine r_aload_n (pc' := 47) dX2_next_46 rfl rfl ?_
        refine r_get (pc' := 50) fX2_35 dX2_next_47 rfl (gs_eq (gs_eq r1)) rfl ?_
        refine r_callV (pc' := 53) (av := [.int (nI ((tS tx n e)))]) (rest := [.ref 1]) kX2_sortAt vX2_sortAt lX2_98 dX2_next_50 rfl (gs_eq (gs_eq r1)) rfl rfl rfl ⟨by decide, by decide, by decide⟩ rfl rfl (Nat.le_of_ble_eq_true rfl) (ct_X2_sortAt (gs_eq (gs_eq r1)) (gs_ne (gs_ne r2 (by decide)) (by decide)) rt hn (i := (tS tx n e)) (by omega) ?_)
        show Wp g yX2_next cX2_next 1 none 3 0 0 (px_MQ g Q 0 0) 0 0 53 [some (.ref 1)] [.int (nI ((tC tx n e))), .ref 1] ((w.set 1 (rdc n (tS tx n e) c s v)).set 1 (.inr (2, [.ref 2, .int (nI n), .ref 3, .int (nI ((tS tx n e))), .int (nI c), .int (nI ((tS tx n e))), .int (nI v)])))
        have z50 := tC_b tx n e
        refine r_put (pc' := 56) (ty := .int) (c' := .inr (2, [.ref 2, .int (nI n), .ref 3, .int (nI ((tS tx n e))), .int (nI ((tC tx n e))), .int (nI ((tS tx n e))), .int (nI v)])) fX2_41 dX2_next_53 rfl (gs_eq (gs_eq r1)) (Nat.le_of_ble_eq_true rfl) rfl (by decide +kernel) rfl rfl rfl ?_
        refine r_aload_n (pc' := 57) dX2_next_56 rfl rfl ?_
        refine r_iconst (pc' := 58) (v := nI 0) dX2_next_57 rfl rfl ?_
        refine r_put (pc' := 61) (ty := .int) (c' := .inr (2, [.ref 2, .int (nI n), .ref 3, .int (nI ((tS tx n e))), .int (nI ((tC tx n e))), .int (nI ((tS tx n e))), .int (nI 0)])) fX2_95 dX2_next_58 rfl (gs_eq (gs_eq (gs_eq r1))) (Nat.le_of_ble_eq_true rfl) rfl (by decide +kernel) rfl rfl rfl ?_
        refine r_aload_n (pc' := 62) dX2_next_61 rfl rfl ?_
        refine r_get (pc' := 65) fX2_41 dX2_next_62 rfl (gs_eq (gs_eq (gs_eq (gs_eq r1)))) rfl ?_
        refine r_iconst (pc' := 66) (v := nI 3) dX2_next_65 rfl rfl ?_
        refine r_icmp_eq (pc' := 69) (P := (tC tx n e) = 3) (tgt := 77) dX2_next_66 (by decide) rfl (nI_eq (a := (tC tx n e)) (b := 3) (by omega) (by omega)) (fun h66 => ?_) (fun h66 => ?_)
        · skip
          have L77 : ∀ (fu : Nat) (q : Nat), n - q < fu → q ≤ n → (tS tx n e) ≤ q → runP tx n (tC tx n e) q = runP tx n (tC tx n e) (tS tx n e) → Wp g yX2_next cX2_next 1 none 3 0 0 (px_MQ g Q 0 0) 0 0 77 [some (.ref 1)] [] (w.set 1 (rdc n q (tC tx n e) (tS tx n e) (cap (numM tx (tS tx n e) (q - (tS tx n e)))))) := by
            intro fu; induction fu with
            | zero => intro q hm; exact absurd hm (Nat.not_lt_zero _)
            | succ fu ih =>
              intro q hm hq hSq hJ
              have hcp := cap_le (numM tx (tS tx n e) (q - (tS tx n e)))
              have ih77 := ih; clear ih
              refine r_aload_n (pc' := 78) dX2_next_77 rfl rfl ?_
              refine r_get (pc' := 81) fX2_35 dX2_next_78 rfl (gs_eq r1) rfl ?_
              refine r_aload_n (pc' := 82) dX2_next_81 rfl rfl ?_
              refine r_get (pc' := 85) fX2_22 dX2_next_82 rfl (gs_eq r1) rfl ?_
              refine r_icmp_ge (pc' := 88) (P := n ≤ q) (tgt := 159) dX2_next_85 (by decide) rfl (nI_leI (a := n) (b := q) (by omega) (by omega)) (fun h85 => ?_) (fun h85 => ?_)
              · skip
                have hE : tE tx n e = q := by rw [tE, if_pos (by omega), ← hJ]; exact run_f (by first | exact h100 | (rw [srt_0.mpr (by omega)]; omega))
                obtain rfl : q = tE tx n e := hE.symm
                refine r_aload_n (pc' := 160) dX2_next_159 rfl rfl ?_
                refine r_get (pc' := 163) fX2_9 dX2_next_160 rfl (gs_eq r1) rfl ?_
                refine r_aload_n (pc' := 164) dX2_next_163 rfl rfl ?_
                refine r_get (pc' := 167) fX2_48 dX2_next_164 rfl (gs_eq r1) rfl ?_
                have hS1 : tS tx n e < n := by have := mt tC_0.mpr (show ¬ tC tx n e = 0 by omega); omega
                refine r_callS (pc' := 170) (av := [.ref 2, .int (nI ((tS tx n e)))]) (rest := []) kX3_at vX3_at lX2_73 dX2_next_167 rfl rfl rfl ⟨by decide, by decide, by decide⟩ rfl rfl (Nat.le_of_ble_eq_true rfl) (ct_X3_at (gs_ne r2 (by decide)) (by decide) (j := (tS tx n e)) (by omega) (rt ((tS tx n e)) (by omega)).1 ?_)
                show Wp g yX2_next cX2_next 1 none 3 0 0 (px_MQ g Q 0 0) 0 0 170 [some (.ref 1)] [.int (nI (tx ((tS tx n e))))] (w.set 1 (rdc n (tE tx n e) (tC tx n e) (tS tx n e) (cap (numM tx (tS tx n e) ((tE tx n e) - (tS tx n e))))))
                have t167 := (rt ((tS tx n e)) (by omega)).2
                refine r_bipush (pc' := 172) (v := nI 48) dX2_next_170 rfl rfl ?_
                refine r_icmp_ne (pc' := 175) (P := tx ((tS tx n e)) = 48) (tgt := 214) dX2_next_172 (by decide) rfl (nI_eq (a := tx ((tS tx n e))) (b := 48) (by omega) (by omega)) (fun h172 => ?_) (fun h172 => ?_)
                · skip
                  refine r_return dX2_next_214 rfl ?_
                  have hV : tV tx n e = cap (numM tx (tS tx n e) ((tE tx n e) - (tS tx n e))) := by first | (rw [tV, if_neg (by omega)]; done) | (rw [tV, if_pos (by omega), tB]; simp [h172, h185]; done) | (rw [tV, if_pos (by omega), tB]; simp [h172]; done) | (rw [tV, if_pos (by omega), tB, if_neg (by simp; omega)]; done) | (rw [tV, if_pos (by omega), tB, if_pos (by simp; omega)]; done)
                  have hE2 : tE tx n e = (tE tx n e) := by first | rfl | (rw [tE, if_neg (by omega), if_pos (by omega)]; done) | (rw [tE, if_neg (by omega), if_neg (by omega)]; done)
                  (try simp only [gs_set])
                  rw [hV, hE2] at hQ
                  exact hQ
                · skip
                  refine r_aload_n (pc' := 176) dX2_next_175 rfl rfl ?_
                  refine r_get (pc' := 179) fX2_35 dX2_next_176 rfl (gs_eq r1) rfl ?_
                  refine r_aload_n (pc' := 180) dX2_next_179 rfl rfl ?_
                  refine r_get (pc' := 183) fX2_48 dX2_next_180 rfl (gs_eq r1) rfl ?_
                  refine r_isub (pc' := 184) (v := nI ((tE tx n e) - ((tS tx n e)))) dX2_next_183 rfl (pk_sub (a := (tE tx n e)) (b := (tS tx n e)) (by omega)) ?_
                  refine r_iconst (pc' := 185) (v := nI 1) dX2_next_184 rfl rfl ?_
                  refine r_icmp_le (pc' := 188) (P := (tE tx n e) - ((tS tx n e)) ≤ 1) (tgt := 214) dX2_next_185 (by decide) rfl (nI_leI (a := (tE tx n e) - ((tS tx n e))) (b := 1) (by omega) (by omega)) (fun h185 => ?_) (fun h185 => ?_)
                  · skip
                    refine r_return dX2_next_214 rfl ?_
                    have hV : tV tx n e = cap (numM tx (tS tx n e) ((tE tx n e) - (tS tx n e))) := by first | (rw [tV, if_neg (by omega)]; done) | (rw [tV, if_pos (by omega), tB]; simp [h172, h185]; done) | (rw [tV, if_pos (by omega), tB]; simp [h172]; done) | (rw [tV, if_pos (by omega), tB, if_neg (by simp; omega)]; done) | (rw [tV, if_pos (by omega), tB, if_pos (by simp; omega)]; done)
                    have hE2 : tE tx n e = (tE tx n e) := by first | rfl | (rw [tE, if_neg (by omega), if_pos (by omega)]; done) | (rw [tE, if_neg (by omega), if_neg (by omega)]; done)
                    (try simp only [gs_set])
                    rw [hV, hE2] at hQ
                    exact hQ
                  · skip
                    refine r_aload_n (pc' := 189) dX2_next_188 rfl rfl ?_
                    refine r_bipush (pc' := 191) (v := nI 100) dX2_next_189 rfl rfl ?_
                    refine r_put (pc' := 194) (ty := .int) (c' := .inr (2, [.ref 2, .int (nI n), .ref 3, .int (nI ((tE tx n e))), .int (nI ((tC tx n e))), .int (nI ((tS tx n e))), .int (nI 100)])) fX2_95 dX2_next_191 rfl (gs_eq r1) (Nat.le_of_ble_eq_true rfl) rfl (by decide +kernel) rfl rfl rfl ?_
                    refine r_goto (tgt := 214) dX2_next_194 (by decide) ?_
                    refine r_return dX2_next_214 rfl ?_
                    have hV : tV tx n e = 100 := by first | (rw [tV, if_neg (by omega)]; done) | (rw [tV, if_pos (by omega), tB]; simp [h172, h185]; done) | (rw [tV, if_pos (by omega), tB]; simp [h172]; done) | (rw [tV, if_pos (by omega), tB, if_neg (by simp; omega)]; done) | (rw [tV, if_pos (by omega), tB, if_pos (by simp; omega)]; done)
                    have hE2 : tE tx n e = (tE tx n e) := by first | rfl | (rw [tE, if_neg (by omega), if_pos (by omega)]; done) | (rw [tE, if_neg (by omega), if_neg (by omega)]; done)
                    (try simp only [gs_set])
                    rw [hV, hE2] at hQ
                    exact hQ
              · have hSn : (tS tx n e) < n := by omega
                refine r_aload_n (pc' := 89) dX2_next_88 rfl rfl ?_
                refine r_aload_n (pc' := 90) dX2_next_89 rfl rfl ?_
                refine r_get (pc' := 93) fX2_35 dX2_next_90 rfl (gs_eq r1) rfl ?_
                refine r_callV (pc' := 96) (av := [.int (nI q)]) (rest := []) kX2_sortAt vX2_sortAt lX2_98 dX2_next_93 rfl (gs_eq r1) rfl rfl rfl ⟨by decide, by decide, by decide⟩ rfl rfl (Nat.le_of_ble_eq_true rfl) (ct_X2_sortAt (gs_eq r1) (gs_ne r2 (by decide)) rt hn (i := q) (by omega) ?_)
                show Wp g yX2_next cX2_next 1 none 3 0 0 (px_MQ g Q 0 0) 0 0 96 [some (.ref 1)] [.int (nI (srt tx n q))] (w.set 1 (rdc n q (tC tx n e) (tS tx n e) (cap (numM tx (tS tx n e) (q - (tS tx n e))))))
                have z93 := srt_b tx n q
                refine r_aload_n (pc' := 97) dX2_next_96 rfl rfl ?_
                refine r_get (pc' := 100) fX2_41 dX2_next_97 rfl (gs_eq r1) rfl ?_
                refine r_icmp_ne (pc' := 103) (P := srt tx n q = (tC tx n e)) (tgt := 159) dX2_next_100 (by decide) rfl (nI_eq (a := srt tx n q) (b := (tC tx n e)) (by omega) (by omega)) (fun h100 => ?_) (fun h100 => ?_)
                · skip
                  have hE : tE tx n e = q := by rw [tE, if_pos (by omega), ← hJ]; exact run_f (by first | exact h100 | (rw [srt_0.mpr (by omega)]; omega))
                  obtain rfl : q = tE tx n e := hE.symm
                  refine r_aload_n (pc' := 160) dX2_next_159 rfl rfl ?_
                  refine r_get (pc' := 163) fX2_9 dX2_next_160 rfl (gs_eq r1) rfl ?_
                  refine r_aload_n (pc' := 164) dX2_next_163 rfl rfl ?_
                  refine r_get (pc' := 167) fX2_48 dX2_next_164 rfl (gs_eq r1) rfl ?_
                  have hS1 : tS tx n e < n := by have := mt tC_0.mpr (show ¬ tC tx n e = 0 by omega); omega
                  refine r_callS (pc' := 170) (av := [.ref 2, .int (nI ((tS tx n e)))]) (rest := []) kX3_at vX3_at lX2_73 dX2_next_167 rfl rfl rfl ⟨by decide, by decide, by decide⟩ rfl rfl (Nat.le_of_ble_eq_true rfl) (ct_X3_at (gs_ne r2 (by decide)) (by decide) (j := (tS tx n e)) (by omega) (rt ((tS tx n e)) (by omega)).1 ?_)
                  show Wp g yX2_next cX2_next 1 none 3 0 0 (px_MQ g Q 0 0) 0 0 170 [some (.ref 1)] [.int (nI (tx ((tS tx n e))))] (w.set 1 (rdc n (tE tx n e) (tC tx n e) (tS tx n e) (cap (numM tx (tS tx n e) ((tE tx n e) - (tS tx n e))))))
                  have t167 := (rt ((tS tx n e)) (by omega)).2
                  refine r_bipush (pc' := 172) (v := nI 48) dX2_next_170 rfl rfl ?_
                  refine r_icmp_ne (pc' := 175) (P := tx ((tS tx n e)) = 48) (tgt := 214) dX2_next_172 (by decide) rfl (nI_eq (a := tx ((tS tx n e))) (b := 48) (by omega) (by omega)) (fun h172 => ?_) (fun h172 => ?_)
                  · skip
                    refine r_return dX2_next_214 rfl ?_
                    have hV : tV tx n e = cap (numM tx (tS tx n e) ((tE tx n e) - (tS tx n e))) := by first | (rw [tV, if_neg (by omega)]; done) | (rw [tV, if_pos (by omega), tB]; simp [h172, h185]; done) | (rw [tV, if_pos (by omega), tB]; simp [h172]; done) | (rw [tV, if_pos (by omega), tB, if_neg (by simp; omega)]; done) | (rw [tV, if_pos (by omega), tB, if_pos (by simp; omega)]; done)
                    have hE2 : tE tx n e = (tE tx n e) := by first | rfl | (rw [tE, if_neg (by omega), if_pos (by omega)]; done) | (rw [tE, if_neg (by omega), if_neg (by omega)]; done)
                    (try simp only [gs_set])
                    rw [hV, hE2] at hQ
                    exact hQ
                  · skip
                    refine r_aload_n (pc' := 176) dX2_next_175 rfl rfl ?_
                    refine r_get (pc' := 179) fX2_35 dX2_next_176 rfl (gs_eq r1) rfl ?_
                    refine r_aload_n (pc' := 180) dX2_next_179 rfl rfl ?_
                    refine r_get (pc' := 183) fX2_48 dX2_next_180 rfl (gs_eq r1) rfl ?_
                    refine r_isub (pc' := 184) (v := nI ((tE tx n e) - ((tS tx n e)))) dX2_next_183 rfl (pk_sub (a := (tE tx n e)) (b := (tS tx n e)) (by omega)) ?_
                    refine r_iconst (pc' := 185) (v := nI 1) dX2_next_184 rfl rfl ?_
                    refine r_icmp_le (pc' := 188) (P := (tE tx n e) - ((tS tx n e)) ≤ 1) (tgt := 214) dX2_next_185 (by decide) rfl (nI_leI (a := (tE tx n e) - ((tS tx n e))) (b := 1) (by omega) (by omega)) (fun h185 => ?_) (fun h185 => ?_)
                    · skip
                      refine r_return dX2_next_214 rfl ?_
                      have hV : tV tx n e = cap (numM tx (tS tx n e) ((tE tx n e) - (tS tx n e))) := by first | (rw [tV, if_neg (by omega)]; done) | (rw [tV, if_pos (by omega), tB]; simp [h172, h185]; done) | (rw [tV, if_pos (by omega), tB]; simp [h172]; done) | (rw [tV, if_pos (by omega), tB, if_neg (by simp; omega)]; done) | (rw [tV, if_pos (by omega), tB, if_pos (by simp; omega)]; done)
                      have hE2 : tE tx n e = (tE tx n e) := by first | rfl | (rw [tE, if_neg (by omega), if_pos (by omega)]; done) | (rw [tE, if_neg (by omega), if_neg (by omega)]; done)
                      (try simp only [gs_set])
                      rw [hV, hE2] at hQ
                      exact hQ
                    · skip
                      refine r_aload_n (pc' := 189) dX2_next_188 rfl rfl ?_
                      refine r_bipush (pc' := 191) (v := nI 100) dX2_next_189 rfl rfl ?_
                      refine r_put (pc' := 194) (ty := .int) (c' := .inr (2, [.ref 2, .int (nI n), .ref 3, .int (nI ((tE tx n e))), .int (nI ((tC tx n e))), .int (nI ((tS tx n e))), .int (nI 100)])) fX2_95 dX2_next_191 rfl (gs_eq r1) (Nat.le_of_ble_eq_true rfl) rfl (by decide +kernel) rfl rfl rfl ?_
                      refine r_goto (tgt := 214) dX2_next_194 (by decide) ?_
                      refine r_return dX2_next_214 rfl ?_
                      have hV : tV tx n e = 100 := by first | (rw [tV, if_neg (by omega)]; done) | (rw [tV, if_pos (by omega), tB]; simp [h172, h185]; done) | (rw [tV, if_pos (by omega), tB]; simp [h172]; done) | (rw [tV, if_pos (by omega), tB, if_neg (by simp; omega)]; done) | (rw [tV, if_pos (by omega), tB, if_pos (by simp; omega)]; done)
                      have hE2 : tE tx n e = (tE tx n e) := by first | rfl | (rw [tE, if_neg (by omega), if_pos (by omega)]; done) | (rw [tE, if_neg (by omega), if_neg (by omega)]; done)
                      (try simp only [gs_set])
                      rw [hV, hE2] at hQ
                      exact hQ
                · have h100' : cls (tx q) = tC tx n e := by rw [← srt_i (show q < n by omega)]; exact h100
                  refine r_aload_n (pc' := 104) dX2_next_103 rfl rfl ?_
                  refine r_aload_n (pc' := 105) dX2_next_104 rfl rfl ?_
                  refine r_get (pc' := 108) fX2_41 dX2_next_105 rfl (gs_eq r1) rfl ?_
                  refine r_iconst (pc' := 109) (v := nI 2) dX2_next_108 rfl rfl ?_
                  refine r_icmp_ne (pc' := 112) (P := (tC tx n e) = 2) (tgt := 116) dX2_next_109 (by decide) rfl (nI_eq (a := (tC tx n e)) (b := 2) (by omega) (by omega)) (fun h109 => ?_) (fun h109 => ?_)
                  · rw [h66] at h100'
                    have hdg := cls_3i h100'
                    refine r_bipush (pc' := 118) (v := nI 100) dX2_next_116 rfl rfl ?_
                    refine r_aload_n (pc' := 119) dX2_next_118 rfl rfl ?_
                    refine r_get (pc' := 122) fX2_95 dX2_next_119 rfl (gs_eq r1) rfl ?_
                    refine r_bipush (pc' := 124) (v := nI 10) dX2_next_122 rfl rfl ?_
                    refine r_imul (pc' := 125) (v := nI ((cap (numM tx (tS tx n e) (q - (tS tx n e)))) * 10)) dX2_next_124 rfl (pk_mul (cap (numM tx (tS tx n e) (q - (tS tx n e)))) 10) ?_
                    refine r_aload_n (pc' := 126) dX2_next_125 rfl rfl ?_
                    refine r_get (pc' := 129) fX2_9 dX2_next_126 rfl (gs_eq r1) rfl ?_
                    refine r_aload_n (pc' := 130) dX2_next_129 rfl rfl ?_
                    refine r_get (pc' := 133) fX2_35 dX2_next_130 rfl (gs_eq r1) rfl ?_
                    refine r_callS (pc' := 136) (av := [.ref 2, .int (nI q)]) (rest := [.int (nI ((cap (numM tx (tS tx n e) (q - (tS tx n e)))) * 10)), .int (nI 100), .ref 1]) kX3_at vX3_at lX2_73 dX2_next_133 rfl rfl rfl ⟨by decide, by decide, by decide⟩ rfl rfl (Nat.le_of_ble_eq_true rfl) (ct_X3_at (gs_ne r2 (by decide)) (by decide) (j := q) (by omega) (rt q (by omega)).1 ?_)
                    show Wp g yX2_next cX2_next 1 none 3 0 0 (px_MQ g Q 0 0) 0 0 136 [some (.ref 1)] [.int (nI (tx q)), .int (nI ((cap (numM tx (tS tx n e) (q - (tS tx n e)))) * 10)), .int (nI 100), .ref 1] (w.set 1 (rdc n q (tC tx n e) (tS tx n e) (cap (numM tx (tS tx n e) (q - (tS tx n e))))))
                    have t133 := (rt q (by omega)).2
                    refine r_iadd (pc' := 137) (v := nI ((cap (numM tx (tS tx n e) (q - (tS tx n e)))) * 10 + (tx q))) dX2_next_136 rfl (nI_add ((cap (numM tx (tS tx n e) (q - (tS tx n e)))) * 10) (tx q)) ?_
                    refine r_bipush (pc' := 139) (v := nI 48) dX2_next_137 rfl rfl ?_
                    refine r_isub (pc' := 140) (v := nI ((cap (numM tx (tS tx n e) (q - (tS tx n e)))) * 10 + (tx q) - 48)) dX2_next_139 rfl (pk_sub (a := (cap (numM tx (tS tx n e) (q - (tS tx n e)))) * 10 + (tx q)) (b := 48) (by omega)) ?_
                    refine r_mmin (pc' := 143) (v := nI (cap (numM tx (tS tx n e) (q + 1 - (tS tx n e))))) lX2_102 mS_min mI mC_min dX2_next_140 rfl ((mn_n (by omega) (by omega)).trans (congrArg nI (by rw [show q + 1 - (tS tx n e) = q - (tS tx n e) + 1 by omega, numM, show (tS tx n e) + (q - (tS tx n e)) = q by omega]; exact cap_s (cls_3i h100').1 (cls_3i h100').2))) ⟨by decide, by decide⟩ (Nat.le_of_ble_eq_true rfl) ?_
                    refine r_put (pc' := 146) (ty := .int) (c' := .inr (2, [.ref 2, .int (nI n), .ref 3, .int (nI q), .int (nI ((tC tx n e))), .int (nI ((tS tx n e))), .int (nI (cap (numM tx (tS tx n e) (q + 1 - (tS tx n e)))))])) fX2_95 dX2_next_143 rfl (gs_eq r1) (Nat.le_of_ble_eq_true rfl) rfl (by decide +kernel) rfl rfl rfl ?_
                    refine r_aload_n (pc' := 147) dX2_next_146 rfl rfl ?_
                    refine r_dup (pc' := 148) dX2_next_147 rfl rfl ?_
                    refine r_get (pc' := 151) fX2_35 dX2_next_148 rfl (gs_eq (gs_eq r1)) rfl ?_
                    refine r_iconst (pc' := 152) (v := nI 1) dX2_next_151 rfl rfl ?_
                    refine r_iadd (pc' := 153) (v := nI (q + 1)) dX2_next_152 rfl (nI_add q 1) ?_
                    refine r_put (pc' := 156) (ty := .int) (c' := .inr (2, [.ref 2, .int (nI n), .ref 3, .int (nI (q + 1)), .int (nI ((tC tx n e))), .int (nI ((tS tx n e))), .int (nI (cap (numM tx (tS tx n e) (q + 1 - (tS tx n e)))))])) fX2_35 dX2_next_153 rfl (gs_eq (gs_eq r1)) (Nat.le_of_ble_eq_true rfl) rfl (by decide +kernel) rfl rfl rfl ?_
                    refine r_goto (tgt := 77) dX2_next_156 (by decide) ?_
                    (try simp only [gs_set])
                    exact ih77 (q + 1) (by omega) (by omega) (by omega) (by rw [← hJ, ← run_t (by omega) (by omega)])
                  · skip
                    exfalso; omega
          have L0 := L77 (n - (tS tx n e) + 1) (tS tx n e) (by omega) (by omega) (Nat.le_refl _) rfl
          rw [show cap (numM tx (tS tx n e) ((tS tx n e) - (tS tx n e))) = 0 by rw [Nat.sub_self]; rfl] at L0
          (try simp only [gs_set]); (try simp only [gs_set] at L0); exact L0
        · skip
          refine r_aload_n (pc' := 70) dX2_next_69 rfl rfl ?_
          refine r_get (pc' := 73) fX2_41 dX2_next_70 rfl (gs_eq (gs_eq (gs_eq (gs_eq r1)))) rfl ?_
          refine r_iconst (pc' := 74) (v := nI 2) dX2_next_73 rfl rfl ?_
          refine r_icmp_ne (pc' := 77) (P := (tC tx n e) = 2) (tgt := 197) dX2_next_74 (by decide) rfl (nI_eq (a := (tC tx n e)) (b := 2) (by omega) (by omega)) (fun h74 => ?_) (fun h74 => ?_)
          · skip
            refine r_aload_n (pc' := 198) dX2_next_197 rfl rfl ?_
            refine r_get (pc' := 201) fX2_41 dX2_next_198 rfl (gs_eq (gs_eq (gs_eq (gs_eq r1)))) rfl ?_
            refine r_if_eq (pc' := 204) (P := (tC tx n e) = 0) (tgt := 214) dX2_next_201 (by decide) rfl (nI_eq0 (n := (tC tx n e)) (by omega)) (fun h201 => ?_) (fun h201 => ?_)
            · skip
              refine r_return dX2_next_214 rfl ?_
              have hV : tV tx n e = 0 := by first | (rw [tV, if_neg (by omega)]; done) | (rw [tV, if_pos (by omega), tB]; simp [h172, h185]; done) | (rw [tV, if_pos (by omega), tB]; simp [h172]; done) | (rw [tV, if_pos (by omega), tB, if_neg (by simp; omega)]; done) | (rw [tV, if_pos (by omega), tB, if_pos (by simp; omega)]; done)
              have hE2 : tE tx n e = (tS tx n e) := by first | rfl | (rw [tE, if_neg (by omega), if_pos (by omega)]; done) | (rw [tE, if_neg (by omega), if_neg (by omega)]; done)
              (try simp only [gs_set])
              rw [hV, hE2] at hQ
              exact hQ
            · skip
              refine r_aload_n (pc' := 205) dX2_next_204 rfl rfl ?_
              refine r_dup (pc' := 206) dX2_next_205 rfl rfl ?_
              refine r_get (pc' := 209) fX2_35 dX2_next_206 rfl (gs_eq (gs_eq (gs_eq (gs_eq r1)))) rfl ?_
              refine r_iconst (pc' := 210) (v := nI 1) dX2_next_209 rfl rfl ?_
              refine r_iadd (pc' := 211) (v := nI ((tS tx n e) + 1)) dX2_next_210 rfl (nI_add ((tS tx n e)) 1) ?_
              refine r_put (pc' := 214) (ty := .int) (c' := .inr (2, [.ref 2, .int (nI n), .ref 3, .int (nI ((tS tx n e) + 1)), .int (nI ((tC tx n e))), .int (nI ((tS tx n e))), .int (nI 0)])) fX2_35 dX2_next_211 rfl (gs_eq (gs_eq (gs_eq (gs_eq r1)))) (Nat.le_of_ble_eq_true rfl) rfl (by decide +kernel) rfl rfl rfl ?_
              refine r_return dX2_next_214 rfl ?_
              have hV : tV tx n e = 0 := by first | (rw [tV, if_neg (by omega)]; done) | (rw [tV, if_pos (by omega), tB]; simp [h172, h185]; done) | (rw [tV, if_pos (by omega), tB]; simp [h172]; done) | (rw [tV, if_pos (by omega), tB, if_neg (by simp; omega)]; done) | (rw [tV, if_pos (by omega), tB, if_pos (by simp; omega)]; done)
              have hE2 : tE tx n e = (tS tx n e) + 1 := by first | rfl | (rw [tE, if_neg (by omega), if_pos (by omega)]; done) | (rw [tE, if_neg (by omega), if_neg (by omega)]; done)
              (try simp only [gs_set])
              rw [hV, hE2] at hQ
              exact hQ
          · have hc2 : tC tx n e = 2 := by omega
            have L77 : ∀ (fu : Nat) (q : Nat), n - q < fu → q ≤ n → (tS tx n e) ≤ q → runP tx n (tC tx n e) q = runP tx n (tC tx n e) (tS tx n e) → Wp g yX2_next cX2_next 1 none 3 0 0 (px_MQ g Q 0 0) 0 0 77 [some (.ref 1)] [] (w.set 1 (rdc n q (tC tx n e) (tS tx n e) (0))) := by
              intro fu; induction fu with
              | zero => intro q hm; exact absurd hm (Nat.not_lt_zero _)
              | succ fu ih =>
                intro q hm hq hSq hJ
                have ih77 := ih; clear ih
                refine r_aload_n (pc' := 78) dX2_next_77 rfl rfl ?_
                refine r_get (pc' := 81) fX2_35 dX2_next_78 rfl (gs_eq r1) rfl ?_
                refine r_aload_n (pc' := 82) dX2_next_81 rfl rfl ?_
                refine r_get (pc' := 85) fX2_22 dX2_next_82 rfl (gs_eq r1) rfl ?_
                refine r_icmp_ge (pc' := 88) (P := n ≤ q) (tgt := 159) dX2_next_85 (by decide) rfl (nI_leI (a := n) (b := q) (by omega) (by omega)) (fun h85 => ?_) (fun h85 => ?_)
                · skip
                  have hE : tE tx n e = q := by rw [tE, if_pos (by omega), ← hJ]; exact run_f (by first | exact h100 | (rw [srt_0.mpr (by omega)]; omega))
                  obtain rfl : q = tE tx n e := hE.symm
                  refine r_aload_n (pc' := 160) dX2_next_159 rfl rfl ?_
                  refine r_get (pc' := 163) fX2_9 dX2_next_160 rfl (gs_eq r1) rfl ?_
                  refine r_aload_n (pc' := 164) dX2_next_163 rfl rfl ?_
                  refine r_get (pc' := 167) fX2_48 dX2_next_164 rfl (gs_eq r1) rfl ?_
                  have hS1 : tS tx n e < n := by have := mt tC_0.mpr (show ¬ tC tx n e = 0 by omega); omega
                  refine r_callS (pc' := 170) (av := [.ref 2, .int (nI ((tS tx n e)))]) (rest := []) kX3_at vX3_at lX2_73 dX2_next_167 rfl rfl rfl ⟨by decide, by decide, by decide⟩ rfl rfl (Nat.le_of_ble_eq_true rfl) (ct_X3_at (gs_ne r2 (by decide)) (by decide) (j := (tS tx n e)) (by omega) (rt ((tS tx n e)) (by omega)).1 ?_)
                  show Wp g yX2_next cX2_next 1 none 3 0 0 (px_MQ g Q 0 0) 0 0 170 [some (.ref 1)] [.int (nI (tx ((tS tx n e))))] (w.set 1 (rdc n (tE tx n e) (tC tx n e) (tS tx n e) (0)))
                  have t167 := (rt ((tS tx n e)) (by omega)).2
                  refine r_bipush (pc' := 172) (v := nI 48) dX2_next_170 rfl rfl ?_
                  refine r_icmp_ne (pc' := 175) (P := tx ((tS tx n e)) = 48) (tgt := 214) dX2_next_172 (by decide) rfl (nI_eq (a := tx ((tS tx n e))) (b := 48) (by omega) (by omega)) (fun h172 => ?_) (fun h172 => ?_)
                  · skip
                    refine r_return dX2_next_214 rfl ?_
                    have hV : tV tx n e = 0 := by first | (rw [tV, if_neg (by omega)]; done) | (rw [tV, if_pos (by omega), tB]; simp [h172, h185]; done) | (rw [tV, if_pos (by omega), tB]; simp [h172]; done) | (rw [tV, if_pos (by omega), tB, if_neg (by simp; omega)]; done) | (rw [tV, if_pos (by omega), tB, if_pos (by simp; omega)]; done)
                    have hE2 : tE tx n e = (tE tx n e) := by first | rfl | (rw [tE, if_neg (by omega), if_pos (by omega)]; done) | (rw [tE, if_neg (by omega), if_neg (by omega)]; done)
                    (try simp only [gs_set])
                    rw [hV, hE2] at hQ
                    exact hQ
                  · skip
                    exfalso; have h9 : cls (tx (tS tx n e)) = 2 := by rw [← srt_i hS1]; exact hc2
                    have := (cls_2i h9).1; omega
                · have hSn : (tS tx n e) < n := by omega
                  refine r_aload_n (pc' := 89) dX2_next_88 rfl rfl ?_
                  refine r_aload_n (pc' := 90) dX2_next_89 rfl rfl ?_
                  refine r_get (pc' := 93) fX2_35 dX2_next_90 rfl (gs_eq r1) rfl ?_
                  refine r_callV (pc' := 96) (av := [.int (nI q)]) (rest := []) kX2_sortAt vX2_sortAt lX2_98 dX2_next_93 rfl (gs_eq r1) rfl rfl rfl ⟨by decide, by decide, by decide⟩ rfl rfl (Nat.le_of_ble_eq_true rfl) (ct_X2_sortAt (gs_eq r1) (gs_ne r2 (by decide)) rt hn (i := q) (by omega) ?_)
                  show Wp g yX2_next cX2_next 1 none 3 0 0 (px_MQ g Q 0 0) 0 0 96 [some (.ref 1)] [.int (nI (srt tx n q))] (w.set 1 (rdc n q (tC tx n e) (tS tx n e) (0)))
                  have z93 := srt_b tx n q
                  refine r_aload_n (pc' := 97) dX2_next_96 rfl rfl ?_
                  refine r_get (pc' := 100) fX2_41 dX2_next_97 rfl (gs_eq r1) rfl ?_
                  refine r_icmp_ne (pc' := 103) (P := srt tx n q = (tC tx n e)) (tgt := 159) dX2_next_100 (by decide) rfl (nI_eq (a := srt tx n q) (b := (tC tx n e)) (by omega) (by omega)) (fun h100 => ?_) (fun h100 => ?_)
                  · skip
                    have hE : tE tx n e = q := by rw [tE, if_pos (by omega), ← hJ]; exact run_f (by first | exact h100 | (rw [srt_0.mpr (by omega)]; omega))
                    obtain rfl : q = tE tx n e := hE.symm
                    refine r_aload_n (pc' := 160) dX2_next_159 rfl rfl ?_
                    refine r_get (pc' := 163) fX2_9 dX2_next_160 rfl (gs_eq r1) rfl ?_
                    refine r_aload_n (pc' := 164) dX2_next_163 rfl rfl ?_
                    refine r_get (pc' := 167) fX2_48 dX2_next_164 rfl (gs_eq r1) rfl ?_
                    have hS1 : tS tx n e < n := by have := mt tC_0.mpr (show ¬ tC tx n e = 0 by omega); omega
                    refine r_callS (pc' := 170) (av := [.ref 2, .int (nI ((tS tx n e)))]) (rest := []) kX3_at vX3_at lX2_73 dX2_next_167 rfl rfl rfl ⟨by decide, by decide, by decide⟩ rfl rfl (Nat.le_of_ble_eq_true rfl) (ct_X3_at (gs_ne r2 (by decide)) (by decide) (j := (tS tx n e)) (by omega) (rt ((tS tx n e)) (by omega)).1 ?_)
                    show Wp g yX2_next cX2_next 1 none 3 0 0 (px_MQ g Q 0 0) 0 0 170 [some (.ref 1)] [.int (nI (tx ((tS tx n e))))] (w.set 1 (rdc n (tE tx n e) (tC tx n e) (tS tx n e) (0)))
                    have t167 := (rt ((tS tx n e)) (by omega)).2
                    refine r_bipush (pc' := 172) (v := nI 48) dX2_next_170 rfl rfl ?_
                    refine r_icmp_ne (pc' := 175) (P := tx ((tS tx n e)) = 48) (tgt := 214) dX2_next_172 (by decide) rfl (nI_eq (a := tx ((tS tx n e))) (b := 48) (by omega) (by omega)) (fun h172 => ?_) (fun h172 => ?_)
                    · skip
                      refine r_return dX2_next_214 rfl ?_
                      have hV : tV tx n e = 0 := by first | (rw [tV, if_neg (by omega)]; done) | (rw [tV, if_pos (by omega), tB]; simp [h172, h185]; done) | (rw [tV, if_pos (by omega), tB]; simp [h172]; done) | (rw [tV, if_pos (by omega), tB, if_neg (by simp; omega)]; done) | (rw [tV, if_pos (by omega), tB, if_pos (by simp; omega)]; done)
                      have hE2 : tE tx n e = (tE tx n e) := by first | rfl | (rw [tE, if_neg (by omega), if_pos (by omega)]; done) | (rw [tE, if_neg (by omega), if_neg (by omega)]; done)
                      (try simp only [gs_set])
                      rw [hV, hE2] at hQ
                      exact hQ
                    · skip
                      exfalso; have h9 : cls (tx (tS tx n e)) = 2 := by rw [← srt_i hS1]; exact hc2
                      have := (cls_2i h9).1; omega
                  · have h100' : cls (tx q) = tC tx n e := by rw [← srt_i (show q < n by omega)]; exact h100
                    refine r_aload_n (pc' := 104) dX2_next_103 rfl rfl ?_
                    refine r_aload_n (pc' := 105) dX2_next_104 rfl rfl ?_
                    refine r_get (pc' := 108) fX2_41 dX2_next_105 rfl (gs_eq r1) rfl ?_
                    refine r_iconst (pc' := 109) (v := nI 2) dX2_next_108 rfl rfl ?_
                    refine r_icmp_ne (pc' := 112) (P := (tC tx n e) = 2) (tgt := 116) dX2_next_109 (by decide) rfl (nI_eq (a := (tC tx n e)) (b := 2) (by omega) (by omega)) (fun h109 => ?_) (fun h109 => ?_)
                    · skip
                      exfalso; omega
                    · skip
                      refine r_iconst (pc' := 113) (v := nI 0) dX2_next_112 rfl rfl ?_
                      refine r_goto (tgt := 143) dX2_next_113 (by decide) ?_
                      refine r_put (pc' := 146) (ty := .int) (c' := .inr (2, [.ref 2, .int (nI n), .ref 3, .int (nI q), .int (nI ((tC tx n e))), .int (nI ((tS tx n e))), .int (nI 0)])) fX2_95 dX2_next_143 rfl (gs_eq r1) (Nat.le_of_ble_eq_true rfl) rfl (by decide +kernel) rfl rfl rfl ?_
                      refine px_id (gs_eq r1) ?_
                      refine r_aload_n (pc' := 147) dX2_next_146 rfl rfl ?_
                      refine r_dup (pc' := 148) dX2_next_147 rfl rfl ?_
                      refine r_get (pc' := 151) fX2_35 dX2_next_148 rfl (gs_eq r1) rfl ?_
                      refine r_iconst (pc' := 152) (v := nI 1) dX2_next_151 rfl rfl ?_
                      refine r_iadd (pc' := 153) (v := nI (q + 1)) dX2_next_152 rfl (nI_add q 1) ?_
                      refine r_put (pc' := 156) (ty := .int) (c' := .inr (2, [.ref 2, .int (nI n), .ref 3, .int (nI (q + 1)), .int (nI ((tC tx n e))), .int (nI ((tS tx n e))), .int (nI 0)])) fX2_35 dX2_next_153 rfl (gs_eq r1) (Nat.le_of_ble_eq_true rfl) rfl (by decide +kernel) rfl rfl rfl ?_
                      refine r_goto (tgt := 77) dX2_next_156 (by decide) ?_
                      (try simp only [gs_set])
                      exact ih77 (q + 1) (by omega) (by omega) (by omega) (by rw [← hJ, ← run_t (by omega) (by omega)])
            have L0 := L77 (n - (tS tx n e) + 1) (tS tx n e) (by omega) (by omega) (Nat.le_refl _) rfl
            (try simp only [gs_set]); (try simp only [gs_set] at L0); exact L0
      · skip
        refine r_aload_n (pc' := 12) dX2_next_11 rfl rfl ?_
        refine r_aload_n (pc' := 13) dX2_next_12 rfl rfl ?_
        refine r_get (pc' := 16) fX2_35 dX2_next_13 rfl (gs_eq r1) rfl ?_
        refine r_callV (pc' := 19) (av := [.int (nI p)]) (rest := []) kX2_sortAt vX2_sortAt lX2_98 dX2_next_16 rfl (gs_eq r1) rfl rfl rfl ⟨by decide, by decide, by decide⟩ rfl rfl (Nat.le_of_ble_eq_true rfl) (ct_X2_sortAt (gs_eq r1) (gs_ne r2 (by decide)) rt hn (i := p) (by omega) ?_)
        show Wp g yX2_next cX2_next 1 none 3 0 0 (px_MQ g Q 0 0) 0 0 19 [some (.ref 1)] [.int (nI (srt tx n p))] (w.set 1 (rdc n p c s v))
        have z16 := srt_b tx n p
        refine r_iconst (pc' := 20) (v := nI 1) dX2_next_19 rfl rfl ?_
        refine r_icmp_ne (pc' := 23) (P := srt tx n p = 1) (tgt := 36) dX2_next_20 (by decide) rfl (nI_eq (a := srt tx n p) (b := 1) (by omega) (by omega)) (fun h20 => ?_) (fun h20 => ?_)
        · have hS : tS tx n e = p := by rw [← hI, run_f h20]
          obtain rfl : p = tS tx n e := hS.symm
          refine r_aload_n (pc' := 37) dX2_next_36 rfl rfl ?_
          refine r_aload_n (pc' := 38) dX2_next_37 rfl rfl ?_
          refine r_get (pc' := 41) fX2_35 dX2_next_38 rfl (gs_eq r1) rfl ?_
          refine r_put (pc' := 44) (ty := .int) (c' := .inr (2, [.ref 2, .int (nI n), .ref 3, .int (nI ((tS tx n e))), .int (nI c), .int (nI ((tS tx n e))), .int (nI v)])) fX2_48 dX2_next_41 rfl (gs_eq r1) (Nat.le_of_ble_eq_true rfl) rfl (by decide +kernel) rfl rfl rfl ?_
          refine r_aload_n (pc' := 45) dX2_next_44 rfl rfl ?_
          refine r_aload_n (pc' := 46) dX2_next_45 rfl rfl ?_
          refine r_aload_n (pc' := 47) dX2_next_46 rfl rfl ?_
          refine r_get (pc' := 50) fX2_35 dX2_next_47 rfl (gs_eq (gs_eq r1)) rfl ?_
          refine r_callV (pc' := 53) (av := [.int (nI ((tS tx n e)))]) (rest := [.ref 1]) kX2_sortAt vX2_sortAt lX2_98 dX2_next_50 rfl (gs_eq (gs_eq r1)) rfl rfl rfl ⟨by decide, by decide, by decide⟩ rfl rfl (Nat.le_of_ble_eq_true rfl) (ct_X2_sortAt (gs_eq (gs_eq r1)) (gs_ne (gs_ne r2 (by decide)) (by decide)) rt hn (i := (tS tx n e)) (by omega) ?_)
          show Wp g yX2_next cX2_next 1 none 3 0 0 (px_MQ g Q 0 0) 0 0 53 [some (.ref 1)] [.int (nI ((tC tx n e))), .ref 1] ((w.set 1 (rdc n (tS tx n e) c s v)).set 1 (.inr (2, [.ref 2, .int (nI n), .ref 3, .int (nI ((tS tx n e))), .int (nI c), .int (nI ((tS tx n e))), .int (nI v)])))
          have z50 := tC_b tx n e
          refine r_put (pc' := 56) (ty := .int) (c' := .inr (2, [.ref 2, .int (nI n), .ref 3, .int (nI ((tS tx n e))), .int (nI ((tC tx n e))), .int (nI ((tS tx n e))), .int (nI v)])) fX2_41 dX2_next_53 rfl (gs_eq (gs_eq r1)) (Nat.le_of_ble_eq_true rfl) rfl (by decide +kernel) rfl rfl rfl ?_
          refine r_aload_n (pc' := 57) dX2_next_56 rfl rfl ?_
          refine r_iconst (pc' := 58) (v := nI 0) dX2_next_57 rfl rfl ?_
          refine r_put (pc' := 61) (ty := .int) (c' := .inr (2, [.ref 2, .int (nI n), .ref 3, .int (nI ((tS tx n e))), .int (nI ((tC tx n e))), .int (nI ((tS tx n e))), .int (nI 0)])) fX2_95 dX2_next_58 rfl (gs_eq (gs_eq (gs_eq r1))) (Nat.le_of_ble_eq_true rfl) rfl (by decide +kernel) rfl rfl rfl ?_
          refine r_aload_n (pc' := 62) dX2_next_61 rfl rfl ?_
          refine r_get (pc' := 65) fX2_41 dX2_next_62 rfl (gs_eq (gs_eq (gs_eq (gs_eq r1)))) rfl ?_
          refine r_iconst (pc' := 66) (v := nI 3) dX2_next_65 rfl rfl ?_
          refine r_icmp_eq (pc' := 69) (P := (tC tx n e) = 3) (tgt := 77) dX2_next_66 (by decide) rfl (nI_eq (a := (tC tx n e)) (b := 3) (by omega) (by omega)) (fun h66 => ?_) (fun h66 => ?_)
          · skip
            have L77 : ∀ (fu : Nat) (q : Nat), n - q < fu → q ≤ n → (tS tx n e) ≤ q → runP tx n (tC tx n e) q = runP tx n (tC tx n e) (tS tx n e) → Wp g yX2_next cX2_next 1 none 3 0 0 (px_MQ g Q 0 0) 0 0 77 [some (.ref 1)] [] (w.set 1 (rdc n q (tC tx n e) (tS tx n e) (cap (numM tx (tS tx n e) (q - (tS tx n e)))))) := by
              intro fu; induction fu with
              | zero => intro q hm; exact absurd hm (Nat.not_lt_zero _)
              | succ fu ih =>
                intro q hm hq hSq hJ
                have hcp := cap_le (numM tx (tS tx n e) (q - (tS tx n e)))
                have ih77 := ih; clear ih
                refine r_aload_n (pc' := 78) dX2_next_77 rfl rfl ?_
                refine r_get (pc' := 81) fX2_35 dX2_next_78 rfl (gs_eq r1) rfl ?_
                refine r_aload_n (pc' := 82) dX2_next_81 rfl rfl ?_
                refine r_get (pc' := 85) fX2_22 dX2_next_82 rfl (gs_eq r1) rfl ?_
                refine r_icmp_ge (pc' := 88) (P := n ≤ q) (tgt := 159) dX2_next_85 (by decide) rfl (nI_leI (a := n) (b := q) (by omega) (by omega)) (fun h85 => ?_) (fun h85 => ?_)
                · skip
                  have hE : tE tx n e = q := by rw [tE, if_pos (by omega), ← hJ]; exact run_f (by first | exact h100 | (rw [srt_0.mpr (by omega)]; omega))
                  obtain rfl : q = tE tx n e := hE.symm
                  refine r_aload_n (pc' := 160) dX2_next_159 rfl rfl ?_
                  refine r_get (pc' := 163) fX2_9 dX2_next_160 rfl (gs_eq r1) rfl ?_
                  refine r_aload_n (pc' := 164) dX2_next_163 rfl rfl ?_
                  refine r_get (pc' := 167) fX2_48 dX2_next_164 rfl (gs_eq r1) rfl ?_
                  have hS1 : tS tx n e < n := by have := mt tC_0.mpr (show ¬ tC tx n e = 0 by omega); omega
                  refine r_callS (pc' := 170) (av := [.ref 2, .int (nI ((tS tx n e)))]) (rest := []) kX3_at vX3_at lX2_73 dX2_next_167 rfl rfl rfl ⟨by decide, by decide, by decide⟩ rfl rfl (Nat.le_of_ble_eq_true rfl) (ct_X3_at (gs_ne r2 (by decide)) (by decide) (j := (tS tx n e)) (by omega) (rt ((tS tx n e)) (by omega)).1 ?_)
                  show Wp g yX2_next cX2_next 1 none 3 0 0 (px_MQ g Q 0 0) 0 0 170 [some (.ref 1)] [.int (nI (tx ((tS tx n e))))] (w.set 1 (rdc n (tE tx n e) (tC tx n e) (tS tx n e) (cap (numM tx (tS tx n e) ((tE tx n e) - (tS tx n e))))))
                  have t167 := (rt ((tS tx n e)) (by omega)).2
                  refine r_bipush (pc' := 172) (v := nI 48) dX2_next_170 rfl rfl ?_
                  refine r_icmp_ne (pc' := 175) (P := tx ((tS tx n e)) = 48) (tgt := 214) dX2_next_172 (by decide) rfl (nI_eq (a := tx ((tS tx n e))) (b := 48) (by omega) (by omega)) (fun h172 => ?_) (fun h172 => ?_)
                  · skip
                    refine r_return dX2_next_214 rfl ?_
                    have hV : tV tx n e = cap (numM tx (tS tx n e) ((tE tx n e) - (tS tx n e))) := by first | (rw [tV, if_neg (by omega)]; done) | (rw [tV, if_pos (by omega), tB]; simp [h172, h185]; done) | (rw [tV, if_pos (by omega), tB]; simp [h172]; done) | (rw [tV, if_pos (by omega), tB, if_neg (by simp; omega)]; done) | (rw [tV, if_pos (by omega), tB, if_pos (by simp; omega)]; done)
                    have hE2 : tE tx n e = (tE tx n e) := by first | rfl | (rw [tE, if_neg (by omega), if_pos (by omega)]; done) | (rw [tE, if_neg (by omega), if_neg (by omega)]; done)
                    (try simp only [gs_set])
                    rw [hV, hE2] at hQ
                    exact hQ
                  · skip
                    refine r_aload_n (pc' := 176) dX2_next_175 rfl rfl ?_
                    refine r_get (pc' := 179) fX2_35 dX2_next_176 rfl (gs_eq r1) rfl ?_
                    refine r_aload_n (pc' := 180) dX2_next_179 rfl rfl ?_
                    refine r_get (pc' := 183) fX2_48 dX2_next_180 rfl (gs_eq r1) rfl ?_
                    refine r_isub (pc' := 184) (v := nI ((tE tx n e) - ((tS tx n e)))) dX2_next_183 rfl (pk_sub (a := (tE tx n e)) (b := (tS tx n e)) (by omega)) ?_
                    refine r_iconst (pc' := 185) (v := nI 1) dX2_next_184 rfl rfl ?_
                    refine r_icmp_le (pc' := 188) (P := (tE tx n e) - ((tS tx n e)) ≤ 1) (tgt := 214) dX2_next_185 (by decide) rfl (nI_leI (a := (tE tx n e) - ((tS tx n e))) (b := 1) (by omega) (by omega)) (fun h185 => ?_) (fun h185 => ?_)
                    · skip
                      refine r_return dX2_next_214 rfl ?_
                      have hV : tV tx n e = cap (numM tx (tS tx n e) ((tE tx n e) - (tS tx n e))) := by first | (rw [tV, if_neg (by omega)]; done) | (rw [tV, if_pos (by omega), tB]; simp [h172, h185]; done) | (rw [tV, if_pos (by omega), tB]; simp [h172]; done) | (rw [tV, if_pos (by omega), tB, if_neg (by simp; omega)]; done) | (rw [tV, if_pos (by omega), tB, if_pos (by simp; omega)]; done)
                      have hE2 : tE tx n e = (tE tx n e) := by first | rfl | (rw [tE, if_neg (by omega), if_pos (by omega)]; done) | (rw [tE, if_neg (by omega), if_neg (by omega)]; done)
                      (try simp only [gs_set])
                      rw [hV, hE2] at hQ
                      exact hQ
                    · skip
                      refine r_aload_n (pc' := 189) dX2_next_188 rfl rfl ?_
                      refine r_bipush (pc' := 191) (v := nI 100) dX2_next_189 rfl rfl ?_
                      refine r_put (pc' := 194) (ty := .int) (c' := .inr (2, [.ref 2, .int (nI n), .ref 3, .int (nI ((tE tx n e))), .int (nI ((tC tx n e))), .int (nI ((tS tx n e))), .int (nI 100)])) fX2_95 dX2_next_191 rfl (gs_eq r1) (Nat.le_of_ble_eq_true rfl) rfl (by decide +kernel) rfl rfl rfl ?_
                      refine r_goto (tgt := 214) dX2_next_194 (by decide) ?_
                      refine r_return dX2_next_214 rfl ?_
                      have hV : tV tx n e = 100 := by first | (rw [tV, if_neg (by omega)]; done) | (rw [tV, if_pos (by omega), tB]; simp [h172, h185]; done) | (rw [tV, if_pos (by omega), tB]; simp [h172]; done) | (rw [tV, if_pos (by omega), tB, if_neg (by simp; omega)]; done) | (rw [tV, if_pos (by omega), tB, if_pos (by simp; omega)]; done)
                      have hE2 : tE tx n e = (tE tx n e) := by first | rfl | (rw [tE, if_neg (by omega), if_pos (by omega)]; done) | (rw [tE, if_neg (by omega), if_neg (by omega)]; done)
                      (try simp only [gs_set])
                      rw [hV, hE2] at hQ
                      exact hQ
                · have hSn : (tS tx n e) < n := by omega
                  refine r_aload_n (pc' := 89) dX2_next_88 rfl rfl ?_
                  refine r_aload_n (pc' := 90) dX2_next_89 rfl rfl ?_
                  refine r_get (pc' := 93) fX2_35 dX2_next_90 rfl (gs_eq r1) rfl ?_
                  refine r_callV (pc' := 96) (av := [.int (nI q)]) (rest := []) kX2_sortAt vX2_sortAt lX2_98 dX2_next_93 rfl (gs_eq r1) rfl rfl rfl ⟨by decide, by decide, by decide⟩ rfl rfl (Nat.le_of_ble_eq_true rfl) (ct_X2_sortAt (gs_eq r1) (gs_ne r2 (by decide)) rt hn (i := q) (by omega) ?_)
                  show Wp g yX2_next cX2_next 1 none 3 0 0 (px_MQ g Q 0 0) 0 0 96 [some (.ref 1)] [.int (nI (srt tx n q))] (w.set 1 (rdc n q (tC tx n e) (tS tx n e) (cap (numM tx (tS tx n e) (q - (tS tx n e))))))
                  have z93 := srt_b tx n q
                  refine r_aload_n (pc' := 97) dX2_next_96 rfl rfl ?_
                  refine r_get (pc' := 100) fX2_41 dX2_next_97 rfl (gs_eq r1) rfl ?_
                  refine r_icmp_ne (pc' := 103) (P := srt tx n q = (tC tx n e)) (tgt := 159) dX2_next_100 (by decide) rfl (nI_eq (a := srt tx n q) (b := (tC tx n e)) (by omega) (by omega)) (fun h100 => ?_) (fun h100 => ?_)
                  · skip
                    have hE : tE tx n e = q := by rw [tE, if_pos (by omega), ← hJ]; exact run_f (by first | exact h100 | (rw [srt_0.mpr (by omega)]; omega))
                    obtain rfl : q = tE tx n e := hE.symm
                    refine r_aload_n (pc' := 160) dX2_next_159 rfl rfl ?_
                    refine r_get (pc' := 163) fX2_9 dX2_next_160 rfl (gs_eq r1) rfl ?_
                    refine r_aload_n (pc' := 164) dX2_next_163 rfl rfl ?_
                    refine r_get (pc' := 167) fX2_48 dX2_next_164 rfl (gs_eq r1) rfl ?_
                    have hS1 : tS tx n e < n := by have := mt tC_0.mpr (show ¬ tC tx n e = 0 by omega); omega
                    refine r_callS (pc' := 170) (av := [.ref 2, .int (nI ((tS tx n e)))]) (rest := []) kX3_at vX3_at lX2_73 dX2_next_167 rfl rfl rfl ⟨by decide, by decide, by decide⟩ rfl rfl (Nat.le_of_ble_eq_true rfl) (ct_X3_at (gs_ne r2 (by decide)) (by decide) (j := (tS tx n e)) (by omega) (rt ((tS tx n e)) (by omega)).1 ?_)
                    show Wp g yX2_next cX2_next 1 none 3 0 0 (px_MQ g Q 0 0) 0 0 170 [some (.ref 1)] [.int (nI (tx ((tS tx n e))))] (w.set 1 (rdc n (tE tx n e) (tC tx n e) (tS tx n e) (cap (numM tx (tS tx n e) ((tE tx n e) - (tS tx n e))))))
                    have t167 := (rt ((tS tx n e)) (by omega)).2
                    refine r_bipush (pc' := 172) (v := nI 48) dX2_next_170 rfl rfl ?_
                    refine r_icmp_ne (pc' := 175) (P := tx ((tS tx n e)) = 48) (tgt := 214) dX2_next_172 (by decide) rfl (nI_eq (a := tx ((tS tx n e))) (b := 48) (by omega) (by omega)) (fun h172 => ?_) (fun h172 => ?_)
                    · skip
                      refine r_return dX2_next_214 rfl ?_
                      have hV : tV tx n e = cap (numM tx (tS tx n e) ((tE tx n e) - (tS tx n e))) := by first | (rw [tV, if_neg (by omega)]; done) | (rw [tV, if_pos (by omega), tB]; simp [h172, h185]; done) | (rw [tV, if_pos (by omega), tB]; simp [h172]; done) | (rw [tV, if_pos (by omega), tB, if_neg (by simp; omega)]; done) | (rw [tV, if_pos (by omega), tB, if_pos (by simp; omega)]; done)
                      have hE2 : tE tx n e = (tE tx n e) := by first | rfl | (rw [tE, if_neg (by omega), if_pos (by omega)]; done) | (rw [tE, if_neg (by omega), if_neg (by omega)]; done)
                      (try simp only [gs_set])
                      rw [hV, hE2] at hQ
                      exact hQ
                    · skip
                      refine r_aload_n (pc' := 176) dX2_next_175 rfl rfl ?_
                      refine r_get (pc' := 179) fX2_35 dX2_next_176 rfl (gs_eq r1) rfl ?_
                      refine r_aload_n (pc' := 180) dX2_next_179 rfl rfl ?_
                      refine r_get (pc' := 183) fX2_48 dX2_next_180 rfl (gs_eq r1) rfl ?_
                      refine r_isub (pc' := 184) (v := nI ((tE tx n e) - ((tS tx n e)))) dX2_next_183 rfl (pk_sub (a := (tE tx n e)) (b := (tS tx n e)) (by omega)) ?_
                      refine r_iconst (pc' := 185) (v := nI 1) dX2_next_184 rfl rfl ?_
                      refine r_icmp_le (pc' := 188) (P := (tE tx n e) - ((tS tx n e)) ≤ 1) (tgt := 214) dX2_next_185 (by decide) rfl (nI_leI (a := (tE tx n e) - ((tS tx n e))) (b := 1) (by omega) (by omega)) (fun h185 => ?_) (fun h185 => ?_)
                      · skip
                        refine r_return dX2_next_214 rfl ?_
                        have hV : tV tx n e = cap (numM tx (tS tx n e) ((tE tx n e) - (tS tx n e))) := by first | (rw [tV, if_neg (by omega)]; done) | (rw [tV, if_pos (by omega), tB]; simp [h172, h185]; done) | (rw [tV, if_pos (by omega), tB]; simp [h172]; done) | (rw [tV, if_pos (by omega), tB, if_neg (by simp; omega)]; done) | (rw [tV, if_pos (by omega), tB, if_pos (by simp; omega)]; done)
                        have hE2 : tE tx n e = (tE tx n e) := by first | rfl | (rw [tE, if_neg (by omega), if_pos (by omega)]; done) | (rw [tE, if_neg (by omega), if_neg (by omega)]; done)
                        (try simp only [gs_set])
                        rw [hV, hE2] at hQ
                        exact hQ
                      · skip
                        refine r_aload_n (pc' := 189) dX2_next_188 rfl rfl ?_
                        refine r_bipush (pc' := 191) (v := nI 100) dX2_next_189 rfl rfl ?_
                        refine r_put (pc' := 194) (ty := .int) (c' := .inr (2, [.ref 2, .int (nI n), .ref 3, .int (nI ((tE tx n e))), .int (nI ((tC tx n e))), .int (nI ((tS tx n e))), .int (nI 100)])) fX2_95 dX2_next_191 rfl (gs_eq r1) (Nat.le_of_ble_eq_true rfl) rfl (by decide +kernel) rfl rfl rfl ?_
                        refine r_goto (tgt := 214) dX2_next_194 (by decide) ?_
                        refine r_return dX2_next_214 rfl ?_
                        have hV : tV tx n e = 100 := by first | (rw [tV, if_neg (by omega)]; done) | (rw [tV, if_pos (by omega), tB]; simp [h172, h185]; done) | (rw [tV, if_pos (by omega), tB]; simp [h172]; done) | (rw [tV, if_pos (by omega), tB, if_neg (by simp; omega)]; done) | (rw [tV, if_pos (by omega), tB, if_pos (by simp; omega)]; done)
                        have hE2 : tE tx n e = (tE tx n e) := by first | rfl | (rw [tE, if_neg (by omega), if_pos (by omega)]; done) | (rw [tE, if_neg (by omega), if_neg (by omega)]; done)
                        (try simp only [gs_set])
                        rw [hV, hE2] at hQ
                        exact hQ
                  · have h100' : cls (tx q) = tC tx n e := by rw [← srt_i (show q < n by omega)]; exact h100
                    refine r_aload_n (pc' := 104) dX2_next_103 rfl rfl ?_
                    refine r_aload_n (pc' := 105) dX2_next_104 rfl rfl ?_
                    refine r_get (pc' := 108) fX2_41 dX2_next_105 rfl (gs_eq r1) rfl ?_
                    refine r_iconst (pc' := 109) (v := nI 2) dX2_next_108 rfl rfl ?_
                    refine r_icmp_ne (pc' := 112) (P := (tC tx n e) = 2) (tgt := 116) dX2_next_109 (by decide) rfl (nI_eq (a := (tC tx n e)) (b := 2) (by omega) (by omega)) (fun h109 => ?_) (fun h109 => ?_)
                    · rw [h66] at h100'
                      have hdg := cls_3i h100'
                      refine r_bipush (pc' := 118) (v := nI 100) dX2_next_116 rfl rfl ?_
                      refine r_aload_n (pc' := 119) dX2_next_118 rfl rfl ?_
                      refine r_get (pc' := 122) fX2_95 dX2_next_119 rfl (gs_eq r1) rfl ?_
                      refine r_bipush (pc' := 124) (v := nI 10) dX2_next_122 rfl rfl ?_
                      refine r_imul (pc' := 125) (v := nI ((cap (numM tx (tS tx n e) (q - (tS tx n e)))) * 10)) dX2_next_124 rfl (pk_mul (cap (numM tx (tS tx n e) (q - (tS tx n e)))) 10) ?_
                      refine r_aload_n (pc' := 126) dX2_next_125 rfl rfl ?_
                      refine r_get (pc' := 129) fX2_9 dX2_next_126 rfl (gs_eq r1) rfl ?_
                      refine r_aload_n (pc' := 130) dX2_next_129 rfl rfl ?_
                      refine r_get (pc' := 133) fX2_35 dX2_next_130 rfl (gs_eq r1) rfl ?_
                      refine r_callS (pc' := 136) (av := [.ref 2, .int (nI q)]) (rest := [.int (nI ((cap (numM tx (tS tx n e) (q - (tS tx n e)))) * 10)), .int (nI 100), .ref 1]) kX3_at vX3_at lX2_73 dX2_next_133 rfl rfl rfl ⟨by decide, by decide, by decide⟩ rfl rfl (Nat.le_of_ble_eq_true rfl) (ct_X3_at (gs_ne r2 (by decide)) (by decide) (j := q) (by omega) (rt q (by omega)).1 ?_)
                      show Wp g yX2_next cX2_next 1 none 3 0 0 (px_MQ g Q 0 0) 0 0 136 [some (.ref 1)] [.int (nI (tx q)), .int (nI ((cap (numM tx (tS tx n e) (q - (tS tx n e)))) * 10)), .int (nI 100), .ref 1] (w.set 1 (rdc n q (tC tx n e) (tS tx n e) (cap (numM tx (tS tx n e) (q - (tS tx n e))))))
                      have t133 := (rt q (by omega)).2
                      refine r_iadd (pc' := 137) (v := nI ((cap (numM tx (tS tx n e) (q - (tS tx n e)))) * 10 + (tx q))) dX2_next_136 rfl (nI_add ((cap (numM tx (tS tx n e) (q - (tS tx n e)))) * 10) (tx q)) ?_
                      refine r_bipush (pc' := 139) (v := nI 48) dX2_next_137 rfl rfl ?_
                      refine r_isub (pc' := 140) (v := nI ((cap (numM tx (tS tx n e) (q - (tS tx n e)))) * 10 + (tx q) - 48)) dX2_next_139 rfl (pk_sub (a := (cap (numM tx (tS tx n e) (q - (tS tx n e)))) * 10 + (tx q)) (b := 48) (by omega)) ?_
                      refine r_mmin (pc' := 143) (v := nI (cap (numM tx (tS tx n e) (q + 1 - (tS tx n e))))) lX2_102 mS_min mI mC_min dX2_next_140 rfl ((mn_n (by omega) (by omega)).trans (congrArg nI (by rw [show q + 1 - (tS tx n e) = q - (tS tx n e) + 1 by omega, numM, show (tS tx n e) + (q - (tS tx n e)) = q by omega]; exact cap_s (cls_3i h100').1 (cls_3i h100').2))) ⟨by decide, by decide⟩ (Nat.le_of_ble_eq_true rfl) ?_
                      refine r_put (pc' := 146) (ty := .int) (c' := .inr (2, [.ref 2, .int (nI n), .ref 3, .int (nI q), .int (nI ((tC tx n e))), .int (nI ((tS tx n e))), .int (nI (cap (numM tx (tS tx n e) (q + 1 - (tS tx n e)))))])) fX2_95 dX2_next_143 rfl (gs_eq r1) (Nat.le_of_ble_eq_true rfl) rfl (by decide +kernel) rfl rfl rfl ?_
                      refine r_aload_n (pc' := 147) dX2_next_146 rfl rfl ?_
                      refine r_dup (pc' := 148) dX2_next_147 rfl rfl ?_
                      refine r_get (pc' := 151) fX2_35 dX2_next_148 rfl (gs_eq (gs_eq r1)) rfl ?_
                      refine r_iconst (pc' := 152) (v := nI 1) dX2_next_151 rfl rfl ?_
                      refine r_iadd (pc' := 153) (v := nI (q + 1)) dX2_next_152 rfl (nI_add q 1) ?_
                      refine r_put (pc' := 156) (ty := .int) (c' := .inr (2, [.ref 2, .int (nI n), .ref 3, .int (nI (q + 1)), .int (nI ((tC tx n e))), .int (nI ((tS tx n e))), .int (nI (cap (numM tx (tS tx n e) (q + 1 - (tS tx n e)))))])) fX2_35 dX2_next_153 rfl (gs_eq (gs_eq r1)) (Nat.le_of_ble_eq_true rfl) rfl (by decide +kernel) rfl rfl rfl ?_
                      refine r_goto (tgt := 77) dX2_next_156 (by decide) ?_
                      (try simp only [gs_set])
                      exact ih77 (q + 1) (by omega) (by omega) (by omega) (by rw [← hJ, ← run_t (by omega) (by omega)])
                    · skip
                      exfalso; omega
            have L0 := L77 (n - (tS tx n e) + 1) (tS tx n e) (by omega) (by omega) (Nat.le_refl _) rfl
            rw [show cap (numM tx (tS tx n e) ((tS tx n e) - (tS tx n e))) = 0 by rw [Nat.sub_self]; rfl] at L0
            (try simp only [gs_set]); (try simp only [gs_set] at L0); exact L0
          · skip
            refine r_aload_n (pc' := 70) dX2_next_69 rfl rfl ?_
            refine r_get (pc' := 73) fX2_41 dX2_next_70 rfl (gs_eq (gs_eq (gs_eq (gs_eq r1)))) rfl ?_
            refine r_iconst (pc' := 74) (v := nI 2) dX2_next_73 rfl rfl ?_
            refine r_icmp_ne (pc' := 77) (P := (tC tx n e) = 2) (tgt := 197) dX2_next_74 (by decide) rfl (nI_eq (a := (tC tx n e)) (b := 2) (by omega) (by omega)) (fun h74 => ?_) (fun h74 => ?_)
            · skip
              refine r_aload_n (pc' := 198) dX2_next_197 rfl rfl ?_
              refine r_get (pc' := 201) fX2_41 dX2_next_198 rfl (gs_eq (gs_eq (gs_eq (gs_eq r1)))) rfl ?_
              refine r_if_eq (pc' := 204) (P := (tC tx n e) = 0) (tgt := 214) dX2_next_201 (by decide) rfl (nI_eq0 (n := (tC tx n e)) (by omega)) (fun h201 => ?_) (fun h201 => ?_)
              · skip
                refine r_return dX2_next_214 rfl ?_
                have hV : tV tx n e = 0 := by first | (rw [tV, if_neg (by omega)]; done) | (rw [tV, if_pos (by omega), tB]; simp [h172, h185]; done) | (rw [tV, if_pos (by omega), tB]; simp [h172]; done) | (rw [tV, if_pos (by omega), tB, if_neg (by simp; omega)]; done) | (rw [tV, if_pos (by omega), tB, if_pos (by simp; omega)]; done)
                have hE2 : tE tx n e = (tS tx n e) := by first | rfl | (rw [tE, if_neg (by omega), if_pos (by omega)]; done) | (rw [tE, if_neg (by omega), if_neg (by omega)]; done)
                (try simp only [gs_set])
                rw [hV, hE2] at hQ
                exact hQ
              · skip
                refine r_aload_n (pc' := 205) dX2_next_204 rfl rfl ?_
                refine r_dup (pc' := 206) dX2_next_205 rfl rfl ?_
                refine r_get (pc' := 209) fX2_35 dX2_next_206 rfl (gs_eq (gs_eq (gs_eq (gs_eq r1)))) rfl ?_
                refine r_iconst (pc' := 210) (v := nI 1) dX2_next_209 rfl rfl ?_
                refine r_iadd (pc' := 211) (v := nI ((tS tx n e) + 1)) dX2_next_210 rfl (nI_add ((tS tx n e)) 1) ?_
                refine r_put (pc' := 214) (ty := .int) (c' := .inr (2, [.ref 2, .int (nI n), .ref 3, .int (nI ((tS tx n e) + 1)), .int (nI ((tC tx n e))), .int (nI ((tS tx n e))), .int (nI 0)])) fX2_35 dX2_next_211 rfl (gs_eq (gs_eq (gs_eq (gs_eq r1)))) (Nat.le_of_ble_eq_true rfl) rfl (by decide +kernel) rfl rfl rfl ?_
                refine r_return dX2_next_214 rfl ?_
                have hV : tV tx n e = 0 := by first | (rw [tV, if_neg (by omega)]; done) | (rw [tV, if_pos (by omega), tB]; simp [h172, h185]; done) | (rw [tV, if_pos (by omega), tB]; simp [h172]; done) | (rw [tV, if_pos (by omega), tB, if_neg (by simp; omega)]; done) | (rw [tV, if_pos (by omega), tB, if_pos (by simp; omega)]; done)
                have hE2 : tE tx n e = (tS tx n e) + 1 := by first | rfl | (rw [tE, if_neg (by omega), if_pos (by omega)]; done) | (rw [tE, if_neg (by omega), if_neg (by omega)]; done)
                (try simp only [gs_set])
                rw [hV, hE2] at hQ
                exact hQ
            · have hc2 : tC tx n e = 2 := by omega
              have L77 : ∀ (fu : Nat) (q : Nat), n - q < fu → q ≤ n → (tS tx n e) ≤ q → runP tx n (tC tx n e) q = runP tx n (tC tx n e) (tS tx n e) → Wp g yX2_next cX2_next 1 none 3 0 0 (px_MQ g Q 0 0) 0 0 77 [some (.ref 1)] [] (w.set 1 (rdc n q (tC tx n e) (tS tx n e) (0))) := by
                intro fu; induction fu with
                | zero => intro q hm; exact absurd hm (Nat.not_lt_zero _)
                | succ fu ih =>
                  intro q hm hq hSq hJ
                  have ih77 := ih; clear ih
                  refine r_aload_n (pc' := 78) dX2_next_77 rfl rfl ?_
                  refine r_get (pc' := 81) fX2_35 dX2_next_78 rfl (gs_eq r1) rfl ?_
                  refine r_aload_n (pc' := 82) dX2_next_81 rfl rfl ?_
                  refine r_get (pc' := 85) fX2_22 dX2_next_82 rfl (gs_eq r1) rfl ?_
                  refine r_icmp_ge (pc' := 88) (P := n ≤ q) (tgt := 159) dX2_next_85 (by decide) rfl (nI_leI (a := n) (b := q) (by omega) (by omega)) (fun h85 => ?_) (fun h85 => ?_)
                  · skip
                    have hE : tE tx n e = q := by rw [tE, if_pos (by omega), ← hJ]; exact run_f (by first | exact h100 | (rw [srt_0.mpr (by omega)]; omega))
                    obtain rfl : q = tE tx n e := hE.symm
                    refine r_aload_n (pc' := 160) dX2_next_159 rfl rfl ?_
                    refine r_get (pc' := 163) fX2_9 dX2_next_160 rfl (gs_eq r1) rfl ?_
                    refine r_aload_n (pc' := 164) dX2_next_163 rfl rfl ?_
                    refine r_get (pc' := 167) fX2_48 dX2_next_164 rfl (gs_eq r1) rfl ?_
                    have hS1 : tS tx n e < n := by have := mt tC_0.mpr (show ¬ tC tx n e = 0 by omega); omega
                    refine r_callS (pc' := 170) (av := [.ref 2, .int (nI ((tS tx n e)))]) (rest := []) kX3_at vX3_at lX2_73 dX2_next_167 rfl rfl rfl ⟨by decide, by decide, by decide⟩ rfl rfl (Nat.le_of_ble_eq_true rfl) (ct_X3_at (gs_ne r2 (by decide)) (by decide) (j := (tS tx n e)) (by omega) (rt ((tS tx n e)) (by omega)).1 ?_)
                    show Wp g yX2_next cX2_next 1 none 3 0 0 (px_MQ g Q 0 0) 0 0 170 [some (.ref 1)] [.int (nI (tx ((tS tx n e))))] (w.set 1 (rdc n (tE tx n e) (tC tx n e) (tS tx n e) (0)))
                    have t167 := (rt ((tS tx n e)) (by omega)).2
                    refine r_bipush (pc' := 172) (v := nI 48) dX2_next_170 rfl rfl ?_
                    refine r_icmp_ne (pc' := 175) (P := tx ((tS tx n e)) = 48) (tgt := 214) dX2_next_172 (by decide) rfl (nI_eq (a := tx ((tS tx n e))) (b := 48) (by omega) (by omega)) (fun h172 => ?_) (fun h172 => ?_)
                    · skip
                      refine r_return dX2_next_214 rfl ?_
                      have hV : tV tx n e = 0 := by first | (rw [tV, if_neg (by omega)]; done) | (rw [tV, if_pos (by omega), tB]; simp [h172, h185]; done) | (rw [tV, if_pos (by omega), tB]; simp [h172]; done) | (rw [tV, if_pos (by omega), tB, if_neg (by simp; omega)]; done) | (rw [tV, if_pos (by omega), tB, if_pos (by simp; omega)]; done)
                      have hE2 : tE tx n e = (tE tx n e) := by first | rfl | (rw [tE, if_neg (by omega), if_pos (by omega)]; done) | (rw [tE, if_neg (by omega), if_neg (by omega)]; done)
                      (try simp only [gs_set])
                      rw [hV, hE2] at hQ
                      exact hQ
                    · skip
                      exfalso; have h9 : cls (tx (tS tx n e)) = 2 := by rw [← srt_i hS1]; exact hc2
                      have := (cls_2i h9).1; omega
                  · have hSn : (tS tx n e) < n := by omega
                    refine r_aload_n (pc' := 89) dX2_next_88 rfl rfl ?_
                    refine r_aload_n (pc' := 90) dX2_next_89 rfl rfl ?_
                    refine r_get (pc' := 93) fX2_35 dX2_next_90 rfl (gs_eq r1) rfl ?_
                    refine r_callV (pc' := 96) (av := [.int (nI q)]) (rest := []) kX2_sortAt vX2_sortAt lX2_98 dX2_next_93 rfl (gs_eq r1) rfl rfl rfl ⟨by decide, by decide, by decide⟩ rfl rfl (Nat.le_of_ble_eq_true rfl) (ct_X2_sortAt (gs_eq r1) (gs_ne r2 (by decide)) rt hn (i := q) (by omega) ?_)
                    show Wp g yX2_next cX2_next 1 none 3 0 0 (px_MQ g Q 0 0) 0 0 96 [some (.ref 1)] [.int (nI (srt tx n q))] (w.set 1 (rdc n q (tC tx n e) (tS tx n e) (0)))
                    have z93 := srt_b tx n q
                    refine r_aload_n (pc' := 97) dX2_next_96 rfl rfl ?_
                    refine r_get (pc' := 100) fX2_41 dX2_next_97 rfl (gs_eq r1) rfl ?_
                    refine r_icmp_ne (pc' := 103) (P := srt tx n q = (tC tx n e)) (tgt := 159) dX2_next_100 (by decide) rfl (nI_eq (a := srt tx n q) (b := (tC tx n e)) (by omega) (by omega)) (fun h100 => ?_) (fun h100 => ?_)
                    · skip
                      have hE : tE tx n e = q := by rw [tE, if_pos (by omega), ← hJ]; exact run_f (by first | exact h100 | (rw [srt_0.mpr (by omega)]; omega))
                      obtain rfl : q = tE tx n e := hE.symm
                      refine r_aload_n (pc' := 160) dX2_next_159 rfl rfl ?_
                      refine r_get (pc' := 163) fX2_9 dX2_next_160 rfl (gs_eq r1) rfl ?_
                      refine r_aload_n (pc' := 164) dX2_next_163 rfl rfl ?_
                      refine r_get (pc' := 167) fX2_48 dX2_next_164 rfl (gs_eq r1) rfl ?_
                      have hS1 : tS tx n e < n := by have := mt tC_0.mpr (show ¬ tC tx n e = 0 by omega); omega
                      refine r_callS (pc' := 170) (av := [.ref 2, .int (nI ((tS tx n e)))]) (rest := []) kX3_at vX3_at lX2_73 dX2_next_167 rfl rfl rfl ⟨by decide, by decide, by decide⟩ rfl rfl (Nat.le_of_ble_eq_true rfl) (ct_X3_at (gs_ne r2 (by decide)) (by decide) (j := (tS tx n e)) (by omega) (rt ((tS tx n e)) (by omega)).1 ?_)
                      show Wp g yX2_next cX2_next 1 none 3 0 0 (px_MQ g Q 0 0) 0 0 170 [some (.ref 1)] [.int (nI (tx ((tS tx n e))))] (w.set 1 (rdc n (tE tx n e) (tC tx n e) (tS tx n e) (0)))
                      have t167 := (rt ((tS tx n e)) (by omega)).2
                      refine r_bipush (pc' := 172) (v := nI 48) dX2_next_170 rfl rfl ?_
                      refine r_icmp_ne (pc' := 175) (P := tx ((tS tx n e)) = 48) (tgt := 214) dX2_next_172 (by decide) rfl (nI_eq (a := tx ((tS tx n e))) (b := 48) (by omega) (by omega)) (fun h172 => ?_) (fun h172 => ?_)
                      · skip
                        refine r_return dX2_next_214 rfl ?_
                        have hV : tV tx n e = 0 := by first | (rw [tV, if_neg (by omega)]; done) | (rw [tV, if_pos (by omega), tB]; simp [h172, h185]; done) | (rw [tV, if_pos (by omega), tB]; simp [h172]; done) | (rw [tV, if_pos (by omega), tB, if_neg (by simp; omega)]; done) | (rw [tV, if_pos (by omega), tB, if_pos (by simp; omega)]; done)
                        have hE2 : tE tx n e = (tE tx n e) := by first | rfl | (rw [tE, if_neg (by omega), if_pos (by omega)]; done) | (rw [tE, if_neg (by omega), if_neg (by omega)]; done)
                        (try simp only [gs_set])
                        rw [hV, hE2] at hQ
                        exact hQ
                      · skip
                        exfalso; have h9 : cls (tx (tS tx n e)) = 2 := by rw [← srt_i hS1]; exact hc2
                        have := (cls_2i h9).1; omega
                    · have h100' : cls (tx q) = tC tx n e := by rw [← srt_i (show q < n by omega)]; exact h100
                      refine r_aload_n (pc' := 104) dX2_next_103 rfl rfl ?_
                      refine r_aload_n (pc' := 105) dX2_next_104 rfl rfl ?_
                      refine r_get (pc' := 108) fX2_41 dX2_next_105 rfl (gs_eq r1) rfl ?_
                      refine r_iconst (pc' := 109) (v := nI 2) dX2_next_108 rfl rfl ?_
                      refine r_icmp_ne (pc' := 112) (P := (tC tx n e) = 2) (tgt := 116) dX2_next_109 (by decide) rfl (nI_eq (a := (tC tx n e)) (b := 2) (by omega) (by omega)) (fun h109 => ?_) (fun h109 => ?_)
                      · skip
                        exfalso; omega
                      · skip
                        refine r_iconst (pc' := 113) (v := nI 0) dX2_next_112 rfl rfl ?_
                        refine r_goto (tgt := 143) dX2_next_113 (by decide) ?_
                        refine r_put (pc' := 146) (ty := .int) (c' := .inr (2, [.ref 2, .int (nI n), .ref 3, .int (nI q), .int (nI ((tC tx n e))), .int (nI ((tS tx n e))), .int (nI 0)])) fX2_95 dX2_next_143 rfl (gs_eq r1) (Nat.le_of_ble_eq_true rfl) rfl (by decide +kernel) rfl rfl rfl ?_
                        refine px_id (gs_eq r1) ?_
                        refine r_aload_n (pc' := 147) dX2_next_146 rfl rfl ?_
                        refine r_dup (pc' := 148) dX2_next_147 rfl rfl ?_
                        refine r_get (pc' := 151) fX2_35 dX2_next_148 rfl (gs_eq r1) rfl ?_
                        refine r_iconst (pc' := 152) (v := nI 1) dX2_next_151 rfl rfl ?_
                        refine r_iadd (pc' := 153) (v := nI (q + 1)) dX2_next_152 rfl (nI_add q 1) ?_
                        refine r_put (pc' := 156) (ty := .int) (c' := .inr (2, [.ref 2, .int (nI n), .ref 3, .int (nI (q + 1)), .int (nI ((tC tx n e))), .int (nI ((tS tx n e))), .int (nI 0)])) fX2_35 dX2_next_153 rfl (gs_eq r1) (Nat.le_of_ble_eq_true rfl) rfl (by decide +kernel) rfl rfl rfl ?_
                        refine r_goto (tgt := 77) dX2_next_156 (by decide) ?_
                        (try simp only [gs_set])
                        exact ih77 (q + 1) (by omega) (by omega) (by omega) (by rw [← hJ, ← run_t (by omega) (by omega)])
              have L0 := L77 (n - (tS tx n e) + 1) (tS tx n e) (by omega) (by omega) (Nat.le_refl _) rfl
              (try simp only [gs_set]); (try simp only [gs_set] at L0); exact L0
        · skip
          refine r_aload_n (pc' := 24) dX2_next_23 rfl rfl ?_
          refine r_dup (pc' := 25) dX2_next_24 rfl rfl ?_
          refine r_get (pc' := 28) fX2_35 dX2_next_25 rfl (gs_eq r1) rfl ?_
          refine r_iconst (pc' := 29) (v := nI 1) dX2_next_28 rfl rfl ?_
          refine r_iadd (pc' := 30) (v := nI (p + 1)) dX2_next_29 rfl (nI_add p 1) ?_
          refine r_put (pc' := 33) (ty := .int) (c' := .inr (2, [.ref 2, .int (nI n), .ref 3, .int (nI (p + 1)), .int (nI c), .int (nI s), .int (nI v)])) fX2_35 dX2_next_30 rfl (gs_eq r1) (Nat.le_of_ble_eq_true rfl) rfl (by decide +kernel) rfl rfl rfl ?_
          refine r_goto (tgt := 0) dX2_next_33 (by decide) ?_
          rw [gs_set]
          exact ih0 (p + 1) (by omega) (by omega) (by rw [← run_t h20 (by decide)]; exact hI)
  have L0 := L0 (n - e + 1) e (Nat.lt_succ_self _) he rfl
  rw [gs_id r1] at L0
  exact L0
