theorem itS_w {tx : Nat → Nat} {n p : Nat} {T : px_T} (h1 : beg tx n p 119 = true) (h2 : tW T < 6) : itS tx n T p = itW tx n T p := by rw [itS, h1, decide_eq_true h2]; rfl
theorem itS_d {tx : Nat → Nat} {n p : Nat} {T : px_T} (h0 : (beg tx n p 119 && decide (tW T < 6)) = false) (h1 : beg tx n p 100 = true) (h2 : tD T < 4) : itS tx n T p = itD tx n T p := by rw [itS, h0, h1, decide_eq_true h2]; rfl
theorem itS_g {tx : Nat → Nat} {n p : Nat} {T : px_T} (h0 : (beg tx n p 119 && decide (tW T < 6)) = false) (h00 : (beg tx n p 100 && decide (tD T < 4)) = false) (h1 : beg tx n p 103 = true) (h2 : tG T < 6) : itS tx n T p = itG tx n T p := by rw [itS, h0, h00, h1, decide_eq_true h2]; rfl
theorem itS_n {tx : Nat → Nat} {n p : Nat} {T : px_T} (h0 : (beg tx n p 119 && decide (tW T < 6)) = false) (h00 : (beg tx n p 100 && decide (tD T < 4)) = false) (h000 : (beg tx n p 103 && decide (tG T < 6)) = false) : itS tx n T p = .inl (tS tx n p) := by rw [itS, h0, h00, h000]; rfl
theorem and_f1 {b c : Bool} (h : b = false) : (b && c) = false := by rw [h]; rfl
theorem and_f2 {b : Bool} {a m : Nat} (h : m ≤ a) : (b && decide (a < m)) = false := by rw [decide_eq_false (by omega), Bool.and_false]
theorem itS_f {tx : Nat → Nat} {n : Nat} {T : px_T} {p f : Nat} (hp : p ≤ n) (h : itS tx n T p = .inl f) : f ≤ n := by
  have g0 := tS_le (tx := tx) hp
  have g1 := tS_le (tx := tx) (tE_le (tx := tx) hp)
  have g2 := tS_le (tx := tx) (tE_le (tx := tx) (tE_le (tx := tx) hp))
  have g3 := tS_le (tx := tx) (tE_le (tx := tx) (tE_le (tx := tx) (tE_le (tx := tx) hp)))
  have g4 := tS_le (tx := tx) (tE_le (tx := tx) (tE_le (tx := tx) (tE_le (tx := tx) (tE_le (tx := tx) hp))))
  unfold itS itW itD itG at h
  repeat' split at h
  all_goals first | (cases h; done) | (injection h with h; omega)
theorem parS_e {tx : Nat → Nat} {n k : Nat} {T : px_T} {p m : Nat} (h : tC tx n p = 0) : parS tx n (k + 1) T p m = .inr (T, m) := by rw [parS, if_pos h]
theorem parS_f {tx : Nat → Nat} {n k : Nat} {T : px_T} {p m f : Nat} (h : tC tx n p ≠ 0) (h2 : itS tx n T p = .inl f) : parS tx n (k + 1) T p m = .inl f := by rw [parS, if_neg h, itZ, h2]
theorem parS_z {tx : Nat → Nat} {n k : Nat} {T T' : px_T} {p p' m : Nat} (h : tC tx n p ≠ 0) (h2 : itS tx n T p = .inr (T', p')) (h3 : tC tx n p' ≠ 4) : parS tx n (k + 1) T p m = .inl (tS tx n p') := by
  rw [parS, if_neg h, itZ, h2]; simp only; rw [if_neg h3]
theorem parS_s {tx : Nat → Nat} {n k : Nat} {T T' : px_T} {p p' m : Nat} (h : tC tx n p ≠ 0) (h2 : itS tx n T p = .inr (T', p')) (h3 : tC tx n p' = 4) : parS tx n (k + 1) T p m = parS tx n k T' (tE tx n p') (m + 1) := by
  rw [parS, if_neg h, itZ, h2]; simp only; rw [if_pos h3]
set_option maxHeartbeats 200000 in
theorem ct_X2_readItem {g : px_G} {w : px_W} {Q : px_Q} {T : px_T} {n p : Nat} {tx : Nat → Nat} {fs : Nat → Int32} (r1 : w[1]? = some (rdp tx n p)) (r2 : w[2]? = some (.inl (0, 150, .inl fs))) (rt : ∀ j, j < n → fs j = nI (tx j) ∧ tx j < 256) (hn : n ≤ 150) (hp : p ≤ n) (hT : SubA w 3 T) (hO : TOK T)  (hok : ∀ w' T' p', itS tx n T p = .inr (T', p') → w'[1]? = some (rdp tx n p') → w'[2]? = some (.inl (0, 150, .inl fs)) → SubA w' 3 T' → Frm w w' 1 9 → Q (some (.int (bI true))) w') (hno : ∀ w' T' e c f v, itS tx n T p = .inl f → w'[1]? = some (rdc n e c f v) → w'[2]? = some (.inl (0, 150, .inl fs)) → SubA w' 3 T' → Frm w w' 1 9 → Q (some (.int (bI false))) w') : Ct g yX2_readItem cX2_readItem 1 (some .boolean) 6 0 0 [.ref 1] w Q := by
  refine Ct.of kX2_readItem (by omega) (lo := [some (.ref 1)]) rfl (px_cat1 rfl) (Nat.le_of_ble_eq_true rfl) ?_
  have b1 := tS_le (tx := tx) hp
  have b2 := tE_ge tx n p
  have b3 := tE_le (tx := tx) hp
  have b4 := tV_le tx n p
  have b5 := tC_b tx n p
  obtain ⟨⟨sb1, sb2, sb3⟩, sb4, sb5⟩ := hT.b
  refine r_aload_n (pc' := 1) dX2_readItem_0 rfl rfl ?_
  refine r_bipush (pc' := 3) (v := nI 119) dX2_readItem_1 rfl rfl ?_
  refine r_callV (pc' := 6) (av := [.int (nI 119)]) (rest := []) kX2_isBegin vX2_isBegin lX2_51 dX2_readItem_3 rfl r1 rfl rfl rfl ⟨by decide, by decide, by decide⟩ rfl rfl (Nat.le_of_ble_eq_true rfl) (ct_X2_isBegin r1 r2 rt hn hp (v := 119) (by decide) ?_)
  show Wp g yX2_readItem cX2_readItem 1 (some .boolean) 6 0 0 (px_MQ g Q 0 0) 0 0 6 [some (.ref 1)] [.int (bI (beg tx n p 119))] w
  refine r_if_eq (pc' := 9) (P := (beg tx n p 119) = false) (tgt := 26) dX2_readItem_6 (by decide) rfl (bI_0) (fun h6 => ?_) (fun h6 => ?_)
  · skip
    refine r_aload_n (pc' := 27) dX2_readItem_26 rfl rfl ?_
    refine r_bipush (pc' := 29) (v := nI 100) dX2_readItem_27 rfl rfl ?_
    refine r_callV (pc' := 32) (av := [.int (nI 100)]) (rest := []) kX2_isBegin vX2_isBegin lX2_51 dX2_readItem_29 rfl r1 rfl rfl rfl ⟨by decide, by decide, by decide⟩ rfl rfl (Nat.le_of_ble_eq_true rfl) (ct_X2_isBegin r1 r2 rt hn hp (v := 100) (by decide) ?_)
    show Wp g yX2_readItem cX2_readItem 1 (some .boolean) 6 0 0 (px_MQ g Q 0 0) 0 0 32 [some (.ref 1)] [.int (bI (beg tx n p 100))] w
    refine r_if_eq (pc' := 35) (P := (beg tx n p 100) = false) (tgt := 51) dX2_readItem_32 (by decide) rfl (bI_0) (fun h32 => ?_) (fun h32 => ?_)
    · skip
      refine r_aload_n (pc' := 52) dX2_readItem_51 rfl rfl ?_
      refine r_bipush (pc' := 54) (v := nI 103) dX2_readItem_52 rfl rfl ?_
      refine r_callV (pc' := 57) (av := [.int (nI 103)]) (rest := []) kX2_isBegin vX2_isBegin lX2_51 dX2_readItem_54 rfl r1 rfl rfl rfl ⟨by decide, by decide, by decide⟩ rfl rfl (Nat.le_of_ble_eq_true rfl) (ct_X2_isBegin r1 r2 rt hn hp (v := 103) (by decide) ?_)
      show Wp g yX2_readItem cX2_readItem 1 (some .boolean) 6 0 0 (px_MQ g Q 0 0) 0 0 57 [some (.ref 1)] [.int (bI (beg tx n p 103))] w
      refine r_if_eq (pc' := 60) (P := (beg tx n p 103) = false) (tgt := 77) dX2_readItem_57 (by decide) rfl (bI_0) (fun h57 => ?_) (fun h57 => ?_)
      · skip
        refine r_iconst (pc' := 78) (v := bI false) dX2_readItem_77 rfl rfl ?_
        refine r_zreturn dX2_readItem_78 rfl (bI_nar _) ?_
        refine hno (w) _ _ _ _ _ ?_ (r1) (r2) hT (Frm.rf (a := 1) (b := 9))
        exact itS_n (by first | exact and_f1 h6 | exact and_f2 (by omega)) (by first | exact and_f1 h32 | exact and_f2 (by omega)) (by first | exact and_f1 h57 | exact and_f2 (by omega))
      · skip
        refine r_aload_n (pc' := 61) dX2_readItem_60 rfl rfl ?_
        refine r_get (pc' := 64) fX2_18 dX2_readItem_61 rfl r1 rfl ?_
        refine r_getN (pc' := 67) fX2_67 dX2_readItem_64 rfl hT.o rfl ?_
        refine r_bipush (pc' := 69) (v := nI 6) dX2_readItem_67 rfl rfl ?_
        refine r_icmp_ge (pc' := 72) (P := 6 ≤ tG T) (tgt := 77) dX2_readItem_69 (by decide) rfl (nI_leI (a := 6) (b := tG T) (by omega) (by omega)) (fun h69 => ?_) (fun h69 => ?_)
        · skip
          refine r_iconst (pc' := 78) (v := bI false) dX2_readItem_77 rfl rfl ?_
          refine r_zreturn dX2_readItem_78 rfl (bI_nar _) ?_
          refine hno (w) _ _ _ _ _ ?_ (r1) (r2) hT (Frm.rf (a := 1) (b := 9))
          exact itS_n (by first | exact and_f1 h6 | exact and_f2 (by omega)) (by first | exact and_f1 h32 | exact and_f2 (by omega)) (by first | exact and_f1 h57 | exact and_f2 (by omega))
        · skip
          refine r_aload_n (pc' := 73) dX2_readItem_72 rfl rfl ?_
          refine r_callV (pc' := 76) (av := []) (rest := []) kX2_readGoer vX2_readGoer lX2_70 dX2_readItem_73 rfl r1 rfl rfl rfl ⟨by decide, by decide, by decide⟩ rfl rfl (Nat.le_of_ble_eq_true rfl) (ct_X2_readGoer r1 r2 rt hn hp hT hO (by omega) ?_ ?_)
          · intro w' T' p' e1 e2 e3 e4 e5
            show Wp g yX2_readItem cX2_readItem 1 (some .boolean) 6 0 0 (px_MQ g Q 0 0) 0 0 76 [some (.ref 1)] [.int (bI true)] w'
            refine r_zreturn dX2_readItem_76 rfl (bI_nar _) ?_
            exact hok w' T' p' ((itS_g (by first | exact and_f1 h6 | exact and_f2 (by omega)) (by first | exact and_f1 h32 | exact and_f2 (by omega)) (by simpa using h57) (by omega)).trans e1) e2 e3 e4 e5
          · intro w' T' e c f v e1 e2 e3 e4 e5
            show Wp g yX2_readItem cX2_readItem 1 (some .boolean) 6 0 0 (px_MQ g Q 0 0) 0 0 76 [some (.ref 1)] [.int (bI false)] w'
            refine r_zreturn dX2_readItem_76 rfl (bI_nar _) ?_
            exact hno w' T' e c f v ((itS_g (by first | exact and_f1 h6 | exact and_f2 (by omega)) (by first | exact and_f1 h32 | exact and_f2 (by omega)) (by simpa using h57) (by omega)).trans e1) e2 e3 e4 e5
    · skip
      refine r_aload_n (pc' := 36) dX2_readItem_35 rfl rfl ?_
      refine r_get (pc' := 39) fX2_18 dX2_readItem_36 rfl r1 rfl ?_
      refine r_getN (pc' := 42) fX2_61 dX2_readItem_39 rfl hT.o rfl ?_
      refine r_iconst (pc' := 43) (v := nI 4) dX2_readItem_42 rfl rfl ?_
      refine r_icmp_ge (pc' := 46) (P := 4 ≤ tD T) (tgt := 51) dX2_readItem_43 (by decide) rfl (nI_leI (a := 4) (b := tD T) (by omega) (by omega)) (fun h43 => ?_) (fun h43 => ?_)
      · skip
        refine r_aload_n (pc' := 52) dX2_readItem_51 rfl rfl ?_
        refine r_bipush (pc' := 54) (v := nI 103) dX2_readItem_52 rfl rfl ?_
        refine r_callV (pc' := 57) (av := [.int (nI 103)]) (rest := []) kX2_isBegin vX2_isBegin lX2_51 dX2_readItem_54 rfl r1 rfl rfl rfl ⟨by decide, by decide, by decide⟩ rfl rfl (Nat.le_of_ble_eq_true rfl) (ct_X2_isBegin r1 r2 rt hn hp (v := 103) (by decide) ?_)
        show Wp g yX2_readItem cX2_readItem 1 (some .boolean) 6 0 0 (px_MQ g Q 0 0) 0 0 57 [some (.ref 1)] [.int (bI (beg tx n p 103))] w
        refine r_if_eq (pc' := 60) (P := (beg tx n p 103) = false) (tgt := 77) dX2_readItem_57 (by decide) rfl (bI_0) (fun h57 => ?_) (fun h57 => ?_)
        · skip
          refine r_iconst (pc' := 78) (v := bI false) dX2_readItem_77 rfl rfl ?_
          refine r_zreturn dX2_readItem_78 rfl (bI_nar _) ?_
          refine hno (w) _ _ _ _ _ ?_ (r1) (r2) hT (Frm.rf (a := 1) (b := 9))
          exact itS_n (by first | exact and_f1 h6 | exact and_f2 (by omega)) (by first | exact and_f1 h32 | exact and_f2 (by omega)) (by first | exact and_f1 h57 | exact and_f2 (by omega))
        · skip
          refine r_aload_n (pc' := 61) dX2_readItem_60 rfl rfl ?_
          refine r_get (pc' := 64) fX2_18 dX2_readItem_61 rfl r1 rfl ?_
          refine r_getN (pc' := 67) fX2_67 dX2_readItem_64 rfl hT.o rfl ?_
          refine r_bipush (pc' := 69) (v := nI 6) dX2_readItem_67 rfl rfl ?_
          refine r_icmp_ge (pc' := 72) (P := 6 ≤ tG T) (tgt := 77) dX2_readItem_69 (by decide) rfl (nI_leI (a := 6) (b := tG T) (by omega) (by omega)) (fun h69 => ?_) (fun h69 => ?_)
          · skip
            refine r_iconst (pc' := 78) (v := bI false) dX2_readItem_77 rfl rfl ?_
            refine r_zreturn dX2_readItem_78 rfl (bI_nar _) ?_
            refine hno (w) _ _ _ _ _ ?_ (r1) (r2) hT (Frm.rf (a := 1) (b := 9))
            exact itS_n (by first | exact and_f1 h6 | exact and_f2 (by omega)) (by first | exact and_f1 h32 | exact and_f2 (by omega)) (by first | exact and_f1 h57 | exact and_f2 (by omega))
          · skip
            refine r_aload_n (pc' := 73) dX2_readItem_72 rfl rfl ?_
            refine r_callV (pc' := 76) (av := []) (rest := []) kX2_readGoer vX2_readGoer lX2_70 dX2_readItem_73 rfl r1 rfl rfl rfl ⟨by decide, by decide, by decide⟩ rfl rfl (Nat.le_of_ble_eq_true rfl) (ct_X2_readGoer r1 r2 rt hn hp hT hO (by omega) ?_ ?_)
            · intro w' T' p' e1 e2 e3 e4 e5
              show Wp g yX2_readItem cX2_readItem 1 (some .boolean) 6 0 0 (px_MQ g Q 0 0) 0 0 76 [some (.ref 1)] [.int (bI true)] w'
              refine r_zreturn dX2_readItem_76 rfl (bI_nar _) ?_
              exact hok w' T' p' ((itS_g (by first | exact and_f1 h6 | exact and_f2 (by omega)) (by first | exact and_f1 h32 | exact and_f2 (by omega)) (by simpa using h57) (by omega)).trans e1) e2 e3 e4 e5
            · intro w' T' e c f v e1 e2 e3 e4 e5
              show Wp g yX2_readItem cX2_readItem 1 (some .boolean) 6 0 0 (px_MQ g Q 0 0) 0 0 76 [some (.ref 1)] [.int (bI false)] w'
              refine r_zreturn dX2_readItem_76 rfl (bI_nar _) ?_
              exact hno w' T' e c f v ((itS_g (by first | exact and_f1 h6 | exact and_f2 (by omega)) (by first | exact and_f1 h32 | exact and_f2 (by omega)) (by simpa using h57) (by omega)).trans e1) e2 e3 e4 e5
      · skip
        refine r_aload_n (pc' := 47) dX2_readItem_46 rfl rfl ?_
        refine r_callV (pc' := 50) (av := []) (rest := []) kX2_readDrive vX2_readDrive lX2_64 dX2_readItem_47 rfl r1 rfl rfl rfl ⟨by decide, by decide, by decide⟩ rfl rfl (Nat.le_of_ble_eq_true rfl) (ct_X2_readDrive r1 r2 rt hn hp hT hO (by omega) ?_ ?_)
        · intro w' T' p' e1 e2 e3 e4 e5
          show Wp g yX2_readItem cX2_readItem 1 (some .boolean) 6 0 0 (px_MQ g Q 0 0) 0 0 50 [some (.ref 1)] [.int (bI true)] w'
          refine r_zreturn dX2_readItem_50 rfl (bI_nar _) ?_
          exact hok w' T' p' ((itS_d (by first | exact and_f1 h6 | exact and_f2 (by omega)) (by simpa using h32) (by omega)).trans e1) e2 e3 e4 e5
        · intro w' T' e c f v e1 e2 e3 e4 e5
          show Wp g yX2_readItem cX2_readItem 1 (some .boolean) 6 0 0 (px_MQ g Q 0 0) 0 0 50 [some (.ref 1)] [.int (bI false)] w'
          refine r_zreturn dX2_readItem_50 rfl (bI_nar _) ?_
          exact hno w' T' e c f v ((itS_d (by first | exact and_f1 h6 | exact and_f2 (by omega)) (by simpa using h32) (by omega)).trans e1) e2 e3 e4 e5
  · skip
    refine r_aload_n (pc' := 10) dX2_readItem_9 rfl rfl ?_
    refine r_get (pc' := 13) fX2_18 dX2_readItem_10 rfl r1 rfl ?_
    refine r_getN (pc' := 16) fX2_55 dX2_readItem_13 rfl hT.o rfl ?_
    refine r_bipush (pc' := 18) (v := nI 6) dX2_readItem_16 rfl rfl ?_
    refine r_icmp_ge (pc' := 21) (P := 6 ≤ tW T) (tgt := 26) dX2_readItem_18 (by decide) rfl (nI_leI (a := 6) (b := tW T) (by omega) (by omega)) (fun h18 => ?_) (fun h18 => ?_)
    · skip
      refine r_aload_n (pc' := 27) dX2_readItem_26 rfl rfl ?_
      refine r_bipush (pc' := 29) (v := nI 100) dX2_readItem_27 rfl rfl ?_
      refine r_callV (pc' := 32) (av := [.int (nI 100)]) (rest := []) kX2_isBegin vX2_isBegin lX2_51 dX2_readItem_29 rfl r1 rfl rfl rfl ⟨by decide, by decide, by decide⟩ rfl rfl (Nat.le_of_ble_eq_true rfl) (ct_X2_isBegin r1 r2 rt hn hp (v := 100) (by decide) ?_)
      show Wp g yX2_readItem cX2_readItem 1 (some .boolean) 6 0 0 (px_MQ g Q 0 0) 0 0 32 [some (.ref 1)] [.int (bI (beg tx n p 100))] w
      refine r_if_eq (pc' := 35) (P := (beg tx n p 100) = false) (tgt := 51) dX2_readItem_32 (by decide) rfl (bI_0) (fun h32 => ?_) (fun h32 => ?_)
      · skip
        refine r_aload_n (pc' := 52) dX2_readItem_51 rfl rfl ?_
        refine r_bipush (pc' := 54) (v := nI 103) dX2_readItem_52 rfl rfl ?_
        refine r_callV (pc' := 57) (av := [.int (nI 103)]) (rest := []) kX2_isBegin vX2_isBegin lX2_51 dX2_readItem_54 rfl r1 rfl rfl rfl ⟨by decide, by decide, by decide⟩ rfl rfl (Nat.le_of_ble_eq_true rfl) (ct_X2_isBegin r1 r2 rt hn hp (v := 103) (by decide) ?_)
        show Wp g yX2_readItem cX2_readItem 1 (some .boolean) 6 0 0 (px_MQ g Q 0 0) 0 0 57 [some (.ref 1)] [.int (bI (beg tx n p 103))] w
        refine r_if_eq (pc' := 60) (P := (beg tx n p 103) = false) (tgt := 77) dX2_readItem_57 (by decide) rfl (bI_0) (fun h57 => ?_) (fun h57 => ?_)
        · skip
          refine r_iconst (pc' := 78) (v := bI false) dX2_readItem_77 rfl rfl ?_
          refine r_zreturn dX2_readItem_78 rfl (bI_nar _) ?_
          refine hno (w) _ _ _ _ _ ?_ (r1) (r2) hT (Frm.rf (a := 1) (b := 9))
          exact itS_n (by first | exact and_f1 h6 | exact and_f2 (by omega)) (by first | exact and_f1 h32 | exact and_f2 (by omega)) (by first | exact and_f1 h57 | exact and_f2 (by omega))
        · skip
          refine r_aload_n (pc' := 61) dX2_readItem_60 rfl rfl ?_
          refine r_get (pc' := 64) fX2_18 dX2_readItem_61 rfl r1 rfl ?_
          refine r_getN (pc' := 67) fX2_67 dX2_readItem_64 rfl hT.o rfl ?_
          refine r_bipush (pc' := 69) (v := nI 6) dX2_readItem_67 rfl rfl ?_
          refine r_icmp_ge (pc' := 72) (P := 6 ≤ tG T) (tgt := 77) dX2_readItem_69 (by decide) rfl (nI_leI (a := 6) (b := tG T) (by omega) (by omega)) (fun h69 => ?_) (fun h69 => ?_)
          · skip
            refine r_iconst (pc' := 78) (v := bI false) dX2_readItem_77 rfl rfl ?_
            refine r_zreturn dX2_readItem_78 rfl (bI_nar _) ?_
            refine hno (w) _ _ _ _ _ ?_ (r1) (r2) hT (Frm.rf (a := 1) (b := 9))
            exact itS_n (by first | exact and_f1 h6 | exact and_f2 (by omega)) (by first | exact and_f1 h32 | exact and_f2 (by omega)) (by first | exact and_f1 h57 | exact and_f2 (by omega))
          · skip
            refine r_aload_n (pc' := 73) dX2_readItem_72 rfl rfl ?_
            refine r_callV (pc' := 76) (av := []) (rest := []) kX2_readGoer vX2_readGoer lX2_70 dX2_readItem_73 rfl r1 rfl rfl rfl ⟨by decide, by decide, by decide⟩ rfl rfl (Nat.le_of_ble_eq_true rfl) (ct_X2_readGoer r1 r2 rt hn hp hT hO (by omega) ?_ ?_)
            · intro w' T' p' e1 e2 e3 e4 e5
              show Wp g yX2_readItem cX2_readItem 1 (some .boolean) 6 0 0 (px_MQ g Q 0 0) 0 0 76 [some (.ref 1)] [.int (bI true)] w'
              refine r_zreturn dX2_readItem_76 rfl (bI_nar _) ?_
              exact hok w' T' p' ((itS_g (by first | exact and_f1 h6 | exact and_f2 (by omega)) (by first | exact and_f1 h32 | exact and_f2 (by omega)) (by simpa using h57) (by omega)).trans e1) e2 e3 e4 e5
            · intro w' T' e c f v e1 e2 e3 e4 e5
              show Wp g yX2_readItem cX2_readItem 1 (some .boolean) 6 0 0 (px_MQ g Q 0 0) 0 0 76 [some (.ref 1)] [.int (bI false)] w'
              refine r_zreturn dX2_readItem_76 rfl (bI_nar _) ?_
              exact hno w' T' e c f v ((itS_g (by first | exact and_f1 h6 | exact and_f2 (by omega)) (by first | exact and_f1 h32 | exact and_f2 (by omega)) (by simpa using h57) (by omega)).trans e1) e2 e3 e4 e5
      · skip
        refine r_aload_n (pc' := 36) dX2_readItem_35 rfl rfl ?_
        refine r_get (pc' := 39) fX2_18 dX2_readItem_36 rfl r1 rfl ?_
        refine r_getN (pc' := 42) fX2_61 dX2_readItem_39 rfl hT.o rfl ?_
        refine r_iconst (pc' := 43) (v := nI 4) dX2_readItem_42 rfl rfl ?_
        refine r_icmp_ge (pc' := 46) (P := 4 ≤ tD T) (tgt := 51) dX2_readItem_43 (by decide) rfl (nI_leI (a := 4) (b := tD T) (by omega) (by omega)) (fun h43 => ?_) (fun h43 => ?_)
        · skip
          refine r_aload_n (pc' := 52) dX2_readItem_51 rfl rfl ?_
          refine r_bipush (pc' := 54) (v := nI 103) dX2_readItem_52 rfl rfl ?_
          refine r_callV (pc' := 57) (av := [.int (nI 103)]) (rest := []) kX2_isBegin vX2_isBegin lX2_51 dX2_readItem_54 rfl r1 rfl rfl rfl ⟨by decide, by decide, by decide⟩ rfl rfl (Nat.le_of_ble_eq_true rfl) (ct_X2_isBegin r1 r2 rt hn hp (v := 103) (by decide) ?_)
          show Wp g yX2_readItem cX2_readItem 1 (some .boolean) 6 0 0 (px_MQ g Q 0 0) 0 0 57 [some (.ref 1)] [.int (bI (beg tx n p 103))] w
          refine r_if_eq (pc' := 60) (P := (beg tx n p 103) = false) (tgt := 77) dX2_readItem_57 (by decide) rfl (bI_0) (fun h57 => ?_) (fun h57 => ?_)
          · skip
            refine r_iconst (pc' := 78) (v := bI false) dX2_readItem_77 rfl rfl ?_
            refine r_zreturn dX2_readItem_78 rfl (bI_nar _) ?_
            refine hno (w) _ _ _ _ _ ?_ (r1) (r2) hT (Frm.rf (a := 1) (b := 9))
            exact itS_n (by first | exact and_f1 h6 | exact and_f2 (by omega)) (by first | exact and_f1 h32 | exact and_f2 (by omega)) (by first | exact and_f1 h57 | exact and_f2 (by omega))
          · skip
            refine r_aload_n (pc' := 61) dX2_readItem_60 rfl rfl ?_
            refine r_get (pc' := 64) fX2_18 dX2_readItem_61 rfl r1 rfl ?_
            refine r_getN (pc' := 67) fX2_67 dX2_readItem_64 rfl hT.o rfl ?_
            refine r_bipush (pc' := 69) (v := nI 6) dX2_readItem_67 rfl rfl ?_
            refine r_icmp_ge (pc' := 72) (P := 6 ≤ tG T) (tgt := 77) dX2_readItem_69 (by decide) rfl (nI_leI (a := 6) (b := tG T) (by omega) (by omega)) (fun h69 => ?_) (fun h69 => ?_)
            · skip
              refine r_iconst (pc' := 78) (v := bI false) dX2_readItem_77 rfl rfl ?_
              refine r_zreturn dX2_readItem_78 rfl (bI_nar _) ?_
              refine hno (w) _ _ _ _ _ ?_ (r1) (r2) hT (Frm.rf (a := 1) (b := 9))
              exact itS_n (by first | exact and_f1 h6 | exact and_f2 (by omega)) (by first | exact and_f1 h32 | exact and_f2 (by omega)) (by first | exact and_f1 h57 | exact and_f2 (by omega))
            · skip
              refine r_aload_n (pc' := 73) dX2_readItem_72 rfl rfl ?_
              refine r_callV (pc' := 76) (av := []) (rest := []) kX2_readGoer vX2_readGoer lX2_70 dX2_readItem_73 rfl r1 rfl rfl rfl ⟨by decide, by decide, by decide⟩ rfl rfl (Nat.le_of_ble_eq_true rfl) (ct_X2_readGoer r1 r2 rt hn hp hT hO (by omega) ?_ ?_)
              · intro w' T' p' e1 e2 e3 e4 e5
                show Wp g yX2_readItem cX2_readItem 1 (some .boolean) 6 0 0 (px_MQ g Q 0 0) 0 0 76 [some (.ref 1)] [.int (bI true)] w'
                refine r_zreturn dX2_readItem_76 rfl (bI_nar _) ?_
                exact hok w' T' p' ((itS_g (by first | exact and_f1 h6 | exact and_f2 (by omega)) (by first | exact and_f1 h32 | exact and_f2 (by omega)) (by simpa using h57) (by omega)).trans e1) e2 e3 e4 e5
              · intro w' T' e c f v e1 e2 e3 e4 e5
                show Wp g yX2_readItem cX2_readItem 1 (some .boolean) 6 0 0 (px_MQ g Q 0 0) 0 0 76 [some (.ref 1)] [.int (bI false)] w'
                refine r_zreturn dX2_readItem_76 rfl (bI_nar _) ?_
                exact hno w' T' e c f v ((itS_g (by first | exact and_f1 h6 | exact and_f2 (by omega)) (by first | exact and_f1 h32 | exact and_f2 (by omega)) (by simpa using h57) (by omega)).trans e1) e2 e3 e4 e5
        · skip
          refine r_aload_n (pc' := 47) dX2_readItem_46 rfl rfl ?_
          refine r_callV (pc' := 50) (av := []) (rest := []) kX2_readDrive vX2_readDrive lX2_64 dX2_readItem_47 rfl r1 rfl rfl rfl ⟨by decide, by decide, by decide⟩ rfl rfl (Nat.le_of_ble_eq_true rfl) (ct_X2_readDrive r1 r2 rt hn hp hT hO (by omega) ?_ ?_)
          · intro w' T' p' e1 e2 e3 e4 e5
            show Wp g yX2_readItem cX2_readItem 1 (some .boolean) 6 0 0 (px_MQ g Q 0 0) 0 0 50 [some (.ref 1)] [.int (bI true)] w'
            refine r_zreturn dX2_readItem_50 rfl (bI_nar _) ?_
            exact hok w' T' p' ((itS_d (by first | exact and_f1 h6 | exact and_f2 (by omega)) (by simpa using h32) (by omega)).trans e1) e2 e3 e4 e5
          · intro w' T' e c f v e1 e2 e3 e4 e5
            show Wp g yX2_readItem cX2_readItem 1 (some .boolean) 6 0 0 (px_MQ g Q 0 0) 0 0 50 [some (.ref 1)] [.int (bI false)] w'
            refine r_zreturn dX2_readItem_50 rfl (bI_nar _) ?_
            exact hno w' T' e c f v ((itS_d (by first | exact and_f1 h6 | exact and_f2 (by omega)) (by simpa using h32) (by omega)).trans e1) e2 e3 e4 e5
    · skip
      refine r_aload_n (pc' := 22) dX2_readItem_21 rfl rfl ?_
      refine r_callV (pc' := 25) (av := []) (rest := []) kX2_readWord vX2_readWord lX2_58 dX2_readItem_22 rfl r1 rfl rfl rfl ⟨by decide, by decide, by decide⟩ rfl rfl (Nat.le_of_ble_eq_true rfl) (ct_X2_readWord r1 r2 rt hn hp hT hO (by omega) ?_ ?_)
      · intro w' T' p' e1 e2 e3 e4 e5
        show Wp g yX2_readItem cX2_readItem 1 (some .boolean) 6 0 0 (px_MQ g Q 0 0) 0 0 25 [some (.ref 1)] [.int (bI true)] w'
        refine r_zreturn dX2_readItem_25 rfl (bI_nar _) ?_
        exact hok w' T' p' ((itS_w (by simpa using h6) (by omega)).trans e1) e2 e3 e4 e5
      · intro w' T' e c f v e1 e2 e3 e4 e5
        show Wp g yX2_readItem cX2_readItem 1 (some .boolean) 6 0 0 (px_MQ g Q 0 0) 0 0 25 [some (.ref 1)] [.int (bI false)] w'
        refine r_zreturn dX2_readItem_25 rfl (bI_nar _) ?_
        exact hno w' T' e c f v ((itS_w (by simpa using h6) (by omega)).trans e1) e2 e3 e4 e5
set_option maxHeartbeats 200000 in
theorem ct_X2_readAll {g : px_G} {w : px_W} {Q : px_Q} {n e c s v : Nat} {tx : Nat → Nat} {fs : Nat → Int32} (r1 : w[1]? = some (rdc n e c s v)) (r2 : w[2]? = some (.inl (0, 150, .inl fs))) (rt : ∀ j, j < n → fs j = nI (tx j) ∧ tx j < 256) (hn : n ≤ 150) {Td : px_T} (hT : SubA w 3 Td) (hok : ∀ w' T m, parR tx n = .inr (T, m) → TOK T → m ≤ 150 → SubA w' 3 T → RdA w' n tx → Frm w w' 1 9 → Q (some (.int (nI m))) w') (hno : ∀ w' f, parR tx n = .inl f → f ≤ 150 → RdA w' n tx → Frm w w' 1 9 → Q (some (.int ((-10) - (nI f)))) w') : Ct g yX2_readAll cX2_readAll 2 (some .int) 7 0 0 [.ref 1] w Q := by
  refine Ct.of kX2_readAll (by omega) (lo := [some (.ref 1), none]) rfl (px_cat1 rfl) (Nat.le_of_ble_eq_true rfl) ?_
  refine r_aload_n (pc' := 1) dX2_readAll_0 rfl rfl ?_
  refine r_get (pc' := 4) fX2_18 dX2_readAll_1 rfl r1 rfl ?_
  refine r_callV (pc' := 7) (av := []) (rest := []) kX5_becomeEmpty vX5_becomeEmpty lX2_32 dX2_readAll_4 rfl hT.o rfl rfl rfl ⟨by decide, by decide, by decide⟩ rfl rfl (Nat.le_of_ble_eq_true rfl) (ct_X5_becomeEmpty hT (fun w4 hT4 hF4 => ?_))
  show Wp g yX2_readAll cX2_readAll 2 (some .int) 7 0 0 (px_MQ g Q 0 0) 0 0 7 [some (.ref 1), none] [] w4
  refine r_aload_n (pc' := 8) dX2_readAll_7 rfl rfl ?_
  refine r_iconst (pc' := 9) (v := nI 0) dX2_readAll_8 rfl rfl ?_
  refine r_put (pc' := 12) (ty := .int) (c' := .inr (2, [.ref 2, .int (nI n), .ref 3, .int (nI 0), .int (nI c), .int (nI s), .int (nI v)])) fX2_35 dX2_readAll_9 rfl (hF4.at r1 (by omega)) (Nat.le_of_ble_eq_true rfl) rfl (by decide +kernel) rfl rfl rfl ?_
  refine r_aload_n (pc' := 13) dX2_readAll_12 rfl rfl ?_
  refine r_callV (pc' := 16) (av := []) (rest := []) kX2_next vX2_next lX2_38 dX2_readAll_13 rfl (gs_eq (hF4.at r1 (by omega))) rfl rfl rfl ⟨by decide, by decide, by decide⟩ rfl rfl (Nat.le_of_ble_eq_true rfl) (ct_X2_next (gs_eq (hF4.at r1 (by omega))) (gs_ne (hF4.at r2 (by omega)) (by decide)) rt hn (Nat.zero_le _) ?_)
  show Wp g yX2_readAll cX2_readAll 2 (some .int) 7 0 0 (px_MQ g Q 0 0) 0 0 16 [some (.ref 1), none] [] ((w4.set 1 (.inr (2, [.ref 2, .int (nI n), .ref 3, .int (nI 0), .int (nI c), .int (nI s), .int (nI v)]))).set 1 (.inr (2, [.ref 2, .int (nI n), .ref 3, .int (nI (tE tx n 0)), .int (nI (tC tx n 0)), .int (nI (tS tx n 0)), .int (nI (tV tx n 0))])))
  refine r_iconst (pc' := 17) (v := nI 0) dX2_readAll_16 rfl rfl ?_
  refine r_istore_n (pc' := 18) (lo' := [some (.ref 1), some (.int (nI 0))]) dX2_readAll_17 rfl (by decide) rfl ?_
  have L18 : ∀ (fu : Nat) (k m p : Nat) (T : px_T) (w1 : px_W), k < fu → w1[1]? = some (rdp tx n p) → w1[2]? = some (.inl (0, 150, .inl fs)) → SubA w1 3 T → TOK T → p ≤ n → m ≤ p → n - p < k → parR tx n = parS tx n k T p m → Frm w w1 1 9 → Wp g yX2_readAll cX2_readAll 2 (some .int) 7 0 0 (px_MQ g Q 0 0) 0 0 18 [some (.ref 1), some (.int (nI m))] [] w1 := by
    intro fu; induction fu with
    | zero => intro k m p T w1 hm; exact absurd hm (Nat.not_lt_zero _)
    | succ fu ih =>
      intro k m p T w1 hm q1 q2 q3 q4 hp hm0 hpk hpar hF1
      obtain ⟨k, rfl⟩ : ∃ k', k = k' + 1 := ⟨k - 1, by omega⟩
      have b1 := tC_b tx n p
      have b2 := tS_ge tx n p
      have b3 := tS_le (tx := tx) hp
      have ih18 := ih; clear ih
      refine r_aload_n (pc' := 19) dX2_readAll_18 rfl rfl ?_
      refine r_get (pc' := 22) fX2_41 dX2_readAll_19 rfl q1 rfl ?_
      refine r_if_eq (pc' := 25) (P := tC tx n p = 0) (tgt := 65) dX2_readAll_22 (by decide) rfl (nI_eq0 (n := tC tx n p) (by omega)) (fun h22 => ?_) (fun h22 => ?_)
      · skip
        refine r_iload_n (pc' := 66) dX2_readAll_65 rfl rfl ?_
        refine r_ireturn dX2_readAll_66 rfl ?_
        exact hok _ T m (hpar.trans (parS_e h22)) q4 (by omega) q3 ⟨fs, _, _, _, _, _, q1, q2, q3, hn, rt⟩ hF1
      · skip
        refine r_iload_n (pc' := 26) dX2_readAll_25 rfl rfl ?_
        refine r_sipush (pc' := 29) (v := nI 150) dX2_readAll_26 rfl rfl ?_
        refine r_icmp_gt (pc' := 32) (P := 150 < m) (tgt := 65) dX2_readAll_29 (by decide) rfl (nI_ltI (a := 150) (b := m) (by omega) (by omega)) (fun h29 => ?_) (fun h29 => ?_)
        · skip
          exfalso; have := mt tC_0.mpr h22; omega
        · skip
          refine r_aload_n (pc' := 33) dX2_readAll_32 rfl rfl ?_
          refine r_callV (pc' := 36) (av := []) (rest := []) kX2_readItem vX2_readItem lX2_44 dX2_readAll_33 rfl q1 rfl rfl rfl ⟨by decide, by decide, by decide⟩ rfl rfl (Nat.le_of_ble_eq_true rfl) (ct_X2_readItem q1 q2 rt hn hp q3 q4 ?_ ?_)
          · intro w' T' p' e1 e2 e3 e4 e5
            show Wp g yX2_readAll cX2_readAll 2 (some .int) 7 0 0 (px_MQ g Q 0 0) 0 0 36 [some (.ref 1), some (.int (nI m))] [.int (bI true)] w'
            have hp2 := (itS_ok q4 hp e1).2.2.1
            have d1 := tC_b tx n p'
            have d2 := tS_le (tx := tx) hp2
            refine r_if_eq (pc' := 39) (P := true = false) (tgt := 47) dX2_readAll_36 (by decide) rfl (bI_0) (fun h36 => ?_) (fun h36 => ?_)
            · skip
              exfalso; cases h36
            · skip
              refine r_aload_n (pc' := 40) dX2_readAll_39 rfl rfl ?_
              refine r_get (pc' := 43) fX2_41 dX2_readAll_40 rfl e2 rfl ?_
              refine r_iconst (pc' := 44) (v := nI 4) dX2_readAll_43 rfl rfl ?_
              refine r_icmp_eq (pc' := 47) (P := tC tx n p' = 4) (tgt := 55) dX2_readAll_44 (by decide) rfl (nI_eq (a := tC tx n p') (b := 4) (by omega) (by omega)) (fun h44 => ?_) (fun h44 => ?_)
              · skip
                refine r_aload_n (pc' := 56) dX2_readAll_55 rfl rfl ?_
                refine r_callV (pc' := 59) (av := []) (rest := []) kX2_next vX2_next lX2_38 dX2_readAll_56 rfl e2 rfl rfl rfl ⟨by decide, by decide, by decide⟩ rfl rfl (Nat.le_of_ble_eq_true rfl) (ct_X2_next e2 e3 rt hn (tE_le hp2) ?_)
                show Wp g yX2_readAll cX2_readAll 2 (some .int) 7 0 0 (px_MQ g Q 0 0) 0 0 59 [some (.ref 1), some (.int (nI m))] [] (w'.set 1 (.inr (2, [.ref 2, .int (nI n), .ref 3, .int (nI (tE tx n (tE tx n p'))), .int (nI (tC tx n (tE tx n p'))), .int (nI (tS tx n (tE tx n p'))), .int (nI (tV tx n (tE tx n p')))])))
                refine r_iinc (pc' := 62) (lo' := [some (.ref 1), some (.int (nI (m + 1)))]) dX2_readAll_59 rfl (by decide) rfl (nI_add m 1) rfl ?_
                refine r_goto (tgt := 18) dX2_readAll_62 (by decide) ?_
                have g1 := itS_ok q4 hp e1
                have g2 := tE_ge tx n p'
                have g3 := tS_ge tx n p'
                exact ih18 k (m + 1) (tE tx n p') T' _ (by omega) (gs_eq e2) (gs_ne e3 (by decide)) (e4.fr (a := 1) (b := 2) (Frm.set (by omega) (by omega)) (by omega)) g1.1 (tE_le g1.2.2.1) (by omega) (by omega) (hpar.trans (parS_s h22 e1 h44)) ((Frm.tr (a := 1) (b := 9) hF1 e5 (by omega) (by omega) (by omega) (by omega)).sets (k := 1) (by omega) (by omega))
              · skip
                refine r_bipush (pc' := 49) (v := (-10)) dX2_readAll_47 rfl rfl ?_
                refine r_aload_n (pc' := 50) dX2_readAll_49 rfl rfl ?_
                refine r_get (pc' := 53) fX2_48 dX2_readAll_50 rfl e2 rfl ?_
                refine r_isub (pc' := 54) (v := ((-10)) - (nI (tS tx n p'))) dX2_readAll_53 rfl (rfl) ?_
                refine r_ireturn dX2_readAll_54 rfl ?_
                exact hno _ _ (hpar.trans (parS_z h22 e1 h44)) (by omega) ⟨fs, _, _, _, _, _, e2, e3, e4, hn, rt⟩ (Frm.tr (a := 1) (b := 9) hF1 e5 (by omega) (by omega) (by omega) (by omega))
          · intro w' T' e c f v e1 e2 e3 e4 e5
            show Wp g yX2_readAll cX2_readAll 2 (some .int) 7 0 0 (px_MQ g Q 0 0) 0 0 36 [some (.ref 1), some (.int (nI m))] [.int (bI false)] w'
            have d1 := itS_f hp e1
            refine r_if_eq (pc' := 39) (P := false = false) (tgt := 47) dX2_readAll_36 (by decide) rfl (bI_0) (fun h36 => ?_) (fun h36 => ?_)
            · skip
              refine r_bipush (pc' := 49) (v := (-10)) dX2_readAll_47 rfl rfl ?_
              refine r_aload_n (pc' := 50) dX2_readAll_49 rfl rfl ?_
              refine r_get (pc' := 53) fX2_48 dX2_readAll_50 rfl e2 rfl ?_
              refine r_isub (pc' := 54) (v := ((-10)) - (nI f)) dX2_readAll_53 rfl (rfl) ?_
              refine r_ireturn dX2_readAll_54 rfl ?_
              exact hno _ _ (hpar.trans (parS_f h22 e1)) (by omega) ⟨fs, _, _, _, _, _, e2, e3, e4, hn, rt⟩ (Frm.tr (a := 1) (b := 9) hF1 e5 (by omega) (by omega) (by omega) (by omega))
            · skip
              exfalso; exact h36 rfl
  exact L18 (n + 2) (n + 1) 0 0 T0 _ (by omega) (gs_eq (gs_eq (hF4.at r1 (by omega)))) (gs_ne (gs_ne (hF4.at r2 (by omega)) (by decide)) (by decide)) ((hT4.fr (a := 1) (b := 2) (Frm.set (by omega) (by omega)) (by omega)).fr (a := 1) (b := 2) (Frm.set (by omega) (by omega)) (by omega)) T0_ok (Nat.zero_le _) (Nat.zero_le _) (by omega) rfl ((((Frm.rf (a := 1) (b := 9)).tr (a := 1) (b := 9) hF4 (by omega) (by omega) (by omega) (by omega)).sets (k := 1) (by omega) (by omega)).sets (k := 1) (by omega) (by omega))
