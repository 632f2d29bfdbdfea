abbrev rdp (tx : Nat → Nat) (n p : Nat) : px_C := rdc n (tE tx n p) (tC tx n p) (tS tx n p) (tV tx n p)
theorem okN_i {tx : Nat → Nat} {n p lo hi : Nat} (h1 : tC tx n p = 3) (h2 : lo ≤ tV tx n p) (h3 : tV tx n p < hi) : okN tx n p lo hi = true := by simp [okN, h1, h2, h3]
theorem okR_f {tx : Nat → Nat} {n p : Nat} (h : tC tx n p ≠ 2 ∨ ¬ tE tx n p - tS tx n p ≤ 6) : okR tx n p = false := by
  rcases h with h | h <;> simp [okR, h]
theorem okR_l {tx : Nat → Nat} {n p k : Nat} (hk : k < tE tx n p - tS tx n p) (h : ¬ tx (tS tx n p + k) ≤ 104) : okR tx n p = false := by
  rw [okR, Bool.and_eq_false_iff]
  right
  rw [Bool.eq_false_iff]
  intro q
  have := (allb_iff _ _).mp q k hk
  simp at this
  omega
theorem okR_i {tx : Nat → Nat} {n p : Nat} (h1 : tC tx n p = 2) (h2 : tE tx n p - tS tx n p ≤ 6) (h3 : ∀ k, k < tE tx n p - tS tx n p → 97 ≤ tx (tS tx n p + k) ∧ tx (tS tx n p + k) ≤ 104) : okR tx n p = true := by
  simp only [okR, Bool.and_eq_true, allb_iff, decide_eq_true_iff, beq_iff_eq]
  exact ⟨⟨h1, h2⟩, h3⟩
def hiOK (hi : Int32) (hi1 : Nat) : Prop := ∀ v, v ≤ 100 → (nI v ≤ hi ↔ v < hi1)
theorem hiOK_n {m : Nat} (h : m < 2 ^ 30) : hiOK (nI m) (m + 1) := fun v hv => (nI_leI (show v < 2 ^ 31 by omega) (show m < 2 ^ 31 by omega)).trans (by omega)
theorem hiOK_s {m : Nat} (h : m < 2 ^ 20) : hiOK (nI m - nI 1) m := fun v hv => by
  rw [Int32.le_iff_toInt_le, pk_sub_toInt (by omega) (by decide), nI_toInt (by omega)]; omega
set_option maxHeartbeats 200000 in
theorem ct_X2_isBegin {g : px_G} {w : px_W} {Q : px_Q} {n p : Nat} {tx : Nat → Nat} {fs : Nat → Int32} (r1 : w[1]? = some (rdp tx n p)) (r2 : w[2]? = some (.inl (0, 150, .inl fs))) (rt : ∀ j, j < n → fs j = nI (tx j) ∧ tx j < 256) (hn : n ≤ 150) (hp : p ≤ n) {v : Nat} (hv : v < 2 ^ 20) (hQ : Q (some (.int (bI (beg tx n p v)))) w) : Ct g yX2_isBegin cX2_isBegin 2 (some .boolean) 2 0 0 [.ref 1, .int (nI v)] w Q := by
  refine Ct.of kX2_isBegin (by omega) (lo := [some (.ref 1), some (.int (nI v))]) rfl (px_cat1 rfl) (Nat.le_of_ble_eq_true rfl) ?_
  have b1 := tS_le (tx := tx) hp
  have b2 := tE_ge tx n p
  have b3 := tE_le (tx := tx) hp
  have b4 := tV_le tx n p
  have b5 := tC_b tx n p
  refine r_aload_n (pc' := 1) dX2_isBegin_0 rfl rfl ?_
  refine r_get (pc' := 4) fX2_41 dX2_isBegin_1 rfl r1 rfl ?_
  refine r_iconst (pc' := 5) (v := nI 2) dX2_isBegin_4 rfl rfl ?_
  refine r_icmp_ne (pc' := 8) (P := tC tx n p = 2) (tgt := 40) dX2_isBegin_5 (by decide) rfl (nI_eq (a := tC tx n p) (b := 2) (by omega) (by omega)) (fun h5 => ?_) (fun h5 => ?_)
  · skip
    refine r_iconst (pc' := 41) (v := bI false) dX2_isBegin_40 rfl rfl ?_
    refine r_zreturn dX2_isBegin_41 rfl (bI_nar _) ?_
    refine px_eqB hQ ?_
    first | (simp [beg, h5]; done) | (simp [beg, h18]; done) | (simp [beg, h33]; done) | (simp [beg, h5, h18, h33]; done)
  · have h0 : tS tx n p < n := by have := mt tC_0.mpr (show ¬ tC tx n p = 0 by omega); omega
    refine r_aload_n (pc' := 9) dX2_isBegin_8 rfl rfl ?_
    refine r_get (pc' := 12) fX2_35 dX2_isBegin_9 rfl r1 rfl ?_
    refine r_aload_n (pc' := 13) dX2_isBegin_12 rfl rfl ?_
    refine r_get (pc' := 16) fX2_48 dX2_isBegin_13 rfl r1 rfl ?_
    refine r_isub (pc' := 17) (v := nI (tE tx n p - (tS tx n p))) dX2_isBegin_16 rfl (pk_sub (a := tE tx n p) (b := tS tx n p) (by omega)) ?_
    refine r_iconst (pc' := 18) (v := nI 1) dX2_isBegin_17 rfl rfl ?_
    refine r_icmp_ne (pc' := 21) (P := tE tx n p - (tS tx n p) = 1) (tgt := 40) dX2_isBegin_18 (by decide) rfl (nI_eq (a := tE tx n p - (tS tx n p)) (b := 1) (by omega) (by omega)) (fun h18 => ?_) (fun h18 => ?_)
    · skip
      refine r_iconst (pc' := 41) (v := bI false) dX2_isBegin_40 rfl rfl ?_
      refine r_zreturn dX2_isBegin_41 rfl (bI_nar _) ?_
      refine px_eqB hQ ?_
      first | (simp [beg, h5]; done) | (simp [beg, h18]; done) | (simp [beg, h33]; done) | (simp [beg, h5, h18, h33]; done)
    · skip
      refine r_aload_n (pc' := 22) dX2_isBegin_21 rfl rfl ?_
      refine r_get (pc' := 25) fX2_9 dX2_isBegin_22 rfl r1 rfl ?_
      refine r_aload_n (pc' := 26) dX2_isBegin_25 rfl rfl ?_
      refine r_get (pc' := 29) fX2_48 dX2_isBegin_26 rfl r1 rfl ?_
      refine r_callS (pc' := 32) (av := [.ref 2, .int (nI (tS tx n p))]) (rest := []) kX3_at vX3_at lX2_73 dX2_isBegin_29 rfl rfl rfl ⟨by decide, by decide, by decide⟩ rfl rfl (Nat.le_of_ble_eq_true rfl) (ct_X3_at r2 (by decide) (j := tS tx n p) (by omega) (rt (tS tx n p) (by omega)).1 ?_)
      show Wp g yX2_isBegin cX2_isBegin 2 (some .boolean) 2 0 0 (px_MQ g Q 0 0) 0 0 32 [some (.ref 1), some (.int (nI v))] [.int (nI (tx (tS tx n p)))] w
      have t29 := (rt (tS tx n p) (by omega)).2
      refine r_iload_n (pc' := 33) dX2_isBegin_32 rfl rfl ?_
      refine r_icmp_ne (pc' := 36) (P := tx (tS tx n p) = v) (tgt := 40) dX2_isBegin_33 (by decide) rfl (nI_eq (a := tx (tS tx n p)) (b := v) (by omega) (by omega)) (fun h33 => ?_) (fun h33 => ?_)
      · skip
        refine r_iconst (pc' := 41) (v := bI false) dX2_isBegin_40 rfl rfl ?_
        refine r_zreturn dX2_isBegin_41 rfl (bI_nar _) ?_
        refine px_eqB hQ ?_
        first | (simp [beg, h5]; done) | (simp [beg, h18]; done) | (simp [beg, h33]; done) | (simp [beg, h5, h18, h33]; done)
      · skip
        refine r_iconst (pc' := 37) (v := bI true) dX2_isBegin_36 rfl rfl ?_
        refine r_goto (tgt := 41) dX2_isBegin_37 (by decide) ?_
        refine r_zreturn dX2_isBegin_41 rfl (bI_nar _) ?_
        refine px_eqB hQ ?_
        first | (simp [beg, h5]; done) | (simp [beg, h18]; done) | (simp [beg, h33]; done) | (simp [beg, h5, h18, h33]; done)
set_option maxHeartbeats 200000 in
theorem ct_take_y {g : px_G} {w : px_W} {Q : px_Q} {n p : Nat} {tx : Nat → Nat} {fs : Nat → Int32} (r1 : w[1]? = some (rdp tx n p)) (r2 : w[2]? = some (.inl (0, 150, .inl fs))) (rt : ∀ j, j < n → fs j = nI (tx j) ∧ tx j < 256) (hn : n ≤ 150) (hp : p ≤ n) {lo hi1 : Nat} {hi : Int32} (hlo : lo < 2 ^ 20) (hh : hiOK hi hi1) (ho : okN tx n p lo hi1 = true) (hQ : Q (some (.int (nI (tV tx n p)))) (w.set 1 (rdp tx n (tE tx n p)))) : Ct g yX2_takeNumber cX2_takeNumber 4 (some .int) 4 0 0 [.ref 1, .int (nI lo), .int hi] w Q := by
  refine Ct.of kX2_takeNumber (by omega) (lo := [some (.ref 1), some (.int (nI lo)), some (.int hi), none]) rfl (px_cat1 rfl) (Nat.le_of_ble_eq_true rfl) ?_
  have b1 := tS_le (tx := tx) hp
  have b2 := tE_ge tx n p
  have b3 := tE_le (tx := tx) hp
  have b4 := tV_le tx n p
  have b5 := tC_b tx n p
  obtain ⟨o1, o2, o3⟩ := okN_e ho
  refine r_aload_n (pc' := 1) dX2_takeNumber_0 rfl rfl ?_
  refine r_get (pc' := 4) fX2_41 dX2_takeNumber_1 rfl r1 rfl ?_
  refine r_iconst (pc' := 5) (v := nI 3) dX2_takeNumber_4 rfl rfl ?_
  refine r_icmp_ne (pc' := 8) (P := tC tx n p = 3) (tgt := 24) dX2_takeNumber_5 (by decide) rfl (nI_eq (a := tC tx n p) (b := 3) (by omega) (by omega)) (fun h5 => ?_) (fun h5 => ?_)
  · skip
    exfalso; omega
  · skip
    refine r_aload_n (pc' := 9) dX2_takeNumber_8 rfl rfl ?_
    refine r_get (pc' := 12) fX2_95 dX2_takeNumber_9 rfl r1 rfl ?_
    refine r_iload_n (pc' := 13) dX2_takeNumber_12 rfl rfl ?_
    refine r_icmp_lt (pc' := 16) (P := tV tx n p < lo) (tgt := 24) dX2_takeNumber_13 (by decide) rfl (nI_ltI (a := tV tx n p) (b := lo) (by omega) (by omega)) (fun h13 => ?_) (fun h13 => ?_)
    · skip
      exfalso; omega
    · skip
      refine r_aload_n (pc' := 17) dX2_takeNumber_16 rfl rfl ?_
      refine r_get (pc' := 20) fX2_95 dX2_takeNumber_17 rfl r1 rfl ?_
      refine r_iload_n (pc' := 21) dX2_takeNumber_20 rfl rfl ?_
      refine r_icmp_le (pc' := 24) (P := tV tx n p < hi1) (tgt := 26) dX2_takeNumber_21 (by decide) rfl (hh _ b4) (fun h21 => ?_) (fun h21 => ?_)
      · skip
        refine r_aload_n (pc' := 27) dX2_takeNumber_26 rfl rfl ?_
        refine r_get (pc' := 30) fX2_95 dX2_takeNumber_27 rfl r1 rfl ?_
        refine r_istore_n (pc' := 31) (lo' := [some (.ref 1), some (.int (nI lo)), some (.int hi), some (.int (nI (tV tx n p)))]) dX2_takeNumber_30 rfl (by decide) rfl ?_
        refine r_aload_n (pc' := 32) dX2_takeNumber_31 rfl rfl ?_
        refine r_callV (pc' := 35) (av := []) (rest := []) kX2_next vX2_next lX2_38 dX2_takeNumber_32 rfl r1 rfl rfl rfl ⟨by decide, by decide, by decide⟩ rfl rfl (Nat.le_of_ble_eq_true rfl) (ct_X2_next r1 r2 rt hn (tE_le hp) ?_)
        show Wp g yX2_takeNumber cX2_takeNumber 4 (some .int) 4 0 0 (px_MQ g Q 0 0) 0 0 35 [some (.ref 1), some (.int (nI lo)), some (.int hi), some (.int (nI (tV tx n p)))] [] (w.set 1 (.inr (2, [.ref 2, .int (nI n), .ref 3, .int (nI (tE tx n (tE tx n p))), .int (nI (tC tx n (tE tx n p))), .int (nI (tS tx n (tE tx n p))), .int (nI (tV tx n (tE tx n p)))])))
        have c32 := tV_le tx n (tE tx n p)
        have d32 := tC_b tx n (tE tx n p)
        have i32 : tE tx n (tE tx n p) ≤ n := tE_le (tE_le hp)
        have j32 := tE_ge tx n (tE tx n p)
        have k32 : tS tx n (tE tx n p) ≤ n := tS_le (tE_le hp)
        refine r_iload_n (pc' := 36) dX2_takeNumber_35 rfl rfl ?_
        refine r_ireturn dX2_takeNumber_36 rfl ?_
        first | exact hQ | (rw [gs_id r1] at hQ; exact hQ)
      · skip
        exfalso; omega
set_option maxHeartbeats 200000 in
theorem ct_take_n {g : px_G} {w : px_W} {Q : px_Q} {n p : Nat} {tx : Nat → Nat} {fs : Nat → Int32} (r1 : w[1]? = some (rdp tx n p)) (r2 : w[2]? = some (.inl (0, 150, .inl fs))) (rt : ∀ j, j < n → fs j = nI (tx j) ∧ tx j < 256) (hn : n ≤ 150) (hp : p ≤ n) {lo hi1 : Nat} {hi : Int32} (hlo : lo < 2 ^ 20) (hh : hiOK hi hi1) (ho : okN tx n p lo hi1 = false) (hQ : Q (some (.int (-1))) w) : Ct g yX2_takeNumber cX2_takeNumber 4 (some .int) 4 0 0 [.ref 1, .int (nI lo), .int hi] w Q := by
  refine Ct.of kX2_takeNumber (by omega) (lo := [some (.ref 1), some (.int (nI lo)), some (.int hi), none]) rfl (px_cat1 rfl) (Nat.le_of_ble_eq_true rfl) ?_
  have b1 := tS_le (tx := tx) hp
  have b2 := tE_ge tx n p
  have b3 := tE_le (tx := tx) hp
  have b4 := tV_le tx n p
  have b5 := tC_b tx n p
  refine r_aload_n (pc' := 1) dX2_takeNumber_0 rfl rfl ?_
  refine r_get (pc' := 4) fX2_41 dX2_takeNumber_1 rfl r1 rfl ?_
  refine r_iconst (pc' := 5) (v := nI 3) dX2_takeNumber_4 rfl rfl ?_
  refine r_icmp_ne (pc' := 8) (P := tC tx n p = 3) (tgt := 24) dX2_takeNumber_5 (by decide) rfl (nI_eq (a := tC tx n p) (b := 3) (by omega) (by omega)) (fun h5 => ?_) (fun h5 => ?_)
  · skip
    refine r_iconst (pc' := 25) (v := (-1)) dX2_takeNumber_24 rfl rfl ?_
    refine r_ireturn dX2_takeNumber_25 rfl ?_
    exact hQ
  · skip
    refine r_aload_n (pc' := 9) dX2_takeNumber_8 rfl rfl ?_
    refine r_get (pc' := 12) fX2_95 dX2_takeNumber_9 rfl r1 rfl ?_
    refine r_iload_n (pc' := 13) dX2_takeNumber_12 rfl rfl ?_
    refine r_icmp_lt (pc' := 16) (P := tV tx n p < lo) (tgt := 24) dX2_takeNumber_13 (by decide) rfl (nI_ltI (a := tV tx n p) (b := lo) (by omega) (by omega)) (fun h13 => ?_) (fun h13 => ?_)
    · skip
      refine r_iconst (pc' := 25) (v := (-1)) dX2_takeNumber_24 rfl rfl ?_
      refine r_ireturn dX2_takeNumber_25 rfl ?_
      exact hQ
    · skip
      refine r_aload_n (pc' := 17) dX2_takeNumber_16 rfl rfl ?_
      refine r_get (pc' := 20) fX2_95 dX2_takeNumber_17 rfl r1 rfl ?_
      refine r_iload_n (pc' := 21) dX2_takeNumber_20 rfl rfl ?_
      refine r_icmp_le (pc' := 24) (P := tV tx n p < hi1) (tgt := 26) dX2_takeNumber_21 (by decide) rfl (hh _ b4) (fun h21 => ?_) (fun h21 => ?_)
      · skip
        exfalso; rw [okN_i (by omega) (by omega) h21] at ho; cases ho
      · skip
        refine r_iconst (pc' := 25) (v := (-1)) dX2_takeNumber_24 rfl rfl ?_
        refine r_ireturn dX2_takeNumber_25 rfl ?_
        exact hQ
set_option maxHeartbeats 200000 in
theorem ct_X2_readDrive {g : px_G} {w : px_W} {Q : px_Q} {T : px_T} {n p : Nat} {tx : Nat → Nat} {fs : Nat → Int32} (r1 : w[1]? = some (rdp tx n p)) (r2 : w[2]? = some (.inl (0, 150, .inl fs))) (rt : ∀ j, j < n → fs j = nI (tx j) ∧ tx j < 256) (hn : n ≤ 150) (hp : p ≤ n) (hT : SubA w 3 T) (hO : TOK T) (hD : tD T < 4) (hok : ∀ w' T' p', itD tx n T p = .inr (T', p') → w'[1]? = some (rdp tx n p') → w'[2]? = some (.inl (0, 150, .inl fs)) → SubA w' 3 T' → Frm w w' 1 9 → Q (some (.int (bI true))) w') (hno : ∀ w' T' e c f v, itD tx n T p = .inl f → w'[1]? = some (rdc n e c f v) → w'[2]? = some (.inl (0, 150, .inl fs)) → SubA w' 3 T' → Frm w w' 1 9 → Q (some (.int (bI false))) w') : Ct g yX2_readDrive cX2_readDrive 2 (some .boolean) 5 0 0 [.ref 1] w Q := by
  refine Ct.of kX2_readDrive (by omega) (lo := [some (.ref 1), none]) rfl (px_cat1 rfl) (Nat.le_of_ble_eq_true rfl) ?_
  have b1 := tS_le (tx := tx) hp
  have b2 := tE_ge tx n p
  have b3 := tE_le (tx := tx) hp
  have b4 := tV_le tx n p
  have b5 := tC_b tx n p
  obtain ⟨⟨sb1, sb2, sb3⟩, sb4, sb5⟩ := hT.b
  refine r_aload_n (pc' := 1) dX2_readDrive_0 rfl rfl ?_
  refine r_callV (pc' := 4) (av := []) (rest := []) kX2_next vX2_next lX2_38 dX2_readDrive_1 rfl r1 rfl rfl rfl ⟨by decide, by decide, by decide⟩ rfl rfl (Nat.le_of_ble_eq_true rfl) (ct_X2_next r1 r2 rt hn (tE_le hp) ?_)
  show Wp g yX2_readDrive cX2_readDrive 2 (some .boolean) 5 0 0 (px_MQ g Q 0 0) 0 0 4 [some (.ref 1), none] [] (w.set 1 (.inr (2, [.ref 2, .int (nI n), .ref 3, .int (nI (tE tx n (tE tx n p))), .int (nI (tC tx n (tE tx n p))), .int (nI (tS tx n (tE tx n p))), .int (nI (tV tx n (tE tx n p)))])))
  have c1 := tV_le tx n (tE tx n p)
  have d1 := tC_b tx n (tE tx n p)
  have i1 : tE tx n (tE tx n p) ≤ n := tE_le (tE_le hp)
  have j1 := tE_ge tx n (tE tx n p)
  have k1 : tS tx n (tE tx n p) ≤ n := tS_le (tE_le hp)
  refine r_aload_n (pc' := 5) dX2_readDrive_4 rfl rfl ?_
  refine r_iconst (pc' := 6) (v := nI 1) dX2_readDrive_5 rfl rfl ?_
  refine r_bipush (pc' := 8) (v := nI 8) dX2_readDrive_6 rfl rfl ?_
  cases ho8 : okN tx n (tE tx n p) 1 9 with
  | true =>
    refine r_callV (pc' := 11) (av := [.int (nI 1), .int (nI 8)]) (rest := []) kX2_takeNumber vX2_takeNumber lX2_77 dX2_readDrive_8 rfl (gs_eq r1) rfl rfl rfl ⟨by decide, by decide, by decide⟩ rfl rfl (Nat.le_of_ble_eq_true rfl) (ct_take_y (gs_eq r1) (gs_ne r2 (by decide)) rt hn (tE_le hp) (lo := 1) (by decide) (hiOK_n (m := 8) (by decide)) ho8 ?_)
    show Wp g yX2_readDrive cX2_readDrive 2 (some .boolean) 5 0 0 (px_MQ g Q 0 0) 0 0 11 [some (.ref 1), none] [.int (nI (tV tx n (tE tx n p)))] ((w.set 1 (.inr (2, [.ref 2, .int (nI n), .ref 3, .int (nI (tE tx n (tE tx n p))), .int (nI (tC tx n (tE tx n p))), .int (nI (tS tx n (tE tx n p))), .int (nI (tV tx n (tE tx n p)))]))).set 1 (.inr (2, [.ref 2, .int (nI n), .ref 3, .int (nI (tE tx n (tE tx n (tE tx n p)))), .int (nI (tC tx n (tE tx n (tE tx n p)))), .int (nI (tS tx n (tE tx n (tE tx n p)))), .int (nI (tV tx n (tE tx n (tE tx n p))))])))
    have o8 := okN_e ho8
    have i8 : tE tx n (tE tx n (tE tx n p)) ≤ n := tE_le (tE_le (tE_le hp))
    have j8 := tE_ge tx n (tE tx n (tE tx n p))
    have k8 : tS tx n (tE tx n (tE tx n p)) ≤ n := tS_le (tE_le (tE_le hp))
    have c8 := tV_le tx n (tE tx n (tE tx n p))
    have d8 := tC_b tx n (tE tx n (tE tx n p))
    refine r_istore_n (pc' := 12) (lo' := [some (.ref 1), some (.int (nI (tV tx n (tE tx n p))))]) dX2_readDrive_11 rfl (by decide) rfl ?_
    refine r_iload_n (pc' := 13) dX2_readDrive_12 rfl rfl ?_
    refine r_if_ge (pc' := 16) (P := True) (tgt := 18) dX2_readDrive_13 (by decide) rfl (nI_ge0 (n := tV tx n (tE tx n p)) (by omega)) (fun h13 => ?_) (fun h13 => ?_)
    · skip
      refine r_aload_n (pc' := 19) dX2_readDrive_18 rfl rfl ?_
      refine r_get (pc' := 22) fX2_18 dX2_readDrive_19 rfl (gs_eq (gs_eq r1)) rfl ?_
      refine r_iload_n (pc' := 23) dX2_readDrive_22 rfl rfl ?_
      refine r_callV (pc' := 26) (av := [.int (nI (tV tx n (tE tx n p)))]) (rest := []) kX5_addDrive vX5_addDrive lX2_88 dX2_readDrive_23 rfl (((hT.fr (a := 1) (b := 2) (Frm.set (by omega) (by omega)) (by omega)).fr (a := 1) (b := 2) (Frm.set (by omega) (by omega)) (by omega)).o) rfl rfl rfl ⟨by decide, by decide, by decide⟩ rfl rfl (Nat.le_of_ble_eq_true rfl) (ct_X5_addDrive (((hT.fr (a := 1) (b := 2) (Frm.set (by omega) (by omega)) (by omega)).fr (a := 1) (b := 2) (Frm.set (by omega) (by omega)) (by omega))) hD (by omega) (fun w23 hT23 hF23 => ?_))
      show Wp g yX2_readDrive cX2_readDrive 2 (some .boolean) 5 0 0 (px_MQ g Q 0 0) 0 0 26 [some (.ref 1), some (.int (nI (tV tx n (tE tx n p))))] [] w23
      refine r_iconst (pc' := 27) (v := bI true) dX2_readDrive_26 rfl rfl ?_
      refine r_zreturn dX2_readDrive_27 rfl (bI_nar _) ?_
      refine hok (w23) _ _ ?_ (hF23.at (gs_eq (gs_eq r1)) (by omega)) (hF23.at (gs_ne (gs_ne r2 (by decide)) (by decide)) (by omega)) hT23 ((((Frm.rf (a := 1) (b := 9)).sets (k := 1) (by omega) (by omega)).sets (k := 1) (by omega) (by omega)).tr (a := 1) (b := 9) hF23 (by omega) (by omega) (by omega) (by omega))
      rw [itD, if_pos ho8]
    · skip
      exfalso; exact h13 trivial
  | false =>
    refine r_callV (pc' := 11) (av := [.int (nI 1), .int (nI 8)]) (rest := []) kX2_takeNumber vX2_takeNumber lX2_77 dX2_readDrive_8 rfl (gs_eq r1) rfl rfl rfl ⟨by decide, by decide, by decide⟩ rfl rfl (Nat.le_of_ble_eq_true rfl) (ct_take_n (gs_eq r1) (gs_ne r2 (by decide)) rt hn (tE_le hp) (lo := 1) (by decide) (hiOK_n (m := 8) (by decide)) ho8 ?_)
    show Wp g yX2_readDrive cX2_readDrive 2 (some .boolean) 5 0 0 (px_MQ g Q 0 0) 0 0 11 [some (.ref 1), none] [.int ((-1))] (w.set 1 (.inr (2, [.ref 2, .int (nI n), .ref 3, .int (nI (tE tx n (tE tx n p))), .int (nI (tC tx n (tE tx n p))), .int (nI (tS tx n (tE tx n p))), .int (nI (tV tx n (tE tx n p)))])))
    refine r_istore_n (pc' := 12) (lo' := [some (.ref 1), some (.int ((-1)))]) dX2_readDrive_11 rfl (by decide) rfl ?_
    refine r_iload_n (pc' := 13) dX2_readDrive_12 rfl rfl ?_
    refine r_if_ge (pc' := 16) (P := 0 ≤ ((-1))) (tgt := 18) dX2_readDrive_13 (by decide) rfl (Iff.rfl) (fun h13 => ?_) (fun h13 => ?_)
    · skip
      exfalso; exact absurd h13 (by decide)
    · skip
      refine r_iconst (pc' := 17) (v := bI false) dX2_readDrive_16 rfl rfl ?_
      refine r_zreturn dX2_readDrive_17 rfl (bI_nar _) ?_
      refine hno (w.set 1 (.inr (2, [.ref 2, .int (nI n), .ref 3, .int (nI (tE tx n (tE tx n p))), .int (nI (tC tx n (tE tx n p))), .int (nI (tS tx n (tE tx n p))), .int (nI (tV tx n (tE tx n p)))]))) _ _ _ _ _ ?_ (gs_eq r1) (gs_ne r2 (by decide)) (hT.fr (a := 1) (b := 2) (Frm.set (by omega) (by omega)) (by omega)) ((Frm.rf (a := 1) (b := 9)).sets (k := 1) (by omega) (by omega))
      rw [itD, if_neg (by rw [ho8]; decide)]
  
set_option maxHeartbeats 200000 in
theorem ct_X2_readGoer {g : px_G} {w : px_W} {Q : px_Q} {T : px_T} {n p : Nat} {tx : Nat → Nat} {fs : Nat → Int32} (r1 : w[1]? = some (rdp tx n p)) (r2 : w[2]? = some (.inl (0, 150, .inl fs))) (rt : ∀ j, j < n → fs j = nI (tx j) ∧ tx j < 256) (hn : n ≤ 150) (hp : p ≤ n) (hT : SubA w 3 T) (hO : TOK T) (hG : tG T < 6) (hok : ∀ w' T' p', itG tx n T p = .inr (T', p') → w'[1]? = some (rdp tx n p') → w'[2]? = some (.inl (0, 150, .inl fs)) → SubA w' 3 T' → Frm w w' 1 9 → Q (some (.int (bI true))) w') (hno : ∀ w' T' e c f v, itG tx n T p = .inl f → w'[1]? = some (rdc n e c f v) → w'[2]? = some (.inl (0, 150, .inl fs)) → SubA w' 3 T' → Frm w w' 1 9 → Q (some (.int (bI false))) w') : Ct g yX2_readGoer cX2_readGoer 5 (some .boolean) 5 0 0 [.ref 1] w Q := by
  refine Ct.of kX2_readGoer (by omega) (lo := [some (.ref 1), none, none, none, none]) rfl (px_cat1 rfl) (Nat.le_of_ble_eq_true rfl) ?_
  have b1 := tS_le (tx := tx) hp
  have b2 := tE_ge tx n p
  have b3 := tE_le (tx := tx) hp
  have b4 := tV_le tx n p
  have b5 := tC_b tx n p
  obtain ⟨⟨sb1, sb2, sb3⟩, sb4, sb5⟩ := hT.b
  refine r_aload_n (pc' := 1) dX2_readGoer_0 rfl rfl ?_
  refine r_callV (pc' := 4) (av := []) (rest := []) kX2_next vX2_next lX2_38 dX2_readGoer_1 rfl r1 rfl rfl rfl ⟨by decide, by decide, by decide⟩ rfl rfl (Nat.le_of_ble_eq_true rfl) (ct_X2_next r1 r2 rt hn (tE_le hp) ?_)
  show Wp g yX2_readGoer cX2_readGoer 5 (some .boolean) 5 0 0 (px_MQ g Q 0 0) 0 0 4 [some (.ref 1), none, none, none, none] [] (w.set 1 (.inr (2, [.ref 2, .int (nI n), .ref 3, .int (nI (tE tx n (tE tx n p))), .int (nI (tC tx n (tE tx n p))), .int (nI (tS tx n (tE tx n p))), .int (nI (tV tx n (tE tx n p)))])))
  have c1 := tV_le tx n (tE tx n p)
  have d1 := tC_b tx n (tE tx n p)
  have i1 : tE tx n (tE tx n p) ≤ n := tE_le (tE_le hp)
  have j1 := tE_ge tx n (tE tx n p)
  have k1 : tS tx n (tE tx n p) ≤ n := tS_le (tE_le hp)
  refine r_aload_n (pc' := 5) dX2_readGoer_4 rfl rfl ?_
  refine r_iconst (pc' := 6) (v := nI 1) dX2_readGoer_5 rfl rfl ?_
  refine r_bipush (pc' := 8) (v := nI 24) dX2_readGoer_6 rfl rfl ?_
  cases ho8 : okN tx n (tE tx n p) 1 25 with
  | true =>
    refine r_callV (pc' := 11) (av := [.int (nI 1), .int (nI 24)]) (rest := []) kX2_takeNumber vX2_takeNumber lX2_77 dX2_readGoer_8 rfl (gs_eq r1) rfl rfl rfl ⟨by decide, by decide, by decide⟩ rfl rfl (Nat.le_of_ble_eq_true rfl) (ct_take_y (gs_eq r1) (gs_ne r2 (by decide)) rt hn (tE_le hp) (lo := 1) (by decide) (hiOK_n (m := 24) (by decide)) ho8 ?_)
    show Wp g yX2_readGoer cX2_readGoer 5 (some .boolean) 5 0 0 (px_MQ g Q 0 0) 0 0 11 [some (.ref 1), none, none, none, none] [.int (nI (tV tx n (tE tx n p)))] ((w.set 1 (.inr (2, [.ref 2, .int (nI n), .ref 3, .int (nI (tE tx n (tE tx n p))), .int (nI (tC tx n (tE tx n p))), .int (nI (tS tx n (tE tx n p))), .int (nI (tV tx n (tE tx n p)))]))).set 1 (.inr (2, [.ref 2, .int (nI n), .ref 3, .int (nI (tE tx n (tE tx n (tE tx n p)))), .int (nI (tC tx n (tE tx n (tE tx n p)))), .int (nI (tS tx n (tE tx n (tE tx n p)))), .int (nI (tV tx n (tE tx n (tE tx n p))))])))
    have o8 := okN_e ho8
    have i8 : tE tx n (tE tx n (tE tx n p)) ≤ n := tE_le (tE_le (tE_le hp))
    have j8 := tE_ge tx n (tE tx n (tE tx n p))
    have k8 : tS tx n (tE tx n (tE tx n p)) ≤ n := tS_le (tE_le (tE_le hp))
    have c8 := tV_le tx n (tE tx n (tE tx n p))
    have d8 := tC_b tx n (tE tx n (tE tx n p))
    refine r_istore_n (pc' := 12) (lo' := [some (.ref 1), some (.int (nI (tV tx n (tE tx n p)))), none, none, none]) dX2_readGoer_11 rfl (by decide) rfl ?_
    refine r_iload_n (pc' := 13) dX2_readGoer_12 rfl rfl ?_
    refine r_if_ge (pc' := 16) (P := True) (tgt := 20) dX2_readGoer_13 (by decide) rfl (nI_ge0 (n := tV tx n (tE tx n p)) (by omega)) (fun h13 => ?_) (fun h13 => ?_)
    · skip
      refine r_aload_n (pc' := 21) dX2_readGoer_20 rfl rfl ?_
      refine r_iconst (pc' := 22) (v := nI 0) dX2_readGoer_21 rfl rfl ?_
      refine r_aload_n (pc' := 23) dX2_readGoer_22 rfl rfl ?_
      refine r_get (pc' := 26) fX2_18 dX2_readGoer_23 rfl (gs_eq (gs_eq r1)) rfl ?_
      refine r_getN (pc' := 29) fX2_61 dX2_readGoer_26 rfl (((hT.fr (a := 1) (b := 2) (Frm.set (by omega) (by omega)) (by omega)).fr (a := 1) (b := 2) (Frm.set (by omega) (by omega)) (by omega)).o) rfl ?_
      refine r_iconst (pc' := 30) (v := nI 1) dX2_readGoer_29 rfl rfl ?_
      refine r_isub (pc' := 31) (v := (nI (tD T)) - (nI 1)) dX2_readGoer_30 rfl (rfl) ?_
      cases ho31 : okN tx n (tE tx n (tE tx n p)) 0 (tD T) with
      | true =>
        refine r_callV (pc' := 34) (av := [.int (nI 0), .int ((nI (tD T)) - (nI 1))]) (rest := []) kX2_takeNumber vX2_takeNumber lX2_77 dX2_readGoer_31 rfl (gs_eq (gs_eq r1)) rfl rfl rfl ⟨by decide, by decide, by decide⟩ rfl rfl (Nat.le_of_ble_eq_true rfl) (ct_take_y (gs_eq (gs_eq r1)) (gs_ne (gs_ne r2 (by decide)) (by decide)) rt hn (tE_le (tE_le hp)) (lo := 0) (by decide) (hiOK_s (by omega)) ho31 ?_)
        show Wp g yX2_readGoer cX2_readGoer 5 (some .boolean) 5 0 0 (px_MQ g Q 0 0) 0 0 34 [some (.ref 1), some (.int (nI (tV tx n (tE tx n p)))), none, none, none] [.int (nI (tV tx n (tE tx n (tE tx n p))))] (((w.set 1 (.inr (2, [.ref 2, .int (nI n), .ref 3, .int (nI (tE tx n (tE tx n p))), .int (nI (tC tx n (tE tx n p))), .int (nI (tS tx n (tE tx n p))), .int (nI (tV tx n (tE tx n p)))]))).set 1 (.inr (2, [.ref 2, .int (nI n), .ref 3, .int (nI (tE tx n (tE tx n (tE tx n p)))), .int (nI (tC tx n (tE tx n (tE tx n p)))), .int (nI (tS tx n (tE tx n (tE tx n p)))), .int (nI (tV tx n (tE tx n (tE tx n p))))]))).set 1 (.inr (2, [.ref 2, .int (nI n), .ref 3, .int (nI (tE tx n (tE tx n (tE tx n (tE tx n p))))), .int (nI (tC tx n (tE tx n (tE tx n (tE tx n p))))), .int (nI (tS tx n (tE tx n (tE tx n (tE tx n p))))), .int (nI (tV tx n (tE tx n (tE tx n (tE tx n p)))))])))
        have o31 := okN_e ho31
        have i31 : tE tx n (tE tx n (tE tx n (tE tx n p))) ≤ n := tE_le (tE_le (tE_le (tE_le hp)))
        have j31 := tE_ge tx n (tE tx n (tE tx n (tE tx n p)))
        have k31 : tS tx n (tE tx n (tE tx n (tE tx n p))) ≤ n := tS_le (tE_le (tE_le (tE_le hp)))
        have c31 := tV_le tx n (tE tx n (tE tx n (tE tx n p)))
        have d31 := tC_b tx n (tE tx n (tE tx n (tE tx n p)))
        refine r_istore_n (pc' := 35) (lo' := [some (.ref 1), some (.int (nI (tV tx n (tE tx n p)))), some (.int (nI (tV tx n (tE tx n (tE tx n p))))), none, none]) dX2_readGoer_34 rfl (by decide) rfl ?_
        refine r_iload_n (pc' := 36) dX2_readGoer_35 rfl rfl ?_
        refine r_if_ge (pc' := 39) (P := True) (tgt := 43) dX2_readGoer_36 (by decide) rfl (nI_ge0 (n := tV tx n (tE tx n (tE tx n p))) (by omega)) (fun h36 => ?_) (fun h36 => ?_)
        · skip
          refine r_aload_n (pc' := 44) dX2_readGoer_43 rfl rfl ?_
          refine r_iconst (pc' := 45) (v := nI 0) dX2_readGoer_44 rfl rfl ?_
          refine r_bipush (pc' := 47) (v := nI 7) dX2_readGoer_45 rfl rfl ?_
          cases ho47 : okN tx n (tE tx n (tE tx n (tE tx n p))) 0 8 with
          | true =>
            refine r_callV (pc' := 50) (av := [.int (nI 0), .int (nI 7)]) (rest := []) kX2_takeNumber vX2_takeNumber lX2_77 dX2_readGoer_47 rfl (gs_eq (gs_eq (gs_eq r1))) rfl rfl rfl ⟨by decide, by decide, by decide⟩ rfl rfl (Nat.le_of_ble_eq_true rfl) (ct_take_y (gs_eq (gs_eq (gs_eq r1))) (gs_ne (gs_ne (gs_ne r2 (by decide)) (by decide)) (by decide)) rt hn (tE_le (tE_le (tE_le hp))) (lo := 0) (by decide) (hiOK_n (m := 7) (by decide)) ho47 ?_)
            show Wp g yX2_readGoer cX2_readGoer 5 (some .boolean) 5 0 0 (px_MQ g Q 0 0) 0 0 50 [some (.ref 1), some (.int (nI (tV tx n (tE tx n p)))), some (.int (nI (tV tx n (tE tx n (tE tx n p))))), none, none] [.int (nI (tV tx n (tE tx n (tE tx n (tE tx n p)))))] ((((w.set 1 (.inr (2, [.ref 2, .int (nI n), .ref 3, .int (nI (tE tx n (tE tx n p))), .int (nI (tC tx n (tE tx n p))), .int (nI (tS tx n (tE tx n p))), .int (nI (tV tx n (tE tx n p)))]))).set 1 (.inr (2, [.ref 2, .int (nI n), .ref 3, .int (nI (tE tx n (tE tx n (tE tx n p)))), .int (nI (tC tx n (tE tx n (tE tx n p)))), .int (nI (tS tx n (tE tx n (tE tx n p)))), .int (nI (tV tx n (tE tx n (tE tx n p))))]))).set 1 (.inr (2, [.ref 2, .int (nI n), .ref 3, .int (nI (tE tx n (tE tx n (tE tx n (tE tx n p))))), .int (nI (tC tx n (tE tx n (tE tx n (tE tx n p))))), .int (nI (tS tx n (tE tx n (tE tx n (tE tx n p))))), .int (nI (tV tx n (tE tx n (tE tx n (tE tx n p)))))]))).set 1 (.inr (2, [.ref 2, .int (nI n), .ref 3, .int (nI (tE tx n (tE tx n (tE tx n (tE tx n (tE tx n p)))))), .int (nI (tC tx n (tE tx n (tE tx n (tE tx n (tE tx n p)))))), .int (nI (tS tx n (tE tx n (tE tx n (tE tx n (tE tx n p)))))), .int (nI (tV tx n (tE tx n (tE tx n (tE tx n (tE tx n p))))))])))
            have o47 := okN_e ho47
            have i47 : tE tx n (tE tx n (tE tx n (tE tx n (tE tx n p)))) ≤ n := tE_le (tE_le (tE_le (tE_le (tE_le hp))))
            have j47 := tE_ge tx n (tE tx n (tE tx n (tE tx n (tE tx n p))))
            have k47 : tS tx n (tE tx n (tE tx n (tE tx n (tE tx n p)))) ≤ n := tS_le (tE_le (tE_le (tE_le (tE_le hp))))
            have c47 := tV_le tx n (tE tx n (tE tx n (tE tx n (tE tx n p))))
            have d47 := tC_b tx n (tE tx n (tE tx n (tE tx n (tE tx n p))))
            refine r_istore_n (pc' := 51) (lo' := [some (.ref 1), some (.int (nI (tV tx n (tE tx n p)))), some (.int (nI (tV tx n (tE tx n (tE tx n p))))), some (.int (nI (tV tx n (tE tx n (tE tx n (tE tx n p)))))), none]) dX2_readGoer_50 rfl (by decide) rfl ?_
            refine r_iload_n (pc' := 52) dX2_readGoer_51 rfl rfl ?_
            refine r_if_ge (pc' := 55) (P := True) (tgt := 59) dX2_readGoer_52 (by decide) rfl (nI_ge0 (n := tV tx n (tE tx n (tE tx n (tE tx n p)))) (by omega)) (fun h52 => ?_) (fun h52 => ?_)
            · skip
              refine r_aload_n (pc' := 60) dX2_readGoer_59 rfl rfl ?_
              refine r_iconst (pc' := 61) (v := nI 1) dX2_readGoer_60 rfl rfl ?_
              refine r_iconst (pc' := 62) (v := nI 4) dX2_readGoer_61 rfl rfl ?_
              cases ho62 : okN tx n (tE tx n (tE tx n (tE tx n (tE tx n p)))) 1 5 with
              | true =>
                refine r_callV (pc' := 65) (av := [.int (nI 1), .int (nI 4)]) (rest := []) kX2_takeNumber vX2_takeNumber lX2_77 dX2_readGoer_62 rfl (gs_eq (gs_eq (gs_eq (gs_eq r1)))) rfl rfl rfl ⟨by decide, by decide, by decide⟩ rfl rfl (Nat.le_of_ble_eq_true rfl) (ct_take_y (gs_eq (gs_eq (gs_eq (gs_eq r1)))) (gs_ne (gs_ne (gs_ne (gs_ne r2 (by decide)) (by decide)) (by decide)) (by decide)) rt hn (tE_le (tE_le (tE_le (tE_le hp)))) (lo := 1) (by decide) (hiOK_n (m := 4) (by decide)) ho62 ?_)
                show Wp g yX2_readGoer cX2_readGoer 5 (some .boolean) 5 0 0 (px_MQ g Q 0 0) 0 0 65 [some (.ref 1), some (.int (nI (tV tx n (tE tx n p)))), some (.int (nI (tV tx n (tE tx n (tE tx n p))))), some (.int (nI (tV tx n (tE tx n (tE tx n (tE tx n p)))))), none] [.int (nI (tV tx n (tE tx n (tE tx n (tE tx n (tE tx n p))))))] (((((w.set 1 (.inr (2, [.ref 2, .int (nI n), .ref 3, .int (nI (tE tx n (tE tx n p))), .int (nI (tC tx n (tE tx n p))), .int (nI (tS tx n (tE tx n p))), .int (nI (tV tx n (tE tx n p)))]))).set 1 (.inr (2, [.ref 2, .int (nI n), .ref 3, .int (nI (tE tx n (tE tx n (tE tx n p)))), .int (nI (tC tx n (tE tx n (tE tx n p)))), .int (nI (tS tx n (tE tx n (tE tx n p)))), .int (nI (tV tx n (tE tx n (tE tx n p))))]))).set 1 (.inr (2, [.ref 2, .int (nI n), .ref 3, .int (nI (tE tx n (tE tx n (tE tx n (tE tx n p))))), .int (nI (tC tx n (tE tx n (tE tx n (tE tx n p))))), .int (nI (tS tx n (tE tx n (tE tx n (tE tx n p))))), .int (nI (tV tx n (tE tx n (tE tx n (tE tx n p)))))]))).set 1 (.inr (2, [.ref 2, .int (nI n), .ref 3, .int (nI (tE tx n (tE tx n (tE tx n (tE tx n (tE tx n p)))))), .int (nI (tC tx n (tE tx n (tE tx n (tE tx n (tE tx n p)))))), .int (nI (tS tx n (tE tx n (tE tx n (tE tx n (tE tx n p)))))), .int (nI (tV tx n (tE tx n (tE tx n (tE tx n (tE tx n p))))))]))).set 1 (.inr (2, [.ref 2, .int (nI n), .ref 3, .int (nI (tE tx n (tE tx n (tE tx n (tE tx n (tE tx n (tE tx n p))))))), .int (nI (tC tx n (tE tx n (tE tx n (tE tx n (tE tx n (tE tx n p))))))), .int (nI (tS tx n (tE tx n (tE tx n (tE tx n (tE tx n (tE tx n p))))))), .int (nI (tV tx n (tE tx n (tE tx n (tE tx n (tE tx n (tE tx n p)))))))])))
                have o62 := okN_e ho62
                have i62 : tE tx n (tE tx n (tE tx n (tE tx n (tE tx n (tE tx n p))))) ≤ n := tE_le (tE_le (tE_le (tE_le (tE_le (tE_le hp)))))
                have j62 := tE_ge tx n (tE tx n (tE tx n (tE tx n (tE tx n (tE tx n p)))))
                have k62 : tS tx n (tE tx n (tE tx n (tE tx n (tE tx n (tE tx n p))))) ≤ n := tS_le (tE_le (tE_le (tE_le (tE_le (tE_le hp)))))
                have c62 := tV_le tx n (tE tx n (tE tx n (tE tx n (tE tx n (tE tx n p)))))
                have d62 := tC_b tx n (tE tx n (tE tx n (tE tx n (tE tx n (tE tx n p)))))
                refine r_istore (pc' := 67) (lo' := [some (.ref 1), some (.int (nI (tV tx n (tE tx n p)))), some (.int (nI (tV tx n (tE tx n (tE tx n p))))), some (.int (nI (tV tx n (tE tx n (tE tx n (tE tx n p)))))), some (.int (nI (tV tx n (tE tx n (tE tx n (tE tx n (tE tx n p)))))))]) dX2_readGoer_65 rfl (by decide) rfl ?_
                refine r_iload (pc' := 69) dX2_readGoer_67 rfl rfl ?_
                refine r_if_ge (pc' := 72) (P := True) (tgt := 74) dX2_readGoer_69 (by decide) rfl (nI_ge0 (n := tV tx n (tE tx n (tE tx n (tE tx n (tE tx n p))))) (by omega)) (fun h69 => ?_) (fun h69 => ?_)
                · skip
                  refine r_aload_n (pc' := 75) dX2_readGoer_74 rfl rfl ?_
                  refine r_get (pc' := 78) fX2_18 dX2_readGoer_75 rfl (gs_eq (gs_eq (gs_eq (gs_eq (gs_eq r1))))) rfl ?_
                  refine r_iload_n (pc' := 79) dX2_readGoer_78 rfl rfl ?_
                  refine r_iload_n (pc' := 80) dX2_readGoer_79 rfl rfl ?_
                  refine r_iload_n (pc' := 81) dX2_readGoer_80 rfl rfl ?_
                  refine r_iload (pc' := 83) dX2_readGoer_81 rfl rfl ?_
                  refine r_callV (pc' := 86) (av := [.int (nI (tV tx n (tE tx n p))), .int (nI (tV tx n (tE tx n (tE tx n p)))), .int (nI (tV tx n (tE tx n (tE tx n (tE tx n p))))), .int (nI (tV tx n (tE tx n (tE tx n (tE tx n (tE tx n p))))))]) (rest := []) kX5_addGoer vX5_addGoer lX2_91 dX2_readGoer_83 rfl ((((((hT.fr (a := 1) (b := 2) (Frm.set (by omega) (by omega)) (by omega)).fr (a := 1) (b := 2) (Frm.set (by omega) (by omega)) (by omega)).fr (a := 1) (b := 2) (Frm.set (by omega) (by omega)) (by omega)).fr (a := 1) (b := 2) (Frm.set (by omega) (by omega)) (by omega)).fr (a := 1) (b := 2) (Frm.set (by omega) (by omega)) (by omega)).o) rfl rfl rfl ⟨by decide, by decide, by decide⟩ rfl rfl (Nat.le_of_ble_eq_true rfl) (ct_X5_addGoer ((((((hT.fr (a := 1) (b := 2) (Frm.set (by omega) (by omega)) (by omega)).fr (a := 1) (b := 2) (Frm.set (by omega) (by omega)) (by omega)).fr (a := 1) (b := 2) (Frm.set (by omega) (by omega)) (by omega)).fr (a := 1) (b := 2) (Frm.set (by omega) (by omega)) (by omega)).fr (a := 1) (b := 2) (Frm.set (by omega) (by omega)) (by omega))) hG (fun w83 hT83 hF83 => ?_))
                  show Wp g yX2_readGoer cX2_readGoer 5 (some .boolean) 5 0 0 (px_MQ g Q 0 0) 0 0 86 [some (.ref 1), some (.int (nI (tV tx n (tE tx n p)))), some (.int (nI (tV tx n (tE tx n (tE tx n p))))), some (.int (nI (tV tx n (tE tx n (tE tx n (tE tx n p)))))), some (.int (nI (tV tx n (tE tx n (tE tx n (tE tx n (tE tx n p)))))))] [] w83
                  refine r_iconst (pc' := 87) (v := bI true) dX2_readGoer_86 rfl rfl ?_
                  refine r_zreturn dX2_readGoer_87 rfl (bI_nar _) ?_
                  refine hok (w83) _ _ ?_ (hF83.at (gs_eq (gs_eq (gs_eq (gs_eq (gs_eq r1))))) (by omega)) (hF83.at (gs_ne (gs_ne (gs_ne (gs_ne (gs_ne r2 (by decide)) (by decide)) (by decide)) (by decide)) (by decide)) (by omega)) hT83 (((((((Frm.rf (a := 1) (b := 9)).sets (k := 1) (by omega) (by omega)).sets (k := 1) (by omega) (by omega)).sets (k := 1) (by omega) (by omega)).sets (k := 1) (by omega) (by omega)).sets (k := 1) (by omega) (by omega)).tr (a := 1) (b := 9) hF83 (by omega) (by omega) (by omega) (by omega))
                  rw [itG, if_pos ho8, if_pos ho31, if_pos ho47, if_pos ho62]
                · skip
                  exfalso; exact h69 trivial
              | false =>
                refine r_callV (pc' := 65) (av := [.int (nI 1), .int (nI 4)]) (rest := []) kX2_takeNumber vX2_takeNumber lX2_77 dX2_readGoer_62 rfl (gs_eq (gs_eq (gs_eq (gs_eq r1)))) rfl rfl rfl ⟨by decide, by decide, by decide⟩ rfl rfl (Nat.le_of_ble_eq_true rfl) (ct_take_n (gs_eq (gs_eq (gs_eq (gs_eq r1)))) (gs_ne (gs_ne (gs_ne (gs_ne r2 (by decide)) (by decide)) (by decide)) (by decide)) rt hn (tE_le (tE_le (tE_le (tE_le hp)))) (lo := 1) (by decide) (hiOK_n (m := 4) (by decide)) ho62 ?_)
                show Wp g yX2_readGoer cX2_readGoer 5 (some .boolean) 5 0 0 (px_MQ g Q 0 0) 0 0 65 [some (.ref 1), some (.int (nI (tV tx n (tE tx n p)))), some (.int (nI (tV tx n (tE tx n (tE tx n p))))), some (.int (nI (tV tx n (tE tx n (tE tx n (tE tx n p)))))), none] [.int ((-1))] ((((w.set 1 (.inr (2, [.ref 2, .int (nI n), .ref 3, .int (nI (tE tx n (tE tx n p))), .int (nI (tC tx n (tE tx n p))), .int (nI (tS tx n (tE tx n p))), .int (nI (tV tx n (tE tx n p)))]))).set 1 (.inr (2, [.ref 2, .int (nI n), .ref 3, .int (nI (tE tx n (tE tx n (tE tx n p)))), .int (nI (tC tx n (tE tx n (tE tx n p)))), .int (nI (tS tx n (tE tx n (tE tx n p)))), .int (nI (tV tx n (tE tx n (tE tx n p))))]))).set 1 (.inr (2, [.ref 2, .int (nI n), .ref 3, .int (nI (tE tx n (tE tx n (tE tx n (tE tx n p))))), .int (nI (tC tx n (tE tx n (tE tx n (tE tx n p))))), .int (nI (tS tx n (tE tx n (tE tx n (tE tx n p))))), .int (nI (tV tx n (tE tx n (tE tx n (tE tx n p)))))]))).set 1 (.inr (2, [.ref 2, .int (nI n), .ref 3, .int (nI (tE tx n (tE tx n (tE tx n (tE tx n (tE tx n p)))))), .int (nI (tC tx n (tE tx n (tE tx n (tE tx n (tE tx n p)))))), .int (nI (tS tx n (tE tx n (tE tx n (tE tx n (tE tx n p)))))), .int (nI (tV tx n (tE tx n (tE tx n (tE tx n (tE tx n p))))))])))
                refine r_istore (pc' := 67) (lo' := [some (.ref 1), some (.int (nI (tV tx n (tE tx n p)))), some (.int (nI (tV tx n (tE tx n (tE tx n p))))), some (.int (nI (tV tx n (tE tx n (tE tx n (tE tx n p)))))), some (.int ((-1)))]) dX2_readGoer_65 rfl (by decide) rfl ?_
                refine r_iload (pc' := 69) dX2_readGoer_67 rfl rfl ?_
                refine r_if_ge (pc' := 72) (P := 0 ≤ ((-1))) (tgt := 74) dX2_readGoer_69 (by decide) rfl (Iff.rfl) (fun h69 => ?_) (fun h69 => ?_)
                · skip
                  exfalso; exact absurd h69 (by decide)
                · skip
                  refine r_iconst (pc' := 73) (v := bI false) dX2_readGoer_72 rfl rfl ?_
                  refine r_zreturn dX2_readGoer_73 rfl (bI_nar _) ?_
                  refine hno ((((w.set 1 (.inr (2, [.ref 2, .int (nI n), .ref 3, .int (nI (tE tx n (tE tx n p))), .int (nI (tC tx n (tE tx n p))), .int (nI (tS tx n (tE tx n p))), .int (nI (tV tx n (tE tx n p)))]))).set 1 (.inr (2, [.ref 2, .int (nI n), .ref 3, .int (nI (tE tx n (tE tx n (tE tx n p)))), .int (nI (tC tx n (tE tx n (tE tx n p)))), .int (nI (tS tx n (tE tx n (tE tx n p)))), .int (nI (tV tx n (tE tx n (tE tx n p))))]))).set 1 (.inr (2, [.ref 2, .int (nI n), .ref 3, .int (nI (tE tx n (tE tx n (tE tx n (tE tx n p))))), .int (nI (tC tx n (tE tx n (tE tx n (tE tx n p))))), .int (nI (tS tx n (tE tx n (tE tx n (tE tx n p))))), .int (nI (tV tx n (tE tx n (tE tx n (tE tx n p)))))]))).set 1 (.inr (2, [.ref 2, .int (nI n), .ref 3, .int (nI (tE tx n (tE tx n (tE tx n (tE tx n (tE tx n p)))))), .int (nI (tC tx n (tE tx n (tE tx n (tE tx n (tE tx n p)))))), .int (nI (tS tx n (tE tx n (tE tx n (tE tx n (tE tx n p)))))), .int (nI (tV tx n (tE tx n (tE tx n (tE tx n (tE tx n p))))))]))) _ _ _ _ _ ?_ (gs_eq (gs_eq (gs_eq (gs_eq r1)))) (gs_ne (gs_ne (gs_ne (gs_ne r2 (by decide)) (by decide)) (by decide)) (by decide)) ((((hT.fr (a := 1) (b := 2) (Frm.set (by omega) (by omega)) (by omega)).fr (a := 1) (b := 2) (Frm.set (by omega) (by omega)) (by omega)).fr (a := 1) (b := 2) (Frm.set (by omega) (by omega)) (by omega)).fr (a := 1) (b := 2) (Frm.set (by omega) (by omega)) (by omega)) (((((Frm.rf (a := 1) (b := 9)).sets (k := 1) (by omega) (by omega)).sets (k := 1) (by omega) (by omega)).sets (k := 1) (by omega) (by omega)).sets (k := 1) (by omega) (by omega))
                  first | (rw [itG, if_neg (by rw [ho8]; decide)]; done) | (rw [itG, if_pos ho8, if_neg (by rw [ho31]; decide)]; done) | (rw [itG, if_pos ho8, if_pos ho31, if_neg (by rw [ho47]; decide)]; done) | (rw [itG, if_pos ho8, if_pos ho31, if_pos ho47, if_neg (by rw [ho62]; decide)]; done)
              
            · skip
              exfalso; exact h52 trivial
          | false =>
            refine r_callV (pc' := 50) (av := [.int (nI 0), .int (nI 7)]) (rest := []) kX2_takeNumber vX2_takeNumber lX2_77 dX2_readGoer_47 rfl (gs_eq (gs_eq (gs_eq r1))) rfl rfl rfl ⟨by decide, by decide, by decide⟩ rfl rfl (Nat.le_of_ble_eq_true rfl) (ct_take_n (gs_eq (gs_eq (gs_eq r1))) (gs_ne (gs_ne (gs_ne r2 (by decide)) (by decide)) (by decide)) rt hn (tE_le (tE_le (tE_le hp))) (lo := 0) (by decide) (hiOK_n (m := 7) (by decide)) ho47 ?_)
            show Wp g yX2_readGoer cX2_readGoer 5 (some .boolean) 5 0 0 (px_MQ g Q 0 0) 0 0 50 [some (.ref 1), some (.int (nI (tV tx n (tE tx n p)))), some (.int (nI (tV tx n (tE tx n (tE tx n p))))), none, none] [.int ((-1))] (((w.set 1 (.inr (2, [.ref 2, .int (nI n), .ref 3, .int (nI (tE tx n (tE tx n p))), .int (nI (tC tx n (tE tx n p))), .int (nI (tS tx n (tE tx n p))), .int (nI (tV tx n (tE tx n p)))]))).set 1 (.inr (2, [.ref 2, .int (nI n), .ref 3, .int (nI (tE tx n (tE tx n (tE tx n p)))), .int (nI (tC tx n (tE tx n (tE tx n p)))), .int (nI (tS tx n (tE tx n (tE tx n p)))), .int (nI (tV tx n (tE tx n (tE tx n p))))]))).set 1 (.inr (2, [.ref 2, .int (nI n), .ref 3, .int (nI (tE tx n (tE tx n (tE tx n (tE tx n p))))), .int (nI (tC tx n (tE tx n (tE tx n (tE tx n p))))), .int (nI (tS tx n (tE tx n (tE tx n (tE tx n p))))), .int (nI (tV tx n (tE tx n (tE tx n (tE tx n p)))))])))
            refine r_istore_n (pc' := 51) (lo' := [some (.ref 1), some (.int (nI (tV tx n (tE tx n p)))), some (.int (nI (tV tx n (tE tx n (tE tx n p))))), some (.int ((-1))), none]) dX2_readGoer_50 rfl (by decide) rfl ?_
            refine r_iload_n (pc' := 52) dX2_readGoer_51 rfl rfl ?_
            refine r_if_ge (pc' := 55) (P := 0 ≤ ((-1))) (tgt := 59) dX2_readGoer_52 (by decide) rfl (Iff.rfl) (fun h52 => ?_) (fun h52 => ?_)
            · skip
              exfalso; exact absurd h52 (by decide)
            · skip
              refine r_iconst (pc' := 56) (v := (-1)) dX2_readGoer_55 rfl rfl ?_
              refine r_goto (tgt := 65) dX2_readGoer_56 (by decide) ?_
              refine r_istore (pc' := 67) (lo' := [some (.ref 1), some (.int (nI (tV tx n (tE tx n p)))), some (.int (nI (tV tx n (tE tx n (tE tx n p))))), some (.int ((-1))), some (.int ((-1)))]) dX2_readGoer_65 rfl (by decide) rfl ?_
              refine r_iload (pc' := 69) dX2_readGoer_67 rfl rfl ?_
              refine r_if_ge (pc' := 72) (P := 0 ≤ ((-1))) (tgt := 74) dX2_readGoer_69 (by decide) rfl (Iff.rfl) (fun h69 => ?_) (fun h69 => ?_)
              · skip
                exfalso; exact absurd h69 (by decide)
              · skip
                refine r_iconst (pc' := 73) (v := bI false) dX2_readGoer_72 rfl rfl ?_
                refine r_zreturn dX2_readGoer_73 rfl (bI_nar _) ?_
                refine hno (((w.set 1 (.inr (2, [.ref 2, .int (nI n), .ref 3, .int (nI (tE tx n (tE tx n p))), .int (nI (tC tx n (tE tx n p))), .int (nI (tS tx n (tE tx n p))), .int (nI (tV tx n (tE tx n p)))]))).set 1 (.inr (2, [.ref 2, .int (nI n), .ref 3, .int (nI (tE tx n (tE tx n (tE tx n p)))), .int (nI (tC tx n (tE tx n (tE tx n p)))), .int (nI (tS tx n (tE tx n (tE tx n p)))), .int (nI (tV tx n (tE tx n (tE tx n p))))]))).set 1 (.inr (2, [.ref 2, .int (nI n), .ref 3, .int (nI (tE tx n (tE tx n (tE tx n (tE tx n p))))), .int (nI (tC tx n (tE tx n (tE tx n (tE tx n p))))), .int (nI (tS tx n (tE tx n (tE tx n (tE tx n p))))), .int (nI (tV tx n (tE tx n (tE tx n (tE tx n p)))))]))) _ _ _ _ _ ?_ (gs_eq (gs_eq (gs_eq r1))) (gs_ne (gs_ne (gs_ne r2 (by decide)) (by decide)) (by decide)) (((hT.fr (a := 1) (b := 2) (Frm.set (by omega) (by omega)) (by omega)).fr (a := 1) (b := 2) (Frm.set (by omega) (by omega)) (by omega)).fr (a := 1) (b := 2) (Frm.set (by omega) (by omega)) (by omega)) ((((Frm.rf (a := 1) (b := 9)).sets (k := 1) (by omega) (by omega)).sets (k := 1) (by omega) (by omega)).sets (k := 1) (by omega) (by omega))
                first | (rw [itG, if_neg (by rw [ho8]; decide)]; done) | (rw [itG, if_pos ho8, if_neg (by rw [ho31]; decide)]; done) | (rw [itG, if_pos ho8, if_pos ho31, if_neg (by rw [ho47]; decide)]; done) | (rw [itG, if_pos ho8, if_pos ho31, if_pos ho47, if_neg (by rw [ho62]; decide)]; done)
          
        · skip
          exfalso; exact h36 trivial
      | false =>
        refine r_callV (pc' := 34) (av := [.int (nI 0), .int ((nI (tD T)) - (nI 1))]) (rest := []) kX2_takeNumber vX2_takeNumber lX2_77 dX2_readGoer_31 rfl (gs_eq (gs_eq r1)) rfl rfl rfl ⟨by decide, by decide, by decide⟩ rfl rfl (Nat.le_of_ble_eq_true rfl) (ct_take_n (gs_eq (gs_eq r1)) (gs_ne (gs_ne r2 (by decide)) (by decide)) rt hn (tE_le (tE_le hp)) (lo := 0) (by decide) (hiOK_s (by omega)) ho31 ?_)
        show Wp g yX2_readGoer cX2_readGoer 5 (some .boolean) 5 0 0 (px_MQ g Q 0 0) 0 0 34 [some (.ref 1), some (.int (nI (tV tx n (tE tx n p)))), none, none, none] [.int ((-1))] ((w.set 1 (.inr (2, [.ref 2, .int (nI n), .ref 3, .int (nI (tE tx n (tE tx n p))), .int (nI (tC tx n (tE tx n p))), .int (nI (tS tx n (tE tx n p))), .int (nI (tV tx n (tE tx n p)))]))).set 1 (.inr (2, [.ref 2, .int (nI n), .ref 3, .int (nI (tE tx n (tE tx n (tE tx n p)))), .int (nI (tC tx n (tE tx n (tE tx n p)))), .int (nI (tS tx n (tE tx n (tE tx n p)))), .int (nI (tV tx n (tE tx n (tE tx n p))))])))
        refine r_istore_n (pc' := 35) (lo' := [some (.ref 1), some (.int (nI (tV tx n (tE tx n p)))), some (.int ((-1))), none, none]) dX2_readGoer_34 rfl (by decide) rfl ?_
        refine r_iload_n (pc' := 36) dX2_readGoer_35 rfl rfl ?_
        refine r_if_ge (pc' := 39) (P := 0 ≤ ((-1))) (tgt := 43) dX2_readGoer_36 (by decide) rfl (Iff.rfl) (fun h36 => ?_) (fun h36 => ?_)
        · skip
          exfalso; exact absurd h36 (by decide)
        · skip
          refine r_iconst (pc' := 40) (v := (-1)) dX2_readGoer_39 rfl rfl ?_
          refine r_goto (tgt := 50) dX2_readGoer_40 (by decide) ?_
          refine r_istore_n (pc' := 51) (lo' := [some (.ref 1), some (.int (nI (tV tx n (tE tx n p)))), some (.int ((-1))), some (.int ((-1))), none]) dX2_readGoer_50 rfl (by decide) rfl ?_
          refine r_iload_n (pc' := 52) dX2_readGoer_51 rfl rfl ?_
          refine r_if_ge (pc' := 55) (P := 0 ≤ ((-1))) (tgt := 59) dX2_readGoer_52 (by decide) rfl (Iff.rfl) (fun h52 => ?_) (fun h52 => ?_)
          · skip
            exfalso; exact absurd h52 (by decide)
          · skip
            refine r_iconst (pc' := 56) (v := (-1)) dX2_readGoer_55 rfl rfl ?_
            refine r_goto (tgt := 65) dX2_readGoer_56 (by decide) ?_
            refine r_istore (pc' := 67) (lo' := [some (.ref 1), some (.int (nI (tV tx n (tE tx n p)))), some (.int ((-1))), some (.int ((-1))), some (.int ((-1)))]) dX2_readGoer_65 rfl (by decide) rfl ?_
            refine r_iload (pc' := 69) dX2_readGoer_67 rfl rfl ?_
            refine r_if_ge (pc' := 72) (P := 0 ≤ ((-1))) (tgt := 74) dX2_readGoer_69 (by decide) rfl (Iff.rfl) (fun h69 => ?_) (fun h69 => ?_)
            · skip
              exfalso; exact absurd h69 (by decide)
            · skip
              refine r_iconst (pc' := 73) (v := bI false) dX2_readGoer_72 rfl rfl ?_
              refine r_zreturn dX2_readGoer_73 rfl (bI_nar _) ?_
              refine hno ((w.set 1 (.inr (2, [.ref 2, .int (nI n), .ref 3, .int (nI (tE tx n (tE tx n p))), .int (nI (tC tx n (tE tx n p))), .int (nI (tS tx n (tE tx n p))), .int (nI (tV tx n (tE tx n p)))]))).set 1 (.inr (2, [.ref 2, .int (nI n), .ref 3, .int (nI (tE tx n (tE tx n (tE tx n p)))), .int (nI (tC tx n (tE tx n (tE tx n p)))), .int (nI (tS tx n (tE tx n (tE tx n p)))), .int (nI (tV tx n (tE tx n (tE tx n p))))]))) _ _ _ _ _ ?_ (gs_eq (gs_eq r1)) (gs_ne (gs_ne r2 (by decide)) (by decide)) ((hT.fr (a := 1) (b := 2) (Frm.set (by omega) (by omega)) (by omega)).fr (a := 1) (b := 2) (Frm.set (by omega) (by omega)) (by omega)) (((Frm.rf (a := 1) (b := 9)).sets (k := 1) (by omega) (by omega)).sets (k := 1) (by omega) (by omega))
              first | (rw [itG, if_neg (by rw [ho8]; decide)]; done) | (rw [itG, if_pos ho8, if_neg (by rw [ho31]; decide)]; done) | (rw [itG, if_pos ho8, if_pos ho31, if_neg (by rw [ho47]; decide)]; done) | (rw [itG, if_pos ho8, if_pos ho31, if_pos ho47, if_neg (by rw [ho62]; decide)]; done)
      
    · skip
      exfalso; exact h13 trivial
  | false =>
    refine r_callV (pc' := 11) (av := [.int (nI 1), .int (nI 24)]) (rest := []) kX2_takeNumber vX2_takeNumber lX2_77 dX2_readGoer_8 rfl (gs_eq r1) rfl rfl rfl ⟨by decide, by decide, by decide⟩ rfl rfl (Nat.le_of_ble_eq_true rfl) (ct_take_n (gs_eq r1) (gs_ne r2 (by decide)) rt hn (tE_le hp) (lo := 1) (by decide) (hiOK_n (m := 24) (by decide)) ho8 ?_)
    show Wp g yX2_readGoer cX2_readGoer 5 (some .boolean) 5 0 0 (px_MQ g Q 0 0) 0 0 11 [some (.ref 1), none, none, none, none] [.int ((-1))] (w.set 1 (.inr (2, [.ref 2, .int (nI n), .ref 3, .int (nI (tE tx n (tE tx n p))), .int (nI (tC tx n (tE tx n p))), .int (nI (tS tx n (tE tx n p))), .int (nI (tV tx n (tE tx n p)))])))
    refine r_istore_n (pc' := 12) (lo' := [some (.ref 1), some (.int ((-1))), none, none, none]) dX2_readGoer_11 rfl (by decide) rfl ?_
    refine r_iload_n (pc' := 13) dX2_readGoer_12 rfl rfl ?_
    refine r_if_ge (pc' := 16) (P := 0 ≤ ((-1))) (tgt := 20) dX2_readGoer_13 (by decide) rfl (Iff.rfl) (fun h13 => ?_) (fun h13 => ?_)
    · skip
      exfalso; exact absurd h13 (by decide)
    · skip
      refine r_iconst (pc' := 17) (v := (-1)) dX2_readGoer_16 rfl rfl ?_
      refine r_goto (tgt := 34) dX2_readGoer_17 (by decide) ?_
      refine r_istore_n (pc' := 35) (lo' := [some (.ref 1), some (.int ((-1))), some (.int ((-1))), none, none]) dX2_readGoer_34 rfl (by decide) rfl ?_
      refine r_iload_n (pc' := 36) dX2_readGoer_35 rfl rfl ?_
      refine r_if_ge (pc' := 39) (P := 0 ≤ ((-1))) (tgt := 43) dX2_readGoer_36 (by decide) rfl (Iff.rfl) (fun h36 => ?_) (fun h36 => ?_)
      · skip
        exfalso; exact absurd h36 (by decide)
      · skip
        refine r_iconst (pc' := 40) (v := (-1)) dX2_readGoer_39 rfl rfl ?_
        refine r_goto (tgt := 50) dX2_readGoer_40 (by decide) ?_
        refine r_istore_n (pc' := 51) (lo' := [some (.ref 1), some (.int ((-1))), some (.int ((-1))), some (.int ((-1))), none]) dX2_readGoer_50 rfl (by decide) rfl ?_
        refine r_iload_n (pc' := 52) dX2_readGoer_51 rfl rfl ?_
        refine r_if_ge (pc' := 55) (P := 0 ≤ ((-1))) (tgt := 59) dX2_readGoer_52 (by decide) rfl (Iff.rfl) (fun h52 => ?_) (fun h52 => ?_)
        · skip
          exfalso; exact absurd h52 (by decide)
        · skip
          refine r_iconst (pc' := 56) (v := (-1)) dX2_readGoer_55 rfl rfl ?_
          refine r_goto (tgt := 65) dX2_readGoer_56 (by decide) ?_
          refine r_istore (pc' := 67) (lo' := [some (.ref 1), some (.int ((-1))), some (.int ((-1))), some (.int ((-1))), some (.int ((-1)))]) dX2_readGoer_65 rfl (by decide) rfl ?_
          refine r_iload (pc' := 69) dX2_readGoer_67 rfl rfl ?_
          refine r_if_ge (pc' := 72) (P := 0 ≤ ((-1))) (tgt := 74) dX2_readGoer_69 (by decide) rfl (Iff.rfl) (fun h69 => ?_) (fun h69 => ?_)
          · skip
            exfalso; exact absurd h69 (by decide)
          · skip
            refine r_iconst (pc' := 73) (v := bI false) dX2_readGoer_72 rfl rfl ?_
            refine r_zreturn dX2_readGoer_73 rfl (bI_nar _) ?_
            refine hno (w.set 1 (.inr (2, [.ref 2, .int (nI n), .ref 3, .int (nI (tE tx n (tE tx n p))), .int (nI (tC tx n (tE tx n p))), .int (nI (tS tx n (tE tx n p))), .int (nI (tV tx n (tE tx n p)))]))) _ _ _ _ _ ?_ (gs_eq r1) (gs_ne r2 (by decide)) (hT.fr (a := 1) (b := 2) (Frm.set (by omega) (by omega)) (by omega)) ((Frm.rf (a := 1) (b := 9)).sets (k := 1) (by omega) (by omega))
            first | (rw [itG, if_neg (by rw [ho8]; decide)]; done) | (rw [itG, if_pos ho8, if_neg (by rw [ho31]; decide)]; done) | (rw [itG, if_pos ho8, if_pos ho31, if_neg (by rw [ho47]; decide)]; done) | (rw [itG, if_pos ho8, if_pos ho31, if_pos ho47, if_neg (by rw [ho62]; decide)]; done)
  
