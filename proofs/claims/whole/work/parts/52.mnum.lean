/-- the reference's object, with the token at p read -/
abbrev mop (tr : Int64) (tx : Nat → Nat) (n p : Nat) (va fa um : Int32) : px_C := mobj tr (nI n) (nI (tE tx n p)) (nI (mT tx n p)) (nI (tS tx n p)) (mV tx n p va) fa um
theorem tV_m {tx : Nat → Nat} {n p : Nat} (h : mT tx n p = 2) (va : Int32) : tC tx n p = 3 ∧ mV tx n p va = nI (tV tx n p) ∧ tV tx n p ≤ 99 := by
  unfold mT at h
  split at h
  · cases h
  · split at h
    · next h3 =>
      split at h
      · cases h
      · next hq =>
        have q1 : ¬ 99 < numM tx (tS tx n p) (tE tx n p - tS tx n p) := fun q => hq (Or.inl q)
        have q2 : ¬ tB tx n p = true := fun q => hq (Or.inr q)
        have e : tV tx n p = numM tx (tS tx n p) (tE tx n p - tS tx n p) := by rw [tV, if_pos h3, if_neg q2, cap, if_pos (by omega)]
        exact ⟨h3, by rw [mV, if_pos h3, e], by omega⟩
    · split at h
      · cases h
      · split at h <;> cases h
theorem okN_m {tx : Nat → Nat} {n p lo hi : Nat} (h : okN tx n p lo hi = true) (hh : hi ≤ 100) : mT tx n p = 2 := by
  obtain ⟨h1, h2, h3⟩ := okN_e h
  rw [mT, if_neg (by omega), if_pos h1, if_neg]
  rintro (q | q)
  · rw [tV, if_pos h1] at h3
    split at h3
    · omega
    · rw [cap, if_neg (by omega)] at h3; omega
  · rw [tV, if_pos h1, if_pos q] at h3; omega
theorem mT_b (tx : Nat → Nat) (n p : Nat) : mT tx n p ≤ 4 := by
  unfold mT; split; omega; split; (split <;> omega); split; omega; split <;> omega
def hiOK2 (hi : Int32) (hi1 : Nat) : Prop := ∀ v, v ≤ 100 → (nI v ≤ hi ↔ v < hi1)
theorem in_hi {v lo hi1 : Nat} {hi : Int32} (hv : v ≤ 100) (hlo : lo < 2 ^ 20) (hh : hiOK hi hi1) : inI (nI v) (nI lo) hi = (decide (lo ≤ v) && decide (v < hi1)) := by
  unfold inI
  congr 1
  · exact decide_eq_decide.mpr (nI_leI (by omega) (by omega))
  · exact decide_eq_decide.mpr (hh v hv)
set_option maxHeartbeats 200000 in
theorem ct_well_y {g : px_G} {w : px_W} {Q : px_Q} {tr : Int64} {va um : Int32} {n p : Nat} {tx : Nat → Nat} {fs : Nat → Int32} (hX : w[60]? = some (mop tr tx n p va (-1) um)) (hx : w[61]? = some (.inl (0, 150, .inl fs))) (rt : ∀ j, j < n → fs j = nI (tx j) ∧ tx j < 256) (hn : n ≤ 150) (hp : p ≤ n)  (hQ : Q (some (.int (bI true))) w) : Ct g yX7_isWell cX7_isWell 1 (some .boolean) 1 0 0 [.ref 60] w Q := by
  refine Ct.of kX7_isWell (by omega) (lo := [some (.ref 60)]) rfl (px_cat1 rfl) (Nat.le_of_ble_eq_true rfl) ?_
  have b1 := tS_le (tx := tx) hp
  have b2 := tE_ge tx n p
  have b3 : tE tx n p ≤ n := tE_le hp
  have b4 := mT_b tx n p
  refine r_aload_n (pc' := 1) dX7_isWell_0 rfl rfl ?_
  refine r_get (pc' := 4) fX7_89 dX7_isWell_1 rfl hX rfl ?_
  refine r_if_ge (pc' := 7) (P := (0 : Int32) ≤ -1) (tgt := 11) dX7_isWell_4 (by decide) rfl (Iff.rfl) (fun h4 => ?_) (fun h4 => ?_)
  · skip
    exfalso; exact absurd h4 (by decide)
  · skip
    refine r_iconst (pc' := 8) (v := bI true) dX7_isWell_7 rfl rfl ?_
    refine r_goto (tgt := 12) dX7_isWell_8 (by decide) ?_
    refine r_zreturn dX7_isWell_12 rfl (bI_nar _) ?_
    exact hQ
set_option maxHeartbeats 200000 in
theorem ct_well_n {g : px_G} {w : px_W} {Q : px_Q} {tr : Int64} {va um : Int32} {f n p : Nat} {tx : Nat → Nat} {fs : Nat → Int32} (hX : w[60]? = some (mop tr tx n p va (nI f) um)) (hx : w[61]? = some (.inl (0, 150, .inl fs))) (rt : ∀ j, j < n → fs j = nI (tx j) ∧ tx j < 256) (hf : f ≤ 150) (hn : n ≤ 150) (hp : p ≤ n)  (hQ : Q (some (.int (bI false))) w) : Ct g yX7_isWell cX7_isWell 1 (some .boolean) 1 0 0 [.ref 60] w Q := by
  refine Ct.of kX7_isWell (by omega) (lo := [some (.ref 60)]) rfl (px_cat1 rfl) (Nat.le_of_ble_eq_true rfl) ?_
  have b1 := tS_le (tx := tx) hp
  have b2 := tE_ge tx n p
  have b3 : tE tx n p ≤ n := tE_le hp
  have b4 := mT_b tx n p
  refine r_aload_n (pc' := 1) dX7_isWell_0 rfl rfl ?_
  refine r_get (pc' := 4) fX7_89 dX7_isWell_1 rfl hX rfl ?_
  refine r_if_ge (pc' := 7) (P := True) (tgt := 11) dX7_isWell_4 (by decide) rfl (nI_ge0 (n := f) (by omega)) (fun h4 => ?_) (fun h4 => ?_)
  · skip
    refine r_iconst (pc' := 12) (v := bI false) dX7_isWell_11 rfl rfl ?_
    refine r_zreturn dX7_isWell_12 rfl (bI_nar _) ?_
    exact hQ
  · skip
    exfalso; exact h4 trivial
set_option maxHeartbeats 200000 in
theorem ct_takes_x {g : px_G} {w : px_W} {Q : px_Q} {tr : Int64} {va um : Int32} {f n p : Nat} {tx : Nat → Nat} {fs : Nat → Int32} (hX : w[60]? = some (mop tr tx n p va (nI f) um)) (hx : w[61]? = some (.inl (0, 150, .inl fs))) (rt : ∀ j, j < n → fs j = nI (tx j) ∧ tx j < 256) (hf : f ≤ 150) (hn : n ≤ 150) (hp : p ≤ n) {b : Bool} (hQ : Q (some (.int (nI 0))) w) : Ct g yX7_takes cX7_takes 3 (some .int) 3 0 0 [.ref 60, .int (bI b)] w Q := by
  refine Ct.of kX7_takes (by omega) (lo := [some (.ref 60), some (.int (bI b)), none]) rfl (px_cat1 rfl) (Nat.le_of_ble_eq_true rfl) ?_
  have b1 := tS_le (tx := tx) hp
  have b2 := tE_ge tx n p
  have b3 : tE tx n p ≤ n := tE_le hp
  have b4 := mT_b tx n p
  refine r_aload_n (pc' := 1) dX7_takes_0 rfl rfl ?_
  refine r_callV (pc' := 4) (av := []) (rest := []) kX7_isWell vX7_isWell lX7_92 dX7_takes_1 rfl hX rfl rfl rfl ⟨by decide, by decide, by decide⟩ rfl rfl (Nat.le_of_ble_eq_true rfl) (ct_well_n hX hx rt hf hn hp ?_)
  show Wp g yX7_takes cX7_takes 3 (some .int) 3 0 0 (px_MQ g Q 0 0) 0 0 4 [some (.ref 60), some (.int (bI b)), none] [.int (bI false)] w
  refine r_if_ne (pc' := 7) (P := false = false) (tgt := 9) dX7_takes_4 (by decide) rfl (bI_0) (fun h4 => ?_) (fun h4 => ?_)
  · skip
    exfalso; exact h4 rfl
  · skip
    refine r_iconst (pc' := 8) (v := nI 0) dX7_takes_7 rfl rfl ?_
    refine r_ireturn dX7_takes_8 rfl ?_
    exact hQ
set_option maxHeartbeats 200000 in
theorem ct_takes_f {g : px_G} {w : px_W} {Q : px_Q} {tr : Int64} {va um : Int32} {n p : Nat} {tx : Nat → Nat} {fs : Nat → Int32} (hX : w[60]? = some (mop tr tx n p va (-1) um)) (hx : w[61]? = some (.inl (0, 150, .inl fs))) (rt : ∀ j, j < n → fs j = nI (tx j) ∧ tx j < 256) (hn : n ≤ 150) (hp : p ≤ n)  (hQ : Q (some (.int (nI 0))) (w.set 60 (mop tr tx n p va (nI (tS tx n p)) um))) : Ct g yX7_takes cX7_takes 3 (some .int) 3 0 0 [.ref 60, .int (bI false)] w Q := by
  refine Ct.of kX7_takes (by omega) (lo := [some (.ref 60), some (.int (bI false)), none]) rfl (px_cat1 rfl) (Nat.le_of_ble_eq_true rfl) ?_
  have b1 := tS_le (tx := tx) hp
  have b2 := tE_ge tx n p
  have b3 : tE tx n p ≤ n := tE_le hp
  have b4 := mT_b tx n p
  refine r_aload_n (pc' := 1) dX7_takes_0 rfl rfl ?_
  refine r_callV (pc' := 4) (av := []) (rest := []) kX7_isWell vX7_isWell lX7_92 dX7_takes_1 rfl hX rfl rfl rfl ⟨by decide, by decide, by decide⟩ rfl rfl (Nat.le_of_ble_eq_true rfl) (ct_well_y hX hx rt hn hp ?_)
  show Wp g yX7_takes cX7_takes 3 (some .int) 3 0 0 (px_MQ g Q 0 0) 0 0 4 [some (.ref 60), some (.int (bI false)), none] [.int (bI true)] w
  refine r_if_ne (pc' := 7) (P := true = false) (tgt := 9) dX7_takes_4 (by decide) rfl (bI_0) (fun h4 => ?_) (fun h4 => ?_)
  · skip
    refine r_iload_n (pc' := 10) dX7_takes_9 rfl rfl ?_
    refine r_if_ne (pc' := 13) (P := false = false) (tgt := 23) dX7_takes_10 (by decide) rfl (bI_0) (fun h10 => ?_) (fun h10 => ?_)
    · skip
      exfalso; exact h10 rfl
    · skip
      refine r_aload_n (pc' := 14) dX7_takes_13 rfl rfl ?_
      refine r_aload_n (pc' := 15) dX7_takes_14 rfl rfl ?_
      refine r_get (pc' := 18) fX7_80 dX7_takes_15 rfl hX rfl ?_
      refine r_put (pc' := 21) (ty := .int) (c' := .inr (6, [.int (nI 0), .long tr, .ref 61, .int (nI n), .int (nI (tE tx n p)), .int (nI (mT tx n p)), .int (nI (tS tx n p)), .int (mV tx n p va), .int (nI (tS tx n p)), .ref 62, .ref 63, .ref 64, .ref 65, .ref 66, .ref 67, .ref 68, .ref 69, .ref 70, .ref 71, .ref 72, .ref 73, .ref 74, .int um, .ref 75])) fX7_89 dX7_takes_18 rfl hX (Nat.le_of_ble_eq_true rfl) rfl (by decide +kernel) rfl rfl rfl ?_
      refine r_iconst (pc' := 22) (v := nI 0) dX7_takes_21 rfl rfl ?_
      refine r_ireturn dX7_takes_22 rfl ?_
      exact hQ
  · skip
    exfalso; cases h4
set_option maxHeartbeats 200000 in
theorem ct_takes_t {g : px_G} {w : px_W} {Q : px_Q} {tr : Int64} {va um : Int32} {n p : Nat} {tx : Nat → Nat} {fs : Nat → Int32} (hX : w[60]? = some (mop tr tx n p va (-1) um)) (hx : w[61]? = some (.inl (0, 150, .inl fs))) (rt : ∀ j, j < n → fs j = nI (tx j) ∧ tx j < 256) (hn : n ≤ 150) (hp : p ≤ n)  (hQ : Q (some (.int (mV tx n p va))) (w.set 60 (mop tr tx n (tE tx n p) (mV tx n p va) (-1) um))) : Ct g yX7_takes cX7_takes 3 (some .int) 3 0 0 [.ref 60, .int (bI true)] w Q := by
  refine Ct.of kX7_takes (by omega) (lo := [some (.ref 60), some (.int (bI true)), none]) rfl (px_cat1 rfl) (Nat.le_of_ble_eq_true rfl) ?_
  have b1 := tS_le (tx := tx) hp
  have b2 := tE_ge tx n p
  have b3 : tE tx n p ≤ n := tE_le hp
  have b4 := mT_b tx n p
  refine r_aload_n (pc' := 1) dX7_takes_0 rfl rfl ?_
  refine r_callV (pc' := 4) (av := []) (rest := []) kX7_isWell vX7_isWell lX7_92 dX7_takes_1 rfl hX rfl rfl rfl ⟨by decide, by decide, by decide⟩ rfl rfl (Nat.le_of_ble_eq_true rfl) (ct_well_y hX hx rt hn hp ?_)
  show Wp g yX7_takes cX7_takes 3 (some .int) 3 0 0 (px_MQ g Q 0 0) 0 0 4 [some (.ref 60), some (.int (bI true)), none] [.int (bI true)] w
  refine r_if_ne (pc' := 7) (P := true = false) (tgt := 9) dX7_takes_4 (by decide) rfl (bI_0) (fun h4 => ?_) (fun h4 => ?_)
  · skip
    refine r_iload_n (pc' := 10) dX7_takes_9 rfl rfl ?_
    refine r_if_ne (pc' := 13) (P := true = false) (tgt := 23) dX7_takes_10 (by decide) rfl (bI_0) (fun h10 => ?_) (fun h10 => ?_)
    · skip
      refine r_aload_n (pc' := 24) dX7_takes_23 rfl rfl ?_
      refine r_get (pc' := 27) fX7_86 dX7_takes_24 rfl hX rfl ?_
      refine r_istore_n (pc' := 28) (lo' := [some (.ref 60), some (.int (bI true)), some (.int (mV tx n p va))]) dX7_takes_27 rfl (by decide) rfl ?_
      refine r_aload_n (pc' := 29) dX7_takes_28 rfl rfl ?_
      refine r_callV (pc' := 32) (av := []) (rest := []) kX7_advances vX7_advances lX7_96 dX7_takes_29 rfl hX rfl rfl rfl ⟨by decide, by decide, by decide⟩ rfl rfl (Nat.le_of_ble_eq_true rfl) (ct_X7_advances hX hx rt hn b3 ?_)
      show Wp g yX7_takes cX7_takes 3 (some .int) 3 0 0 (px_MQ g Q 0 0) 0 0 32 [some (.ref 60), some (.int (bI true)), some (.int (mV tx n p va))] [] (w.set 60 (.inr (6, [.int (nI 0), .long tr, .ref 61, .int (nI n), .int (nI (tE tx n (tE tx n p))), .int (nI (mT tx n (tE tx n p))), .int (nI (tS tx n (tE tx n p))), .int (mV tx n (tE tx n p) (mV tx n p va)), .int ((-1)), .ref 62, .ref 63, .ref 64, .ref 65, .ref 66, .ref 67, .ref 68, .ref 69, .ref 70, .ref 71, .ref 72, .ref 73, .ref 74, .int um, .ref 75])))
      refine r_iload_n (pc' := 33) dX7_takes_32 rfl rfl ?_
      refine r_ireturn dX7_takes_33 rfl ?_
      exact hQ
    · skip
      exfalso; cases h10
  · skip
    exfalso; cases h4
theorem px_in3 {a lo hi : Int32} {v : Nat} {b : Bool} (e : a = nI v) (h : inI (nI v) lo hi = b) : inI a lo hi = b := by rw [e]; exact h
set_option maxHeartbeats 200000 in
theorem ct_num_x {g : px_G} {w : px_W} {Q : px_Q} {tr : Int64} {va um : Int32} {f n p : Nat} {tx : Nat → Nat} {fs : Nat → Int32} (hX : w[60]? = some (mop tr tx n p va (nI f) um)) (hx : w[61]? = some (.inl (0, 150, .inl fs))) (rt : ∀ j, j < n → fs j = nI (tx j) ∧ tx j < 256) (hf : f ≤ 150) (hn : n ≤ 150) (hp : p ≤ n) {lo hi1 : Nat} {hi : Int32} (hlo : lo < 2 ^ 20) (hh : hiOK hi hi1) (hQ : Q (some (.int (nI 0))) w) : Ct g yX7_number cX7_number 3 (some .int) 4 0 0 [.ref 60, .int (nI lo), .int hi] w Q := by
  refine Ct.of kX7_number (by omega) (lo := [some (.ref 60), some (.int (nI lo)), some (.int hi)]) rfl (px_cat1 rfl) (Nat.le_of_ble_eq_true rfl) ?_
  have b1 := tS_le (tx := tx) hp
  have b2 := tE_ge tx n p
  have b3 : tE tx n p ≤ n := tE_le hp
  have b4 := mT_b tx n p
  refine r_aload_n (pc' := 1) dX7_number_0 rfl rfl ?_
  refine r_aload_n (pc' := 2) dX7_number_1 rfl rfl ?_
  refine r_get (pc' := 5) fX7_83 dX7_number_2 rfl hX rfl ?_
  refine r_iconst (pc' := 6) (v := nI 2) dX7_number_5 rfl rfl ?_
  refine r_icmp_ne (pc' := 9) (P := mT tx n p = 2) (tgt := 25) dX7_number_6 (by decide) rfl (nI_eq (a := mT tx n p) (b := 2) (by omega) (by omega)) (fun h6 => ?_) (fun h6 => ?_)
  · skip
    refine r_iconst (pc' := 26) (v := bI false) dX7_number_25 rfl rfl ?_
    refine r_callV (pc' := 29) (av := [.int (bI false)]) (rest := []) kX7_takes vX7_takes lX7_99 dX7_number_26 rfl hX rfl rfl rfl ⟨by decide, by decide, by decide⟩ rfl rfl (Nat.le_of_ble_eq_true rfl) (ct_takes_x hX hx rt hf hn hp ?_)
    show Wp g yX7_number cX7_number 3 (some .int) 4 0 0 (px_MQ g Q 0 0) 0 0 29 [some (.ref 60), some (.int (nI lo)), some (.int hi)] [.int (nI 0)] w
    refine r_ireturn dX7_number_29 rfl ?_
    exact hQ
  · skip
    refine r_aload_n (pc' := 10) dX7_number_9 rfl rfl ?_
    refine r_get (pc' := 13) fX7_86 dX7_number_10 rfl hX rfl ?_
    refine r_iload_n (pc' := 14) dX7_number_13 rfl rfl ?_
    refine r_iload_n (pc' := 15) dX7_number_14 rfl rfl ?_
    obtain ⟨v1, v2, v3⟩ := tV_m h6 va
    refine r_callS (pc' := 18) (av := [.int (mV tx n p va), .int (nI lo), .int hi]) (rest := [.ref 60]) kX7_in vX7_in lX7_66 dX7_number_15 rfl rfl rfl ⟨by decide, by decide, by decide⟩ rfl rfl (Nat.le_of_ble_eq_true rfl) (ct_in_e (px_in3 v2 (in_hi (by omega) hlo hh)) ?_)
    show Wp g yX7_number cX7_number 3 (some .int) 4 0 0 (px_MQ g Q 0 0) 0 0 18 [some (.ref 60), some (.int (nI lo)), some (.int hi)] [.int (bI ((decide (lo ≤ tV tx n p) && decide (tV tx n p < hi1)))), .ref 60] w
    refine r_if_eq (pc' := 21) (P := ((decide (lo ≤ tV tx n p) && decide (tV tx n p < hi1))) = false) (tgt := 25) dX7_number_18 (by decide) rfl (bI_0) (fun h18 => ?_) (fun h18 => ?_)
    · skip
      refine r_iconst (pc' := 26) (v := bI false) dX7_number_25 rfl rfl ?_
      refine r_callV (pc' := 29) (av := [.int (bI false)]) (rest := []) kX7_takes vX7_takes lX7_99 dX7_number_26 rfl hX rfl rfl rfl ⟨by decide, by decide, by decide⟩ rfl rfl (Nat.le_of_ble_eq_true rfl) (ct_takes_x hX hx rt hf hn hp ?_)
      show Wp g yX7_number cX7_number 3 (some .int) 4 0 0 (px_MQ g Q 0 0) 0 0 29 [some (.ref 60), some (.int (nI lo)), some (.int hi)] [.int (nI 0)] w
      refine r_ireturn dX7_number_29 rfl ?_
      exact hQ
    · skip
      refine r_iconst (pc' := 22) (v := bI true) dX7_number_21 rfl rfl ?_
      refine r_goto (tgt := 26) dX7_number_22 (by decide) ?_
      refine r_callV (pc' := 29) (av := [.int (bI true)]) (rest := []) kX7_takes vX7_takes lX7_99 dX7_number_26 rfl hX rfl rfl rfl ⟨by decide, by decide, by decide⟩ rfl rfl (Nat.le_of_ble_eq_true rfl) (ct_takes_x hX hx rt hf hn hp ?_)
      show Wp g yX7_number cX7_number 3 (some .int) 4 0 0 (px_MQ g Q 0 0) 0 0 29 [some (.ref 60), some (.int (nI lo)), some (.int hi)] [.int (nI 0)] w
      refine r_ireturn dX7_number_29 rfl ?_
      exact hQ
set_option maxHeartbeats 200000 in
theorem ct_num_n {g : px_G} {w : px_W} {Q : px_Q} {tr : Int64} {va um : Int32} {n p : Nat} {tx : Nat → Nat} {fs : Nat → Int32} (hX : w[60]? = some (mop tr tx n p va (-1) um)) (hx : w[61]? = some (.inl (0, 150, .inl fs))) (rt : ∀ j, j < n → fs j = nI (tx j) ∧ tx j < 256) (hn : n ≤ 150) (hp : p ≤ n) {lo hi1 : Nat} {hi : Int32} (hlo : lo < 2 ^ 20) (hh : hiOK hi hi1) (ho : okN tx n p lo hi1 = false) (hQ : Q (some (.int (nI 0))) (w.set 60 (mop tr tx n p va (nI (tS tx n p)) um))) : Ct g yX7_number cX7_number 3 (some .int) 4 0 0 [.ref 60, .int (nI lo), .int hi] w Q := by
  refine Ct.of kX7_number (by omega) (lo := [some (.ref 60), some (.int (nI lo)), some (.int hi)]) rfl (px_cat1 rfl) (Nat.le_of_ble_eq_true rfl) ?_
  have b1 := tS_le (tx := tx) hp
  have b2 := tE_ge tx n p
  have b3 : tE tx n p ≤ n := tE_le hp
  have b4 := mT_b tx n p
  refine r_aload_n (pc' := 1) dX7_number_0 rfl rfl ?_
  refine r_aload_n (pc' := 2) dX7_number_1 rfl rfl ?_
  refine r_get (pc' := 5) fX7_83 dX7_number_2 rfl hX rfl ?_
  refine r_iconst (pc' := 6) (v := nI 2) dX7_number_5 rfl rfl ?_
  refine r_icmp_ne (pc' := 9) (P := mT tx n p = 2) (tgt := 25) dX7_number_6 (by decide) rfl (nI_eq (a := mT tx n p) (b := 2) (by omega) (by omega)) (fun h6 => ?_) (fun h6 => ?_)
  · skip
    refine r_iconst (pc' := 26) (v := bI false) dX7_number_25 rfl rfl ?_
    refine r_callV (pc' := 29) (av := [.int (bI false)]) (rest := []) kX7_takes vX7_takes lX7_99 dX7_number_26 rfl hX rfl rfl rfl ⟨by decide, by decide, by decide⟩ rfl rfl (Nat.le_of_ble_eq_true rfl) (ct_takes_f hX hx rt hn hp ?_)
    show Wp g yX7_number cX7_number 3 (some .int) 4 0 0 (px_MQ g Q 0 0) 0 0 29 [some (.ref 60), some (.int (nI lo)), some (.int hi)] [.int (nI 0)] (w.set 60 (.inr (6, [.int (nI 0), .long tr, .ref 61, .int (nI n), .int (nI (tE tx n p)), .int (nI (mT tx n p)), .int (nI (tS tx n p)), .int (mV tx n p va), .int (nI (tS tx n p)), .ref 62, .ref 63, .ref 64, .ref 65, .ref 66, .ref 67, .ref 68, .ref 69, .ref 70, .ref 71, .ref 72, .ref 73, .ref 74, .int um, .ref 75])))
    refine r_ireturn dX7_number_29 rfl ?_
    exact hQ
  · skip
    refine r_aload_n (pc' := 10) dX7_number_9 rfl rfl ?_
    refine r_get (pc' := 13) fX7_86 dX7_number_10 rfl hX rfl ?_
    refine r_iload_n (pc' := 14) dX7_number_13 rfl rfl ?_
    refine r_iload_n (pc' := 15) dX7_number_14 rfl rfl ?_
    obtain ⟨v1, v2, v3⟩ := tV_m h6 va
    refine r_callS (pc' := 18) (av := [.int (mV tx n p va), .int (nI lo), .int hi]) (rest := [.ref 60]) kX7_in vX7_in lX7_66 dX7_number_15 rfl rfl rfl ⟨by decide, by decide, by decide⟩ rfl rfl (Nat.le_of_ble_eq_true rfl) (ct_in_e (px_in3 v2 (in_hi (by omega) hlo hh)) ?_)
    show Wp g yX7_number cX7_number 3 (some .int) 4 0 0 (px_MQ g Q 0 0) 0 0 18 [some (.ref 60), some (.int (nI lo)), some (.int hi)] [.int (bI ((decide (lo ≤ tV tx n p) && decide (tV tx n p < hi1)))), .ref 60] w
    refine r_if_eq (pc' := 21) (P := ((decide (lo ≤ tV tx n p) && decide (tV tx n p < hi1))) = false) (tgt := 25) dX7_number_18 (by decide) rfl (bI_0) (fun h18 => ?_) (fun h18 => ?_)
    · skip
      refine r_iconst (pc' := 26) (v := bI false) dX7_number_25 rfl rfl ?_
      refine r_callV (pc' := 29) (av := [.int (bI false)]) (rest := []) kX7_takes vX7_takes lX7_99 dX7_number_26 rfl hX rfl rfl rfl ⟨by decide, by decide, by decide⟩ rfl rfl (Nat.le_of_ble_eq_true rfl) (ct_takes_f hX hx rt hn hp ?_)
      show Wp g yX7_number cX7_number 3 (some .int) 4 0 0 (px_MQ g Q 0 0) 0 0 29 [some (.ref 60), some (.int (nI lo)), some (.int hi)] [.int (nI 0)] (w.set 60 (.inr (6, [.int (nI 0), .long tr, .ref 61, .int (nI n), .int (nI (tE tx n p)), .int (nI (mT tx n p)), .int (nI (tS tx n p)), .int (mV tx n p va), .int (nI (tS tx n p)), .ref 62, .ref 63, .ref 64, .ref 65, .ref 66, .ref 67, .ref 68, .ref 69, .ref 70, .ref 71, .ref 72, .ref 73, .ref 74, .int um, .ref 75])))
      refine r_ireturn dX7_number_29 rfl ?_
      exact hQ
    · skip
      refine r_iconst (pc' := 22) (v := bI true) dX7_number_21 rfl rfl ?_
      refine r_goto (tgt := 26) dX7_number_22 (by decide) ?_
      exfalso; rw [okN_i v1 (by simp at h18; omega) (by simp at h18; omega)] at ho; cases ho
set_option maxHeartbeats 200000 in
theorem ct_num_y {g : px_G} {w : px_W} {Q : px_Q} {tr : Int64} {va um : Int32} {n p : Nat} {tx : Nat → Nat} {fs : Nat → Int32} (hX : w[60]? = some (mop tr tx n p va (-1) um)) (hx : w[61]? = some (.inl (0, 150, .inl fs))) (rt : ∀ j, j < n → fs j = nI (tx j) ∧ tx j < 256) (hn : n ≤ 150) (hp : p ≤ n) {lo hi1 : Nat} {hi : Int32} (hlo : lo < 2 ^ 20) (hh : hiOK hi hi1) (hh1 : hi1 ≤ 100) (ho : okN tx n p lo hi1 = true) (hQ : Q (some (.int (nI (tV tx n p)))) (w.set 60 (mop tr tx n (tE tx n p) (mV tx n p va) (-1) um))) : Ct g yX7_number cX7_number 3 (some .int) 4 0 0 [.ref 60, .int (nI lo), .int hi] w Q := by
  refine Ct.of kX7_number (by omega) (lo := [some (.ref 60), some (.int (nI lo)), some (.int hi)]) rfl (px_cat1 rfl) (Nat.le_of_ble_eq_true rfl) ?_
  have b1 := tS_le (tx := tx) hp
  have b2 := tE_ge tx n p
  have b3 : tE tx n p ≤ n := tE_le hp
  have b4 := mT_b tx n p
  refine r_aload_n (pc' := 1) dX7_number_0 rfl rfl ?_
  refine r_aload_n (pc' := 2) dX7_number_1 rfl rfl ?_
  refine r_get (pc' := 5) fX7_83 dX7_number_2 rfl hX rfl ?_
  refine r_iconst (pc' := 6) (v := nI 2) dX7_number_5 rfl rfl ?_
  refine r_icmp_ne (pc' := 9) (P := mT tx n p = 2) (tgt := 25) dX7_number_6 (by decide) rfl (nI_eq (a := mT tx n p) (b := 2) (by omega) (by omega)) (fun h6 => ?_) (fun h6 => ?_)
  · skip
    refine r_iconst (pc' := 26) (v := bI false) dX7_number_25 rfl rfl ?_
    exfalso; have o1 := okN_e ho; first | exact h6 (okN_m ho hh1) | (simp at h18; omega)
  · skip
    refine r_aload_n (pc' := 10) dX7_number_9 rfl rfl ?_
    refine r_get (pc' := 13) fX7_86 dX7_number_10 rfl hX rfl ?_
    refine r_iload_n (pc' := 14) dX7_number_13 rfl rfl ?_
    refine r_iload_n (pc' := 15) dX7_number_14 rfl rfl ?_
    obtain ⟨v1, v2, v3⟩ := tV_m h6 va
    refine r_callS (pc' := 18) (av := [.int (mV tx n p va), .int (nI lo), .int hi]) (rest := [.ref 60]) kX7_in vX7_in lX7_66 dX7_number_15 rfl rfl rfl ⟨by decide, by decide, by decide⟩ rfl rfl (Nat.le_of_ble_eq_true rfl) (ct_in_e (px_in3 v2 (in_hi (by omega) hlo hh)) ?_)
    show Wp g yX7_number cX7_number 3 (some .int) 4 0 0 (px_MQ g Q 0 0) 0 0 18 [some (.ref 60), some (.int (nI lo)), some (.int hi)] [.int (bI ((decide (lo ≤ tV tx n p) && decide (tV tx n p < hi1)))), .ref 60] w
    refine r_if_eq (pc' := 21) (P := ((decide (lo ≤ tV tx n p) && decide (tV tx n p < hi1))) = false) (tgt := 25) dX7_number_18 (by decide) rfl (bI_0) (fun h18 => ?_) (fun h18 => ?_)
    · skip
      refine r_iconst (pc' := 26) (v := bI false) dX7_number_25 rfl rfl ?_
      exfalso; have o1 := okN_e ho; first | exact h6 (okN_m ho hh1) | (simp at h18; omega)
    · skip
      refine r_iconst (pc' := 22) (v := bI true) dX7_number_21 rfl rfl ?_
      refine r_goto (tgt := 26) dX7_number_22 (by decide) ?_
      refine r_callV (pc' := 29) (av := [.int (bI true)]) (rest := []) kX7_takes vX7_takes lX7_99 dX7_number_26 rfl hX rfl rfl rfl ⟨by decide, by decide, by decide⟩ rfl rfl (Nat.le_of_ble_eq_true rfl) (ct_takes_t hX hx rt hn hp ?_)
      show Wp g yX7_number cX7_number 3 (some .int) 4 0 0 (px_MQ g Q 0 0) 0 0 29 [some (.ref 60), some (.int (nI lo)), some (.int hi)] [.int (mV tx n p va)] (w.set 60 (.inr (6, [.int (nI 0), .long tr, .ref 61, .int (nI n), .int (nI (tE tx n (tE tx n p))), .int (nI (mT tx n (tE tx n p))), .int (nI (tS tx n (tE tx n p))), .int (mV tx n (tE tx n p) (mV tx n p va)), .int ((-1)), .ref 62, .ref 63, .ref 64, .ref 65, .ref 66, .ref 67, .ref 68, .ref 69, .ref 70, .ref 71, .ref 72, .ref 73, .ref 74, .int um, .ref 75])))
      refine r_ireturn dX7_number_29 rfl ?_
      rw [v2]; rw [v2] at hQ; exact hQ
