set_option maxHeartbeats 200000 in
theorem ct_X4_store {g : px_G} {w : px_W} {Q : px_Q} {k n : Nat} {Ms : Nat → px_N} (hS : ShA w k n Ms) (hn : n < 2 ^ 20) {i : Nat} (hi : i < n) {k2 : Nat} {M : px_N} (hM : MorA w k2 M) (hk : k2 + 3 ≤ k ∨ k + 2 + 3 * n ≤ k2) (hQ : ∀ w', ShA w' k n (fun j => if j = i then M else Ms j) → Frm w w' k (k + 2 + 3 * n) → Q none w') : Ct g yX4_store cX4_store 3 none 3 0 0 [.ref k, .int (nI i), .ref k2] w Q := by
  refine Ct.of kX4_store (by omega) (lo := [some (.ref k), some (.int (nI i)), some (.ref k2)]) rfl (px_cat1 rfl) (Nat.le_of_ble_eq_true rfl) ?_
  obtain ⟨z0, ⟨gq, z1, hg⟩, z3⟩ := id hS
  refine r_iload_n (pc' := 1) dX4_store_0 rfl rfl ?_
  refine r_if_lt (pc' := 4) (P := False) (tgt := 32) dX4_store_1 (by decide) rfl (nI_lt0 (n := i) (by omega)) (fun h1 => ?_) (fun h1 => ?_)
  · skip
    exfalso; exact h1
  · skip
    refine r_iload_n (pc' := 5) dX4_store_4 rfl rfl ?_
    refine r_aload_n (pc' := 6) dX4_store_5 rfl rfl ?_
    refine r_get (pc' := 9) fX4_15 dX4_store_6 rfl z0 rfl ?_
    refine r_alen (pc' := 10) (v := nI n) dX4_store_9 rfl z1 (by decide) rfl ?_
    refine r_icmp_ge (pc' := 13) (P := n ≤ i) (tgt := 32) dX4_store_10 (by decide) rfl (nI_leI (a := n) (b := i) (by omega) (by omega)) (fun h10 => ?_) (fun h10 => ?_)
    · skip
      exfalso; omega
    · skip
      refine r_aload_n (pc' := 14) dX4_store_13 rfl rfl ?_
      refine r_get (pc' := 17) fX4_15 dX4_store_14 rfl z0 rfl ?_
      refine r_iload_n (pc' := 18) dX4_store_17 rfl rfl ?_
      refine r_aaload (pc' := 19) dX4_store_18 rfl z1 (vp_in_nI (n := i) (by omega) (by omega)) (by rw [nI_cl (by omega)]; exact hg i hi) ?_
      refine r_ifnull (pc' := 22) dX4_store_19 rfl ?_
      refine r_aload_n (pc' := 23) dX4_store_22 rfl rfl ?_
      refine r_get (pc' := 26) fX4_15 dX4_store_23 rfl z0 rfl ?_
      refine r_iload_n (pc' := 27) dX4_store_26 rfl rfl ?_
      refine r_aaload (pc' := 28) dX4_store_27 rfl z1 (vp_in_nI (n := i) (by omega) (by omega)) (by rw [nI_cl (by omega)]; exact hg i hi) ?_
      refine r_aload_n (pc' := 29) dX4_store_28 rfl rfl ?_
      refine r_callV (pc' := 32) (av := [.ref k2]) (rest := []) kX0_become vX0_become lX4_22 dX4_store_29 rfl ((z3 i hi).o) rfl rfl rfl ⟨by decide, by decide, by decide⟩ rfl rfl (Nat.le_of_ble_eq_true rfl) (ct_X0_become ((z3 i hi)) hM (by omega) (fun w29 hM29 hF29 => ?_))
      show Wp g yX4_store cX4_store 3 none 3 0 0 (px_MQ g Q 0 0) 0 0 32 [some (.ref k), some (.int (nI i)), some (.ref k2)] [] w29
      refine r_return dX4_store_32 rfl ?_
      exact hQ _ (hS.put hi hM29 hF29) (hF29.mono (by omega) (by omega))
set_option maxHeartbeats 200000 in
theorem ct_X4_fetch {g : px_G} {w : px_W} {Q : px_Q} {k n : Nat} {Ms : Nat → px_N} (hS : ShA w k n Ms) (hn : n < 2 ^ 20) {i : Nat} (hi : i < n) {k2 : Nat} {M : px_N} (hM : MorA w k2 M) (hk : k2 + 3 ≤ k ∨ k + 2 + 3 * n ≤ k2) (hQ : ∀ w', MorA w' k2 (Ms i) → Frm w w' k2 (k2 + 3) → Q none w') : Ct g yX4_fetch cX4_fetch 3 none 3 0 0 [.ref k, .int (nI i), .ref k2] w Q := by
  refine Ct.of kX4_fetch (by omega) (lo := [some (.ref k), some (.int (nI i)), some (.ref k2)]) rfl (px_cat1 rfl) (Nat.le_of_ble_eq_true rfl) ?_
  obtain ⟨z0, ⟨gq, z1, hg⟩, z3⟩ := id hS
  refine r_iload_n (pc' := 1) dX4_fetch_0 rfl rfl ?_
  refine r_if_lt (pc' := 4) (P := False) (tgt := 27) dX4_fetch_1 (by decide) rfl (nI_lt0 (n := i) (by omega)) (fun h1 => ?_) (fun h1 => ?_)
  · skip
    exfalso; exact h1
  · skip
    refine r_iload_n (pc' := 5) dX4_fetch_4 rfl rfl ?_
    refine r_aload_n (pc' := 6) dX4_fetch_5 rfl rfl ?_
    refine r_get (pc' := 9) fX4_15 dX4_fetch_6 rfl z0 rfl ?_
    refine r_alen (pc' := 10) (v := nI n) dX4_fetch_9 rfl z1 (by decide) rfl ?_
    refine r_icmp_ge (pc' := 13) (P := n ≤ i) (tgt := 27) dX4_fetch_10 (by decide) rfl (nI_leI (a := n) (b := i) (by omega) (by omega)) (fun h10 => ?_) (fun h10 => ?_)
    · skip
      exfalso; omega
    · skip
      refine r_aload_n (pc' := 14) dX4_fetch_13 rfl rfl ?_
      refine r_ifnull (pc' := 17) dX4_fetch_14 rfl ?_
      refine r_aload_n (pc' := 18) dX4_fetch_17 rfl rfl ?_
      refine r_aload_n (pc' := 19) dX4_fetch_18 rfl rfl ?_
      refine r_get (pc' := 22) fX4_15 dX4_fetch_19 rfl z0 rfl ?_
      refine r_iload_n (pc' := 23) dX4_fetch_22 rfl rfl ?_
      refine r_aaload (pc' := 24) dX4_fetch_23 rfl z1 (vp_in_nI (n := i) (by omega) (by omega)) (by rw [nI_cl (by omega)]; exact hg i hi) ?_
      refine r_callV (pc' := 27) (av := [.ref (k + 2 + 3 * i)]) (rest := []) kX0_become vX0_become lX4_22 dX4_fetch_24 rfl hM.o rfl rfl rfl ⟨by decide, by decide, by decide⟩ rfl rfl (Nat.le_of_ble_eq_true rfl) (ct_X0_become hM ((z3 i hi)) (by omega) (fun w24 hM24 hF24 => ?_))
      show Wp g yX4_fetch cX4_fetch 3 none 3 0 0 (px_MQ g Q 0 0) 0 0 27 [some (.ref k), some (.int (nI i)), some (.ref k2)] [] w24
      refine r_return dX4_fetch_27 rfl ?_
      exact hQ _ hM24 hF24
theorem PastA.forget {w : px_W} {U : List px_N} (h : PastA w U) {f : Nat} (hf : w[18]? = some (.inr (1, [.ref 19, .int (nI f), .int (nI U.length)]))) (hf2 : f < 10) : PastA (w.set 18 (.inr (1, [.ref 19, .int (nI f), .int (nI 0)]))) [] := by
  obtain ⟨f', Ms, h1, h2, h3, h4, h5⟩ := h
  exact ⟨f, Ms, hf2, Nat.zero_le _, gs_eq h3, h4.fr (a := 18) (b := 19) (Frm.set (by omega) (by omega)) (by omega), fun i M h => by simp at h⟩
theorem PastA.rem {w w1 w2 : px_W} {U : List px_N} {N : px_N} {f : Nat} {Ms : Nat → px_N} (hf : f < 10) (hU : U.length ≤ 10) (h5 : ∀ (i : Nat) (M : px_N), U[i]? = some M → Ms ((f + 9 - i) % 10) = M) (hS : ShA w1 19 10 (fun j => if j = f then N else Ms j)) {f' : Nat} (hf' : f' = (f + 1) % 10) (h18 : w2[18]? = some (.inr (1, [.ref 19, .int (nI f'), .int (nI (min (U.length + 1) 10))]))) (hF : Frm w1 w2 18 19) : PastA w2 ((N :: U).take 10) := by
  refine ⟨f', _, by omega, by rw [List.length_take]; omega, ?_, hS.fr hF (by omega), fun i M h => ?_⟩
  · rw [List.length_take, List.length_cons, Nat.min_comm]; exact h18
  · have hi : i < 10 := by
      have := (List.getElem?_eq_some_iff.mp h).1
      rw [List.length_take] at this; omega
    rw [List.getElem?_take_of_lt hi] at h
    cases i with
    | zero =>
      have : N = M := by simpa using h
      subst this
      rw [if_pos (by omega)]
    | succ i =>
      have h2 : U[i]? = some M := by simpa using h
      rw [if_neg (by omega), ← h5 i M h2]
      congr 1
      omega
theorem PastA.und {w1 w2 : px_W} {N : px_N} {U : List px_N} {f : Nat} {Ms : Nat → px_N} (hf : f < 10) (hU : (N :: U).length ≤ 10) (h5 : ∀ (i : Nat) (M : px_N), (N :: U)[i]? = some M → Ms ((f + 9 - i) % 10) = M) (hS : ShA w1 19 10 Ms) {f' : Nat} (hf' : f' = (f + 9) % 10) (h18 : w2[18]? = some (.inr (1, [.ref 19, .int (nI f'), .int (nI U.length)]))) (hF : Frm w1 w2 18 19) : PastA w2 U ∧ Ms f' = N := by
  refine ⟨⟨f', _, by omega, by simp at hU; omega, h18, hS.fr hF (by omega), fun i M h => ?_⟩, ?_⟩
  · have hi : i < 9 := by
      have := (List.getElem?_eq_some_iff.mp h).1
      simp at hU; omega
    rw [← h5 (i + 1) M (by simpa using h)]
    congr 1
    omega
  · rw [← h5 0 N rfl, hf']; congr 1
set_option maxHeartbeats 200000 in
theorem ct_X1_forget {g : px_G} {w : px_W} {Q : px_Q} {U : List px_N} (hU : PastA w U) (hQ : ∀ w', PastA w' [] → Frm w w' 18 51 → Q none w') : Ct g yX1_forget cX1_forget 1 none 1 0 0 [.ref 18] w Q := by
  refine Ct.of kX1_forget (by omega) (lo := [some (.ref 18)]) rfl (px_cat1 rfl) (Nat.le_of_ble_eq_true rfl) ?_
  obtain ⟨f, Ms, p1, p2, p3, p4, p5⟩ := id hU
  refine r_aload_n (pc' := 1) dX1_forget_0 rfl rfl ?_
  refine r_iconst (pc' := 2) (v := nI 0) dX1_forget_1 rfl rfl ?_
  refine r_put (pc' := 5) (ty := .int) (c' := .inr (1, [.ref 19, .int (nI f), .int (nI 0)])) fX1_20 dX1_forget_2 rfl p3 (Nat.le_of_ble_eq_true rfl) rfl (by decide +kernel) rfl rfl rfl ?_
  refine r_return dX1_forget_5 rfl ?_
  exact hQ _ (hU.forget p3 p1) (Frm.set (by omega) (by omega))
set_option maxHeartbeats 200000 in
theorem ct_X1_remember {g : px_G} {w : px_W} {Q : px_Q} {U : List px_N} {N : px_N} (hU : PastA w U) (hM : MorA w 15 N) (hQ : ∀ w', PastA w' ((N :: U).take 10) → Frm w w' 18 51 → Q none w') : Ct g yX1_remember cX1_remember 2 none 4 0 0 [.ref 18, .ref 15] w Q := by
  refine Ct.of kX1_remember (by omega) (lo := [some (.ref 18), some (.ref 15)]) rfl (px_cat1 rfl) (Nat.le_of_ble_eq_true rfl) ?_
  obtain ⟨f, Ms, p1, p2, p3, p4, p5⟩ := id hU
  refine r_aload_n (pc' := 1) dX1_remember_0 rfl rfl ?_
  refine r_get (pc' := 4) fX1_14 dX1_remember_1 rfl p3 rfl ?_
  refine r_aload_n (pc' := 5) dX1_remember_4 rfl rfl ?_
  refine r_get (pc' := 8) fX1_24 dX1_remember_5 rfl p3 rfl ?_
  refine r_aload_n (pc' := 9) dX1_remember_8 rfl rfl ?_
  refine r_callV (pc' := 12) (av := [.int (nI f), .ref 15]) (rest := []) kX4_store vX4_store lX1_27 dX1_remember_9 rfl p4.1 rfl rfl rfl ⟨by decide, by decide, by decide⟩ rfl rfl (Nat.le_of_ble_eq_true rfl) (ct_X4_store p4 (by decide) p1 hM (by omega) (fun w1 hS1 hF1 => ?_))
  have hM_w1 := hM.fr hF1 (by omega)
  show Wp g yX1_remember cX1_remember 2 none 4 0 0 (px_MQ g Q 0 0) 0 0 12 [some (.ref 18), some (.ref 15)] [] w1
  refine r_aload_n (pc' := 13) dX1_remember_12 rfl rfl ?_
  refine r_aload_n (pc' := 14) dX1_remember_13 rfl rfl ?_
  refine r_get (pc' := 17) fX1_24 dX1_remember_14 rfl (hF1.at p3 (by omega)) rfl ?_
  refine r_iconst (pc' := 18) (v := nI 1) dX1_remember_17 rfl rfl ?_
  refine r_iadd (pc' := 19) (v := nI (f + 1)) dX1_remember_18 rfl (nI_add f 1) ?_
  refine r_bipush (pc' := 21) (v := nI 10) dX1_remember_19 rfl rfl ?_
  refine r_icmp_ge (pc' := 24) (P := 10 ≤ f + 1) (tgt := 33) dX1_remember_21 (by decide) rfl (nI_leI (a := 10) (b := f + 1) (by omega) (by omega)) (fun h21 => ?_) (fun h21 => ?_)
  · skip
    refine r_iconst (pc' := 34) (v := nI 0) dX1_remember_33 rfl rfl ?_
    refine r_put (pc' := 37) (ty := .int) (c' := .inr (1, [.ref 19, .int (nI 0), .int (nI U.length)])) fX1_24 dX1_remember_34 rfl (hF1.at p3 (by omega)) (Nat.le_of_ble_eq_true rfl) rfl (by decide +kernel) rfl rfl rfl ?_
    refine r_aload_n (pc' := 38) dX1_remember_37 rfl rfl ?_
    refine r_aload_n (pc' := 39) dX1_remember_38 rfl rfl ?_
    refine r_get (pc' := 42) fX1_20 dX1_remember_39 rfl (gs_eq (hF1.at p3 (by omega))) rfl ?_
    refine r_iconst (pc' := 43) (v := nI 1) dX1_remember_42 rfl rfl ?_
    refine r_iadd (pc' := 44) (v := nI (U.length + 1)) dX1_remember_43 rfl (nI_add U.length 1) ?_
    refine r_bipush (pc' := 46) (v := nI 10) dX1_remember_44 rfl rfl ?_
    refine r_mmin (pc' := 49) (v := nI (min (U.length + 1) 10)) lX1_31 mS_min mI mC_min dX1_remember_46 rfl (by rw [Nat.min_def]; by_cases h : U.length + 1 ≤ 10 <;> simp [nI_ltI (a := 10) (b := U.length + 1) (by omega) (by omega), h] <;> omega) ⟨by decide, by decide⟩ (Nat.le_of_ble_eq_true rfl) ?_
    refine r_put (pc' := 52) (ty := .int) (c' := .inr (1, [.ref 19, .int (nI 0), .int (nI (min (U.length + 1) 10))])) fX1_20 dX1_remember_49 rfl (gs_eq (hF1.at p3 (by omega))) (Nat.le_of_ble_eq_true rfl) rfl (by decide +kernel) rfl rfl rfl ?_
    refine r_return dX1_remember_52 rfl ?_
    exact hQ _ (PastA.rem (w := w) p1 p2 p5 hS1 (f' := 0) (by omega) (gs_eq (gs_eq (hF1.at p3 (by omega)))) ((Frm.set (by omega) (by omega)).sets (by omega) (by omega))) (((hF1.mono (by omega) (by omega)).sets (by omega) (by omega)).sets (by omega) (by omega))
  · skip
    refine r_aload_n (pc' := 25) dX1_remember_24 rfl rfl ?_
    refine r_get (pc' := 28) fX1_24 dX1_remember_25 rfl (hF1.at p3 (by omega)) rfl ?_
    refine r_iconst (pc' := 29) (v := nI 1) dX1_remember_28 rfl rfl ?_
    refine r_iadd (pc' := 30) (v := nI (f + 1)) dX1_remember_29 rfl (nI_add f 1) ?_
    refine r_goto (tgt := 34) dX1_remember_30 (by decide) ?_
    refine r_put (pc' := 37) (ty := .int) (c' := .inr (1, [.ref 19, .int (nI (f + 1)), .int (nI U.length)])) fX1_24 dX1_remember_34 rfl (hF1.at p3 (by omega)) (Nat.le_of_ble_eq_true rfl) rfl (by decide +kernel) rfl rfl rfl ?_
    refine r_aload_n (pc' := 38) dX1_remember_37 rfl rfl ?_
    refine r_aload_n (pc' := 39) dX1_remember_38 rfl rfl ?_
    refine r_get (pc' := 42) fX1_20 dX1_remember_39 rfl (gs_eq (hF1.at p3 (by omega))) rfl ?_
    refine r_iconst (pc' := 43) (v := nI 1) dX1_remember_42 rfl rfl ?_
    refine r_iadd (pc' := 44) (v := nI (U.length + 1)) dX1_remember_43 rfl (nI_add U.length 1) ?_
    refine r_bipush (pc' := 46) (v := nI 10) dX1_remember_44 rfl rfl ?_
    refine r_mmin (pc' := 49) (v := nI (min (U.length + 1) 10)) lX1_31 mS_min mI mC_min dX1_remember_46 rfl (by rw [Nat.min_def]; by_cases h : U.length + 1 ≤ 10 <;> simp [nI_ltI (a := 10) (b := U.length + 1) (by omega) (by omega), h] <;> omega) ⟨by decide, by decide⟩ (Nat.le_of_ble_eq_true rfl) ?_
    refine r_put (pc' := 52) (ty := .int) (c' := .inr (1, [.ref 19, .int (nI (f + 1)), .int (nI (min (U.length + 1) 10))])) fX1_20 dX1_remember_49 rfl (gs_eq (hF1.at p3 (by omega))) (Nat.le_of_ble_eq_true rfl) rfl (by decide +kernel) rfl rfl rfl ?_
    refine r_return dX1_remember_52 rfl ?_
    exact hQ _ (PastA.rem (w := w) p1 p2 p5 hS1 (f' := f + 1) (by omega) (gs_eq (gs_eq (hF1.at p3 (by omega)))) ((Frm.set (by omega) (by omega)).sets (by omega) (by omega))) (((hF1.mono (by omega) (by omega)).sets (by omega) (by omega)).sets (by omega) (by omega))
-- undoInto
set_option maxHeartbeats 200000 in
theorem ct_X1_undoInto {g : px_G} {w : px_W} {Q : px_Q} {U : List px_N} {N N0 : px_N} (hU : PastA w (N :: U)) (hM : MorA w 15 N0) (hQ : ∀ w', PastA w' U → MorA w' 15 N → Frm w w' 15 51 → Q none w') : Ct g yX1_undoInto cX1_undoInto 2 none 4 0 0 [.ref 18, .ref 15] w Q := by
  refine Ct.of kX1_undoInto (by omega) (lo := [some (.ref 18), some (.ref 15)]) rfl (px_cat1 rfl) (Nat.le_of_ble_eq_true rfl) ?_
  obtain ⟨f, Ms, p1, p2, p3, p4, p5⟩ := id hU
  have p6 : U.length + 1 ≤ 10 := p2
  refine r_aload_n (pc' := 1) dX1_undoInto_0 rfl rfl ?_
  refine r_get (pc' := 4) fX1_20 dX1_undoInto_1 rfl p3 rfl ?_
  refine r_if_le (pc' := 7) (P := U.length + 1 = 0) (tgt := 51) dX1_undoInto_4 (by decide) rfl (nI_le0 (n := U.length + 1) (by omega)) (fun h4 => ?_) (fun h4 => ?_)
  · skip
    exfalso; omega
  · skip
    refine r_aload_n (pc' := 8) dX1_undoInto_7 rfl rfl ?_
    refine r_aload_n (pc' := 9) dX1_undoInto_8 rfl rfl ?_
    refine r_get (pc' := 12) fX1_24 dX1_undoInto_9 rfl p3 rfl ?_
    refine r_if_le (pc' := 15) (P := f = 0) (tgt := 24) dX1_undoInto_12 (by decide) rfl (nI_le0 (n := f) (by omega)) (fun h12 => ?_) (fun h12 => ?_)
    · skip
      refine r_bipush (pc' := 26) (v := nI 9) dX1_undoInto_24 rfl rfl ?_
      refine r_put (pc' := 29) (ty := .int) (c' := .inr (1, [.ref 19, .int (nI 9), .int (nI (U.length + 1))])) fX1_24 dX1_undoInto_26 rfl p3 (Nat.le_of_ble_eq_true rfl) rfl (by decide +kernel) rfl rfl rfl ?_
      refine r_aload_n (pc' := 30) dX1_undoInto_29 rfl rfl ?_
      refine r_get (pc' := 33) fX1_14 dX1_undoInto_30 rfl (gs_eq p3) rfl ?_
      refine r_aload_n (pc' := 34) dX1_undoInto_33 rfl rfl ?_
      refine r_get (pc' := 37) fX1_24 dX1_undoInto_34 rfl (gs_eq p3) rfl ?_
      refine r_aload_n (pc' := 38) dX1_undoInto_37 rfl rfl ?_
      refine r_callV (pc' := 41) (av := [.int (nI 9), .ref 15]) (rest := []) kX4_fetch vX4_fetch lX1_37 dX1_undoInto_38 rfl (gs_ne p4.1 (by decide)) rfl rfl rfl ⟨by decide, by decide, by decide⟩ rfl rfl (Nat.le_of_ble_eq_true rfl) (ct_X4_fetch (i := 9) (p4.fr (a := 18) (b := 19) (Frm.set (by omega) (by omega)) (by omega)) (by decide) (by omega) (hM.fr (a := 18) (b := 19) (Frm.set (by omega) (by omega)) (by omega)) (by omega) (fun w1 hM1 hF1 => ?_))
      show Wp g yX1_undoInto cX1_undoInto 2 none 4 0 0 (px_MQ g Q 0 0) 0 0 41 [some (.ref 18), some (.ref 15)] [] w1
      refine r_aload_n (pc' := 42) dX1_undoInto_41 rfl rfl ?_
      refine r_dup (pc' := 43) dX1_undoInto_42 rfl rfl ?_
      refine r_get (pc' := 46) fX1_20 dX1_undoInto_43 rfl (hF1.at (gs_eq p3) (by omega)) rfl ?_
      refine r_iconst (pc' := 47) (v := nI 1) dX1_undoInto_46 rfl rfl ?_
      refine r_isub (pc' := 48) (v := nI U.length) dX1_undoInto_47 rfl (pk_sub (a := U.length + 1) (b := 1) (by omega)) ?_
      refine r_put (pc' := 51) (ty := .int) (c' := .inr (1, [.ref 19, .int (nI 9), .int (nI U.length)])) fX1_20 dX1_undoInto_48 rfl (hF1.at (gs_eq p3) (by omega)) (Nat.le_of_ble_eq_true rfl) rfl (by decide +kernel) rfl rfl rfl ?_
      refine r_return dX1_undoInto_51 rfl ?_
      obtain ⟨hP, hN⟩ := PastA.und (w1 := w1) (U := U) (N := N) (f' := 9) p1 p2 p5 ((p4.fr (a := 18) (b := 19) (Frm.set (by omega) (by omega)) (by omega)).fr hF1 (by omega)) (by omega) (gs_eq (hF1.at (gs_eq p3) (by omega))) (Frm.set (k := 18) (by omega) (by omega))
      rw [hN] at hM1
      exact hQ _ hP (hM1.fr (a := 18) (b := 19) (Frm.set (by omega) (by omega)) (by omega)) (((Frm.set (k := 18) (by omega) (by omega)).tr hF1 (a := 15) (b := 51) (a1 := 18) (b1 := 19) (by omega) (by omega) (by omega) (by omega)).sets (by omega) (by omega))
    · skip
      refine r_aload_n (pc' := 16) dX1_undoInto_15 rfl rfl ?_
      refine r_get (pc' := 19) fX1_24 dX1_undoInto_16 rfl p3 rfl ?_
      refine r_iconst (pc' := 20) (v := nI 1) dX1_undoInto_19 rfl rfl ?_
      refine r_isub (pc' := 21) (v := nI (f - 1)) dX1_undoInto_20 rfl (pk_sub (a := f) (b := 1) (by omega)) ?_
      refine r_goto (tgt := 26) dX1_undoInto_21 (by decide) ?_
      refine r_put (pc' := 29) (ty := .int) (c' := .inr (1, [.ref 19, .int (nI (f - 1)), .int (nI (U.length + 1))])) fX1_24 dX1_undoInto_26 rfl p3 (Nat.le_of_ble_eq_true rfl) rfl (by decide +kernel) rfl rfl rfl ?_
      refine r_aload_n (pc' := 30) dX1_undoInto_29 rfl rfl ?_
      refine r_get (pc' := 33) fX1_14 dX1_undoInto_30 rfl (gs_eq p3) rfl ?_
      refine r_aload_n (pc' := 34) dX1_undoInto_33 rfl rfl ?_
      refine r_get (pc' := 37) fX1_24 dX1_undoInto_34 rfl (gs_eq p3) rfl ?_
      refine r_aload_n (pc' := 38) dX1_undoInto_37 rfl rfl ?_
      refine r_callV (pc' := 41) (av := [.int (nI (f - 1)), .ref 15]) (rest := []) kX4_fetch vX4_fetch lX1_37 dX1_undoInto_38 rfl (gs_ne p4.1 (by decide)) rfl rfl rfl ⟨by decide, by decide, by decide⟩ rfl rfl (Nat.le_of_ble_eq_true rfl) (ct_X4_fetch (i := f - 1) (p4.fr (a := 18) (b := 19) (Frm.set (by omega) (by omega)) (by omega)) (by decide) (by omega) (hM.fr (a := 18) (b := 19) (Frm.set (by omega) (by omega)) (by omega)) (by omega) (fun w1 hM1 hF1 => ?_))
      show Wp g yX1_undoInto cX1_undoInto 2 none 4 0 0 (px_MQ g Q 0 0) 0 0 41 [some (.ref 18), some (.ref 15)] [] w1
      refine r_aload_n (pc' := 42) dX1_undoInto_41 rfl rfl ?_
      refine r_dup (pc' := 43) dX1_undoInto_42 rfl rfl ?_
      refine r_get (pc' := 46) fX1_20 dX1_undoInto_43 rfl (hF1.at (gs_eq p3) (by omega)) rfl ?_
      refine r_iconst (pc' := 47) (v := nI 1) dX1_undoInto_46 rfl rfl ?_
      refine r_isub (pc' := 48) (v := nI U.length) dX1_undoInto_47 rfl (pk_sub (a := U.length + 1) (b := 1) (by omega)) ?_
      refine r_put (pc' := 51) (ty := .int) (c' := .inr (1, [.ref 19, .int (nI (f - 1)), .int (nI U.length)])) fX1_20 dX1_undoInto_48 rfl (hF1.at (gs_eq p3) (by omega)) (Nat.le_of_ble_eq_true rfl) rfl (by decide +kernel) rfl rfl rfl ?_
      refine r_return dX1_undoInto_51 rfl ?_
      obtain ⟨hP, hN⟩ := PastA.und (w1 := w1) (U := U) (N := N) (f' := f - 1) p1 p2 p5 ((p4.fr (a := 18) (b := 19) (Frm.set (by omega) (by omega)) (by omega)).fr hF1 (by omega)) (by omega) (gs_eq (hF1.at (gs_eq p3) (by omega))) (Frm.set (k := 18) (by omega) (by omega))
      rw [hN] at hM1
      exact hQ _ hP (hM1.fr (a := 18) (b := 19) (Frm.set (by omega) (by omega)) (by omega)) (((Frm.set (k := 18) (by omega) (by omega)).tr hF1 (a := 15) (b := 51) (a1 := 18) (b1 := 19) (by omega) (by omega) (by omega) (by omega)).sets (by omega) (by omega))
