/-! the constructors -/
theorem ap_ne {w : px_W} {k : Nat} {c d : px_C} (h : w[k]? = some d) : (w ++ [c])[k]? = some d := by
  rw [List.getElem?_append_left (List.getElem?_eq_some_iff.mp h).1]; exact h
theorem ap_eq {w : px_W} {k : Nat} {c : px_C} (h : w.length = k) : (w ++ [c])[k]? = some c := by
  subst h; simp
theorem Frm.ap {w w1 : px_W} {a b : Nat} {c : px_C} (h : Frm w w1 a b) (h1 : a ≤ w1.length) (h2 : w1.length < b) : Frm w (w1 ++ [c]) a b := fun j hj => by
  rw [← h j hj]
  by_cases q : j < w1.length
  · exact List.getElem?_append_left q
  · rw [List.getElem?_eq_none (by simp; omega), List.getElem?_eq_none (by omega)]
def nZero : px_N := (fun _ _ => 0, fun _ => 0, 0)
set_option maxHeartbeats 200000 in
theorem ct_X0_init {g : px_G} {w : px_W} {Q : px_Q} {k : Nat} (hln : w.length = k + 1) (hk9 : k ≤ 800) (h0 : w[k]? = some (.inr (0, [.null, .null, .int (nI 0)]))) (hQ : ∀ w', w'.length = k + 3 → MorA w' k nZero → Frm w w' k (k + 3) → Q none w') : Ct g yX0_init cX0_init 1 none 1 2 36 [.ref k] w Q := by
  refine Ct.of kX0_init (by omega) (lo := [some (.ref k)]) rfl (px_cat1 rfl) (Nat.le_of_ble_eq_true rfl) ?_
  refine r_aload_n (pc' := 1) dX0_init_0 rfl rfl ?_
  refine r_objInit (pc' := 4) lX0_3 oI oC dX0_init_1 rfl (Nat.le_of_ble_eq_true rfl) ?_
  refine r_aload_n (pc' := 5) dX0_init_4 rfl rfl ?_
  refine r_bipush (pc' := 7) (v := nI 32) dX0_init_5 rfl rfl ?_
  refine r_newarray (pc' := 9) (q := k + 1) (N := 32) (Or.inl ⟨rfl, rfl, rfl⟩) aC_int (nI_pos (by decide)) (nI_cl (by decide)) (by decide) (by simp [hln]; omega) dX0_init_7 rfl (by simp [hln]) rfl rfl (by decide) (by decide) ?_
  refine r_putF (pc' := 12) (ty := .array .int) (c' := .inr (0, [.ref (k + 1), .null, .int (nI 0)])) fX0_9 dX0_init_9 rfl (ap_ne h0) (Nat.le_of_ble_eq_true rfl) rfl rfl rfl (by decide +kernel) rfl rfl rfl ?_
  refine r_aload_n (pc' := 13) dX0_init_12 rfl rfl ?_
  refine r_iconst (pc' := 14) (v := nI 4) dX0_init_13 rfl rfl ?_
  refine r_newarray (pc' := 16) (q := k + 2) (N := 4) (Or.inl ⟨rfl, rfl, rfl⟩) aC_int (nI_pos (by decide)) (nI_cl (by decide)) (by decide) (by simp [hln]; omega) dX0_init_14 rfl (by simp [hln]) rfl rfl (by decide) (by decide) ?_
  refine r_putF (pc' := 19) (ty := .array .int) (c' := .inr (0, [.ref (k + 1), .ref (k + 2), .int (nI 0)])) fX0_15 dX0_init_16 rfl (ap_ne (gs_eq (ap_ne h0))) (Nat.le_of_ble_eq_true rfl) rfl rfl rfl (by decide +kernel) rfl rfl rfl ?_
  refine r_return dX0_init_19 rfl ?_
  refine hQ _ (by simp [hln]) ⟨_, _, gs_eq (ap_ne (gs_eq (ap_ne h0))), gs_ne (ap_ne (gs_ne (ap_eq (by simp [hln])) (by omega))) (by omega), gs_ne (ap_eq (by simp [hln])) (by omega), fun _ _ _ _ => rfl, fun _ _ => rfl, ⟨fun _ _ _ _ => Nat.zero_le _, fun _ _ => by show (0 : Nat) < 256; decide, by show (0 : Nat) ≤ 24; decide⟩⟩ (((((Frm.rf (a := k) (b := k + 3)).ap (by simp only [List.length_append, List.length_set, List.length_cons, List.length_nil, hln]; omega) (by simp only [List.length_append, List.length_set, List.length_cons, List.length_nil, hln]; omega)).sets (k := k) (by omega) (by omega)).ap (by simp only [List.length_append, List.length_set, List.length_cons, List.length_nil, hln]; omega) (by simp only [List.length_append, List.length_set, List.length_cons, List.length_nil, hln]; omega)).sets (k := k) (by omega) (by omega))
set_option maxHeartbeats 200000 in
theorem ct_X5_init {g : px_G} {w : px_W} {Q : px_Q} {k : Nat} (hln : w.length = k + 1) (hk9 : k ≤ 800) (h0 : w[k]? = some (.inr (4, [.int (nI 0), .int (nI 0), .int (nI 0), .null, .null, .null, .null, .null]))) (hQ : ∀ w', w'.length = k + 6 → SubA w' k T0 → Frm w w' k (k + 6) → Q none w') : Ct g yX5_init cX5_init 1 none 1 5 76 [.ref k] w Q := by
  refine Ct.of kX5_init (by omega) (lo := [some (.ref k)]) rfl (px_cat1 rfl) (Nat.le_of_ble_eq_true rfl) ?_
  refine r_aload_n (pc' := 1) dX5_init_0 rfl rfl ?_
  refine r_objInit (pc' := 4) lX5_3 oI oC dX5_init_1 rfl (Nat.le_of_ble_eq_true rfl) ?_
  refine r_aload_n (pc' := 5) dX5_init_4 rfl rfl ?_
  refine r_bipush (pc' := 7) (v := nI 36) dX5_init_5 rfl rfl ?_
  refine r_newarray (pc' := 9) (q := k + 1) (N := 36) (Or.inl ⟨rfl, rfl, rfl⟩) aC_int (nI_pos (by decide)) (nI_cl (by decide)) (by decide) (by simp [hln]; omega) dX5_init_7 rfl (by simp [hln]) rfl rfl (by decide) (by decide) ?_
  refine r_putF (pc' := 12) (ty := .array .int) (c' := .inr (4, [.int (nI 0), .int (nI 0), .int (nI 0), .ref (k + 1), .null, .null, .null, .null])) fX5_9 dX5_init_9 rfl (ap_ne h0) (Nat.le_of_ble_eq_true rfl) rfl rfl rfl (by decide +kernel) rfl rfl rfl ?_
  refine r_aload_n (pc' := 13) dX5_init_12 rfl rfl ?_
  refine r_bipush (pc' := 15) (v := nI 6) dX5_init_13 rfl rfl ?_
  refine r_newarray (pc' := 17) (q := k + 2) (N := 6) (Or.inl ⟨rfl, rfl, rfl⟩) aC_int (nI_pos (by decide)) (nI_cl (by decide)) (by decide) (by simp [hln]; omega) dX5_init_15 rfl (by simp [hln]) rfl rfl (by decide) (by decide) ?_
  refine r_putF (pc' := 20) (ty := .array .int) (c' := .inr (4, [.int (nI 0), .int (nI 0), .int (nI 0), .ref (k + 1), .ref (k + 2), .null, .null, .null])) fX5_15 dX5_init_17 rfl (ap_ne (gs_eq (ap_ne h0))) (Nat.le_of_ble_eq_true rfl) rfl rfl rfl (by decide +kernel) rfl rfl rfl ?_
  refine r_aload_n (pc' := 21) dX5_init_20 rfl rfl ?_
  refine r_bipush (pc' := 23) (v := nI 6) dX5_init_21 rfl rfl ?_
  refine r_newarray (pc' := 25) (q := k + 3) (N := 6) (Or.inl ⟨rfl, rfl, rfl⟩) aC_int (nI_pos (by decide)) (nI_cl (by decide)) (by decide) (by simp [hln]; omega) dX5_init_23 rfl (by simp [hln]) rfl rfl (by decide) (by decide) ?_
  refine r_putF (pc' := 28) (ty := .array .int) (c' := .inr (4, [.int (nI 0), .int (nI 0), .int (nI 0), .ref (k + 1), .ref (k + 2), .ref (k + 3), .null, .null])) fX5_18 dX5_init_25 rfl (ap_ne (gs_eq (ap_ne (gs_eq (ap_ne h0))))) (Nat.le_of_ble_eq_true rfl) rfl rfl rfl (by decide +kernel) rfl rfl rfl ?_
  refine r_aload_n (pc' := 29) dX5_init_28 rfl rfl ?_
  refine r_iconst (pc' := 30) (v := nI 4) dX5_init_29 rfl rfl ?_
  refine r_newarray (pc' := 32) (q := k + 4) (N := 4) (Or.inl ⟨rfl, rfl, rfl⟩) aC_int (nI_pos (by decide)) (nI_cl (by decide)) (by decide) (by simp [hln]; omega) dX5_init_30 rfl (by simp [hln]) rfl rfl (by decide) (by decide) ?_
  refine r_putF (pc' := 35) (ty := .array .int) (c' := .inr (4, [.int (nI 0), .int (nI 0), .int (nI 0), .ref (k + 1), .ref (k + 2), .ref (k + 3), .ref (k + 4), .null])) fX5_21 dX5_init_32 rfl (ap_ne (gs_eq (ap_ne (gs_eq (ap_ne (gs_eq (ap_ne h0))))))) (Nat.le_of_ble_eq_true rfl) rfl rfl rfl (by decide +kernel) rfl rfl rfl ?_
  refine r_aload_n (pc' := 36) dX5_init_35 rfl rfl ?_
  refine r_bipush (pc' := 38) (v := nI 24) dX5_init_36 rfl rfl ?_
  refine r_newarray (pc' := 40) (q := k + 5) (N := 24) (Or.inl ⟨rfl, rfl, rfl⟩) aC_int (nI_pos (by decide)) (nI_cl (by decide)) (by decide) (by simp [hln]; omega) dX5_init_38 rfl (by simp [hln]) rfl rfl (by decide) (by decide) ?_
  refine r_putF (pc' := 43) (ty := .array .int) (c' := .inr (4, [.int (nI 0), .int (nI 0), .int (nI 0), .ref (k + 1), .ref (k + 2), .ref (k + 3), .ref (k + 4), .ref (k + 5)])) fX5_24 dX5_init_40 rfl (ap_ne (gs_eq (ap_ne (gs_eq (ap_ne (gs_eq (ap_ne (gs_eq (ap_ne h0))))))))) (Nat.le_of_ble_eq_true rfl) rfl rfl rfl (by decide +kernel) rfl rfl rfl ?_
  refine r_return dX5_init_43 rfl ?_
  refine hQ _ (by simp [hln]) ⟨_, _, _, _, _, gs_eq (ap_ne (gs_eq (ap_ne (gs_eq (ap_ne (gs_eq (ap_ne (gs_eq (ap_ne h0))))))))), gs_ne (ap_ne (gs_ne (ap_ne (gs_ne (ap_ne (gs_ne (ap_ne (gs_ne (ap_eq (by simp [hln])) (by omega))) (by omega))) (by omega))) (by omega))) (by omega), gs_ne (ap_ne (gs_ne (ap_ne (gs_ne (ap_ne (gs_ne (ap_eq (by simp [hln])) (by omega))) (by omega))) (by omega))) (by omega), gs_ne (ap_ne (gs_ne (ap_ne (gs_ne (ap_eq (by simp [hln])) (by omega))) (by omega))) (by omega), gs_ne (ap_ne (gs_ne (ap_eq (by simp [hln])) (by omega))) (by omega), gs_ne (ap_eq (by simp [hln])) (by omega), fun i hi => absurd hi (Nat.not_lt_zero _), fun i x hi => absurd hi (Nat.not_lt_zero _), fun i hi => absurd hi (Nat.not_lt_zero _), fun j p hj => absurd hj (Nat.not_lt_zero _), ⟨by decide, by decide, by decide⟩, fun i hi => absurd hi (Nat.not_lt_zero _), fun i x hi => absurd hi (Nat.not_lt_zero _)⟩ (((((((((((Frm.rf (a := k) (b := k + 6)).ap (by simp only [List.length_append, List.length_set, List.length_cons, List.length_nil, hln]; omega) (by simp only [List.length_append, List.length_set, List.length_cons, List.length_nil, hln]; omega)).sets (k := k) (by omega) (by omega)).ap (by simp only [List.length_append, List.length_set, List.length_cons, List.length_nil, hln]; omega) (by simp only [List.length_append, List.length_set, List.length_cons, List.length_nil, hln]; omega)).sets (k := k) (by omega) (by omega)).ap (by simp only [List.length_append, List.length_set, List.length_cons, List.length_nil, hln]; omega) (by simp only [List.length_append, List.length_set, List.length_cons, List.length_nil, hln]; omega)).sets (k := k) (by omega) (by omega)).ap (by simp only [List.length_append, List.length_set, List.length_cons, List.length_nil, hln]; omega) (by simp only [List.length_append, List.length_set, List.length_cons, List.length_nil, hln]; omega)).sets (k := k) (by omega) (by omega)).ap (by simp only [List.length_append, List.length_set, List.length_cons, List.length_nil, hln]; omega) (by simp only [List.length_append, List.length_set, List.length_cons, List.length_nil, hln]; omega)).sets (k := k) (by omega) (by omega))
theorem frX5 : ∀ j, j < 8 → defaultValue (tyX5 j) = vp_V [.int (nI 0), .int (nI 0), .int (nI 0), .null, .null, .null, .null, .null] j := by decide +kernel
theorem frX0 : ∀ j, j < 3 → defaultValue (tyX0 j) = vp_V [.null, .null, .int (nI 0)] j := by decide +kernel
set_option maxHeartbeats 200000 in
theorem ct_X2_init {g : px_G} {w : px_W} {Q : px_Q} {k : Nat} (hln : w.length = k + 1) (hk9 : k ≤ 700) (h0 : w[k]? = some (.inr (2, [.null, .int (nI 0), .null, .int (nI 0), .int (nI 0), .int (nI 0), .int (nI 0)]))) (hQ : ∀ w', w'.length = k + 8 → w'[k]? = some (.inr (2, [.ref (k + 1), .int (nI 0), .ref (k + 2), .int (nI 0), .int (nI 0), .int (nI 0), .int (nI 0)])) → w'[k + 1]? = some (.inl (0, 150, .inl (fun _ => 0))) → SubA w' (k + 2) T0 → Frm w w' k (k + 8) → Q none w') : Ct g yX2_init cX2_init 1 none 2 7 234 [.ref k] w Q := by
  refine Ct.of kX2_init (by omega) (lo := [some (.ref k)]) rfl (px_cat1 rfl) (Nat.le_of_ble_eq_true rfl) ?_
  refine r_aload_n (pc' := 1) dX2_init_0 rfl rfl ?_
  refine r_objInit (pc' := 4) lX2_3 oI oC dX2_init_1 rfl (Nat.le_of_ble_eq_true rfl) ?_
  refine r_aload_n (pc' := 5) dX2_init_4 rfl rfl ?_
  refine r_sipush (pc' := 8) (v := nI 150) dX2_init_5 rfl rfl ?_
  refine r_newarray (pc' := 10) (q := k + 1) (N := 150) (Or.inl ⟨rfl, rfl, rfl⟩) aC_int (nI_pos (by decide)) (nI_cl (by decide)) (by decide) (by simp [hln]; omega) dX2_init_8 rfl (by simp [hln]) rfl rfl (by decide) (by decide) ?_
  refine r_putF (pc' := 13) (ty := .array .int) (c' := .inr (2, [.ref (k + 1), .int (nI 0), .null, .int (nI 0), .int (nI 0), .int (nI 0), .int (nI 0)])) fX2_9 dX2_init_10 rfl (ap_ne h0) (Nat.le_of_ble_eq_true rfl) rfl rfl rfl (by decide +kernel) rfl rfl rfl ?_
  refine r_aload_n (pc' := 14) dX2_init_13 rfl rfl ?_
  refine r_new (pc' := 17) (ci := 4) (q := k + 2) (fs := [.int (nI 0), .int (nI 0), .int (nI 0), .null, .null, .null, .null, .null]) (ty := tyX5) (c1 := 2) (s1 := 158) rfl iX5 tyX5_ok clX2_15 inX5.1 inX5.2 frX5 rfl (by simp [hln]; omega) dX2_init_14 rfl (by simp [hln]) rfl rfl (by decide) (by decide) ?_
  refine r_dup (pc' := 18) dX2_init_17 rfl rfl ?_
  have hFr18 : Frm w (((w ++ [(.inl (0, 150, .inl (fun _ => 0)) : px_C)]).set k (.inr (2, [.ref (k + 1), .int (nI 0), .null, .int (nI 0), .int (nI 0), .int (nI 0), .int (nI 0)]))) ++ [(.inr (4, [.int (nI 0), .int (nI 0), .int (nI 0), .null, .null, .null, .null, .null]) : px_C)]) k (k + 8) := ((((Frm.rf (a := k) (b := k + 8)).ap (by simp only [List.length_append, List.length_set, List.length_cons, List.length_nil, hln]; omega) (by simp only [List.length_append, List.length_set, List.length_cons, List.length_nil, hln]; omega)).sets (k := k) (by omega) (by omega)).ap (by simp only [List.length_append, List.length_set, List.length_cons, List.length_nil, hln]; omega) (by simp only [List.length_append, List.length_set, List.length_cons, List.length_nil, hln]; omega))
  have hq18_0 : (((w ++ [(.inl (0, 150, .inl (fun _ => 0)) : px_C)]).set k (.inr (2, [.ref (k + 1), .int (nI 0), .null, .int (nI 0), .int (nI 0), .int (nI 0), .int (nI 0)]))) ++ [(.inr (4, [.int (nI 0), .int (nI 0), .int (nI 0), .null, .null, .null, .null, .null]) : px_C)])[k]? = some (.inr (2, [.ref (k + 1), .int (nI 0), .null, .int (nI 0), .int (nI 0), .int (nI 0), .int (nI 0)])) := ap_ne (gs_eq (ap_ne h0))
  have hq18_1 : (((w ++ [(.inl (0, 150, .inl (fun _ => 0)) : px_C)]).set k (.inr (2, [.ref (k + 1), .int (nI 0), .null, .int (nI 0), .int (nI 0), .int (nI 0), .int (nI 0)]))) ++ [(.inr (4, [.int (nI 0), .int (nI 0), .int (nI 0), .null, .null, .null, .null, .null]) : px_C)])[k + 1]? = some (.inl (0, 150, .inl (fun _ => 0))) := ap_ne (gs_ne (ap_eq (by simp [hln])) (by omega))
  have hq18_2 : (((w ++ [(.inl (0, 150, .inl (fun _ => 0)) : px_C)]).set k (.inr (2, [.ref (k + 1), .int (nI 0), .null, .int (nI 0), .int (nI 0), .int (nI 0), .int (nI 0)]))) ++ [(.inr (4, [.int (nI 0), .int (nI 0), .int (nI 0), .null, .null, .null, .null, .null]) : px_C)])[k + 2]? = some (.inr (4, [.int (nI 0), .int (nI 0), .int (nI 0), .null, .null, .null, .null, .null])) := ap_eq (by simp [hln])
  refine r_callIN (pc' := 21) (av := []) (q := k + 2) (rest := [.ref (k + 2), .ref k]) (c1 := 7) (s1 := 234) kX5_init vX5_init lX2_17 dX2_init_18 rfl (by simp [hln]) rfl rfl ⟨by decide, by decide, by decide⟩ rfl rfl (Nat.le_of_ble_eq_true rfl) (ct_X5_init (by simp [hln]) (by omega) hq18_2 (fun w18 hln hA18 hF18 => ?_))
  show Wp g yX2_init cX2_init 1 none 2 7 234 (px_MQ g Q 7 234) 7 234 21 [some (.ref k)] [.ref (k + 2), .ref k] w18
  refine r_putF (pc' := 24) (ty := .object "GravelWords$Suburb") (c' := .inr (2, [.ref (k + 1), .int (nI 0), .ref (k + 2), .int (nI 0), .int (nI 0), .int (nI 0), .int (nI 0)])) fX2_18 dX2_init_21 rfl (hF18.at hq18_0 (by omega)) (Nat.le_of_ble_eq_true rfl) rfl rfl rfl (by decide +kernel) rfl rfl rfl ?_
  refine r_return dX2_init_24 rfl ?_
  exact hQ _ (by simp [hln]) (gs_eq (hF18.at hq18_0 (by omega))) (gs_ne (hF18.at hq18_1 (by omega)) (by omega)) (hA18.fr (a := k) (b := k + 1) (Frm.set (by omega) (by omega)) (by omega)) ((hFr18.tr (a := k) (b := k + 8) hF18 (by omega) (by omega) (by omega) (by omega)).sets (k := k) (by omega) (by omega))
