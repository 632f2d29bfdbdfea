/-! the constructors, on: a Shelf, a Past, the component -/
theorem frX4 : ∀ j, j < 1 → defaultValue (tyX4 j) = vp_V [.null] j := by decide +kernel
theorem frX1 : ∀ j, j < 3 → defaultValue (tyX1 j) = vp_V [.null, .int (nI 0), .int (nI 0)] j := by decide +kernel
theorem frX2 : ∀ j, j < 7 → defaultValue (tyX2 j) = vp_V [.null, .int (nI 0), .null, .int (nI 0), .int (nI 0), .int (nI 0), .int (nI 0)] j := by decide +kernel
theorem Frm.len {w w' : px_W} {a b : Nat} (h : Frm w w' a b) (hb : b < w.length) : w'.length = w.length := by
  have h1 : w'[w.length]? = none := by rw [h _ (Or.inr (Nat.le_of_lt hb))]; simp
  have h2 : w'[w.length - 1]? = w[w.length - 1]? := h _ (Or.inr (by omega))
  have h3 : w.length ≥ 1 := by omega
  have h4 := List.getElem?_eq_none_iff.mp h1
  rcases Nat.lt_or_ge w'.length w.length with q | q
  · exfalso
    rw [List.getElem?_eq_none (by omega), List.getElem?_eq_getElem (by omega)] at h2
    cases h2
  · omega
/-- what a new cell and its making change -/
theorem Frm.new {w w' : px_W} {c : px_C} {p q : Nat} (hl : w.length = p) (h : Frm (w ++ [c]) w' p q) (hq : p < q) : Frm w w' p q := fun j hj => by
  rw [h j hj]
  rcases Nat.lt_or_ge j p with z | z
  · exact List.getElem?_append_left (by omega)
  · rw [List.getElem?_eq_none (by simp; omega), List.getElem?_eq_none (by omega)]
theorem mx0_n {n : Nat} (hn : n < 2 ^ 31) : (if nI 0 < nI n then nI n else nI 0) = nI n := by
  rw [mx_n (by decide) hn]; congr 1; split <;> omega
set_option maxHeartbeats 400000 in
theorem ct_X4_init {g : px_G} {w : px_W} {Q : px_Q} {k n : Nat} (hln : w.length = k + 1) (hk9 : k ≤ 700) (hn : n ≤ 10) (h0 : w[k]? = some (.inr (3, [.null]))) (hQ : ∀ w', w'.length = k + 2 + 3 * n → ShA w' k n (fun _ => nZero) → Frm w w' k (k + 2 + 3 * n) → Q none w') : Ct g yX4_init cX4_init 3 none 2 (1 + 3 * n) (n + 39 * n) [.ref k, .int (nI n)] w Q := by
  refine Ct.of kX4_init (by omega) (lo := [some (.ref k), some (.int (nI n)), none]) rfl (px_cat1 rfl) (Nat.le_of_ble_eq_true rfl) ?_
  refine r_aload_n (pc' := 1) dX4_init_0 rfl rfl ?_
  refine r_objInit (pc' := 4) lX4_1 oI oC dX4_init_1 rfl (Nat.le_of_ble_eq_true rfl) ?_
  refine r_aload_n (pc' := 5) dX4_init_4 rfl rfl ?_
  refine r_iconst (pc' := 6) (v := nI 0) dX4_init_5 rfl rfl ?_
  refine r_iload_n (pc' := 7) dX4_init_6 rfl rfl ?_
  refine r_mmax (pc' := 10) (v := nI n) lX4_7 mS_max mI mC_max dX4_init_7 rfl (mx0_n (by omega)) ⟨Nat.zero_le _, Nat.zero_le _⟩ (Nat.le_of_ble_eq_true rfl) ?_
  refine r_anewarray (pc' := 13) (q := k + 1) (N := n) (c1 := 1 + 3 * 0) (s1 := n + 39 * 0) clX4_13 (nI_pos (by omega)) (nI_cl (by omega)) (by omega) (by omega) dX4_init_10 rfl hln rfl (by omega) (by omega) (by omega) ?_
  refine r_putF (pc' := 16) (ty := .array (.object "GravelWords$Morning")) (c' := .inr (3, [.ref (k + 1)])) fX4_15 dX4_init_13 rfl (ap_ne h0) (Nat.le_of_ble_eq_true rfl) rfl rfl rfl (by decide +kernel) rfl rfl rfl ?_
  refine r_iconst (pc' := 17) (v := nI 0) dX4_init_16 rfl rfl ?_
  refine r_istore_n (pc' := 18) (lo' := [some (.ref k), some (.int (nI n)), some (.int (nI 0))]) dX4_init_17 rfl (by decide) rfl ?_
  have L18 : ∀ (fu i : Nat) (w1 : px_W), n - i < fu → i ≤ n → w1.length = k + 2 + 3 * i → w1[k]? = some (.inr (3, [.ref (k + 1)])) → (∃ gq : Nat → Option Nat, w1[k + 1]? = some (.inl (2, n, .inr (.inr (.inr (.inr gq))))) ∧ ∀ j, j < i → gq j = some (k + 2 + 3 * j)) → (∀ j, j < i → MorA w1 (k + 2 + 3 * j) nZero) → Frm w w1 k (k + 2 + 3 * n) → Wp g yX4_init cX4_init 3 none 2 (1 + 3 * n) (n + 39 * n) (px_MQ g Q (1 + 3 * n) (n + 39 * n)) (1 + 3 * i) (n + 39 * i) 18 [some (.ref k), some (.int (nI n)), some (.int (nI i))] [] w1 := by
    intro fu; induction fu with
    | zero => intro i w1 hm; exact absurd hm (Nat.not_lt_zero _)
    | succ fu ih =>
      intro i w1 hm hi hl1 z0 hz1 z3 hF
      obtain ⟨gq, z1, z2⟩ := id hz1
      refine r_iload_n (pc' := 19) dX4_init_18 rfl rfl ?_
      refine r_aload_n (pc' := 20) dX4_init_19 rfl rfl ?_
      refine r_get (pc' := 23) fX4_15 dX4_init_20 rfl z0 rfl ?_
      refine r_alen (pc' := 24) (v := nI n) dX4_init_23 rfl z1 (by decide) rfl ?_
      refine r_icmp_ge (pc' := 27) (P := n ≤ i) (tgt := 46) dX4_init_24 (by decide) rfl (nI_leI (a := n) (b := i) (by omega) (by omega)) (fun h24 => ?_) (fun h24 => ?_)
      · have hin : i = n := by omega
        subst hin
        refine r_return dX4_init_46 rfl ?_
        exact hQ _ hl1 ⟨z0, ⟨gq, z1, z2⟩, z3⟩ hF
      · refine r_aload_n (pc' := 28) dX4_init_27 rfl rfl ?_
        refine r_get (pc' := 31) fX4_15 dX4_init_28 rfl z0 rfl ?_
        refine r_iload_n (pc' := 32) dX4_init_31 rfl rfl ?_
        refine r_new (pc' := 35) (ci := 0) (q := k + 2 + 3 * i) (fs := [.null, .null, .int (nI 0)]) (ty := tyX0) (c1 := 1 + 3 * i + 1) (s1 := n + 39 * i + 3) rfl iX0 tyX0_ok clX4_13 inX0.1 inX0.2 frX0 rfl (by omega) dX4_init_32 rfl hl1 rfl rfl (by omega) (by omega) ?_
        refine r_dup (pc' := 36) dX4_init_35 rfl rfl ?_
        refine r_callIN (pc' := 39) (av := []) (q := k + 2 + 3 * i) (rest := [.ref (k + 2 + 3 * i), .int (nI i), .ref (k + 1)]) (c1 := 1 + 3 * (i + 1)) (s1 := n + 39 * (i + 1)) kX0_init vX0_init lX4_21 dX4_init_36 rfl (by rw [List.length_append, hl1]; simp) rfl rfl ⟨by decide, by omega, by omega⟩ (by omega) (by omega) (Nat.le_of_ble_eq_true rfl) (ct_X0_init (by rw [List.length_append, hl1]; simp) (by omega) (ap_eq hl1) (fun w2 hl2 hA2 hF2 => ?_))
        show Wp g yX4_init cX4_init 3 none 2 (1 + 3 * n) (n + 39 * n) (px_MQ g Q (1 + 3 * n) (n + 39 * n)) (1 + 3 * (i + 1)) (n + 39 * (i + 1)) 39 [some (.ref k), some (.int (nI n)), some (.int (nI i))] [.ref (k + 2 + 3 * i), .int (nI i), .ref (k + 1)] w2
        have hF3 := Frm.new hl1 hF2 (by omega)
        refine r_aastore (pc' := 40) (c' := .inl (2, n, .inr (.inr (.inr (.inr (va_up gq i (some (k + 2 + 3 * i)))))))) dX4_init_39 rfl (hF3.at z1 (by omega)) (vp_in_nI (n := i) (by omega) (by omega)) hA2.o rfl (by rw [nI_cl (by omega)]) ?_
        refine r_iinc (pc' := 43) (lo' := [some (.ref k), some (.int (nI n)), some (.int (nI (i + 1)))]) dX4_init_40 rfl (by decide) rfl (nI_add i 1) rfl ?_
        refine r_goto (tgt := 18) dX4_init_43 (by decide) ?_
        refine ih (i + 1) _ (by omega) (by omega) (by rw [List.length_set, hl2]; omega) (gs_ne (hF3.at z0 (by omega)) (by omega)) ⟨_, gs_eq (hF3.at z1 (by omega)), fun j hj => ?_⟩ (fun j hj => ?_) ((hF.tr (a := k) (b := k + 2 + 3 * n) hF3 (by omega) (by omega) (by omega) (by omega)).sets (k := k + 1) (by omega) (by omega))
        · unfold va_up
          by_cases e : j = i
          · subst e; simp
          · have := z2 j (by omega)
            simp [e, this]
        · by_cases e : j = i
          · subst e; exact hA2.fr (a := k + 1) (b := k + 2) (Frm.set (by omega) (by omega)) (by omega)
          · exact ((z3 j (by omega)).fr hF3 (by omega)).fr (a := k + 1) (b := k + 2) (Frm.set (by omega) (by omega)) (by omega)
  refine L18 (n + 1) 0 _ (by omega) (by omega) (by simp [hln]) (gs_eq (ap_ne h0)) ⟨_, gs_ne (ap_eq hln) (by omega), fun j hj => absurd hj (Nat.not_lt_zero _)⟩ (fun j hj => absurd hj (Nat.not_lt_zero _)) ?_
  exact ((Frm.rf (a := k) (b := k + 2 + 3 * n)).ap (by omega) (by omega)).sets (k := k) (by omega) (by omega)
set_option maxHeartbeats 200000 in
theorem ct_X1_init {g : px_G} {w : px_W} {Q : px_Q} (hln : w.length = 19) (h0 : w[18]? = some (.inr (1, [.null, .int (nI 0), .int (nI 0)]))) (hQ : ∀ w', w'.length = 51 → PastA w' [] → Frm w w' 18 51 → Q none w') : Ct g yX1_init cX1_init 1 none 3 32 401 [.ref 18] w Q := by
  refine Ct.of kX1_init (by omega) (lo := [some (.ref 18)]) rfl (px_cat1 rfl) (Nat.le_of_ble_eq_true rfl) ?_
  refine r_aload_n (pc' := 1) dX1_init_0 rfl rfl ?_
  refine r_objInit (pc' := 4) lX1_3 oI oC dX1_init_1 rfl (Nat.le_of_ble_eq_true rfl) ?_
  refine r_aload_n (pc' := 5) dX1_init_4 rfl rfl ?_
  refine r_new (pc' := 8) (ci := 3) (q := 19) (fs := [.null]) (ty := tyX4) (c1 := 1) (s1 := 1) rfl iX4 tyX4_ok clX1_9 inX4.1 inX4.2 frX4 rfl (by omega) dX1_init_5 rfl hln rfl rfl (by decide) (by decide) ?_
  refine r_dup (pc' := 9) dX1_init_8 rfl rfl ?_
  refine r_bipush (pc' := 11) (v := nI 10) dX1_init_9 rfl rfl ?_
  refine r_callI (pc' := 14) (av := [.int (nI 10)]) (q := 19) (rest := [.ref 19, .ref 18]) (c1 := 32) (s1 := 401) kX4_init vX4_init lX1_11 dX1_init_11 rfl (by rw [List.length_append, hln]; simp) rfl rfl ⟨by decide, by decide, by decide⟩ rfl rfl (Nat.le_of_ble_eq_true rfl) (ct_X4_init (n := 10) (by rw [List.length_append, hln]; simp) (by omega) (by omega) (ap_eq hln) (fun w2 hl2 hA2 hF2 => ?_))
  show Wp g yX1_init cX1_init 1 none 3 32 401 (px_MQ g Q 32 401) 32 401 14 [some (.ref 18)] [.ref 19, .ref 18] w2
  have hF3 := Frm.new hln hF2 (by omega)
  refine r_putF (pc' := 17) (ty := .object "GravelWords$Shelf") (c' := .inr (1, [.ref 19, .int (nI 0), .int (nI 0)])) fX1_14 dX1_init_14 rfl (hF3.at h0 (by omega)) (Nat.le_of_ble_eq_true rfl) rfl rfl rfl (by decide +kernel) rfl rfl rfl ?_
  refine r_return dX1_init_17 rfl ?_
  exact hQ _ (by rw [List.length_set, hl2]) ⟨0, fun _ => nZero, by omega, Nat.zero_le _, gs_eq (hF3.at h0 (by omega)), hA2.fr (a := 18) (b := 19) (Frm.set (by omega) (by omega)) (by omega), fun i M h => by simp at h⟩ ((hF3.mono (a := 18) (b := 51) (by omega) (by omega)).sets (k := 18) (by omega) (by omega))
