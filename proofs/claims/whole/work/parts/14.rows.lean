set_option maxHeartbeats 200000 in
theorem ct_X3_at {g : px_G} {w : px_W} {Q : px_Q} {q n : Nat} {f : Nat → Int32} (h : w[q]? = some (.inl (0, n, .inl f))) (hn : n < 2 ^ 31) {j : Nat} (hj : j < n) {v : Int32} (hv : f j = v) (hQ : Q (some (.int v)) w) : Ct g yX3_at cX3_at 2 (some .int) 1 0 0 [.ref q, .int (nI j)] w Q := by
  refine Ct.of kX3_at (by omega) (lo := [some (.ref q), some (.int (nI j))]) rfl (px_cat1 rfl) (Nat.le_of_ble_eq_true rfl) ?_
  refine r_aload_n (pc' := 1) dX3_at_0 rfl rfl ?_
  refine r_ifnull (pc' := 4) dX3_at_1 rfl ?_
  refine r_iload_n (pc' := 5) dX3_at_4 rfl rfl ?_
  refine r_if_lt (pc' := 8) (P := False) (tgt := 20) dX3_at_5 (by decide) rfl (nI_lt0 (n := j) (by omega)) (fun h5 => ?_) (fun h5 => ?_)
  · skip
    exfalso; exact h5
  · skip
    refine r_iload_n (pc' := 9) dX3_at_8 rfl rfl ?_
    refine r_aload_n (pc' := 10) dX3_at_9 rfl rfl ?_
    refine r_alen (pc' := 11) (v := nI n) dX3_at_10 rfl h (by decide) rfl ?_
    refine r_icmp_ge (pc' := 14) (P := n ≤ j) (tgt := 20) dX3_at_11 (by decide) rfl (nI_leI (a := n) (b := j) (by omega) (by omega)) (fun h11 => ?_) (fun h11 => ?_)
    · skip
      exfalso; omega
    · skip
      refine r_aload_n (pc' := 15) dX3_at_14 rfl rfl ?_
      refine r_iload_n (pc' := 16) dX3_at_15 rfl rfl ?_
      refine r_iaload (pc' := 17) (v := v) dX3_at_16 rfl h (vp_in_nI (n := j) (by omega) (by omega)) (by rw [nI_cl (by omega)]; exact hv) ?_
      refine r_goto (tgt := 21) dX3_at_17 (by decide) ?_
      refine r_ireturn dX3_at_21 rfl ?_
      exact hQ
set_option maxHeartbeats 200000 in
theorem ct_X3_put {g : px_G} {w : px_W} {Q : px_Q} {q n : Nat} {f : Nat → Int32} (h : w[q]? = some (.inl (0, n, .inl f))) (hn : n < 2 ^ 31) {j : Nat} (hj : j < n) {v : Int32} (hQ : Q none (w.set q (.inl (0, n, .inl (upd f j v))))) : Ct g yX3_put cX3_put 3 none 1 0 0 [.ref q, .int (nI j), .int v] w Q := by
  refine Ct.of kX3_put (by omega) (lo := [some (.ref q), some (.int (nI j)), some (.int v)]) rfl (px_cat1 rfl) (Nat.le_of_ble_eq_true rfl) ?_
  refine r_aload_n (pc' := 1) dX3_put_0 rfl rfl ?_
  refine r_ifnull (pc' := 4) dX3_put_1 rfl ?_
  refine r_iload_n (pc' := 5) dX3_put_4 rfl rfl ?_
  refine r_if_lt (pc' := 8) (P := False) (tgt := 18) dX3_put_5 (by decide) rfl (nI_lt0 (n := j) (by omega)) (fun h5 => ?_) (fun h5 => ?_)
  · skip
    exfalso; exact h5
  · skip
    refine r_iload_n (pc' := 9) dX3_put_8 rfl rfl ?_
    refine r_aload_n (pc' := 10) dX3_put_9 rfl rfl ?_
    refine r_alen (pc' := 11) (v := nI n) dX3_put_10 rfl h (by decide) rfl ?_
    refine r_icmp_ge (pc' := 14) (P := n ≤ j) (tgt := 18) dX3_put_11 (by decide) rfl (nI_leI (a := n) (b := j) (by omega) (by omega)) (fun h11 => ?_) (fun h11 => ?_)
    · skip
      exfalso; omega
    · skip
      refine r_aload_n (pc' := 15) dX3_put_14 rfl rfl ?_
      refine r_iload_n (pc' := 16) dX3_put_15 rfl rfl ?_
      refine r_iload_n (pc' := 17) dX3_put_16 rfl rfl ?_
      refine r_iastore (pc' := 18) (c' := .inl (0, n, .inl (upd f j (v)))) dX3_put_17 rfl h (vp_in_nI (n := j) (by omega) (by omega)) (by rw [nI_cl (by omega)]) ?_
      refine r_return dX3_put_18 rfl ?_
      exact hQ
set_option maxHeartbeats 200000 in
theorem ct_X3_copy {g : px_G} {w : px_W} {Q : px_Q} {q r n : Nat} {fa fb : Nat → Int32} (hq : w[q]? = some (.inl (0, n, .inl fa))) (hb : w[r]? = some (.inl (0, n, .inl fb))) (hr : r ≠ q) (hn : n < 2 ^ 31) (hQ : Q none (w.set r (.inl (0, n, .inl (cpf fa fb n))))) : Ct g yX3_copy cX3_copy 3 none 1 0 0 [.ref q, .ref r] w Q := by
  refine Ct.of kX3_copy (by omega) (lo := [some (.ref q), some (.ref r), none]) rfl (px_cat1 rfl) (Nat.le_of_ble_eq_true rfl) ?_
  refine r_aload_n (pc' := 1) dX3_copy_0 rfl rfl ?_
  refine r_ifnull (pc' := 4) dX3_copy_1 rfl ?_
  refine r_aload_n (pc' := 5) dX3_copy_4 rfl rfl ?_
  refine r_ifnull (pc' := 8) dX3_copy_5 rfl ?_
  refine r_iconst (pc' := 9) (v := nI 0) dX3_copy_8 rfl rfl ?_
  refine r_istore_n (pc' := 10) (lo' := [some (.ref q), some (.ref r), some (.int (nI 0))]) dX3_copy_9 rfl (by decide) rfl ?_
  have L10 : ∀ (fu : Nat) (i : Nat), n - i < fu → i ≤ n → Wp g yX3_copy cX3_copy 3 none 1 0 0 (px_MQ g Q 0 0) 0 0 10 [some (.ref q), some (.ref r), some (.int (nI i))] [] (w.set r (.inl (0, n, .inl (cpf fa fb i)))) := by
    intro fu; induction fu with
    | zero => intro i hm; exact absurd hm (Nat.not_lt_zero _)
    | succ fu ih =>
      intro i hm hi
      have ih10 := ih; clear ih
      refine r_iload_n (pc' := 11) dX3_copy_10 rfl rfl ?_
      refine r_aload_n (pc' := 12) dX3_copy_11 rfl rfl ?_
      refine r_alen (pc' := 13) (v := nI n) dX3_copy_12 rfl (gs_ne hq hr) (by decide) rfl ?_
      refine r_icmp_ge (pc' := 16) (P := n ≤ i) (tgt := 34) dX3_copy_13 (by decide) rfl (nI_leI (a := n) (b := i) (by omega) (by omega)) (fun h13 => ?_) (fun h13 => ?_)
      · have hin : i = n := by omega
        subst hin
        refine r_return dX3_copy_34 rfl ?_
        exact hQ
      · skip
        refine r_iload_n (pc' := 17) dX3_copy_16 rfl rfl ?_
        refine r_aload_n (pc' := 18) dX3_copy_17 rfl rfl ?_
        refine r_alen (pc' := 19) (v := nI n) dX3_copy_18 rfl (gs_eq hb) (by decide) rfl ?_
        refine r_icmp_ge (pc' := 22) (P := n ≤ i) (tgt := 34) dX3_copy_19 (by decide) rfl (nI_leI (a := n) (b := i) (by omega) (by omega)) (fun h19 => ?_) (fun h19 => ?_)
        · skip
          exfalso; omega
        · skip
          refine r_aload_n (pc' := 23) dX3_copy_22 rfl rfl ?_
          refine r_iload_n (pc' := 24) dX3_copy_23 rfl rfl ?_
          refine r_aload_n (pc' := 25) dX3_copy_24 rfl rfl ?_
          refine r_iload_n (pc' := 26) dX3_copy_25 rfl rfl ?_
          refine r_iaload (pc' := 27) (v := fa i) dX3_copy_26 rfl (gs_ne hq hr) (vp_in_nI (n := i) (by omega) (by omega)) (by rw [nI_cl (by omega)]) ?_
          refine r_iastore (pc' := 28) (c' := .inl (0, n, .inl (cpf fa fb (i + 1)))) dX3_copy_27 rfl (gs_eq hb) (vp_in_nI (n := i) (by omega) (by omega)) (by rw [nI_cl (by omega), cpf_s]) ?_
          rw [gs_set]
          refine r_iinc (pc' := 31) (lo' := [some (.ref q), some (.ref r), some (.int (nI (i + 1)))]) dX3_copy_28 rfl (by decide) rfl (nI_add i 1) rfl ?_
          refine r_goto (tgt := 10) dX3_copy_31 (by decide) ?_
          exact ih10 (i + 1) (by omega) (by omega)
  have L0 := L10 (n + 1) 0 (by omega) (Nat.zero_le _)
  rw [cpf_0, gs_id hb] at L0
  exact L0
