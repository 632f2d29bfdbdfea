theorem o8_b {l : List Nat} (h : ∀ d, d ∈ l → d < 4) (h4 : l.length ≤ 4) : o8 l < 4096 := show o8 l < 8 ^ 4 from Nat.lt_of_lt_of_le (o8_lt h) (Nat.pow_le_pow_right (by decide) h4)
theorem o8_sh {l : List Nat} (h : ∀ d, d ∈ l → d < 4) (k : Nat) : o8 l / 2 ^ (3 * k) = o8 (l.drop k) := by
  rw [Nat.pow_mul]; exact o8_drop k h
theorem o8_k {l : List Nat} (h : ∀ d, d ∈ l → d < 4) (k : Nat) : o8 l / 2 ^ (3 * k) = 0 ↔ l.length ≤ k := by
  rw [o8_sh h, o8_0, List.drop_eq_nil_iff]
def lstI (l : List Nat) : Int32 := match l with
  | [] => -1
  | d :: _ => nI d
theorem lst_sub {l : List Nat} (h : ∀ d, d ∈ l → d < 4) : nI (o8 l % 8) - nI 1 = lstI l := by
  cases l with
  | nil => rfl
  | cons d l =>
    have hd := h d (List.mem_cons_self ..)
    show nI ((o8 l * 8 + d + 1) % 8) - nI 1 = nI d
    rw [show (o8 l * 8 + d + 1) % 8 = d + 1 by omega]
    exact pk_sub (a := d + 1) (b := 1) (by omega)
theorem and7 (n : Nat) : n &&& 7 = n % 8 := Nat.and_two_pow_sub_one_eq_mod n 3
theorem lst_eq {l : List Nat} (h : ∀ d, d ∈ l → d < 4) {k d : Nat} (hd : d < 4) : lstI (l.drop k) = nI d ↔ l[k]? = some d := by
  have e : l[k]? = (l.drop k).head? := by rw [List.head?_drop]
  rw [e]
  cases hl : l.drop k with
  | nil => exact ⟨fun q => absurd q.symm (nI_neg (by omega) (by decide)), fun q => by cases q⟩
  | cons b r =>
    have hb : b < 4 := h b (List.mem_of_mem_drop (by rw [hl]; exact List.mem_cons_self ..))
    show nI b = nI d ↔ some b = some d
    rw [nI_eq (by omega) (by omega)]
    exact ⟨fun q => by rw [q], fun q => by injection q⟩
theorem mabs {d b : Nat} (hd : d < 2 ^ 30) (hb : b < 2 ^ 30) : (if 0 ≤ nI d - nI b then nI d - nI b else 0 - (nI d - nI b)) = nI (adf d b) := by
  unfold adf
  by_cases h : b ≤ d
  · rw [if_pos ((ge_sub hd hb).mpr h), if_pos h]; exact pk_sub (by omega)
  · rw [if_neg (fun q => h ((ge_sub hd hb).mp q)), if_neg h, Int32.zero_sub, Int32.neg_sub]; exact pk_sub (by omega)
theorem shr3 {l : List Nat} (h : ∀ d, d ∈ l → d < 4) (h4 : l.length ≤ 4) {k : Nat} (hk : k ≤ 4) : nI (o8 l) >>> (nI (3 * k) &&& 31) = nI (o8 (l.drop k)) := (shr_n (by omega) (by have := o8_b h h4; omega)).trans (by rw [o8_sh h])
set_option maxHeartbeats 200000 in
theorem ct_X6_readIn {g : px_G} {w : px_W} {Q : px_Q} {l : List Nat} (hl : ∀ d, d ∈ l → d < 4) (hl4 : l.length ≤ 4) (hQ : Q (some (.int (nI l.length))) w) : Ct g yX6_readIn cX6_readIn 3 (some .int) 1 0 0 [.int (nI (o8 l))] w Q := by
  refine Ct.of kX6_readIn (by omega) (lo := [some (.int (nI (o8 l))), none, none]) rfl (px_cat1 rfl) (Nat.le_of_ble_eq_true rfl) ?_
  have e0 := o8_b hl hl4
  refine r_iconst (pc' := 1) (v := nI 0) dX6_readIn_0 rfl rfl ?_
  refine r_istore_n (pc' := 2) (lo' := [some (.int (nI (o8 l))), some (.int (nI 0)), none]) dX6_readIn_1 rfl (by decide) rfl ?_
  refine r_iconst (pc' := 3) (v := nI 0) dX6_readIn_2 rfl rfl ?_
  refine r_istore_n (pc' := 4) (lo' := [some (.int (nI (o8 l))), some (.int (nI 0)), some (.int (nI 0))]) dX6_readIn_3 rfl (by decide) rfl ?_
  have L4 : ∀ (fu : Nat) (k n : Nat), 4 - k < fu → k ≤ 4 → n = k ∧ k ≤ l.length ∨ n = l.length ∧ l.length ≤ k → Wp g yX6_readIn cX6_readIn 3 (some .int) 1 0 0 (px_MQ g Q 0 0) 0 0 4 [some (.int (nI (o8 l))), some (.int (nI n)), some (.int (nI k))] [] w := by
    intro fu; induction fu with
    | zero => intro k n hm; exact absurd hm (Nat.not_lt_zero _)
    | succ fu ih =>
      intro k n hm hk hn
      have ih4 := ih; clear ih
      refine r_iload_n (pc' := 5) dX6_readIn_4 rfl rfl ?_
      refine r_iconst (pc' := 6) (v := nI 4) dX6_readIn_5 rfl rfl ?_
      refine r_icmp_ge (pc' := 9) (P := 4 ≤ k) (tgt := 26) dX6_readIn_6 (by decide) rfl (nI_leI (a := 4) (b := k) (by omega) (by omega)) (fun h6 => ?_) (fun h6 => ?_)
      · have hk2 : k = 4 := by omega
        have hn2 : n = l.length := by omega
        subst hn2
        refine r_iload_n (pc' := 27) dX6_readIn_26 rfl rfl ?_
        refine r_ireturn dX6_readIn_27 rfl ?_
        exact hQ
      · skip
        refine r_iload_n (pc' := 10) dX6_readIn_9 rfl rfl ?_
        refine r_iconst (pc' := 11) (v := nI 3) dX6_readIn_10 rfl rfl ?_
        refine r_iload_n (pc' := 12) dX6_readIn_11 rfl rfl ?_
        refine r_imul (pc' := 13) (v := nI (3 * k)) dX6_readIn_12 rfl (pk_mul 3 k) ?_
        refine r_ishr (pc' := 14) (v := nI ((o8 l) / 2 ^ (3 * k))) dX6_readIn_13 rfl (shr_n (a := o8 l) (b := 3 * k) (by omega) (by omega)) ?_
        refine r_if_eq (pc' := 17) (P := l.length ≤ k) (tgt := 20) dX6_readIn_14 (by decide) rfl ((nI_eq0 (n := o8 l / 2 ^ (3 * k)) (Nat.lt_of_le_of_lt (Nat.div_le_self _ _) (by omega))).trans (o8_k hl k)) (fun h14 => ?_) (fun h14 => ?_)
        · skip
          refine r_iinc (pc' := 23) (lo' := [some (.int (nI (o8 l))), some (.int (nI n)), some (.int (nI (k + 1)))]) dX6_readIn_20 rfl (by decide) rfl (nI_add k 1) rfl ?_
          refine r_goto (tgt := 4) dX6_readIn_23 (by decide) ?_
          exact ih4 (k + 1) n (by omega) (by omega) (by omega)
        · skip
          refine r_iinc (pc' := 20) (lo' := [some (.int (nI (o8 l))), some (.int (nI (n + 1))), some (.int (nI k))]) dX6_readIn_17 rfl (by decide) rfl (nI_add n 1) rfl ?_
          refine r_iinc (pc' := 23) (lo' := [some (.int (nI (o8 l))), some (.int (nI (n + 1))), some (.int (nI (k + 1)))]) dX6_readIn_20 rfl (by decide) rfl (nI_add k 1) rfl ?_
          refine r_goto (tgt := 4) dX6_readIn_23 (by decide) ?_
          exact ih4 (k + 1) (n + 1) (by omega) (by omega) (by omega)
  exact L4 ((4) + 1) 0 0 (Nat.lt_succ_self _) (by omega) (by omega)
set_option maxHeartbeats 200000 in
theorem ct_X6_lastReadOf {g : px_G} {w : px_W} {Q : px_Q} {l : List Nat} (hl : ∀ d, d ∈ l → d < 4) (hl4 : l.length ≤ 4) (hQ : Q (some (.int (lstI l))) w) : Ct g yX6_lastReadOf cX6_lastReadOf 1 (some .int) 1 0 0 [.int (nI (o8 l))] w Q := by
  refine Ct.of kX6_lastReadOf (by omega) (lo := [some (.int (nI (o8 l)))]) rfl (px_cat1 rfl) (Nat.le_of_ble_eq_true rfl) ?_
  refine r_iload_n (pc' := 1) dX6_lastReadOf_0 rfl rfl ?_
  refine r_bipush (pc' := 3) (v := nI 7) dX6_lastReadOf_1 rfl rfl ?_
  refine r_iand (pc' := 4) (v := nI (o8 l % 8)) dX6_lastReadOf_3 rfl ((and_n _ _).trans (by rw [and7])) ?_
  refine r_iconst (pc' := 5) (v := nI 1) dX6_lastReadOf_4 rfl rfl ?_
  refine r_isub (pc' := 6) (v := lstI l) dX6_lastReadOf_5 rfl (lst_sub hl) ?_
  refine r_ireturn dX6_lastReadOf_6 rfl ?_
  exact hQ
theorem ct_lastRead_c {g : px_G} {w : px_W} {Q : px_Q} {l : List Nat} (hl : ∀ d, d ∈ l → d < 4) (hl4 : l.length ≤ 4) {b : Nat} {r : List Nat} (he : l = b :: r) (hQ : Q (some (.int (nI b))) w) : Ct g yX6_lastReadOf cX6_lastReadOf 1 (some .int) 1 0 0 [.int (nI (o8 l))] w Q := ct_X6_lastReadOf hl hl4 (by rw [he]; exact hQ)
set_option maxHeartbeats 200000 in
theorem ct_X6_isReadIn {g : px_G} {w : px_W} {Q : px_Q} {l : List Nat} (hl : ∀ d, d ∈ l → d < 4) (hl4 : l.length ≤ 4) {d : Nat} (hd : d < 4) (hQ : Q (some (.int (bI (l.contains d)))) w) : Ct g yX6_isReadIn cX6_isReadIn 3 (some .boolean) 2 0 0 [.int (nI (o8 l)), .int (nI d)] w Q := by
  refine Ct.of kX6_isReadIn (by omega) (lo := [some (.int (nI (o8 l))), some (.int (nI d)), none]) rfl (px_cat1 rfl) (Nat.le_of_ble_eq_true rfl) ?_
  refine r_iconst (pc' := 1) (v := nI 0) dX6_isReadIn_0 rfl rfl ?_
  refine r_istore_n (pc' := 2) (lo' := [some (.int (nI (o8 l))), some (.int (nI d)), some (.int (nI 0))]) dX6_isReadIn_1 rfl (by decide) rfl ?_
  have L2 : ∀ (fu : Nat) (k : Nat), 4 - k < fu → k ≤ 4 → (∀ i, i < k → l[i]? ≠ some d) → Wp g yX6_isReadIn cX6_isReadIn 3 (some .boolean) 2 0 0 (px_MQ g Q 0 0) 0 0 2 [some (.int (nI (o8 l))), some (.int (nI d)), some (.int (nI k))] [] w := by
    intro fu; induction fu with
    | zero => intro k hm; exact absurd hm (Nat.not_lt_zero _)
    | succ fu ih =>
      intro k hm hk hn
      have ih2 := ih; clear ih
      refine r_iload_n (pc' := 3) dX6_isReadIn_2 rfl rfl ?_
      refine r_iconst (pc' := 4) (v := nI 4) dX6_isReadIn_3 rfl rfl ?_
      refine r_icmp_ge (pc' := 7) (P := 4 ≤ k) (tgt := 27) dX6_isReadIn_4 (by decide) rfl (nI_leI (a := 4) (b := k) (by omega) (by omega)) (fun h4 => ?_) (fun h4 => ?_)
      · have hk2 : k = 4 := by omega
        refine r_iconst (pc' := 28) (v := bI false) dX6_isReadIn_27 rfl rfl ?_
        refine r_zreturn dX6_isReadIn_28 rfl (bI_nar _) ?_
        refine px_eqB hQ ?_
        symm
        rw [Bool.eq_false_iff]
        intro hc
        obtain ⟨i, hi⟩ := List.mem_iff_getElem?.mp (List.contains_iff_mem.mp hc)
        have := (List.getElem?_eq_some_iff.mp hi).1
        exact hn i (by omega) hi
      · skip
        refine r_iload_n (pc' := 8) dX6_isReadIn_7 rfl rfl ?_
        refine r_iconst (pc' := 9) (v := nI 3) dX6_isReadIn_8 rfl rfl ?_
        refine r_iload_n (pc' := 10) dX6_isReadIn_9 rfl rfl ?_
        refine r_imul (pc' := 11) (v := nI (3 * k)) dX6_isReadIn_10 rfl (pk_mul 3 k) ?_
        refine r_ishr (pc' := 12) (v := nI (o8 (l.drop k))) dX6_isReadIn_11 rfl (shr3 hl hl4 (by omega)) ?_
        refine r_callS (pc' := 15) (av := [.int (nI (o8 (l.drop k)))]) (rest := []) kX6_lastReadOf vX6_lastReadOf lX6_206 dX6_isReadIn_12 rfl rfl rfl ⟨by decide, by decide, by decide⟩ rfl rfl (Nat.le_of_ble_eq_true rfl) (ct_X6_lastReadOf (l := l.drop k) (fun d hd => hl d (List.mem_of_mem_drop hd)) (by rw [List.length_drop]; omega) ?_)
        show Wp g yX6_isReadIn cX6_isReadIn 3 (some .boolean) 2 0 0 (px_MQ g Q 0 0) 0 0 15 [some (.int (nI (o8 l))), some (.int (nI d)), some (.int (nI k))] [.int (lstI (l.drop k))] w
        refine r_iload_n (pc' := 16) dX6_isReadIn_15 rfl rfl ?_
        refine r_icmp_ne (pc' := 19) (P := l[k]? = some d) (tgt := 21) dX6_isReadIn_16 (by decide) rfl (lst_eq hl hd) (fun h16 => ?_) (fun h16 => ?_)
        · skip
          refine r_iinc (pc' := 24) (lo' := [some (.int (nI (o8 l))), some (.int (nI d)), some (.int (nI (k + 1)))]) dX6_isReadIn_21 rfl (by decide) rfl (nI_add k 1) rfl ?_
          refine r_goto (tgt := 2) dX6_isReadIn_24 (by decide) ?_
          exact ih2 (k + 1) (by omega) (by omega) (fun i hi => by rcases (show i < k ∨ i = k by omega) with q | rfl; exact hn i q; exact h16)
        · skip
          refine r_iconst (pc' := 20) (v := bI true) dX6_isReadIn_19 rfl rfl ?_
          refine r_zreturn dX6_isReadIn_20 rfl (bI_nar _) ?_
          refine px_eqB hQ ?_
          rw [List.contains_iff_mem.mpr (List.mem_of_getElem? h16)]
  exact L2 ((4) + 1) 0 (Nat.lt_succ_self _) (by omega) (fun i hi => absurd hi (Nat.not_lt_zero _))
set_option maxHeartbeats 200000 in
theorem ct_X6_latestEndOf {g : px_G} {w : px_W} {Q : px_Q} {ik : Int32} {tr : Int64} {T : px_T} {M : px_N} (hX : w[0]? = some (.inr (5, [.ref 1, .ref 9, .ref 15, .ref 18, .ref 51, .ref 59, .int ik, .long tr]))) (hT : SubA w 9 T) (hO : TOK T) (hM : MorA w 15 M) {d : Nat} (hd4 : d < 4) (hQ : Q (some (.int (ltI (lat T M d)))) w) : Ct g yX6_latestEndOf cX6_latestEndOf 5 (some .int) 5 0 0 [.ref 0, .int (nI d)] w Q := by
  refine Ct.of kX6_latestEndOf (by omega) (lo := [some (.ref 0), some (.int (nI d)), none, none, none]) rfl (px_cat1 rfl) (Nat.le_of_ble_eq_true rfl) ?_
  obtain ⟨⟨sb1, sb2, sb3⟩, sb4, sb5⟩ := hT.b
  obtain ⟨mB1, mB2, mB3⟩ := hM.b
  refine r_aload_n (pc' := 1) dX6_latestEndOf_0 rfl rfl ?_
  refine r_get (pc' := 4) fX6_19 dX6_latestEndOf_1 rfl hX rfl ?_
  refine r_iload_n (pc' := 5) dX6_latestEndOf_4 rfl rfl ?_
  refine r_callV (pc' := 8) (av := [.int (nI d)]) (rest := []) kX5_hasDrive vX5_hasDrive lX6_98 dX6_latestEndOf_5 rfl hT.o rfl rfl rfl ⟨by decide, by decide, by decide⟩ rfl rfl (Nat.le_of_ble_eq_true rfl) (ct_X5_hasDrive hT ?_)
  show Wp g yX6_latestEndOf cX6_latestEndOf 5 (some .int) 5 0 0 (px_MQ g Q 0 0) 0 0 8 [some (.ref 0), some (.int (nI d)), none, none, none] [.int (bI (hasI (nI d) (tD T)))] w
  refine r_if_eq (pc' := 11) (P := (hasI (nI d) (tD T)) = false) (tgt := 25) dX6_latestEndOf_8 (by decide) rfl (bI_0) (fun h8 => ?_) (fun h8 => ?_)
  · have hs : latS T M d = 0 := by rw [hasI_n (by omega)] at h8; rw [latS, if_neg (by simp at h8; omega)]
    refine r_iconst (pc' := 26) (v := (-1)) dX6_latestEndOf_25 rfl rfl ?_
    rw [show ((-1) : Int32) = ltI (latA T M d (latS T M d) 0) from by rw [show latA T M d (latS T M d) 0 = 0 from hs]; decide]
    refine r_istore_n (pc' := 27) (lo' := [some (.ref 0), some (.int (nI d)), some (.int (ltI (latA T M d (latS T M d) 0))), none, none]) dX6_latestEndOf_26 rfl (by decide) rfl ?_
    refine r_iconst (pc' := 28) (v := nI 0) dX6_latestEndOf_27 rfl rfl ?_
    refine r_istore_n (pc' := 29) (lo' := [some (.ref 0), some (.int (nI d)), some (.int (ltI (latA T M d (latS T M d) 0))), some (.int (nI 0)), none]) dX6_latestEndOf_28 rfl (by decide) rfl ?_
    have L29 : ∀ (fu : Nat) (j : Nat), tG T - j < fu → j ≤ tG T → Wp g yX6_latestEndOf cX6_latestEndOf 5 (some .int) 5 0 0 (px_MQ g Q 0 0) 0 0 29 [some (.ref 0), some (.int (nI d)), some (.int (ltI (latA T M d (latS T M d) j))), some (.int (nI j)), none] [] w := by
      intro fu; induction fu with
      | zero => intro j hm; exact absurd hm (Nat.not_lt_zero _)
      | succ fu ih =>
        intro j hm hj
        have hla := latA_le T M d j
        have ih29 := ih; clear ih
        refine r_iload_n (pc' := 30) dX6_latestEndOf_29 rfl rfl ?_
        refine r_aload_n (pc' := 31) dX6_latestEndOf_30 rfl rfl ?_
        refine r_get (pc' := 34) fX6_19 dX6_latestEndOf_31 rfl hX rfl ?_
        refine r_getN (pc' := 37) fX6_166 dX6_latestEndOf_34 rfl hT.o rfl ?_
        refine r_icmp_ge (pc' := 40) (P := tG T ≤ j) (tgt := 91) dX6_latestEndOf_37 (by decide) rfl (nI_leI (a := tG T) (b := j) (by omega) (by omega)) (fun h37 => ?_) (fun h37 => ?_)
        · obtain rfl : j = tG T := by omega
          refine r_iload_n (pc' := 92) dX6_latestEndOf_91 rfl rfl ?_
          refine r_ireturn dX6_latestEndOf_92 rfl ?_
          exact hQ
        · skip
          refine r_aload_n (pc' := 41) dX6_latestEndOf_40 rfl rfl ?_
          refine r_get (pc' := 44) fX6_19 dX6_latestEndOf_41 rfl hX rfl ?_
          refine r_iload_n (pc' := 45) dX6_latestEndOf_44 rfl rfl ?_
          refine r_iconst (pc' := 46) (v := nI 0) dX6_latestEndOf_45 rfl rfl ?_
          refine r_callV (pc' := 49) (av := [.int (nI j), .int (nI 0)]) (rest := []) kX5_partOfGoer vX5_partOfGoer lX6_130 dX6_latestEndOf_46 rfl hT.o rfl rfl rfl ⟨by decide, by decide, by decide⟩ rfl rfl (Nat.le_of_ble_eq_true rfl) (ct_X5_partOfGoer hT (i := j) (p := 0) (by omega) (by omega) ?_)
          show Wp g yX6_latestEndOf cX6_latestEndOf 5 (some .int) 5 0 0 (px_MQ g Q 0 0) 0 0 49 [some (.ref 0), some (.int (nI d)), some (.int (ltI (latA T M d (latS T M d) j))), some (.int (nI j)), none] [.int (nI (tg T j 0))] w
          have e46 := (hO.2.2.2 j (by omega))
          refine r_istore (pc' := 51) (lo' := [some (.ref 0), some (.int (nI d)), some (.int (ltI (latA T M d (latS T M d) j))), some (.int (nI j)), some (.int (nI (tg T j 0)))]) dX6_latestEndOf_49 rfl (by decide) rfl ?_
          refine r_aload_n (pc' := 52) dX6_latestEndOf_51 rfl rfl ?_
          refine r_get (pc' := 55) fX6_19 dX6_latestEndOf_52 rfl hX rfl ?_
          refine r_iload_n (pc' := 56) dX6_latestEndOf_55 rfl rfl ?_
          refine r_iconst (pc' := 57) (v := nI 1) dX6_latestEndOf_56 rfl rfl ?_
          refine r_callV (pc' := 60) (av := [.int (nI j), .int (nI 1)]) (rest := []) kX5_partOfGoer vX5_partOfGoer lX6_130 dX6_latestEndOf_57 rfl hT.o rfl rfl rfl ⟨by decide, by decide, by decide⟩ rfl rfl (Nat.le_of_ble_eq_true rfl) (ct_X5_partOfGoer hT (i := j) (p := 1) (by omega) (by omega) ?_)
          show Wp g yX6_latestEndOf cX6_latestEndOf 5 (some .int) 5 0 0 (px_MQ g Q 0 0) 0 0 60 [some (.ref 0), some (.int (nI d)), some (.int (ltI (latA T M d (latS T M d) j))), some (.int (nI j)), some (.int (nI (tg T j 0)))] [.int (nI (tg T j 1))] w
          have e57 := (hO.2.2.2 j (by omega))
          refine r_iload_n (pc' := 61) dX6_latestEndOf_60 rfl rfl ?_
          refine r_icmp_ne (pc' := 64) (P := tg T j 1 = d) (tgt := 85) dX6_latestEndOf_61 (by decide) rfl (nI_eq (a := tg T j 1) (b := d) (by omega) (by omega)) (fun h61 => ?_) (fun h61 => ?_)
          · skip
            refine r_iinc (pc' := 88) (lo' := [some (.ref 0), some (.int (nI d)), some (.int (ltI (latA T M d (latS T M d) j))), some (.int (nI (j + 1))), some (.int (nI (tg T j 0)))]) dX6_latestEndOf_85 rfl (by decide) rfl (nI_add j 1) rfl ?_
            refine r_goto (tgt := 29) dX6_latestEndOf_88 (by decide) ?_
            rw [show latA T M d (latS T M d) j = latA T M d (latS T M d) (j + 1) from by rw [latA, if_neg (fun q => by first | exact h61 q.1 | omega)]]
            refine r_drop 4 rfl ?_
            exact ih29 (j + 1) (by omega) (by omega)
          · skip
            refine r_iload (pc' := 66) dX6_latestEndOf_64 rfl rfl ?_
            refine r_aload_n (pc' := 67) dX6_latestEndOf_66 rfl rfl ?_
            refine r_get (pc' := 70) fX6_26 dX6_latestEndOf_67 rfl hX rfl ?_
            refine r_getN (pc' := 73) fX6_163 dX6_latestEndOf_70 rfl hM.o rfl ?_
            refine r_icmp_lt (pc' := 76) (P := tg T j 0 < nh M) (tgt := 85) dX6_latestEndOf_73 (by decide) rfl (nI_ltI (a := tg T j 0) (b := nh M) (by omega) (by omega)) (fun h73 => ?_) (fun h73 => ?_)
            · skip
              refine r_iinc (pc' := 88) (lo' := [some (.ref 0), some (.int (nI d)), some (.int (ltI (latA T M d (latS T M d) j))), some (.int (nI (j + 1))), some (.int (nI (tg T j 0)))]) dX6_latestEndOf_85 rfl (by decide) rfl (nI_add j 1) rfl ?_
              refine r_goto (tgt := 29) dX6_latestEndOf_88 (by decide) ?_
              rw [show latA T M d (latS T M d) j = latA T M d (latS T M d) (j + 1) from by rw [latA, if_neg (fun q => by first | exact h61 q.1 | omega)]]
              refine r_drop 4 rfl ?_
              exact ih29 (j + 1) (by omega) (by omega)
            · skip
              refine r_iload_n (pc' := 77) dX6_latestEndOf_76 rfl rfl ?_
              refine r_iload (pc' := 79) dX6_latestEndOf_77 rfl rfl ?_
              refine r_iconst (pc' := 80) (v := nI 1) dX6_latestEndOf_79 rfl rfl ?_
              refine r_isub (pc' := 81) (v := (nI (tg T j 0)) - (nI 1)) dX6_latestEndOf_80 rfl (rfl) ?_
              refine r_mmin (pc' := 84) (v := ltI (latA T M d (latS T M d) (j + 1))) lX6_279 mS_min mI mC_min dX6_latestEndOf_81 rfl ((ltI_min (a := latA T M d (latS T M d) j) (b := tg T j 0) (by omega) (by omega)).trans (congrArg ltI (latA_y h61 (by omega)).symm)) ⟨by decide, by decide⟩ (Nat.le_of_ble_eq_true rfl) ?_
              refine r_istore_n (pc' := 85) (lo' := [some (.ref 0), some (.int (nI d)), some (.int (ltI (latA T M d (latS T M d) (j + 1)))), some (.int (nI j)), some (.int (nI (tg T j 0)))]) dX6_latestEndOf_84 rfl (by decide) rfl ?_
              refine r_iinc (pc' := 88) (lo' := [some (.ref 0), some (.int (nI d)), some (.int (ltI (latA T M d (latS T M d) (j + 1)))), some (.int (nI (j + 1))), some (.int (nI (tg T j 0)))]) dX6_latestEndOf_85 rfl (by decide) rfl (nI_add j 1) rfl ?_
              refine r_goto (tgt := 29) dX6_latestEndOf_88 (by decide) ?_
              refine r_drop 4 rfl ?_
              exact ih29 (j + 1) (by omega) (by omega)
    exact L29 ((tG T) + 1) 0 (Nat.lt_succ_self _) (by omega)
  · have hd : d < tD T := by rw [hasI_n (by omega)] at h8; simpa using h8
    refine r_aload_n (pc' := 12) dX6_latestEndOf_11 rfl rfl ?_
    refine r_iload_n (pc' := 13) dX6_latestEndOf_12 rfl rfl ?_
    refine r_callV (pc' := 16) (av := [.int (nI d)]) (rest := []) kX6_readableOn vX6_readableOn lX6_187 dX6_latestEndOf_13 rfl hX rfl rfl rfl ⟨by decide, by decide, by decide⟩ rfl rfl (Nat.le_of_ble_eq_true rfl) (ct_X6_readableOn hX hT hO hM (d := d) (by omega) ?_)
    show Wp g yX6_latestEndOf cX6_latestEndOf 5 (some .int) 5 0 0 (px_MQ g Q 0 0) 0 0 16 [some (.ref 0), some (.int (nI d)), none, none, none] [.int (nI (rdbl T M d))] w
    have e13 := rdbl_lt (M := M) (hO.2.2.1 d (by omega)).2
    refine r_if_eq (pc' := 19) (P := rdbl T M d = 0) (tgt := 25) dX6_latestEndOf_16 (by decide) rfl (nI_eq0 (n := rdbl T M d) (by omega)) (fun h16 => ?_) (fun h16 => ?_)
    · have hs : latS T M d = 0 := by rw [latS, if_neg (by omega)]
      refine r_iconst (pc' := 26) (v := (-1)) dX6_latestEndOf_25 rfl rfl ?_
      rw [show ((-1) : Int32) = ltI (latA T M d (latS T M d) 0) from by rw [show latA T M d (latS T M d) 0 = 0 from hs]; decide]
      refine r_istore_n (pc' := 27) (lo' := [some (.ref 0), some (.int (nI d)), some (.int (ltI (latA T M d (latS T M d) 0))), none, none]) dX6_latestEndOf_26 rfl (by decide) rfl ?_
      refine r_iconst (pc' := 28) (v := nI 0) dX6_latestEndOf_27 rfl rfl ?_
      refine r_istore_n (pc' := 29) (lo' := [some (.ref 0), some (.int (nI d)), some (.int (ltI (latA T M d (latS T M d) 0))), some (.int (nI 0)), none]) dX6_latestEndOf_28 rfl (by decide) rfl ?_
      have L29 : ∀ (fu : Nat) (j : Nat), tG T - j < fu → j ≤ tG T → Wp g yX6_latestEndOf cX6_latestEndOf 5 (some .int) 5 0 0 (px_MQ g Q 0 0) 0 0 29 [some (.ref 0), some (.int (nI d)), some (.int (ltI (latA T M d (latS T M d) j))), some (.int (nI j)), none] [] w := by
        intro fu; induction fu with
        | zero => intro j hm; exact absurd hm (Nat.not_lt_zero _)
        | succ fu ih =>
          intro j hm hj
          have hla := latA_le T M d j
          have ih29 := ih; clear ih
          refine r_iload_n (pc' := 30) dX6_latestEndOf_29 rfl rfl ?_
          refine r_aload_n (pc' := 31) dX6_latestEndOf_30 rfl rfl ?_
          refine r_get (pc' := 34) fX6_19 dX6_latestEndOf_31 rfl hX rfl ?_
          refine r_getN (pc' := 37) fX6_166 dX6_latestEndOf_34 rfl hT.o rfl ?_
          refine r_icmp_ge (pc' := 40) (P := tG T ≤ j) (tgt := 91) dX6_latestEndOf_37 (by decide) rfl (nI_leI (a := tG T) (b := j) (by omega) (by omega)) (fun h37 => ?_) (fun h37 => ?_)
          · obtain rfl : j = tG T := by omega
            refine r_iload_n (pc' := 92) dX6_latestEndOf_91 rfl rfl ?_
            refine r_ireturn dX6_latestEndOf_92 rfl ?_
            exact hQ
          · skip
            refine r_aload_n (pc' := 41) dX6_latestEndOf_40 rfl rfl ?_
            refine r_get (pc' := 44) fX6_19 dX6_latestEndOf_41 rfl hX rfl ?_
            refine r_iload_n (pc' := 45) dX6_latestEndOf_44 rfl rfl ?_
            refine r_iconst (pc' := 46) (v := nI 0) dX6_latestEndOf_45 rfl rfl ?_
            refine r_callV (pc' := 49) (av := [.int (nI j), .int (nI 0)]) (rest := []) kX5_partOfGoer vX5_partOfGoer lX6_130 dX6_latestEndOf_46 rfl hT.o rfl rfl rfl ⟨by decide, by decide, by decide⟩ rfl rfl (Nat.le_of_ble_eq_true rfl) (ct_X5_partOfGoer hT (i := j) (p := 0) (by omega) (by omega) ?_)
            show Wp g yX6_latestEndOf cX6_latestEndOf 5 (some .int) 5 0 0 (px_MQ g Q 0 0) 0 0 49 [some (.ref 0), some (.int (nI d)), some (.int (ltI (latA T M d (latS T M d) j))), some (.int (nI j)), none] [.int (nI (tg T j 0))] w
            have e46 := (hO.2.2.2 j (by omega))
            refine r_istore (pc' := 51) (lo' := [some (.ref 0), some (.int (nI d)), some (.int (ltI (latA T M d (latS T M d) j))), some (.int (nI j)), some (.int (nI (tg T j 0)))]) dX6_latestEndOf_49 rfl (by decide) rfl ?_
            refine r_aload_n (pc' := 52) dX6_latestEndOf_51 rfl rfl ?_
            refine r_get (pc' := 55) fX6_19 dX6_latestEndOf_52 rfl hX rfl ?_
            refine r_iload_n (pc' := 56) dX6_latestEndOf_55 rfl rfl ?_
            refine r_iconst (pc' := 57) (v := nI 1) dX6_latestEndOf_56 rfl rfl ?_
            refine r_callV (pc' := 60) (av := [.int (nI j), .int (nI 1)]) (rest := []) kX5_partOfGoer vX5_partOfGoer lX6_130 dX6_latestEndOf_57 rfl hT.o rfl rfl rfl ⟨by decide, by decide, by decide⟩ rfl rfl (Nat.le_of_ble_eq_true rfl) (ct_X5_partOfGoer hT (i := j) (p := 1) (by omega) (by omega) ?_)
            show Wp g yX6_latestEndOf cX6_latestEndOf 5 (some .int) 5 0 0 (px_MQ g Q 0 0) 0 0 60 [some (.ref 0), some (.int (nI d)), some (.int (ltI (latA T M d (latS T M d) j))), some (.int (nI j)), some (.int (nI (tg T j 0)))] [.int (nI (tg T j 1))] w
            have e57 := (hO.2.2.2 j (by omega))
            refine r_iload_n (pc' := 61) dX6_latestEndOf_60 rfl rfl ?_
            refine r_icmp_ne (pc' := 64) (P := tg T j 1 = d) (tgt := 85) dX6_latestEndOf_61 (by decide) rfl (nI_eq (a := tg T j 1) (b := d) (by omega) (by omega)) (fun h61 => ?_) (fun h61 => ?_)
            · skip
              refine r_iinc (pc' := 88) (lo' := [some (.ref 0), some (.int (nI d)), some (.int (ltI (latA T M d (latS T M d) j))), some (.int (nI (j + 1))), some (.int (nI (tg T j 0)))]) dX6_latestEndOf_85 rfl (by decide) rfl (nI_add j 1) rfl ?_
              refine r_goto (tgt := 29) dX6_latestEndOf_88 (by decide) ?_
              rw [show latA T M d (latS T M d) j = latA T M d (latS T M d) (j + 1) from by rw [latA, if_neg (fun q => by first | exact h61 q.1 | omega)]]
              refine r_drop 4 rfl ?_
              exact ih29 (j + 1) (by omega) (by omega)
            · skip
              refine r_iload (pc' := 66) dX6_latestEndOf_64 rfl rfl ?_
              refine r_aload_n (pc' := 67) dX6_latestEndOf_66 rfl rfl ?_
              refine r_get (pc' := 70) fX6_26 dX6_latestEndOf_67 rfl hX rfl ?_
              refine r_getN (pc' := 73) fX6_163 dX6_latestEndOf_70 rfl hM.o rfl ?_
              refine r_icmp_lt (pc' := 76) (P := tg T j 0 < nh M) (tgt := 85) dX6_latestEndOf_73 (by decide) rfl (nI_ltI (a := tg T j 0) (b := nh M) (by omega) (by omega)) (fun h73 => ?_) (fun h73 => ?_)
              · skip
                refine r_iinc (pc' := 88) (lo' := [some (.ref 0), some (.int (nI d)), some (.int (ltI (latA T M d (latS T M d) j))), some (.int (nI (j + 1))), some (.int (nI (tg T j 0)))]) dX6_latestEndOf_85 rfl (by decide) rfl (nI_add j 1) rfl ?_
                refine r_goto (tgt := 29) dX6_latestEndOf_88 (by decide) ?_
                rw [show latA T M d (latS T M d) j = latA T M d (latS T M d) (j + 1) from by rw [latA, if_neg (fun q => by first | exact h61 q.1 | omega)]]
                refine r_drop 4 rfl ?_
                exact ih29 (j + 1) (by omega) (by omega)
              · skip
                refine r_iload_n (pc' := 77) dX6_latestEndOf_76 rfl rfl ?_
                refine r_iload (pc' := 79) dX6_latestEndOf_77 rfl rfl ?_
                refine r_iconst (pc' := 80) (v := nI 1) dX6_latestEndOf_79 rfl rfl ?_
                refine r_isub (pc' := 81) (v := (nI (tg T j 0)) - (nI 1)) dX6_latestEndOf_80 rfl (rfl) ?_
                refine r_mmin (pc' := 84) (v := ltI (latA T M d (latS T M d) (j + 1))) lX6_279 mS_min mI mC_min dX6_latestEndOf_81 rfl ((ltI_min (a := latA T M d (latS T M d) j) (b := tg T j 0) (by omega) (by omega)).trans (congrArg ltI (latA_y h61 (by omega)).symm)) ⟨by decide, by decide⟩ (Nat.le_of_ble_eq_true rfl) ?_
                refine r_istore_n (pc' := 85) (lo' := [some (.ref 0), some (.int (nI d)), some (.int (ltI (latA T M d (latS T M d) (j + 1)))), some (.int (nI j)), some (.int (nI (tg T j 0)))]) dX6_latestEndOf_84 rfl (by decide) rfl ?_
                refine r_iinc (pc' := 88) (lo' := [some (.ref 0), some (.int (nI d)), some (.int (ltI (latA T M d (latS T M d) (j + 1)))), some (.int (nI (j + 1))), some (.int (nI (tg T j 0)))]) dX6_latestEndOf_85 rfl (by decide) rfl (nI_add j 1) rfl ?_
                refine r_goto (tgt := 29) dX6_latestEndOf_88 (by decide) ?_
                refine r_drop 4 rfl ?_
                exact ih29 (j + 1) (by omega) (by omega)
      exact L29 ((tG T) + 1) 0 (Nat.lt_succ_self _) (by omega)
    · have hs : latS T M d = 1001 := by rw [latS, if_pos ⟨hd, h16⟩]
      refine r_sipush (pc' := 22) (v := nI 1000) dX6_latestEndOf_19 rfl rfl ?_
      refine r_goto (tgt := 26) dX6_latestEndOf_22 (by decide) ?_
      rw [show (nI 1000 : Int32) = ltI (latA T M d (latS T M d) 0) from by rw [show latA T M d (latS T M d) 0 = 1001 from hs]; decide]
      refine r_istore_n (pc' := 27) (lo' := [some (.ref 0), some (.int (nI d)), some (.int (ltI (latA T M d (latS T M d) 0))), none, none]) dX6_latestEndOf_26 rfl (by decide) rfl ?_
      refine r_iconst (pc' := 28) (v := nI 0) dX6_latestEndOf_27 rfl rfl ?_
      refine r_istore_n (pc' := 29) (lo' := [some (.ref 0), some (.int (nI d)), some (.int (ltI (latA T M d (latS T M d) 0))), some (.int (nI 0)), none]) dX6_latestEndOf_28 rfl (by decide) rfl ?_
      have L29 : ∀ (fu : Nat) (j : Nat), tG T - j < fu → j ≤ tG T → Wp g yX6_latestEndOf cX6_latestEndOf 5 (some .int) 5 0 0 (px_MQ g Q 0 0) 0 0 29 [some (.ref 0), some (.int (nI d)), some (.int (ltI (latA T M d (latS T M d) j))), some (.int (nI j)), none] [] w := by
        intro fu; induction fu with
        | zero => intro j hm; exact absurd hm (Nat.not_lt_zero _)
        | succ fu ih =>
          intro j hm hj
          have hla := latA_le T M d j
          have ih29 := ih; clear ih
          refine r_iload_n (pc' := 30) dX6_latestEndOf_29 rfl rfl ?_
          refine r_aload_n (pc' := 31) dX6_latestEndOf_30 rfl rfl ?_
          refine r_get (pc' := 34) fX6_19 dX6_latestEndOf_31 rfl hX rfl ?_
          refine r_getN (pc' := 37) fX6_166 dX6_latestEndOf_34 rfl hT.o rfl ?_
          refine r_icmp_ge (pc' := 40) (P := tG T ≤ j) (tgt := 91) dX6_latestEndOf_37 (by decide) rfl (nI_leI (a := tG T) (b := j) (by omega) (by omega)) (fun h37 => ?_) (fun h37 => ?_)
          · obtain rfl : j = tG T := by omega
            refine r_iload_n (pc' := 92) dX6_latestEndOf_91 rfl rfl ?_
            refine r_ireturn dX6_latestEndOf_92 rfl ?_
            exact hQ
          · skip
            refine r_aload_n (pc' := 41) dX6_latestEndOf_40 rfl rfl ?_
            refine r_get (pc' := 44) fX6_19 dX6_latestEndOf_41 rfl hX rfl ?_
            refine r_iload_n (pc' := 45) dX6_latestEndOf_44 rfl rfl ?_
            refine r_iconst (pc' := 46) (v := nI 0) dX6_latestEndOf_45 rfl rfl ?_
            refine r_callV (pc' := 49) (av := [.int (nI j), .int (nI 0)]) (rest := []) kX5_partOfGoer vX5_partOfGoer lX6_130 dX6_latestEndOf_46 rfl hT.o rfl rfl rfl ⟨by decide, by decide, by decide⟩ rfl rfl (Nat.le_of_ble_eq_true rfl) (ct_X5_partOfGoer hT (i := j) (p := 0) (by omega) (by omega) ?_)
            show Wp g yX6_latestEndOf cX6_latestEndOf 5 (some .int) 5 0 0 (px_MQ g Q 0 0) 0 0 49 [some (.ref 0), some (.int (nI d)), some (.int (ltI (latA T M d (latS T M d) j))), some (.int (nI j)), none] [.int (nI (tg T j 0))] w
            have e46 := (hO.2.2.2 j (by omega))
            refine r_istore (pc' := 51) (lo' := [some (.ref 0), some (.int (nI d)), some (.int (ltI (latA T M d (latS T M d) j))), some (.int (nI j)), some (.int (nI (tg T j 0)))]) dX6_latestEndOf_49 rfl (by decide) rfl ?_
            refine r_aload_n (pc' := 52) dX6_latestEndOf_51 rfl rfl ?_
            refine r_get (pc' := 55) fX6_19 dX6_latestEndOf_52 rfl hX rfl ?_
            refine r_iload_n (pc' := 56) dX6_latestEndOf_55 rfl rfl ?_
            refine r_iconst (pc' := 57) (v := nI 1) dX6_latestEndOf_56 rfl rfl ?_
            refine r_callV (pc' := 60) (av := [.int (nI j), .int (nI 1)]) (rest := []) kX5_partOfGoer vX5_partOfGoer lX6_130 dX6_latestEndOf_57 rfl hT.o rfl rfl rfl ⟨by decide, by decide, by decide⟩ rfl rfl (Nat.le_of_ble_eq_true rfl) (ct_X5_partOfGoer hT (i := j) (p := 1) (by omega) (by omega) ?_)
            show Wp g yX6_latestEndOf cX6_latestEndOf 5 (some .int) 5 0 0 (px_MQ g Q 0 0) 0 0 60 [some (.ref 0), some (.int (nI d)), some (.int (ltI (latA T M d (latS T M d) j))), some (.int (nI j)), some (.int (nI (tg T j 0)))] [.int (nI (tg T j 1))] w
            have e57 := (hO.2.2.2 j (by omega))
            refine r_iload_n (pc' := 61) dX6_latestEndOf_60 rfl rfl ?_
            refine r_icmp_ne (pc' := 64) (P := tg T j 1 = d) (tgt := 85) dX6_latestEndOf_61 (by decide) rfl (nI_eq (a := tg T j 1) (b := d) (by omega) (by omega)) (fun h61 => ?_) (fun h61 => ?_)
            · skip
              refine r_iinc (pc' := 88) (lo' := [some (.ref 0), some (.int (nI d)), some (.int (ltI (latA T M d (latS T M d) j))), some (.int (nI (j + 1))), some (.int (nI (tg T j 0)))]) dX6_latestEndOf_85 rfl (by decide) rfl (nI_add j 1) rfl ?_
              refine r_goto (tgt := 29) dX6_latestEndOf_88 (by decide) ?_
              rw [show latA T M d (latS T M d) j = latA T M d (latS T M d) (j + 1) from by rw [latA, if_neg (fun q => by first | exact h61 q.1 | omega)]]
              refine r_drop 4 rfl ?_
              exact ih29 (j + 1) (by omega) (by omega)
            · skip
              refine r_iload (pc' := 66) dX6_latestEndOf_64 rfl rfl ?_
              refine r_aload_n (pc' := 67) dX6_latestEndOf_66 rfl rfl ?_
              refine r_get (pc' := 70) fX6_26 dX6_latestEndOf_67 rfl hX rfl ?_
              refine r_getN (pc' := 73) fX6_163 dX6_latestEndOf_70 rfl hM.o rfl ?_
              refine r_icmp_lt (pc' := 76) (P := tg T j 0 < nh M) (tgt := 85) dX6_latestEndOf_73 (by decide) rfl (nI_ltI (a := tg T j 0) (b := nh M) (by omega) (by omega)) (fun h73 => ?_) (fun h73 => ?_)
              · skip
                refine r_iinc (pc' := 88) (lo' := [some (.ref 0), some (.int (nI d)), some (.int (ltI (latA T M d (latS T M d) j))), some (.int (nI (j + 1))), some (.int (nI (tg T j 0)))]) dX6_latestEndOf_85 rfl (by decide) rfl (nI_add j 1) rfl ?_
                refine r_goto (tgt := 29) dX6_latestEndOf_88 (by decide) ?_
                rw [show latA T M d (latS T M d) j = latA T M d (latS T M d) (j + 1) from by rw [latA, if_neg (fun q => by first | exact h61 q.1 | omega)]]
                refine r_drop 4 rfl ?_
                exact ih29 (j + 1) (by omega) (by omega)
              · skip
                refine r_iload_n (pc' := 77) dX6_latestEndOf_76 rfl rfl ?_
                refine r_iload (pc' := 79) dX6_latestEndOf_77 rfl rfl ?_
                refine r_iconst (pc' := 80) (v := nI 1) dX6_latestEndOf_79 rfl rfl ?_
                refine r_isub (pc' := 81) (v := (nI (tg T j 0)) - (nI 1)) dX6_latestEndOf_80 rfl (rfl) ?_
                refine r_mmin (pc' := 84) (v := ltI (latA T M d (latS T M d) (j + 1))) lX6_279 mS_min mI mC_min dX6_latestEndOf_81 rfl ((ltI_min (a := latA T M d (latS T M d) j) (b := tg T j 0) (by omega) (by omega)).trans (congrArg ltI (latA_y h61 (by omega)).symm)) ⟨by decide, by decide⟩ (Nat.le_of_ble_eq_true rfl) ?_
                refine r_istore_n (pc' := 85) (lo' := [some (.ref 0), some (.int (nI d)), some (.int (ltI (latA T M d (latS T M d) (j + 1)))), some (.int (nI j)), some (.int (nI (tg T j 0)))]) dX6_latestEndOf_84 rfl (by decide) rfl ?_
                refine r_iinc (pc' := 88) (lo' := [some (.ref 0), some (.int (nI d)), some (.int (ltI (latA T M d (latS T M d) (j + 1)))), some (.int (nI (j + 1))), some (.int (nI (tg T j 0)))]) dX6_latestEndOf_85 rfl (by decide) rfl (nI_add j 1) rfl ?_
                refine r_goto (tgt := 29) dX6_latestEndOf_88 (by decide) ?_
                refine r_drop 4 rfl ?_
                exact ih29 (j + 1) (by omega) (by omega)
      exact L29 ((tG T) + 1) 0 (Nat.lt_succ_self _) (by omega)
theorem vst_c {T : px_T} {M : px_N} {l : List Nat} {d : Nat} (h : ¬ l.contains d = false) : ¬ vst T M l d = true := by
  have hc : l.contains d = true := by cases hq : l.contains d with
    | true => rfl
    | false => exact absurd hq h
  rw [vst, hc]; simp
set_option maxHeartbeats 200000 in
theorem ct_best_0 {g : px_G} {w : px_W} {Q : px_Q} {T : px_T} {M : px_N} {f : Nat → Int32} (hY : w[59]? = some (.inl (0, 4, .inl f))) (hf : ∀ d, d < 4 → f d = ltI (lat T M d)) (sb2 : tD T ≤ 4) (mB3 : nh M ≤ 24) {l : List Nat} (hV : Vl T M l) (hk : l.length = 4) (hQ : Q (some (.int (nI (o8 l)))) w) : Ct g yX6_bestOrder cX6_bestOrder 9 (some .int) (10 + 0) 0 0 [.ref 59, .int (nI (o8 l)), .int (nI l.length), .int (nI (en M l))] w Q := by
  refine Ct.of kX6_bestOrder (by omega) (lo := [some (.ref 59), some (.int (nI (o8 l))), some (.int (nI l.length)), some (.int (nI (en M l))), none, none, none, none, none]) rfl (px_cat1 rfl) (Nat.le_of_ble_eq_true rfl) ?_
  have hl := hV.d4 sb2
  have hl4 : l.length ≤ 4 := by omega
  have e0 := o8_b hl hl4
  have e2 := en_le sb2 mB3 hV
  refine r_iload_n (pc' := 1) dX6_bestOrder_0 rfl rfl ?_
  refine r_istore (pc' := 3) (lo' := [some (.ref 59), some (.int (nI (o8 l))), some (.int (nI l.length)), some (.int (nI (en M l))), some (.int (nI (o8 l))), none, none, none, none]) dX6_bestOrder_1 rfl (by decide) rfl ?_
  refine r_iload_n (pc' := 4) dX6_bestOrder_3 rfl rfl ?_
  refine r_iconst (pc' := 5) (v := nI 4) dX6_bestOrder_4 rfl rfl ?_
  refine r_icmp_lt (pc' := 8) (P := l.length < 4) (tgt := 11) dX6_bestOrder_5 (by decide) rfl (nI_ltI (a := l.length) (b := 4) (by omega) (by omega)) (fun h5 => ?_) (fun h5 => ?_)
  · skip
    exfalso; omega
  · skip
    refine r_iload (pc' := 10) dX6_bestOrder_8 rfl rfl ?_
    refine r_ireturn dX6_bestOrder_10 rfl ?_
    exact hQ
set_option maxHeartbeats 200000 in
theorem ct_best_s {g : px_G} {w : px_W} {Q : px_Q} {T : px_T} {M : px_N} {f : Nat → Int32} (hY : w[59]? = some (.inl (0, 4, .inl f))) (hf : ∀ d, d < 4 → f d = ltI (lat T M d)) (sb2 : tD T ≤ 4) (mB3 : nh M ≤ 24) {l : List Nat} (hV : Vl T M l) {k : Nat} (hk : l.length + (k + 1) = 4) (ih : ∀ (d : Nat) (Q : px_Q), Vl T M (d :: l) → Q (some (.int (nI (o8 (bb T M k (d :: l)))))) w → Ct g yX6_bestOrder cX6_bestOrder 9 (some .int) (10 + k) 0 0 [.ref 59, .int (nI (o8 (d :: l))), .int (nI (d :: l).length), .int (nI (en M (d :: l)))] w Q) (hQ : Q (some (.int (nI (o8 (bb T M (k + 1) l))))) w) : Ct g yX6_bestOrder cX6_bestOrder 9 (some .int) (10 + (k + 1)) 0 0 [.ref 59, .int (nI (o8 l)), .int (nI l.length), .int (nI (en M l))] w Q := by
  refine Ct.of kX6_bestOrder (by omega) (lo := [some (.ref 59), some (.int (nI (o8 l))), some (.int (nI l.length)), some (.int (nI (en M l))), none, none, none, none, none]) rfl (px_cat1 rfl) (Nat.le_of_ble_eq_true rfl) ?_
  have hl := hV.d4 sb2
  have hl4 : l.length ≤ 4 := by omega
  have e0 := o8_b hl hl4
  have e2 := en_le sb2 mB3 hV
  refine r_iload_n (pc' := 1) dX6_bestOrder_0 rfl rfl ?_
  refine r_istore (pc' := 3) (lo' := [some (.ref 59), some (.int (nI (o8 l))), some (.int (nI l.length)), some (.int (nI (en M l))), some (.int (nI (o8 l))), none, none, none, none]) dX6_bestOrder_1 rfl (by decide) rfl ?_
  refine r_iload_n (pc' := 4) dX6_bestOrder_3 rfl rfl ?_
  refine r_iconst (pc' := 5) (v := nI 4) dX6_bestOrder_4 rfl rfl ?_
  refine r_icmp_lt (pc' := 8) (P := l.length < 4) (tgt := 11) dX6_bestOrder_5 (by decide) rfl (nI_ltI (a := l.length) (b := 4) (by omega) (by omega)) (fun h5 => ?_) (fun h5 => ?_)
  · skip
    refine r_iconst (pc' := 12) (v := nI 0) dX6_bestOrder_11 rfl rfl ?_
    refine r_istore (pc' := 14) (lo' := [some (.ref 59), some (.int (nI (o8 l))), some (.int (nI l.length)), some (.int (nI (en M l))), some (.int (nI (o8 l))), some (.int (nI 0)), none, none, none]) dX6_bestOrder_12 rfl (by decide) rfl ?_
    have L14 : ∀ (fu : Nat) (d : Nat), 4 - d < fu → d ≤ 4 → Wp g yX6_bestOrder cX6_bestOrder 9 (some .int) (10 + (k + 1)) 0 0 (px_MQ g Q 0 0) 0 0 14 [some (.ref 59), some (.int (nI (o8 l))), some (.int (nI l.length)), some (.int (nI (en M l))), some (.int (nI (o8 (bbF (bb T M k) T M l d)))), some (.int (nI d)), none, none, none] [] w := by
      intro fu; induction fu with
      | zero => intro d hm; exact absurd hm (Nat.not_lt_zero _)
      | succ fu ih =>
        intro d hm hd
        have hB0 := bbF_V (T := T) (M := M) (f := bb T M k) hV (fun x hx => bb_V (k := k) hx (by rw [List.length_cons]; omega)) hl4 d
        have hB : (∀ x, x ∈ bbF (bb T M k) T M l d → x < 4) ∧ (bbF (bb T M k) T M l d).length ≤ 4 := ⟨hB0.1.d4 sb2, hB0.2⟩
        have ih14 := ih; clear ih
        refine r_iload (pc' := 16) dX6_bestOrder_14 rfl rfl ?_
        refine r_iconst (pc' := 17) (v := nI 4) dX6_bestOrder_16 rfl rfl ?_
        refine r_icmp_ge (pc' := 20) (P := 4 ≤ d) (tgt := 116) dX6_bestOrder_17 (by decide) rfl (nI_leI (a := 4) (b := d) (by omega) (by omega)) (fun h17 => ?_) (fun h17 => ?_)
        · obtain rfl : d = 4 := by omega
          refine r_iload (pc' := 118) dX6_bestOrder_116 rfl rfl ?_
          refine r_ireturn dX6_bestOrder_118 rfl ?_
          refine px_eq hQ ?_
          rw [show bb T M (k + 1) l = bbF (bb T M k) T M l (tD T) from rfl, bbF_4 sb2]
        · skip
          refine r_iload_n (pc' := 21) dX6_bestOrder_20 rfl rfl ?_
          refine r_if_ne (pc' := 24) (P := l.length = 0) (tgt := 28) dX6_bestOrder_21 (by decide) rfl (nI_eq0 (n := l.length) (by omega)) (fun h21 => ?_) (fun h21 => ?_)
          · obtain ⟨b, r, hle⟩ : ∃ b r, l = b :: r := by cases l with
              | nil => exact absurd rfl h21
              | cons b r => exact ⟨b, r, rfl⟩
            have hb4 := hl b (by rw [hle]; exact List.mem_cons_self ..)
            refine r_iload (pc' := 30) dX6_bestOrder_28 rfl rfl ?_
            refine r_iload_n (pc' := 31) dX6_bestOrder_30 rfl rfl ?_
            refine r_callS (pc' := 34) (av := [.int (nI (o8 l))]) (rest := [.int (nI d)]) kX6_lastReadOf vX6_lastReadOf lX6_206 dX6_bestOrder_31 rfl rfl rfl ⟨by omega, by decide, by decide⟩ rfl rfl (Nat.le_of_ble_eq_true rfl) (ct_lastRead_c hl hl4 hle ?_)
            show Wp g yX6_bestOrder cX6_bestOrder 9 (some .int) (10 + (k + 1)) 0 0 (px_MQ g Q 0 0) 0 0 34 [some (.ref 59), some (.int (nI (o8 l))), some (.int (nI l.length)), some (.int (nI (en M l))), some (.int (nI (o8 (bbF (bb T M k) T M l d)))), some (.int (nI d)), none, none, none] [.int (nI b), .int (nI d)] w
            refine r_isub (pc' := 35) (v := (nI d) - (nI b)) dX6_bestOrder_34 rfl (rfl) ?_
            refine r_mabs (pc' := 38) (v := nI (adf d b)) lX6_269 mS_abs mI mC_abs dX6_bestOrder_35 rfl (mabs (by omega) (by omega)) ⟨by decide, by decide⟩ (Nat.le_of_ble_eq_true rfl) ?_
            refine r_istore (pc' := 40) (lo' := [some (.ref 59), some (.int (nI (o8 l))), some (.int (nI l.length)), some (.int (nI (en M l))), some (.int (nI (o8 (bbF (bb T M k) T M l d)))), some (.int (nI d)), some (.int (nI (adf d b))), none, none]) dX6_bestOrder_38 rfl (by decide) rfl ?_
            refine r_iload_n (pc' := 41) dX6_bestOrder_40 rfl rfl ?_
            refine r_iload (pc' := 43) dX6_bestOrder_41 rfl rfl ?_
            refine r_iadd (pc' := 44) (v := nI (en M l + (adf d b))) dX6_bestOrder_43 rfl (nI_add (en M l) (adf d b)) ?_
            refine r_iconst (pc' := 45) (v := nI 1) dX6_bestOrder_44 rfl rfl ?_
            refine r_iadd (pc' := 46) (v := nI (enx M l (en M l) d)) dX6_bestOrder_45 rfl ((nI_add _ _).trans (by first | (rw [hln]; rfl) | (rw [hle]; rfl))) ?_
            have e51 := (enx_lt (e := en M l) (d := d) sb2 hV (by omega)).1
            refine r_istore (pc' := 48) (lo' := [some (.ref 59), some (.int (nI (o8 l))), some (.int (nI l.length)), some (.int (nI (en M l))), some (.int (nI (o8 (bbF (bb T M k) T M l d)))), some (.int (nI d)), some (.int (nI (adf d b))), some (.int (nI (enx M l (en M l) d))), none]) dX6_bestOrder_46 rfl (by decide) rfl ?_
            refine r_iload_n (pc' := 49) dX6_bestOrder_48 rfl rfl ?_
            refine r_iload (pc' := 51) dX6_bestOrder_49 rfl rfl ?_
            refine r_callS (pc' := 54) (av := [.int (nI (o8 l)), .int (nI d)]) (rest := []) kX6_isReadIn vX6_isReadIn lX6_272 dX6_bestOrder_51 rfl rfl rfl ⟨by omega, by decide, by decide⟩ rfl rfl (Nat.le_of_ble_eq_true rfl) (ct_X6_isReadIn hl hl4 (d := d) (by omega) ?_)
            show Wp g yX6_bestOrder cX6_bestOrder 9 (some .int) (10 + (k + 1)) 0 0 (px_MQ g Q 0 0) 0 0 54 [some (.ref 59), some (.int (nI (o8 l))), some (.int (nI l.length)), some (.int (nI (en M l))), some (.int (nI (o8 (bbF (bb T M k) T M l d)))), some (.int (nI d)), some (.int (nI (adf d b))), some (.int (nI (enx M l (en M l) d))), none] [.int (bI (l.contains d))] w
            refine r_if_ne (pc' := 57) (P := (l.contains d) = false) (tgt := 110) dX6_bestOrder_54 (by decide) rfl (bI_0) (fun h54 => ?_) (fun h54 => ?_)
            · skip
              refine r_iinc (pc' := 113) (lo' := [some (.ref 59), some (.int (nI (o8 l))), some (.int (nI l.length)), some (.int (nI (en M l))), some (.int (nI (o8 (bbF (bb T M k) T M l d)))), some (.int (nI (d + 1))), some (.int (nI (adf d b))), some (.int (nI (enx M l (en M l) d))), none]) dX6_bestOrder_110 rfl (by decide) rfl (nI_add d 1) rfl ?_
              refine r_goto (tgt := 14) dX6_bestOrder_113 (by decide) ?_
              have e1 : bbF (bb T M k) T M l d = bbF (bb T M k) T M l (d + 1) := by first | rw [bbF, if_pos hv, if_neg (by omega)] | rw [bbF, if_neg (vst_c h54)] | rw [bbF, if_neg (vst_l (by omega) h65)]
              have hi := ih14 (d + 1) (by omega) (by omega)
              rw [← e1] at hi
              refine r_drop 6 rfl ?_
              refine r_drop 7 rfl ?_
              exact hi
            · skip
              refine r_iload (pc' := 59) dX6_bestOrder_57 rfl rfl ?_
              refine r_aload_n (pc' := 60) dX6_bestOrder_59 rfl rfl ?_
              refine r_iload (pc' := 62) dX6_bestOrder_60 rfl rfl ?_
              refine r_callS (pc' := 65) (av := [.ref 59, .int (nI d)]) (rest := [.int (nI (enx M l (en M l) d))]) kX3_at vX3_at lX6_275 dX6_bestOrder_62 rfl rfl rfl ⟨by omega, by decide, by decide⟩ rfl rfl (Nat.le_of_ble_eq_true rfl) (ct_X3_at hY (by decide) (j := d) (by omega) (hf d (by omega)) ?_)
              show Wp g yX6_bestOrder cX6_bestOrder 9 (some .int) (10 + (k + 1)) 0 0 (px_MQ g Q 0 0) 0 0 65 [some (.ref 59), some (.int (nI (o8 l))), some (.int (nI l.length)), some (.int (nI (en M l))), some (.int (nI (o8 (bbF (bb T M k) T M l d)))), some (.int (nI d)), some (.int (nI (adf d b))), some (.int (nI (enx M l (en M l) d))), none] [.int (ltI (lat T M d)), .int (nI (enx M l (en M l) d))] w
              have e62 := lat_le T M d
              refine r_icmp_gt (pc' := 68) (P := lat T M d ≤ enx M l (en M l) d) (tgt := 110) dX6_bestOrder_65 (by decide) rfl (ltI_gt (by omega) (by omega)) (fun h65 => ?_) (fun h65 => ?_)
              · skip
                refine r_iinc (pc' := 113) (lo' := [some (.ref 59), some (.int (nI (o8 l))), some (.int (nI l.length)), some (.int (nI (en M l))), some (.int (nI (o8 (bbF (bb T M k) T M l d)))), some (.int (nI (d + 1))), some (.int (nI (adf d b))), some (.int (nI (enx M l (en M l) d))), none]) dX6_bestOrder_110 rfl (by decide) rfl (nI_add d 1) rfl ?_
                refine r_goto (tgt := 14) dX6_bestOrder_113 (by decide) ?_
                have e1 : bbF (bb T M k) T M l d = bbF (bb T M k) T M l (d + 1) := by first | rw [bbF, if_pos hv, if_neg (by omega)] | rw [bbF, if_neg (vst_c h54)] | rw [bbF, if_neg (vst_l (by omega) h65)]
                have hi := ih14 (d + 1) (by omega) (by omega)
                rw [← e1] at hi
                refine r_drop 6 rfl ?_
                refine r_drop 7 rfl ?_
                exact hi
              · skip
                refine r_aload_n (pc' := 69) dX6_bestOrder_68 rfl rfl ?_
                refine r_iload_n (pc' := 70) dX6_bestOrder_69 rfl rfl ?_
                refine r_bipush (pc' := 72) (v := nI 8) dX6_bestOrder_70 rfl rfl ?_
                refine r_imul (pc' := 73) (v := nI ((o8 l) * 8)) dX6_bestOrder_72 rfl (pk_mul (o8 l) 8) ?_
                refine r_iload (pc' := 75) dX6_bestOrder_73 rfl rfl ?_
                refine r_iadd (pc' := 76) (v := nI ((o8 l) * 8 + d)) dX6_bestOrder_75 rfl (nI_add ((o8 l) * 8) d) ?_
                refine r_iconst (pc' := 77) (v := nI 1) dX6_bestOrder_76 rfl rfl ?_
                refine r_iadd (pc' := 78) (v := nI ((o8 l) * 8 + d + 1)) dX6_bestOrder_77 rfl (nI_add ((o8 l) * 8 + d) 1) ?_
                refine r_iload_n (pc' := 79) dX6_bestOrder_78 rfl rfl ?_
                refine r_iconst (pc' := 80) (v := nI 1) dX6_bestOrder_79 rfl rfl ?_
                refine r_iadd (pc' := 81) (v := nI (l.length + 1)) dX6_bestOrder_80 rfl (nI_add l.length 1) ?_
                refine r_iload (pc' := 83) dX6_bestOrder_81 rfl rfl ?_
                have hv : vst T M l d = true := vst_y h54 h65 (by omega)
                have hVd : Vl T M (d :: l) := ⟨hv, hV⟩
                have hF0 := bb_V (k := k) hVd (by rw [List.length_cons]; omega)
                have hF : (∀ x, x ∈ bb T M k (d :: l) → x < 4) ∧ (bb T M k (d :: l)).length ≤ 4 := ⟨hF0.1.d4 sb2, hF0.2⟩
                refine r_callS (pc' := 86) (av := [.ref 59, .int (nI ((o8 l) * 8 + d + 1)), .int (nI (l.length + 1)), .int (nI (enx M l (en M l) d))]) (rest := []) kX6_bestOrder vX6_bestOrder lX6_199 dX6_bestOrder_83 rfl rfl rfl ⟨by omega, by decide, by decide⟩ rfl rfl (Nat.le_of_ble_eq_true rfl) (ih d _ hVd ?_)
                show Wp g yX6_bestOrder cX6_bestOrder 9 (some .int) (10 + (k + 1)) 0 0 (px_MQ g Q 0 0) 0 0 86 [some (.ref 59), some (.int (nI (o8 l))), some (.int (nI l.length)), some (.int (nI (en M l))), some (.int (nI (o8 (bbF (bb T M k) T M l d)))), some (.int (nI d)), some (.int (nI (adf d b))), some (.int (nI (enx M l (en M l) d))), none] [.int (nI (o8 (bb T M k (d :: l))))] w
                refine r_istore (pc' := 88) (lo' := [some (.ref 59), some (.int (nI (o8 l))), some (.int (nI l.length)), some (.int (nI (en M l))), some (.int (nI (o8 (bbF (bb T M k) T M l d)))), some (.int (nI d)), some (.int (nI (adf d b))), some (.int (nI (enx M l (en M l) d))), some (.int (nI (o8 (bb T M k (d :: l)))))]) dX6_bestOrder_86 rfl (by decide) rfl ?_
                refine r_iload (pc' := 90) dX6_bestOrder_88 rfl rfl ?_
                refine r_callS (pc' := 93) (av := [.int (nI (o8 (bb T M k (d :: l))))]) (rest := []) kX6_readIn vX6_readIn lX6_203 dX6_bestOrder_90 rfl rfl rfl ⟨by omega, by decide, by decide⟩ rfl rfl (Nat.le_of_ble_eq_true rfl) (ct_X6_readIn hF.1 hF.2 ?_)
                show Wp g yX6_bestOrder cX6_bestOrder 9 (some .int) (10 + (k + 1)) 0 0 (px_MQ g Q 0 0) 0 0 93 [some (.ref 59), some (.int (nI (o8 l))), some (.int (nI l.length)), some (.int (nI (en M l))), some (.int (nI (o8 (bbF (bb T M k) T M l d)))), some (.int (nI d)), some (.int (nI (adf d b))), some (.int (nI (enx M l (en M l) d))), some (.int (nI (o8 (bb T M k (d :: l)))))] [.int (nI ((bb T M k (d :: l)).length))] w
                refine r_iload (pc' := 95) dX6_bestOrder_93 rfl rfl ?_
                refine r_callS (pc' := 98) (av := [.int (nI (o8 (bbF (bb T M k) T M l d)))]) (rest := [.int (nI ((bb T M k (d :: l)).length))]) kX6_readIn vX6_readIn lX6_203 dX6_bestOrder_95 rfl rfl rfl ⟨by omega, by decide, by decide⟩ rfl rfl (Nat.le_of_ble_eq_true rfl) (ct_X6_readIn hB.1 hB.2 ?_)
                show Wp g yX6_bestOrder cX6_bestOrder 9 (some .int) (10 + (k + 1)) 0 0 (px_MQ g Q 0 0) 0 0 98 [some (.ref 59), some (.int (nI (o8 l))), some (.int (nI l.length)), some (.int (nI (en M l))), some (.int (nI (o8 (bbF (bb T M k) T M l d)))), some (.int (nI d)), some (.int (nI (adf d b))), some (.int (nI (enx M l (en M l) d))), some (.int (nI (o8 (bb T M k (d :: l)))))] [.int (nI ((bbF (bb T M k) T M l d).length)), .int (nI ((bb T M k (d :: l)).length))] w
                refine r_icmp_le (pc' := 101) (P := (bb T M k (d :: l)).length ≤ (bbF (bb T M k) T M l d).length) (tgt := 106) dX6_bestOrder_98 (by decide) rfl (nI_leI (a := (bb T M k (d :: l)).length) (b := (bbF (bb T M k) T M l d).length) (by omega) (by omega)) (fun h98 => ?_) (fun h98 => ?_)
                · skip
                  refine r_iload (pc' := 108) dX6_bestOrder_106 rfl rfl ?_
                  refine r_istore (pc' := 110) (lo' := [some (.ref 59), some (.int (nI (o8 l))), some (.int (nI l.length)), some (.int (nI (en M l))), some (.int (nI (o8 (bbF (bb T M k) T M l d)))), some (.int (nI d)), some (.int (nI (adf d b))), some (.int (nI (enx M l (en M l) d))), some (.int (nI (o8 (bb T M k (d :: l)))))]) dX6_bestOrder_108 rfl (by decide) rfl ?_
                  refine r_iinc (pc' := 113) (lo' := [some (.ref 59), some (.int (nI (o8 l))), some (.int (nI l.length)), some (.int (nI (en M l))), some (.int (nI (o8 (bbF (bb T M k) T M l d)))), some (.int (nI (d + 1))), some (.int (nI (adf d b))), some (.int (nI (enx M l (en M l) d))), some (.int (nI (o8 (bb T M k (d :: l)))))]) dX6_bestOrder_110 rfl (by decide) rfl (nI_add d 1) rfl ?_
                  refine r_goto (tgt := 14) dX6_bestOrder_113 (by decide) ?_
                  have e1 : bbF (bb T M k) T M l d = bbF (bb T M k) T M l (d + 1) := by first | rw [bbF, if_pos hv, if_neg (by omega)] | rw [bbF, if_neg (vst_c h54)] | rw [bbF, if_neg (vst_l (by omega) h65)]
                  have hi := ih14 (d + 1) (by omega) (by omega)
                  rw [← e1] at hi
                  refine r_drop 6 rfl ?_
                  refine r_drop 7 rfl ?_
                  refine r_drop 8 rfl ?_
                  exact hi
                · skip
                  refine r_iload (pc' := 103) dX6_bestOrder_101 rfl rfl ?_
                  refine r_goto (tgt := 108) dX6_bestOrder_103 (by decide) ?_
                  refine r_istore (pc' := 110) (lo' := [some (.ref 59), some (.int (nI (o8 l))), some (.int (nI l.length)), some (.int (nI (en M l))), some (.int (nI (o8 (bb T M k (d :: l))))), some (.int (nI d)), some (.int (nI (adf d b))), some (.int (nI (enx M l (en M l) d))), some (.int (nI (o8 (bb T M k (d :: l)))))]) dX6_bestOrder_108 rfl (by decide) rfl ?_
                  refine r_iinc (pc' := 113) (lo' := [some (.ref 59), some (.int (nI (o8 l))), some (.int (nI l.length)), some (.int (nI (en M l))), some (.int (nI (o8 (bb T M k (d :: l))))), some (.int (nI (d + 1))), some (.int (nI (adf d b))), some (.int (nI (enx M l (en M l) d))), some (.int (nI (o8 (bb T M k (d :: l)))))]) dX6_bestOrder_110 rfl (by decide) rfl (nI_add d 1) rfl ?_
                  refine r_goto (tgt := 14) dX6_bestOrder_113 (by decide) ?_
                  have e1 : bb T M k (d :: l) = bbF (bb T M k) T M l (d + 1) := by rw [bbF, if_pos hv, if_pos (by omega)]
                  have hi := ih14 (d + 1) (by omega) (by omega)
                  rw [← e1] at hi
                  refine r_drop 6 rfl ?_
                  refine r_drop 7 rfl ?_
                  refine r_drop 8 rfl ?_
                  exact hi
          · have hln : l = [] := List.eq_nil_of_length_eq_zero h21
            refine r_iconst (pc' := 25) (v := nI 0) dX6_bestOrder_24 rfl rfl ?_
            refine r_goto (tgt := 38) dX6_bestOrder_25 (by decide) ?_
            refine r_istore (pc' := 40) (lo' := [some (.ref 59), some (.int (nI (o8 l))), some (.int (nI l.length)), some (.int (nI (en M l))), some (.int (nI (o8 (bbF (bb T M k) T M l d)))), some (.int (nI d)), some (.int (nI 0)), none, none]) dX6_bestOrder_38 rfl (by decide) rfl ?_
            refine r_iload_n (pc' := 41) dX6_bestOrder_40 rfl rfl ?_
            refine r_iload (pc' := 43) dX6_bestOrder_41 rfl rfl ?_
            refine r_iadd (pc' := 44) (v := nI (en M l + 0)) dX6_bestOrder_43 rfl (nI_add (en M l) 0) ?_
            refine r_iconst (pc' := 45) (v := nI 1) dX6_bestOrder_44 rfl rfl ?_
            refine r_iadd (pc' := 46) (v := nI (enx M l (en M l) d)) dX6_bestOrder_45 rfl ((nI_add _ _).trans (by first | (rw [hln]; rfl) | (rw [hle]; rfl))) ?_
            have e51 := (enx_lt (e := en M l) (d := d) sb2 hV (by omega)).1
            refine r_istore (pc' := 48) (lo' := [some (.ref 59), some (.int (nI (o8 l))), some (.int (nI l.length)), some (.int (nI (en M l))), some (.int (nI (o8 (bbF (bb T M k) T M l d)))), some (.int (nI d)), some (.int (nI 0)), some (.int (nI (enx M l (en M l) d))), none]) dX6_bestOrder_46 rfl (by decide) rfl ?_
            refine r_iload_n (pc' := 49) dX6_bestOrder_48 rfl rfl ?_
            refine r_iload (pc' := 51) dX6_bestOrder_49 rfl rfl ?_
            refine r_callS (pc' := 54) (av := [.int (nI (o8 l)), .int (nI d)]) (rest := []) kX6_isReadIn vX6_isReadIn lX6_272 dX6_bestOrder_51 rfl rfl rfl ⟨by omega, by decide, by decide⟩ rfl rfl (Nat.le_of_ble_eq_true rfl) (ct_X6_isReadIn hl hl4 (d := d) (by omega) ?_)
            show Wp g yX6_bestOrder cX6_bestOrder 9 (some .int) (10 + (k + 1)) 0 0 (px_MQ g Q 0 0) 0 0 54 [some (.ref 59), some (.int (nI (o8 l))), some (.int (nI l.length)), some (.int (nI (en M l))), some (.int (nI (o8 (bbF (bb T M k) T M l d)))), some (.int (nI d)), some (.int (nI 0)), some (.int (nI (enx M l (en M l) d))), none] [.int (bI (l.contains d))] w
            refine r_if_ne (pc' := 57) (P := (l.contains d) = false) (tgt := 110) dX6_bestOrder_54 (by decide) rfl (bI_0) (fun h54 => ?_) (fun h54 => ?_)
            · skip
              refine r_iinc (pc' := 113) (lo' := [some (.ref 59), some (.int (nI (o8 l))), some (.int (nI l.length)), some (.int (nI (en M l))), some (.int (nI (o8 (bbF (bb T M k) T M l d)))), some (.int (nI (d + 1))), some (.int (nI 0)), some (.int (nI (enx M l (en M l) d))), none]) dX6_bestOrder_110 rfl (by decide) rfl (nI_add d 1) rfl ?_
              refine r_goto (tgt := 14) dX6_bestOrder_113 (by decide) ?_
              have e1 : bbF (bb T M k) T M l d = bbF (bb T M k) T M l (d + 1) := by first | rw [bbF, if_pos hv, if_neg (by omega)] | rw [bbF, if_neg (vst_c h54)] | rw [bbF, if_neg (vst_l (by omega) h65)]
              have hi := ih14 (d + 1) (by omega) (by omega)
              rw [← e1] at hi
              refine r_drop 6 rfl ?_
              refine r_drop 7 rfl ?_
              exact hi
            · skip
              refine r_iload (pc' := 59) dX6_bestOrder_57 rfl rfl ?_
              refine r_aload_n (pc' := 60) dX6_bestOrder_59 rfl rfl ?_
              refine r_iload (pc' := 62) dX6_bestOrder_60 rfl rfl ?_
              refine r_callS (pc' := 65) (av := [.ref 59, .int (nI d)]) (rest := [.int (nI (enx M l (en M l) d))]) kX3_at vX3_at lX6_275 dX6_bestOrder_62 rfl rfl rfl ⟨by omega, by decide, by decide⟩ rfl rfl (Nat.le_of_ble_eq_true rfl) (ct_X3_at hY (by decide) (j := d) (by omega) (hf d (by omega)) ?_)
              show Wp g yX6_bestOrder cX6_bestOrder 9 (some .int) (10 + (k + 1)) 0 0 (px_MQ g Q 0 0) 0 0 65 [some (.ref 59), some (.int (nI (o8 l))), some (.int (nI l.length)), some (.int (nI (en M l))), some (.int (nI (o8 (bbF (bb T M k) T M l d)))), some (.int (nI d)), some (.int (nI 0)), some (.int (nI (enx M l (en M l) d))), none] [.int (ltI (lat T M d)), .int (nI (enx M l (en M l) d))] w
              have e62 := lat_le T M d
              refine r_icmp_gt (pc' := 68) (P := lat T M d ≤ enx M l (en M l) d) (tgt := 110) dX6_bestOrder_65 (by decide) rfl (ltI_gt (by omega) (by omega)) (fun h65 => ?_) (fun h65 => ?_)
              · skip
                refine r_iinc (pc' := 113) (lo' := [some (.ref 59), some (.int (nI (o8 l))), some (.int (nI l.length)), some (.int (nI (en M l))), some (.int (nI (o8 (bbF (bb T M k) T M l d)))), some (.int (nI (d + 1))), some (.int (nI 0)), some (.int (nI (enx M l (en M l) d))), none]) dX6_bestOrder_110 rfl (by decide) rfl (nI_add d 1) rfl ?_
                refine r_goto (tgt := 14) dX6_bestOrder_113 (by decide) ?_
                have e1 : bbF (bb T M k) T M l d = bbF (bb T M k) T M l (d + 1) := by first | rw [bbF, if_pos hv, if_neg (by omega)] | rw [bbF, if_neg (vst_c h54)] | rw [bbF, if_neg (vst_l (by omega) h65)]
                have hi := ih14 (d + 1) (by omega) (by omega)
                rw [← e1] at hi
                refine r_drop 6 rfl ?_
                refine r_drop 7 rfl ?_
                exact hi
              · skip
                refine r_aload_n (pc' := 69) dX6_bestOrder_68 rfl rfl ?_
                refine r_iload_n (pc' := 70) dX6_bestOrder_69 rfl rfl ?_
                refine r_bipush (pc' := 72) (v := nI 8) dX6_bestOrder_70 rfl rfl ?_
                refine r_imul (pc' := 73) (v := nI ((o8 l) * 8)) dX6_bestOrder_72 rfl (pk_mul (o8 l) 8) ?_
                refine r_iload (pc' := 75) dX6_bestOrder_73 rfl rfl ?_
                refine r_iadd (pc' := 76) (v := nI ((o8 l) * 8 + d)) dX6_bestOrder_75 rfl (nI_add ((o8 l) * 8) d) ?_
                refine r_iconst (pc' := 77) (v := nI 1) dX6_bestOrder_76 rfl rfl ?_
                refine r_iadd (pc' := 78) (v := nI ((o8 l) * 8 + d + 1)) dX6_bestOrder_77 rfl (nI_add ((o8 l) * 8 + d) 1) ?_
                refine r_iload_n (pc' := 79) dX6_bestOrder_78 rfl rfl ?_
                refine r_iconst (pc' := 80) (v := nI 1) dX6_bestOrder_79 rfl rfl ?_
                refine r_iadd (pc' := 81) (v := nI (l.length + 1)) dX6_bestOrder_80 rfl (nI_add l.length 1) ?_
                refine r_iload (pc' := 83) dX6_bestOrder_81 rfl rfl ?_
                have hv : vst T M l d = true := vst_y h54 h65 (by omega)
                have hVd : Vl T M (d :: l) := ⟨hv, hV⟩
                have hF0 := bb_V (k := k) hVd (by rw [List.length_cons]; omega)
                have hF : (∀ x, x ∈ bb T M k (d :: l) → x < 4) ∧ (bb T M k (d :: l)).length ≤ 4 := ⟨hF0.1.d4 sb2, hF0.2⟩
                refine r_callS (pc' := 86) (av := [.ref 59, .int (nI ((o8 l) * 8 + d + 1)), .int (nI (l.length + 1)), .int (nI (enx M l (en M l) d))]) (rest := []) kX6_bestOrder vX6_bestOrder lX6_199 dX6_bestOrder_83 rfl rfl rfl ⟨by omega, by decide, by decide⟩ rfl rfl (Nat.le_of_ble_eq_true rfl) (ih d _ hVd ?_)
                show Wp g yX6_bestOrder cX6_bestOrder 9 (some .int) (10 + (k + 1)) 0 0 (px_MQ g Q 0 0) 0 0 86 [some (.ref 59), some (.int (nI (o8 l))), some (.int (nI l.length)), some (.int (nI (en M l))), some (.int (nI (o8 (bbF (bb T M k) T M l d)))), some (.int (nI d)), some (.int (nI 0)), some (.int (nI (enx M l (en M l) d))), none] [.int (nI (o8 (bb T M k (d :: l))))] w
                refine r_istore (pc' := 88) (lo' := [some (.ref 59), some (.int (nI (o8 l))), some (.int (nI l.length)), some (.int (nI (en M l))), some (.int (nI (o8 (bbF (bb T M k) T M l d)))), some (.int (nI d)), some (.int (nI 0)), some (.int (nI (enx M l (en M l) d))), some (.int (nI (o8 (bb T M k (d :: l)))))]) dX6_bestOrder_86 rfl (by decide) rfl ?_
                refine r_iload (pc' := 90) dX6_bestOrder_88 rfl rfl ?_
                refine r_callS (pc' := 93) (av := [.int (nI (o8 (bb T M k (d :: l))))]) (rest := []) kX6_readIn vX6_readIn lX6_203 dX6_bestOrder_90 rfl rfl rfl ⟨by omega, by decide, by decide⟩ rfl rfl (Nat.le_of_ble_eq_true rfl) (ct_X6_readIn hF.1 hF.2 ?_)
                show Wp g yX6_bestOrder cX6_bestOrder 9 (some .int) (10 + (k + 1)) 0 0 (px_MQ g Q 0 0) 0 0 93 [some (.ref 59), some (.int (nI (o8 l))), some (.int (nI l.length)), some (.int (nI (en M l))), some (.int (nI (o8 (bbF (bb T M k) T M l d)))), some (.int (nI d)), some (.int (nI 0)), some (.int (nI (enx M l (en M l) d))), some (.int (nI (o8 (bb T M k (d :: l)))))] [.int (nI ((bb T M k (d :: l)).length))] w
                refine r_iload (pc' := 95) dX6_bestOrder_93 rfl rfl ?_
                refine r_callS (pc' := 98) (av := [.int (nI (o8 (bbF (bb T M k) T M l d)))]) (rest := [.int (nI ((bb T M k (d :: l)).length))]) kX6_readIn vX6_readIn lX6_203 dX6_bestOrder_95 rfl rfl rfl ⟨by omega, by decide, by decide⟩ rfl rfl (Nat.le_of_ble_eq_true rfl) (ct_X6_readIn hB.1 hB.2 ?_)
                show Wp g yX6_bestOrder cX6_bestOrder 9 (some .int) (10 + (k + 1)) 0 0 (px_MQ g Q 0 0) 0 0 98 [some (.ref 59), some (.int (nI (o8 l))), some (.int (nI l.length)), some (.int (nI (en M l))), some (.int (nI (o8 (bbF (bb T M k) T M l d)))), some (.int (nI d)), some (.int (nI 0)), some (.int (nI (enx M l (en M l) d))), some (.int (nI (o8 (bb T M k (d :: l)))))] [.int (nI ((bbF (bb T M k) T M l d).length)), .int (nI ((bb T M k (d :: l)).length))] w
                refine r_icmp_le (pc' := 101) (P := (bb T M k (d :: l)).length ≤ (bbF (bb T M k) T M l d).length) (tgt := 106) dX6_bestOrder_98 (by decide) rfl (nI_leI (a := (bb T M k (d :: l)).length) (b := (bbF (bb T M k) T M l d).length) (by omega) (by omega)) (fun h98 => ?_) (fun h98 => ?_)
                · skip
                  refine r_iload (pc' := 108) dX6_bestOrder_106 rfl rfl ?_
                  refine r_istore (pc' := 110) (lo' := [some (.ref 59), some (.int (nI (o8 l))), some (.int (nI l.length)), some (.int (nI (en M l))), some (.int (nI (o8 (bbF (bb T M k) T M l d)))), some (.int (nI d)), some (.int (nI 0)), some (.int (nI (enx M l (en M l) d))), some (.int (nI (o8 (bb T M k (d :: l)))))]) dX6_bestOrder_108 rfl (by decide) rfl ?_
                  refine r_iinc (pc' := 113) (lo' := [some (.ref 59), some (.int (nI (o8 l))), some (.int (nI l.length)), some (.int (nI (en M l))), some (.int (nI (o8 (bbF (bb T M k) T M l d)))), some (.int (nI (d + 1))), some (.int (nI 0)), some (.int (nI (enx M l (en M l) d))), some (.int (nI (o8 (bb T M k (d :: l)))))]) dX6_bestOrder_110 rfl (by decide) rfl (nI_add d 1) rfl ?_
                  refine r_goto (tgt := 14) dX6_bestOrder_113 (by decide) ?_
                  have e1 : bbF (bb T M k) T M l d = bbF (bb T M k) T M l (d + 1) := by first | rw [bbF, if_pos hv, if_neg (by omega)] | rw [bbF, if_neg (vst_c h54)] | rw [bbF, if_neg (vst_l (by omega) h65)]
                  have hi := ih14 (d + 1) (by omega) (by omega)
                  rw [← e1] at hi
                  refine r_drop 6 rfl ?_
                  refine r_drop 7 rfl ?_
                  refine r_drop 8 rfl ?_
                  exact hi
                · skip
                  refine r_iload (pc' := 103) dX6_bestOrder_101 rfl rfl ?_
                  refine r_goto (tgt := 108) dX6_bestOrder_103 (by decide) ?_
                  refine r_istore (pc' := 110) (lo' := [some (.ref 59), some (.int (nI (o8 l))), some (.int (nI l.length)), some (.int (nI (en M l))), some (.int (nI (o8 (bb T M k (d :: l))))), some (.int (nI d)), some (.int (nI 0)), some (.int (nI (enx M l (en M l) d))), some (.int (nI (o8 (bb T M k (d :: l)))))]) dX6_bestOrder_108 rfl (by decide) rfl ?_
                  refine r_iinc (pc' := 113) (lo' := [some (.ref 59), some (.int (nI (o8 l))), some (.int (nI l.length)), some (.int (nI (en M l))), some (.int (nI (o8 (bb T M k (d :: l))))), some (.int (nI (d + 1))), some (.int (nI 0)), some (.int (nI (enx M l (en M l) d))), some (.int (nI (o8 (bb T M k (d :: l)))))]) dX6_bestOrder_110 rfl (by decide) rfl (nI_add d 1) rfl ?_
                  refine r_goto (tgt := 14) dX6_bestOrder_113 (by decide) ?_
                  have e1 : bb T M k (d :: l) = bbF (bb T M k) T M l (d + 1) := by rw [bbF, if_pos hv, if_pos (by omega)]
                  have hi := ih14 (d + 1) (by omega) (by omega)
                  rw [← e1] at hi
                  refine r_drop 6 rfl ?_
                  refine r_drop 7 rfl ?_
                  refine r_drop 8 rfl ?_
                  exact hi
    exact L14 ((4) + 1) 0 (Nat.lt_succ_self _) (by omega)
  · skip
    exfalso; omega
theorem ct_best {g : px_G} {w : px_W} {T : px_T} {M : px_N} {f : Nat → Int32} (hY : w[59]? = some (.inl (0, 4, .inl f))) (hf : ∀ d, d < 4 → f d = ltI (lat T M d)) (sb2 : tD T ≤ 4) (mB3 : nh M ≤ 24) : ∀ (k : Nat) {l : List Nat} (hV : Vl T M l) (hk : l.length + k = 4) {Q : px_Q} (hQ : Q (some (.int (nI (o8 (bb T M k l))))) w), Ct g yX6_bestOrder cX6_bestOrder 9 (some .int) (10 + k) 0 0 [.ref 59, .int (nI (o8 l)), .int (nI l.length), .int (nI (en M l))] w Q
  | 0, _, hV, hk, _, hQ => ct_best_0 hY hf sb2 mB3 hV (by omega) hQ
  | k + 1, l, hV, hk, _, hQ => ct_best_s hY hf sb2 mB3 hV hk (fun d Q hd hQ => ct_best hY hf sb2 mB3 k hd (by rw [List.length_cons]; omega) hQ) hQ
