theorem o8_b {l : List Nat} (h : ∀ d, d ∈ l → d < 4) (h4 : l.length ≤ 4) : o8 l < 4096 := show o8 l < 8 ^ 4 from Nat.lt_of_lt_of_le (o8_lt h) (Nat.pow_le_pow_right (by decide) h4)
theorem o8_sh {l : List Nat} (h : ∀ d, d ∈ l → d < 4) (k : Nat) : o8 l / 2 ^ (3 * k) = o8 (l.drop k) := by
  rw [Nat.pow_mul]; exact o8_drop k h
theorem o8_k {l : List Nat} (h : ∀ d, d ∈ l → d < 4) (k : Nat) : o8 l / 2 ^ (3 * k) = 0 ↔ l.length ≤ k := by
  rw [o8_sh h, o8_0, List.drop_eq_nil_iff]
def lstI (l : List Nat) : Int32 := match l with
  | [] => -1
  | d :: _ => nI d
theorem lst_sub {l : List Nat} (h : ∀ d, d ∈ l → d < 4) : nI (o8 l % 8) - nI 1 = lstI l := by
  cases l with
  | nil => rfl
  | cons d l =>
    have hd := h d (List.mem_cons_self ..)
    show nI ((o8 l * 8 + d + 1) % 8) - nI 1 = nI d
    rw [show (o8 l * 8 + d + 1) % 8 = d + 1 by omega]
    exact pk_sub (a := d + 1) (b := 1) (by omega)
theorem and7 (n : Nat) : n &&& 7 = n % 8 := Nat.and_two_pow_sub_one_eq_mod n 3
theorem lst_eq {l : List Nat} (h : ∀ d, d ∈ l → d < 4) {k d : Nat} (hd : d < 4) : lstI (l.drop k) = nI d ↔ l[k]? = some d := by
  have e : l[k]? = (l.drop k).head? := by rw [List.head?_drop]
  rw [e]
  cases hl : l.drop k with
  | nil => exact ⟨fun q => absurd q.symm (nI_neg (by omega) (by decide)), fun q => by cases q⟩
  | cons b r =>
    have hb : b < 4 := h b (List.mem_of_mem_drop (by rw [hl]; exact List.mem_cons_self ..))
    show nI b = nI d ↔ some b = some d
    rw [nI_eq (by omega) (by omega)]
    exact ⟨fun q => by rw [q], fun q => by injection q⟩
theorem mabs {d b : Nat} (hd : d < 2 ^ 30) (hb : b < 2 ^ 30) : (if 0 ≤ nI d - nI b then nI d - nI b else 0 - (nI d - nI b)) = nI (adf d b) := by
  unfold adf
  by_cases h : b ≤ d
  · rw [if_pos ((ge_sub hd hb).mpr h), if_pos h]; exact pk_sub (by omega)
  · rw [if_neg (fun q => h ((ge_sub hd hb).mp q)), if_neg h, Int32.zero_sub, Int32.neg_sub]; exact pk_sub (by omega)
theorem shr3 {l : List Nat} (h : ∀ d, d ∈ l → d < 4) (h4 : l.length ≤ 4) {k : Nat} (hk : k ≤ 4) : nI (o8 l) >>> (nI (3 * k) &&& 31) = nI (o8 (l.drop k)) := (shr_n (by omega) (by have := o8_b h h4; omega)).trans (by rw [o8_sh h])
set_option maxHeartbeats 200000 in
theorem ct_X6_readIn {g : px_G} {w : px_W} {Q : px_Q} {l : List Nat} (hl : ∀ d, d ∈ l → d < 4) (hl4 : l.length ≤ 4) (hQ : Q (some (.int (nI l.length))) w) : Ct g yX6_readIn cX6_readIn 3 (some .int) 1 0 0 [.int (nI (o8 l))] w Q := by
  refine Ct.of kX6_readIn (by omega) (lo := [some (.int (nI (o8 l))), none, none]) rfl (px_cat1 rfl) (Nat.le_of_ble_eq_true rfl) ?_
  have e0 := o8_b hl hl4
  refine r_iconst (pc' := 1) (v := nI 0) dX6_readIn_0 rfl rfl ?_
  refine r_istore_n (pc' := 2) (lo' := [some (.int (nI (o8 l))), some (.int (nI 0)), none]) dX6_readIn_1 rfl (by decide) rfl ?_
  refine r_iconst (pc' := 3) (v := nI 0) dX6_readIn_2 rfl rfl ?_
  refine r_istore_n (pc' := 4) (lo' := [some (.int (nI (o8 l))), some (.int (nI 0)), some (.int (nI 0))]) dX6_readIn_3 rfl (by decide) rfl ?_
  have L4 : ∀ (fu : Nat) (k n : Nat), 4 - k < fu → k ≤ 4 → n = k ∧ k ≤ l.length ∨ n = l.length ∧ l.length ≤ k → Wp g yX6_readIn cX6_readIn 3 (some .int) 1 0 0 (px_MQ g Q 0 0) 0 0 4 [some (.int (nI (o8 l))), some (.int (nI n)), some (.int (nI k))] [] w := by
    intro fu; induction fu with
    | zero => intro k n hm; exact absurd hm (Nat.not_lt_zero _)
    | succ fu ih =>
      intro k n hm hk hn
      have ih4 := ih; clear ih
      refine r_iload_n (pc' := 5) dX6_readIn_4 rfl rfl ?_
      refine r_iconst (pc' := 6) (v := nI 4) dX6_readIn_5 rfl rfl ?_
      refine r_icmp_ge (pc' := 9) (P := 4 ≤ k) (tgt := 26) dX6_readIn_6 (by decide) rfl (nI_leI (a := 4) (b := k) (by omega) (by omega)) (fun h6 => ?_) (fun h6 => ?_)
      · have hk2 : k = 4 := by omega
        have hn2 : n = l.length := by omega
        subst hn2
        refine r_iload_n (pc' := 27) dX6_readIn_26 rfl rfl ?_
        refine r_ireturn dX6_readIn_27 rfl ?_
        exact hQ
      · skip
        refine r_iload_n (pc' := 10) dX6_readIn_9 rfl rfl ?_
        refine r_iconst (pc' := 11) (v := nI 3) dX6_readIn_10 rfl rfl ?_
        refine r_iload_n (pc' := 12) dX6_readIn_11 rfl rfl ?_
        refine r_imul (pc' := 13) (v := nI (3 * k)) dX6_readIn_12 rfl (pk_mul 3 k) ?_
        refine r_ishr (pc' := 14) (v := nI ((o8 l) / 2 ^ (3 * k))) dX6_readIn_13 rfl (shr_n (a := o8 l) (b := 3 * k) (by omega) (by omega)) ?_
        refine r_if_eq (pc' := 17) (P := l.length ≤ k) (tgt := 20) dX6_readIn_14 (by decide) rfl ((nI_eq0 (n := o8 l / 2 ^ (3 * k)) (Nat.lt_of_le_of_lt (Nat.div_le_self _ _) (by omega))).trans (o8_k hl k)) (fun h14 => ?_) (fun h14 => ?_)
        · skip
          refine r_iinc (pc' := 23) (lo' := [some (.int (nI (o8 l))), some (.int (nI n)), some (.int (nI (k + 1)))]) dX6_readIn_20 rfl (by decide) rfl (nI_add k 1) rfl ?_
          refine r_goto (tgt := 4) dX6_readIn_23 (by decide) ?_
          exact ih4 (k + 1) n (by omega) (by omega) (by omega)
        · skip
          refine r_iinc (pc' := 20) (lo' := [some (.int (nI (o8 l))), some (.int (nI (n + 1))), some (.int (nI k))]) dX6_readIn_17 rfl (by decide) rfl (nI_add n 1) rfl ?_
          refine r_iinc (pc' := 23) (lo' := [some (.int (nI (o8 l))), some (.int (nI (n + 1))), some (.int (nI (k + 1)))]) dX6_readIn_20 rfl (by decide) rfl (nI_add k 1) rfl ?_
          refine r_goto (tgt := 4) dX6_readIn_23 (by decide) ?_
          exact ih4 (k + 1) (n + 1) (by omega) (by omega) (by omega)
  exact L4 ((4) + 1) 0 0 (Nat.lt_succ_self _) (by omega) (by omega)
set_option maxHeartbeats 200000 in
theorem ct_X6_lastReadOf {g : px_G} {w : px_W} {Q : px_Q} {l : List Nat} (hl : ∀ d, d ∈ l → d < 4) (hl4 : l.length ≤ 4) (hQ : Q (some (.int (lstI l))) w) : Ct g yX6_lastReadOf cX6_lastReadOf 1 (some .int) 1 0 0 [.int (nI (o8 l))] w Q := by
  refine Ct.of kX6_lastReadOf (by omega) (lo := [some (.int (nI (o8 l)))]) rfl (px_cat1 rfl) (Nat.le_of_ble_eq_true rfl) ?_
  refine r_iload_n (pc' := 1) dX6_lastReadOf_0 rfl rfl ?_
  refine r_bipush (pc' := 3) (v := nI 7) dX6_lastReadOf_1 rfl rfl ?_
  refine r_iand (pc' := 4) (v := nI (o8 l % 8)) dX6_lastReadOf_3 rfl ((and_n _ _).trans (by rw [and7])) ?_
  refine r_iconst (pc' := 5) (v := nI 1) dX6_lastReadOf_4 rfl rfl ?_
  refine r_isub (pc' := 6) (v := lstI l) dX6_lastReadOf_5 rfl (lst_sub hl) ?_
  refine r_ireturn dX6_lastReadOf_6 rfl ?_
  exact hQ
theorem ct_lastRead_c {g : px_G} {w : px_W} {Q : px_Q} {l : List Nat} (hl : ∀ d, d ∈ l → d < 4) (hl4 : l.length ≤ 4) {b : Nat} {r : List Nat} (he : l = b :: r) (hQ : Q (some (.int (nI b))) w) : Ct g yX6_lastReadOf cX6_lastReadOf 1 (some .int) 1 0 0 [.int (nI (o8 l))] w Q := ct_X6_lastReadOf hl hl4 (by rw [he]; exact hQ)
set_option maxHeartbeats 200000 in
theorem ct_X6_isReadIn {g : px_G} {w : px_W} {Q : px_Q} {l : List Nat} (hl : ∀ d, d ∈ l → d < 4) (hl4 : l.length ≤ 4) {d : Nat} (hd : d < 4) (hQ : Q (some (.int (bI (l.contains d)))) w) : Ct g yX6_isReadIn cX6_isReadIn 3 (some .boolean) 2 0 0 [.int (nI (o8 l)), .int (nI d)] w Q := by
  refine Ct.of kX6_isReadIn (by omega) (lo := [some (.int (nI (o8 l))), some (.int (nI d)), none]) rfl (px_cat1 rfl) (Nat.le_of_ble_eq_true rfl) ?_
  refine r_iconst (pc' := 1) (v := nI 0) dX6_isReadIn_0 rfl rfl ?_
  refine r_istore_n (pc' := 2) (lo' := [some (.int (nI (o8 l))), some (.int (nI d)), some (.int (nI 0))]) dX6_isReadIn_1 rfl (by decide) rfl ?_
  have L2 : ∀ (fu : Nat) (k : Nat), 4 - k < fu → k ≤ 4 → (∀ i, i < k → l[i]? ≠ some d) → Wp g yX6_isReadIn cX6_isReadIn 3 (some .boolean) 2 0 0 (px_MQ g Q 0 0) 0 0 2 [some (.int (nI (o8 l))), some (.int (nI d)), some (.int (nI k))] [] w := by
    intro fu; induction fu with
    | zero => intro k hm; exact absurd hm (Nat.not_lt_zero _)
    | succ fu ih =>
      intro k hm hk hn
      have ih2 := ih; clear ih
      refine r_iload_n (pc' := 3) dX6_isReadIn_2 rfl rfl ?_
      refine r_iconst (pc' := 4) (v := nI 4) dX6_isReadIn_3 rfl rfl ?_
      refine r_icmp_ge (pc' := 7) (P := 4 ≤ k) (tgt := 27) dX6_isReadIn_4 (by decide) rfl (nI_leI (a := 4) (b := k) (by omega) (by omega)) (fun h4 => ?_) (fun h4 => ?_)
      · have hk2 : k = 4 := by omega
        refine r_iconst (pc' := 28) (v := bI false) dX6_isReadIn_27 rfl rfl ?_
        refine r_zreturn dX6_isReadIn_28 rfl (bI_nar _) ?_
        refine px_eqB hQ ?_
        symm
        rw [Bool.eq_false_iff]
        intro hc
        obtain ⟨i, hi⟩ := List.mem_iff_getElem?.mp (List.contains_iff_mem.mp hc)
        have := (List.getElem?_eq_some_iff.mp hi).1
        exact hn i (by omega) hi
      · skip
        refine r_iload_n (pc' := 8) dX6_isReadIn_7 rfl rfl ?_
        refine r_iconst (pc' := 9) (v := nI 3) dX6_isReadIn_8 rfl rfl ?_
        refine r_iload_n (pc' := 10) dX6_isReadIn_9 rfl rfl ?_
        refine r_imul (pc' := 11) (v := nI (3 * k)) dX6_isReadIn_10 rfl (pk_mul 3 k) ?_
        refine r_ishr (pc' := 12) (v := nI (o8 (l.drop k))) dX6_isReadIn_11 rfl (shr3 hl hl4 (by omega)) ?_
        refine r_callS (pc' := 15) (av := [.int (nI (o8 (l.drop k)))]) (rest := []) kX6_lastReadOf vX6_lastReadOf lX6_192 dX6_isReadIn_12 rfl rfl rfl ⟨by decide, by decide, by decide⟩ rfl rfl (Nat.le_of_ble_eq_true rfl) (ct_X6_lastReadOf (l := l.drop k) (fun d hd => hl d (List.mem_of_mem_drop hd)) (by rw [List.length_drop]; omega) ?_)
        show Wp g yX6_isReadIn cX6_isReadIn 3 (some .boolean) 2 0 0 (px_MQ g Q 0 0) 0 0 15 [some (.int (nI (o8 l))), some (.int (nI d)), some (.int (nI k))] [.int (lstI (l.drop k))] w
        refine r_iload_n (pc' := 16) dX6_isReadIn_15 rfl rfl ?_
        refine r_icmp_ne (pc' := 19) (P := l[k]? = some d) (tgt := 21) dX6_isReadIn_16 (by decide) rfl (lst_eq hl hd) (fun h16 => ?_) (fun h16 => ?_)
        · skip
          refine r_iinc (pc' := 24) (lo' := [some (.int (nI (o8 l))), some (.int (nI d)), some (.int (nI (k + 1)))]) dX6_isReadIn_21 rfl (by decide) rfl (nI_add k 1) rfl ?_
          refine r_goto (tgt := 2) dX6_isReadIn_24 (by decide) ?_
          exact ih2 (k + 1) (by omega) (by omega) (fun i hi => by rcases (show i < k ∨ i = k by omega) with q | rfl; exact hn i q; exact h16)
        · skip
          refine r_iconst (pc' := 20) (v := bI true) dX6_isReadIn_19 rfl rfl ?_
          refine r_zreturn dX6_isReadIn_20 rfl (bI_nar _) ?_
          refine px_eqB hQ ?_
          rw [List.contains_iff_mem.mpr (List.mem_of_getElem? h16)]
  exact L2 ((4) + 1) 0 (Nat.lt_succ_self _) (by omega) (fun i hi => absurd hi (Nat.not_lt_zero _))
theorem vst_c {T : px_T} {M : px_N} {l : List Nat} {d : Nat} (h : ¬ l.contains d = false) : ¬ vst T M l d = true := by
  have hc : l.contains d = true := by cases hq : l.contains d with
    | true => rfl
    | false => exact absurd hq h
  rw [vst, hc]; simp
theorem vst_i {T : px_T} {M : px_N} {l : List Nat} {d : Nat} (h : inT T M d (enx M l (en M l) d) = false) : ¬ vst T M l d = true := by
  rw [vst, h]; simp
set_option maxHeartbeats 200000 in
theorem ct_best_0 {g : px_G} {w : px_W} {Q : px_Q} {ik : Int32} {tr : Int64} {T : px_T} {M : px_N} (hX : w[0]? = some (.inr (5, [.ref 1, .ref 9, .ref 15, .ref 18, .ref 51, .int ik, .long tr]))) (hT : SubA w 9 T) (hO : TOK T) (hM : MorA w 15 M) {l : List Nat} (hV : Vl T M l) (hk : l.length = 4) (hQ : Q (some (.int (nI (o8 l)))) w) : Ct g yX6_bestOrder cX6_bestOrder 9 (some .int) (10 + 0) 0 0 [.ref 0, .int (nI (o8 l)), .int (nI l.length), .int (nI (en M l))] w Q := by
  refine Ct.of kX6_bestOrder (by omega) (lo := [some (.ref 0), some (.int (nI (o8 l))), some (.int (nI l.length)), some (.int (nI (en M l))), none, none, none, none, none]) rfl (px_cat1 rfl) (Nat.le_of_ble_eq_true rfl) ?_
  obtain ⟨⟨sb1, sb2, sb3⟩, sb4, sb5⟩ := hT.b
  obtain ⟨mB1, mB2, mB3⟩ := hM.b
  have hl := hV.d4 sb2
  have hl4 : l.length ≤ 4 := by omega
  have e0 := o8_b hl hl4
  have e2 := en_le sb2 mB3 hV
  refine r_iload_n (pc' := 1) dX6_bestOrder_0 rfl rfl ?_
  refine r_istore (pc' := 3) (lo' := [some (.ref 0), some (.int (nI (o8 l))), some (.int (nI l.length)), some (.int (nI (en M l))), some (.int (nI (o8 l))), none, none, none, none]) dX6_bestOrder_1 rfl (by decide) rfl ?_
  refine r_iload_n (pc' := 4) dX6_bestOrder_3 rfl rfl ?_
  refine r_iconst (pc' := 5) (v := nI 4) dX6_bestOrder_4 rfl rfl ?_
  refine r_icmp_lt (pc' := 8) (P := l.length < 4) (tgt := 11) dX6_bestOrder_5 (by decide) rfl (nI_ltI (a := l.length) (b := 4) (by omega) (by omega)) (fun h5 => ?_) (fun h5 => ?_)
  · skip
    exfalso; omega
  · skip
    refine r_iload (pc' := 10) dX6_bestOrder_8 rfl rfl ?_
    refine r_ireturn dX6_bestOrder_10 rfl ?_
    exact hQ
set_option maxHeartbeats 200000 in
theorem ct_best_s {g : px_G} {w : px_W} {Q : px_Q} {ik : Int32} {tr : Int64} {T : px_T} {M : px_N} (hX : w[0]? = some (.inr (5, [.ref 1, .ref 9, .ref 15, .ref 18, .ref 51, .int ik, .long tr]))) (hT : SubA w 9 T) (hO : TOK T) (hM : MorA w 15 M) {l : List Nat} (hV : Vl T M l) {k : Nat} (hk : l.length + (k + 1) = 4) (ih : ∀ (d : Nat) (Q : px_Q), Vl T M (d :: l) → Q (some (.int (nI (o8 (bb T M k (d :: l)))))) w → Ct g yX6_bestOrder cX6_bestOrder 9 (some .int) (10 + k) 0 0 [.ref 0, .int (nI (o8 (d :: l))), .int (nI (d :: l).length), .int (nI (en M (d :: l)))] w Q) (hQ : Q (some (.int (nI (o8 (bb T M (k + 1) l))))) w) : Ct g yX6_bestOrder cX6_bestOrder 9 (some .int) (10 + (k + 1)) 0 0 [.ref 0, .int (nI (o8 l)), .int (nI l.length), .int (nI (en M l))] w Q := by
  refine Ct.of kX6_bestOrder (by omega) (lo := [some (.ref 0), some (.int (nI (o8 l))), some (.int (nI l.length)), some (.int (nI (en M l))), none, none, none, none, none]) rfl (px_cat1 rfl) (Nat.le_of_ble_eq_true rfl) ?_
  obtain ⟨⟨sb1, sb2, sb3⟩, sb4, sb5⟩ := hT.b
  obtain ⟨mB1, mB2, mB3⟩ := hM.b
  have hl := hV.d4 sb2
  have hl4 : l.length ≤ 4 := by omega
  have e0 := o8_b hl hl4
  have e2 := en_le sb2 mB3 hV
  refine r_iload_n (pc' := 1) dX6_bestOrder_0 rfl rfl ?_
  refine r_istore (pc' := 3) (lo' := [some (.ref 0), some (.int (nI (o8 l))), some (.int (nI l.length)), some (.int (nI (en M l))), some (.int (nI (o8 l))), none, none, none, none]) dX6_bestOrder_1 rfl (by decide) rfl ?_
  refine r_iload_n (pc' := 4) dX6_bestOrder_3 rfl rfl ?_
  refine r_iconst (pc' := 5) (v := nI 4) dX6_bestOrder_4 rfl rfl ?_
  refine r_icmp_lt (pc' := 8) (P := l.length < 4) (tgt := 11) dX6_bestOrder_5 (by decide) rfl (nI_ltI (a := l.length) (b := 4) (by omega) (by omega)) (fun h5 => ?_) (fun h5 => ?_)
  · skip
    refine r_iconst (pc' := 12) (v := nI 0) dX6_bestOrder_11 rfl rfl ?_
    refine r_istore (pc' := 14) (lo' := [some (.ref 0), some (.int (nI (o8 l))), some (.int (nI l.length)), some (.int (nI (en M l))), some (.int (nI (o8 l))), some (.int (nI 0)), none, none, none]) dX6_bestOrder_12 rfl (by decide) rfl ?_
    have L14 : ∀ (fu : Nat) (d : Nat), tD T - d < fu → d ≤ tD T → Wp g yX6_bestOrder cX6_bestOrder 9 (some .int) (10 + (k + 1)) 0 0 (px_MQ g Q 0 0) 0 0 14 [some (.ref 0), some (.int (nI (o8 l))), some (.int (nI l.length)), some (.int (nI (en M l))), some (.int (nI (o8 (bbF (bb T M k) T M l d)))), some (.int (nI d)), none, none, none] [] w := by
      intro fu; induction fu with
      | zero => intro d hm; exact absurd hm (Nat.not_lt_zero _)
      | succ fu ih =>
        intro d hm hd
        have hB0 := bbF_V (T := T) (M := M) (f := bb T M k) hV (fun x hx => bb_V (k := k) hx (by rw [List.length_cons]; omega)) hl4 d
        have hB : (∀ x, x ∈ bbF (bb T M k) T M l d → x < 4) ∧ (bbF (bb T M k) T M l d).length ≤ 4 := ⟨hB0.1.d4 sb2, hB0.2⟩
        have ih14 := ih; clear ih
        refine r_iload (pc' := 16) dX6_bestOrder_14 rfl rfl ?_
        refine r_aload_n (pc' := 17) dX6_bestOrder_16 rfl rfl ?_
        refine r_get (pc' := 20) fX6_19 dX6_bestOrder_17 rfl hX rfl ?_
        refine r_getN (pc' := 23) fX6_212 dX6_bestOrder_20 rfl hT.o rfl ?_
        refine r_icmp_ge (pc' := 26) (P := tD T ≤ d) (tgt := 122) dX6_bestOrder_23 (by decide) rfl (nI_leI (a := tD T) (b := d) (by omega) (by omega)) (fun h23 => ?_) (fun h23 => ?_)
        · obtain rfl : d = tD T := by omega
          refine r_iload (pc' := 124) dX6_bestOrder_122 rfl rfl ?_
          refine r_ireturn dX6_bestOrder_124 rfl ?_
          exact hQ
        · skip
          refine r_iload_n (pc' := 27) dX6_bestOrder_26 rfl rfl ?_
          refine r_if_ne (pc' := 30) (P := l.length = 0) (tgt := 34) dX6_bestOrder_27 (by decide) rfl (nI_eq0 (n := l.length) (by omega)) (fun h27 => ?_) (fun h27 => ?_)
          · obtain ⟨b, r, hle⟩ : ∃ b r, l = b :: r := by cases l with
              | nil => exact absurd rfl h27
              | cons b r => exact ⟨b, r, rfl⟩
            have hb4 := hl b (by rw [hle]; exact List.mem_cons_self ..)
            refine r_iload (pc' := 36) dX6_bestOrder_34 rfl rfl ?_
            refine r_iload_n (pc' := 37) dX6_bestOrder_36 rfl rfl ?_
            refine r_callS (pc' := 40) (av := [.int (nI (o8 l))]) (rest := [.int (nI d)]) kX6_lastReadOf vX6_lastReadOf lX6_192 dX6_bestOrder_37 rfl rfl rfl ⟨by omega, by decide, by decide⟩ rfl rfl (Nat.le_of_ble_eq_true rfl) (ct_lastRead_c hl hl4 hle ?_)
            show Wp g yX6_bestOrder cX6_bestOrder 9 (some .int) (10 + (k + 1)) 0 0 (px_MQ g Q 0 0) 0 0 40 [some (.ref 0), some (.int (nI (o8 l))), some (.int (nI l.length)), some (.int (nI (en M l))), some (.int (nI (o8 (bbF (bb T M k) T M l d)))), some (.int (nI d)), none, none, none] [.int (nI b), .int (nI d)] w
            refine r_isub (pc' := 41) (v := (nI d) - (nI b)) dX6_bestOrder_40 rfl (rfl) ?_
            refine r_mabs (pc' := 44) (v := nI (adf d b)) lX6_240 mS_abs mI mC_abs dX6_bestOrder_41 rfl (mabs (by omega) (by omega)) ⟨by decide, by decide⟩ (Nat.le_of_ble_eq_true rfl) ?_
            refine r_istore (pc' := 46) (lo' := [some (.ref 0), some (.int (nI (o8 l))), some (.int (nI l.length)), some (.int (nI (en M l))), some (.int (nI (o8 (bbF (bb T M k) T M l d)))), some (.int (nI d)), some (.int (nI (adf d b))), none, none]) dX6_bestOrder_44 rfl (by decide) rfl ?_
            refine r_iload_n (pc' := 47) dX6_bestOrder_46 rfl rfl ?_
            refine r_iload (pc' := 49) dX6_bestOrder_47 rfl rfl ?_
            refine r_iadd (pc' := 50) (v := nI (en M l + (adf d b))) dX6_bestOrder_49 rfl (nI_add (en M l) (adf d b)) ?_
            refine r_iconst (pc' := 51) (v := nI 1) dX6_bestOrder_50 rfl rfl ?_
            refine r_iadd (pc' := 52) (v := nI (enx M l (en M l) d)) dX6_bestOrder_51 rfl ((nI_add _ _).trans (by first | (rw [hln]; rfl) | (rw [hle]; rfl))) ?_
            have e51 := (enx_lt (e := en M l) (d := d) sb2 hV (by omega)).1
            refine r_istore (pc' := 54) (lo' := [some (.ref 0), some (.int (nI (o8 l))), some (.int (nI l.length)), some (.int (nI (en M l))), some (.int (nI (o8 (bbF (bb T M k) T M l d)))), some (.int (nI d)), some (.int (nI (adf d b))), some (.int (nI (enx M l (en M l) d))), none]) dX6_bestOrder_52 rfl (by decide) rfl ?_
            refine r_iload_n (pc' := 55) dX6_bestOrder_54 rfl rfl ?_
            refine r_iload (pc' := 57) dX6_bestOrder_55 rfl rfl ?_
            refine r_callS (pc' := 60) (av := [.int (nI (o8 l)), .int (nI d)]) (rest := []) kX6_isReadIn vX6_isReadIn lX6_243 dX6_bestOrder_57 rfl rfl rfl ⟨by omega, by decide, by decide⟩ rfl rfl (Nat.le_of_ble_eq_true rfl) (ct_X6_isReadIn hl hl4 (d := d) (by omega) ?_)
            show Wp g yX6_bestOrder cX6_bestOrder 9 (some .int) (10 + (k + 1)) 0 0 (px_MQ g Q 0 0) 0 0 60 [some (.ref 0), some (.int (nI (o8 l))), some (.int (nI l.length)), some (.int (nI (en M l))), some (.int (nI (o8 (bbF (bb T M k) T M l d)))), some (.int (nI d)), some (.int (nI (adf d b))), some (.int (nI (enx M l (en M l) d))), none] [.int (bI (l.contains d))] w
            refine r_if_ne (pc' := 63) (P := (l.contains d) = false) (tgt := 116) dX6_bestOrder_60 (by decide) rfl (bI_0) (fun h60 => ?_) (fun h60 => ?_)
            · skip
              refine r_iinc (pc' := 119) (lo' := [some (.ref 0), some (.int (nI (o8 l))), some (.int (nI l.length)), some (.int (nI (en M l))), some (.int (nI (o8 (bbF (bb T M k) T M l d)))), some (.int (nI (d + 1))), some (.int (nI (adf d b))), some (.int (nI (enx M l (en M l) d))), none]) dX6_bestOrder_116 rfl (by decide) rfl (nI_add d 1) rfl ?_
              refine r_goto (tgt := 14) dX6_bestOrder_119 (by decide) ?_
              have e1 : bbF (bb T M k) T M l d = bbF (bb T M k) T M l (d + 1) := by first | rw [bbF, if_pos hv, if_neg (by omega)] | rw [bbF, if_neg (vst_c h60)] | rw [bbF, if_neg (vst_i h71)]
              have hi := ih14 (d + 1) (by omega) (by omega)
              rw [← e1] at hi
              refine r_drop 6 rfl ?_
              refine r_drop 7 rfl ?_
              exact hi
            · skip
              refine r_aload_n (pc' := 64) dX6_bestOrder_63 rfl rfl ?_
              refine r_iload (pc' := 66) dX6_bestOrder_64 rfl rfl ?_
              refine r_iload (pc' := 68) dX6_bestOrder_66 rfl rfl ?_
              refine r_callV (pc' := 71) (av := [.int (nI d), .int (nI (enx M l (en M l) d))]) (rest := []) kX6_isInTime vX6_isInTime lX6_246 dX6_bestOrder_68 rfl hX rfl rfl rfl ⟨by omega, by decide, by decide⟩ rfl rfl (Nat.le_of_ble_eq_true rfl) (ct_X6_isInTime hX hT hO hM (d := d) (e := enx M l (en M l) d) (by omega) (by omega) ?_)
              show Wp g yX6_bestOrder cX6_bestOrder 9 (some .int) (10 + (k + 1)) 0 0 (px_MQ g Q 0 0) 0 0 71 [some (.ref 0), some (.int (nI (o8 l))), some (.int (nI l.length)), some (.int (nI (en M l))), some (.int (nI (o8 (bbF (bb T M k) T M l d)))), some (.int (nI d)), some (.int (nI (adf d b))), some (.int (nI (enx M l (en M l) d))), none] [.int (bI (inT T M d (enx M l (en M l) d)))] w
              refine r_if_eq (pc' := 74) (P := (inT T M d (enx M l (en M l) d)) = false) (tgt := 116) dX6_bestOrder_71 (by decide) rfl (bI_0) (fun h71 => ?_) (fun h71 => ?_)
              · skip
                refine r_iinc (pc' := 119) (lo' := [some (.ref 0), some (.int (nI (o8 l))), some (.int (nI l.length)), some (.int (nI (en M l))), some (.int (nI (o8 (bbF (bb T M k) T M l d)))), some (.int (nI (d + 1))), some (.int (nI (adf d b))), some (.int (nI (enx M l (en M l) d))), none]) dX6_bestOrder_116 rfl (by decide) rfl (nI_add d 1) rfl ?_
                refine r_goto (tgt := 14) dX6_bestOrder_119 (by decide) ?_
                have e1 : bbF (bb T M k) T M l d = bbF (bb T M k) T M l (d + 1) := by first | rw [bbF, if_pos hv, if_neg (by omega)] | rw [bbF, if_neg (vst_c h60)] | rw [bbF, if_neg (vst_i h71)]
                have hi := ih14 (d + 1) (by omega) (by omega)
                rw [← e1] at hi
                refine r_drop 6 rfl ?_
                refine r_drop 7 rfl ?_
                exact hi
              · have h71' : inT T M d (enx M l (en M l) d) = true := by simpa using h71
                refine r_aload_n (pc' := 75) dX6_bestOrder_74 rfl rfl ?_
                refine r_iload_n (pc' := 76) dX6_bestOrder_75 rfl rfl ?_
                refine r_bipush (pc' := 78) (v := nI 8) dX6_bestOrder_76 rfl rfl ?_
                refine r_imul (pc' := 79) (v := nI ((o8 l) * 8)) dX6_bestOrder_78 rfl (pk_mul (o8 l) 8) ?_
                refine r_iload (pc' := 81) dX6_bestOrder_79 rfl rfl ?_
                refine r_iadd (pc' := 82) (v := nI ((o8 l) * 8 + d)) dX6_bestOrder_81 rfl (nI_add ((o8 l) * 8) d) ?_
                refine r_iconst (pc' := 83) (v := nI 1) dX6_bestOrder_82 rfl rfl ?_
                refine r_iadd (pc' := 84) (v := nI ((o8 l) * 8 + d + 1)) dX6_bestOrder_83 rfl (nI_add ((o8 l) * 8 + d) 1) ?_
                refine r_iload_n (pc' := 85) dX6_bestOrder_84 rfl rfl ?_
                refine r_iconst (pc' := 86) (v := nI 1) dX6_bestOrder_85 rfl rfl ?_
                refine r_iadd (pc' := 87) (v := nI (l.length + 1)) dX6_bestOrder_86 rfl (nI_add l.length 1) ?_
                refine r_iload (pc' := 89) dX6_bestOrder_87 rfl rfl ?_
                have hv : vst T M l d = true := by rw [vst, h60, h71']; simp; omega
                have hVd : Vl T M (d :: l) := ⟨hv, hV⟩
                have hF0 := bb_V (k := k) hVd (by rw [List.length_cons]; omega)
                have hF : (∀ x, x ∈ bb T M k (d :: l) → x < 4) ∧ (bb T M k (d :: l)).length ≤ 4 := ⟨hF0.1.d4 sb2, hF0.2⟩
                refine r_callV (pc' := 92) (av := [.int (nI ((o8 l) * 8 + d + 1)), .int (nI (l.length + 1)), .int (nI (enx M l (en M l) d))]) (rest := []) kX6_bestOrder vX6_bestOrder lX6_186 dX6_bestOrder_89 rfl hX rfl rfl rfl ⟨by omega, by decide, by decide⟩ rfl rfl (Nat.le_of_ble_eq_true rfl) (ih d _ hVd ?_)
                show Wp g yX6_bestOrder cX6_bestOrder 9 (some .int) (10 + (k + 1)) 0 0 (px_MQ g Q 0 0) 0 0 92 [some (.ref 0), some (.int (nI (o8 l))), some (.int (nI l.length)), some (.int (nI (en M l))), some (.int (nI (o8 (bbF (bb T M k) T M l d)))), some (.int (nI d)), some (.int (nI (adf d b))), some (.int (nI (enx M l (en M l) d))), none] [.int (nI (o8 (bb T M k (d :: l))))] w
                refine r_istore (pc' := 94) (lo' := [some (.ref 0), some (.int (nI (o8 l))), some (.int (nI l.length)), some (.int (nI (en M l))), some (.int (nI (o8 (bbF (bb T M k) T M l d)))), some (.int (nI d)), some (.int (nI (adf d b))), some (.int (nI (enx M l (en M l) d))), some (.int (nI (o8 (bb T M k (d :: l)))))]) dX6_bestOrder_92 rfl (by decide) rfl ?_
                refine r_iload (pc' := 96) dX6_bestOrder_94 rfl rfl ?_
                refine r_callS (pc' := 99) (av := [.int (nI (o8 (bb T M k (d :: l))))]) (rest := []) kX6_readIn vX6_readIn lX6_189 dX6_bestOrder_96 rfl rfl rfl ⟨by omega, by decide, by decide⟩ rfl rfl (Nat.le_of_ble_eq_true rfl) (ct_X6_readIn hF.1 hF.2 ?_)
                show Wp g yX6_bestOrder cX6_bestOrder 9 (some .int) (10 + (k + 1)) 0 0 (px_MQ g Q 0 0) 0 0 99 [some (.ref 0), some (.int (nI (o8 l))), some (.int (nI l.length)), some (.int (nI (en M l))), some (.int (nI (o8 (bbF (bb T M k) T M l d)))), some (.int (nI d)), some (.int (nI (adf d b))), some (.int (nI (enx M l (en M l) d))), some (.int (nI (o8 (bb T M k (d :: l)))))] [.int (nI ((bb T M k (d :: l)).length))] w
                refine r_iload (pc' := 101) dX6_bestOrder_99 rfl rfl ?_
                refine r_callS (pc' := 104) (av := [.int (nI (o8 (bbF (bb T M k) T M l d)))]) (rest := [.int (nI ((bb T M k (d :: l)).length))]) kX6_readIn vX6_readIn lX6_189 dX6_bestOrder_101 rfl rfl rfl ⟨by omega, by decide, by decide⟩ rfl rfl (Nat.le_of_ble_eq_true rfl) (ct_X6_readIn hB.1 hB.2 ?_)
                show Wp g yX6_bestOrder cX6_bestOrder 9 (some .int) (10 + (k + 1)) 0 0 (px_MQ g Q 0 0) 0 0 104 [some (.ref 0), some (.int (nI (o8 l))), some (.int (nI l.length)), some (.int (nI (en M l))), some (.int (nI (o8 (bbF (bb T M k) T M l d)))), some (.int (nI d)), some (.int (nI (adf d b))), some (.int (nI (enx M l (en M l) d))), some (.int (nI (o8 (bb T M k (d :: l)))))] [.int (nI ((bbF (bb T M k) T M l d).length)), .int (nI ((bb T M k (d :: l)).length))] w
                refine r_icmp_le (pc' := 107) (P := (bb T M k (d :: l)).length ≤ (bbF (bb T M k) T M l d).length) (tgt := 112) dX6_bestOrder_104 (by decide) rfl (nI_leI (a := (bb T M k (d :: l)).length) (b := (bbF (bb T M k) T M l d).length) (by omega) (by omega)) (fun h104 => ?_) (fun h104 => ?_)
                · skip
                  refine r_iload (pc' := 114) dX6_bestOrder_112 rfl rfl ?_
                  refine r_istore (pc' := 116) (lo' := [some (.ref 0), some (.int (nI (o8 l))), some (.int (nI l.length)), some (.int (nI (en M l))), some (.int (nI (o8 (bbF (bb T M k) T M l d)))), some (.int (nI d)), some (.int (nI (adf d b))), some (.int (nI (enx M l (en M l) d))), some (.int (nI (o8 (bb T M k (d :: l)))))]) dX6_bestOrder_114 rfl (by decide) rfl ?_
                  refine r_iinc (pc' := 119) (lo' := [some (.ref 0), some (.int (nI (o8 l))), some (.int (nI l.length)), some (.int (nI (en M l))), some (.int (nI (o8 (bbF (bb T M k) T M l d)))), some (.int (nI (d + 1))), some (.int (nI (adf d b))), some (.int (nI (enx M l (en M l) d))), some (.int (nI (o8 (bb T M k (d :: l)))))]) dX6_bestOrder_116 rfl (by decide) rfl (nI_add d 1) rfl ?_
                  refine r_goto (tgt := 14) dX6_bestOrder_119 (by decide) ?_
                  have e1 : bbF (bb T M k) T M l d = bbF (bb T M k) T M l (d + 1) := by first | rw [bbF, if_pos hv, if_neg (by omega)] | rw [bbF, if_neg (vst_c h60)] | rw [bbF, if_neg (vst_i h71)]
                  have hi := ih14 (d + 1) (by omega) (by omega)
                  rw [← e1] at hi
                  refine r_drop 6 rfl ?_
                  refine r_drop 7 rfl ?_
                  refine r_drop 8 rfl ?_
                  exact hi
                · skip
                  refine r_iload (pc' := 109) dX6_bestOrder_107 rfl rfl ?_
                  refine r_goto (tgt := 114) dX6_bestOrder_109 (by decide) ?_
                  refine r_istore (pc' := 116) (lo' := [some (.ref 0), some (.int (nI (o8 l))), some (.int (nI l.length)), some (.int (nI (en M l))), some (.int (nI (o8 (bb T M k (d :: l))))), some (.int (nI d)), some (.int (nI (adf d b))), some (.int (nI (enx M l (en M l) d))), some (.int (nI (o8 (bb T M k (d :: l)))))]) dX6_bestOrder_114 rfl (by decide) rfl ?_
                  refine r_iinc (pc' := 119) (lo' := [some (.ref 0), some (.int (nI (o8 l))), some (.int (nI l.length)), some (.int (nI (en M l))), some (.int (nI (o8 (bb T M k (d :: l))))), some (.int (nI (d + 1))), some (.int (nI (adf d b))), some (.int (nI (enx M l (en M l) d))), some (.int (nI (o8 (bb T M k (d :: l)))))]) dX6_bestOrder_116 rfl (by decide) rfl (nI_add d 1) rfl ?_
                  refine r_goto (tgt := 14) dX6_bestOrder_119 (by decide) ?_
                  have e1 : bb T M k (d :: l) = bbF (bb T M k) T M l (d + 1) := by rw [bbF, if_pos hv, if_pos (by omega)]
                  have hi := ih14 (d + 1) (by omega) (by omega)
                  rw [← e1] at hi
                  refine r_drop 6 rfl ?_
                  refine r_drop 7 rfl ?_
                  refine r_drop 8 rfl ?_
                  exact hi
          · have hln : l = [] := List.eq_nil_of_length_eq_zero h27
            refine r_iconst (pc' := 31) (v := nI 0) dX6_bestOrder_30 rfl rfl ?_
            refine r_goto (tgt := 44) dX6_bestOrder_31 (by decide) ?_
            refine r_istore (pc' := 46) (lo' := [some (.ref 0), some (.int (nI (o8 l))), some (.int (nI l.length)), some (.int (nI (en M l))), some (.int (nI (o8 (bbF (bb T M k) T M l d)))), some (.int (nI d)), some (.int (nI 0)), none, none]) dX6_bestOrder_44 rfl (by decide) rfl ?_
            refine r_iload_n (pc' := 47) dX6_bestOrder_46 rfl rfl ?_
            refine r_iload (pc' := 49) dX6_bestOrder_47 rfl rfl ?_
            refine r_iadd (pc' := 50) (v := nI (en M l + 0)) dX6_bestOrder_49 rfl (nI_add (en M l) 0) ?_
            refine r_iconst (pc' := 51) (v := nI 1) dX6_bestOrder_50 rfl rfl ?_
            refine r_iadd (pc' := 52) (v := nI (enx M l (en M l) d)) dX6_bestOrder_51 rfl ((nI_add _ _).trans (by first | (rw [hln]; rfl) | (rw [hle]; rfl))) ?_
            have e51 := (enx_lt (e := en M l) (d := d) sb2 hV (by omega)).1
            refine r_istore (pc' := 54) (lo' := [some (.ref 0), some (.int (nI (o8 l))), some (.int (nI l.length)), some (.int (nI (en M l))), some (.int (nI (o8 (bbF (bb T M k) T M l d)))), some (.int (nI d)), some (.int (nI 0)), some (.int (nI (enx M l (en M l) d))), none]) dX6_bestOrder_52 rfl (by decide) rfl ?_
            refine r_iload_n (pc' := 55) dX6_bestOrder_54 rfl rfl ?_
            refine r_iload (pc' := 57) dX6_bestOrder_55 rfl rfl ?_
            refine r_callS (pc' := 60) (av := [.int (nI (o8 l)), .int (nI d)]) (rest := []) kX6_isReadIn vX6_isReadIn lX6_243 dX6_bestOrder_57 rfl rfl rfl ⟨by omega, by decide, by decide⟩ rfl rfl (Nat.le_of_ble_eq_true rfl) (ct_X6_isReadIn hl hl4 (d := d) (by omega) ?_)
            show Wp g yX6_bestOrder cX6_bestOrder 9 (some .int) (10 + (k + 1)) 0 0 (px_MQ g Q 0 0) 0 0 60 [some (.ref 0), some (.int (nI (o8 l))), some (.int (nI l.length)), some (.int (nI (en M l))), some (.int (nI (o8 (bbF (bb T M k) T M l d)))), some (.int (nI d)), some (.int (nI 0)), some (.int (nI (enx M l (en M l) d))), none] [.int (bI (l.contains d))] w
            refine r_if_ne (pc' := 63) (P := (l.contains d) = false) (tgt := 116) dX6_bestOrder_60 (by decide) rfl (bI_0) (fun h60 => ?_) (fun h60 => ?_)
            · skip
              refine r_iinc (pc' := 119) (lo' := [some (.ref 0), some (.int (nI (o8 l))), some (.int (nI l.length)), some (.int (nI (en M l))), some (.int (nI (o8 (bbF (bb T M k) T M l d)))), some (.int (nI (d + 1))), some (.int (nI 0)), some (.int (nI (enx M l (en M l) d))), none]) dX6_bestOrder_116 rfl (by decide) rfl (nI_add d 1) rfl ?_
              refine r_goto (tgt := 14) dX6_bestOrder_119 (by decide) ?_
              have e1 : bbF (bb T M k) T M l d = bbF (bb T M k) T M l (d + 1) := by first | rw [bbF, if_pos hv, if_neg (by omega)] | rw [bbF, if_neg (vst_c h60)] | rw [bbF, if_neg (vst_i h71)]
              have hi := ih14 (d + 1) (by omega) (by omega)
              rw [← e1] at hi
              refine r_drop 6 rfl ?_
              refine r_drop 7 rfl ?_
              exact hi
            · skip
              refine r_aload_n (pc' := 64) dX6_bestOrder_63 rfl rfl ?_
              refine r_iload (pc' := 66) dX6_bestOrder_64 rfl rfl ?_
              refine r_iload (pc' := 68) dX6_bestOrder_66 rfl rfl ?_
              refine r_callV (pc' := 71) (av := [.int (nI d), .int (nI (enx M l (en M l) d))]) (rest := []) kX6_isInTime vX6_isInTime lX6_246 dX6_bestOrder_68 rfl hX rfl rfl rfl ⟨by omega, by decide, by decide⟩ rfl rfl (Nat.le_of_ble_eq_true rfl) (ct_X6_isInTime hX hT hO hM (d := d) (e := enx M l (en M l) d) (by omega) (by omega) ?_)
              show Wp g yX6_bestOrder cX6_bestOrder 9 (some .int) (10 + (k + 1)) 0 0 (px_MQ g Q 0 0) 0 0 71 [some (.ref 0), some (.int (nI (o8 l))), some (.int (nI l.length)), some (.int (nI (en M l))), some (.int (nI (o8 (bbF (bb T M k) T M l d)))), some (.int (nI d)), some (.int (nI 0)), some (.int (nI (enx M l (en M l) d))), none] [.int (bI (inT T M d (enx M l (en M l) d)))] w
              refine r_if_eq (pc' := 74) (P := (inT T M d (enx M l (en M l) d)) = false) (tgt := 116) dX6_bestOrder_71 (by decide) rfl (bI_0) (fun h71 => ?_) (fun h71 => ?_)
              · skip
                refine r_iinc (pc' := 119) (lo' := [some (.ref 0), some (.int (nI (o8 l))), some (.int (nI l.length)), some (.int (nI (en M l))), some (.int (nI (o8 (bbF (bb T M k) T M l d)))), some (.int (nI (d + 1))), some (.int (nI 0)), some (.int (nI (enx M l (en M l) d))), none]) dX6_bestOrder_116 rfl (by decide) rfl (nI_add d 1) rfl ?_
                refine r_goto (tgt := 14) dX6_bestOrder_119 (by decide) ?_
                have e1 : bbF (bb T M k) T M l d = bbF (bb T M k) T M l (d + 1) := by first | rw [bbF, if_pos hv, if_neg (by omega)] | rw [bbF, if_neg (vst_c h60)] | rw [bbF, if_neg (vst_i h71)]
                have hi := ih14 (d + 1) (by omega) (by omega)
                rw [← e1] at hi
                refine r_drop 6 rfl ?_
                refine r_drop 7 rfl ?_
                exact hi
              · have h71' : inT T M d (enx M l (en M l) d) = true := by simpa using h71
                refine r_aload_n (pc' := 75) dX6_bestOrder_74 rfl rfl ?_
                refine r_iload_n (pc' := 76) dX6_bestOrder_75 rfl rfl ?_
                refine r_bipush (pc' := 78) (v := nI 8) dX6_bestOrder_76 rfl rfl ?_
                refine r_imul (pc' := 79) (v := nI ((o8 l) * 8)) dX6_bestOrder_78 rfl (pk_mul (o8 l) 8) ?_
                refine r_iload (pc' := 81) dX6_bestOrder_79 rfl rfl ?_
                refine r_iadd (pc' := 82) (v := nI ((o8 l) * 8 + d)) dX6_bestOrder_81 rfl (nI_add ((o8 l) * 8) d) ?_
                refine r_iconst (pc' := 83) (v := nI 1) dX6_bestOrder_82 rfl rfl ?_
                refine r_iadd (pc' := 84) (v := nI ((o8 l) * 8 + d + 1)) dX6_bestOrder_83 rfl (nI_add ((o8 l) * 8 + d) 1) ?_
                refine r_iload_n (pc' := 85) dX6_bestOrder_84 rfl rfl ?_
                refine r_iconst (pc' := 86) (v := nI 1) dX6_bestOrder_85 rfl rfl ?_
                refine r_iadd (pc' := 87) (v := nI (l.length + 1)) dX6_bestOrder_86 rfl (nI_add l.length 1) ?_
                refine r_iload (pc' := 89) dX6_bestOrder_87 rfl rfl ?_
                have hv : vst T M l d = true := by rw [vst, h60, h71']; simp; omega
                have hVd : Vl T M (d :: l) := ⟨hv, hV⟩
                have hF0 := bb_V (k := k) hVd (by rw [List.length_cons]; omega)
                have hF : (∀ x, x ∈ bb T M k (d :: l) → x < 4) ∧ (bb T M k (d :: l)).length ≤ 4 := ⟨hF0.1.d4 sb2, hF0.2⟩
                refine r_callV (pc' := 92) (av := [.int (nI ((o8 l) * 8 + d + 1)), .int (nI (l.length + 1)), .int (nI (enx M l (en M l) d))]) (rest := []) kX6_bestOrder vX6_bestOrder lX6_186 dX6_bestOrder_89 rfl hX rfl rfl rfl ⟨by omega, by decide, by decide⟩ rfl rfl (Nat.le_of_ble_eq_true rfl) (ih d _ hVd ?_)
                show Wp g yX6_bestOrder cX6_bestOrder 9 (some .int) (10 + (k + 1)) 0 0 (px_MQ g Q 0 0) 0 0 92 [some (.ref 0), some (.int (nI (o8 l))), some (.int (nI l.length)), some (.int (nI (en M l))), some (.int (nI (o8 (bbF (bb T M k) T M l d)))), some (.int (nI d)), some (.int (nI 0)), some (.int (nI (enx M l (en M l) d))), none] [.int (nI (o8 (bb T M k (d :: l))))] w
                refine r_istore (pc' := 94) (lo' := [some (.ref 0), some (.int (nI (o8 l))), some (.int (nI l.length)), some (.int (nI (en M l))), some (.int (nI (o8 (bbF (bb T M k) T M l d)))), some (.int (nI d)), some (.int (nI 0)), some (.int (nI (enx M l (en M l) d))), some (.int (nI (o8 (bb T M k (d :: l)))))]) dX6_bestOrder_92 rfl (by decide) rfl ?_
                refine r_iload (pc' := 96) dX6_bestOrder_94 rfl rfl ?_
                refine r_callS (pc' := 99) (av := [.int (nI (o8 (bb T M k (d :: l))))]) (rest := []) kX6_readIn vX6_readIn lX6_189 dX6_bestOrder_96 rfl rfl rfl ⟨by omega, by decide, by decide⟩ rfl rfl (Nat.le_of_ble_eq_true rfl) (ct_X6_readIn hF.1 hF.2 ?_)
                show Wp g yX6_bestOrder cX6_bestOrder 9 (some .int) (10 + (k + 1)) 0 0 (px_MQ g Q 0 0) 0 0 99 [some (.ref 0), some (.int (nI (o8 l))), some (.int (nI l.length)), some (.int (nI (en M l))), some (.int (nI (o8 (bbF (bb T M k) T M l d)))), some (.int (nI d)), some (.int (nI 0)), some (.int (nI (enx M l (en M l) d))), some (.int (nI (o8 (bb T M k (d :: l)))))] [.int (nI ((bb T M k (d :: l)).length))] w
                refine r_iload (pc' := 101) dX6_bestOrder_99 rfl rfl ?_
                refine r_callS (pc' := 104) (av := [.int (nI (o8 (bbF (bb T M k) T M l d)))]) (rest := [.int (nI ((bb T M k (d :: l)).length))]) kX6_readIn vX6_readIn lX6_189 dX6_bestOrder_101 rfl rfl rfl ⟨by omega, by decide, by decide⟩ rfl rfl (Nat.le_of_ble_eq_true rfl) (ct_X6_readIn hB.1 hB.2 ?_)
                show Wp g yX6_bestOrder cX6_bestOrder 9 (some .int) (10 + (k + 1)) 0 0 (px_MQ g Q 0 0) 0 0 104 [some (.ref 0), some (.int (nI (o8 l))), some (.int (nI l.length)), some (.int (nI (en M l))), some (.int (nI (o8 (bbF (bb T M k) T M l d)))), some (.int (nI d)), some (.int (nI 0)), some (.int (nI (enx M l (en M l) d))), some (.int (nI (o8 (bb T M k (d :: l)))))] [.int (nI ((bbF (bb T M k) T M l d).length)), .int (nI ((bb T M k (d :: l)).length))] w
                refine r_icmp_le (pc' := 107) (P := (bb T M k (d :: l)).length ≤ (bbF (bb T M k) T M l d).length) (tgt := 112) dX6_bestOrder_104 (by decide) rfl (nI_leI (a := (bb T M k (d :: l)).length) (b := (bbF (bb T M k) T M l d).length) (by omega) (by omega)) (fun h104 => ?_) (fun h104 => ?_)
                · skip
                  refine r_iload (pc' := 114) dX6_bestOrder_112 rfl rfl ?_
                  refine r_istore (pc' := 116) (lo' := [some (.ref 0), some (.int (nI (o8 l))), some (.int (nI l.length)), some (.int (nI (en M l))), some (.int (nI (o8 (bbF (bb T M k) T M l d)))), some (.int (nI d)), some (.int (nI 0)), some (.int (nI (enx M l (en M l) d))), some (.int (nI (o8 (bb T M k (d :: l)))))]) dX6_bestOrder_114 rfl (by decide) rfl ?_
                  refine r_iinc (pc' := 119) (lo' := [some (.ref 0), some (.int (nI (o8 l))), some (.int (nI l.length)), some (.int (nI (en M l))), some (.int (nI (o8 (bbF (bb T M k) T M l d)))), some (.int (nI (d + 1))), some (.int (nI 0)), some (.int (nI (enx M l (en M l) d))), some (.int (nI (o8 (bb T M k (d :: l)))))]) dX6_bestOrder_116 rfl (by decide) rfl (nI_add d 1) rfl ?_
                  refine r_goto (tgt := 14) dX6_bestOrder_119 (by decide) ?_
                  have e1 : bbF (bb T M k) T M l d = bbF (bb T M k) T M l (d + 1) := by first | rw [bbF, if_pos hv, if_neg (by omega)] | rw [bbF, if_neg (vst_c h60)] | rw [bbF, if_neg (vst_i h71)]
                  have hi := ih14 (d + 1) (by omega) (by omega)
                  rw [← e1] at hi
                  refine r_drop 6 rfl ?_
                  refine r_drop 7 rfl ?_
                  refine r_drop 8 rfl ?_
                  exact hi
                · skip
                  refine r_iload (pc' := 109) dX6_bestOrder_107 rfl rfl ?_
                  refine r_goto (tgt := 114) dX6_bestOrder_109 (by decide) ?_
                  refine r_istore (pc' := 116) (lo' := [some (.ref 0), some (.int (nI (o8 l))), some (.int (nI l.length)), some (.int (nI (en M l))), some (.int (nI (o8 (bb T M k (d :: l))))), some (.int (nI d)), some (.int (nI 0)), some (.int (nI (enx M l (en M l) d))), some (.int (nI (o8 (bb T M k (d :: l)))))]) dX6_bestOrder_114 rfl (by decide) rfl ?_
                  refine r_iinc (pc' := 119) (lo' := [some (.ref 0), some (.int (nI (o8 l))), some (.int (nI l.length)), some (.int (nI (en M l))), some (.int (nI (o8 (bb T M k (d :: l))))), some (.int (nI (d + 1))), some (.int (nI 0)), some (.int (nI (enx M l (en M l) d))), some (.int (nI (o8 (bb T M k (d :: l)))))]) dX6_bestOrder_116 rfl (by decide) rfl (nI_add d 1) rfl ?_
                  refine r_goto (tgt := 14) dX6_bestOrder_119 (by decide) ?_
                  have e1 : bb T M k (d :: l) = bbF (bb T M k) T M l (d + 1) := by rw [bbF, if_pos hv, if_pos (by omega)]
                  have hi := ih14 (d + 1) (by omega) (by omega)
                  rw [← e1] at hi
                  refine r_drop 6 rfl ?_
                  refine r_drop 7 rfl ?_
                  refine r_drop 8 rfl ?_
                  exact hi
    exact L14 ((tD T) + 1) 0 (Nat.lt_succ_self _) (by omega)
  · skip
    exfalso; omega
theorem ct_best {g : px_G} {w : px_W} {ik : Int32} {tr : Int64} {T : px_T} {M : px_N} (hX : w[0]? = some (.inr (5, [.ref 1, .ref 9, .ref 15, .ref 18, .ref 51, .int ik, .long tr]))) (hT : SubA w 9 T) (hO : TOK T) (hM : MorA w 15 M) : ∀ (k : Nat) {l : List Nat} (hV : Vl T M l) (hk : l.length + k = 4) {Q : px_Q} (hQ : Q (some (.int (nI (o8 (bb T M k l))))) w), Ct g yX6_bestOrder cX6_bestOrder 9 (some .int) (10 + k) 0 0 [.ref 0, .int (nI (o8 l)), .int (nI l.length), .int (nI (en M l))] w Q
  | 0, _, hV, hk, _, hQ => ct_best_0 hX hT hO hM hV (by omega) hQ
  | k + 1, l, hV, hk, _, hQ => ct_best_s hX hT hO hM hV hk (fun d Q hd hQ => ct_best hX hT hO hM k hd (by rw [List.length_cons]; omega) hQ) hQ
