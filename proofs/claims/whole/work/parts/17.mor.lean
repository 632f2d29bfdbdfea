set_option maxHeartbeats 200000 in
theorem ct_X0_contentOf {g : px_G} {w : px_W} {Q : px_Q} {k : Nat} {M : px_N} (hM : MorA w k M) {d x : Nat} (hd : d < 4) (hx : x < 8) (hQ : Q (some (.int (nI (nc M d x)))) w) : Ct g yX0_contentOf cX0_contentOf 3 (some .int) 2 0 0 [.ref k, .int (nI d), .int (nI x)] w Q := by
  refine Ct.of kX0_contentOf (by omega) (lo := [some (.ref k), some (.int (nI d)), some (.int (nI x))]) rfl (px_cat1 rfl) (Nat.le_of_ble_eq_true rfl) ?_
  obtain ⟨fc, ft, m0, m1, m2, mC, mT, mB1, mB2, mB3⟩ := id hM
  refine r_aload_n (pc' := 1) dX0_contentOf_0 rfl rfl ?_
  refine r_get (pc' := 4) fX0_9 dX0_contentOf_1 rfl m0 rfl ?_
  refine r_iload_n (pc' := 5) dX0_contentOf_4 rfl rfl ?_
  refine r_bipush (pc' := 7) (v := nI 8) dX0_contentOf_5 rfl rfl ?_
  refine r_imul (pc' := 8) (v := nI (d * 8)) dX0_contentOf_7 rfl (pk_mul d 8) ?_
  refine r_iload_n (pc' := 9) dX0_contentOf_8 rfl rfl ?_
  refine r_iadd (pc' := 10) (v := nI (d * 8 + x)) dX0_contentOf_9 rfl (nI_add (d * 8) x) ?_
  refine r_callS (pc' := 13) (av := [.ref (k + 1), .int (nI (d * 8 + x))]) (rest := []) kX3_at vX3_at lX0_28 dX0_contentOf_10 rfl rfl rfl ⟨by decide, by decide, by decide⟩ rfl rfl (Nat.le_of_ble_eq_true rfl) (ct_X3_at m1 (by decide) (by omega) (mC d x hd hx) ?_)
  show Wp g yX0_contentOf cX0_contentOf 3 (some .int) 2 0 0 (px_MQ g Q 0 0) 0 0 13 [some (.ref k), some (.int (nI d)), some (.int (nI x))] [.int (nI (nc M d x))] w
  refine r_ireturn dX0_contentOf_13 rfl ?_
  exact hQ
set_option maxHeartbeats 200000 in
theorem ct_X0_troddenOf {g : px_G} {w : px_W} {Q : px_Q} {k : Nat} {M : px_N} (hM : MorA w k M) {d : Nat} (hd : d < 4) (hQ : Q (some (.int (nI (nt M d)))) w) : Ct g yX0_troddenOf cX0_troddenOf 2 (some .int) 2 0 0 [.ref k, .int (nI d)] w Q := by
  refine Ct.of kX0_troddenOf (by omega) (lo := [some (.ref k), some (.int (nI d))]) rfl (px_cat1 rfl) (Nat.le_of_ble_eq_true rfl) ?_
  obtain ⟨fc, ft, m0, m1, m2, mC, mT, mB1, mB2, mB3⟩ := id hM
  refine r_aload_n (pc' := 1) dX0_troddenOf_0 rfl rfl ?_
  refine r_get (pc' := 4) fX0_15 dX0_troddenOf_1 rfl m0 rfl ?_
  refine r_iload_n (pc' := 5) dX0_troddenOf_4 rfl rfl ?_
  refine r_callS (pc' := 8) (av := [.ref (k + 2), .int (nI d)]) (rest := []) kX3_at vX3_at lX0_28 dX0_troddenOf_5 rfl rfl rfl ⟨by decide, by decide, by decide⟩ rfl rfl (Nat.le_of_ble_eq_true rfl) (ct_X3_at m2 (by decide) (by omega) (mT d hd) ?_)
  show Wp g yX0_troddenOf cX0_troddenOf 2 (some .int) 2 0 0 (px_MQ g Q 0 0) 0 0 8 [some (.ref k), some (.int (nI d))] [.int (nI (nt M d))] w
  refine r_ireturn dX0_troddenOf_8 rfl ?_
  exact hQ
set_option maxHeartbeats 200000 in
theorem ct_X0_isTrodden {g : px_G} {w : px_W} {Q : px_Q} {k : Nat} {M : px_N} (hM : MorA w k M) {d x : Nat} (hd : d < 4) (hx : x < 31) (hQ : Q (some (.int (bI ((nt M d).testBit x)))) w) : Ct g yX0_isTrodden cX0_isTrodden 3 (some .boolean) 3 0 0 [.ref k, .int (nI d), .int (nI x)] w Q := by
  refine Ct.of kX0_isTrodden (by omega) (lo := [some (.ref k), some (.int (nI d)), some (.int (nI x))]) rfl (px_cat1 rfl) (Nat.le_of_ble_eq_true rfl) ?_
  obtain ⟨fc, ft, m0, m1, m2, mC, mT, mB1, mB2, mB3⟩ := id hM
  refine r_aload_n (pc' := 1) dX0_isTrodden_0 rfl rfl ?_
  refine r_iload_n (pc' := 2) dX0_isTrodden_1 rfl rfl ?_
  refine r_callV (pc' := 5) (av := [.int (nI d)]) (rest := []) kX0_troddenOf vX0_troddenOf lX0_36 dX0_isTrodden_2 rfl m0 rfl rfl rfl ⟨by decide, by decide, by decide⟩ rfl rfl (Nat.le_of_ble_eq_true rfl) (ct_X0_troddenOf hM (d := d) hd ?_)
  show Wp g yX0_isTrodden cX0_isTrodden 3 (some .boolean) 3 0 0 (px_MQ g Q 0 0) 0 0 5 [some (.ref k), some (.int (nI d)), some (.int (nI x))] [.int (nI (nt M d))] w
  have e2 := mB2 d hd
  refine r_iconst (pc' := 6) (v := nI 1) dX0_isTrodden_5 rfl rfl ?_
  refine r_iload_n (pc' := 7) dX0_isTrodden_6 rfl rfl ?_
  refine r_ishl (pc' := 8) (v := nI (2 ^ x)) dX0_isTrodden_7 rfl (shl1_n (b := x) (by omega)) ?_
  refine r_iand (pc' := 9) (v := nI ((nt M d) &&& (2 ^ x))) dX0_isTrodden_8 rfl (and_n (nt M d) (2 ^ x)) ?_
  refine r_if_eq (pc' := 12) (P := (nt M d).testBit x = false) (tgt := 16) dX0_isTrodden_9 (by decide) rfl ((nI_eq0 (n := nt M d &&& 2 ^ x) (and_lt31 (by omega))).trans (tb_and _ x)) (fun h9 => ?_) (fun h9 => ?_)
  · skip
    refine r_iconst (pc' := 17) (v := bI false) dX0_isTrodden_16 rfl rfl ?_
    refine r_zreturn dX0_isTrodden_17 rfl (bI_nar _) ?_
    refine px_eqB hQ ?_
    first | exact h9.symm | (simpa using h9)
  · skip
    refine r_iconst (pc' := 13) (v := bI true) dX0_isTrodden_12 rfl rfl ?_
    refine r_goto (tgt := 17) dX0_isTrodden_13 (by decide) ?_
    refine r_zreturn dX0_isTrodden_17 rfl (bI_nar _) ?_
    refine px_eqB hQ ?_
    first | exact h9.symm | (simpa using h9)
set_option maxHeartbeats 200000 in
theorem ct_X0_lay {g : px_G} {w : px_W} {Q : px_Q} {k : Nat} {M : px_N} (hM : MorA w k M) {d x v : Nat} (hd : d < 4) (hx : x < 8) (hv : v ≤ 8) (hQ : ∀ w', MorA w' k (nLay M d x v) → Frm w w' k (k + 3) → Q none w') : Ct g yX0_lay cX0_lay 4 none 2 0 0 [.ref k, .int (nI d), .int (nI x), .int (nI v)] w Q := by
  refine Ct.of kX0_lay (by omega) (lo := [some (.ref k), some (.int (nI d)), some (.int (nI x)), some (.int (nI v))]) rfl (px_cat1 rfl) (Nat.le_of_ble_eq_true rfl) ?_
  obtain ⟨fc, ft, m0, m1, m2, mC, mT, mB1, mB2, mB3⟩ := id hM
  refine r_aload_n (pc' := 1) dX0_lay_0 rfl rfl ?_
  refine r_get (pc' := 4) fX0_9 dX0_lay_1 rfl m0 rfl ?_
  refine r_iload_n (pc' := 5) dX0_lay_4 rfl rfl ?_
  refine r_bipush (pc' := 7) (v := nI 8) dX0_lay_5 rfl rfl ?_
  refine r_imul (pc' := 8) (v := nI (d * 8)) dX0_lay_7 rfl (pk_mul d 8) ?_
  refine r_iload_n (pc' := 9) dX0_lay_8 rfl rfl ?_
  refine r_iadd (pc' := 10) (v := nI (d * 8 + x)) dX0_lay_9 rfl (nI_add (d * 8) x) ?_
  refine r_iload_n (pc' := 11) dX0_lay_10 rfl rfl ?_
  refine r_callS (pc' := 14) (av := [.ref (k + 1), .int (nI (d * 8 + x)), .int (nI v)]) (rest := []) kX3_put vX3_put lX0_32 dX0_lay_11 rfl rfl rfl ⟨by decide, by decide, by decide⟩ rfl rfl (Nat.le_of_ble_eq_true rfl) (ct_X3_put m1 (by decide) (j := d * 8 + x) (by omega) ?_)
  show Wp g yX0_lay cX0_lay 4 none 2 0 0 (px_MQ g Q 0 0) 0 0 14 [some (.ref k), some (.int (nI d)), some (.int (nI x)), some (.int (nI v))] [] (w.set (k + 1) (.inl (0, 32, .inl (upd fc (d * 8 + x) (nI v)))))
  refine r_return dX0_lay_14 rfl ?_
  exact hQ _ (hM.lay hd hx hv m1) (Frm.set (by omega) (by omega))
set_option maxHeartbeats 200000 in
theorem ct_X0_setTrodden {g : px_G} {w : px_W} {Q : px_Q} {k : Nat} {M : px_N} (hM : MorA w k M) {d v : Nat} (hd : d < 4) (hv : v < 256) (hQ : ∀ w', MorA w' k (nSet M d v) → Frm w w' k (k + 3) → Q none w') : Ct g yX0_setTrodden cX0_setTrodden 3 none 2 0 0 [.ref k, .int (nI d), .int (nI v)] w Q := by
  refine Ct.of kX0_setTrodden (by omega) (lo := [some (.ref k), some (.int (nI d)), some (.int (nI v))]) rfl (px_cat1 rfl) (Nat.le_of_ble_eq_true rfl) ?_
  obtain ⟨fc, ft, m0, m1, m2, mC, mT, mB1, mB2, mB3⟩ := id hM
  refine r_aload_n (pc' := 1) dX0_setTrodden_0 rfl rfl ?_
  refine r_get (pc' := 4) fX0_15 dX0_setTrodden_1 rfl m0 rfl ?_
  refine r_iload_n (pc' := 5) dX0_setTrodden_4 rfl rfl ?_
  refine r_iload_n (pc' := 6) dX0_setTrodden_5 rfl rfl ?_
  refine r_callS (pc' := 9) (av := [.ref (k + 2), .int (nI d), .int (nI v)]) (rest := []) kX3_put vX3_put lX0_32 dX0_setTrodden_6 rfl rfl rfl ⟨by decide, by decide, by decide⟩ rfl rfl (Nat.le_of_ble_eq_true rfl) (ct_X3_put m2 (by decide) (j := d) (by omega) ?_)
  show Wp g yX0_setTrodden cX0_setTrodden 3 none 2 0 0 (px_MQ g Q 0 0) 0 0 9 [some (.ref k), some (.int (nI d)), some (.int (nI v))] [] (w.set (k + 2) (.inl (0, 4, .inl (upd ft d (nI v)))))
  refine r_return dX0_setTrodden_9 rfl ?_
  exact hQ _ (hM.setT hd hv m2) (Frm.set (by omega) (by omega))
def nTread (M : px_N) (d b : Nat) : px_N := nSet M d (nt M d ||| b)
theorem or_256 {a b : Nat} (ha : a < 256) (hb : b < 256) : a ||| b < 256 := Nat.or_lt_two_pow (n := 8) ha hb
set_option maxHeartbeats 200000 in
theorem ct_X0_treadAlso {g : px_G} {w : px_W} {Q : px_Q} {k : Nat} {M : px_N} (hM : MorA w k M) {d b : Nat} (hd : d < 4) (hb : b < 256) (hQ : ∀ w', MorA w' k (nTread M d b) → Frm w w' k (k + 3) → Q (some (.int (nI (popc (ndif b (nt M d)))))) w') : Ct g yX0_treadAlso cX0_treadAlso 4 (some .int) 3 0 0 [.ref k, .int (nI d), .int (nI b)] w Q := by
  refine Ct.of kX0_treadAlso (by omega) (lo := [some (.ref k), some (.int (nI d)), some (.int (nI b)), none]) rfl (px_cat1 rfl) (Nat.le_of_ble_eq_true rfl) ?_
  obtain ⟨fc, ft, m0, m1, m2, mC, mT, mB1, mB2, mB3⟩ := id hM
  refine r_aload_n (pc' := 1) dX0_treadAlso_0 rfl rfl ?_
  refine r_iload_n (pc' := 2) dX0_treadAlso_1 rfl rfl ?_
  refine r_callV (pc' := 5) (av := [.int (nI d)]) (rest := []) kX0_troddenOf vX0_troddenOf lX0_36 dX0_treadAlso_2 rfl m0 rfl rfl rfl ⟨by decide, by decide, by decide⟩ rfl rfl (Nat.le_of_ble_eq_true rfl) (ct_X0_troddenOf hM (d := d) hd ?_)
  show Wp g yX0_treadAlso cX0_treadAlso 4 (some .int) 3 0 0 (px_MQ g Q 0 0) 0 0 5 [some (.ref k), some (.int (nI d)), some (.int (nI b)), none] [.int (nI (nt M d))] w
  have e2 := mB2 d hd
  refine r_istore_n (pc' := 6) (lo' := [some (.ref k), some (.int (nI d)), some (.int (nI b)), some (.int (nI (nt M d)))]) dX0_treadAlso_5 rfl (by decide) rfl ?_
  refine r_aload_n (pc' := 7) dX0_treadAlso_6 rfl rfl ?_
  refine r_iload_n (pc' := 8) dX0_treadAlso_7 rfl rfl ?_
  refine r_iload_n (pc' := 9) dX0_treadAlso_8 rfl rfl ?_
  refine r_iload_n (pc' := 10) dX0_treadAlso_9 rfl rfl ?_
  refine r_ior (pc' := 11) (v := nI ((nt M d) ||| b)) dX0_treadAlso_10 rfl (or_n (nt M d) b) ?_
  refine r_callV (pc' := 14) (av := [.int (nI d), .int (nI ((nt M d) ||| b))]) (rest := []) kX0_setTrodden vX0_setTrodden lX0_40 dX0_treadAlso_11 rfl m0 rfl rfl rfl ⟨by decide, by decide, by decide⟩ rfl rfl (Nat.le_of_ble_eq_true rfl) (ct_X0_setTrodden hM (d := d) (v := nt M d ||| b) hd (or_256 (mB2 d hd) hb) (fun w1 hM1 hF1 => ?_))
  show Wp g yX0_treadAlso cX0_treadAlso 4 (some .int) 3 0 0 (px_MQ g Q 0 0) 0 0 14 [some (.ref k), some (.int (nI d)), some (.int (nI b)), some (.int (nI (nt M d)))] [] w1
  refine r_iload_n (pc' := 15) dX0_treadAlso_14 rfl rfl ?_
  refine r_iload_n (pc' := 16) dX0_treadAlso_15 rfl rfl ?_
  refine r_iconst (pc' := 17) (v := (-1)) dX0_treadAlso_16 rfl rfl ?_
  refine r_ixor (pc' := 18) (v := (nI (nt M d)) ^^^ ((-1))) dX0_treadAlso_17 rfl (rfl) ?_
  refine r_iand (pc' := 19) (v := nI (ndif b (nt M d))) dX0_treadAlso_18 rfl (ndif_n (by omega)) ?_
  refine r_callS (pc' := 22) (av := [.int (nI (ndif b (nt M d)))]) (rest := []) kJ6_bitCount_0f7a4 vJ6_bitCount_0f7a4 lX0_44 dX0_treadAlso_19 rfl rfl rfl ⟨by decide, by decide, by decide⟩ rfl rfl (Nat.le_of_ble_eq_true rfl) (ct_J6_bitCount_0f7a4 (n := ndif b (nt M d)) (Nat.lt_of_le_of_lt (ndif_le _ _) hb) ?_)
  show Wp g yX0_treadAlso cX0_treadAlso 4 (some .int) 3 0 0 (px_MQ g Q 0 0) 0 0 22 [some (.ref k), some (.int (nI d)), some (.int (nI b)), some (.int (nI (nt M d)))] [.int (nI (popc (ndif b (nt M d))))] w1
  refine r_ireturn dX0_treadAlso_22 rfl ?_
  exact hQ _ hM1 hF1
theorem cpf_same {fa fb : Nat → Int32} {i : Nat} (h : fa i = fb i) : cpf fa fb i = cpf fa fb (i + 1) := by
  rw [← cpf_s]
  funext j
  by_cases e : j = i
  · subst e; simp [cpf, upd, h]
  · simp [upd, e]
theorem MorA.bare {w : px_W} {k : Nat} {M : px_N} (h : MorA w k M) {fc ft : Nat → Int32} (c1 : w[k + 1]? = some (.inl (0, 32, .inl fc))) (c2 : w[k + 2]? = some (.inl (0, 4, .inl ft))) : MorA (((w.set (k + 1) (.inl (0, 32, .inl (cpf (fun _ => nI 8) fc 32)))).set (k + 2) (.inl (0, 4, .inl (cpf (fun _ => nI 0) ft 4)))).set k (.inr (0, [.ref (k + 1), .ref (k + 2), .int (nI 0)]))) k nBare := by
  obtain ⟨fc', ft', m0, m1, m2, -⟩ := h
  refine ⟨_, _, gs_eq (gs_ne (gs_ne m0 (by omega)) (by omega)), gs_ne (gs_ne (gs_eq m1) (by omega)) (by omega), gs_ne (gs_eq (gs_ne m2 (by omega))) (by omega), fun a b ha hb => ?_, fun a ha => ?_, fun _ _ _ _ => Nat.le_refl 8, fun _ _ => (by decide : 0 < 256), Nat.zero_le _⟩
  · have : a * 8 + b < 32 := by omega
    simp only [cpf, this, if_true]; rfl
  · simp only [cpf, ha, if_true]; rfl
set_option maxHeartbeats 200000 in
theorem ct_X0_becomeBare {g : px_G} {w : px_W} {Q : px_Q} {k : Nat} {M : px_N} (hM : MorA w k M) (hQ : ∀ w', MorA w' k nBare → Frm w w' k (k + 3) → Q none w') : Ct g yX0_becomeBare cX0_becomeBare 2 none 1 0 0 [.ref k] w Q := by
  refine Ct.of kX0_becomeBare (by omega) (lo := [some (.ref k), none]) rfl (px_cat1 rfl) (Nat.le_of_ble_eq_true rfl) ?_
  obtain ⟨fc, ft, m0, m1, m2, mC, mT, mB1, mB2, mB3⟩ := id hM
  refine r_iconst (pc' := 1) (v := nI 0) dX0_becomeBare_0 rfl rfl ?_
  refine r_istore_n (pc' := 2) (lo' := [some (.ref k), some (.int (nI 0))]) dX0_becomeBare_1 rfl (by decide) rfl ?_
  have L2 : ∀ (fu : Nat) (i : Nat), 32 - i < fu → i ≤ 32 → Wp g yX0_becomeBare cX0_becomeBare 2 none 1 0 0 (px_MQ g Q 0 0) 0 0 2 [some (.ref k), some (.int (nI i))] [] (w.set (k + 1) (.inl (0, 32, .inl (cpf (fun _ => nI 8) fc i)))) := by
    intro fu; induction fu with
    | zero => intro i hm; exact absurd hm (Nat.not_lt_zero _)
    | succ fu ih =>
      intro i hm hi
      have ih2 := ih; clear ih
      refine r_iload_n (pc' := 3) dX0_becomeBare_2 rfl rfl ?_
      refine r_aload_n (pc' := 4) dX0_becomeBare_3 rfl rfl ?_
      refine r_get (pc' := 7) fX0_9 dX0_becomeBare_4 rfl (gs_ne m0 (by omega)) rfl ?_
      refine r_alen (pc' := 8) (v := nI 32) dX0_becomeBare_7 rfl (gs_eq m1) (by decide) rfl ?_
      refine r_icmp_ge (pc' := 11) (P := 32 ≤ i) (tgt := 25) dX0_becomeBare_8 (by decide) rfl (nI_leI (a := 32) (b := i) (by omega) (by omega)) (fun h8 => ?_) (fun h8 => ?_)
      · have hj2 : i = 32 := by omega
        subst hj2
        refine r_iconst (pc' := 26) (v := nI 0) dX0_becomeBare_25 rfl rfl ?_
        refine r_istore_n (pc' := 27) (lo' := [some (.ref k), some (.int (nI 0))]) dX0_becomeBare_26 rfl (by decide) rfl ?_
        have L27 : ∀ (fu : Nat) (i : Nat), 4 - i < fu → i ≤ 4 → Wp g yX0_becomeBare cX0_becomeBare 2 none 1 0 0 (px_MQ g Q 0 0) 0 0 27 [some (.ref k), some (.int (nI i))] [] ((w.set (k + 1) (.inl (0, 32, .inl (cpf (fun _ => nI 8) fc 32)))).set (k + 2) (.inl (0, 4, .inl (cpf (fun _ => nI 0) ft i)))) := by
          intro fu; induction fu with
          | zero => intro i hm; exact absurd hm (Nat.not_lt_zero _)
          | succ fu ih =>
            intro i hm hi
            have ih27 := ih; clear ih
            refine r_iload_n (pc' := 28) dX0_becomeBare_27 rfl rfl ?_
            refine r_aload_n (pc' := 29) dX0_becomeBare_28 rfl rfl ?_
            refine r_get (pc' := 32) fX0_15 dX0_becomeBare_29 rfl (gs_ne (gs_ne m0 (by omega)) (by omega)) rfl ?_
            refine r_alen (pc' := 33) (v := nI 4) dX0_becomeBare_32 rfl (gs_eq (gs_ne m2 (by omega))) (by decide) rfl ?_
            refine r_icmp_ge (pc' := 36) (P := 4 ≤ i) (tgt := 49) dX0_becomeBare_33 (by decide) rfl (nI_leI (a := 4) (b := i) (by omega) (by omega)) (fun h33 => ?_) (fun h33 => ?_)
            · have hj2 : i = 4 := by omega
              subst hj2
              refine r_aload_n (pc' := 50) dX0_becomeBare_49 rfl rfl ?_
              refine r_iconst (pc' := 51) (v := nI 0) dX0_becomeBare_50 rfl rfl ?_
              refine r_put (pc' := 54) (ty := .int) (c' := .inr (0, [.ref (k + 1), .ref (k + 2), .int (nI 0)])) fX0_18 dX0_becomeBare_51 rfl (gs_ne (gs_ne m0 (by omega)) (by omega)) (Nat.le_of_ble_eq_true rfl) rfl (by decide +kernel) rfl rfl rfl ?_
              refine r_return dX0_becomeBare_54 rfl ?_
              exact hQ _ (hM.bare m1 m2) ((Frm.set (by omega) (by omega)).sets (by omega) (by omega) |>.sets (by omega) (by omega))
            · skip
              refine r_aload_n (pc' := 37) dX0_becomeBare_36 rfl rfl ?_
              refine r_get (pc' := 40) fX0_15 dX0_becomeBare_37 rfl (gs_ne (gs_ne m0 (by omega)) (by omega)) rfl ?_
              refine r_iload_n (pc' := 41) dX0_becomeBare_40 rfl rfl ?_
              refine r_iconst (pc' := 42) (v := nI 0) dX0_becomeBare_41 rfl rfl ?_
              refine r_iastore (pc' := 43) (c' := .inl (0, 4, .inl (cpf (fun _ => nI 0) ft (i + 1)))) dX0_becomeBare_42 rfl (gs_eq (gs_ne m2 (by omega))) (vp_in_nI (n := i) (by omega) (by omega)) (by rw [nI_cl (by omega), ← cpf_s]) ?_
              rw [gs_set]
              refine r_iinc (pc' := 46) (lo' := [some (.ref k), some (.int (nI (i + 1)))]) dX0_becomeBare_43 rfl (by decide) rfl (nI_add i 1) rfl ?_
              refine r_goto (tgt := 27) dX0_becomeBare_46 (by decide) ?_
              exact ih27 (i + 1) (by omega) (by omega)
        have L0 := L27 5 0 (by omega) (Nat.zero_le _)
        rw [cpf_0, gs_id (gs_ne (j := k + 1) m2 (by omega))] at L0
        exact L0
      · skip
        refine r_aload_n (pc' := 12) dX0_becomeBare_11 rfl rfl ?_
        refine r_get (pc' := 15) fX0_9 dX0_becomeBare_12 rfl (gs_ne m0 (by omega)) rfl ?_
        refine r_iload_n (pc' := 16) dX0_becomeBare_15 rfl rfl ?_
        refine r_bipush (pc' := 18) (v := nI 8) dX0_becomeBare_16 rfl rfl ?_
        refine r_iastore (pc' := 19) (c' := .inl (0, 32, .inl (cpf (fun _ => nI 8) fc (i + 1)))) dX0_becomeBare_18 rfl (gs_eq m1) (vp_in_nI (n := i) (by omega) (by omega)) (by rw [nI_cl (by omega), ← cpf_s]) ?_
        rw [gs_set]
        refine r_iinc (pc' := 22) (lo' := [some (.ref k), some (.int (nI (i + 1)))]) dX0_becomeBare_19 rfl (by decide) rfl (nI_add i 1) rfl ?_
        refine r_goto (tgt := 2) dX0_becomeBare_22 (by decide) ?_
        exact ih2 (i + 1) (by omega) (by omega)
  have L0 := L2 33 0 (by omega) (Nat.zero_le _)
  rw [cpf_0, gs_id m1] at L0
  exact L0
set_option maxHeartbeats 200000 in
theorem ct_X0_become {g : px_G} {w : px_W} {Q : px_Q} {k : Nat} {M : px_N} (hM : MorA w k M) {k2 : Nat} {M2 : px_N} (hM2 : MorA w k2 M2) (hk : k + 3 ≤ k2 ∨ k2 + 3 ≤ k) (hQ : ∀ w', MorA w' k M2 → Frm w w' k (k + 3) → Q none w') : Ct g yX0_become cX0_become 2 none 2 0 0 [.ref k, .ref k2] w Q := by
  refine Ct.of kX0_become (by omega) (lo := [some (.ref k), some (.ref k2)]) rfl (px_cat1 rfl) (Nat.le_of_ble_eq_true rfl) ?_
  obtain ⟨fc, ft, m0, m1, m2, mC, mT, mB1, mB2, mB3⟩ := id hM
  obtain ⟨gc, gt, n0, n1, n2, nC, nT, nB1, nB2, nB3⟩ := id hM2
  refine r_aload_n (pc' := 1) dX0_become_0 rfl rfl ?_
  refine r_ifnull (pc' := 4) dX0_become_1 rfl ?_
  refine r_aload_n (pc' := 5) dX0_become_4 rfl rfl ?_
  refine r_get (pc' := 8) fX0_9 dX0_become_5 rfl n0 rfl ?_
  refine r_aload_n (pc' := 9) dX0_become_8 rfl rfl ?_
  refine r_get (pc' := 12) fX0_9 dX0_become_9 rfl m0 rfl ?_
  refine r_callS (pc' := 15) (av := [.ref (k2 + 1), .ref (k + 1)]) (rest := []) kX3_copy vX3_copy lX0_22 dX0_become_12 rfl rfl rfl ⟨by decide, by decide, by decide⟩ rfl rfl (Nat.le_of_ble_eq_true rfl) (ct_X3_copy n1 m1 (by omega) (by decide) ?_)
  show Wp g yX0_become cX0_become 2 none 2 0 0 (px_MQ g Q 0 0) 0 0 15 [some (.ref k), some (.ref k2)] [] (w.set (k + 1) (.inl (0, 32, .inl (cpf gc fc 32))))
  refine r_aload_n (pc' := 16) dX0_become_15 rfl rfl ?_
  refine r_get (pc' := 19) fX0_15 dX0_become_16 rfl (gs_ne n0 (by omega)) rfl ?_
  refine r_aload_n (pc' := 20) dX0_become_19 rfl rfl ?_
  refine r_get (pc' := 23) fX0_15 dX0_become_20 rfl (gs_ne m0 (by omega)) rfl ?_
  refine r_callS (pc' := 26) (av := [.ref (k2 + 2), .ref (k + 2)]) (rest := []) kX3_copy vX3_copy lX0_22 dX0_become_23 rfl rfl rfl ⟨by decide, by decide, by decide⟩ rfl rfl (Nat.le_of_ble_eq_true rfl) (ct_X3_copy (gs_ne n2 (by omega)) (gs_ne m2 (by omega)) (by omega) (by decide) ?_)
  show Wp g yX0_become cX0_become 2 none 2 0 0 (px_MQ g Q 0 0) 0 0 26 [some (.ref k), some (.ref k2)] [] ((w.set (k + 1) (.inl (0, 32, .inl (cpf gc fc 32)))).set (k + 2) (.inl (0, 4, .inl (cpf gt ft 4))))
  refine r_aload_n (pc' := 27) dX0_become_26 rfl rfl ?_
  refine r_aload_n (pc' := 28) dX0_become_27 rfl rfl ?_
  refine r_get (pc' := 31) fX0_18 dX0_become_28 rfl (gs_ne (gs_ne n0 (by omega)) (by omega)) rfl ?_
  refine r_put (pc' := 34) (ty := .int) (c' := .inr (0, [.ref (k + 1), .ref (k + 2), .int (nI (nh M2))])) fX0_18 dX0_become_31 rfl (gs_ne (gs_ne m0 (by omega)) (by omega)) (Nat.le_of_ble_eq_true rfl) rfl (by decide +kernel) rfl rfl rfl ?_
  refine r_return dX0_become_34 rfl ?_
  exact hQ _ (hM.cp hM2 hk m1 m2 n1 n2) ((Frm.set (by omega) (by omega)).sets (by omega) (by omega) |>.sets (by omega) (by omega))
def wsh (v : Nat) : Nat := if v == 8 || vow v then v else 8
def cx (M : px_N) (j : Nat) : Nat := nc M (j / 8) (j % 8)
def nRain (M : px_N) : px_N := (fun d x => wsh (nc M d x), nt M, nh M)
def rainN (M : px_N) (n : Nat) : Nat := nsum (fun j => if cx M j == 8 || vow (cx M j) then 0 else 1) n
theorem wsh_le {v : Nat} (h : v ≤ 8) : wsh v ≤ 8 := by unfold wsh; split <;> omega
theorem cx_eq {M : px_N} {fc : Nat → Int32} (mC : ∀ d x, d < 4 → x < 8 → fc (d * 8 + x) = nI (nc M d x)) {j : Nat} (hj : j < 32) : fc j = nI (cx M j) := by
  have := mC (j / 8) (j % 8) (by omega) (by omega)
  rwa [show j / 8 * 8 + j % 8 = j by omega] at this
theorem cx_le {M : px_N} (h : NOK M) {j : Nat} (hj : j < 32) : cx M j ≤ 8 := h.1 _ _ (by omega) (by omega)
theorem MorA.rain {w : px_W} {k : Nat} {M : px_N} (h : MorA w k M) {fc : Nat → Int32} (c1 : w[k + 1]? = some (.inl (0, 32, .inl fc))) : MorA (w.set (k + 1) (.inl (0, 32, .inl (cpf (fun j => nI (wsh (cx M j))) fc 32)))) k (nRain M) := by
  obtain ⟨fc', ft', m0, m1, m2, mC, mT, mB1, mB2, mB3⟩ := h
  refine ⟨_, _, gs_ne m0 (by omega), gs_eq m1, gs_ne m2 (by omega), fun a b ha hb => ?_, mT, fun a b ha hb => wsh_le (mB1 a b ha hb), mB2, mB3⟩
  have : a * 8 + b < 32 := by omega
  simp only [cpf, this, if_true, cx]
  rw [show (a * 8 + b) / 8 = a by omega, show (a * 8 + b) % 8 = b by omega]
  rfl
set_option maxHeartbeats 200000 in
theorem ct_X0_washOut {g : px_G} {w : px_W} {Q : px_Q} {k : Nat} {M : px_N} (hM : MorA w k M) (hQ : ∀ w', MorA w' k (nRain M) → Frm w w' k (k + 3) → Q (some (.int (nI (rainN M 32)))) w') : Ct g yX0_washOut cX0_washOut 3 (some .int) 2 0 0 [.ref k] w Q := by
  refine Ct.of kX0_washOut (by omega) (lo := [some (.ref k), none, none]) rfl (px_cat1 rfl) (Nat.le_of_ble_eq_true rfl) ?_
  obtain ⟨fc, ft, m0, m1, m2, mC, mT, mB1, mB2, mB3⟩ := id hM
  refine r_iconst (pc' := 1) (v := nI 0) dX0_washOut_0 rfl rfl ?_
  refine r_istore_n (pc' := 2) (lo' := [some (.ref k), some (.int (nI 0)), none]) dX0_washOut_1 rfl (by decide) rfl ?_
  refine r_iconst (pc' := 3) (v := nI 0) dX0_washOut_2 rfl rfl ?_
  refine r_istore_n (pc' := 4) (lo' := [some (.ref k), some (.int (nI 0)), some (.int (nI 0))]) dX0_washOut_3 rfl (by decide) rfl ?_
  have L4 : ∀ (fu : Nat) (i : Nat), 32 - i < fu → i ≤ 32 → Wp g yX0_washOut cX0_washOut 3 (some .int) 2 0 0 (px_MQ g Q 0 0) 0 0 4 [some (.ref k), some (.int (nI (rainN M i))), some (.int (nI i))] [] (w.set (k + 1) (.inl (0, 32, .inl (cpf (fun j => nI (wsh (cx M j))) fc i)))) := by
    intro fu; induction fu with
    | zero => intro i hm; exact absurd hm (Nat.not_lt_zero _)
    | succ fu ih =>
      intro i hm hi
      have ih4 := ih; clear ih
      refine r_iload_n (pc' := 5) dX0_washOut_4 rfl rfl ?_
      refine r_aload_n (pc' := 6) dX0_washOut_5 rfl rfl ?_
      refine r_get (pc' := 9) fX0_9 dX0_washOut_6 rfl (gs_ne m0 (by omega)) rfl ?_
      refine r_alen (pc' := 10) (v := nI 32) dX0_washOut_9 rfl (gs_eq m1) (by decide) rfl ?_
      refine r_icmp_ge (pc' := 13) (P := 32 ≤ i) (tgt := 53) dX0_washOut_10 (by decide) rfl (nI_leI (a := 32) (b := i) (by omega) (by omega)) (fun h10 => ?_) (fun h10 => ?_)
      · have hj2 : i = 32 := by omega
        subst hj2
        refine r_iload_n (pc' := 54) dX0_washOut_53 rfl rfl ?_
        refine r_ireturn dX0_washOut_54 rfl ?_
        exact hQ _ (hM.rain m1) (Frm.set (by omega) (by omega))
      · skip
        refine r_aload_n (pc' := 14) dX0_washOut_13 rfl rfl ?_
        refine r_get (pc' := 17) fX0_9 dX0_washOut_14 rfl (gs_ne m0 (by omega)) rfl ?_
        refine r_iload_n (pc' := 18) dX0_washOut_17 rfl rfl ?_
        refine r_iaload (pc' := 19) (v := nI (cx M i)) dX0_washOut_18 rfl (gs_eq m1) (vp_in_nI (n := i) (by omega) (by omega)) (by rw [nI_cl (by omega)]; simp only [cpf, Nat.lt_irrefl, if_false]; exact cx_eq mC (by omega)) ?_
        have e18 := cx_le ⟨mB1, mB2, mB3⟩ (j := i) (by omega)
        refine r_bipush (pc' := 21) (v := nI 8) dX0_washOut_19 rfl rfl ?_
        refine r_icmp_eq (pc' := 24) (P := cx M i = 8) (tgt := 47) dX0_washOut_21 (by decide) rfl (nI_eq (a := cx M i) (b := 8) (by omega) (by omega)) (fun h21 => ?_) (fun h21 => ?_)
        · skip
          refine r_iinc (pc' := 50) (lo' := [some (.ref k), some (.int (nI (rainN M i))), some (.int (nI (i + 1)))]) dX0_washOut_47 rfl (by decide) rfl (nI_add i 1) rfl ?_
          refine r_goto (tgt := 4) dX0_washOut_50 (by decide) ?_
          have hb : (cx M i == 8 || vow (cx M i)) = true := by first | (simp [h21]; done) | (simp at h33; simp [h33]; done)
          have hx : rainN M i = rainN M (i + 1) := by simp only [rainN, nsum, hb]; rfl
          rw [hx]
          rw [cpf_same (fa := (fun j => nI (wsh (cx M j)))) (fb := fc) (i := i) (by show nI (wsh (cx M i)) = fc i; rw [cx_eq mC (by omega)]; simp [wsh, hb])]
          exact ih4 (i + 1) (by omega) (by omega)
        · skip
          refine r_aload_n (pc' := 25) dX0_washOut_24 rfl rfl ?_
          refine r_get (pc' := 28) fX0_9 dX0_washOut_25 rfl (gs_ne m0 (by omega)) rfl ?_
          refine r_iload_n (pc' := 29) dX0_washOut_28 rfl rfl ?_
          refine r_iaload (pc' := 30) (v := nI (cx M i)) dX0_washOut_29 rfl (gs_eq m1) (vp_in_nI (n := i) (by omega) (by omega)) (by rw [nI_cl (by omega)]; simp only [cpf, Nat.lt_irrefl, if_false]; exact cx_eq mC (by omega)) ?_
          refine r_callSN (pc' := 33) (av := [.int (nI (cx M i))]) (rest := []) kX6_isVowel vX6_isVowel lX0_49 dX0_washOut_30 rfl rfl rfl ⟨by decide, by decide, by decide⟩ rfl rfl (Nat.le_of_ble_eq_true rfl) (ct_X6_isVowel (n := cx M i) (by omega) ?_)
          show Wp g yX0_washOut cX0_washOut 3 (some .int) 2 0 0 (px_MQ g Q 0 0) 0 0 33 [some (.ref k), some (.int (nI (rainN M i))), some (.int (nI i))] [.int (bI (vow (cx M i)))] (w.set (k + 1) (.inl (0, 32, .inl (cpf (fun j => nI (wsh (cx M j))) fc i))))
          refine r_if_ne (pc' := 36) (P := (vow (cx M i)) = false) (tgt := 47) dX0_washOut_33 (by decide) rfl (bI_0) (fun h33 => ?_) (fun h33 => ?_)
          · skip
            refine r_iinc (pc' := 50) (lo' := [some (.ref k), some (.int (nI (rainN M i))), some (.int (nI (i + 1)))]) dX0_washOut_47 rfl (by decide) rfl (nI_add i 1) rfl ?_
            refine r_goto (tgt := 4) dX0_washOut_50 (by decide) ?_
            have hb : (cx M i == 8 || vow (cx M i)) = true := by first | (simp [h21]; done) | (simp at h33; simp [h33]; done)
            have hx : rainN M i = rainN M (i + 1) := by simp only [rainN, nsum, hb]; rfl
            rw [hx]
            rw [cpf_same (fa := (fun j => nI (wsh (cx M j)))) (fb := fc) (i := i) (by show nI (wsh (cx M i)) = fc i; rw [cx_eq mC (by omega)]; simp [wsh, hb])]
            exact ih4 (i + 1) (by omega) (by omega)
          · skip
            refine r_aload_n (pc' := 37) dX0_washOut_36 rfl rfl ?_
            refine r_get (pc' := 40) fX0_9 dX0_washOut_37 rfl (gs_ne m0 (by omega)) rfl ?_
            refine r_iload_n (pc' := 41) dX0_washOut_40 rfl rfl ?_
            refine r_bipush (pc' := 43) (v := nI 8) dX0_washOut_41 rfl rfl ?_
            refine r_iastore (pc' := 44) (c' := .inl (0, 32, .inl (cpf (fun j => nI (wsh (cx M j))) fc (i + 1)))) dX0_washOut_43 rfl (gs_eq m1) (vp_in_nI (n := i) (by omega) (by omega)) (by rw [nI_cl (by omega), ← cpf_s]; simp [wsh, h21, (by simpa using h33 : vow (cx M i) = false)]) ?_
            rw [gs_set]
            refine r_iinc (pc' := 47) (lo' := [some (.ref k), some (.int (nI (rainN M i + 1))), some (.int (nI i))]) dX0_washOut_44 rfl (by decide) rfl (nI_add (rainN M i) 1) rfl ?_
            refine r_iinc (pc' := 50) (lo' := [some (.ref k), some (.int (nI (rainN M i + 1))), some (.int (nI (i + 1)))]) dX0_washOut_47 rfl (by decide) rfl (nI_add i 1) rfl ?_
            refine r_goto (tgt := 4) dX0_washOut_50 (by decide) ?_
            have hb : (cx M i == 8 || vow (cx M i)) = false := by simp [h21, h33]
            have hx : rainN M i + 1 = rainN M (i + 1) := by simp only [rainN, nsum, hb]; rfl
            rw [hx]
            exact ih4 (i + 1) (by omega) (by omega)
  have L0 := L4 33 0 (by omega) (Nat.zero_le _)
  rw [cpf_0, gs_id m1] at L0
  exact L0
