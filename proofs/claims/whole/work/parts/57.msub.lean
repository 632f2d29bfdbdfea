theorem MtF.t0 {T : px_T} {fm fz fl fs fd g0 g1 g2 g3 : Nat → Int32} (h : MtF T fm fz fl fs fd g0 g1 g2 g3) : MtF T (upd (upd (upd fm 3 (nI 0)) 4 (nI 0)) 5 (nI 0)) fz fl fs fd g0 g1 g2 g3 ∧ MtE T0 (upd (upd (upd fm 3 (nI 0)) 4 (nI 0)) 5 (nI 0)) fz fl fs fd g0 g1 g2 g3 :=
  ⟨h.low (fun j hj => by simp only [upd]; rw [if_neg (by omega), if_neg (by omega), if_neg (by omega)]) (fun _ _ => rfl) (fun _ _ => rfl) (fun _ _ => rfl) (fun _ _ => rfl) (fun _ _ => rfl) (fun _ _ => rfl) (fun _ _ => rfl) (fun _ _ => rfl),
   ⟨rfl, rfl, rfl⟩, fun i hi => absurd hi (Nat.not_lt_zero _), fun i x hi => absurd hi (Nat.not_lt_zero _), fun i hi => absurd hi (Nat.not_lt_zero _), fun i hi => absurd hi (Nat.not_lt_zero _), ⟨by decide, by decide, by decide⟩, fun i hi => absurd hi (Nat.not_lt_zero _), fun i x hi => absurd hi (Nat.not_lt_zero _)⟩
set_option maxHeartbeats 200000 in
theorem ct_X7_begins {g : px_G} {w : px_W} {Q : px_Q} {tr : Int64} {ty nx tk pl va fa um : Int32} {T : px_T} (hX : w[60]? = some (mobj tr ty nx tk pl va fa um)) (hT : MtA w T) (hQ : ∀ w', MtD w' T T0 → Frm w w' 62 63 → Q none w') : Ct g yX7_begins cX7_begins 1 none 1 0 0 [.ref 60] w Q := by
  refine Ct.of kX7_begins (by omega) (lo := [some (.ref 60)]) rfl (px_cat1 rfl) (Nat.le_of_ble_eq_true rfl) ?_
  obtain ⟨fm, fz, fl, fs, fd, g0, g1, g2, g3, ⟨c1, c2, c3, c4, c5, c6, c7, c8, c9⟩, hF⟩ := id hT
  refine r_aload_n (pc' := 1) dX7_begins_0 rfl rfl ?_
  refine r_get (pc' := 4) fX7_13 dX7_begins_1 rfl hX rfl ?_
  refine r_iconst (pc' := 5) (v := nI 3) dX7_begins_4 rfl rfl ?_
  refine r_iconst (pc' := 6) (v := nI 0) dX7_begins_5 rfl rfl ?_
  refine r_iastore (pc' := 7) (c' := .inl (0, 6, .inl (upd fm 3 (nI 0)))) dX7_begins_6 rfl c1 (vp_in_nI (n := 3) (by omega) (by omega)) (by rw [nI_cl (by omega)]) ?_
  refine r_aload_n (pc' := 8) dX7_begins_7 rfl rfl ?_
  refine r_get (pc' := 11) fX7_13 dX7_begins_8 rfl (gs_ne hX (by decide)) rfl ?_
  refine r_iconst (pc' := 12) (v := nI 4) dX7_begins_11 rfl rfl ?_
  refine r_iconst (pc' := 13) (v := nI 0) dX7_begins_12 rfl rfl ?_
  refine r_iastore (pc' := 14) (c' := .inl (0, 6, .inl (upd (upd fm 3 (nI 0)) 4 (nI 0)))) dX7_begins_13 rfl (gs_eq c1) (vp_in_nI (n := 4) (by omega) (by omega)) (by rw [nI_cl (by omega)]) ?_
  refine r_aload_n (pc' := 15) dX7_begins_14 rfl rfl ?_
  refine r_get (pc' := 18) fX7_13 dX7_begins_15 rfl (gs_ne (gs_ne hX (by decide)) (by decide)) rfl ?_
  refine r_iconst (pc' := 19) (v := nI 5) dX7_begins_18 rfl rfl ?_
  refine r_iconst (pc' := 20) (v := nI 0) dX7_begins_19 rfl rfl ?_
  refine r_iastore (pc' := 21) (c' := .inl (0, 6, .inl (upd (upd (upd fm 3 (nI 0)) 4 (nI 0)) 5 (nI 0)))) dX7_begins_20 rfl (gs_eq (gs_eq c1)) (vp_in_nI (n := 5) (by omega) (by omega)) (by rw [nI_cl (by omega)]) ?_
  refine r_return dX7_begins_21 rfl ?_
  have q := hF.t0
  exact hQ _ ⟨_, _, _, _, _, _, _, _, _, ⟨gs_eq (gs_eq (gs_eq c1)), gs_ne (gs_ne (gs_ne c2 (by decide)) (by decide)) (by decide), gs_ne (gs_ne (gs_ne c3 (by decide)) (by decide)) (by decide), gs_ne (gs_ne (gs_ne c4 (by decide)) (by decide)) (by decide), gs_ne (gs_ne (gs_ne c5 (by decide)) (by decide)) (by decide), gs_ne (gs_ne (gs_ne c6 (by decide)) (by decide)) (by decide), gs_ne (gs_ne (gs_ne c7 (by decide)) (by decide)) (by decide), gs_ne (gs_ne (gs_ne c8 (by decide)) (by decide)) (by decide), gs_ne (gs_ne (gs_ne c9 (by decide)) (by decide)) (by decide)⟩, q.1, q.2⟩ ((((Frm.rf (a := 62) (b := 63)).sets (k := 62) (by omega) (by omega)).sets (k := 62) (by omega) (by omega)).sets (k := 62) (by omega) (by omega))
theorem may_n {tx : Nat → Nat} {n p : Nat} {D : px_T} (h : (beg tx n p 119 && decide (tW D < 6) || beg tx n p 100 && decide (tD D < 4) || beg tx n p 103 && decide (tG D < 6)) = false) : itS tx n D p = .inl (tS tx n p) := by
  rw [Bool.or_eq_false_iff, Bool.or_eq_false_iff] at h
  exact itS_n h.1.1 h.1.2 h.2
theorem may_2 {tx : Nat → Nat} {n p : Nat} {D : px_T} (h : tC tx n p ≠ 2) : itS tx n D p = .inl (tS tx n p) := by
  have hb : ∀ v, beg tx n p v = false := fun v => by simp [beg, h]
  exact itS_n (and_f1 (hb _)) (and_f1 (hb _)) (and_f1 (hb _))
theorem may_y {tx : Nat → Nat} {n p : Nat} {D : px_T} (va : Int32) (h2 : tC tx n p = 2) (h : ¬ (beg tx n p 119 && decide (tW D < 6) || beg tx n p 100 && decide (tD D < 4) || beg tx n p 103 && decide (tG D < 6)) = false) : (mV tx n p va = nI 119 ∧ itS tx n D p = itW tx n D p ∧ tW D < 6) ∨ (mV tx n p va = nI 100 ∧ itS tx n D p = itD tx n D p ∧ tD D < 4) ∨ (mV tx n p va = nI 103 ∧ itS tx n D p = itG tx n D p ∧ tG D < 6) := by
  have e : ∀ v, v ≠ 0 → beg tx n p v = true → mV tx n p va = nI v := fun v hv hb => by
    rw [beg_r h2 hv, decide_eq_true_iff] at hb
    rw [mV_r h2, hb]
  cases h1 : (beg tx n p 119 && decide (tW D < 6)) with
  | true =>
    simp only [Bool.and_eq_true, decide_eq_true_iff] at h1
    exact Or.inl ⟨e 119 (by decide) h1.1, itS_w h1.1 h1.2, h1.2⟩
  | false =>
    cases h3 : (beg tx n p 100 && decide (tD D < 4)) with
    | true =>
      have h4 := h3
      simp only [Bool.and_eq_true, decide_eq_true_iff] at h4
      exact Or.inr (Or.inl ⟨e 100 (by decide) h4.1, itS_d h1 h4.1 h4.2, h4.2⟩)
    | false =>
      rw [h1, h3] at h
      have h5 : (beg tx n p 103 && decide (tG D < 6)) = true := by simpa using h
      simp only [Bool.and_eq_true, decide_eq_true_iff] at h5
      exact Or.inr (Or.inr ⟨e 103 (by decide) h5.1, itS_g h1 h3 h5.1 h5.2, h5.2⟩)
theorem px_top {g : px_G} {y : MethodName} {cc : ByteArray} {nL : Nat} {rt : Option FieldType} {dp mc ms : Nat} {Z : px_Z} {c0 s0 pc : Nat} {lo : List (Option Value)} {st : List Value} {w : px_W} {a b : Int32} (e : a = b) (h : Wp g y cc nL rt dp mc ms Z c0 s0 pc lo (.int b :: st) w) : Wp g y cc nL rt dp mc ms Z c0 s0 pc lo (.int a :: st) w := by rw [e]; exact h
set_option maxHeartbeats 200000 in
theorem ct_X7_suburb {g : px_G} {w : px_W} {Q : px_Q} {T : px_T} {M : px_N} {U : List px_N} {I : Nat → Option px_N} {n : Nat} {tx : Nat → Nat} {tr : Int64} (hS : MSx w T M U I n tx tr) (hok : ∀ w' T' m, parR tx n = .inr (T', m) → TOK T' → MSx w' T' nBare [] (fun _ => none) 0 tx tr → Frm w w' 60 76 → Q (some (.int (nI m))) w') (hno : ∀ w' f, parR tx n = .inl f → f ≤ 150 → MSx w' T M U I n tx tr → Frm w w' 60 76 → Q (some (.int ((-10) - (nI f)))) w') : Ct g yX7_suburb cX7_suburb 3 (some .int) 6 0 0 [.ref 60] w Q := by
  refine Ct.of kX7_suburb (by omega) (lo := [some (.ref 60), none, none]) rfl (px_cat1 rfl) (Nat.le_of_ble_eq_true rfl) ?_
  obtain ⟨nx, tk, pl, va, fa, hX, hT, hM, hTx, hK, hU, hB⟩ := id hS
  obtain ⟨fx, x1, x2, x3⟩ := id hTx
  refine r_aload_n (pc' := 1) dX7_suburb_0 rfl rfl ?_
  refine r_iconst (pc' := 2) (v := nI 0) dX7_suburb_1 rfl rfl ?_
  refine r_put (pc' := 5) (ty := .int) (c' := .inr (6, [.int (nI 0), .long tr, .ref 61, .int (nI n), .int nx, .int tk, .int pl, .int va, .int fa, .ref 62, .ref 63, .ref 64, .ref 65, .ref 66, .ref 67, .ref 68, .ref 69, .ref 70, .ref 71, .ref 72, .ref 73, .ref 74, .int (nI U.length), .ref 75])) fX7_62 dX7_suburb_2 rfl hX (Nat.le_of_ble_eq_true rfl) rfl (by decide +kernel) rfl rfl rfl ?_
  refine px_id hX ?_
  refine r_aload_n (pc' := 6) dX7_suburb_5 rfl rfl ?_
  refine r_iconst (pc' := 7) (v := (-1)) dX7_suburb_6 rfl rfl ?_
  refine r_put (pc' := 10) (ty := .int) (c' := .inr (6, [.int (nI 0), .long tr, .ref 61, .int (nI n), .int nx, .int tk, .int pl, .int va, .int ((-1)), .ref 62, .ref 63, .ref 64, .ref 65, .ref 66, .ref 67, .ref 68, .ref 69, .ref 70, .ref 71, .ref 72, .ref 73, .ref 74, .int (nI U.length), .ref 75])) fX7_89 dX7_suburb_7 rfl hX (Nat.le_of_ble_eq_true rfl) rfl (by decide +kernel) rfl rfl rfl ?_
  refine r_aload_n (pc' := 11) dX7_suburb_10 rfl rfl ?_
  refine r_iconst (pc' := 12) (v := nI 0) dX7_suburb_11 rfl rfl ?_
  refine r_put (pc' := 15) (ty := .int) (c' := .inr (6, [.int (nI 0), .long tr, .ref 61, .int (nI n), .int (nI 0), .int tk, .int pl, .int va, .int ((-1)), .ref 62, .ref 63, .ref 64, .ref 65, .ref 66, .ref 67, .ref 68, .ref 69, .ref 70, .ref 71, .ref 72, .ref 73, .ref 74, .int (nI U.length), .ref 75])) fX7_73 dX7_suburb_12 rfl (gs_eq hX) (Nat.le_of_ble_eq_true rfl) rfl (by decide +kernel) rfl rfl rfl ?_
  refine r_aload_n (pc' := 16) dX7_suburb_15 rfl rfl ?_
  refine r_callV (pc' := 19) (av := []) (rest := []) kX7_begins vX7_begins lX7_56 dX7_suburb_16 rfl (gs_eq (gs_eq hX)) rfl rfl rfl ⟨by decide, by decide, by decide⟩ rfl rfl (Nat.le_of_ble_eq_true rfl) (ct_X7_begins (gs_eq (gs_eq hX)) ((hT.fr (a := 60) (b := 61) (Frm.set (by omega) (by omega)) (by omega)).fr (a := 60) (b := 61) (Frm.set (by omega) (by omega)) (by omega)) (fun w16 hD16 hF16 => ?_))
  show Wp g yX7_suburb cX7_suburb 3 (some .int) 6 0 0 (px_MQ g Q 0 0) 0 0 19 [some (.ref 60), none, none] [] w16
  refine r_iconst (pc' := 20) (v := nI 0) dX7_suburb_19 rfl rfl ?_
  refine r_istore_n (pc' := 21) (lo' := [some (.ref 60), some (.int (nI 0)), none]) dX7_suburb_20 rfl (by decide) rfl ?_
  refine r_aload_n (pc' := 22) dX7_suburb_21 rfl rfl ?_
  refine r_callV (pc' := 25) (av := []) (rest := []) kX7_advances vX7_advances lX7_96 dX7_suburb_22 rfl (hF16.at (gs_eq (gs_eq hX)) (by omega)) rfl rfl rfl ⟨by decide, by decide, by decide⟩ rfl rfl (Nat.le_of_ble_eq_true rfl) (ct_X7_advances (hF16.at (gs_eq (gs_eq hX)) (by omega)) (hF16.at (gs_ne (gs_ne x1 (by decide)) (by decide)) (by omega)) x3 x2 (Nat.zero_le _) ?_)
  show Wp g yX7_suburb cX7_suburb 3 (some .int) 6 0 0 (px_MQ g Q 0 0) 0 0 25 [some (.ref 60), some (.int (nI 0)), none] [] (w16.set 60 (.inr (6, [.int (nI 0), .long tr, .ref 61, .int (nI n), .int (nI (tE tx n 0)), .int (nI (mT tx n 0)), .int (nI (tS tx n 0)), .int (mV tx n 0 va), .int ((-1)), .ref 62, .ref 63, .ref 64, .ref 65, .ref 66, .ref 67, .ref 68, .ref 69, .ref 70, .ref 71, .ref 72, .ref 73, .ref 74, .int (nI U.length), .ref 75])))
  have L25 : ∀ (fu : Nat) (k m p : Nat) (D : px_T) (va : Int32) (w1 : px_W), k < fu → w1[60]? = some (mop tr tx n p va (-1) (nI U.length)) → w1[61]? = some (.inl (0, 150, .inl fx)) → MtD w1 T D → TOK D → p ≤ n → n - p < k → parR tx n = parS tx n k D p m → Frm w w1 60 71 → Wp g yX7_suburb cX7_suburb 3 (some .int) 6 0 0 (px_MQ g Q 0 0) 0 0 25 [some (.ref 60), some (.int (nI m)), none] [] w1 := by
    intro fu; induction fu with
    | zero => intro k m p D va w1 hm; exact absurd hm (Nat.not_lt_zero _)
    | succ fu ih =>
      intro k m p D va w1 hm q1 q2 q3 q4 hp hpk hpar hF1
      obtain ⟨k, rfl⟩ : ∃ k', k = k' + 1 := ⟨k - 1, by omega⟩
      have b1 := mT_b tx n p
      have b2 : tS tx n p ≤ n := tS_le hp
      have ih25 := ih; clear ih
      refine r_aload_n (pc' := 26) dX7_suburb_25 rfl rfl ?_
      refine r_callV (pc' := 29) (av := []) (rest := []) kX7_isWell vX7_isWell lX7_92 dX7_suburb_26 rfl q1 rfl rfl rfl ⟨by decide, by decide, by decide⟩ rfl rfl (Nat.le_of_ble_eq_true rfl) (ct_well_y q1 q2 x3 x2 hp ?_)
      show Wp g yX7_suburb cX7_suburb 3 (some .int) 6 0 0 (px_MQ g Q 0 0) 0 0 29 [some (.ref 60), some (.int (nI m)), none] [.int (bI true)] w1
      refine r_if_eq (pc' := 32) (P := true = false) (tgt := 100) dX7_suburb_29 (by decide) rfl (bI_0) (fun h29 => ?_) (fun h29 => ?_)
      · skip
        exfalso; cases h29
      · skip
        refine r_aload_n (pc' := 33) dX7_suburb_32 rfl rfl ?_
        refine r_get (pc' := 36) fX7_83 dX7_suburb_33 rfl q1 rfl ?_
        refine r_if_eq (pc' := 39) (P := mT tx n p = 0) (tgt := 100) dX7_suburb_36 (by decide) rfl (nI_eq0 (n := mT tx n p) (by omega)) (fun h36 => ?_) (fun h36 => ?_)
        · skip
          refine r_aload_n (pc' := 101) dX7_suburb_100 rfl rfl ?_
          refine r_callV (pc' := 104) (av := []) (rest := []) kX7_isWell vX7_isWell lX7_92 dX7_suburb_101 rfl q1 rfl rfl rfl ⟨by decide, by decide, by decide⟩ rfl rfl (Nat.le_of_ble_eq_true rfl) (ct_well_y q1 q2 x3 x2 hp ?_)
          show Wp g yX7_suburb cX7_suburb 3 (some .int) 6 0 0 (px_MQ g Q 0 0) 0 0 104 [some (.ref 60), some (.int (nI m)), none] [.int (bI true)] w1
          refine r_if_ne (pc' := 107) (P := true = false) (tgt := 115) dX7_suburb_104 (by decide) rfl (bI_0) (fun h104 => ?_) (fun h104 => ?_)
          · skip
            refine r_aload_n (pc' := 116) dX7_suburb_115 rfl rfl ?_
            have hfr := hF1
            obtain ⟨fk1, bk1, z1, z2, z3⟩ := hK.fr hfr (by omega)
            obtain ⟨fn1, z4, z5⟩ := hM.fr hfr (by omega)
            obtain ⟨fu1, z6, z7⟩ := hU.fr hfr (by omega)
            obtain ⟨fy1, z8⟩ := hB.fr hfr (by omega)
            refine r_callV (pc' := 119) (av := []) (rest := []) kX7_settles vX7_settles lX7_59 dX7_suburb_116 rfl q1 rfl rfl rfl ⟨by decide, by decide, by decide⟩ rfl rfl (Nat.le_of_ble_eq_true rfl) (ct_X7_settles q1 q3 z4 z2 q2 z1 z6 z8 (fun w116 h59s hTs hMs hb116 n60 n71 n73 n74 hFs => ?_))
            obtain ⟨bk', y1, y2, y3⟩ := hb116
            show Wp g yX7_suburb cX7_suburb 3 (some .int) 6 0 0 (px_MQ g Q 0 0) 0 0 119 [some (.ref 60), some (.int (nI m)), none] [] w116
            refine r_iload_n (pc' := 120) dX7_suburb_119 rfl rfl ?_
            refine r_ireturn dX7_suburb_120 rfl ?_
            have hpe : parR tx n = .inr (D, m) := hpar.trans (parS_e (mT_0.mp h36))
            refine hok _ _ _ hpe q4 ⟨_, _, _, _, _, h59s, hTs, hMs, ⟨fx, n60, Nat.zero_le _, fun j hj => absurd hj (Nat.not_lt_zero _)⟩, ⟨fk1, bk', n71, y1, fun i hi => ⟨by rcases (show i = 0 ∨ i = 1 by omega) with rfl | rfl; exact y2; exact y3, fun N hN => by cases hN⟩⟩, ⟨fu1, n73, UdF.nil fu1⟩, ⟨fy1, n74⟩⟩ ((hF1.mono (a := 60) (b := 76) (by omega) (by omega)).tr hFs (by omega) (by omega) (by omega) (by omega))
          · skip
            exfalso; cases h104
        · skip
          refine r_aload_n (pc' := 40) dX7_suburb_39 rfl rfl ?_
          refine r_aload_n (pc' := 41) dX7_suburb_40 rfl rfl ?_
          refine r_get (pc' := 44) fX7_83 dX7_suburb_41 rfl q1 rfl ?_
          refine r_iconst (pc' := 45) (v := nI 1) dX7_suburb_44 rfl rfl ?_
          refine r_icmp_ne (pc' := 48) (P := mT tx n p = 1) (tgt := 59) dX7_suburb_45 (by decide) rfl (nI_eq (a := mT tx n p) (b := 1) (by omega) (by omega)) (fun h45 => ?_) (fun h45 => ?_)
          · skip
            refine r_iconst (pc' := 60) (v := bI false) dX7_suburb_59 rfl rfl ?_
            refine r_callV (pc' := 63) (av := [.int (bI false)]) (rest := []) kX7_takes vX7_takes lX7_99 dX7_suburb_60 rfl q1 rfl rfl rfl ⟨by decide, by decide, by decide⟩ rfl rfl (Nat.le_of_ble_eq_true rfl) (ct_takes_f q1 q2 x3 x2 hp ?_)
            show Wp g yX7_suburb cX7_suburb 3 (some .int) 6 0 0 (px_MQ g Q 0 0) 0 0 63 [some (.ref 60), some (.int (nI m)), none] [.int (nI 0)] (w1.set 60 (.inr (6, [.int (nI 0), .long tr, .ref 61, .int (nI n), .int (nI (tE tx n p)), .int (nI (mT tx n p)), .int (nI (tS tx n p)), .int (mV tx n p va), .int (nI (tS tx n p)), .ref 62, .ref 63, .ref 64, .ref 65, .ref 66, .ref 67, .ref 68, .ref 69, .ref 70, .ref 71, .ref 72, .ref 73, .ref 74, .int (nI U.length), .ref 75])))
            refine r_istore_n (pc' := 64) (lo' := [some (.ref 60), some (.int (nI m)), some (.int (nI 0))]) dX7_suburb_63 rfl (by decide) rfl ?_
            refine r_aload_n (pc' := 65) dX7_suburb_64 rfl rfl ?_
            refine r_callV (pc' := 68) (av := []) (rest := []) kX7_isWell vX7_isWell lX7_92 dX7_suburb_65 rfl (gs_eq q1) rfl rfl rfl ⟨by decide, by decide, by decide⟩ rfl rfl (Nat.le_of_ble_eq_true rfl) (ct_well_n (gs_eq q1) (gs_ne q2 (by decide)) x3 (by omega) x2 hp ?_)
            show Wp g yX7_suburb cX7_suburb 3 (some .int) 6 0 0 (px_MQ g Q 0 0) 0 0 68 [some (.ref 60), some (.int (nI m)), some (.int (nI 0))] [.int (bI false)] (w1.set 60 (.inr (6, [.int (nI 0), .long tr, .ref 61, .int (nI n), .int (nI (tE tx n p)), .int (nI (mT tx n p)), .int (nI (tS tx n p)), .int (mV tx n p va), .int (nI (tS tx n p)), .ref 62, .ref 63, .ref 64, .ref 65, .ref 66, .ref 67, .ref 68, .ref 69, .ref 70, .ref 71, .ref 72, .ref 73, .ref 74, .int (nI U.length), .ref 75])))
            refine r_if_eq (pc' := 71) (P := false = false) (tgt := 76) dX7_suburb_68 (by decide) rfl (bI_0) (fun h68 => ?_) (fun h68 => ?_)
            · skip
              refine r_aload_n (pc' := 77) dX7_suburb_76 rfl rfl ?_
              refine r_aload_n (pc' := 78) dX7_suburb_77 rfl rfl ?_
              refine r_get (pc' := 81) fX7_83 dX7_suburb_78 rfl (gs_eq q1) rfl ?_
              refine r_iconst (pc' := 82) (v := nI 3) dX7_suburb_81 rfl rfl ?_
              refine r_icmp_ne (pc' := 85) (P := mT tx n p = 3) (tgt := 89) dX7_suburb_82 (by decide) rfl (nI_eq (a := mT tx n p) (b := 3) (by omega) (by omega)) (fun h82 => ?_) (fun h82 => ?_)
              · skip
                refine r_iconst (pc' := 90) (v := bI false) dX7_suburb_89 rfl rfl ?_
                refine r_callV (pc' := 93) (av := [.int (bI false)]) (rest := []) kX7_takes vX7_takes lX7_99 dX7_suburb_90 rfl (gs_eq q1) rfl rfl rfl ⟨by decide, by decide, by decide⟩ rfl rfl (Nat.le_of_ble_eq_true rfl) (ct_takes_x (gs_eq q1) (gs_ne q2 (by decide)) x3 (by omega) x2 hp ?_)
                show Wp g yX7_suburb cX7_suburb 3 (some .int) 6 0 0 (px_MQ g Q 0 0) 0 0 93 [some (.ref 60), some (.int (nI m)), some (.int (nI 0))] [.int (nI 0)] (w1.set 60 (.inr (6, [.int (nI 0), .long tr, .ref 61, .int (nI n), .int (nI (tE tx n p)), .int (nI (mT tx n p)), .int (nI (tS tx n p)), .int (mV tx n p va), .int (nI (tS tx n p)), .ref 62, .ref 63, .ref 64, .ref 65, .ref 66, .ref 67, .ref 68, .ref 69, .ref 70, .ref 71, .ref 72, .ref 73, .ref 74, .int (nI U.length), .ref 75])))
                refine r_pop (pc' := 94) dX7_suburb_93 rfl rfl ?_
                refine r_iinc (pc' := 97) (lo' := [some (.ref 60), some (.int (nI (m + 1))), some (.int (nI 0))]) dX7_suburb_94 rfl (by decide) rfl (nI_add m 1) rfl ?_
                refine r_goto (tgt := 25) dX7_suburb_97 (by decide) ?_
                refine r_aload_n (pc' := 26) dX7_suburb_25 rfl rfl ?_
                refine r_callV (pc' := 29) (av := []) (rest := []) kX7_isWell vX7_isWell lX7_92 dX7_suburb_26 rfl (gs_eq q1) rfl rfl rfl ⟨by decide, by decide, by decide⟩ rfl rfl (Nat.le_of_ble_eq_true rfl) (ct_well_n (gs_eq q1) (gs_ne q2 (by decide)) x3 (by omega) x2 hp ?_)
                show Wp g yX7_suburb cX7_suburb 3 (some .int) 6 0 0 (px_MQ g Q 0 0) 0 0 29 [some (.ref 60), some (.int (nI (m + 1))), some (.int (nI 0))] [.int (bI false)] (w1.set 60 (.inr (6, [.int (nI 0), .long tr, .ref 61, .int (nI n), .int (nI (tE tx n p)), .int (nI (mT tx n p)), .int (nI (tS tx n p)), .int (mV tx n p va), .int (nI (tS tx n p)), .ref 62, .ref 63, .ref 64, .ref 65, .ref 66, .ref 67, .ref 68, .ref 69, .ref 70, .ref 71, .ref 72, .ref 73, .ref 74, .int (nI U.length), .ref 75])))
                refine r_if_eq (pc' := 32) (P := false = false) (tgt := 100) dX7_suburb_29 (by decide) rfl (bI_0) (fun h29 => ?_) (fun h29 => ?_)
                · skip
                  refine r_aload_n (pc' := 101) dX7_suburb_100 rfl rfl ?_
                  refine r_callV (pc' := 104) (av := []) (rest := []) kX7_isWell vX7_isWell lX7_92 dX7_suburb_101 rfl (gs_eq q1) rfl rfl rfl ⟨by decide, by decide, by decide⟩ rfl rfl (Nat.le_of_ble_eq_true rfl) (ct_well_n (gs_eq q1) (gs_ne q2 (by decide)) x3 (by omega) x2 hp ?_)
                  show Wp g yX7_suburb cX7_suburb 3 (some .int) 6 0 0 (px_MQ g Q 0 0) 0 0 104 [some (.ref 60), some (.int (nI (m + 1))), some (.int (nI 0))] [.int (bI false)] (w1.set 60 (.inr (6, [.int (nI 0), .long tr, .ref 61, .int (nI n), .int (nI (tE tx n p)), .int (nI (mT tx n p)), .int (nI (tS tx n p)), .int (mV tx n p va), .int (nI (tS tx n p)), .ref 62, .ref 63, .ref 64, .ref 65, .ref 66, .ref 67, .ref 68, .ref 69, .ref 70, .ref 71, .ref 72, .ref 73, .ref 74, .int (nI U.length), .ref 75])))
                  refine r_if_ne (pc' := 107) (P := false = false) (tgt := 115) dX7_suburb_104 (by decide) rfl (bI_0) (fun h104 => ?_) (fun h104 => ?_)
                  · skip
                    exfalso; exact h104 rfl
                  · skip
                    refine r_bipush (pc' := 109) (v := (-10)) dX7_suburb_107 rfl rfl ?_
                    refine r_aload_n (pc' := 110) dX7_suburb_109 rfl rfl ?_
                    refine r_get (pc' := 113) fX7_89 dX7_suburb_110 rfl (gs_eq q1) rfl ?_
                    refine r_isub (pc' := 114) (v := ((-10)) - (nI (tS tx n p))) dX7_suburb_113 rfl (rfl) ?_
                    refine r_ireturn dX7_suburb_114 rfl ?_
                    have hfr : Frm w (w1.set 60 (.inr (6, [.int (nI 0), .long tr, .ref 61, .int (nI n), .int (nI (tE tx n p)), .int (nI (mT tx n p)), .int (nI (tS tx n p)), .int (mV tx n p va), .int (nI (tS tx n p)), .ref 62, .ref 63, .ref 64, .ref 65, .ref 66, .ref 67, .ref 68, .ref 69, .ref 70, .ref 71, .ref 72, .ref 73, .ref 74, .int (nI U.length), .ref 75]))) 60 71 := (hF1.sets (k := 60) (by omega) (by omega))
                    exact hno _ _ (hpar.trans (parS_f (fun q => h36 (mT_0.mpr q)) (by first | exact may_2 (fun q => h45 (mT_1.mpr q)) | exact may_n h52))) (by omega) ⟨_, _, _, _, _, gs_eq q1, (q3.fr (a := 60) (b := 61) (Frm.set (by omega) (by omega)) (by omega)).a, hM.fr hfr (by omega), ⟨fx, gs_ne q2 (by decide), x2, x3⟩, hK.fr hfr (by omega), hU.fr hfr (by omega), hB.fr hfr (by omega)⟩ (hfr.mono (by omega) (by omega))
                · skip
                  exfalso; exact h29 rfl
                
              · skip
                refine r_iconst (pc' := 86) (v := bI true) dX7_suburb_85 rfl rfl ?_
                refine r_goto (tgt := 90) dX7_suburb_86 (by decide) ?_
                refine r_callV (pc' := 93) (av := [.int (bI true)]) (rest := []) kX7_takes vX7_takes lX7_99 dX7_suburb_90 rfl (gs_eq q1) rfl rfl rfl ⟨by decide, by decide, by decide⟩ rfl rfl (Nat.le_of_ble_eq_true rfl) (ct_takes_x (gs_eq q1) (gs_ne q2 (by decide)) x3 (by omega) x2 hp ?_)
                show Wp g yX7_suburb cX7_suburb 3 (some .int) 6 0 0 (px_MQ g Q 0 0) 0 0 93 [some (.ref 60), some (.int (nI m)), some (.int (nI 0))] [.int (nI 0)] (w1.set 60 (.inr (6, [.int (nI 0), .long tr, .ref 61, .int (nI n), .int (nI (tE tx n p)), .int (nI (mT tx n p)), .int (nI (tS tx n p)), .int (mV tx n p va), .int (nI (tS tx n p)), .ref 62, .ref 63, .ref 64, .ref 65, .ref 66, .ref 67, .ref 68, .ref 69, .ref 70, .ref 71, .ref 72, .ref 73, .ref 74, .int (nI U.length), .ref 75])))
                refine r_pop (pc' := 94) dX7_suburb_93 rfl rfl ?_
                refine r_iinc (pc' := 97) (lo' := [some (.ref 60), some (.int (nI (m + 1))), some (.int (nI 0))]) dX7_suburb_94 rfl (by decide) rfl (nI_add m 1) rfl ?_
                refine r_goto (tgt := 25) dX7_suburb_97 (by decide) ?_
                refine r_aload_n (pc' := 26) dX7_suburb_25 rfl rfl ?_
                refine r_callV (pc' := 29) (av := []) (rest := []) kX7_isWell vX7_isWell lX7_92 dX7_suburb_26 rfl (gs_eq q1) rfl rfl rfl ⟨by decide, by decide, by decide⟩ rfl rfl (Nat.le_of_ble_eq_true rfl) (ct_well_n (gs_eq q1) (gs_ne q2 (by decide)) x3 (by omega) x2 hp ?_)
                show Wp g yX7_suburb cX7_suburb 3 (some .int) 6 0 0 (px_MQ g Q 0 0) 0 0 29 [some (.ref 60), some (.int (nI (m + 1))), some (.int (nI 0))] [.int (bI false)] (w1.set 60 (.inr (6, [.int (nI 0), .long tr, .ref 61, .int (nI n), .int (nI (tE tx n p)), .int (nI (mT tx n p)), .int (nI (tS tx n p)), .int (mV tx n p va), .int (nI (tS tx n p)), .ref 62, .ref 63, .ref 64, .ref 65, .ref 66, .ref 67, .ref 68, .ref 69, .ref 70, .ref 71, .ref 72, .ref 73, .ref 74, .int (nI U.length), .ref 75])))
                refine r_if_eq (pc' := 32) (P := false = false) (tgt := 100) dX7_suburb_29 (by decide) rfl (bI_0) (fun h29 => ?_) (fun h29 => ?_)
                · skip
                  refine r_aload_n (pc' := 101) dX7_suburb_100 rfl rfl ?_
                  refine r_callV (pc' := 104) (av := []) (rest := []) kX7_isWell vX7_isWell lX7_92 dX7_suburb_101 rfl (gs_eq q1) rfl rfl rfl ⟨by decide, by decide, by decide⟩ rfl rfl (Nat.le_of_ble_eq_true rfl) (ct_well_n (gs_eq q1) (gs_ne q2 (by decide)) x3 (by omega) x2 hp ?_)
                  show Wp g yX7_suburb cX7_suburb 3 (some .int) 6 0 0 (px_MQ g Q 0 0) 0 0 104 [some (.ref 60), some (.int (nI (m + 1))), some (.int (nI 0))] [.int (bI false)] (w1.set 60 (.inr (6, [.int (nI 0), .long tr, .ref 61, .int (nI n), .int (nI (tE tx n p)), .int (nI (mT tx n p)), .int (nI (tS tx n p)), .int (mV tx n p va), .int (nI (tS tx n p)), .ref 62, .ref 63, .ref 64, .ref 65, .ref 66, .ref 67, .ref 68, .ref 69, .ref 70, .ref 71, .ref 72, .ref 73, .ref 74, .int (nI U.length), .ref 75])))
                  refine r_if_ne (pc' := 107) (P := false = false) (tgt := 115) dX7_suburb_104 (by decide) rfl (bI_0) (fun h104 => ?_) (fun h104 => ?_)
                  · skip
                    exfalso; exact h104 rfl
                  · skip
                    refine r_bipush (pc' := 109) (v := (-10)) dX7_suburb_107 rfl rfl ?_
                    refine r_aload_n (pc' := 110) dX7_suburb_109 rfl rfl ?_
                    refine r_get (pc' := 113) fX7_89 dX7_suburb_110 rfl (gs_eq q1) rfl ?_
                    refine r_isub (pc' := 114) (v := ((-10)) - (nI (tS tx n p))) dX7_suburb_113 rfl (rfl) ?_
                    refine r_ireturn dX7_suburb_114 rfl ?_
                    have hfr : Frm w (w1.set 60 (.inr (6, [.int (nI 0), .long tr, .ref 61, .int (nI n), .int (nI (tE tx n p)), .int (nI (mT tx n p)), .int (nI (tS tx n p)), .int (mV tx n p va), .int (nI (tS tx n p)), .ref 62, .ref 63, .ref 64, .ref 65, .ref 66, .ref 67, .ref 68, .ref 69, .ref 70, .ref 71, .ref 72, .ref 73, .ref 74, .int (nI U.length), .ref 75]))) 60 71 := (hF1.sets (k := 60) (by omega) (by omega))
                    exact hno _ _ (hpar.trans (parS_f (fun q => h36 (mT_0.mpr q)) (by first | exact may_2 (fun q => h45 (mT_1.mpr q)) | exact may_n h52))) (by omega) ⟨_, _, _, _, _, gs_eq q1, (q3.fr (a := 60) (b := 61) (Frm.set (by omega) (by omega)) (by omega)).a, hM.fr hfr (by omega), ⟨fx, gs_ne q2 (by decide), x2, x3⟩, hK.fr hfr (by omega), hU.fr hfr (by omega), hB.fr hfr (by omega)⟩ (hfr.mono (by omega) (by omega))
                · skip
                  exfalso; exact h29 rfl
                
            · skip
              exfalso; exact h68 rfl
          · skip
            refine r_aload_n (pc' := 49) dX7_suburb_48 rfl rfl ?_
            obtain ⟨fm, fz, fl, fs, fd, g0, g1, g2, g3, hC, hF, hE⟩ := id q3
            refine r_callV (pc' := 52) (av := []) (rest := [.ref 60]) kX7_mayBegin vX7_mayBegin lX7_110 dX7_suburb_49 rfl q1 rfl rfl rfl ⟨by decide, by decide, by decide⟩ rfl rfl (Nat.le_of_ble_eq_true rfl) (ct_X7_mayBegin q1 q2 x3 x2 hp hC.1 hE.1 hE.2.2.2.2.2.1 (mT_1.mp h45) ?_)
            show Wp g yX7_suburb cX7_suburb 3 (some .int) 6 0 0 (px_MQ g Q 0 0) 0 0 52 [some (.ref 60), some (.int (nI m)), none] [.int (bI ((beg tx n p 119 && decide (tW D < 6) || beg tx n p 100 && decide (tD D < 4) || beg tx n p 103 && decide (tG D < 6)))), .ref 60] w1
            refine r_if_eq (pc' := 55) (P := ((beg tx n p 119 && decide (tW D < 6) || beg tx n p 100 && decide (tD D < 4) || beg tx n p 103 && decide (tG D < 6))) = false) (tgt := 59) dX7_suburb_52 (by decide) rfl (bI_0) (fun h52 => ?_) (fun h52 => ?_)
            · skip
              refine r_iconst (pc' := 60) (v := bI false) dX7_suburb_59 rfl rfl ?_
              refine r_callV (pc' := 63) (av := [.int (bI false)]) (rest := []) kX7_takes vX7_takes lX7_99 dX7_suburb_60 rfl q1 rfl rfl rfl ⟨by decide, by decide, by decide⟩ rfl rfl (Nat.le_of_ble_eq_true rfl) (ct_takes_f q1 q2 x3 x2 hp ?_)
              show Wp g yX7_suburb cX7_suburb 3 (some .int) 6 0 0 (px_MQ g Q 0 0) 0 0 63 [some (.ref 60), some (.int (nI m)), none] [.int (nI 0)] (w1.set 60 (.inr (6, [.int (nI 0), .long tr, .ref 61, .int (nI n), .int (nI (tE tx n p)), .int (nI (mT tx n p)), .int (nI (tS tx n p)), .int (mV tx n p va), .int (nI (tS tx n p)), .ref 62, .ref 63, .ref 64, .ref 65, .ref 66, .ref 67, .ref 68, .ref 69, .ref 70, .ref 71, .ref 72, .ref 73, .ref 74, .int (nI U.length), .ref 75])))
              refine r_istore_n (pc' := 64) (lo' := [some (.ref 60), some (.int (nI m)), some (.int (nI 0))]) dX7_suburb_63 rfl (by decide) rfl ?_
              refine r_aload_n (pc' := 65) dX7_suburb_64 rfl rfl ?_
              refine r_callV (pc' := 68) (av := []) (rest := []) kX7_isWell vX7_isWell lX7_92 dX7_suburb_65 rfl (gs_eq q1) rfl rfl rfl ⟨by decide, by decide, by decide⟩ rfl rfl (Nat.le_of_ble_eq_true rfl) (ct_well_n (gs_eq q1) (gs_ne q2 (by decide)) x3 (by omega) x2 hp ?_)
              show Wp g yX7_suburb cX7_suburb 3 (some .int) 6 0 0 (px_MQ g Q 0 0) 0 0 68 [some (.ref 60), some (.int (nI m)), some (.int (nI 0))] [.int (bI false)] (w1.set 60 (.inr (6, [.int (nI 0), .long tr, .ref 61, .int (nI n), .int (nI (tE tx n p)), .int (nI (mT tx n p)), .int (nI (tS tx n p)), .int (mV tx n p va), .int (nI (tS tx n p)), .ref 62, .ref 63, .ref 64, .ref 65, .ref 66, .ref 67, .ref 68, .ref 69, .ref 70, .ref 71, .ref 72, .ref 73, .ref 74, .int (nI U.length), .ref 75])))
              refine r_if_eq (pc' := 71) (P := false = false) (tgt := 76) dX7_suburb_68 (by decide) rfl (bI_0) (fun h68 => ?_) (fun h68 => ?_)
              · skip
                refine r_aload_n (pc' := 77) dX7_suburb_76 rfl rfl ?_
                refine r_aload_n (pc' := 78) dX7_suburb_77 rfl rfl ?_
                refine r_get (pc' := 81) fX7_83 dX7_suburb_78 rfl (gs_eq q1) rfl ?_
                refine r_iconst (pc' := 82) (v := nI 3) dX7_suburb_81 rfl rfl ?_
                refine r_icmp_ne (pc' := 85) (P := mT tx n p = 3) (tgt := 89) dX7_suburb_82 (by decide) rfl (nI_eq (a := mT tx n p) (b := 3) (by omega) (by omega)) (fun h82 => ?_) (fun h82 => ?_)
                · skip
                  refine r_iconst (pc' := 90) (v := bI false) dX7_suburb_89 rfl rfl ?_
                  refine r_callV (pc' := 93) (av := [.int (bI false)]) (rest := []) kX7_takes vX7_takes lX7_99 dX7_suburb_90 rfl (gs_eq q1) rfl rfl rfl ⟨by decide, by decide, by decide⟩ rfl rfl (Nat.le_of_ble_eq_true rfl) (ct_takes_x (gs_eq q1) (gs_ne q2 (by decide)) x3 (by omega) x2 hp ?_)
                  show Wp g yX7_suburb cX7_suburb 3 (some .int) 6 0 0 (px_MQ g Q 0 0) 0 0 93 [some (.ref 60), some (.int (nI m)), some (.int (nI 0))] [.int (nI 0)] (w1.set 60 (.inr (6, [.int (nI 0), .long tr, .ref 61, .int (nI n), .int (nI (tE tx n p)), .int (nI (mT tx n p)), .int (nI (tS tx n p)), .int (mV tx n p va), .int (nI (tS tx n p)), .ref 62, .ref 63, .ref 64, .ref 65, .ref 66, .ref 67, .ref 68, .ref 69, .ref 70, .ref 71, .ref 72, .ref 73, .ref 74, .int (nI U.length), .ref 75])))
                  refine r_pop (pc' := 94) dX7_suburb_93 rfl rfl ?_
                  refine r_iinc (pc' := 97) (lo' := [some (.ref 60), some (.int (nI (m + 1))), some (.int (nI 0))]) dX7_suburb_94 rfl (by decide) rfl (nI_add m 1) rfl ?_
                  refine r_goto (tgt := 25) dX7_suburb_97 (by decide) ?_
                  refine r_aload_n (pc' := 26) dX7_suburb_25 rfl rfl ?_
                  refine r_callV (pc' := 29) (av := []) (rest := []) kX7_isWell vX7_isWell lX7_92 dX7_suburb_26 rfl (gs_eq q1) rfl rfl rfl ⟨by decide, by decide, by decide⟩ rfl rfl (Nat.le_of_ble_eq_true rfl) (ct_well_n (gs_eq q1) (gs_ne q2 (by decide)) x3 (by omega) x2 hp ?_)
                  show Wp g yX7_suburb cX7_suburb 3 (some .int) 6 0 0 (px_MQ g Q 0 0) 0 0 29 [some (.ref 60), some (.int (nI (m + 1))), some (.int (nI 0))] [.int (bI false)] (w1.set 60 (.inr (6, [.int (nI 0), .long tr, .ref 61, .int (nI n), .int (nI (tE tx n p)), .int (nI (mT tx n p)), .int (nI (tS tx n p)), .int (mV tx n p va), .int (nI (tS tx n p)), .ref 62, .ref 63, .ref 64, .ref 65, .ref 66, .ref 67, .ref 68, .ref 69, .ref 70, .ref 71, .ref 72, .ref 73, .ref 74, .int (nI U.length), .ref 75])))
                  refine r_if_eq (pc' := 32) (P := false = false) (tgt := 100) dX7_suburb_29 (by decide) rfl (bI_0) (fun h29 => ?_) (fun h29 => ?_)
                  · skip
                    refine r_aload_n (pc' := 101) dX7_suburb_100 rfl rfl ?_
                    refine r_callV (pc' := 104) (av := []) (rest := []) kX7_isWell vX7_isWell lX7_92 dX7_suburb_101 rfl (gs_eq q1) rfl rfl rfl ⟨by decide, by decide, by decide⟩ rfl rfl (Nat.le_of_ble_eq_true rfl) (ct_well_n (gs_eq q1) (gs_ne q2 (by decide)) x3 (by omega) x2 hp ?_)
                    show Wp g yX7_suburb cX7_suburb 3 (some .int) 6 0 0 (px_MQ g Q 0 0) 0 0 104 [some (.ref 60), some (.int (nI (m + 1))), some (.int (nI 0))] [.int (bI false)] (w1.set 60 (.inr (6, [.int (nI 0), .long tr, .ref 61, .int (nI n), .int (nI (tE tx n p)), .int (nI (mT tx n p)), .int (nI (tS tx n p)), .int (mV tx n p va), .int (nI (tS tx n p)), .ref 62, .ref 63, .ref 64, .ref 65, .ref 66, .ref 67, .ref 68, .ref 69, .ref 70, .ref 71, .ref 72, .ref 73, .ref 74, .int (nI U.length), .ref 75])))
                    refine r_if_ne (pc' := 107) (P := false = false) (tgt := 115) dX7_suburb_104 (by decide) rfl (bI_0) (fun h104 => ?_) (fun h104 => ?_)
                    · skip
                      exfalso; exact h104 rfl
                    · skip
                      refine r_bipush (pc' := 109) (v := (-10)) dX7_suburb_107 rfl rfl ?_
                      refine r_aload_n (pc' := 110) dX7_suburb_109 rfl rfl ?_
                      refine r_get (pc' := 113) fX7_89 dX7_suburb_110 rfl (gs_eq q1) rfl ?_
                      refine r_isub (pc' := 114) (v := ((-10)) - (nI (tS tx n p))) dX7_suburb_113 rfl (rfl) ?_
                      refine r_ireturn dX7_suburb_114 rfl ?_
                      have hfr : Frm w (w1.set 60 (.inr (6, [.int (nI 0), .long tr, .ref 61, .int (nI n), .int (nI (tE tx n p)), .int (nI (mT tx n p)), .int (nI (tS tx n p)), .int (mV tx n p va), .int (nI (tS tx n p)), .ref 62, .ref 63, .ref 64, .ref 65, .ref 66, .ref 67, .ref 68, .ref 69, .ref 70, .ref 71, .ref 72, .ref 73, .ref 74, .int (nI U.length), .ref 75]))) 60 71 := (hF1.sets (k := 60) (by omega) (by omega))
                      exact hno _ _ (hpar.trans (parS_f (fun q => h36 (mT_0.mpr q)) (by first | exact may_2 (fun q => h45 (mT_1.mpr q)) | exact may_n h52))) (by omega) ⟨_, _, _, _, _, gs_eq q1, (q3.fr (a := 60) (b := 61) (Frm.set (by omega) (by omega)) (by omega)).a, hM.fr hfr (by omega), ⟨fx, gs_ne q2 (by decide), x2, x3⟩, hK.fr hfr (by omega), hU.fr hfr (by omega), hB.fr hfr (by omega)⟩ (hfr.mono (by omega) (by omega))
                  · skip
                    exfalso; exact h29 rfl
                  
                · skip
                  refine r_iconst (pc' := 86) (v := bI true) dX7_suburb_85 rfl rfl ?_
                  refine r_goto (tgt := 90) dX7_suburb_86 (by decide) ?_
                  refine r_callV (pc' := 93) (av := [.int (bI true)]) (rest := []) kX7_takes vX7_takes lX7_99 dX7_suburb_90 rfl (gs_eq q1) rfl rfl rfl ⟨by decide, by decide, by decide⟩ rfl rfl (Nat.le_of_ble_eq_true rfl) (ct_takes_x (gs_eq q1) (gs_ne q2 (by decide)) x3 (by omega) x2 hp ?_)
                  show Wp g yX7_suburb cX7_suburb 3 (some .int) 6 0 0 (px_MQ g Q 0 0) 0 0 93 [some (.ref 60), some (.int (nI m)), some (.int (nI 0))] [.int (nI 0)] (w1.set 60 (.inr (6, [.int (nI 0), .long tr, .ref 61, .int (nI n), .int (nI (tE tx n p)), .int (nI (mT tx n p)), .int (nI (tS tx n p)), .int (mV tx n p va), .int (nI (tS tx n p)), .ref 62, .ref 63, .ref 64, .ref 65, .ref 66, .ref 67, .ref 68, .ref 69, .ref 70, .ref 71, .ref 72, .ref 73, .ref 74, .int (nI U.length), .ref 75])))
                  refine r_pop (pc' := 94) dX7_suburb_93 rfl rfl ?_
                  refine r_iinc (pc' := 97) (lo' := [some (.ref 60), some (.int (nI (m + 1))), some (.int (nI 0))]) dX7_suburb_94 rfl (by decide) rfl (nI_add m 1) rfl ?_
                  refine r_goto (tgt := 25) dX7_suburb_97 (by decide) ?_
                  refine r_aload_n (pc' := 26) dX7_suburb_25 rfl rfl ?_
                  refine r_callV (pc' := 29) (av := []) (rest := []) kX7_isWell vX7_isWell lX7_92 dX7_suburb_26 rfl (gs_eq q1) rfl rfl rfl ⟨by decide, by decide, by decide⟩ rfl rfl (Nat.le_of_ble_eq_true rfl) (ct_well_n (gs_eq q1) (gs_ne q2 (by decide)) x3 (by omega) x2 hp ?_)
                  show Wp g yX7_suburb cX7_suburb 3 (some .int) 6 0 0 (px_MQ g Q 0 0) 0 0 29 [some (.ref 60), some (.int (nI (m + 1))), some (.int (nI 0))] [.int (bI false)] (w1.set 60 (.inr (6, [.int (nI 0), .long tr, .ref 61, .int (nI n), .int (nI (tE tx n p)), .int (nI (mT tx n p)), .int (nI (tS tx n p)), .int (mV tx n p va), .int (nI (tS tx n p)), .ref 62, .ref 63, .ref 64, .ref 65, .ref 66, .ref 67, .ref 68, .ref 69, .ref 70, .ref 71, .ref 72, .ref 73, .ref 74, .int (nI U.length), .ref 75])))
                  refine r_if_eq (pc' := 32) (P := false = false) (tgt := 100) dX7_suburb_29 (by decide) rfl (bI_0) (fun h29 => ?_) (fun h29 => ?_)
                  · skip
                    refine r_aload_n (pc' := 101) dX7_suburb_100 rfl rfl ?_
                    refine r_callV (pc' := 104) (av := []) (rest := []) kX7_isWell vX7_isWell lX7_92 dX7_suburb_101 rfl (gs_eq q1) rfl rfl rfl ⟨by decide, by decide, by decide⟩ rfl rfl (Nat.le_of_ble_eq_true rfl) (ct_well_n (gs_eq q1) (gs_ne q2 (by decide)) x3 (by omega) x2 hp ?_)
                    show Wp g yX7_suburb cX7_suburb 3 (some .int) 6 0 0 (px_MQ g Q 0 0) 0 0 104 [some (.ref 60), some (.int (nI (m + 1))), some (.int (nI 0))] [.int (bI false)] (w1.set 60 (.inr (6, [.int (nI 0), .long tr, .ref 61, .int (nI n), .int (nI (tE tx n p)), .int (nI (mT tx n p)), .int (nI (tS tx n p)), .int (mV tx n p va), .int (nI (tS tx n p)), .ref 62, .ref 63, .ref 64, .ref 65, .ref 66, .ref 67, .ref 68, .ref 69, .ref 70, .ref 71, .ref 72, .ref 73, .ref 74, .int (nI U.length), .ref 75])))
                    refine r_if_ne (pc' := 107) (P := false = false) (tgt := 115) dX7_suburb_104 (by decide) rfl (bI_0) (fun h104 => ?_) (fun h104 => ?_)
                    · skip
                      exfalso; exact h104 rfl
                    · skip
                      refine r_bipush (pc' := 109) (v := (-10)) dX7_suburb_107 rfl rfl ?_
                      refine r_aload_n (pc' := 110) dX7_suburb_109 rfl rfl ?_
                      refine r_get (pc' := 113) fX7_89 dX7_suburb_110 rfl (gs_eq q1) rfl ?_
                      refine r_isub (pc' := 114) (v := ((-10)) - (nI (tS tx n p))) dX7_suburb_113 rfl (rfl) ?_
                      refine r_ireturn dX7_suburb_114 rfl ?_
                      have hfr : Frm w (w1.set 60 (.inr (6, [.int (nI 0), .long tr, .ref 61, .int (nI n), .int (nI (tE tx n p)), .int (nI (mT tx n p)), .int (nI (tS tx n p)), .int (mV tx n p va), .int (nI (tS tx n p)), .ref 62, .ref 63, .ref 64, .ref 65, .ref 66, .ref 67, .ref 68, .ref 69, .ref 70, .ref 71, .ref 72, .ref 73, .ref 74, .int (nI U.length), .ref 75]))) 60 71 := (hF1.sets (k := 60) (by omega) (by omega))
                      exact hno _ _ (hpar.trans (parS_f (fun q => h36 (mT_0.mpr q)) (by first | exact may_2 (fun q => h45 (mT_1.mpr q)) | exact may_n h52))) (by omega) ⟨_, _, _, _, _, gs_eq q1, (q3.fr (a := 60) (b := 61) (Frm.set (by omega) (by omega)) (by omega)).a, hM.fr hfr (by omega), ⟨fx, gs_ne q2 (by decide), x2, x3⟩, hK.fr hfr (by omega), hU.fr hfr (by omega), hB.fr hfr (by omega)⟩ (hfr.mono (by omega) (by omega))
                  · skip
                    exfalso; exact h29 rfl
                  
              · skip
                exfalso; exact h68 rfl
            · skip
              refine r_iconst (pc' := 56) (v := bI true) dX7_suburb_55 rfl rfl ?_
              refine r_goto (tgt := 60) dX7_suburb_56 (by decide) ?_
              refine r_callV (pc' := 63) (av := [.int (bI true)]) (rest := []) kX7_takes vX7_takes lX7_99 dX7_suburb_60 rfl q1 rfl rfl rfl ⟨by decide, by decide, by decide⟩ rfl rfl (Nat.le_of_ble_eq_true rfl) (ct_takes_t q1 q2 x3 x2 hp ?_)
              show Wp g yX7_suburb cX7_suburb 3 (some .int) 6 0 0 (px_MQ g Q 0 0) 0 0 63 [some (.ref 60), some (.int (nI m)), none] [.int (mV tx n p va)] (w1.set 60 (.inr (6, [.int (nI 0), .long tr, .ref 61, .int (nI n), .int (nI (tE tx n (tE tx n p))), .int (nI (mT tx n (tE tx n p))), .int (nI (tS tx n (tE tx n p))), .int (mV tx n (tE tx n p) (mV tx n p va)), .int ((-1)), .ref 62, .ref 63, .ref 64, .ref 65, .ref 66, .ref 67, .ref 68, .ref 69, .ref 70, .ref 71, .ref 72, .ref 73, .ref 74, .int (nI U.length), .ref 75])))
              rcases may_y va (mT_1.mp h45) h52 with ⟨e1, e2, e3⟩ | ⟨e1, e2, e3⟩ | ⟨e1, e2, e3⟩
              · skip
                have e9 : ∀ x, x = mV tx n p va → x = nI 119 := fun x q => q.trans e1
                refine px_top e1 ?_
                refine r_istore_n (pc' := 64) (lo' := [some (.ref 60), some (.int (nI m)), some (.int (nI 119))]) dX7_suburb_63 rfl (by decide) rfl ?_
                refine r_aload_n (pc' := 65) dX7_suburb_64 rfl rfl ?_
                refine r_callV (pc' := 68) (av := []) (rest := []) kX7_isWell vX7_isWell lX7_92 dX7_suburb_65 rfl (gs_eq q1) rfl rfl rfl ⟨by decide, by decide, by decide⟩ rfl rfl (Nat.le_of_ble_eq_true rfl) (ct_well_y (gs_eq q1) (gs_ne q2 (by decide)) x3 x2 (tE_le hp) ?_)
                show Wp g yX7_suburb cX7_suburb 3 (some .int) 6 0 0 (px_MQ g Q 0 0) 0 0 68 [some (.ref 60), some (.int (nI m)), some (.int (nI 119))] [.int (bI true)] (w1.set 60 (.inr (6, [.int (nI 0), .long tr, .ref 61, .int (nI n), .int (nI (tE tx n (tE tx n p))), .int (nI (mT tx n (tE tx n p))), .int (nI (tS tx n (tE tx n p))), .int (mV tx n (tE tx n p) (mV tx n p va)), .int ((-1)), .ref 62, .ref 63, .ref 64, .ref 65, .ref 66, .ref 67, .ref 68, .ref 69, .ref 70, .ref 71, .ref 72, .ref 73, .ref 74, .int (nI U.length), .ref 75])))
                refine r_if_eq (pc' := 71) (P := true = false) (tgt := 76) dX7_suburb_68 (by decide) rfl (bI_0) (fun h68 => ?_) (fun h68 => ?_)
                · skip
                  exfalso; cases h68
                · skip
                  refine r_aload_n (pc' := 72) dX7_suburb_71 rfl rfl ?_
                  refine r_iload_n (pc' := 73) dX7_suburb_72 rfl rfl ?_
                  refine r_callV (pc' := 76) (av := [.int (nI 119)]) (rest := []) kX7_readsItem vX7_readsItem lX7_113 dX7_suburb_73 rfl (gs_eq q1) rfl rfl rfl ⟨by decide, by decide, by decide⟩ rfl rfl (Nat.le_of_ble_eq_true rfl) (ct_reads_itW (gs_eq q1) (gs_ne q2 (by decide)) x3 x2 hp (q3.fr (a := 60) (b := 61) (Frm.set (by omega) (by omega)) (by omega)) e3 ?_ ?_)
                  · intro w' D' p' va' d1 d3 d4 d5 d6
                    show Wp g yX7_suburb cX7_suburb 3 (some .int) 6 0 0 (px_MQ g Q 0 0) 0 0 76 [some (.ref 60), some (.int (nI m)), some (.int (nI 119))] [] w'
                    have hp2 := (itS_ok q4 hp (e2.trans d1)).2.2.1
                    have b4 := mT_b tx n p'
                    have b3 : tS tx n p' ≤ n := tS_le hp2
                    refine r_aload_n (pc' := 77) dX7_suburb_76 rfl rfl ?_
                    refine r_aload_n (pc' := 78) dX7_suburb_77 rfl rfl ?_
                    refine r_get (pc' := 81) fX7_83 dX7_suburb_78 rfl d3 rfl ?_
                    refine r_iconst (pc' := 82) (v := nI 3) dX7_suburb_81 rfl rfl ?_
                    refine r_icmp_ne (pc' := 85) (P := mT tx n p' = 3) (tgt := 89) dX7_suburb_82 (by decide) rfl (nI_eq (a := mT tx n p') (b := 3) (by omega) (by omega)) (fun h82 => ?_) (fun h82 => ?_)
                    · skip
                      refine r_iconst (pc' := 90) (v := bI false) dX7_suburb_89 rfl rfl ?_
                      refine r_callV (pc' := 93) (av := [.int (bI false)]) (rest := []) kX7_takes vX7_takes lX7_99 dX7_suburb_90 rfl d3 rfl rfl rfl ⟨by decide, by decide, by decide⟩ rfl rfl (Nat.le_of_ble_eq_true rfl) (ct_takes_f d3 d4 x3 x2 hp2 ?_)
                      show Wp g yX7_suburb cX7_suburb 3 (some .int) 6 0 0 (px_MQ g Q 0 0) 0 0 93 [some (.ref 60), some (.int (nI m)), some (.int (nI 119))] [.int (nI 0)] (w'.set 60 (.inr (6, [.int (nI 0), .long tr, .ref 61, .int (nI n), .int (nI (tE tx n p')), .int (nI (mT tx n p')), .int (nI (tS tx n p')), .int (mV tx n p' va'), .int (nI (tS tx n p')), .ref 62, .ref 63, .ref 64, .ref 65, .ref 66, .ref 67, .ref 68, .ref 69, .ref 70, .ref 71, .ref 72, .ref 73, .ref 74, .int (nI U.length), .ref 75])))
                      refine r_pop (pc' := 94) dX7_suburb_93 rfl rfl ?_
                      refine r_iinc (pc' := 97) (lo' := [some (.ref 60), some (.int (nI (m + 1))), some (.int (nI 119))]) dX7_suburb_94 rfl (by decide) rfl (nI_add m 1) rfl ?_
                      refine r_goto (tgt := 25) dX7_suburb_97 (by decide) ?_
                      refine r_aload_n (pc' := 26) dX7_suburb_25 rfl rfl ?_
                      refine r_callV (pc' := 29) (av := []) (rest := []) kX7_isWell vX7_isWell lX7_92 dX7_suburb_26 rfl (gs_eq d3) rfl rfl rfl ⟨by decide, by decide, by decide⟩ rfl rfl (Nat.le_of_ble_eq_true rfl) (ct_well_n (gs_eq d3) (gs_ne d4 (by decide)) x3 (by omega) x2 hp2 ?_)
                      show Wp g yX7_suburb cX7_suburb 3 (some .int) 6 0 0 (px_MQ g Q 0 0) 0 0 29 [some (.ref 60), some (.int (nI (m + 1))), some (.int (nI 119))] [.int (bI false)] (w'.set 60 (.inr (6, [.int (nI 0), .long tr, .ref 61, .int (nI n), .int (nI (tE tx n p')), .int (nI (mT tx n p')), .int (nI (tS tx n p')), .int (mV tx n p' va'), .int (nI (tS tx n p')), .ref 62, .ref 63, .ref 64, .ref 65, .ref 66, .ref 67, .ref 68, .ref 69, .ref 70, .ref 71, .ref 72, .ref 73, .ref 74, .int (nI U.length), .ref 75])))
                      refine r_if_eq (pc' := 32) (P := false = false) (tgt := 100) dX7_suburb_29 (by decide) rfl (bI_0) (fun h29 => ?_) (fun h29 => ?_)
                      · skip
                        refine r_aload_n (pc' := 101) dX7_suburb_100 rfl rfl ?_
                        refine r_callV (pc' := 104) (av := []) (rest := []) kX7_isWell vX7_isWell lX7_92 dX7_suburb_101 rfl (gs_eq d3) rfl rfl rfl ⟨by decide, by decide, by decide⟩ rfl rfl (Nat.le_of_ble_eq_true rfl) (ct_well_n (gs_eq d3) (gs_ne d4 (by decide)) x3 (by omega) x2 hp2 ?_)
                        show Wp g yX7_suburb cX7_suburb 3 (some .int) 6 0 0 (px_MQ g Q 0 0) 0 0 104 [some (.ref 60), some (.int (nI (m + 1))), some (.int (nI 119))] [.int (bI false)] (w'.set 60 (.inr (6, [.int (nI 0), .long tr, .ref 61, .int (nI n), .int (nI (tE tx n p')), .int (nI (mT tx n p')), .int (nI (tS tx n p')), .int (mV tx n p' va'), .int (nI (tS tx n p')), .ref 62, .ref 63, .ref 64, .ref 65, .ref 66, .ref 67, .ref 68, .ref 69, .ref 70, .ref 71, .ref 72, .ref 73, .ref 74, .int (nI U.length), .ref 75])))
                        refine r_if_ne (pc' := 107) (P := false = false) (tgt := 115) dX7_suburb_104 (by decide) rfl (bI_0) (fun h104 => ?_) (fun h104 => ?_)
                        · skip
                          exfalso; exact h104 rfl
                        · skip
                          refine r_bipush (pc' := 109) (v := (-10)) dX7_suburb_107 rfl rfl ?_
                          refine r_aload_n (pc' := 110) dX7_suburb_109 rfl rfl ?_
                          refine r_get (pc' := 113) fX7_89 dX7_suburb_110 rfl (gs_eq d3) rfl ?_
                          refine r_isub (pc' := 114) (v := ((-10)) - (nI (tS tx n p'))) dX7_suburb_113 rfl (rfl) ?_
                          refine r_ireturn dX7_suburb_114 rfl ?_
                          have hfr : Frm w (w'.set 60 (.inr (6, [.int (nI 0), .long tr, .ref 61, .int (nI n), .int (nI (tE tx n p')), .int (nI (mT tx n p')), .int (nI (tS tx n p')), .int (mV tx n p' va'), .int (nI (tS tx n p')), .ref 62, .ref 63, .ref 64, .ref 65, .ref 66, .ref 67, .ref 68, .ref 69, .ref 70, .ref 71, .ref 72, .ref 73, .ref 74, .int (nI U.length), .ref 75]))) 60 71 := ((Frm.tr (a := 60) (b := 71) (hF1.sets (k := 60) (by omega) (by omega)) d6 (by omega) (by omega) (by omega) (by omega)).sets (k := 60) (by omega) (by omega))
                          exact hno _ _ (hpar.trans (parS_z (fun q => h36 (mT_0.mpr q)) (e2.trans d1) (fun q => h82 (mT_3.mpr q)))) (by omega) ⟨_, _, _, _, _, gs_eq d3, (d5.fr (a := 60) (b := 61) (Frm.set (by omega) (by omega)) (by omega)).a, hM.fr hfr (by omega), ⟨fx, gs_ne d4 (by decide), x2, x3⟩, hK.fr hfr (by omega), hU.fr hfr (by omega), hB.fr hfr (by omega)⟩ (hfr.mono (by omega) (by omega))
                      · skip
                        exfalso; exact h29 rfl
                      
                    · skip
                      refine r_iconst (pc' := 86) (v := bI true) dX7_suburb_85 rfl rfl ?_
                      refine r_goto (tgt := 90) dX7_suburb_86 (by decide) ?_
                      refine r_callV (pc' := 93) (av := [.int (bI true)]) (rest := []) kX7_takes vX7_takes lX7_99 dX7_suburb_90 rfl d3 rfl rfl rfl ⟨by decide, by decide, by decide⟩ rfl rfl (Nat.le_of_ble_eq_true rfl) (ct_takes_t d3 d4 x3 x2 hp2 ?_)
                      show Wp g yX7_suburb cX7_suburb 3 (some .int) 6 0 0 (px_MQ g Q 0 0) 0 0 93 [some (.ref 60), some (.int (nI m)), some (.int (nI 119))] [.int (mV tx n p' va')] (w'.set 60 (.inr (6, [.int (nI 0), .long tr, .ref 61, .int (nI n), .int (nI (tE tx n (tE tx n p'))), .int (nI (mT tx n (tE tx n p'))), .int (nI (tS tx n (tE tx n p'))), .int (mV tx n (tE tx n p') (mV tx n p' va')), .int ((-1)), .ref 62, .ref 63, .ref 64, .ref 65, .ref 66, .ref 67, .ref 68, .ref 69, .ref 70, .ref 71, .ref 72, .ref 73, .ref 74, .int (nI U.length), .ref 75])))
                      refine r_pop (pc' := 94) dX7_suburb_93 rfl rfl ?_
                      refine r_iinc (pc' := 97) (lo' := [some (.ref 60), some (.int (nI (m + 1))), some (.int (nI 119))]) dX7_suburb_94 rfl (by decide) rfl (nI_add m 1) rfl ?_
                      refine r_goto (tgt := 25) dX7_suburb_97 (by decide) ?_
                      have g1 := itS_ok q4 hp (e2.trans d1)
                      have g2 := tE_ge tx n p'
                      have g3 := tS_ge tx n p'
                      refine r_drop 2 rfl ?_
                      exact ih25 k (m + 1) (tE tx n p') D' _ _ (by omega) (gs_eq d3) (gs_ne d4 (by decide)) (d5.fr (a := 60) (b := 61) (Frm.set (by omega) (by omega)) (by omega)) g1.1 (tE_le g1.2.2.1) (by omega) (hpar.trans (parS_s (fun q => h36 (mT_0.mpr q)) (e2.trans d1) (mT_3.mp h82))) ((Frm.tr (a := 60) (b := 71) (hF1.sets (k := 60) (by omega) (by omega)) d6 (by omega) (by omega) (by omega) (by omega)).sets (k := 60) (by omega) (by omega))
                  · intro w' f q va' d1 d2 d0 d3 d4 d5 d6
                    show Wp g yX7_suburb cX7_suburb 3 (some .int) 6 0 0 (px_MQ g Q 0 0) 0 0 76 [some (.ref 60), some (.int (nI m)), some (.int (nI 119))] [] w'
                    have b4 := mT_b tx n q
                    refine r_aload_n (pc' := 77) dX7_suburb_76 rfl rfl ?_
                    refine r_aload_n (pc' := 78) dX7_suburb_77 rfl rfl ?_
                    refine r_get (pc' := 81) fX7_83 dX7_suburb_78 rfl d3 rfl ?_
                    refine r_iconst (pc' := 82) (v := nI 3) dX7_suburb_81 rfl rfl ?_
                    refine r_icmp_ne (pc' := 85) (P := mT tx n q = 3) (tgt := 89) dX7_suburb_82 (by decide) rfl (nI_eq (a := mT tx n q) (b := 3) (by omega) (by omega)) (fun h82 => ?_) (fun h82 => ?_)
                    · skip
                      refine r_iconst (pc' := 90) (v := bI false) dX7_suburb_89 rfl rfl ?_
                      refine r_callV (pc' := 93) (av := [.int (bI false)]) (rest := []) kX7_takes vX7_takes lX7_99 dX7_suburb_90 rfl d3 rfl rfl rfl ⟨by decide, by decide, by decide⟩ rfl rfl (Nat.le_of_ble_eq_true rfl) (ct_takes_x d3 d4 x3 (by omega) x2 d2 ?_)
                      show Wp g yX7_suburb cX7_suburb 3 (some .int) 6 0 0 (px_MQ g Q 0 0) 0 0 93 [some (.ref 60), some (.int (nI m)), some (.int (nI 119))] [.int (nI 0)] w'
                      refine r_pop (pc' := 94) dX7_suburb_93 rfl rfl ?_
                      refine r_iinc (pc' := 97) (lo' := [some (.ref 60), some (.int (nI (m + 1))), some (.int (nI 119))]) dX7_suburb_94 rfl (by decide) rfl (nI_add m 1) rfl ?_
                      refine r_goto (tgt := 25) dX7_suburb_97 (by decide) ?_
                      refine r_aload_n (pc' := 26) dX7_suburb_25 rfl rfl ?_
                      refine r_callV (pc' := 29) (av := []) (rest := []) kX7_isWell vX7_isWell lX7_92 dX7_suburb_26 rfl d3 rfl rfl rfl ⟨by decide, by decide, by decide⟩ rfl rfl (Nat.le_of_ble_eq_true rfl) (ct_well_n d3 d4 x3 (by omega) x2 d2 ?_)
                      show Wp g yX7_suburb cX7_suburb 3 (some .int) 6 0 0 (px_MQ g Q 0 0) 0 0 29 [some (.ref 60), some (.int (nI (m + 1))), some (.int (nI 119))] [.int (bI false)] w'
                      refine r_if_eq (pc' := 32) (P := false = false) (tgt := 100) dX7_suburb_29 (by decide) rfl (bI_0) (fun h29 => ?_) (fun h29 => ?_)
                      · skip
                        refine r_aload_n (pc' := 101) dX7_suburb_100 rfl rfl ?_
                        refine r_callV (pc' := 104) (av := []) (rest := []) kX7_isWell vX7_isWell lX7_92 dX7_suburb_101 rfl d3 rfl rfl rfl ⟨by decide, by decide, by decide⟩ rfl rfl (Nat.le_of_ble_eq_true rfl) (ct_well_n d3 d4 x3 (by omega) x2 d2 ?_)
                        show Wp g yX7_suburb cX7_suburb 3 (some .int) 6 0 0 (px_MQ g Q 0 0) 0 0 104 [some (.ref 60), some (.int (nI (m + 1))), some (.int (nI 119))] [.int (bI false)] w'
                        refine r_if_ne (pc' := 107) (P := false = false) (tgt := 115) dX7_suburb_104 (by decide) rfl (bI_0) (fun h104 => ?_) (fun h104 => ?_)
                        · skip
                          exfalso; exact h104 rfl
                        · skip
                          refine r_bipush (pc' := 109) (v := (-10)) dX7_suburb_107 rfl rfl ?_
                          refine r_aload_n (pc' := 110) dX7_suburb_109 rfl rfl ?_
                          refine r_get (pc' := 113) fX7_89 dX7_suburb_110 rfl d3 rfl ?_
                          refine r_isub (pc' := 114) (v := ((-10)) - (nI f)) dX7_suburb_113 rfl (rfl) ?_
                          refine r_ireturn dX7_suburb_114 rfl ?_
                          have hfr : Frm w (w') 60 71 := (Frm.tr (a := 60) (b := 71) (hF1.sets (k := 60) (by omega) (by omega)) d6 (by omega) (by omega) (by omega) (by omega))
                          exact hno _ _ (hpar.trans (parS_f (fun q => h36 (mT_0.mpr q)) (e2.trans d1))) (by omega) ⟨_, _, _, _, _, d3, d5, hM.fr hfr (by omega), ⟨fx, d4, x2, x3⟩, hK.fr hfr (by omega), hU.fr hfr (by omega), hB.fr hfr (by omega)⟩ (hfr.mono (by omega) (by omega))
                      · skip
                        exfalso; exact h29 rfl
                      
                    · skip
                      refine r_iconst (pc' := 86) (v := bI true) dX7_suburb_85 rfl rfl ?_
                      refine r_goto (tgt := 90) dX7_suburb_86 (by decide) ?_
                      refine r_callV (pc' := 93) (av := [.int (bI true)]) (rest := []) kX7_takes vX7_takes lX7_99 dX7_suburb_90 rfl d3 rfl rfl rfl ⟨by decide, by decide, by decide⟩ rfl rfl (Nat.le_of_ble_eq_true rfl) (ct_takes_x d3 d4 x3 (by omega) x2 d2 ?_)
                      show Wp g yX7_suburb cX7_suburb 3 (some .int) 6 0 0 (px_MQ g Q 0 0) 0 0 93 [some (.ref 60), some (.int (nI m)), some (.int (nI 119))] [.int (nI 0)] w'
                      refine r_pop (pc' := 94) dX7_suburb_93 rfl rfl ?_
                      refine r_iinc (pc' := 97) (lo' := [some (.ref 60), some (.int (nI (m + 1))), some (.int (nI 119))]) dX7_suburb_94 rfl (by decide) rfl (nI_add m 1) rfl ?_
                      refine r_goto (tgt := 25) dX7_suburb_97 (by decide) ?_
                      refine r_aload_n (pc' := 26) dX7_suburb_25 rfl rfl ?_
                      refine r_callV (pc' := 29) (av := []) (rest := []) kX7_isWell vX7_isWell lX7_92 dX7_suburb_26 rfl d3 rfl rfl rfl ⟨by decide, by decide, by decide⟩ rfl rfl (Nat.le_of_ble_eq_true rfl) (ct_well_n d3 d4 x3 (by omega) x2 d2 ?_)
                      show Wp g yX7_suburb cX7_suburb 3 (some .int) 6 0 0 (px_MQ g Q 0 0) 0 0 29 [some (.ref 60), some (.int (nI (m + 1))), some (.int (nI 119))] [.int (bI false)] w'
                      refine r_if_eq (pc' := 32) (P := false = false) (tgt := 100) dX7_suburb_29 (by decide) rfl (bI_0) (fun h29 => ?_) (fun h29 => ?_)
                      · skip
                        refine r_aload_n (pc' := 101) dX7_suburb_100 rfl rfl ?_
                        refine r_callV (pc' := 104) (av := []) (rest := []) kX7_isWell vX7_isWell lX7_92 dX7_suburb_101 rfl d3 rfl rfl rfl ⟨by decide, by decide, by decide⟩ rfl rfl (Nat.le_of_ble_eq_true rfl) (ct_well_n d3 d4 x3 (by omega) x2 d2 ?_)
                        show Wp g yX7_suburb cX7_suburb 3 (some .int) 6 0 0 (px_MQ g Q 0 0) 0 0 104 [some (.ref 60), some (.int (nI (m + 1))), some (.int (nI 119))] [.int (bI false)] w'
                        refine r_if_ne (pc' := 107) (P := false = false) (tgt := 115) dX7_suburb_104 (by decide) rfl (bI_0) (fun h104 => ?_) (fun h104 => ?_)
                        · skip
                          exfalso; exact h104 rfl
                        · skip
                          refine r_bipush (pc' := 109) (v := (-10)) dX7_suburb_107 rfl rfl ?_
                          refine r_aload_n (pc' := 110) dX7_suburb_109 rfl rfl ?_
                          refine r_get (pc' := 113) fX7_89 dX7_suburb_110 rfl d3 rfl ?_
                          refine r_isub (pc' := 114) (v := ((-10)) - (nI f)) dX7_suburb_113 rfl (rfl) ?_
                          refine r_ireturn dX7_suburb_114 rfl ?_
                          have hfr : Frm w (w') 60 71 := (Frm.tr (a := 60) (b := 71) (hF1.sets (k := 60) (by omega) (by omega)) d6 (by omega) (by omega) (by omega) (by omega))
                          exact hno _ _ (hpar.trans (parS_f (fun q => h36 (mT_0.mpr q)) (e2.trans d1))) (by omega) ⟨_, _, _, _, _, d3, d5, hM.fr hfr (by omega), ⟨fx, d4, x2, x3⟩, hK.fr hfr (by omega), hU.fr hfr (by omega), hB.fr hfr (by omega)⟩ (hfr.mono (by omega) (by omega))
                      · skip
                        exfalso; exact h29 rfl
                      
              · skip
                have e9 : ∀ x, x = mV tx n p va → x = nI 100 := fun x q => q.trans e1
                refine px_top e1 ?_
                refine r_istore_n (pc' := 64) (lo' := [some (.ref 60), some (.int (nI m)), some (.int (nI 100))]) dX7_suburb_63 rfl (by decide) rfl ?_
                refine r_aload_n (pc' := 65) dX7_suburb_64 rfl rfl ?_
                refine r_callV (pc' := 68) (av := []) (rest := []) kX7_isWell vX7_isWell lX7_92 dX7_suburb_65 rfl (gs_eq q1) rfl rfl rfl ⟨by decide, by decide, by decide⟩ rfl rfl (Nat.le_of_ble_eq_true rfl) (ct_well_y (gs_eq q1) (gs_ne q2 (by decide)) x3 x2 (tE_le hp) ?_)
                show Wp g yX7_suburb cX7_suburb 3 (some .int) 6 0 0 (px_MQ g Q 0 0) 0 0 68 [some (.ref 60), some (.int (nI m)), some (.int (nI 100))] [.int (bI true)] (w1.set 60 (.inr (6, [.int (nI 0), .long tr, .ref 61, .int (nI n), .int (nI (tE tx n (tE tx n p))), .int (nI (mT tx n (tE tx n p))), .int (nI (tS tx n (tE tx n p))), .int (mV tx n (tE tx n p) (mV tx n p va)), .int ((-1)), .ref 62, .ref 63, .ref 64, .ref 65, .ref 66, .ref 67, .ref 68, .ref 69, .ref 70, .ref 71, .ref 72, .ref 73, .ref 74, .int (nI U.length), .ref 75])))
                refine r_if_eq (pc' := 71) (P := true = false) (tgt := 76) dX7_suburb_68 (by decide) rfl (bI_0) (fun h68 => ?_) (fun h68 => ?_)
                · skip
                  exfalso; cases h68
                · skip
                  refine r_aload_n (pc' := 72) dX7_suburb_71 rfl rfl ?_
                  refine r_iload_n (pc' := 73) dX7_suburb_72 rfl rfl ?_
                  refine r_callV (pc' := 76) (av := [.int (nI 100)]) (rest := []) kX7_readsItem vX7_readsItem lX7_113 dX7_suburb_73 rfl (gs_eq q1) rfl rfl rfl ⟨by decide, by decide, by decide⟩ rfl rfl (Nat.le_of_ble_eq_true rfl) (ct_reads_itD (gs_eq q1) (gs_ne q2 (by decide)) x3 x2 hp (q3.fr (a := 60) (b := 61) (Frm.set (by omega) (by omega)) (by omega)) e3 ?_ ?_)
                  · intro w' D' p' va' d1 d3 d4 d5 d6
                    show Wp g yX7_suburb cX7_suburb 3 (some .int) 6 0 0 (px_MQ g Q 0 0) 0 0 76 [some (.ref 60), some (.int (nI m)), some (.int (nI 100))] [] w'
                    have hp2 := (itS_ok q4 hp (e2.trans d1)).2.2.1
                    have b4 := mT_b tx n p'
                    have b3 : tS tx n p' ≤ n := tS_le hp2
                    refine r_aload_n (pc' := 77) dX7_suburb_76 rfl rfl ?_
                    refine r_aload_n (pc' := 78) dX7_suburb_77 rfl rfl ?_
                    refine r_get (pc' := 81) fX7_83 dX7_suburb_78 rfl d3 rfl ?_
                    refine r_iconst (pc' := 82) (v := nI 3) dX7_suburb_81 rfl rfl ?_
                    refine r_icmp_ne (pc' := 85) (P := mT tx n p' = 3) (tgt := 89) dX7_suburb_82 (by decide) rfl (nI_eq (a := mT tx n p') (b := 3) (by omega) (by omega)) (fun h82 => ?_) (fun h82 => ?_)
                    · skip
                      refine r_iconst (pc' := 90) (v := bI false) dX7_suburb_89 rfl rfl ?_
                      refine r_callV (pc' := 93) (av := [.int (bI false)]) (rest := []) kX7_takes vX7_takes lX7_99 dX7_suburb_90 rfl d3 rfl rfl rfl ⟨by decide, by decide, by decide⟩ rfl rfl (Nat.le_of_ble_eq_true rfl) (ct_takes_f d3 d4 x3 x2 hp2 ?_)
                      show Wp g yX7_suburb cX7_suburb 3 (some .int) 6 0 0 (px_MQ g Q 0 0) 0 0 93 [some (.ref 60), some (.int (nI m)), some (.int (nI 100))] [.int (nI 0)] (w'.set 60 (.inr (6, [.int (nI 0), .long tr, .ref 61, .int (nI n), .int (nI (tE tx n p')), .int (nI (mT tx n p')), .int (nI (tS tx n p')), .int (mV tx n p' va'), .int (nI (tS tx n p')), .ref 62, .ref 63, .ref 64, .ref 65, .ref 66, .ref 67, .ref 68, .ref 69, .ref 70, .ref 71, .ref 72, .ref 73, .ref 74, .int (nI U.length), .ref 75])))
                      refine r_pop (pc' := 94) dX7_suburb_93 rfl rfl ?_
                      refine r_iinc (pc' := 97) (lo' := [some (.ref 60), some (.int (nI (m + 1))), some (.int (nI 100))]) dX7_suburb_94 rfl (by decide) rfl (nI_add m 1) rfl ?_
                      refine r_goto (tgt := 25) dX7_suburb_97 (by decide) ?_
                      refine r_aload_n (pc' := 26) dX7_suburb_25 rfl rfl ?_
                      refine r_callV (pc' := 29) (av := []) (rest := []) kX7_isWell vX7_isWell lX7_92 dX7_suburb_26 rfl (gs_eq d3) rfl rfl rfl ⟨by decide, by decide, by decide⟩ rfl rfl (Nat.le_of_ble_eq_true rfl) (ct_well_n (gs_eq d3) (gs_ne d4 (by decide)) x3 (by omega) x2 hp2 ?_)
                      show Wp g yX7_suburb cX7_suburb 3 (some .int) 6 0 0 (px_MQ g Q 0 0) 0 0 29 [some (.ref 60), some (.int (nI (m + 1))), some (.int (nI 100))] [.int (bI false)] (w'.set 60 (.inr (6, [.int (nI 0), .long tr, .ref 61, .int (nI n), .int (nI (tE tx n p')), .int (nI (mT tx n p')), .int (nI (tS tx n p')), .int (mV tx n p' va'), .int (nI (tS tx n p')), .ref 62, .ref 63, .ref 64, .ref 65, .ref 66, .ref 67, .ref 68, .ref 69, .ref 70, .ref 71, .ref 72, .ref 73, .ref 74, .int (nI U.length), .ref 75])))
                      refine r_if_eq (pc' := 32) (P := false = false) (tgt := 100) dX7_suburb_29 (by decide) rfl (bI_0) (fun h29 => ?_) (fun h29 => ?_)
                      · skip
                        refine r_aload_n (pc' := 101) dX7_suburb_100 rfl rfl ?_
                        refine r_callV (pc' := 104) (av := []) (rest := []) kX7_isWell vX7_isWell lX7_92 dX7_suburb_101 rfl (gs_eq d3) rfl rfl rfl ⟨by decide, by decide, by decide⟩ rfl rfl (Nat.le_of_ble_eq_true rfl) (ct_well_n (gs_eq d3) (gs_ne d4 (by decide)) x3 (by omega) x2 hp2 ?_)
                        show Wp g yX7_suburb cX7_suburb 3 (some .int) 6 0 0 (px_MQ g Q 0 0) 0 0 104 [some (.ref 60), some (.int (nI (m + 1))), some (.int (nI 100))] [.int (bI false)] (w'.set 60 (.inr (6, [.int (nI 0), .long tr, .ref 61, .int (nI n), .int (nI (tE tx n p')), .int (nI (mT tx n p')), .int (nI (tS tx n p')), .int (mV tx n p' va'), .int (nI (tS tx n p')), .ref 62, .ref 63, .ref 64, .ref 65, .ref 66, .ref 67, .ref 68, .ref 69, .ref 70, .ref 71, .ref 72, .ref 73, .ref 74, .int (nI U.length), .ref 75])))
                        refine r_if_ne (pc' := 107) (P := false = false) (tgt := 115) dX7_suburb_104 (by decide) rfl (bI_0) (fun h104 => ?_) (fun h104 => ?_)
                        · skip
                          exfalso; exact h104 rfl
                        · skip
                          refine r_bipush (pc' := 109) (v := (-10)) dX7_suburb_107 rfl rfl ?_
                          refine r_aload_n (pc' := 110) dX7_suburb_109 rfl rfl ?_
                          refine r_get (pc' := 113) fX7_89 dX7_suburb_110 rfl (gs_eq d3) rfl ?_
                          refine r_isub (pc' := 114) (v := ((-10)) - (nI (tS tx n p'))) dX7_suburb_113 rfl (rfl) ?_
                          refine r_ireturn dX7_suburb_114 rfl ?_
                          have hfr : Frm w (w'.set 60 (.inr (6, [.int (nI 0), .long tr, .ref 61, .int (nI n), .int (nI (tE tx n p')), .int (nI (mT tx n p')), .int (nI (tS tx n p')), .int (mV tx n p' va'), .int (nI (tS tx n p')), .ref 62, .ref 63, .ref 64, .ref 65, .ref 66, .ref 67, .ref 68, .ref 69, .ref 70, .ref 71, .ref 72, .ref 73, .ref 74, .int (nI U.length), .ref 75]))) 60 71 := ((Frm.tr (a := 60) (b := 71) (hF1.sets (k := 60) (by omega) (by omega)) d6 (by omega) (by omega) (by omega) (by omega)).sets (k := 60) (by omega) (by omega))
                          exact hno _ _ (hpar.trans (parS_z (fun q => h36 (mT_0.mpr q)) (e2.trans d1) (fun q => h82 (mT_3.mpr q)))) (by omega) ⟨_, _, _, _, _, gs_eq d3, (d5.fr (a := 60) (b := 61) (Frm.set (by omega) (by omega)) (by omega)).a, hM.fr hfr (by omega), ⟨fx, gs_ne d4 (by decide), x2, x3⟩, hK.fr hfr (by omega), hU.fr hfr (by omega), hB.fr hfr (by omega)⟩ (hfr.mono (by omega) (by omega))
                      · skip
                        exfalso; exact h29 rfl
                      
                    · skip
                      refine r_iconst (pc' := 86) (v := bI true) dX7_suburb_85 rfl rfl ?_
                      refine r_goto (tgt := 90) dX7_suburb_86 (by decide) ?_
                      refine r_callV (pc' := 93) (av := [.int (bI true)]) (rest := []) kX7_takes vX7_takes lX7_99 dX7_suburb_90 rfl d3 rfl rfl rfl ⟨by decide, by decide, by decide⟩ rfl rfl (Nat.le_of_ble_eq_true rfl) (ct_takes_t d3 d4 x3 x2 hp2 ?_)
                      show Wp g yX7_suburb cX7_suburb 3 (some .int) 6 0 0 (px_MQ g Q 0 0) 0 0 93 [some (.ref 60), some (.int (nI m)), some (.int (nI 100))] [.int (mV tx n p' va')] (w'.set 60 (.inr (6, [.int (nI 0), .long tr, .ref 61, .int (nI n), .int (nI (tE tx n (tE tx n p'))), .int (nI (mT tx n (tE tx n p'))), .int (nI (tS tx n (tE tx n p'))), .int (mV tx n (tE tx n p') (mV tx n p' va')), .int ((-1)), .ref 62, .ref 63, .ref 64, .ref 65, .ref 66, .ref 67, .ref 68, .ref 69, .ref 70, .ref 71, .ref 72, .ref 73, .ref 74, .int (nI U.length), .ref 75])))
                      refine r_pop (pc' := 94) dX7_suburb_93 rfl rfl ?_
                      refine r_iinc (pc' := 97) (lo' := [some (.ref 60), some (.int (nI (m + 1))), some (.int (nI 100))]) dX7_suburb_94 rfl (by decide) rfl (nI_add m 1) rfl ?_
                      refine r_goto (tgt := 25) dX7_suburb_97 (by decide) ?_
                      have g1 := itS_ok q4 hp (e2.trans d1)
                      have g2 := tE_ge tx n p'
                      have g3 := tS_ge tx n p'
                      refine r_drop 2 rfl ?_
                      exact ih25 k (m + 1) (tE tx n p') D' _ _ (by omega) (gs_eq d3) (gs_ne d4 (by decide)) (d5.fr (a := 60) (b := 61) (Frm.set (by omega) (by omega)) (by omega)) g1.1 (tE_le g1.2.2.1) (by omega) (hpar.trans (parS_s (fun q => h36 (mT_0.mpr q)) (e2.trans d1) (mT_3.mp h82))) ((Frm.tr (a := 60) (b := 71) (hF1.sets (k := 60) (by omega) (by omega)) d6 (by omega) (by omega) (by omega) (by omega)).sets (k := 60) (by omega) (by omega))
                  · intro w' f q va' d1 d2 d0 d3 d4 d5 d6
                    show Wp g yX7_suburb cX7_suburb 3 (some .int) 6 0 0 (px_MQ g Q 0 0) 0 0 76 [some (.ref 60), some (.int (nI m)), some (.int (nI 100))] [] w'
                    have b4 := mT_b tx n q
                    refine r_aload_n (pc' := 77) dX7_suburb_76 rfl rfl ?_
                    refine r_aload_n (pc' := 78) dX7_suburb_77 rfl rfl ?_
                    refine r_get (pc' := 81) fX7_83 dX7_suburb_78 rfl d3 rfl ?_
                    refine r_iconst (pc' := 82) (v := nI 3) dX7_suburb_81 rfl rfl ?_
                    refine r_icmp_ne (pc' := 85) (P := mT tx n q = 3) (tgt := 89) dX7_suburb_82 (by decide) rfl (nI_eq (a := mT tx n q) (b := 3) (by omega) (by omega)) (fun h82 => ?_) (fun h82 => ?_)
                    · skip
                      refine r_iconst (pc' := 90) (v := bI false) dX7_suburb_89 rfl rfl ?_
                      refine r_callV (pc' := 93) (av := [.int (bI false)]) (rest := []) kX7_takes vX7_takes lX7_99 dX7_suburb_90 rfl d3 rfl rfl rfl ⟨by decide, by decide, by decide⟩ rfl rfl (Nat.le_of_ble_eq_true rfl) (ct_takes_x d3 d4 x3 (by omega) x2 d2 ?_)
                      show Wp g yX7_suburb cX7_suburb 3 (some .int) 6 0 0 (px_MQ g Q 0 0) 0 0 93 [some (.ref 60), some (.int (nI m)), some (.int (nI 100))] [.int (nI 0)] w'
                      refine r_pop (pc' := 94) dX7_suburb_93 rfl rfl ?_
                      refine r_iinc (pc' := 97) (lo' := [some (.ref 60), some (.int (nI (m + 1))), some (.int (nI 100))]) dX7_suburb_94 rfl (by decide) rfl (nI_add m 1) rfl ?_
                      refine r_goto (tgt := 25) dX7_suburb_97 (by decide) ?_
                      refine r_aload_n (pc' := 26) dX7_suburb_25 rfl rfl ?_
                      refine r_callV (pc' := 29) (av := []) (rest := []) kX7_isWell vX7_isWell lX7_92 dX7_suburb_26 rfl d3 rfl rfl rfl ⟨by decide, by decide, by decide⟩ rfl rfl (Nat.le_of_ble_eq_true rfl) (ct_well_n d3 d4 x3 (by omega) x2 d2 ?_)
                      show Wp g yX7_suburb cX7_suburb 3 (some .int) 6 0 0 (px_MQ g Q 0 0) 0 0 29 [some (.ref 60), some (.int (nI (m + 1))), some (.int (nI 100))] [.int (bI false)] w'
                      refine r_if_eq (pc' := 32) (P := false = false) (tgt := 100) dX7_suburb_29 (by decide) rfl (bI_0) (fun h29 => ?_) (fun h29 => ?_)
                      · skip
                        refine r_aload_n (pc' := 101) dX7_suburb_100 rfl rfl ?_
                        refine r_callV (pc' := 104) (av := []) (rest := []) kX7_isWell vX7_isWell lX7_92 dX7_suburb_101 rfl d3 rfl rfl rfl ⟨by decide, by decide, by decide⟩ rfl rfl (Nat.le_of_ble_eq_true rfl) (ct_well_n d3 d4 x3 (by omega) x2 d2 ?_)
                        show Wp g yX7_suburb cX7_suburb 3 (some .int) 6 0 0 (px_MQ g Q 0 0) 0 0 104 [some (.ref 60), some (.int (nI (m + 1))), some (.int (nI 100))] [.int (bI false)] w'
                        refine r_if_ne (pc' := 107) (P := false = false) (tgt := 115) dX7_suburb_104 (by decide) rfl (bI_0) (fun h104 => ?_) (fun h104 => ?_)
                        · skip
                          exfalso; exact h104 rfl
                        · skip
                          refine r_bipush (pc' := 109) (v := (-10)) dX7_suburb_107 rfl rfl ?_
                          refine r_aload_n (pc' := 110) dX7_suburb_109 rfl rfl ?_
                          refine r_get (pc' := 113) fX7_89 dX7_suburb_110 rfl d3 rfl ?_
                          refine r_isub (pc' := 114) (v := ((-10)) - (nI f)) dX7_suburb_113 rfl (rfl) ?_
                          refine r_ireturn dX7_suburb_114 rfl ?_
                          have hfr : Frm w (w') 60 71 := (Frm.tr (a := 60) (b := 71) (hF1.sets (k := 60) (by omega) (by omega)) d6 (by omega) (by omega) (by omega) (by omega))
                          exact hno _ _ (hpar.trans (parS_f (fun q => h36 (mT_0.mpr q)) (e2.trans d1))) (by omega) ⟨_, _, _, _, _, d3, d5, hM.fr hfr (by omega), ⟨fx, d4, x2, x3⟩, hK.fr hfr (by omega), hU.fr hfr (by omega), hB.fr hfr (by omega)⟩ (hfr.mono (by omega) (by omega))
                      · skip
                        exfalso; exact h29 rfl
                      
                    · skip
                      refine r_iconst (pc' := 86) (v := bI true) dX7_suburb_85 rfl rfl ?_
                      refine r_goto (tgt := 90) dX7_suburb_86 (by decide) ?_
                      refine r_callV (pc' := 93) (av := [.int (bI true)]) (rest := []) kX7_takes vX7_takes lX7_99 dX7_suburb_90 rfl d3 rfl rfl rfl ⟨by decide, by decide, by decide⟩ rfl rfl (Nat.le_of_ble_eq_true rfl) (ct_takes_x d3 d4 x3 (by omega) x2 d2 ?_)
                      show Wp g yX7_suburb cX7_suburb 3 (some .int) 6 0 0 (px_MQ g Q 0 0) 0 0 93 [some (.ref 60), some (.int (nI m)), some (.int (nI 100))] [.int (nI 0)] w'
                      refine r_pop (pc' := 94) dX7_suburb_93 rfl rfl ?_
                      refine r_iinc (pc' := 97) (lo' := [some (.ref 60), some (.int (nI (m + 1))), some (.int (nI 100))]) dX7_suburb_94 rfl (by decide) rfl (nI_add m 1) rfl ?_
                      refine r_goto (tgt := 25) dX7_suburb_97 (by decide) ?_
                      refine r_aload_n (pc' := 26) dX7_suburb_25 rfl rfl ?_
                      refine r_callV (pc' := 29) (av := []) (rest := []) kX7_isWell vX7_isWell lX7_92 dX7_suburb_26 rfl d3 rfl rfl rfl ⟨by decide, by decide, by decide⟩ rfl rfl (Nat.le_of_ble_eq_true rfl) (ct_well_n d3 d4 x3 (by omega) x2 d2 ?_)
                      show Wp g yX7_suburb cX7_suburb 3 (some .int) 6 0 0 (px_MQ g Q 0 0) 0 0 29 [some (.ref 60), some (.int (nI (m + 1))), some (.int (nI 100))] [.int (bI false)] w'
                      refine r_if_eq (pc' := 32) (P := false = false) (tgt := 100) dX7_suburb_29 (by decide) rfl (bI_0) (fun h29 => ?_) (fun h29 => ?_)
                      · skip
                        refine r_aload_n (pc' := 101) dX7_suburb_100 rfl rfl ?_
                        refine r_callV (pc' := 104) (av := []) (rest := []) kX7_isWell vX7_isWell lX7_92 dX7_suburb_101 rfl d3 rfl rfl rfl ⟨by decide, by decide, by decide⟩ rfl rfl (Nat.le_of_ble_eq_true rfl) (ct_well_n d3 d4 x3 (by omega) x2 d2 ?_)
                        show Wp g yX7_suburb cX7_suburb 3 (some .int) 6 0 0 (px_MQ g Q 0 0) 0 0 104 [some (.ref 60), some (.int (nI (m + 1))), some (.int (nI 100))] [.int (bI false)] w'
                        refine r_if_ne (pc' := 107) (P := false = false) (tgt := 115) dX7_suburb_104 (by decide) rfl (bI_0) (fun h104 => ?_) (fun h104 => ?_)
                        · skip
                          exfalso; exact h104 rfl
                        · skip
                          refine r_bipush (pc' := 109) (v := (-10)) dX7_suburb_107 rfl rfl ?_
                          refine r_aload_n (pc' := 110) dX7_suburb_109 rfl rfl ?_
                          refine r_get (pc' := 113) fX7_89 dX7_suburb_110 rfl d3 rfl ?_
                          refine r_isub (pc' := 114) (v := ((-10)) - (nI f)) dX7_suburb_113 rfl (rfl) ?_
                          refine r_ireturn dX7_suburb_114 rfl ?_
                          have hfr : Frm w (w') 60 71 := (Frm.tr (a := 60) (b := 71) (hF1.sets (k := 60) (by omega) (by omega)) d6 (by omega) (by omega) (by omega) (by omega))
                          exact hno _ _ (hpar.trans (parS_f (fun q => h36 (mT_0.mpr q)) (e2.trans d1))) (by omega) ⟨_, _, _, _, _, d3, d5, hM.fr hfr (by omega), ⟨fx, d4, x2, x3⟩, hK.fr hfr (by omega), hU.fr hfr (by omega), hB.fr hfr (by omega)⟩ (hfr.mono (by omega) (by omega))
                      · skip
                        exfalso; exact h29 rfl
                      
              · skip
                have e9 : ∀ x, x = mV tx n p va → x = nI 103 := fun x q => q.trans e1
                refine px_top e1 ?_
                refine r_istore_n (pc' := 64) (lo' := [some (.ref 60), some (.int (nI m)), some (.int (nI 103))]) dX7_suburb_63 rfl (by decide) rfl ?_
                refine r_aload_n (pc' := 65) dX7_suburb_64 rfl rfl ?_
                refine r_callV (pc' := 68) (av := []) (rest := []) kX7_isWell vX7_isWell lX7_92 dX7_suburb_65 rfl (gs_eq q1) rfl rfl rfl ⟨by decide, by decide, by decide⟩ rfl rfl (Nat.le_of_ble_eq_true rfl) (ct_well_y (gs_eq q1) (gs_ne q2 (by decide)) x3 x2 (tE_le hp) ?_)
                show Wp g yX7_suburb cX7_suburb 3 (some .int) 6 0 0 (px_MQ g Q 0 0) 0 0 68 [some (.ref 60), some (.int (nI m)), some (.int (nI 103))] [.int (bI true)] (w1.set 60 (.inr (6, [.int (nI 0), .long tr, .ref 61, .int (nI n), .int (nI (tE tx n (tE tx n p))), .int (nI (mT tx n (tE tx n p))), .int (nI (tS tx n (tE tx n p))), .int (mV tx n (tE tx n p) (mV tx n p va)), .int ((-1)), .ref 62, .ref 63, .ref 64, .ref 65, .ref 66, .ref 67, .ref 68, .ref 69, .ref 70, .ref 71, .ref 72, .ref 73, .ref 74, .int (nI U.length), .ref 75])))
                refine r_if_eq (pc' := 71) (P := true = false) (tgt := 76) dX7_suburb_68 (by decide) rfl (bI_0) (fun h68 => ?_) (fun h68 => ?_)
                · skip
                  exfalso; cases h68
                · skip
                  refine r_aload_n (pc' := 72) dX7_suburb_71 rfl rfl ?_
                  refine r_iload_n (pc' := 73) dX7_suburb_72 rfl rfl ?_
                  refine r_callV (pc' := 76) (av := [.int (nI 103)]) (rest := []) kX7_readsItem vX7_readsItem lX7_113 dX7_suburb_73 rfl (gs_eq q1) rfl rfl rfl ⟨by decide, by decide, by decide⟩ rfl rfl (Nat.le_of_ble_eq_true rfl) (ct_reads_itG (gs_eq q1) (gs_ne q2 (by decide)) x3 x2 hp (q3.fr (a := 60) (b := 61) (Frm.set (by omega) (by omega)) (by omega)) e3 ?_ ?_)
                  · intro w' D' p' va' d1 d3 d4 d5 d6
                    show Wp g yX7_suburb cX7_suburb 3 (some .int) 6 0 0 (px_MQ g Q 0 0) 0 0 76 [some (.ref 60), some (.int (nI m)), some (.int (nI 103))] [] w'
                    have hp2 := (itS_ok q4 hp (e2.trans d1)).2.2.1
                    have b4 := mT_b tx n p'
                    have b3 : tS tx n p' ≤ n := tS_le hp2
                    refine r_aload_n (pc' := 77) dX7_suburb_76 rfl rfl ?_
                    refine r_aload_n (pc' := 78) dX7_suburb_77 rfl rfl ?_
                    refine r_get (pc' := 81) fX7_83 dX7_suburb_78 rfl d3 rfl ?_
                    refine r_iconst (pc' := 82) (v := nI 3) dX7_suburb_81 rfl rfl ?_
                    refine r_icmp_ne (pc' := 85) (P := mT tx n p' = 3) (tgt := 89) dX7_suburb_82 (by decide) rfl (nI_eq (a := mT tx n p') (b := 3) (by omega) (by omega)) (fun h82 => ?_) (fun h82 => ?_)
                    · skip
                      refine r_iconst (pc' := 90) (v := bI false) dX7_suburb_89 rfl rfl ?_
                      refine r_callV (pc' := 93) (av := [.int (bI false)]) (rest := []) kX7_takes vX7_takes lX7_99 dX7_suburb_90 rfl d3 rfl rfl rfl ⟨by decide, by decide, by decide⟩ rfl rfl (Nat.le_of_ble_eq_true rfl) (ct_takes_f d3 d4 x3 x2 hp2 ?_)
                      show Wp g yX7_suburb cX7_suburb 3 (some .int) 6 0 0 (px_MQ g Q 0 0) 0 0 93 [some (.ref 60), some (.int (nI m)), some (.int (nI 103))] [.int (nI 0)] (w'.set 60 (.inr (6, [.int (nI 0), .long tr, .ref 61, .int (nI n), .int (nI (tE tx n p')), .int (nI (mT tx n p')), .int (nI (tS tx n p')), .int (mV tx n p' va'), .int (nI (tS tx n p')), .ref 62, .ref 63, .ref 64, .ref 65, .ref 66, .ref 67, .ref 68, .ref 69, .ref 70, .ref 71, .ref 72, .ref 73, .ref 74, .int (nI U.length), .ref 75])))
                      refine r_pop (pc' := 94) dX7_suburb_93 rfl rfl ?_
                      refine r_iinc (pc' := 97) (lo' := [some (.ref 60), some (.int (nI (m + 1))), some (.int (nI 103))]) dX7_suburb_94 rfl (by decide) rfl (nI_add m 1) rfl ?_
                      refine r_goto (tgt := 25) dX7_suburb_97 (by decide) ?_
                      refine r_aload_n (pc' := 26) dX7_suburb_25 rfl rfl ?_
                      refine r_callV (pc' := 29) (av := []) (rest := []) kX7_isWell vX7_isWell lX7_92 dX7_suburb_26 rfl (gs_eq d3) rfl rfl rfl ⟨by decide, by decide, by decide⟩ rfl rfl (Nat.le_of_ble_eq_true rfl) (ct_well_n (gs_eq d3) (gs_ne d4 (by decide)) x3 (by omega) x2 hp2 ?_)
                      show Wp g yX7_suburb cX7_suburb 3 (some .int) 6 0 0 (px_MQ g Q 0 0) 0 0 29 [some (.ref 60), some (.int (nI (m + 1))), some (.int (nI 103))] [.int (bI false)] (w'.set 60 (.inr (6, [.int (nI 0), .long tr, .ref 61, .int (nI n), .int (nI (tE tx n p')), .int (nI (mT tx n p')), .int (nI (tS tx n p')), .int (mV tx n p' va'), .int (nI (tS tx n p')), .ref 62, .ref 63, .ref 64, .ref 65, .ref 66, .ref 67, .ref 68, .ref 69, .ref 70, .ref 71, .ref 72, .ref 73, .ref 74, .int (nI U.length), .ref 75])))
                      refine r_if_eq (pc' := 32) (P := false = false) (tgt := 100) dX7_suburb_29 (by decide) rfl (bI_0) (fun h29 => ?_) (fun h29 => ?_)
                      · skip
                        refine r_aload_n (pc' := 101) dX7_suburb_100 rfl rfl ?_
                        refine r_callV (pc' := 104) (av := []) (rest := []) kX7_isWell vX7_isWell lX7_92 dX7_suburb_101 rfl (gs_eq d3) rfl rfl rfl ⟨by decide, by decide, by decide⟩ rfl rfl (Nat.le_of_ble_eq_true rfl) (ct_well_n (gs_eq d3) (gs_ne d4 (by decide)) x3 (by omega) x2 hp2 ?_)
                        show Wp g yX7_suburb cX7_suburb 3 (some .int) 6 0 0 (px_MQ g Q 0 0) 0 0 104 [some (.ref 60), some (.int (nI (m + 1))), some (.int (nI 103))] [.int (bI false)] (w'.set 60 (.inr (6, [.int (nI 0), .long tr, .ref 61, .int (nI n), .int (nI (tE tx n p')), .int (nI (mT tx n p')), .int (nI (tS tx n p')), .int (mV tx n p' va'), .int (nI (tS tx n p')), .ref 62, .ref 63, .ref 64, .ref 65, .ref 66, .ref 67, .ref 68, .ref 69, .ref 70, .ref 71, .ref 72, .ref 73, .ref 74, .int (nI U.length), .ref 75])))
                        refine r_if_ne (pc' := 107) (P := false = false) (tgt := 115) dX7_suburb_104 (by decide) rfl (bI_0) (fun h104 => ?_) (fun h104 => ?_)
                        · skip
                          exfalso; exact h104 rfl
                        · skip
                          refine r_bipush (pc' := 109) (v := (-10)) dX7_suburb_107 rfl rfl ?_
                          refine r_aload_n (pc' := 110) dX7_suburb_109 rfl rfl ?_
                          refine r_get (pc' := 113) fX7_89 dX7_suburb_110 rfl (gs_eq d3) rfl ?_
                          refine r_isub (pc' := 114) (v := ((-10)) - (nI (tS tx n p'))) dX7_suburb_113 rfl (rfl) ?_
                          refine r_ireturn dX7_suburb_114 rfl ?_
                          have hfr : Frm w (w'.set 60 (.inr (6, [.int (nI 0), .long tr, .ref 61, .int (nI n), .int (nI (tE tx n p')), .int (nI (mT tx n p')), .int (nI (tS tx n p')), .int (mV tx n p' va'), .int (nI (tS tx n p')), .ref 62, .ref 63, .ref 64, .ref 65, .ref 66, .ref 67, .ref 68, .ref 69, .ref 70, .ref 71, .ref 72, .ref 73, .ref 74, .int (nI U.length), .ref 75]))) 60 71 := ((Frm.tr (a := 60) (b := 71) (hF1.sets (k := 60) (by omega) (by omega)) d6 (by omega) (by omega) (by omega) (by omega)).sets (k := 60) (by omega) (by omega))
                          exact hno _ _ (hpar.trans (parS_z (fun q => h36 (mT_0.mpr q)) (e2.trans d1) (fun q => h82 (mT_3.mpr q)))) (by omega) ⟨_, _, _, _, _, gs_eq d3, (d5.fr (a := 60) (b := 61) (Frm.set (by omega) (by omega)) (by omega)).a, hM.fr hfr (by omega), ⟨fx, gs_ne d4 (by decide), x2, x3⟩, hK.fr hfr (by omega), hU.fr hfr (by omega), hB.fr hfr (by omega)⟩ (hfr.mono (by omega) (by omega))
                      · skip
                        exfalso; exact h29 rfl
                      
                    · skip
                      refine r_iconst (pc' := 86) (v := bI true) dX7_suburb_85 rfl rfl ?_
                      refine r_goto (tgt := 90) dX7_suburb_86 (by decide) ?_
                      refine r_callV (pc' := 93) (av := [.int (bI true)]) (rest := []) kX7_takes vX7_takes lX7_99 dX7_suburb_90 rfl d3 rfl rfl rfl ⟨by decide, by decide, by decide⟩ rfl rfl (Nat.le_of_ble_eq_true rfl) (ct_takes_t d3 d4 x3 x2 hp2 ?_)
                      show Wp g yX7_suburb cX7_suburb 3 (some .int) 6 0 0 (px_MQ g Q 0 0) 0 0 93 [some (.ref 60), some (.int (nI m)), some (.int (nI 103))] [.int (mV tx n p' va')] (w'.set 60 (.inr (6, [.int (nI 0), .long tr, .ref 61, .int (nI n), .int (nI (tE tx n (tE tx n p'))), .int (nI (mT tx n (tE tx n p'))), .int (nI (tS tx n (tE tx n p'))), .int (mV tx n (tE tx n p') (mV tx n p' va')), .int ((-1)), .ref 62, .ref 63, .ref 64, .ref 65, .ref 66, .ref 67, .ref 68, .ref 69, .ref 70, .ref 71, .ref 72, .ref 73, .ref 74, .int (nI U.length), .ref 75])))
                      refine r_pop (pc' := 94) dX7_suburb_93 rfl rfl ?_
                      refine r_iinc (pc' := 97) (lo' := [some (.ref 60), some (.int (nI (m + 1))), some (.int (nI 103))]) dX7_suburb_94 rfl (by decide) rfl (nI_add m 1) rfl ?_
                      refine r_goto (tgt := 25) dX7_suburb_97 (by decide) ?_
                      have g1 := itS_ok q4 hp (e2.trans d1)
                      have g2 := tE_ge tx n p'
                      have g3 := tS_ge tx n p'
                      refine r_drop 2 rfl ?_
                      exact ih25 k (m + 1) (tE tx n p') D' _ _ (by omega) (gs_eq d3) (gs_ne d4 (by decide)) (d5.fr (a := 60) (b := 61) (Frm.set (by omega) (by omega)) (by omega)) g1.1 (tE_le g1.2.2.1) (by omega) (hpar.trans (parS_s (fun q => h36 (mT_0.mpr q)) (e2.trans d1) (mT_3.mp h82))) ((Frm.tr (a := 60) (b := 71) (hF1.sets (k := 60) (by omega) (by omega)) d6 (by omega) (by omega) (by omega) (by omega)).sets (k := 60) (by omega) (by omega))
                  · intro w' f q va' d1 d2 d0 d3 d4 d5 d6
                    show Wp g yX7_suburb cX7_suburb 3 (some .int) 6 0 0 (px_MQ g Q 0 0) 0 0 76 [some (.ref 60), some (.int (nI m)), some (.int (nI 103))] [] w'
                    have b4 := mT_b tx n q
                    refine r_aload_n (pc' := 77) dX7_suburb_76 rfl rfl ?_
                    refine r_aload_n (pc' := 78) dX7_suburb_77 rfl rfl ?_
                    refine r_get (pc' := 81) fX7_83 dX7_suburb_78 rfl d3 rfl ?_
                    refine r_iconst (pc' := 82) (v := nI 3) dX7_suburb_81 rfl rfl ?_
                    refine r_icmp_ne (pc' := 85) (P := mT tx n q = 3) (tgt := 89) dX7_suburb_82 (by decide) rfl (nI_eq (a := mT tx n q) (b := 3) (by omega) (by omega)) (fun h82 => ?_) (fun h82 => ?_)
                    · skip
                      refine r_iconst (pc' := 90) (v := bI false) dX7_suburb_89 rfl rfl ?_
                      refine r_callV (pc' := 93) (av := [.int (bI false)]) (rest := []) kX7_takes vX7_takes lX7_99 dX7_suburb_90 rfl d3 rfl rfl rfl ⟨by decide, by decide, by decide⟩ rfl rfl (Nat.le_of_ble_eq_true rfl) (ct_takes_x d3 d4 x3 (by omega) x2 d2 ?_)
                      show Wp g yX7_suburb cX7_suburb 3 (some .int) 6 0 0 (px_MQ g Q 0 0) 0 0 93 [some (.ref 60), some (.int (nI m)), some (.int (nI 103))] [.int (nI 0)] w'
                      refine r_pop (pc' := 94) dX7_suburb_93 rfl rfl ?_
                      refine r_iinc (pc' := 97) (lo' := [some (.ref 60), some (.int (nI (m + 1))), some (.int (nI 103))]) dX7_suburb_94 rfl (by decide) rfl (nI_add m 1) rfl ?_
                      refine r_goto (tgt := 25) dX7_suburb_97 (by decide) ?_
                      refine r_aload_n (pc' := 26) dX7_suburb_25 rfl rfl ?_
                      refine r_callV (pc' := 29) (av := []) (rest := []) kX7_isWell vX7_isWell lX7_92 dX7_suburb_26 rfl d3 rfl rfl rfl ⟨by decide, by decide, by decide⟩ rfl rfl (Nat.le_of_ble_eq_true rfl) (ct_well_n d3 d4 x3 (by omega) x2 d2 ?_)
                      show Wp g yX7_suburb cX7_suburb 3 (some .int) 6 0 0 (px_MQ g Q 0 0) 0 0 29 [some (.ref 60), some (.int (nI (m + 1))), some (.int (nI 103))] [.int (bI false)] w'
                      refine r_if_eq (pc' := 32) (P := false = false) (tgt := 100) dX7_suburb_29 (by decide) rfl (bI_0) (fun h29 => ?_) (fun h29 => ?_)
                      · skip
                        refine r_aload_n (pc' := 101) dX7_suburb_100 rfl rfl ?_
                        refine r_callV (pc' := 104) (av := []) (rest := []) kX7_isWell vX7_isWell lX7_92 dX7_suburb_101 rfl d3 rfl rfl rfl ⟨by decide, by decide, by decide⟩ rfl rfl (Nat.le_of_ble_eq_true rfl) (ct_well_n d3 d4 x3 (by omega) x2 d2 ?_)
                        show Wp g yX7_suburb cX7_suburb 3 (some .int) 6 0 0 (px_MQ g Q 0 0) 0 0 104 [some (.ref 60), some (.int (nI (m + 1))), some (.int (nI 103))] [.int (bI false)] w'
                        refine r_if_ne (pc' := 107) (P := false = false) (tgt := 115) dX7_suburb_104 (by decide) rfl (bI_0) (fun h104 => ?_) (fun h104 => ?_)
                        · skip
                          exfalso; exact h104 rfl
                        · skip
                          refine r_bipush (pc' := 109) (v := (-10)) dX7_suburb_107 rfl rfl ?_
                          refine r_aload_n (pc' := 110) dX7_suburb_109 rfl rfl ?_
                          refine r_get (pc' := 113) fX7_89 dX7_suburb_110 rfl d3 rfl ?_
                          refine r_isub (pc' := 114) (v := ((-10)) - (nI f)) dX7_suburb_113 rfl (rfl) ?_
                          refine r_ireturn dX7_suburb_114 rfl ?_
                          have hfr : Frm w (w') 60 71 := (Frm.tr (a := 60) (b := 71) (hF1.sets (k := 60) (by omega) (by omega)) d6 (by omega) (by omega) (by omega) (by omega))
                          exact hno _ _ (hpar.trans (parS_f (fun q => h36 (mT_0.mpr q)) (e2.trans d1))) (by omega) ⟨_, _, _, _, _, d3, d5, hM.fr hfr (by omega), ⟨fx, d4, x2, x3⟩, hK.fr hfr (by omega), hU.fr hfr (by omega), hB.fr hfr (by omega)⟩ (hfr.mono (by omega) (by omega))
                      · skip
                        exfalso; exact h29 rfl
                      
                    · skip
                      refine r_iconst (pc' := 86) (v := bI true) dX7_suburb_85 rfl rfl ?_
                      refine r_goto (tgt := 90) dX7_suburb_86 (by decide) ?_
                      refine r_callV (pc' := 93) (av := [.int (bI true)]) (rest := []) kX7_takes vX7_takes lX7_99 dX7_suburb_90 rfl d3 rfl rfl rfl ⟨by decide, by decide, by decide⟩ rfl rfl (Nat.le_of_ble_eq_true rfl) (ct_takes_x d3 d4 x3 (by omega) x2 d2 ?_)
                      show Wp g yX7_suburb cX7_suburb 3 (some .int) 6 0 0 (px_MQ g Q 0 0) 0 0 93 [some (.ref 60), some (.int (nI m)), some (.int (nI 103))] [.int (nI 0)] w'
                      refine r_pop (pc' := 94) dX7_suburb_93 rfl rfl ?_
                      refine r_iinc (pc' := 97) (lo' := [some (.ref 60), some (.int (nI (m + 1))), some (.int (nI 103))]) dX7_suburb_94 rfl (by decide) rfl (nI_add m 1) rfl ?_
                      refine r_goto (tgt := 25) dX7_suburb_97 (by decide) ?_
                      refine r_aload_n (pc' := 26) dX7_suburb_25 rfl rfl ?_
                      refine r_callV (pc' := 29) (av := []) (rest := []) kX7_isWell vX7_isWell lX7_92 dX7_suburb_26 rfl d3 rfl rfl rfl ⟨by decide, by decide, by decide⟩ rfl rfl (Nat.le_of_ble_eq_true rfl) (ct_well_n d3 d4 x3 (by omega) x2 d2 ?_)
                      show Wp g yX7_suburb cX7_suburb 3 (some .int) 6 0 0 (px_MQ g Q 0 0) 0 0 29 [some (.ref 60), some (.int (nI (m + 1))), some (.int (nI 103))] [.int (bI false)] w'
                      refine r_if_eq (pc' := 32) (P := false = false) (tgt := 100) dX7_suburb_29 (by decide) rfl (bI_0) (fun h29 => ?_) (fun h29 => ?_)
                      · skip
                        refine r_aload_n (pc' := 101) dX7_suburb_100 rfl rfl ?_
                        refine r_callV (pc' := 104) (av := []) (rest := []) kX7_isWell vX7_isWell lX7_92 dX7_suburb_101 rfl d3 rfl rfl rfl ⟨by decide, by decide, by decide⟩ rfl rfl (Nat.le_of_ble_eq_true rfl) (ct_well_n d3 d4 x3 (by omega) x2 d2 ?_)
                        show Wp g yX7_suburb cX7_suburb 3 (some .int) 6 0 0 (px_MQ g Q 0 0) 0 0 104 [some (.ref 60), some (.int (nI (m + 1))), some (.int (nI 103))] [.int (bI false)] w'
                        refine r_if_ne (pc' := 107) (P := false = false) (tgt := 115) dX7_suburb_104 (by decide) rfl (bI_0) (fun h104 => ?_) (fun h104 => ?_)
                        · skip
                          exfalso; exact h104 rfl
                        · skip
                          refine r_bipush (pc' := 109) (v := (-10)) dX7_suburb_107 rfl rfl ?_
                          refine r_aload_n (pc' := 110) dX7_suburb_109 rfl rfl ?_
                          refine r_get (pc' := 113) fX7_89 dX7_suburb_110 rfl d3 rfl ?_
                          refine r_isub (pc' := 114) (v := ((-10)) - (nI f)) dX7_suburb_113 rfl (rfl) ?_
                          refine r_ireturn dX7_suburb_114 rfl ?_
                          have hfr : Frm w (w') 60 71 := (Frm.tr (a := 60) (b := 71) (hF1.sets (k := 60) (by omega) (by omega)) d6 (by omega) (by omega) (by omega) (by omega))
                          exact hno _ _ (hpar.trans (parS_f (fun q => h36 (mT_0.mpr q)) (e2.trans d1))) (by omega) ⟨_, _, _, _, _, d3, d5, hM.fr hfr (by omega), ⟨fx, d4, x2, x3⟩, hK.fr hfr (by omega), hU.fr hfr (by omega), hB.fr hfr (by omega)⟩ (hfr.mono (by omega) (by omega))
                      · skip
                        exfalso; exact h29 rfl
                      
              
  exact L25 (n + 2) (n + 1) 0 0 T0 va _ (by omega) (gs_eq (hF16.at (gs_eq (gs_eq hX)) (by omega))) (gs_ne (hF16.at (gs_ne (gs_ne x1 (by decide)) (by decide)) (by omega)) (by decide)) (hD16.fr (a := 60) (b := 61) (Frm.set (by omega) (by omega)) (by omega)) T0_ok (Nat.zero_le _) (by omega) rfl (((((Frm.rf (a := 60) (b := 71)).sets (k := 60) (by omega) (by omega)).sets (k := 60) (by omega) (by omega)).tr (a := 60) (b := 71) hF16 (by omega) (by omega) (by omega) (by omega)).sets (k := 60) (by omega) (by omega))
