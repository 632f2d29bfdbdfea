theorem nI_sur (x : Int32) : ∃ n : Nat, x = nI n := by
  refine ⟨x.toUInt32.toNat, ?_⟩
  apply Int32.toBitVec_inj.mp
  show x.toBitVec = BitVec.ofInt 32 (x.toUInt32.toNat : Int)
  have h : BitVec.ofInt 32 (x.toUInt32.toNat : Int) = BitVec.ofNat 32 x.toUInt32.toNat := by simp
  rw [h]
  show x.toBitVec = BitVec.ofNat 32 x.toBitVec.toNat
  rw [BitVec.ofNat_toNat, BitVec.setWidth_eq]
theorem SubA.cp {w w' : px_W} {Td T : px_T} (h3 : SubA w 3 T) {gl gw gs gd gg fl fw fs fd fg : Nat → Int32} (c1 : w[4]? = some (.inl (0, 36, .inl fl))) (c2 : w[5]? = some (.inl (0, 6, .inl fw))) (c3 : w[6]? = some (.inl (0, 6, .inl fs))) (c4 : w[7]? = some (.inl (0, 4, .inl fd))) (c5 : w[8]? = some (.inl (0, 24, .inl fg))) (e0 : w'[9]? = some (.inr (4, [.int (nI (tW T)), .int (nI (tD T)), .int (nI (tG T)), .ref 10, .ref 11, .ref 12, .ref 13, .ref 14]))) (e1 : w'[10]? = some (.inl (0, 36, .inl (cpf fl gl 36)))) (e2 : w'[11]? = some (.inl (0, 6, .inl (cpf fw gw 6)))) (e3 : w'[12]? = some (.inl (0, 6, .inl (cpf fs gs 6)))) (e4 : w'[13]? = some (.inl (0, 4, .inl (cpf fd gd 4)))) (e5 : w'[14]? = some (.inl (0, 24, .inl (cpf fg gg 24)))) : SubA w' 9 T := by
  obtain ⟨fl', fw', fs', fd', fg', s0, s1, s2, s3, s4, s5, sW, sL, sD, sG, ⟨sb1, sb2, sb3⟩, sb4, sb5⟩ := h3
  have : fl' = fl := by have := s1.symm.trans c1; simpa using this
  subst this
  have : fw' = fw := by have := s2.symm.trans c2; simpa using this
  subst this
  have : fs' = fs := by have := s3.symm.trans c3; simpa using this
  subst this
  have : fd' = fd := by have := s4.symm.trans c4; simpa using this
  subst this
  have : fg' = fg := by have := s5.symm.trans c5; simpa using this
  subst this
  refine ⟨_, _, _, _, _, e0, e1, e2, e3, e4, e5, fun i hi => ?_, fun i x hi hx => ?_, fun d hd => ?_, fun j p hj hp => ?_, ⟨sb1, sb2, sb3⟩, sb4, sb5⟩
  · rw [cpf, if_pos (by omega), cpf, if_pos (by omega)]; exact sW i hi
  · have := sb4 i hi
    rw [cpf, if_pos (by omega)]; exact sL i x hi hx
  · rw [cpf, if_pos (by omega)]; exact sD d hd
  · rw [cpf, if_pos (by omega)]; exact sG j p hj hp
set_option maxHeartbeats 200000 in
theorem ct_X5_become {g : px_G} {w : px_W} {Q : px_Q} {T Td : px_T} (hT : SubA w 3 T) (hT9 : SubA w 9 Td) (hQ : ∀ w', SubA w' 9 T → Frm w w' 9 15 → Q none w') : Ct g yX5_become cX5_become 2 none 2 0 0 [.ref 9, .ref 3] w Q := by
  refine Ct.of kX5_become (by omega) (lo := [some (.ref 9), some (.ref 3)]) rfl (px_cat1 rfl) (Nat.le_of_ble_eq_true rfl) ?_
  obtain ⟨fl, fw, fs, fd, fg, s0, s1, s2, s3, s4, s5, sX⟩ := id hT
  obtain ⟨gl, gw, gs, gd, gg, t0, t1, t2, t3, t4, t5, tX⟩ := id hT9
  refine r_aload_n (pc' := 1) dX5_become_0 rfl rfl ?_
  refine r_ifnull (pc' := 4) dX5_become_1 rfl ?_
  refine r_aload_n (pc' := 5) dX5_become_4 rfl rfl ?_
  refine r_aload_n (pc' := 6) dX5_become_5 rfl rfl ?_
  refine r_get (pc' := 9) fX5_27 dX5_become_6 rfl s0 rfl ?_
  refine r_put (pc' := 12) (ty := .int) (c' := .inr (4, [.int (nI (tW T)), .int (nI (tD Td)), .int (nI (tG Td)), .ref 10, .ref 11, .ref 12, .ref 13, .ref 14])) fX5_27 dX5_become_9 rfl t0 (Nat.le_of_ble_eq_true rfl) rfl (by decide +kernel) rfl rfl rfl ?_
  refine r_aload_n (pc' := 13) dX5_become_12 rfl rfl ?_
  refine r_aload_n (pc' := 14) dX5_become_13 rfl rfl ?_
  refine r_get (pc' := 17) fX5_31 dX5_become_14 rfl (gs_ne s0 (by decide)) rfl ?_
  refine r_put (pc' := 20) (ty := .int) (c' := .inr (4, [.int (nI (tW T)), .int (nI (tD T)), .int (nI (tG Td)), .ref 10, .ref 11, .ref 12, .ref 13, .ref 14])) fX5_31 dX5_become_17 rfl (gs_eq t0) (Nat.le_of_ble_eq_true rfl) rfl (by decide +kernel) rfl rfl rfl ?_
  refine r_aload_n (pc' := 21) dX5_become_20 rfl rfl ?_
  refine r_aload_n (pc' := 22) dX5_become_21 rfl rfl ?_
  refine r_get (pc' := 25) fX5_34 dX5_become_22 rfl (gs_ne (gs_ne s0 (by decide)) (by decide)) rfl ?_
  refine r_put (pc' := 28) (ty := .int) (c' := .inr (4, [.int (nI (tW T)), .int (nI (tD T)), .int (nI (tG T)), .ref 10, .ref 11, .ref 12, .ref 13, .ref 14])) fX5_34 dX5_become_25 rfl (gs_eq (gs_eq t0)) (Nat.le_of_ble_eq_true rfl) rfl (by decide +kernel) rfl rfl rfl ?_
  refine r_aload_n (pc' := 29) dX5_become_28 rfl rfl ?_
  refine r_get (pc' := 32) fX5_9 dX5_become_29 rfl (gs_ne (gs_ne (gs_ne s0 (by decide)) (by decide)) (by decide)) rfl ?_
  refine r_aload_n (pc' := 33) dX5_become_32 rfl rfl ?_
  refine r_get (pc' := 36) fX5_9 dX5_become_33 rfl (gs_eq (gs_eq (gs_eq t0))) rfl ?_
  refine r_callS (pc' := 39) (av := [.ref 4, .ref 10]) (rest := []) kX3_copy vX3_copy lX5_37 dX5_become_36 rfl rfl rfl ⟨by decide, by decide, by decide⟩ rfl rfl (Nat.le_of_ble_eq_true rfl) (ct_X3_copy (gs_ne (gs_ne (gs_ne s1 (by decide)) (by decide)) (by decide)) (gs_ne (gs_ne (gs_ne t1 (by decide)) (by decide)) (by decide)) (by decide) (by decide) ?_)
  show Wp g yX5_become cX5_become 2 none 2 0 0 (px_MQ g Q 0 0) 0 0 39 [some (.ref 9), some (.ref 3)] [] ((((w.set 9 (.inr (4, [.int (nI (tW T)), .int (nI (tD Td)), .int (nI (tG Td)), .ref 10, .ref 11, .ref 12, .ref 13, .ref 14]))).set 9 (.inr (4, [.int (nI (tW T)), .int (nI (tD T)), .int (nI (tG Td)), .ref 10, .ref 11, .ref 12, .ref 13, .ref 14]))).set 9 (.inr (4, [.int (nI (tW T)), .int (nI (tD T)), .int (nI (tG T)), .ref 10, .ref 11, .ref 12, .ref 13, .ref 14]))).set 10 (.inl (0, 36, .inl (cpf fl gl 36))))
  refine r_aload_n (pc' := 40) dX5_become_39 rfl rfl ?_
  refine r_get (pc' := 43) fX5_15 dX5_become_40 rfl (gs_ne (gs_ne (gs_ne (gs_ne s0 (by decide)) (by decide)) (by decide)) (by decide)) rfl ?_
  refine r_aload_n (pc' := 44) dX5_become_43 rfl rfl ?_
  refine r_get (pc' := 47) fX5_15 dX5_become_44 rfl (gs_ne (gs_eq (gs_eq (gs_eq t0))) (by decide)) rfl ?_
  refine r_callS (pc' := 50) (av := [.ref 5, .ref 11]) (rest := []) kX3_copy vX3_copy lX5_37 dX5_become_47 rfl rfl rfl ⟨by decide, by decide, by decide⟩ rfl rfl (Nat.le_of_ble_eq_true rfl) (ct_X3_copy (gs_ne (gs_ne (gs_ne (gs_ne s2 (by decide)) (by decide)) (by decide)) (by decide)) (gs_ne (gs_ne (gs_ne (gs_ne t2 (by decide)) (by decide)) (by decide)) (by decide)) (by decide) (by decide) ?_)
  show Wp g yX5_become cX5_become 2 none 2 0 0 (px_MQ g Q 0 0) 0 0 50 [some (.ref 9), some (.ref 3)] [] (((((w.set 9 (.inr (4, [.int (nI (tW T)), .int (nI (tD Td)), .int (nI (tG Td)), .ref 10, .ref 11, .ref 12, .ref 13, .ref 14]))).set 9 (.inr (4, [.int (nI (tW T)), .int (nI (tD T)), .int (nI (tG Td)), .ref 10, .ref 11, .ref 12, .ref 13, .ref 14]))).set 9 (.inr (4, [.int (nI (tW T)), .int (nI (tD T)), .int (nI (tG T)), .ref 10, .ref 11, .ref 12, .ref 13, .ref 14]))).set 10 (.inl (0, 36, .inl (cpf fl gl 36)))).set 11 (.inl (0, 6, .inl (cpf fw gw 6))))
  refine r_aload_n (pc' := 51) dX5_become_50 rfl rfl ?_
  refine r_get (pc' := 54) fX5_18 dX5_become_51 rfl (gs_ne (gs_ne (gs_ne (gs_ne (gs_ne s0 (by decide)) (by decide)) (by decide)) (by decide)) (by decide)) rfl ?_
  refine r_aload_n (pc' := 55) dX5_become_54 rfl rfl ?_
  refine r_get (pc' := 58) fX5_18 dX5_become_55 rfl (gs_ne (gs_ne (gs_eq (gs_eq (gs_eq t0))) (by decide)) (by decide)) rfl ?_
  refine r_callS (pc' := 61) (av := [.ref 6, .ref 12]) (rest := []) kX3_copy vX3_copy lX5_37 dX5_become_58 rfl rfl rfl ⟨by decide, by decide, by decide⟩ rfl rfl (Nat.le_of_ble_eq_true rfl) (ct_X3_copy (gs_ne (gs_ne (gs_ne (gs_ne (gs_ne s3 (by decide)) (by decide)) (by decide)) (by decide)) (by decide)) (gs_ne (gs_ne (gs_ne (gs_ne (gs_ne t3 (by decide)) (by decide)) (by decide)) (by decide)) (by decide)) (by decide) (by decide) ?_)
  show Wp g yX5_become cX5_become 2 none 2 0 0 (px_MQ g Q 0 0) 0 0 61 [some (.ref 9), some (.ref 3)] [] ((((((w.set 9 (.inr (4, [.int (nI (tW T)), .int (nI (tD Td)), .int (nI (tG Td)), .ref 10, .ref 11, .ref 12, .ref 13, .ref 14]))).set 9 (.inr (4, [.int (nI (tW T)), .int (nI (tD T)), .int (nI (tG Td)), .ref 10, .ref 11, .ref 12, .ref 13, .ref 14]))).set 9 (.inr (4, [.int (nI (tW T)), .int (nI (tD T)), .int (nI (tG T)), .ref 10, .ref 11, .ref 12, .ref 13, .ref 14]))).set 10 (.inl (0, 36, .inl (cpf fl gl 36)))).set 11 (.inl (0, 6, .inl (cpf fw gw 6)))).set 12 (.inl (0, 6, .inl (cpf fs gs 6))))
  refine r_aload_n (pc' := 62) dX5_become_61 rfl rfl ?_
  refine r_get (pc' := 65) fX5_21 dX5_become_62 rfl (gs_ne (gs_ne (gs_ne (gs_ne (gs_ne (gs_ne s0 (by decide)) (by decide)) (by decide)) (by decide)) (by decide)) (by decide)) rfl ?_
  refine r_aload_n (pc' := 66) dX5_become_65 rfl rfl ?_
  refine r_get (pc' := 69) fX5_21 dX5_become_66 rfl (gs_ne (gs_ne (gs_ne (gs_eq (gs_eq (gs_eq t0))) (by decide)) (by decide)) (by decide)) rfl ?_
  refine r_callS (pc' := 72) (av := [.ref 7, .ref 13]) (rest := []) kX3_copy vX3_copy lX5_37 dX5_become_69 rfl rfl rfl ⟨by decide, by decide, by decide⟩ rfl rfl (Nat.le_of_ble_eq_true rfl) (ct_X3_copy (gs_ne (gs_ne (gs_ne (gs_ne (gs_ne (gs_ne s4 (by decide)) (by decide)) (by decide)) (by decide)) (by decide)) (by decide)) (gs_ne (gs_ne (gs_ne (gs_ne (gs_ne (gs_ne t4 (by decide)) (by decide)) (by decide)) (by decide)) (by decide)) (by decide)) (by decide) (by decide) ?_)
  show Wp g yX5_become cX5_become 2 none 2 0 0 (px_MQ g Q 0 0) 0 0 72 [some (.ref 9), some (.ref 3)] [] (((((((w.set 9 (.inr (4, [.int (nI (tW T)), .int (nI (tD Td)), .int (nI (tG Td)), .ref 10, .ref 11, .ref 12, .ref 13, .ref 14]))).set 9 (.inr (4, [.int (nI (tW T)), .int (nI (tD T)), .int (nI (tG Td)), .ref 10, .ref 11, .ref 12, .ref 13, .ref 14]))).set 9 (.inr (4, [.int (nI (tW T)), .int (nI (tD T)), .int (nI (tG T)), .ref 10, .ref 11, .ref 12, .ref 13, .ref 14]))).set 10 (.inl (0, 36, .inl (cpf fl gl 36)))).set 11 (.inl (0, 6, .inl (cpf fw gw 6)))).set 12 (.inl (0, 6, .inl (cpf fs gs 6)))).set 13 (.inl (0, 4, .inl (cpf fd gd 4))))
  refine r_aload_n (pc' := 73) dX5_become_72 rfl rfl ?_
  refine r_get (pc' := 76) fX5_24 dX5_become_73 rfl (gs_ne (gs_ne (gs_ne (gs_ne (gs_ne (gs_ne (gs_ne s0 (by decide)) (by decide)) (by decide)) (by decide)) (by decide)) (by decide)) (by decide)) rfl ?_
  refine r_aload_n (pc' := 77) dX5_become_76 rfl rfl ?_
  refine r_get (pc' := 80) fX5_24 dX5_become_77 rfl (gs_ne (gs_ne (gs_ne (gs_ne (gs_eq (gs_eq (gs_eq t0))) (by decide)) (by decide)) (by decide)) (by decide)) rfl ?_
  refine r_callS (pc' := 83) (av := [.ref 8, .ref 14]) (rest := []) kX3_copy vX3_copy lX5_37 dX5_become_80 rfl rfl rfl ⟨by decide, by decide, by decide⟩ rfl rfl (Nat.le_of_ble_eq_true rfl) (ct_X3_copy (gs_ne (gs_ne (gs_ne (gs_ne (gs_ne (gs_ne (gs_ne s5 (by decide)) (by decide)) (by decide)) (by decide)) (by decide)) (by decide)) (by decide)) (gs_ne (gs_ne (gs_ne (gs_ne (gs_ne (gs_ne (gs_ne t5 (by decide)) (by decide)) (by decide)) (by decide)) (by decide)) (by decide)) (by decide)) (by decide) (by decide) ?_)
  show Wp g yX5_become cX5_become 2 none 2 0 0 (px_MQ g Q 0 0) 0 0 83 [some (.ref 9), some (.ref 3)] [] ((((((((w.set 9 (.inr (4, [.int (nI (tW T)), .int (nI (tD Td)), .int (nI (tG Td)), .ref 10, .ref 11, .ref 12, .ref 13, .ref 14]))).set 9 (.inr (4, [.int (nI (tW T)), .int (nI (tD T)), .int (nI (tG Td)), .ref 10, .ref 11, .ref 12, .ref 13, .ref 14]))).set 9 (.inr (4, [.int (nI (tW T)), .int (nI (tD T)), .int (nI (tG T)), .ref 10, .ref 11, .ref 12, .ref 13, .ref 14]))).set 10 (.inl (0, 36, .inl (cpf fl gl 36)))).set 11 (.inl (0, 6, .inl (cpf fw gw 6)))).set 12 (.inl (0, 6, .inl (cpf fs gs 6)))).set 13 (.inl (0, 4, .inl (cpf fd gd 4)))).set 14 (.inl (0, 24, .inl (cpf fg gg 24))))
  refine r_return dX5_become_83 rfl ?_
  exact hQ _ (SubA.cp (Td := Td) hT s1 s2 s3 s4 s5 (gs_ne (gs_ne (gs_ne (gs_ne (gs_ne (gs_eq (gs_eq (gs_eq t0))) (by decide)) (by decide)) (by decide)) (by decide)) (by decide)) (gs_ne (gs_ne (gs_ne (gs_ne (gs_eq (gs_ne (gs_ne (gs_ne t1 (by decide)) (by decide)) (by decide))) (by decide)) (by decide)) (by decide)) (by decide)) (gs_ne (gs_ne (gs_ne (gs_eq (gs_ne (gs_ne (gs_ne (gs_ne t2 (by decide)) (by decide)) (by decide)) (by decide))) (by decide)) (by decide)) (by decide)) (gs_ne (gs_ne (gs_eq (gs_ne (gs_ne (gs_ne (gs_ne (gs_ne t3 (by decide)) (by decide)) (by decide)) (by decide)) (by decide))) (by decide)) (by decide)) (gs_ne (gs_eq (gs_ne (gs_ne (gs_ne (gs_ne (gs_ne (gs_ne t4 (by decide)) (by decide)) (by decide)) (by decide)) (by decide)) (by decide))) (by decide)) (gs_eq (gs_ne (gs_ne (gs_ne (gs_ne (gs_ne (gs_ne (gs_ne t5 (by decide)) (by decide)) (by decide)) (by decide)) (by decide)) (by decide)) (by decide)))) (((((((((Frm.rf (a := 9) (b := 15)).sets (k := 9) (by omega) (by omega)).sets (k := 9) (by omega) (by omega)).sets (k := 9) (by omega) (by omega)).sets (k := 10) (by omega) (by omega)).sets (k := 11) (by omega) (by omega)).sets (k := 12) (by omega) (by omega)).sets (k := 13) (by omega) (by omega)).sets (k := 14) (by omega) (by omega))
/-- all that the component holds -/
def XSx (w : px_W) (T : px_T) (M : px_N) (U : List px_N) (I : Nat → Option px_N) (n : Nat) (tx : Nat → Nat) (tr : Int64) : Prop := ∃ ik : Nat, w[0]? = some (xobj ik tr) ∧ RdA w n tx ∧ SubA w 9 T ∧ MorA w 15 M ∧ PastA w U ∧ ImA w ik I ∧ ∃ fe : Nat → Int32, w[59]? = some (.inl (0, 4, .inl fe))
theorem neg_f {f : Nat} (h : f ≤ 150) : ¬ (0 : Int32) ≤ (-10) - nI f := by
  have e0 : (0 : Int32).toInt = 0 := rfl
  have : ∀ f, f ≤ 150 → ¬ (0 : Int32) ≤ (-10) - nI f := by decide +kernel
  exact this f h
set_option maxHeartbeats 200000 in
theorem ct_X6_suburb {g : px_G} {w : px_W} {Q : px_Q} {T : px_T} {M : px_N} {U : List px_N} {I : Nat → Option px_N} {n : Nat} {tx : Nat → Nat} {tr : Int64} (hS : XSx w T M U I n tx tr) (hok : ∀ w' T' m, parR tx n = .inr (T', m) → TOK T' → m ≤ 150 → XSx w' T' nBare [] (fun _ => none) 0 tx tr → Frm w w' 0 60 → Q (some (.int (nI m))) w') (hno : ∀ w' f, parR tx n = .inl f → f ≤ 150 → XSx w' T M U I n tx tr → Frm w w' 0 60 → Q (some (.int ((-10) - (nI f)))) w') : Ct g yX6_suburb cX6_suburb 2 (some .int) 8 0 0 [.ref 0] w Q := by
  refine Ct.of kX6_suburb (by omega) (lo := [some (.ref 0), none]) rfl (px_cat1 rfl) (Nat.le_of_ble_eq_true rfl) ?_
  obtain ⟨ik, hX, hR, hT9, hM, hU, hI, fe, hY⟩ := id hS
  obtain ⟨fs, pl, so, sta, nu, Td, r1, r2, r3, r4, r5⟩ := id hR
  obtain ⟨e, rfl⟩ := nI_sur pl
  obtain ⟨c, rfl⟩ := nI_sur so
  obtain ⟨s, rfl⟩ := nI_sur sta
  obtain ⟨v, rfl⟩ := nI_sur nu
  obtain ⟨f18, pf, p3⟩ := hU.o
  refine r_aload_n (pc' := 1) dX6_suburb_0 rfl rfl ?_
  refine r_get (pc' := 4) fX6_10 dX6_suburb_1 rfl hX rfl ?_
  refine r_callV (pc' := 7) (av := []) (rest := []) kX2_readAll vX2_readAll lX6_60 dX6_suburb_4 rfl r1 rfl rfl rfl ⟨by decide, by decide, by decide⟩ rfl rfl (Nat.le_of_ble_eq_true rfl) (ct_X2_readAll r1 r2 r5 r4 r3 ?_ ?_)
  · intro w7 T' m e1 e2 e3 e4 e5 hF7
    have hT9_w7 := hT9.fr hF7 (by omega)
    have hM_w7 := hM.fr hF7 (by omega)
    have hU_w7 := hU.fr hF7 (by omega)
    have hI_w7 := hI.fr hF7 (by omega)
    obtain ⟨fs', pl', so', sta', nu', Td', r1', r2', r3', r4', r5'⟩ := id e5
    show Wp g yX6_suburb cX6_suburb 2 (some .int) 8 0 0 (px_MQ g Q 0 0) 0 0 7 [some (.ref 0), none] [.int (nI m)] w7
    refine r_istore_n (pc' := 8) (lo' := [some (.ref 0), some (.int (nI m))]) dX6_suburb_7 rfl (by decide) rfl ?_
    refine r_iload_n (pc' := 9) dX6_suburb_8 rfl rfl ?_
    refine r_if_ge (pc' := 12) (P := True) (tgt := 14) dX6_suburb_9 (by decide) rfl (nI_ge0 (n := m) (by omega)) (fun h9 => ?_) (fun h9 => ?_)
    · skip
      refine r_aload_n (pc' := 15) dX6_suburb_14 rfl rfl ?_
      refine r_get (pc' := 18) fX6_19 dX6_suburb_15 rfl (hF7.at hX (by omega)) rfl ?_
      refine r_aload_n (pc' := 19) dX6_suburb_18 rfl rfl ?_
      refine r_get (pc' := 22) fX6_10 dX6_suburb_19 rfl (hF7.at hX (by omega)) rfl ?_
      refine r_getN (pc' := 25) fX6_64 dX6_suburb_22 rfl r1' rfl ?_
      refine r_callV (pc' := 28) (av := [.ref 3]) (rest := []) kX5_become vX5_become lX6_67 dX6_suburb_25 rfl hT9_w7.o rfl rfl rfl ⟨by decide, by decide, by decide⟩ rfl rfl (Nat.le_of_ble_eq_true rfl) (ct_X5_become e4 hT9_w7 (fun w25 hT25 hF25 => ?_))
      have hM_w25 := hM_w7.fr hF25 (by omega)
      have hU_w25 := hU_w7.fr hF25 (by omega)
      have hI_w25 := hI_w7.fr hF25 (by omega)
      have e4_w25 := e4.fr hF25 (by omega)
      show Wp g yX6_suburb cX6_suburb 2 (some .int) 8 0 0 (px_MQ g Q 0 0) 0 0 28 [some (.ref 0), some (.int (nI m))] [] w25
      refine r_aload_n (pc' := 29) dX6_suburb_28 rfl rfl ?_
      refine r_get (pc' := 32) fX6_10 dX6_suburb_29 rfl (hF25.at (hF7.at hX (by omega)) (by omega)) rfl ?_
      refine r_iconst (pc' := 33) (v := nI 0) dX6_suburb_32 rfl rfl ?_
      refine r_putN (pc' := 36) (ty := .int) (c' := .inr (2, [.ref 2, .int (nI 0), .ref 3, .int pl', .int so', .int sta', .int nu'])) fX6_53 dX6_suburb_33 rfl (hF25.at r1' (by omega)) (Nat.le_of_ble_eq_true rfl) rfl (by decide +kernel) rfl rfl rfl ?_
      refine r_aload_n (pc' := 37) dX6_suburb_36 rfl rfl ?_
      refine r_get (pc' := 40) fX6_26 dX6_suburb_37 rfl (gs_ne (hF25.at (hF7.at hX (by omega)) (by omega)) (by decide)) rfl ?_
      refine r_callV (pc' := 43) (av := []) (rest := []) kX0_becomeBare vX0_becomeBare lX6_50 dX6_suburb_40 rfl ((hM_w25.fr (a := 1) (b := 2) (Frm.set (by omega) (by omega)) (by omega)).o) rfl rfl rfl ⟨by decide, by decide, by decide⟩ rfl rfl (Nat.le_of_ble_eq_true rfl) (ct_X0_becomeBare (hM_w25.fr (a := 1) (b := 2) (Frm.set (by omega) (by omega)) (by omega)) (fun w40 hM40 hF40 => ?_))
      have hpast18_w40 := (hU_w25.fr (a := 1) (b := 2) (Frm.set (by omega) (by omega)) (by omega)).fr hF40 (by omega)
      have him51_w40 := (hI_w25.fr (a := 1) (b := 2) (Frm.set (by omega) (by omega)) (by omega)).fr hF40 (by omega)
      have hsub3_w40 := (e4_w25.fr (a := 1) (b := 2) (Frm.set (by omega) (by omega)) (by omega)).fr hF40 (by omega)
      have hsub9_w40 := (hT25.fr (a := 1) (b := 2) (Frm.set (by omega) (by omega)) (by omega)).fr hF40 (by omega)
      show Wp g yX6_suburb cX6_suburb 2 (some .int) 8 0 0 (px_MQ g Q 0 0) 0 0 43 [some (.ref 0), some (.int (nI m))] [] w40
      refine r_aload_n (pc' := 44) dX6_suburb_43 rfl rfl ?_
      refine r_get (pc' := 47) fX6_33 dX6_suburb_44 rfl (hF40.at (gs_ne (hF25.at (hF7.at hX (by omega)) (by omega)) (by decide)) (by omega)) rfl ?_
      refine r_callV (pc' := 50) (av := []) (rest := []) kX1_forget vX1_forget lX6_71 dX6_suburb_47 rfl (hF40.at (gs_ne (hF25.at (hF7.at p3 (by omega)) (by omega)) (by decide)) (by omega)) rfl rfl rfl ⟨by decide, by decide, by decide⟩ rfl rfl (Nat.le_of_ble_eq_true rfl) (ct_X1_forget hpast18_w40 (fun w47 hU47 hF47 => ?_))
      have him51_w47 := him51_w40.fr hF47 (by omega)
      have hsub3_w47 := hsub3_w40.fr hF47 (by omega)
      have hsub9_w47 := hsub9_w40.fr hF47 (by omega)
      have hM40_w47 := hM40.fr hF47 (by omega)
      show Wp g yX6_suburb cX6_suburb 2 (some .int) 8 0 0 (px_MQ g Q 0 0) 0 0 50 [some (.ref 0), some (.int (nI m))] [] w47
      refine r_aload_n (pc' := 51) dX6_suburb_50 rfl rfl ?_
      refine r_iconst (pc' := 52) (v := nI 0) dX6_suburb_51 rfl rfl ?_
      refine r_put (pc' := 55) (ty := .int) (c' := .inr (5, [.ref 1, .ref 9, .ref 15, .ref 18, .ref 51, .ref 59, .int (nI 0), .long tr])) fX6_74 dX6_suburb_52 rfl (hF47.at (hF40.at (gs_ne (hF25.at (hF7.at hX (by omega)) (by omega)) (by decide)) (by omega)) (by omega)) (Nat.le_of_ble_eq_true rfl) rfl (by decide +kernel) rfl rfl rfl ?_
      refine r_iload_n (pc' := 56) dX6_suburb_55 rfl rfl ?_
      refine r_ireturn dX6_suburb_56 rfl ?_
      refine hok (w47.set 0 (.inr (5, [.ref 1, .ref 9, .ref 15, .ref 18, .ref 51, .ref 59, .int (nI 0), .long tr]))) _ _ e1 e2 e3 ⟨0, gs_eq (hF47.at (hF40.at (gs_ne (hF25.at (hF7.at hX (by omega)) (by omega)) (by decide)) (by omega)) (by omega)), ⟨fs', _, _, _, _, _, gs_ne (hF47.at (hF40.at (gs_eq (hF25.at r1' (by omega))) (by omega)) (by omega)) (by decide), gs_ne (hF47.at (hF40.at (gs_ne (hF25.at r2' (by omega)) (by decide)) (by omega)) (by omega)) (by decide), (hsub3_w47.fr (a := 0) (b := 1) (Frm.set (by omega) (by omega)) (by omega)), Nat.zero_le _, fun j hj => absurd hj (Nat.not_lt_zero _)⟩, (hsub9_w47.fr (a := 0) (b := 1) (Frm.set (by omega) (by omega)) (by omega)), (hM40_w47.fr (a := 0) (b := 1) (Frm.set (by omega) (by omega)) (by omega)), (hU47.fr (a := 0) (b := 1) (Frm.set (by omega) (by omega)) (by omega)), (him51_w47.fr (a := 0) (b := 1) (Frm.set (by omega) (by omega)) (by omega)).none, _, gs_ne (hF47.at (hF40.at (gs_ne (hF25.at (hF7.at hY (by omega)) (by omega)) (by decide)) (by omega)) (by omega)) (by decide)⟩ (((((((Frm.rf (a := 0) (b := 60)).tr (a := 0) (b := 60) hF7 (by omega) (by omega) (by omega) (by omega)).tr (a := 0) (b := 60) hF25 (by omega) (by omega) (by omega) (by omega)).sets (k := 1) (by omega) (by omega)).tr (a := 0) (b := 60) hF40 (by omega) (by omega) (by omega) (by omega)).tr (a := 0) (b := 60) hF47 (by omega) (by omega) (by omega) (by omega)).sets (k := 0) (by omega) (by omega))
    · skip
      exfalso; exact h9 trivial
  · intro w7 f e1 e2 e5 hF7
    have hT9_w7 := hT9.fr hF7 (by omega)
    have hM_w7 := hM.fr hF7 (by omega)
    have hU_w7 := hU.fr hF7 (by omega)
    have hI_w7 := hI.fr hF7 (by omega)
    obtain ⟨fs', pl', so', sta', nu', Td', r1', r2', r3', r4', r5'⟩ := id e5
    show Wp g yX6_suburb cX6_suburb 2 (some .int) 8 0 0 (px_MQ g Q 0 0) 0 0 7 [some (.ref 0), none] [.int (((-10) - (nI f)))] w7
    refine r_istore_n (pc' := 8) (lo' := [some (.ref 0), some (.int (((-10) - (nI f))))]) dX6_suburb_7 rfl (by decide) rfl ?_
    refine r_iload_n (pc' := 9) dX6_suburb_8 rfl rfl ?_
    refine r_if_ge (pc' := 12) (P := (0 : Int32) ≤ (-10) - nI f) (tgt := 14) dX6_suburb_9 (by decide) rfl (Iff.rfl) (fun h9 => ?_) (fun h9 => ?_)
    · skip
      exfalso; exact neg_f e2 h9
    · skip
      refine r_iload_n (pc' := 13) dX6_suburb_12 rfl rfl ?_
      refine r_ireturn dX6_suburb_13 rfl ?_
      exact hno (w7) _ e1 e2 ⟨ik, hF7.at hX (by omega), e5, hT9_w7, hM_w7, hU_w7, hI_w7, _, hF7.at hY (by omega)⟩ ((Frm.rf (a := 0) (b := 60)).tr (a := 0) (b := 60) hF7 (by omega) (by omega) (by omega) (by omega))
