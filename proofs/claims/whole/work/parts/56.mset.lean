def cpo (f : Nat → Int32) (o k : Nat) : Nat → Int32 := fun j => if j < k then f (o + j) else f j
theorem cpo_0 (f : Nat → Int32) (o : Nat) : cpo f o 0 = f := by funext j; unfold cpo; rw [if_neg (by omega)]
theorem cpo_x {f : Nat → Int32} {o k j : Nat} (h : k ≤ j) : cpo f o k j = f j := by unfold cpo; rw [if_neg (by omega)]
theorem cpo_s (f : Nat → Int32) (o k : Nat) : upd (cpo f o k) k (f (o + k)) = cpo f o (k + 1) := by
  funext j
  by_cases e : j = k
  · subst e; unfold cpo upd; rw [if_pos rfl, if_pos (by omega)]
  · unfold cpo upd; rw [if_neg e]; dsimp only
    by_cases h : j < k
    · rw [if_pos h, if_pos (by omega)]
    · rw [if_neg h, if_neg (by omega)]
theorem cpo_i {f : Nat → Int32} {o k j : Nat} (h : j < k) : cpo f o k j = f (o + j) := by unfold cpo; rw [if_pos h]
def zer (f : Nat → Int32) (k : Nat) : Nat → Int32 := fun j => if 32 ≤ j ∧ j < 32 + k then nI 0 else f j
theorem zer_0 (f : Nat → Int32) : zer f 0 = f := by funext j; unfold zer; rw [if_neg (by omega)]
theorem zer_s (f : Nat → Int32) (k : Nat) : upd (zer f k) (32 + k) (nI 0) = zer f (k + 1) := by
  funext j
  by_cases e : j = 32 + k
  · subst e; unfold zer upd; rw [if_pos rfl, if_pos (by omega)]
  · unfold zer upd; rw [if_neg e]; dsimp only
    by_cases h : 32 ≤ j ∧ j < 32 + k
    · rw [if_pos h, if_pos (by omega)]
    · rw [if_neg h, if_neg (by omega)]
theorem MtE.set {D : px_T} {fm fz fl fs fd g0 g1 g2 g3 : Nat → Int32} (h : MtE D fm fz fl fs fd g0 g1 g2 g3) : MtF D (cpo fm 3 3) (cpo fz 6 6) (cpo fl 36 36) (cpo fs 6 6) (cpo fd 4 4) (cpo g0 6 6) (cpo g1 6 6) (cpo g2 6 6) (cpo g3 6 6) := by
  obtain ⟨a1, a2, a3, a4, a5, ⟨⟨b1, b2, b3⟩, b4, b5⟩⟩ := h
  refine ⟨⟨(cpo_i (by omega)).trans a1.1, (cpo_i (by omega)).trans a1.2.1, (cpo_i (by omega)).trans a1.2.2⟩, fun i hi => ⟨(cpo_i (by omega)).trans (a2 i hi).1, (cpo_i (by omega)).trans (a2 i hi).2⟩, fun i x hi hx => ?_, fun d h => (cpo_i (by omega)).trans (a4 d h), fun j hj => ⟨(cpo_i (by omega)).trans (a5 j hj).1, (cpo_i (by omega)).trans (a5 j hj).2.1, (cpo_i (by omega)).trans (a5 j hj).2.2.1, (cpo_i (by omega)).trans (a5 j hj).2.2.2⟩, ⟨⟨b1, b2, b3⟩, b4, b5⟩⟩
  have := b4 i hi
  rw [cpo_i (by omega), ← Nat.add_assoc]
  exact a3 i x hi hx
theorem MnF.bare (f : Nat → Int32) : MnF (upd (cpf (fun _ => nI 8) (zer f 4) 32) 36 (nI 0)) nBare := by
  intro k hk
  unfold upd
  by_cases e : k = 36
  · subst e; rfl
  · rw [if_neg e]
    unfold cpf sv
    by_cases h : k < 32
    · rw [if_pos h, if_pos h]; rfl
    · rw [if_neg h, if_neg h, if_pos (by omega), zer, if_pos (by omega)]; rfl
theorem NOK.bare : NOK nBare := ⟨fun _ _ _ _ => Nat.le_refl _, fun _ _ => by show (0 : Nat) < 256; decide, by show (0 : Nat) ≤ 24; decide⟩
set_option maxHeartbeats 200000 in
theorem ct_X7_settles {g : px_G} {w : px_W} {Q : px_Q} {tr : Int64} {nx tk pl va fa um : Int32} {n : Nat} {T D : px_T} {fn bk : Nat → Int32} (hX : w[60]? = some (mobj tr (nI n) nx tk pl va fa um)) (hD : MtD w T D) (c70 : w[71]? = some (.inl (0, 37, .inl fn))) (c72 : w[73]? = some (.inl (1, 2, .inl bk))) {d60 d71 d73 d74 : px_C} (c60 : w[61]? = some d60) (c71 : w[72]? = some d71) (c73 : w[74]? = some d73) (c74 : w[75]? = some d74) (hQ : ∀ w', w'[60]? = some (mobj tr (nI 0) nx tk pl va fa (nI 0)) → MtA w' D → MnA w' nBare → (∃ bk' : Nat → Int32, w'[73]? = some (.inl (1, 2, .inl bk')) ∧ bk' 0 = nI 0 ∧ bk' 1 = nI 0) → w'[61]? = some d60 → w'[72]? = some d71 → w'[74]? = some d73 → w'[75]? = some d74 → Frm w w' 60 76 → Q none w') : Ct g yX7_settles cX7_settles 2 none 1 0 0 [.ref 60] w Q := by
  refine Ct.of kX7_settles (by omega) (lo := [some (.ref 60), none]) rfl (px_cat1 rfl) (Nat.le_of_ble_eq_true rfl) ?_
  obtain ⟨fm, fz, fl, fs, fd, g0, g1, g2, g3, ⟨c1, c2, c3, c4, c5, c6, c7, c8, c9⟩, hF, hE⟩ := id hD
  refine r_iconst (pc' := 1) (v := nI 0) dX7_settles_0 rfl rfl ?_
  refine r_istore_n (pc' := 2) (lo' := [some (.ref 60), some (.int (nI 0))]) dX7_settles_1 rfl (by decide) rfl ?_
  have L2 : ∀ (fu : Nat) (k : Nat), 3 - k < fu → k ≤ 3 → Wp g yX7_settles cX7_settles 2 none 1 0 0 (px_MQ g Q 0 0) 0 0 2 [some (.ref 60), some (.int (nI k))] [] (w.set 62 (.inl (0, 6, .inl (cpo fm 3 k)))) := by
    intro fu; induction fu with
    | zero => intro k hm; exact absurd hm (Nat.not_lt_zero _)
    | succ fu ih =>
      intro k hm hk
      have ih2 := ih; clear ih
      refine r_iload_n (pc' := 3) dX7_settles_2 rfl rfl ?_
      refine r_iconst (pc' := 4) (v := nI 3) dX7_settles_3 rfl rfl ?_
      refine r_icmp_ge (pc' := 7) (P := 3 ≤ k) (tgt := 27) dX7_settles_4 (by decide) rfl (nI_leI (a := 3) (b := k) (by omega) (by omega)) (fun h4 => ?_) (fun h4 => ?_)
      · obtain rfl : k = 3 := by omega
        refine r_iconst (pc' := 28) (v := nI 0) dX7_settles_27 rfl rfl ?_
        refine r_istore_n (pc' := 29) (lo' := [some (.ref 60), some (.int (nI 0))]) dX7_settles_28 rfl (by decide) rfl ?_
        have L29 : ∀ (fu : Nat) (k : Nat) (w1 : px_W), 6 - k < fu → k ≤ 6 → w1[63]? = some (.inl (0, 12, .inl (cpo fz 6 k))) → w1[65]? = some (.inl (0, 12, .inl (cpo fs 6 k))) → w1[67]? = some (.inl (0, 12, .inl (cpo g0 6 k))) → w1[68]? = some (.inl (0, 12, .inl (cpo g1 6 k))) → w1[69]? = some (.inl (0, 12, .inl (cpo g2 6 k))) → w1[70]? = some (.inl (0, 12, .inl (cpo g3 6 k))) → w1[64]? = some (.inl (0, 72, .inl (fl))) → w1[66]? = some (.inl (0, 8, .inl (fd))) → Frm (w.set 62 (.inl (0, 6, .inl (cpo fm 3 3)))) w1 63 71 → Wp g yX7_settles cX7_settles 2 none 1 0 0 (px_MQ g Q 0 0) 0 0 29 [some (.ref 60), some (.int (nI k))] [] w1 := by
          intro fu; induction fu with
          | zero => intro k w1 hm; exact absurd hm (Nat.not_lt_zero _)
          | succ fu ih =>
            intro k w1 hm hk y63 y65 y67 y68 y69 y70 y64 y66 hF1
            have ih29 := ih; clear ih
            refine r_iload_n (pc' := 30) dX7_settles_29 rfl rfl ?_
            refine r_bipush (pc' := 32) (v := nI 6) dX7_settles_30 rfl rfl ?_
            refine r_icmp_ge (pc' := 35) (P := 6 ≤ k) (tgt := 131) dX7_settles_32 (by decide) rfl (nI_leI (a := 6) (b := k) (by omega) (by omega)) (fun h32 => ?_) (fun h32 => ?_)
            · obtain rfl : k = 6 := by omega
              refine r_iconst (pc' := 132) (v := nI 0) dX7_settles_131 rfl rfl ?_
              refine r_istore_n (pc' := 133) (lo' := [some (.ref 60), some (.int (nI 0))]) dX7_settles_132 rfl (by decide) rfl ?_
              have L133 : ∀ (fu : Nat) (k : Nat), 36 - k < fu → k ≤ 36 → Wp g yX7_settles cX7_settles 2 none 1 0 0 (px_MQ g Q 0 0) 0 0 133 [some (.ref 60), some (.int (nI k))] [] (w1.set 64 (.inl (0, 72, .inl (cpo fl 36 k)))) := by
                intro fu; induction fu with
                | zero => intro k hm; exact absurd hm (Nat.not_lt_zero _)
                | succ fu ih =>
                  intro k hm hk
                  have ih133 := ih; clear ih
                  refine r_iload_n (pc' := 134) dX7_settles_133 rfl rfl ?_
                  refine r_bipush (pc' := 136) (v := nI 36) dX7_settles_134 rfl rfl ?_
                  refine r_icmp_ge (pc' := 139) (P := 36 ≤ k) (tgt := 160) dX7_settles_136 (by decide) rfl (nI_leI (a := 36) (b := k) (by omega) (by omega)) (fun h136 => ?_) (fun h136 => ?_)
                  · obtain rfl : k = 36 := by omega
                    refine r_iconst (pc' := 161) (v := nI 0) dX7_settles_160 rfl rfl ?_
                    refine r_istore_n (pc' := 162) (lo' := [some (.ref 60), some (.int (nI 0))]) dX7_settles_161 rfl (by decide) rfl ?_
                    have L162 : ∀ (fu : Nat) (k : Nat) (w2 : px_W), 4 - k < fu → k ≤ 4 → w2[66]? = some (.inl (0, 8, .inl (cpo fd 4 k))) → w2[71]? = some (.inl (0, 37, .inl (zer fn k))) → (∀ j : Nat, j ≠ 66 → j ≠ 71 → w2[j]? = (w1.set 64 (.inl (0, 72, .inl (cpo fl 36 36))))[j]?) → Wp g yX7_settles cX7_settles 2 none 1 0 0 (px_MQ g Q 0 0) 0 0 162 [some (.ref 60), some (.int (nI k))] [] w2 := by
                      intro fu; induction fu with
                      | zero => intro k w2 hm; exact absurd hm (Nat.not_lt_zero _)
                      | succ fu ih =>
                        intro k w2 hm hk z66 z71 hj
                        have ih162 := ih; clear ih
                        refine r_iload_n (pc' := 163) dX7_settles_162 rfl rfl ?_
                        refine r_iconst (pc' := 164) (v := nI 4) dX7_settles_163 rfl rfl ?_
                        refine r_icmp_ge (pc' := 167) (P := 4 ≤ k) (tgt := 197) dX7_settles_164 (by decide) rfl (nI_leI (a := 4) (b := k) (by omega) (by omega)) (fun h164 => ?_) (fun h164 => ?_)
                        · obtain rfl : k = 4 := by omega
                          refine r_iconst (pc' := 198) (v := nI 0) dX7_settles_197 rfl rfl ?_
                          refine r_istore_n (pc' := 199) (lo' := [some (.ref 60), some (.int (nI 0))]) dX7_settles_198 rfl (by decide) rfl ?_
                          have L199 : ∀ (fu : Nat) (k : Nat), 32 - k < fu → k ≤ 32 → Wp g yX7_settles cX7_settles 2 none 1 0 0 (px_MQ g Q 0 0) 0 0 199 [some (.ref 60), some (.int (nI k))] [] (w2.set 71 (.inl (0, 37, .inl (cpf (fun _ => nI 8) (zer fn 4) k)))) := by
                            intro fu; induction fu with
                            | zero => intro k hm; exact absurd hm (Nat.not_lt_zero _)
                            | succ fu ih =>
                              intro k hm hk
                              have ih199 := ih; clear ih
                              refine r_iload_n (pc' := 200) dX7_settles_199 rfl rfl ?_
                              refine r_bipush (pc' := 202) (v := nI 32) dX7_settles_200 rfl rfl ?_
                              refine r_icmp_ge (pc' := 205) (P := 32 ≤ k) (tgt := 221) dX7_settles_202 (by decide) rfl (nI_leI (a := 32) (b := k) (by omega) (by omega)) (fun h202 => ?_) (fun h202 => ?_)
                              · obtain rfl : k = 32 := by omega
                                refine r_aload_n (pc' := 222) dX7_settles_221 rfl rfl ?_
                                refine r_get (pc' := 225) fX7_40 dX7_settles_222 rfl (gs_ne ((hj 60 (by decide) (by decide)).trans (gs_ne (hF1.at (gs_ne hX (by decide)) (by omega)) (by decide))) (by decide)) rfl ?_
                                refine r_bipush (pc' := 227) (v := nI 36) dX7_settles_225 rfl rfl ?_
                                refine r_iconst (pc' := 228) (v := nI 0) dX7_settles_227 rfl rfl ?_
                                refine r_iastore (pc' := 229) (c' := .inl (0, 37, .inl (upd (cpf (fun _ => nI 8) (zer fn 4) 32) 36 (nI 0)))) dX7_settles_228 rfl (gs_eq z71) (vp_in_nI (n := 36) (by omega) (by omega)) (by rw [nI_cl (by omega)]) ?_
                                refine r_aload_n (pc' := 230) dX7_settles_229 rfl rfl ?_
                                refine r_iconst (pc' := 231) (v := nI 0) dX7_settles_230 rfl rfl ?_
                                refine r_put (pc' := 234) (ty := .int) (c' := .inr (6, [.int (nI 0), .long tr, .ref 61, .int (nI 0), .int nx, .int tk, .int pl, .int va, .int fa, .ref 62, .ref 63, .ref 64, .ref 65, .ref 66, .ref 67, .ref 68, .ref 69, .ref 70, .ref 71, .ref 72, .ref 73, .ref 74, .int um, .ref 75])) fX7_70 dX7_settles_231 rfl (gs_ne (gs_ne ((hj 60 (by decide) (by decide)).trans (gs_ne (hF1.at (gs_ne hX (by decide)) (by omega)) (by decide))) (by decide)) (by decide)) (Nat.le_of_ble_eq_true rfl) rfl (by decide +kernel) rfl rfl rfl ?_
                                refine r_aload_n (pc' := 235) dX7_settles_234 rfl rfl ?_
                                refine r_iconst (pc' := 236) (v := nI 0) dX7_settles_235 rfl rfl ?_
                                refine r_put (pc' := 239) (ty := .int) (c' := .inr (6, [.int (nI 0), .long tr, .ref 61, .int (nI 0), .int nx, .int tk, .int pl, .int va, .int fa, .ref 62, .ref 63, .ref 64, .ref 65, .ref 66, .ref 67, .ref 68, .ref 69, .ref 70, .ref 71, .ref 72, .ref 73, .ref 74, .int (nI 0), .ref 75])) fX7_117 dX7_settles_236 rfl (gs_eq (gs_ne (gs_ne ((hj 60 (by decide) (by decide)).trans (gs_ne (hF1.at (gs_ne hX (by decide)) (by omega)) (by decide))) (by decide)) (by decide))) (Nat.le_of_ble_eq_true rfl) rfl (by decide +kernel) rfl rfl rfl ?_
                                refine r_aload_n (pc' := 240) dX7_settles_239 rfl rfl ?_
                                refine r_get (pc' := 243) fX7_46 dX7_settles_240 rfl (gs_eq (gs_eq (gs_ne (gs_ne ((hj 60 (by decide) (by decide)).trans (gs_ne (hF1.at (gs_ne hX (by decide)) (by omega)) (by decide))) (by decide)) (by decide)))) rfl ?_
                                refine r_iconst (pc' := 244) (v := nI 0) dX7_settles_243 rfl rfl ?_
                                refine r_iconst (pc' := 245) (v := nI 0) dX7_settles_244 rfl rfl ?_
                                refine r_bastore (pc' := 246) (c' := .inl (1, 2, .inl (upd bk 0 (nI 0)))) dX7_settles_245 rfl (gs_ne (gs_ne (gs_ne (gs_ne ((hj 73 (by decide) (by decide)).trans (gs_ne (hF1.at (gs_ne c72 (by decide)) (by omega)) (by decide))) (by decide)) (by decide)) (by decide)) (by decide)) (vp_in_nI (n := 0) (by omega) (by omega)) (rfl) (by rw [nI_cl (by omega)]) ?_
                                refine r_aload_n (pc' := 247) dX7_settles_246 rfl rfl ?_
                                refine r_get (pc' := 250) fX7_46 dX7_settles_247 rfl (gs_ne (gs_eq (gs_eq (gs_ne (gs_ne ((hj 60 (by decide) (by decide)).trans (gs_ne (hF1.at (gs_ne hX (by decide)) (by omega)) (by decide))) (by decide)) (by decide)))) (by decide)) rfl ?_
                                refine r_iconst (pc' := 251) (v := nI 1) dX7_settles_250 rfl rfl ?_
                                refine r_iconst (pc' := 252) (v := nI 0) dX7_settles_251 rfl rfl ?_
                                refine r_bastore (pc' := 253) (c' := .inl (1, 2, .inl (upd (upd bk 0 (nI 0)) 1 (nI 0)))) dX7_settles_252 rfl (gs_eq (gs_ne (gs_ne (gs_ne (gs_ne ((hj 73 (by decide) (by decide)).trans (gs_ne (hF1.at (gs_ne c72 (by decide)) (by omega)) (by decide))) (by decide)) (by decide)) (by decide)) (by decide))) (vp_in_nI (n := 1) (by omega) (by omega)) (rfl) (by rw [nI_cl (by omega)]) ?_
                                refine r_return dX7_settles_253 rfl ?_
                                exact hQ _ (gs_ne (gs_ne (gs_eq (gs_eq (gs_ne (gs_ne ((hj 60 (by decide) (by decide)).trans (gs_ne (hF1.at (gs_ne hX (by decide)) (by omega)) (by decide))) (by decide)) (by decide)))) (by decide)) (by decide)) ⟨_, _, _, _, _, _, _, _, _, ⟨gs_ne (gs_ne (gs_ne (gs_ne (gs_ne (gs_ne ((hj 62 (by decide) (by decide)).trans (gs_ne (hF1.at (gs_eq c1) (by omega)) (by decide))) (by decide)) (by decide)) (by decide)) (by decide)) (by decide)) (by decide), gs_ne (gs_ne (gs_ne (gs_ne (gs_ne (gs_ne ((hj 63 (by decide) (by decide)).trans (gs_ne y63 (by decide))) (by decide)) (by decide)) (by decide)) (by decide)) (by decide)) (by decide), gs_ne (gs_ne (gs_ne (gs_ne (gs_ne (gs_ne ((hj 64 (by decide) (by decide)).trans (gs_eq y64)) (by decide)) (by decide)) (by decide)) (by decide)) (by decide)) (by decide), gs_ne (gs_ne (gs_ne (gs_ne (gs_ne (gs_ne ((hj 65 (by decide) (by decide)).trans (gs_ne y65 (by decide))) (by decide)) (by decide)) (by decide)) (by decide)) (by decide)) (by decide), gs_ne (gs_ne (gs_ne (gs_ne (gs_ne (gs_ne z66 (by decide)) (by decide)) (by decide)) (by decide)) (by decide)) (by decide), gs_ne (gs_ne (gs_ne (gs_ne (gs_ne (gs_ne ((hj 67 (by decide) (by decide)).trans (gs_ne y67 (by decide))) (by decide)) (by decide)) (by decide)) (by decide)) (by decide)) (by decide), gs_ne (gs_ne (gs_ne (gs_ne (gs_ne (gs_ne ((hj 68 (by decide) (by decide)).trans (gs_ne y68 (by decide))) (by decide)) (by decide)) (by decide)) (by decide)) (by decide)) (by decide), gs_ne (gs_ne (gs_ne (gs_ne (gs_ne (gs_ne ((hj 69 (by decide) (by decide)).trans (gs_ne y69 (by decide))) (by decide)) (by decide)) (by decide)) (by decide)) (by decide)) (by decide), gs_ne (gs_ne (gs_ne (gs_ne (gs_ne (gs_ne ((hj 70 (by decide) (by decide)).trans (gs_ne y70 (by decide))) (by decide)) (by decide)) (by decide)) (by decide)) (by decide)) (by decide)⟩, hE.set⟩ (MnA.of (gs_ne (gs_ne (gs_ne (gs_ne (gs_eq (gs_eq z71)) (by decide)) (by decide)) (by decide)) (by decide)) (MnF.bare fn) NOK.bare) ⟨_, gs_eq (gs_eq (gs_ne (gs_ne (gs_ne (gs_ne ((hj 73 (by decide) (by decide)).trans (gs_ne (hF1.at (gs_ne c72 (by decide)) (by omega)) (by decide))) (by decide)) (by decide)) (by decide)) (by decide))), rfl, rfl⟩ (gs_ne (gs_ne (gs_ne (gs_ne (gs_ne (gs_ne ((hj 61 (by decide) (by decide)).trans (gs_ne (hF1.at (gs_ne c60 (by decide)) (by omega)) (by decide))) (by decide)) (by decide)) (by decide)) (by decide)) (by decide)) (by decide)) (gs_ne (gs_ne (gs_ne (gs_ne (gs_ne (gs_ne ((hj 72 (by decide) (by decide)).trans (gs_ne (hF1.at (gs_ne c71 (by decide)) (by omega)) (by decide))) (by decide)) (by decide)) (by decide)) (by decide)) (by decide)) (by decide)) (gs_ne (gs_ne (gs_ne (gs_ne (gs_ne (gs_ne ((hj 74 (by decide) (by decide)).trans (gs_ne (hF1.at (gs_ne c73 (by decide)) (by omega)) (by decide))) (by decide)) (by decide)) (by decide)) (by decide)) (by decide)) (by decide)) (gs_ne (gs_ne (gs_ne (gs_ne (gs_ne (gs_ne ((hj 75 (by decide) (by decide)).trans (gs_ne (hF1.at (gs_ne c74 (by decide)) (by omega)) (by decide))) (by decide)) (by decide)) (by decide)) (by decide)) (by decide)) (by decide)) (((((((show Frm w w2 60 76 from fun j hj' => (hj j (by omega) (by omega)).trans (((((Frm.rf (a := 60) (b := 76)).sets (k := 62) (by omega) (by omega)).tr (a := 60) (b := 76) hF1 (by omega) (by omega) (by omega) (by omega)).sets (k := 64) (by omega) (by omega)) j hj')).sets (k := 71) (by omega) (by omega)).sets (k := 71) (by omega) (by omega)).sets (k := 60) (by omega) (by omega)).sets (k := 60) (by omega) (by omega)).sets (k := 73) (by omega) (by omega)).sets (k := 73) (by omega) (by omega))
                              · skip
                                refine r_aload_n (pc' := 206) dX7_settles_205 rfl rfl ?_
                                refine r_get (pc' := 209) fX7_40 dX7_settles_206 rfl (gs_ne ((hj 60 (by decide) (by decide)).trans (gs_ne (hF1.at (gs_ne hX (by decide)) (by omega)) (by decide))) (by decide)) rfl ?_
                                refine r_iconst (pc' := 210) (v := nI 0) dX7_settles_209 rfl rfl ?_
                                refine r_iload_n (pc' := 211) dX7_settles_210 rfl rfl ?_
                                refine r_iadd (pc' := 212) (v := nI (0 + k)) dX7_settles_211 rfl (nI_add 0 k) ?_
                                refine r_bipush (pc' := 214) (v := nI 8) dX7_settles_212 rfl rfl ?_
                                refine r_iastore (pc' := 215) (c' := .inl (0, 37, .inl (cpf (fun _ => nI 8) (zer fn 4) (k + 1)))) dX7_settles_214 rfl (gs_eq z71) (vp_in_nI (n := 0 + k) (by omega) (by omega)) (by rw [nI_cl (by omega), Nat.zero_add, ← cpf_s]) ?_
                                rw [gs_set]
                                refine r_iinc (pc' := 218) (lo' := [some (.ref 60), some (.int (nI (k + 1)))]) dX7_settles_215 rfl (by decide) rfl (nI_add k 1) rfl ?_
                                refine r_goto (tgt := 199) dX7_settles_218 (by decide) ?_
                                exact ih199 (k + 1) (by omega) (by omega)
                          have L0 := L199 33 0 (by omega) (Nat.zero_le _)
                          rw [cpf_0, gs_id z71] at L0
                          exact L0
                        · skip
                          refine r_aload_n (pc' := 168) dX7_settles_167 rfl rfl ?_
                          refine r_get (pc' := 171) fX7_25 dX7_settles_168 rfl ((hj 60 (by decide) (by decide)).trans (gs_ne (hF1.at (gs_ne hX (by decide)) (by omega)) (by decide))) rfl ?_
                          refine r_iload_n (pc' := 172) dX7_settles_171 rfl rfl ?_
                          refine r_aload_n (pc' := 173) dX7_settles_172 rfl rfl ?_
                          refine r_get (pc' := 176) fX7_25 dX7_settles_173 rfl ((hj 60 (by decide) (by decide)).trans (gs_ne (hF1.at (gs_ne hX (by decide)) (by omega)) (by decide))) rfl ?_
                          refine r_iconst (pc' := 177) (v := nI 4) dX7_settles_176 rfl rfl ?_
                          refine r_iload_n (pc' := 178) dX7_settles_177 rfl rfl ?_
                          refine r_iadd (pc' := 179) (v := nI (4 + k)) dX7_settles_178 rfl (nI_add 4 k) ?_
                          refine r_iaload (pc' := 180) (v := fd (4 + k)) dX7_settles_179 rfl z66 (vp_in_nI (n := 4 + k) (by omega) (by omega)) (by rw [nI_cl (by omega)]; exact cpo_x (by omega)) ?_
                          refine r_iastore (pc' := 181) (c' := .inl (0, 8, .inl (cpo fd 4 (k + 1)))) dX7_settles_180 rfl z66 (vp_in_nI (n := k) (by omega) (by omega)) (by rw [nI_cl (by omega), ← cpo_s]) ?_
                          refine r_aload_n (pc' := 182) dX7_settles_181 rfl rfl ?_
                          refine r_get (pc' := 185) fX7_40 dX7_settles_182 rfl (gs_ne ((hj 60 (by decide) (by decide)).trans (gs_ne (hF1.at (gs_ne hX (by decide)) (by omega)) (by decide))) (by decide)) rfl ?_
                          refine r_bipush (pc' := 187) (v := nI 32) dX7_settles_185 rfl rfl ?_
                          refine r_iload_n (pc' := 188) dX7_settles_187 rfl rfl ?_
                          refine r_iadd (pc' := 189) (v := nI (32 + k)) dX7_settles_188 rfl (nI_add 32 k) ?_
                          refine r_iconst (pc' := 190) (v := nI 0) dX7_settles_189 rfl rfl ?_
                          refine r_iastore (pc' := 191) (c' := .inl (0, 37, .inl (zer fn (k + 1)))) dX7_settles_190 rfl (gs_ne z71 (by decide)) (vp_in_nI (n := 32 + k) (by omega) (by omega)) (by rw [nI_cl (by omega), ← zer_s]) ?_
                          refine r_iinc (pc' := 194) (lo' := [some (.ref 60), some (.int (nI (k + 1)))]) dX7_settles_191 rfl (by decide) rfl (nI_add k 1) rfl ?_
                          refine r_goto (tgt := 162) dX7_settles_194 (by decide) ?_
                          exact ih162 (k + 1) _ (by omega) (by omega) (gs_ne (gs_eq z66) (by decide)) (gs_eq (gs_ne z71 (by decide))) (fun j h1 h2 => by rw [gs_off (fun q => h2 q.symm), gs_off (fun q => h1 q.symm)]; exact hj j h1 h2)
                    exact L162 5 0 _ (by omega) (by omega) (by rw [cpo_0]; exact gs_ne y66 (by decide)) (by rw [zer_0]; exact gs_ne (hF1.at (gs_ne c70 (by decide)) (by omega)) (by decide)) (fun _ _ _ => rfl)
                  · skip
                    refine r_aload_n (pc' := 140) dX7_settles_139 rfl rfl ?_
                    refine r_get (pc' := 143) fX7_19 dX7_settles_140 rfl (gs_ne (hF1.at (gs_ne hX (by decide)) (by omega)) (by decide)) rfl ?_
                    refine r_iload_n (pc' := 144) dX7_settles_143 rfl rfl ?_
                    refine r_aload_n (pc' := 145) dX7_settles_144 rfl rfl ?_
                    refine r_get (pc' := 148) fX7_19 dX7_settles_145 rfl (gs_ne (hF1.at (gs_ne hX (by decide)) (by omega)) (by decide)) rfl ?_
                    refine r_bipush (pc' := 150) (v := nI 36) dX7_settles_148 rfl rfl ?_
                    refine r_iload_n (pc' := 151) dX7_settles_150 rfl rfl ?_
                    refine r_iadd (pc' := 152) (v := nI (36 + k)) dX7_settles_151 rfl (nI_add 36 k) ?_
                    refine r_iaload (pc' := 153) (v := fl (36 + k)) dX7_settles_152 rfl (gs_eq y64) (vp_in_nI (n := 36 + k) (by omega) (by omega)) (by rw [nI_cl (by omega)]; exact cpo_x (by omega)) ?_
                    refine r_iastore (pc' := 154) (c' := .inl (0, 72, .inl (cpo fl 36 (k + 1)))) dX7_settles_153 rfl (gs_eq y64) (vp_in_nI (n := k) (by omega) (by omega)) (by rw [nI_cl (by omega), ← cpo_s]) ?_
                    rw [gs_set]
                    refine r_iinc (pc' := 157) (lo' := [some (.ref 60), some (.int (nI (k + 1)))]) dX7_settles_154 rfl (by decide) rfl (nI_add k 1) rfl ?_
                    refine r_goto (tgt := 133) dX7_settles_157 (by decide) ?_
                    exact ih133 (k + 1) (by omega) (by omega)
              have L0 := L133 (36 + 1) 0 (by omega) (Nat.zero_le _)
              rw [cpo_0, gs_id y64] at L0
              exact L0
            · skip
              refine r_aload_n (pc' := 36) dX7_settles_35 rfl rfl ?_
              refine r_get (pc' := 39) fX7_16 dX7_settles_36 rfl (hF1.at (gs_ne hX (by decide)) (by omega)) rfl ?_
              refine r_iload_n (pc' := 40) dX7_settles_39 rfl rfl ?_
              refine r_aload_n (pc' := 41) dX7_settles_40 rfl rfl ?_
              refine r_get (pc' := 44) fX7_16 dX7_settles_41 rfl (hF1.at (gs_ne hX (by decide)) (by omega)) rfl ?_
              refine r_bipush (pc' := 46) (v := nI 6) dX7_settles_44 rfl rfl ?_
              refine r_iload_n (pc' := 47) dX7_settles_46 rfl rfl ?_
              refine r_iadd (pc' := 48) (v := nI (6 + k)) dX7_settles_47 rfl (nI_add 6 k) ?_
              refine r_iaload (pc' := 49) (v := fz (6 + k)) dX7_settles_48 rfl y63 (vp_in_nI (n := 6 + k) (by omega) (by omega)) (by rw [nI_cl (by omega)]; exact cpo_x (by omega)) ?_
              refine r_iastore (pc' := 50) (c' := .inl (0, 12, .inl (cpo fz 6 (k + 1)))) dX7_settles_49 rfl y63 (vp_in_nI (n := k) (by omega) (by omega)) (by rw [nI_cl (by omega), ← cpo_s]) ?_
              refine r_aload_n (pc' := 51) dX7_settles_50 rfl rfl ?_
              refine r_get (pc' := 54) fX7_22 dX7_settles_51 rfl (gs_ne (hF1.at (gs_ne hX (by decide)) (by omega)) (by decide)) rfl ?_
              refine r_iload_n (pc' := 55) dX7_settles_54 rfl rfl ?_
              refine r_aload_n (pc' := 56) dX7_settles_55 rfl rfl ?_
              refine r_get (pc' := 59) fX7_22 dX7_settles_56 rfl (gs_ne (hF1.at (gs_ne hX (by decide)) (by omega)) (by decide)) rfl ?_
              refine r_bipush (pc' := 61) (v := nI 6) dX7_settles_59 rfl rfl ?_
              refine r_iload_n (pc' := 62) dX7_settles_61 rfl rfl ?_
              refine r_iadd (pc' := 63) (v := nI (6 + k)) dX7_settles_62 rfl (nI_add 6 k) ?_
              refine r_iaload (pc' := 64) (v := fs (6 + k)) dX7_settles_63 rfl (gs_ne y65 (by decide)) (vp_in_nI (n := 6 + k) (by omega) (by omega)) (by rw [nI_cl (by omega)]; exact cpo_x (by omega)) ?_
              refine r_iastore (pc' := 65) (c' := .inl (0, 12, .inl (cpo fs 6 (k + 1)))) dX7_settles_64 rfl (gs_ne y65 (by decide)) (vp_in_nI (n := k) (by omega) (by omega)) (by rw [nI_cl (by omega), ← cpo_s]) ?_
              refine r_aload_n (pc' := 66) dX7_settles_65 rfl rfl ?_
              refine r_get (pc' := 69) fX7_28 dX7_settles_66 rfl (gs_ne (gs_ne (hF1.at (gs_ne hX (by decide)) (by omega)) (by decide)) (by decide)) rfl ?_
              refine r_iload_n (pc' := 70) dX7_settles_69 rfl rfl ?_
              refine r_aload_n (pc' := 71) dX7_settles_70 rfl rfl ?_
              refine r_get (pc' := 74) fX7_28 dX7_settles_71 rfl (gs_ne (gs_ne (hF1.at (gs_ne hX (by decide)) (by omega)) (by decide)) (by decide)) rfl ?_
              refine r_bipush (pc' := 76) (v := nI 6) dX7_settles_74 rfl rfl ?_
              refine r_iload_n (pc' := 77) dX7_settles_76 rfl rfl ?_
              refine r_iadd (pc' := 78) (v := nI (6 + k)) dX7_settles_77 rfl (nI_add 6 k) ?_
              refine r_iaload (pc' := 79) (v := g0 (6 + k)) dX7_settles_78 rfl (gs_ne (gs_ne y67 (by decide)) (by decide)) (vp_in_nI (n := 6 + k) (by omega) (by omega)) (by rw [nI_cl (by omega)]; exact cpo_x (by omega)) ?_
              refine r_iastore (pc' := 80) (c' := .inl (0, 12, .inl (cpo g0 6 (k + 1)))) dX7_settles_79 rfl (gs_ne (gs_ne y67 (by decide)) (by decide)) (vp_in_nI (n := k) (by omega) (by omega)) (by rw [nI_cl (by omega), ← cpo_s]) ?_
              refine r_aload_n (pc' := 81) dX7_settles_80 rfl rfl ?_
              refine r_get (pc' := 84) fX7_31 dX7_settles_81 rfl (gs_ne (gs_ne (gs_ne (hF1.at (gs_ne hX (by decide)) (by omega)) (by decide)) (by decide)) (by decide)) rfl ?_
              refine r_iload_n (pc' := 85) dX7_settles_84 rfl rfl ?_
              refine r_aload_n (pc' := 86) dX7_settles_85 rfl rfl ?_
              refine r_get (pc' := 89) fX7_31 dX7_settles_86 rfl (gs_ne (gs_ne (gs_ne (hF1.at (gs_ne hX (by decide)) (by omega)) (by decide)) (by decide)) (by decide)) rfl ?_
              refine r_bipush (pc' := 91) (v := nI 6) dX7_settles_89 rfl rfl ?_
              refine r_iload_n (pc' := 92) dX7_settles_91 rfl rfl ?_
              refine r_iadd (pc' := 93) (v := nI (6 + k)) dX7_settles_92 rfl (nI_add 6 k) ?_
              refine r_iaload (pc' := 94) (v := g1 (6 + k)) dX7_settles_93 rfl (gs_ne (gs_ne (gs_ne y68 (by decide)) (by decide)) (by decide)) (vp_in_nI (n := 6 + k) (by omega) (by omega)) (by rw [nI_cl (by omega)]; exact cpo_x (by omega)) ?_
              refine r_iastore (pc' := 95) (c' := .inl (0, 12, .inl (cpo g1 6 (k + 1)))) dX7_settles_94 rfl (gs_ne (gs_ne (gs_ne y68 (by decide)) (by decide)) (by decide)) (vp_in_nI (n := k) (by omega) (by omega)) (by rw [nI_cl (by omega), ← cpo_s]) ?_
              refine r_aload_n (pc' := 96) dX7_settles_95 rfl rfl ?_
              refine r_get (pc' := 99) fX7_34 dX7_settles_96 rfl (gs_ne (gs_ne (gs_ne (gs_ne (hF1.at (gs_ne hX (by decide)) (by omega)) (by decide)) (by decide)) (by decide)) (by decide)) rfl ?_
              refine r_iload_n (pc' := 100) dX7_settles_99 rfl rfl ?_
              refine r_aload_n (pc' := 101) dX7_settles_100 rfl rfl ?_
              refine r_get (pc' := 104) fX7_34 dX7_settles_101 rfl (gs_ne (gs_ne (gs_ne (gs_ne (hF1.at (gs_ne hX (by decide)) (by omega)) (by decide)) (by decide)) (by decide)) (by decide)) rfl ?_
              refine r_bipush (pc' := 106) (v := nI 6) dX7_settles_104 rfl rfl ?_
              refine r_iload_n (pc' := 107) dX7_settles_106 rfl rfl ?_
              refine r_iadd (pc' := 108) (v := nI (6 + k)) dX7_settles_107 rfl (nI_add 6 k) ?_
              refine r_iaload (pc' := 109) (v := g2 (6 + k)) dX7_settles_108 rfl (gs_ne (gs_ne (gs_ne (gs_ne y69 (by decide)) (by decide)) (by decide)) (by decide)) (vp_in_nI (n := 6 + k) (by omega) (by omega)) (by rw [nI_cl (by omega)]; exact cpo_x (by omega)) ?_
              refine r_iastore (pc' := 110) (c' := .inl (0, 12, .inl (cpo g2 6 (k + 1)))) dX7_settles_109 rfl (gs_ne (gs_ne (gs_ne (gs_ne y69 (by decide)) (by decide)) (by decide)) (by decide)) (vp_in_nI (n := k) (by omega) (by omega)) (by rw [nI_cl (by omega), ← cpo_s]) ?_
              refine r_aload_n (pc' := 111) dX7_settles_110 rfl rfl ?_
              refine r_get (pc' := 114) fX7_37 dX7_settles_111 rfl (gs_ne (gs_ne (gs_ne (gs_ne (gs_ne (hF1.at (gs_ne hX (by decide)) (by omega)) (by decide)) (by decide)) (by decide)) (by decide)) (by decide)) rfl ?_
              refine r_iload_n (pc' := 115) dX7_settles_114 rfl rfl ?_
              refine r_aload_n (pc' := 116) dX7_settles_115 rfl rfl ?_
              refine r_get (pc' := 119) fX7_37 dX7_settles_116 rfl (gs_ne (gs_ne (gs_ne (gs_ne (gs_ne (hF1.at (gs_ne hX (by decide)) (by omega)) (by decide)) (by decide)) (by decide)) (by decide)) (by decide)) rfl ?_
              refine r_bipush (pc' := 121) (v := nI 6) dX7_settles_119 rfl rfl ?_
              refine r_iload_n (pc' := 122) dX7_settles_121 rfl rfl ?_
              refine r_iadd (pc' := 123) (v := nI (6 + k)) dX7_settles_122 rfl (nI_add 6 k) ?_
              refine r_iaload (pc' := 124) (v := g3 (6 + k)) dX7_settles_123 rfl (gs_ne (gs_ne (gs_ne (gs_ne (gs_ne y70 (by decide)) (by decide)) (by decide)) (by decide)) (by decide)) (vp_in_nI (n := 6 + k) (by omega) (by omega)) (by rw [nI_cl (by omega)]; exact cpo_x (by omega)) ?_
              refine r_iastore (pc' := 125) (c' := .inl (0, 12, .inl (cpo g3 6 (k + 1)))) dX7_settles_124 rfl (gs_ne (gs_ne (gs_ne (gs_ne (gs_ne y70 (by decide)) (by decide)) (by decide)) (by decide)) (by decide)) (vp_in_nI (n := k) (by omega) (by omega)) (by rw [nI_cl (by omega), ← cpo_s]) ?_
              refine r_iinc (pc' := 128) (lo' := [some (.ref 60), some (.int (nI (k + 1)))]) dX7_settles_125 rfl (by decide) rfl (nI_add k 1) rfl ?_
              refine r_goto (tgt := 29) dX7_settles_128 (by decide) ?_
              exact ih29 (k + 1) _ (by omega) (by omega) (gs_ne (gs_ne (gs_ne (gs_ne (gs_ne (gs_eq y63) (by decide)) (by decide)) (by decide)) (by decide)) (by decide)) (gs_ne (gs_ne (gs_ne (gs_ne (gs_eq (gs_ne y65 (by decide))) (by decide)) (by decide)) (by decide)) (by decide)) (gs_ne (gs_ne (gs_ne (gs_eq (gs_ne (gs_ne y67 (by decide)) (by decide))) (by decide)) (by decide)) (by decide)) (gs_ne (gs_ne (gs_eq (gs_ne (gs_ne (gs_ne y68 (by decide)) (by decide)) (by decide))) (by decide)) (by decide)) (gs_ne (gs_eq (gs_ne (gs_ne (gs_ne (gs_ne y69 (by decide)) (by decide)) (by decide)) (by decide))) (by decide)) (gs_eq (gs_ne (gs_ne (gs_ne (gs_ne (gs_ne y70 (by decide)) (by decide)) (by decide)) (by decide)) (by decide))) (gs_ne (gs_ne (gs_ne (gs_ne (gs_ne (gs_ne y64 (by decide)) (by decide)) (by decide)) (by decide)) (by decide)) (by decide)) (gs_ne (gs_ne (gs_ne (gs_ne (gs_ne (gs_ne y66 (by decide)) (by decide)) (by decide)) (by decide)) (by decide)) (by decide)) (Frm.sets (k := 70) (Frm.sets (k := 69) (Frm.sets (k := 68) (Frm.sets (k := 67) (Frm.sets (k := 65) (Frm.sets (k := 63) hF1 (by omega) (by omega)) (by omega) (by omega)) (by omega) (by omega)) (by omega) (by omega)) (by omega) (by omega)) (by omega) (by omega))
        exact L29 7 0 _ (by omega) (by omega) (by rw [cpo_0]; exact gs_ne c2 (by decide)) (by rw [cpo_0]; exact gs_ne c4 (by decide)) (by rw [cpo_0]; exact gs_ne c6 (by decide)) (by rw [cpo_0]; exact gs_ne c7 (by decide)) (by rw [cpo_0]; exact gs_ne c8 (by decide)) (by rw [cpo_0]; exact gs_ne c9 (by decide)) (gs_ne c3 (by decide)) (gs_ne c5 (by decide)) (Frm.rf)
      · skip
        refine r_aload_n (pc' := 8) dX7_settles_7 rfl rfl ?_
        refine r_get (pc' := 11) fX7_13 dX7_settles_8 rfl (gs_ne hX (by decide)) rfl ?_
        refine r_iload_n (pc' := 12) dX7_settles_11 rfl rfl ?_
        refine r_aload_n (pc' := 13) dX7_settles_12 rfl rfl ?_
        refine r_get (pc' := 16) fX7_13 dX7_settles_13 rfl (gs_ne hX (by decide)) rfl ?_
        refine r_iconst (pc' := 17) (v := nI 3) dX7_settles_16 rfl rfl ?_
        refine r_iload_n (pc' := 18) dX7_settles_17 rfl rfl ?_
        refine r_iadd (pc' := 19) (v := nI (3 + k)) dX7_settles_18 rfl (nI_add 3 k) ?_
        refine r_iaload (pc' := 20) (v := fm (3 + k)) dX7_settles_19 rfl (gs_eq c1) (vp_in_nI (n := 3 + k) (by omega) (by omega)) (by rw [nI_cl (by omega)]; exact cpo_x (by omega)) ?_
        refine r_iastore (pc' := 21) (c' := .inl (0, 6, .inl (cpo fm 3 (k + 1)))) dX7_settles_20 rfl (gs_eq c1) (vp_in_nI (n := k) (by omega) (by omega)) (by rw [nI_cl (by omega), ← cpo_s]) ?_
        rw [gs_set]
        refine r_iinc (pc' := 24) (lo' := [some (.ref 60), some (.int (nI (k + 1)))]) dX7_settles_21 rfl (by decide) rfl (nI_add k 1) rfl ?_
        refine r_goto (tgt := 2) dX7_settles_24 (by decide) ?_
        exact ih2 (k + 1) (by omega) (by omega)
  have L0 := L2 (3 + 1) 0 (by omega) (Nat.zero_le _)
  rw [cpo_0, gs_id c1] at L0
  exact L0
