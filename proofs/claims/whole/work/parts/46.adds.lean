theorem run_in {tx : Nat → Nat} {n c : Nat} : ∀ k p i, p ≤ i → i < runE tx n c k p → srt tx n i = c
  | 0, p, i, h1, h2 => by rw [runE] at h2; omega
  | k + 1, p, i, h1, h2 => by
    unfold runE at h2
    split at h2
    · next h =>
      rcases (show i = p ∨ p + 1 ≤ i by omega) with rfl | q
      · exact h
      · exact run_in k (p + 1) i q h2
    · omega
theorem row_in {tx : Nat → Nat} {n p i : Nat} (h : tC tx n p = 2) (h1 : tS tx n p ≤ i) (h2 : i < tE tx n p) : i < n ∧ 97 ≤ tx i ∧ tx i ≤ 122 := by
  rw [tE, if_pos (Or.inl h), h] at h2
  have h3 := run_in _ _ i h1 h2
  have h4 : i < n := by
    by_cases q : i < n
    · exact q
    · rw [srt_0.mpr (by omega)] at h3; cases h3
  rw [srt_i h4] at h3
  exact ⟨h4, cls_2i h3⟩
theorem SubA.word {w w' : px_W} {T : px_T} (hT : SubA w 3 T) (hW : tW T < 6) {tx : Nat → Nat} {v s : Nat} {fw fs : Nat → Int32} (c2 : w[5]? = some (.inl (0, 6, .inl fw))) (c3 : w[6]? = some (.inl (0, 6, .inl fs))) (e0 : w'[3]? = some (.inr (4, [.int (nI (tW T + 1)), .int (nI (tD T)), .int (nI (tG T)), .ref 4, .ref 5, .ref 6, .ref 7, .ref 8]))) (e1 : w'[4]? = w[4]?) (e2 : w'[5]? = some (.inl (0, 6, .inl (upd fw (tW T) (nI 0))))) (e3 : w'[6]? = some (.inl (0, 6, .inl (upd fs (tW T) (nI v))))) (e4 : w'[7]? = w[7]?) (e5 : w'[8]? = w[8]?) : SubA w' 3 (aW tx T v s 0) := by
  obtain ⟨fl, fw', fs', fd, fg, s0, s1, s2, s3, s4, s5, sW, sL, sD, sG, sb⟩ := hT
  have : fw' = fw := by have := s2.symm.trans c2; simpa using this
  subst this
  have : fs' = fs := by have := s3.symm.trans c3; simpa using this
  subst this
  refine ⟨fl, _, _, fd, fg, e0, e1.trans s1, e2, e3, e4.trans s4, e5.trans s5, fun i hi => ?_, fun i x hi hx => ?_, sD, sG, aW_b sb hW (by omega)⟩
  · have hi' : i < tW T + 1 := hi
    show upd fw' (tW T) (nI 0) i = nI (if i = tW T then 0 else tl T i) ∧ upd fs' (tW T) (nI v) i = nI (if i = tW T then v else ts T i)
    by_cases e : i = tW T
    · simp [upd, e]
    · simp only [upd, e, if_false]; exact sW i (by omega)
  · have hi' : i < tW T + 1 := hi
    have hx' : x < (if i = tW T then 0 else tl T i) := hx
    show fl (i * 6 + x) = nI (if i = tW T then (if x < 0 then tx (s + x) - 97 else 8) else tc T i x)
    by_cases e : i = tW T
    · rw [if_pos e] at hx'; omega
    · rw [if_neg e] at hx'; rw [if_neg e]; exact sL i x (by omega) hx'
theorem SubA.lett {w w' : px_W} {T : px_T} {tx : Nat → Nat} {v s k : Nat} (hT : SubA w 3 (aW tx T v s k)) (hW : tW T < 6) (hb : SubB T) (hk : k < 6) {fl fw : Nat → Int32} (c1 : w[4]? = some (.inl (0, 36, .inl fl))) (c2 : w[5]? = some (.inl (0, 6, .inl fw))) (e0 : w'[3]? = w[3]?) (e1 : w'[4]? = some (.inl (0, 36, .inl (upd fl (tW T * 6 + k) (nI (tx (s + k) - 97)))))) (e2 : w'[5]? = some (.inl (0, 6, .inl (upd fw (tW T) (nI (k + 1)))))) (e3 : w'[6]? = w[6]?) (e4 : w'[7]? = w[7]?) (e5 : w'[8]? = w[8]?) : SubA w' 3 (aW tx T v s (k + 1)) := by
  obtain ⟨fl', fw', fs, fd, fg, s0, s1, s2, s3, s4, s5, sW, sL, sD, sG, sb⟩ := hT
  have : fl' = fl := by have := s1.symm.trans c1; simpa using this
  subst this
  have : fw' = fw := by have := s2.symm.trans c2; simpa using this
  subst this
  refine ⟨_, _, fs, fd, fg, e0.trans s0, e1, e2, e3.trans s3, e4.trans s4, e5.trans s5, fun i hi => ?_, fun i x hi hx => ?_, sD, sG, aW_b hb hW (by omega)⟩
  · have hi' : i < tW T + 1 := hi
    have h9 : fw' i = nI (if i = tW T then k else tl T i) ∧ fs i = nI (if i = tW T then v else ts T i) := sW i hi
    show upd fw' (tW T) (nI (k + 1)) i = nI (if i = tW T then (k + 1) else tl T i) ∧ fs i = nI (if i = tW T then v else ts T i)
    by_cases e : i = tW T
    · refine ⟨by simp [upd, e], h9.2⟩
    · rw [if_neg e] at h9 ⊢
      refine ⟨?_, h9.2⟩
      simp only [upd, e, if_false]; exact h9.1
  · have hi' : i < tW T + 1 := hi
    have hx' : x < (if i = tW T then (k + 1) else tl T i) := hx
    have h9 : x < (if i = tW T then k else tl T i) → fl' (i * 6 + x) = nI (if i = tW T then (if x < k then tx (s + x) - 97 else 8) else tc T i x) := sL i x hi
    show upd fl' (tW T * 6 + k) (nI (tx (s + k) - 97)) (i * 6 + x) = nI (if i = tW T then (if x < k + 1 then tx (s + x) - 97 else 8) else tc T i x)
    by_cases e : i = tW T
    · subst e
      rw [if_pos rfl] at hx' h9
      rw [if_pos rfl, if_pos hx']
      by_cases ex : x = k
      · subst ex; simp [upd]
      · have : ¬ tW T * 6 + x = tW T * 6 + k := by omega
        simp only [upd, this, if_false]
        have := h9 (by omega)
        rw [if_pos rfl, if_pos (by omega)] at this
        exact this
    · have h7 := sb.2.1
      have h8 : (if i = tW T then k else tl T i) ≤ 6 := h7 i hi
      rw [if_neg e] at hx' h9 h8
      have : ¬ i * 6 + x = tW T * 6 + k := by omega
      rw [if_neg e]
      simp only [upd, this, if_false]
      have := h9 hx'
      rw [if_neg e] at this
      exact this
theorem SubA.drv {w w' : px_W} {T : px_T} (hT : SubA w 3 T) (hD : tD T < 4) {v : Nat} {fd : Nat → Int32} (c4 : w[7]? = some (.inl (0, 4, .inl fd))) (e0 : w'[3]? = some (.inr (4, [.int (nI (tW T)), .int (nI (tD T + 1)), .int (nI (tG T)), .ref 4, .ref 5, .ref 6, .ref 7, .ref 8]))) (e1 : w'[4]? = w[4]?) (e2 : w'[5]? = w[5]?) (e3 : w'[6]? = w[6]?) (e4 : w'[7]? = some (.inl (0, 4, .inl (upd fd (tD T) (nI v))))) (e5 : w'[8]? = w[8]?) : SubA w' 3 (aD T v) := by
  obtain ⟨fl, fw, fs, fd', fg, s0, s1, s2, s3, s4, s5, sW, sL, sD, sG, ⟨sb1, sb2, sb3⟩, sb4, sb5⟩ := hT
  have : fd' = fd := by have := s4.symm.trans c4; simpa using this
  subst this
  refine ⟨fl, fw, fs, _, fg, e0, e1.trans s1, e2.trans s2, e3.trans s3, e4, e5.trans s5, sW, sL, fun d hd => ?_, sG, ⟨sb1, by show tD T + 1 ≤ 4; omega, sb3⟩, sb4, sb5⟩
  have hd' : d < tD T + 1 := hd
  show upd fd' (tD T) (nI v) d = nI (if d = tD T then v else td T d)
  by_cases e : d = tD T
  · simp [upd, e]
  · simp only [upd, e, if_false]; exact sD d (by omega)
theorem SubA.goer {w w' : px_W} {T : px_T} (hT : SubA w 3 T) (hG : tG T < 6) {a b c d : Nat} {fg : Nat → Int32} (c5 : w[8]? = some (.inl (0, 24, .inl fg))) (e0 : w'[3]? = some (.inr (4, [.int (nI (tW T)), .int (nI (tD T)), .int (nI (tG T + 1)), .ref 4, .ref 5, .ref 6, .ref 7, .ref 8]))) (e1 : w'[4]? = w[4]?) (e2 : w'[5]? = w[5]?) (e3 : w'[6]? = w[6]?) (e4 : w'[7]? = w[7]?) (e5 : w'[8]? = some (.inl (0, 24, .inl (upd (upd (upd (upd fg (tG T * 4 + 0) (nI a)) (tG T * 4 + 1) (nI b)) (tG T * 4 + 2) (nI c)) (tG T * 4 + 3) (nI d))))) : SubA w' 3 (aG T a b c d) := by
  obtain ⟨fl, fw, fs, fd, fg', s0, s1, s2, s3, s4, s5, sW, sL, sD, sG, ⟨sb1, sb2, sb3⟩, sb4, sb5⟩ := hT
  have : fg' = fg := by have := s5.symm.trans c5; simpa using this
  subst this
  refine ⟨fl, fw, fs, fd, _, e0, e1.trans s1, e2.trans s2, e3.trans s3, e4.trans s4, e5, sW, sL, sD, fun j p hj hp => ?_, ⟨sb1, sb2, by show tG T + 1 ≤ 6; omega⟩, sb4, sb5⟩
  have hj' : j < tG T + 1 := hj
  show upd (upd (upd (upd fg' (tG T * 4 + 0) (nI a)) (tG T * 4 + 1) (nI b)) (tG T * 4 + 2) (nI c)) (tG T * 4 + 3) (nI d) (j * 4 + p) = nI (if j = tG T then (if p = 0 then a else if p = 1 then b else if p = 2 then c else d) else tg T j p)
  by_cases e : j = tG T
  · subst e
    rcases (show p = 0 ∨ p = 1 ∨ p = 2 ∨ p = 3 by omega) with rfl | rfl | rfl | rfl <;> simp [upd]
  · rw [if_neg e]
    have n0 : ¬ j * 4 + p = tG T * 4 + 0 := by omega
    have n1 : ¬ j * 4 + p = tG T * 4 + 1 := by omega
    have n2 : ¬ j * 4 + p = tG T * 4 + 2 := by omega
    have n3 : ¬ j * 4 + p = tG T * 4 + 3 := by omega
    simp only [upd, n0, n1, n2, n3, if_false]
    exact sG j p (by omega) hp
theorem SubA.none {w w' : px_W} {T : px_T} (hT : SubA w 3 T) (e0 : w'[3]? = some (.inr (4, [.int (nI 0), .int (nI 0), .int (nI 0), .ref 4, .ref 5, .ref 6, .ref 7, .ref 8]))) (e1 : w'[4]? = w[4]?) (e2 : w'[5]? = w[5]?) (e3 : w'[6]? = w[6]?) (e4 : w'[7]? = w[7]?) (e5 : w'[8]? = w[8]?) : SubA w' 3 T0 := by
  obtain ⟨fl, fw, fs, fd, fg, s0, s1, s2, s3, s4, s5, _⟩ := hT
  exact ⟨fl, fw, fs, fd, fg, e0, e1.trans s1, e2.trans s2, e3.trans s3, e4.trans s4, e5.trans s5, fun i hi => absurd hi (Nat.not_lt_zero _), fun i x hi => absurd hi (Nat.not_lt_zero _), fun i hi => absurd hi (Nat.not_lt_zero _), fun j p hj => absurd hj (Nat.not_lt_zero _), ⟨by decide, by decide, by decide⟩, fun i hi => absurd hi (Nat.not_lt_zero _), fun i x hi => absurd hi (Nat.not_lt_zero _)⟩
set_option maxHeartbeats 200000 in
theorem ct_X5_becomeEmpty {g : px_G} {w : px_W} {Q : px_Q} {T : px_T} (hT : SubA w 3 T) (hQ : ∀ w', SubA w' 3 (T0) → Frm w w' 3 9 → Q none w') : Ct g yX5_becomeEmpty cX5_becomeEmpty 1 none 1 0 0 [.ref 3] w Q := by
  refine Ct.of kX5_becomeEmpty (by omega) (lo := [some (.ref 3)]) rfl (px_cat1 rfl) (Nat.le_of_ble_eq_true rfl) ?_
  obtain ⟨fl, fw, fs, fd, fg, s0, s1, s2, s3, s4, s5, sW, sL, sD, sG, ⟨sb1, sb2, sb3⟩, sb4, sb5⟩ := id hT
  refine r_aload_n (pc' := 1) dX5_becomeEmpty_0 rfl rfl ?_
  refine r_iconst (pc' := 2) (v := nI 0) dX5_becomeEmpty_1 rfl rfl ?_
  refine r_put (pc' := 5) (ty := .int) (c' := .inr (4, [.int (nI 0), .int (nI (tD T)), .int (nI (tG T)), .ref 4, .ref 5, .ref 6, .ref 7, .ref 8])) fX5_27 dX5_becomeEmpty_2 rfl s0 (Nat.le_of_ble_eq_true rfl) rfl (by decide +kernel) rfl rfl rfl ?_
  refine r_aload_n (pc' := 6) dX5_becomeEmpty_5 rfl rfl ?_
  refine r_iconst (pc' := 7) (v := nI 0) dX5_becomeEmpty_6 rfl rfl ?_
  refine r_put (pc' := 10) (ty := .int) (c' := .inr (4, [.int (nI 0), .int (nI 0), .int (nI (tG T)), .ref 4, .ref 5, .ref 6, .ref 7, .ref 8])) fX5_31 dX5_becomeEmpty_7 rfl (gs_eq s0) (Nat.le_of_ble_eq_true rfl) rfl (by decide +kernel) rfl rfl rfl ?_
  refine r_aload_n (pc' := 11) dX5_becomeEmpty_10 rfl rfl ?_
  refine r_iconst (pc' := 12) (v := nI 0) dX5_becomeEmpty_11 rfl rfl ?_
  refine r_put (pc' := 15) (ty := .int) (c' := .inr (4, [.int (nI 0), .int (nI 0), .int (nI 0), .ref 4, .ref 5, .ref 6, .ref 7, .ref 8])) fX5_34 dX5_becomeEmpty_12 rfl (gs_eq (gs_eq s0)) (Nat.le_of_ble_eq_true rfl) rfl (by decide +kernel) rfl rfl rfl ?_
  refine r_return dX5_becomeEmpty_15 rfl ?_
  exact hQ _ (hT.none (gs_eq (gs_eq (gs_eq s0))) (by rw [gs_off (by decide)]; rw [gs_off (by decide)]; rw [gs_off (by decide)]) (by rw [gs_off (by decide)]; rw [gs_off (by decide)]; rw [gs_off (by decide)]) (by rw [gs_off (by decide)]; rw [gs_off (by decide)]; rw [gs_off (by decide)]) (by rw [gs_off (by decide)]; rw [gs_off (by decide)]; rw [gs_off (by decide)]) (by rw [gs_off (by decide)]; rw [gs_off (by decide)]; rw [gs_off (by decide)])) (((((Frm.rf (a := 3) (b := 9)).sets (k := 3) (by omega) (by omega)).sets (k := 3) (by omega) (by omega)).sets (k := 3) (by omega) (by omega)))
set_option maxHeartbeats 200000 in
theorem ct_X5_addWord {g : px_G} {w : px_W} {Q : px_Q} {T : px_T} (hT : SubA w 3 T) (hW : tW T < 6) {tx : Nat → Nat} {v s : Nat} (hv : v < 2 ^ 20) (hQ : ∀ w', SubA w' 3 (aW tx T v s 0) → Frm w w' 3 9 → Q none w') : Ct g yX5_addWord cX5_addWord 2 none 2 0 0 [.ref 3, .int (nI v)] w Q := by
  refine Ct.of kX5_addWord (by omega) (lo := [some (.ref 3), some (.int (nI v))]) rfl (px_cat1 rfl) (Nat.le_of_ble_eq_true rfl) ?_
  obtain ⟨fl, fw, fs, fd, fg, s0, s1, s2, s3, s4, s5, sW, sL, sD, sG, ⟨sb1, sb2, sb3⟩, sb4, sb5⟩ := id hT
  refine r_aload_n (pc' := 1) dX5_addWord_0 rfl rfl ?_
  refine r_get (pc' := 4) fX5_27 dX5_addWord_1 rfl s0 rfl ?_
  refine r_bipush (pc' := 6) (v := nI 6) dX5_addWord_4 rfl rfl ?_
  refine r_icmp_ge (pc' := 9) (P := 6 ≤ tW T) (tgt := 43) dX5_addWord_6 (by decide) rfl (nI_leI (a := 6) (b := tW T) (by omega) (by omega)) (fun h6 => ?_) (fun h6 => ?_)
  · skip
    exfalso; omega
  · skip
    refine r_aload_n (pc' := 10) dX5_addWord_9 rfl rfl ?_
    refine r_get (pc' := 13) fX5_18 dX5_addWord_10 rfl s0 rfl ?_
    refine r_aload_n (pc' := 14) dX5_addWord_13 rfl rfl ?_
    refine r_get (pc' := 17) fX5_27 dX5_addWord_14 rfl s0 rfl ?_
    refine r_iload_n (pc' := 18) dX5_addWord_17 rfl rfl ?_
    refine r_callS (pc' := 21) (av := [.ref 6, .int (nI (tW T)), .int (nI v)]) (rest := []) kX3_put vX3_put lX5_68 dX5_addWord_18 rfl rfl rfl ⟨by decide, by decide, by decide⟩ rfl rfl (Nat.le_of_ble_eq_true rfl) (ct_X3_put s3 (by decide) (j := tW T) (by omega) ?_)
    show Wp g yX5_addWord cX5_addWord 2 none 2 0 0 (px_MQ g Q 0 0) 0 0 21 [some (.ref 3), some (.int (nI v))] [] (w.set 6 (.inl (0, 6, .inl (upd fs (tW T) (nI v)))))
    refine r_aload_n (pc' := 22) dX5_addWord_21 rfl rfl ?_
    refine r_get (pc' := 25) fX5_15 dX5_addWord_22 rfl (gs_ne s0 (by decide)) rfl ?_
    refine r_aload_n (pc' := 26) dX5_addWord_25 rfl rfl ?_
    refine r_get (pc' := 29) fX5_27 dX5_addWord_26 rfl (gs_ne s0 (by decide)) rfl ?_
    refine r_iconst (pc' := 30) (v := nI 0) dX5_addWord_29 rfl rfl ?_
    refine r_callS (pc' := 33) (av := [.ref 5, .int (nI (tW T)), .int (nI 0)]) (rest := []) kX3_put vX3_put lX5_68 dX5_addWord_30 rfl rfl rfl ⟨by decide, by decide, by decide⟩ rfl rfl (Nat.le_of_ble_eq_true rfl) (ct_X3_put (gs_ne s2 (by decide)) (by decide) (j := tW T) (by omega) ?_)
    show Wp g yX5_addWord cX5_addWord 2 none 2 0 0 (px_MQ g Q 0 0) 0 0 33 [some (.ref 3), some (.int (nI v))] [] ((w.set 6 (.inl (0, 6, .inl (upd fs (tW T) (nI v))))).set 5 (.inl (0, 6, .inl (upd fw (tW T) (nI 0)))))
    refine r_aload_n (pc' := 34) dX5_addWord_33 rfl rfl ?_
    refine r_dup (pc' := 35) dX5_addWord_34 rfl rfl ?_
    refine r_get (pc' := 38) fX5_27 dX5_addWord_35 rfl (gs_ne (gs_ne s0 (by decide)) (by decide)) rfl ?_
    refine r_iconst (pc' := 39) (v := nI 1) dX5_addWord_38 rfl rfl ?_
    refine r_iadd (pc' := 40) (v := nI (tW T + 1)) dX5_addWord_39 rfl (nI_add (tW T) 1) ?_
    refine r_put (pc' := 43) (ty := .int) (c' := .inr (4, [.int (nI (tW T + 1)), .int (nI (tD T)), .int (nI (tG T)), .ref 4, .ref 5, .ref 6, .ref 7, .ref 8])) fX5_27 dX5_addWord_40 rfl (gs_ne (gs_ne s0 (by decide)) (by decide)) (Nat.le_of_ble_eq_true rfl) rfl (by decide +kernel) rfl rfl rfl ?_
    refine r_return dX5_addWord_43 rfl ?_
    exact hQ _ (hT.word hW s2 s3 (gs_eq (gs_ne (gs_ne s0 (by decide)) (by decide))) (by rw [gs_off (by decide)]; rw [gs_off (by decide)]; rw [gs_off (by decide)]) (gs_ne (gs_eq (gs_ne s2 (by decide))) (by decide)) (gs_ne (gs_ne (gs_eq s3) (by decide)) (by decide)) (by rw [gs_off (by decide)]; rw [gs_off (by decide)]; rw [gs_off (by decide)]) (by rw [gs_off (by decide)]; rw [gs_off (by decide)]; rw [gs_off (by decide)])) (((((Frm.rf (a := 3) (b := 9)).sets (k := 6) (by omega) (by omega)).sets (k := 5) (by omega) (by omega)).sets (k := 3) (by omega) (by omega)))
set_option maxHeartbeats 200000 in
theorem ct_X5_addDrive {g : px_G} {w : px_W} {Q : px_Q} {T : px_T} (hT : SubA w 3 T) (hD : tD T < 4) {v : Nat} (hv : v < 2 ^ 20) (hQ : ∀ w', SubA w' 3 (aD T v) → Frm w w' 3 9 → Q none w') : Ct g yX5_addDrive cX5_addDrive 2 none 2 0 0 [.ref 3, .int (nI v)] w Q := by
  refine Ct.of kX5_addDrive (by omega) (lo := [some (.ref 3), some (.int (nI v))]) rfl (px_cat1 rfl) (Nat.le_of_ble_eq_true rfl) ?_
  obtain ⟨fl, fw, fs, fd, fg, s0, s1, s2, s3, s4, s5, sW, sL, sD, sG, ⟨sb1, sb2, sb3⟩, sb4, sb5⟩ := id hT
  refine r_aload_n (pc' := 1) dX5_addDrive_0 rfl rfl ?_
  refine r_get (pc' := 4) fX5_31 dX5_addDrive_1 rfl s0 rfl ?_
  refine r_iconst (pc' := 5) (v := nI 4) dX5_addDrive_4 rfl rfl ?_
  refine r_icmp_ge (pc' := 8) (P := 4 ≤ tD T) (tgt := 30) dX5_addDrive_5 (by decide) rfl (nI_leI (a := 4) (b := tD T) (by omega) (by omega)) (fun h5 => ?_) (fun h5 => ?_)
  · skip
    exfalso; omega
  · skip
    refine r_aload_n (pc' := 9) dX5_addDrive_8 rfl rfl ?_
    refine r_get (pc' := 12) fX5_21 dX5_addDrive_9 rfl s0 rfl ?_
    refine r_aload_n (pc' := 13) dX5_addDrive_12 rfl rfl ?_
    refine r_get (pc' := 16) fX5_31 dX5_addDrive_13 rfl s0 rfl ?_
    refine r_iload_n (pc' := 17) dX5_addDrive_16 rfl rfl ?_
    refine r_callS (pc' := 20) (av := [.ref 7, .int (nI (tD T)), .int (nI v)]) (rest := []) kX3_put vX3_put lX5_68 dX5_addDrive_17 rfl rfl rfl ⟨by decide, by decide, by decide⟩ rfl rfl (Nat.le_of_ble_eq_true rfl) (ct_X3_put s4 (by decide) (j := tD T) (by omega) ?_)
    show Wp g yX5_addDrive cX5_addDrive 2 none 2 0 0 (px_MQ g Q 0 0) 0 0 20 [some (.ref 3), some (.int (nI v))] [] (w.set 7 (.inl (0, 4, .inl (upd fd (tD T) (nI v)))))
    refine r_aload_n (pc' := 21) dX5_addDrive_20 rfl rfl ?_
    refine r_dup (pc' := 22) dX5_addDrive_21 rfl rfl ?_
    refine r_get (pc' := 25) fX5_31 dX5_addDrive_22 rfl (gs_ne s0 (by decide)) rfl ?_
    refine r_iconst (pc' := 26) (v := nI 1) dX5_addDrive_25 rfl rfl ?_
    refine r_iadd (pc' := 27) (v := nI (tD T + 1)) dX5_addDrive_26 rfl (nI_add (tD T) 1) ?_
    refine r_put (pc' := 30) (ty := .int) (c' := .inr (4, [.int (nI (tW T)), .int (nI (tD T + 1)), .int (nI (tG T)), .ref 4, .ref 5, .ref 6, .ref 7, .ref 8])) fX5_31 dX5_addDrive_27 rfl (gs_ne s0 (by decide)) (Nat.le_of_ble_eq_true rfl) rfl (by decide +kernel) rfl rfl rfl ?_
    refine r_return dX5_addDrive_30 rfl ?_
    exact hQ _ (hT.drv hD s4 (gs_eq (gs_ne s0 (by decide))) (by rw [gs_off (by decide)]; rw [gs_off (by decide)]) (by rw [gs_off (by decide)]; rw [gs_off (by decide)]) (by rw [gs_off (by decide)]; rw [gs_off (by decide)]) (gs_ne (gs_eq s4) (by decide)) (by rw [gs_off (by decide)]; rw [gs_off (by decide)])) ((((Frm.rf (a := 3) (b := 9)).sets (k := 7) (by omega) (by omega)).sets (k := 3) (by omega) (by omega)))
set_option maxHeartbeats 200000 in
theorem ct_X5_addGoer {g : px_G} {w : px_W} {Q : px_Q} {T : px_T} (hT : SubA w 3 T) (hG : tG T < 6) {a b c d : Nat} (hQ : ∀ w', SubA w' 3 (aG T a b c d) → Frm w w' 3 9 → Q none w') : Ct g yX5_addGoer cX5_addGoer 6 none 2 0 0 [.ref 3, .int (nI a), .int (nI b), .int (nI c), .int (nI d)] w Q := by
  refine Ct.of kX5_addGoer (by omega) (lo := [some (.ref 3), some (.int (nI a)), some (.int (nI b)), some (.int (nI c)), some (.int (nI d)), none]) rfl (px_cat1 rfl) (Nat.le_of_ble_eq_true rfl) ?_
  obtain ⟨fl, fw, fs, fd, fg, s0, s1, s2, s3, s4, s5, sW, sL, sD, sG, ⟨sb1, sb2, sb3⟩, sb4, sb5⟩ := id hT
  refine r_aload_n (pc' := 1) dX5_addGoer_0 rfl rfl ?_
  refine r_get (pc' := 4) fX5_34 dX5_addGoer_1 rfl s0 rfl ?_
  refine r_bipush (pc' := 6) (v := nI 6) dX5_addGoer_4 rfl rfl ?_
  refine r_icmp_ge (pc' := 9) (P := 6 ≤ tG T) (tgt := 76) dX5_addGoer_6 (by decide) rfl (nI_leI (a := 6) (b := tG T) (by omega) (by omega)) (fun h6 => ?_) (fun h6 => ?_)
  · skip
    exfalso; omega
  · skip
    refine r_aload_n (pc' := 10) dX5_addGoer_9 rfl rfl ?_
    refine r_get (pc' := 13) fX5_34 dX5_addGoer_10 rfl s0 rfl ?_
    refine r_iconst (pc' := 14) (v := nI 4) dX5_addGoer_13 rfl rfl ?_
    refine r_imul (pc' := 15) (v := nI ((tG T) * 4)) dX5_addGoer_14 rfl (pk_mul (tG T) 4) ?_
    refine r_istore (pc' := 17) (lo' := [some (.ref 3), some (.int (nI a)), some (.int (nI b)), some (.int (nI c)), some (.int (nI d)), some (.int (nI ((tG T) * 4)))]) dX5_addGoer_15 rfl (by decide) rfl ?_
    refine r_aload_n (pc' := 18) dX5_addGoer_17 rfl rfl ?_
    refine r_get (pc' := 21) fX5_24 dX5_addGoer_18 rfl s0 rfl ?_
    refine r_iload (pc' := 23) dX5_addGoer_21 rfl rfl ?_
    refine r_iconst (pc' := 24) (v := nI 0) dX5_addGoer_23 rfl rfl ?_
    refine r_iadd (pc' := 25) (v := nI ((tG T) * 4 + 0)) dX5_addGoer_24 rfl (nI_add ((tG T) * 4) 0) ?_
    refine r_iload_n (pc' := 26) dX5_addGoer_25 rfl rfl ?_
    refine r_callS (pc' := 29) (av := [.ref 8, .int (nI ((tG T) * 4 + 0)), .int (nI a)]) (rest := []) kX3_put vX3_put lX5_68 dX5_addGoer_26 rfl rfl rfl ⟨by decide, by decide, by decide⟩ rfl rfl (Nat.le_of_ble_eq_true rfl) (ct_X3_put s5 (by decide) (j := (tG T) * 4 + 0) (by omega) ?_)
    show Wp g yX5_addGoer cX5_addGoer 6 none 2 0 0 (px_MQ g Q 0 0) 0 0 29 [some (.ref 3), some (.int (nI a)), some (.int (nI b)), some (.int (nI c)), some (.int (nI d)), some (.int (nI ((tG T) * 4)))] [] (w.set 8 (.inl (0, 24, .inl (upd fg ((tG T) * 4 + 0) (nI a)))))
    refine r_aload_n (pc' := 30) dX5_addGoer_29 rfl rfl ?_
    refine r_get (pc' := 33) fX5_24 dX5_addGoer_30 rfl (gs_ne s0 (by decide)) rfl ?_
    refine r_iload (pc' := 35) dX5_addGoer_33 rfl rfl ?_
    refine r_iconst (pc' := 36) (v := nI 1) dX5_addGoer_35 rfl rfl ?_
    refine r_iadd (pc' := 37) (v := nI ((tG T) * 4 + 1)) dX5_addGoer_36 rfl (nI_add ((tG T) * 4) 1) ?_
    refine r_iload_n (pc' := 38) dX5_addGoer_37 rfl rfl ?_
    refine r_callS (pc' := 41) (av := [.ref 8, .int (nI ((tG T) * 4 + 1)), .int (nI b)]) (rest := []) kX3_put vX3_put lX5_68 dX5_addGoer_38 rfl rfl rfl ⟨by decide, by decide, by decide⟩ rfl rfl (Nat.le_of_ble_eq_true rfl) (ct_X3_put (gs_eq s5) (by decide) (j := (tG T) * 4 + 1) (by omega) ?_)
    show Wp g yX5_addGoer cX5_addGoer 6 none 2 0 0 (px_MQ g Q 0 0) 0 0 41 [some (.ref 3), some (.int (nI a)), some (.int (nI b)), some (.int (nI c)), some (.int (nI d)), some (.int (nI ((tG T) * 4)))] [] ((w.set 8 (.inl (0, 24, .inl (upd fg ((tG T) * 4 + 0) (nI a))))).set 8 (.inl (0, 24, .inl (upd (upd fg ((tG T) * 4 + 0) (nI a)) ((tG T) * 4 + 1) (nI b)))))
    refine r_aload_n (pc' := 42) dX5_addGoer_41 rfl rfl ?_
    refine r_get (pc' := 45) fX5_24 dX5_addGoer_42 rfl (gs_ne (gs_ne s0 (by decide)) (by decide)) rfl ?_
    refine r_iload (pc' := 47) dX5_addGoer_45 rfl rfl ?_
    refine r_iconst (pc' := 48) (v := nI 2) dX5_addGoer_47 rfl rfl ?_
    refine r_iadd (pc' := 49) (v := nI ((tG T) * 4 + 2)) dX5_addGoer_48 rfl (nI_add ((tG T) * 4) 2) ?_
    refine r_iload_n (pc' := 50) dX5_addGoer_49 rfl rfl ?_
    refine r_callS (pc' := 53) (av := [.ref 8, .int (nI ((tG T) * 4 + 2)), .int (nI c)]) (rest := []) kX3_put vX3_put lX5_68 dX5_addGoer_50 rfl rfl rfl ⟨by decide, by decide, by decide⟩ rfl rfl (Nat.le_of_ble_eq_true rfl) (ct_X3_put (gs_eq (gs_eq s5)) (by decide) (j := (tG T) * 4 + 2) (by omega) ?_)
    show Wp g yX5_addGoer cX5_addGoer 6 none 2 0 0 (px_MQ g Q 0 0) 0 0 53 [some (.ref 3), some (.int (nI a)), some (.int (nI b)), some (.int (nI c)), some (.int (nI d)), some (.int (nI ((tG T) * 4)))] [] (((w.set 8 (.inl (0, 24, .inl (upd fg ((tG T) * 4 + 0) (nI a))))).set 8 (.inl (0, 24, .inl (upd (upd fg ((tG T) * 4 + 0) (nI a)) ((tG T) * 4 + 1) (nI b))))).set 8 (.inl (0, 24, .inl (upd (upd (upd fg ((tG T) * 4 + 0) (nI a)) ((tG T) * 4 + 1) (nI b)) ((tG T) * 4 + 2) (nI c)))))
    refine r_aload_n (pc' := 54) dX5_addGoer_53 rfl rfl ?_
    refine r_get (pc' := 57) fX5_24 dX5_addGoer_54 rfl (gs_ne (gs_ne (gs_ne s0 (by decide)) (by decide)) (by decide)) rfl ?_
    refine r_iload (pc' := 59) dX5_addGoer_57 rfl rfl ?_
    refine r_iconst (pc' := 60) (v := nI 3) dX5_addGoer_59 rfl rfl ?_
    refine r_iadd (pc' := 61) (v := nI ((tG T) * 4 + 3)) dX5_addGoer_60 rfl (nI_add ((tG T) * 4) 3) ?_
    refine r_iload (pc' := 63) dX5_addGoer_61 rfl rfl ?_
    refine r_callS (pc' := 66) (av := [.ref 8, .int (nI ((tG T) * 4 + 3)), .int (nI d)]) (rest := []) kX3_put vX3_put lX5_68 dX5_addGoer_63 rfl rfl rfl ⟨by decide, by decide, by decide⟩ rfl rfl (Nat.le_of_ble_eq_true rfl) (ct_X3_put (gs_eq (gs_eq (gs_eq s5))) (by decide) (j := (tG T) * 4 + 3) (by omega) ?_)
    show Wp g yX5_addGoer cX5_addGoer 6 none 2 0 0 (px_MQ g Q 0 0) 0 0 66 [some (.ref 3), some (.int (nI a)), some (.int (nI b)), some (.int (nI c)), some (.int (nI d)), some (.int (nI ((tG T) * 4)))] [] ((((w.set 8 (.inl (0, 24, .inl (upd fg ((tG T) * 4 + 0) (nI a))))).set 8 (.inl (0, 24, .inl (upd (upd fg ((tG T) * 4 + 0) (nI a)) ((tG T) * 4 + 1) (nI b))))).set 8 (.inl (0, 24, .inl (upd (upd (upd fg ((tG T) * 4 + 0) (nI a)) ((tG T) * 4 + 1) (nI b)) ((tG T) * 4 + 2) (nI c))))).set 8 (.inl (0, 24, .inl (upd (upd (upd (upd fg ((tG T) * 4 + 0) (nI a)) ((tG T) * 4 + 1) (nI b)) ((tG T) * 4 + 2) (nI c)) ((tG T) * 4 + 3) (nI d)))))
    refine r_aload_n (pc' := 67) dX5_addGoer_66 rfl rfl ?_
    refine r_dup (pc' := 68) dX5_addGoer_67 rfl rfl ?_
    refine r_get (pc' := 71) fX5_34 dX5_addGoer_68 rfl (gs_ne (gs_ne (gs_ne (gs_ne s0 (by decide)) (by decide)) (by decide)) (by decide)) rfl ?_
    refine r_iconst (pc' := 72) (v := nI 1) dX5_addGoer_71 rfl rfl ?_
    refine r_iadd (pc' := 73) (v := nI (tG T + 1)) dX5_addGoer_72 rfl (nI_add (tG T) 1) ?_
    refine r_put (pc' := 76) (ty := .int) (c' := .inr (4, [.int (nI (tW T)), .int (nI (tD T)), .int (nI (tG T + 1)), .ref 4, .ref 5, .ref 6, .ref 7, .ref 8])) fX5_34 dX5_addGoer_73 rfl (gs_ne (gs_ne (gs_ne (gs_ne s0 (by decide)) (by decide)) (by decide)) (by decide)) (Nat.le_of_ble_eq_true rfl) rfl (by decide +kernel) rfl rfl rfl ?_
    refine r_return dX5_addGoer_76 rfl ?_
    exact hQ _ (hT.goer hG s5 (gs_eq (gs_ne (gs_ne (gs_ne (gs_ne s0 (by decide)) (by decide)) (by decide)) (by decide))) (by rw [gs_off (by decide)]; rw [gs_off (by decide)]; rw [gs_off (by decide)]; rw [gs_off (by decide)]; rw [gs_off (by decide)]) (by rw [gs_off (by decide)]; rw [gs_off (by decide)]; rw [gs_off (by decide)]; rw [gs_off (by decide)]; rw [gs_off (by decide)]) (by rw [gs_off (by decide)]; rw [gs_off (by decide)]; rw [gs_off (by decide)]; rw [gs_off (by decide)]; rw [gs_off (by decide)]) (by rw [gs_off (by decide)]; rw [gs_off (by decide)]; rw [gs_off (by decide)]; rw [gs_off (by decide)]; rw [gs_off (by decide)]) (gs_ne (gs_eq (gs_eq (gs_eq (gs_eq s5)))) (by decide))) (((((((Frm.rf (a := 3) (b := 9)).sets (k := 8) (by omega) (by omega)).sets (k := 8) (by omega) (by omega)).sets (k := 8) (by omega) (by omega)).sets (k := 8) (by omega) (by omega)).sets (k := 3) (by omega) (by omega)))
theorem ct_lenA {g : px_G} {w : px_W} {Q : px_Q} {T : px_T} {tx : Nat → Nat} {v s k : Nat} (hT : SubA w 3 (aW tx T v s k)) (hQ : Q (some (.int (nI k))) w) : Ct g yX5_longOfWord cX5_longOfWord 2 (some .int) 2 0 0 [.ref 3, .int (nI (tW T))] w Q := ct_X5_longOfWord hT (i := tW T) (Nat.lt_succ_self _) (by rw [show tl (aW tx T v s k) (tW T) = k from if_pos rfl]; exact hQ)
set_option maxHeartbeats 200000 in
theorem ct_X5_addLetter {g : px_G} {w : px_W} {Q : px_Q} {T : px_T} {tx : Nat → Nat} {v s k : Nat} (hT : SubA w 3 (aW tx T v s k)) (hW : tW T < 6) (hb : SubB T) (hk : k < 6) (hQ : ∀ w', SubA w' 3 (aW tx T v s (k + 1)) → Frm w w' 3 9 → Q none w') : Ct g yX5_addLetter cX5_addLetter 4 none 3 0 0 [.ref 3, .int (nI (tx (s + k) - 97))] w Q := by
  refine Ct.of kX5_addLetter (by omega) (lo := [some (.ref 3), some (.int (nI (tx (s + k) - 97))), none, none]) rfl (px_cat1 rfl) (Nat.le_of_ble_eq_true rfl) ?_
  obtain ⟨fl, fw, fs, fd, fg, s0, s1, s2, s3, s4, s5, sX⟩ := id hT
  refine r_aload_n (pc' := 1) dX5_addLetter_0 rfl rfl ?_
  refine r_get (pc' := 4) fX5_27 dX5_addLetter_1 rfl s0 rfl ?_
  refine r_iconst (pc' := 5) (v := nI 1) dX5_addLetter_4 rfl rfl ?_
  refine r_isub (pc' := 6) (v := nI (tW T)) dX5_addLetter_5 rfl (pk_sub (a := tW T + 1) (b := 1) (by omega)) ?_
  refine r_istore_n (pc' := 7) (lo' := [some (.ref 3), some (.int (nI (tx (s + k) - 97))), some (.int (nI (tW T))), none]) dX5_addLetter_6 rfl (by decide) rfl ?_
  refine r_aload_n (pc' := 8) dX5_addLetter_7 rfl rfl ?_
  refine r_iload_n (pc' := 9) dX5_addLetter_8 rfl rfl ?_
  refine r_callV (pc' := 12) (av := [.int (nI (tW T))]) (rest := []) kX5_longOfWord vX5_longOfWord lX5_55 dX5_addLetter_9 rfl s0 rfl rfl rfl ⟨by decide, by decide, by decide⟩ rfl rfl (Nat.le_of_ble_eq_true rfl) (ct_lenA hT ?_)
  show Wp g yX5_addLetter cX5_addLetter 4 none 3 0 0 (px_MQ g Q 0 0) 0 0 12 [some (.ref 3), some (.int (nI (tx (s + k) - 97))), some (.int (nI (tW T))), none] [.int (nI k)] w
  refine r_istore_n (pc' := 13) (lo' := [some (.ref 3), some (.int (nI (tx (s + k) - 97))), some (.int (nI (tW T))), some (.int (nI k))]) dX5_addLetter_12 rfl (by decide) rfl ?_
  refine r_iload_n (pc' := 14) dX5_addLetter_13 rfl rfl ?_
  refine r_if_lt (pc' := 17) (P := False) (tgt := 48) dX5_addLetter_14 (by decide) rfl (nI_lt0 (n := tW T) (by omega)) (fun h14 => ?_) (fun h14 => ?_)
  · skip
    exfalso; exact h14
  · skip
    refine r_iload_n (pc' := 18) dX5_addLetter_17 rfl rfl ?_
    refine r_bipush (pc' := 20) (v := nI 6) dX5_addLetter_18 rfl rfl ?_
    refine r_icmp_ge (pc' := 23) (P := 6 ≤ k) (tgt := 48) dX5_addLetter_20 (by decide) rfl (nI_leI (a := 6) (b := k) (by omega) (by omega)) (fun h20 => ?_) (fun h20 => ?_)
    · skip
      exfalso; omega
    · skip
      refine r_aload_n (pc' := 24) dX5_addLetter_23 rfl rfl ?_
      refine r_get (pc' := 27) fX5_9 dX5_addLetter_24 rfl s0 rfl ?_
      refine r_iload_n (pc' := 28) dX5_addLetter_27 rfl rfl ?_
      refine r_bipush (pc' := 30) (v := nI 6) dX5_addLetter_28 rfl rfl ?_
      refine r_imul (pc' := 31) (v := nI ((tW T) * 6)) dX5_addLetter_30 rfl (pk_mul (tW T) 6) ?_
      refine r_iload_n (pc' := 32) dX5_addLetter_31 rfl rfl ?_
      refine r_iadd (pc' := 33) (v := nI ((tW T) * 6 + k)) dX5_addLetter_32 rfl (nI_add ((tW T) * 6) k) ?_
      refine r_iload_n (pc' := 34) dX5_addLetter_33 rfl rfl ?_
      refine r_callS (pc' := 37) (av := [.ref 4, .int (nI ((tW T) * 6 + k)), .int (nI (tx (s + k) - 97))]) (rest := []) kX3_put vX3_put lX5_68 dX5_addLetter_34 rfl rfl rfl ⟨by decide, by decide, by decide⟩ rfl rfl (Nat.le_of_ble_eq_true rfl) (ct_X3_put s1 (by decide) (j := (tW T) * 6 + k) (by omega) ?_)
      show Wp g yX5_addLetter cX5_addLetter 4 none 3 0 0 (px_MQ g Q 0 0) 0 0 37 [some (.ref 3), some (.int (nI (tx (s + k) - 97))), some (.int (nI (tW T))), some (.int (nI k))] [] (w.set 4 (.inl (0, 36, .inl (upd fl ((tW T) * 6 + k) (nI (tx (s + k) - 97))))))
      refine r_aload_n (pc' := 38) dX5_addLetter_37 rfl rfl ?_
      refine r_get (pc' := 41) fX5_15 dX5_addLetter_38 rfl (gs_ne s0 (by decide)) rfl ?_
      refine r_iload_n (pc' := 42) dX5_addLetter_41 rfl rfl ?_
      refine r_iload_n (pc' := 43) dX5_addLetter_42 rfl rfl ?_
      refine r_iconst (pc' := 44) (v := nI 1) dX5_addLetter_43 rfl rfl ?_
      refine r_iadd (pc' := 45) (v := nI (k + 1)) dX5_addLetter_44 rfl (nI_add k 1) ?_
      refine r_callS (pc' := 48) (av := [.ref 5, .int (nI (tW T)), .int (nI (k + 1))]) (rest := []) kX3_put vX3_put lX5_68 dX5_addLetter_45 rfl rfl rfl ⟨by decide, by decide, by decide⟩ rfl rfl (Nat.le_of_ble_eq_true rfl) (ct_X3_put (gs_ne s2 (by decide)) (by decide) (j := tW T) (by omega) ?_)
      show Wp g yX5_addLetter cX5_addLetter 4 none 3 0 0 (px_MQ g Q 0 0) 0 0 48 [some (.ref 3), some (.int (nI (tx (s + k) - 97))), some (.int (nI (tW T))), some (.int (nI k))] [] ((w.set 4 (.inl (0, 36, .inl (upd fl ((tW T) * 6 + k) (nI (tx (s + k) - 97)))))).set 5 (.inl (0, 6, .inl (upd fw (tW T) (nI (k + 1))))))
      refine r_return dX5_addLetter_48 rfl ?_
      exact hQ _ (hT.lett hW hb hk s1 s2 (by rw [gs_off (by decide)]; rw [gs_off (by decide)]) (gs_ne (gs_eq s1) (by decide)) (gs_eq (gs_ne s2 (by decide))) (by rw [gs_off (by decide)]; rw [gs_off (by decide)]) (by rw [gs_off (by decide)]; rw [gs_off (by decide)]) (by rw [gs_off (by decide)]; rw [gs_off (by decide)])) ((((Frm.rf (a := 3) (b := 9)).sets (k := 4) (by omega) (by omega)).sets (k := 5) (by omega) (by omega)))
