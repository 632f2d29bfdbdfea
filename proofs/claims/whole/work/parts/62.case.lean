/-! the law, a case of its switch each -/
section LC
variable {g : px_G} {w : px_W} {Z : px_Z} {i : Nat}
set_option maxHeartbeats 400000 in
theorem law_type (hL : px_L g ≤ 2048) (hi : i + 4 ≤ px_L g) (hP : PS w) (K : ∀ w', PS w' → Wp g yL_law cL_law 4 (some .boolean) 33 76 1685 Z 76 1685 770 [some (.ref 1002), some (.ref 0), some (.ref 60), some (.int (nI i))] [] w') : Wp g yL_law cL_law 4 (some .boolean) 33 76 1685 Z 76 1685 140 [some (.ref 1002), some (.ref 0), some (.ref 60), some (.int (nI i))] [] w := by
  obtain ⟨T, M, U, I, n, tx, tr, hX, hM, hO⟩ := hP
  refine r_aload_n (pc' := 141) dL_law_140 rfl rfl ?_
  refine r_aload_n (pc' := 142) dL_law_141 rfl rfl ?_
  refine r_iload_n (pc' := 143) dL_law_142 rfl rfl ?_
  refine r_iconst (pc' := 144) (v := nI 1) dL_law_143 rfl rfl ?_
  refine r_iadd (pc' := 145) (v := nI (i + 1)) dL_law_144 rfl (nI_add i 1) ?_
  refine r_ialoadT (pc' := 146) (v := px_xs g (i + 1)) dL_law_145 rfl (by decide) rfl (vp_in_nI (n := i + 1) (by omega) (by omega)) (by rw [nI_cl (by omega)]) ?_
  obtain ⟨ik, h0, _⟩ := id hX
  refine r_callV (pc' := 149) (av := [.int ((px_xs g (i + 1)))]) (rest := []) kX6_type vX6_type lL_13 dL_law_146 rfl h0 rfl rfl rfl ⟨by decide, by decide, by decide⟩ rfl rfl (Nat.le_of_ble_eq_true rfl) (cx_type hX hO (fun w1 h1 hF1 => ?_))
  show Wp g yL_law cL_law 4 (some .boolean) 33 76 1685 Z 76 1685 149 [some (.ref 1002), some (.ref 0), some (.ref 60), some (.int (nI i))] [.int ((typeR n ((px_xs g (i + 1)))))] w1
  have hM := hM.fr hF1 (by omega)
  have hX := h1
  refine r_aload_n (pc' := 150) dL_law_149 rfl rfl ?_
  refine r_aload_n (pc' := 151) dL_law_150 rfl rfl ?_
  refine r_iload_n (pc' := 152) dL_law_151 rfl rfl ?_
  refine r_iconst (pc' := 153) (v := nI 1) dL_law_152 rfl rfl ?_
  refine r_iadd (pc' := 154) (v := nI (i + 1)) dL_law_153 rfl (nI_add i 1) ?_
  refine r_ialoadT (pc' := 155) (v := px_xs g (i + 1)) dL_law_154 rfl (by decide) rfl (vp_in_nI (n := i + 1) (by omega) (by omega)) (by rw [nI_cl (by omega)]) ?_
  obtain ⟨nx, tk, pl, va, fa, h0, _⟩ := id hM
  refine r_callV (pc' := 158) (av := [.int ((px_xs g (i + 1)))]) (rest := [.int ((typeR n ((px_xs g (i + 1)))))]) kX7_type vX7_type lL_17 dL_law_155 rfl h0 rfl rfl rfl ⟨by decide, by decide, by decide⟩ rfl rfl (Nat.le_of_ble_eq_true rfl) (ct_X7_type hM hO (fun w2 h2 hF2 => ?_))
  show Wp g yL_law cL_law 4 (some .boolean) 33 76 1685 Z 76 1685 158 [some (.ref 1002), some (.ref 0), some (.ref 60), some (.int (nI i))] [.int ((typeR n ((px_xs g (i + 1))))), .int ((typeR n ((px_xs g (i + 1)))))] w2
  have hX := hX.fr hF2 (by omega)
  refine r_icmp_eq (pc' := 161) (P := True) (tgt := 770) dL_law_158 (by decide) rfl (iff_true_intro rfl) (fun _ => ?_) (fun q => absurd trivial q)
  exact K _ ⟨_, _, _, _, _, _, _, hX, h2, hO⟩
set_option maxHeartbeats 400000 in
theorem law_clear (hL : px_L g ≤ 2048) (hi : i + 4 ≤ px_L g) (hP : PS w) (K : ∀ w', PS w' → Wp g yL_law cL_law 4 (some .boolean) 33 76 1685 Z 76 1685 770 [some (.ref 1002), some (.ref 0), some (.ref 60), some (.int (nI i))] [] w') : Wp g yL_law cL_law 4 (some .boolean) 33 76 1685 Z 76 1685 163 [some (.ref 1002), some (.ref 0), some (.ref 60), some (.int (nI i))] [] w := by
  obtain ⟨T, M, U, I, n, tx, tr, hX, hM, hO⟩ := hP
  refine r_aload_n (pc' := 164) dL_law_163 rfl rfl ?_
  obtain ⟨ik, h0, _⟩ := id hX
  refine r_callV (pc' := 167) (av := []) (rest := []) kX6_clear vX6_clear lL_18 dL_law_164 rfl h0 rfl rfl rfl ⟨by decide, by decide, by decide⟩ rfl rfl (Nat.le_of_ble_eq_true rfl) (cx_clear hX hO (fun w1 h1 hF1 => ?_))
  show Wp g yL_law cL_law 4 (some .boolean) 33 76 1685 Z 76 1685 167 [some (.ref 1002), some (.ref 0), some (.ref 60), some (.int (nI i))] [.int ((nI n))] w1
  have hM := hM.fr hF1 (by omega)
  have hX := h1
  refine r_aload_n (pc' := 168) dL_law_167 rfl rfl ?_
  obtain ⟨nx, tk, pl, va, fa, h0, _⟩ := id hM
  refine r_callV (pc' := 171) (av := []) (rest := [.int ((nI n))]) kX7_clear vX7_clear lL_22 dL_law_168 rfl h0 rfl rfl rfl ⟨by decide, by decide, by decide⟩ rfl rfl (Nat.le_of_ble_eq_true rfl) (ct_X7_clear hM hO (fun w2 h2 hF2 => ?_))
  show Wp g yL_law cL_law 4 (some .boolean) 33 76 1685 Z 76 1685 171 [some (.ref 1002), some (.ref 0), some (.ref 60), some (.int (nI i))] [.int ((nI n)), .int ((nI n))] w2
  have hX := hX.fr hF2 (by omega)
  refine r_icmp_eq (pc' := 174) (P := True) (tgt := 770) dL_law_171 (by decide) rfl (iff_true_intro rfl) (fun _ => ?_) (fun q => absurd trivial q)
  exact K _ ⟨_, _, _, _, _, _, _, hX, h2, hO⟩
set_option maxHeartbeats 400000 in
theorem law_suburb (hL : px_L g ≤ 2048) (hi : i + 4 ≤ px_L g) (hP : PS w) (K : ∀ w', PS w' → Wp g yL_law cL_law 4 (some .boolean) 33 76 1685 Z 76 1685 770 [some (.ref 1002), some (.ref 0), some (.ref 60), some (.int (nI i))] [] w') : Wp g yL_law cL_law 4 (some .boolean) 33 76 1685 Z 76 1685 176 [some (.ref 1002), some (.ref 0), some (.ref 60), some (.int (nI i))] [] w := by
  obtain ⟨T, M, U, I, n, tx, tr, hX, hM, hO⟩ := hP
  refine r_aload_n (pc' := 177) dL_law_176 rfl rfl ?_
  obtain ⟨ik, h0, _⟩ := id hX
  refine r_callV (pc' := 180) (av := []) (rest := []) kX6_suburb vX6_suburb lL_23 dL_law_177 rfl h0 rfl rfl rfl ⟨by decide, by decide, by decide⟩ rfl rfl (Nat.le_of_ble_eq_true rfl) (ct_X6_suburb hX (fun w1 T' m e1 e2 e3 h1 hF1 => ?_) (fun w1 m e1 e2 h1 hF1 => ?_))
  · show Wp g yL_law cL_law 4 (some .boolean) 33 76 1685 Z 76 1685 180 [some (.ref 1002), some (.ref 0), some (.ref 60), some (.int (nI i))] [.int (nI m)] w1
    have hM := hM.fr hF1 (by omega)
    obtain ⟨nx, tk, pl, va, fa, h0, _⟩ := id hM
    refine r_aload_n (pc' := 181) dL_law_180 rfl rfl ?_
    refine r_callV (pc' := 184) (av := []) (rest := [.int (nI m)]) kX7_suburb vX7_suburb lL_26 dL_law_181 rfl h0 rfl rfl rfl ⟨by decide, by decide, by decide⟩ rfl rfl (Nat.le_of_ble_eq_true rfl) (ct_X7_suburb hM (fun w2 T2 m2 a1 a2 h2 hF2 => ?_) (fun w2 m2 a1 a2 h2 hF2 => ?_))
    · show Wp g yL_law cL_law 4 (some .boolean) 33 76 1685 Z 76 1685 184 [some (.ref 1002), some (.ref 0), some (.ref 60), some (.int (nI i))] [.int (nI m2), .int (nI m)] w2
      obtain ⟨rfl, rfl⟩ : T' = T2 ∧ m = m2 := by have q := e1.symm.trans a1; simpa using q
      refine r_icmp_eq (pc' := 187) (P := True) (tgt := 770) dL_law_184 (by decide) rfl (iff_true_intro rfl) (fun _ => ?_) (fun q => absurd trivial q)
      exact K _ ⟨_, _, _, _, _, _, _, h1.fr hF2 (by omega), h2, e2⟩
    · exact absurd (e1.symm.trans a1) (by simp)
  · show Wp g yL_law cL_law 4 (some .boolean) 33 76 1685 Z 76 1685 180 [some (.ref 1002), some (.ref 0), some (.ref 60), some (.int (nI i))] [.int ((-10) - (nI m))] w1
    have hM := hM.fr hF1 (by omega)
    obtain ⟨nx, tk, pl, va, fa, h0, _⟩ := id hM
    refine r_aload_n (pc' := 181) dL_law_180 rfl rfl ?_
    refine r_callV (pc' := 184) (av := []) (rest := [.int ((-10) - (nI m))]) kX7_suburb vX7_suburb lL_26 dL_law_181 rfl h0 rfl rfl rfl ⟨by decide, by decide, by decide⟩ rfl rfl (Nat.le_of_ble_eq_true rfl) (ct_X7_suburb hM (fun w2 T2 m2 a1 a2 h2 hF2 => ?_) (fun w2 m2 a1 a2 h2 hF2 => ?_))
    · exact absurd (e1.symm.trans a1) (by simp)
    · show Wp g yL_law cL_law 4 (some .boolean) 33 76 1685 Z 76 1685 184 [some (.ref 1002), some (.ref 0), some (.ref 60), some (.int (nI i))] [.int ((-10) - (nI m2)), .int ((-10) - (nI m))] w2
      obtain rfl : m = m2 := by have q := e1.symm.trans a1; simpa using q
      refine r_icmp_eq (pc' := 187) (P := True) (tgt := 770) dL_law_184 (by decide) rfl (iff_true_intro rfl) (fun _ => ?_) (fun q => absurd trivial q)
      exact K _ ⟨_, _, _, _, _, _, _, h1.fr hF2 (by omega), h2, hO⟩
set_option maxHeartbeats 400000 in
theorem law_word (hL : px_L g ≤ 2048) (hi : i + 4 ≤ px_L g) (hP : PS w) (K : ∀ w', PS w' → Wp g yL_law cL_law 4 (some .boolean) 33 76 1685 Z 76 1685 770 [some (.ref 1002), some (.ref 0), some (.ref 60), some (.int (nI i))] [] w') : Wp g yL_law cL_law 4 (some .boolean) 33 76 1685 Z 76 1685 189 [some (.ref 1002), some (.ref 0), some (.ref 60), some (.int (nI i))] [] w := by
  obtain ⟨T, M, U, I, n, tx, tr, hX, hM, hO⟩ := hP
  refine r_aload_n (pc' := 190) dL_law_189 rfl rfl ?_
  refine r_aload_n (pc' := 191) dL_law_190 rfl rfl ?_
  refine r_iload_n (pc' := 192) dL_law_191 rfl rfl ?_
  refine r_iconst (pc' := 193) (v := nI 1) dL_law_192 rfl rfl ?_
  refine r_iadd (pc' := 194) (v := nI (i + 1)) dL_law_193 rfl (nI_add i 1) ?_
  refine r_ialoadT (pc' := 195) (v := px_xs g (i + 1)) dL_law_194 rfl (by decide) rfl (vp_in_nI (n := i + 1) (by omega) (by omega)) (by rw [nI_cl (by omega)]) ?_
  refine r_aload_n (pc' := 196) dL_law_195 rfl rfl ?_
  refine r_iload_n (pc' := 197) dL_law_196 rfl rfl ?_
  refine r_iconst (pc' := 198) (v := nI 2) dL_law_197 rfl rfl ?_
  refine r_iadd (pc' := 199) (v := nI (i + 2)) dL_law_198 rfl (nI_add i 2) ?_
  refine r_ialoadT (pc' := 200) (v := px_xs g (i + 2)) dL_law_199 rfl (by decide) rfl (vp_in_nI (n := i + 2) (by omega) (by omega)) (by rw [nI_cl (by omega)]) ?_
  obtain ⟨ik, h0, _⟩ := id hX
  refine r_callV (pc' := 203) (av := [.int ((px_xs g (i + 1))), .int ((px_xs g (i + 2)))]) (rest := []) kX6_word vX6_word lL_27 dL_law_200 rfl h0 rfl rfl rfl ⟨by decide, by decide, by decide⟩ rfl rfl (Nat.le_of_ble_eq_true rfl) (cx_word hX hO (fun w1 h1 hF1 => ?_))
  show Wp g yL_law cL_law 4 (some .boolean) 33 76 1685 Z 76 1685 203 [some (.ref 1002), some (.ref 0), some (.ref 60), some (.int (nI i))] [.int ((wordR T ((px_xs g (i + 1))) ((px_xs g (i + 2)))))] w1
  have hM := hM.fr hF1 (by omega)
  have hX := h1
  refine r_aload_n (pc' := 204) dL_law_203 rfl rfl ?_
  refine r_aload_n (pc' := 205) dL_law_204 rfl rfl ?_
  refine r_iload_n (pc' := 206) dL_law_205 rfl rfl ?_
  refine r_iconst (pc' := 207) (v := nI 1) dL_law_206 rfl rfl ?_
  refine r_iadd (pc' := 208) (v := nI (i + 1)) dL_law_207 rfl (nI_add i 1) ?_
  refine r_ialoadT (pc' := 209) (v := px_xs g (i + 1)) dL_law_208 rfl (by decide) rfl (vp_in_nI (n := i + 1) (by omega) (by omega)) (by rw [nI_cl (by omega)]) ?_
  refine r_aload_n (pc' := 210) dL_law_209 rfl rfl ?_
  refine r_iload_n (pc' := 211) dL_law_210 rfl rfl ?_
  refine r_iconst (pc' := 212) (v := nI 2) dL_law_211 rfl rfl ?_
  refine r_iadd (pc' := 213) (v := nI (i + 2)) dL_law_212 rfl (nI_add i 2) ?_
  refine r_ialoadT (pc' := 214) (v := px_xs g (i + 2)) dL_law_213 rfl (by decide) rfl (vp_in_nI (n := i + 2) (by omega) (by omega)) (by rw [nI_cl (by omega)]) ?_
  obtain ⟨nx, tk, pl, va, fa, h0, _⟩ := id hM
  refine r_callV (pc' := 217) (av := [.int ((px_xs g (i + 1))), .int ((px_xs g (i + 2)))]) (rest := [.int ((wordR T ((px_xs g (i + 1))) ((px_xs g (i + 2)))))]) kX7_word vX7_word lL_31 dL_law_214 rfl h0 rfl rfl rfl ⟨by decide, by decide, by decide⟩ rfl rfl (Nat.le_of_ble_eq_true rfl) (cm_word hM hO (fun w2 h2 hF2 => ?_))
  show Wp g yL_law cL_law 4 (some .boolean) 33 76 1685 Z 76 1685 217 [some (.ref 1002), some (.ref 0), some (.ref 60), some (.int (nI i))] [.int ((wordR T ((px_xs g (i + 1))) ((px_xs g (i + 2))))), .int ((wordR T ((px_xs g (i + 1))) ((px_xs g (i + 2)))))] w2
  have hX := hX.fr hF2 (by omega)
  refine r_icmp_eq (pc' := 220) (P := True) (tgt := 770) dL_law_217 (by decide) rfl (iff_true_intro rfl) (fun _ => ?_) (fun q => absurd trivial q)
  exact K _ ⟨_, _, _, _, _, _, _, hX, h2, hO⟩
set_option maxHeartbeats 400000 in
theorem law_letter (hL : px_L g ≤ 2048) (hi : i + 4 ≤ px_L g) (hP : PS w) (K : ∀ w', PS w' → Wp g yL_law cL_law 4 (some .boolean) 33 76 1685 Z 76 1685 770 [some (.ref 1002), some (.ref 0), some (.ref 60), some (.int (nI i))] [] w') : Wp g yL_law cL_law 4 (some .boolean) 33 76 1685 Z 76 1685 222 [some (.ref 1002), some (.ref 0), some (.ref 60), some (.int (nI i))] [] w := by
  obtain ⟨T, M, U, I, n, tx, tr, hX, hM, hO⟩ := hP
  refine r_aload_n (pc' := 223) dL_law_222 rfl rfl ?_
  refine r_aload_n (pc' := 224) dL_law_223 rfl rfl ?_
  refine r_iload_n (pc' := 225) dL_law_224 rfl rfl ?_
  refine r_iconst (pc' := 226) (v := nI 1) dL_law_225 rfl rfl ?_
  refine r_iadd (pc' := 227) (v := nI (i + 1)) dL_law_226 rfl (nI_add i 1) ?_
  refine r_ialoadT (pc' := 228) (v := px_xs g (i + 1)) dL_law_227 rfl (by decide) rfl (vp_in_nI (n := i + 1) (by omega) (by omega)) (by rw [nI_cl (by omega)]) ?_
  refine r_aload_n (pc' := 229) dL_law_228 rfl rfl ?_
  refine r_iload_n (pc' := 230) dL_law_229 rfl rfl ?_
  refine r_iconst (pc' := 231) (v := nI 2) dL_law_230 rfl rfl ?_
  refine r_iadd (pc' := 232) (v := nI (i + 2)) dL_law_231 rfl (nI_add i 2) ?_
  refine r_ialoadT (pc' := 233) (v := px_xs g (i + 2)) dL_law_232 rfl (by decide) rfl (vp_in_nI (n := i + 2) (by omega) (by omega)) (by rw [nI_cl (by omega)]) ?_
  obtain ⟨ik, h0, _⟩ := id hX
  refine r_callV (pc' := 236) (av := [.int ((px_xs g (i + 1))), .int ((px_xs g (i + 2)))]) (rest := []) kX6_letter vX6_letter lL_32 dL_law_233 rfl h0 rfl rfl rfl ⟨by decide, by decide, by decide⟩ rfl rfl (Nat.le_of_ble_eq_true rfl) (cx_letter hX hO (fun w1 h1 hF1 => ?_))
  show Wp g yL_law cL_law 4 (some .boolean) 33 76 1685 Z 76 1685 236 [some (.ref 1002), some (.ref 0), some (.ref 60), some (.int (nI i))] [.int ((letterR T ((px_xs g (i + 1))) ((px_xs g (i + 2)))))] w1
  have hM := hM.fr hF1 (by omega)
  have hX := h1
  refine r_aload_n (pc' := 237) dL_law_236 rfl rfl ?_
  refine r_aload_n (pc' := 238) dL_law_237 rfl rfl ?_
  refine r_iload_n (pc' := 239) dL_law_238 rfl rfl ?_
  refine r_iconst (pc' := 240) (v := nI 1) dL_law_239 rfl rfl ?_
  refine r_iadd (pc' := 241) (v := nI (i + 1)) dL_law_240 rfl (nI_add i 1) ?_
  refine r_ialoadT (pc' := 242) (v := px_xs g (i + 1)) dL_law_241 rfl (by decide) rfl (vp_in_nI (n := i + 1) (by omega) (by omega)) (by rw [nI_cl (by omega)]) ?_
  refine r_aload_n (pc' := 243) dL_law_242 rfl rfl ?_
  refine r_iload_n (pc' := 244) dL_law_243 rfl rfl ?_
  refine r_iconst (pc' := 245) (v := nI 2) dL_law_244 rfl rfl ?_
  refine r_iadd (pc' := 246) (v := nI (i + 2)) dL_law_245 rfl (nI_add i 2) ?_
  refine r_ialoadT (pc' := 247) (v := px_xs g (i + 2)) dL_law_246 rfl (by decide) rfl (vp_in_nI (n := i + 2) (by omega) (by omega)) (by rw [nI_cl (by omega)]) ?_
  obtain ⟨nx, tk, pl, va, fa, h0, _⟩ := id hM
  refine r_callV (pc' := 250) (av := [.int ((px_xs g (i + 1))), .int ((px_xs g (i + 2)))]) (rest := [.int ((letterR T ((px_xs g (i + 1))) ((px_xs g (i + 2)))))]) kX7_letter vX7_letter lL_35 dL_law_247 rfl h0 rfl rfl rfl ⟨by decide, by decide, by decide⟩ rfl rfl (Nat.le_of_ble_eq_true rfl) (cm_letter hM hO (fun w2 h2 hF2 => ?_))
  show Wp g yL_law cL_law 4 (some .boolean) 33 76 1685 Z 76 1685 250 [some (.ref 1002), some (.ref 0), some (.ref 60), some (.int (nI i))] [.int ((letterR T ((px_xs g (i + 1))) ((px_xs g (i + 2))))), .int ((letterR T ((px_xs g (i + 1))) ((px_xs g (i + 2)))))] w2
  have hX := hX.fr hF2 (by omega)
  refine r_icmp_eq (pc' := 253) (P := True) (tgt := 770) dL_law_250 (by decide) rfl (iff_true_intro rfl) (fun _ => ?_) (fun q => absurd trivial q)
  exact K _ ⟨_, _, _, _, _, _, _, hX, h2, hO⟩
set_option maxHeartbeats 400000 in
theorem law_drive (hL : px_L g ≤ 2048) (hi : i + 4 ≤ px_L g) (hP : PS w) (K : ∀ w', PS w' → Wp g yL_law cL_law 4 (some .boolean) 33 76 1685 Z 76 1685 770 [some (.ref 1002), some (.ref 0), some (.ref 60), some (.int (nI i))] [] w') : Wp g yL_law cL_law 4 (some .boolean) 33 76 1685 Z 76 1685 255 [some (.ref 1002), some (.ref 0), some (.ref 60), some (.int (nI i))] [] w := by
  obtain ⟨T, M, U, I, n, tx, tr, hX, hM, hO⟩ := hP
  refine r_aload_n (pc' := 256) dL_law_255 rfl rfl ?_
  refine r_aload_n (pc' := 257) dL_law_256 rfl rfl ?_
  refine r_iload_n (pc' := 258) dL_law_257 rfl rfl ?_
  refine r_iconst (pc' := 259) (v := nI 1) dL_law_258 rfl rfl ?_
  refine r_iadd (pc' := 260) (v := nI (i + 1)) dL_law_259 rfl (nI_add i 1) ?_
  refine r_ialoadT (pc' := 261) (v := px_xs g (i + 1)) dL_law_260 rfl (by decide) rfl (vp_in_nI (n := i + 1) (by omega) (by omega)) (by rw [nI_cl (by omega)]) ?_
  refine r_aload_n (pc' := 262) dL_law_261 rfl rfl ?_
  refine r_iload_n (pc' := 263) dL_law_262 rfl rfl ?_
  refine r_iconst (pc' := 264) (v := nI 2) dL_law_263 rfl rfl ?_
  refine r_iadd (pc' := 265) (v := nI (i + 2)) dL_law_264 rfl (nI_add i 2) ?_
  refine r_ialoadT (pc' := 266) (v := px_xs g (i + 2)) dL_law_265 rfl (by decide) rfl (vp_in_nI (n := i + 2) (by omega) (by omega)) (by rw [nI_cl (by omega)]) ?_
  obtain ⟨ik, h0, _⟩ := id hX
  refine r_callV (pc' := 269) (av := [.int ((px_xs g (i + 1))), .int ((px_xs g (i + 2)))]) (rest := []) kX6_drive vX6_drive lL_36 dL_law_266 rfl h0 rfl rfl rfl ⟨by decide, by decide, by decide⟩ rfl rfl (Nat.le_of_ble_eq_true rfl) (cx_drive hX hO (fun w1 h1 hF1 => ?_))
  show Wp g yL_law cL_law 4 (some .boolean) 33 76 1685 Z 76 1685 269 [some (.ref 1002), some (.ref 0), some (.ref 60), some (.int (nI i))] [.int ((driveR T M ((px_xs g (i + 1))) ((px_xs g (i + 2)))))] w1
  have hM := hM.fr hF1 (by omega)
  have hX := h1
  refine r_aload_n (pc' := 270) dL_law_269 rfl rfl ?_
  refine r_aload_n (pc' := 271) dL_law_270 rfl rfl ?_
  refine r_iload_n (pc' := 272) dL_law_271 rfl rfl ?_
  refine r_iconst (pc' := 273) (v := nI 1) dL_law_272 rfl rfl ?_
  refine r_iadd (pc' := 274) (v := nI (i + 1)) dL_law_273 rfl (nI_add i 1) ?_
  refine r_ialoadT (pc' := 275) (v := px_xs g (i + 1)) dL_law_274 rfl (by decide) rfl (vp_in_nI (n := i + 1) (by omega) (by omega)) (by rw [nI_cl (by omega)]) ?_
  refine r_aload_n (pc' := 276) dL_law_275 rfl rfl ?_
  refine r_iload_n (pc' := 277) dL_law_276 rfl rfl ?_
  refine r_iconst (pc' := 278) (v := nI 2) dL_law_277 rfl rfl ?_
  refine r_iadd (pc' := 279) (v := nI (i + 2)) dL_law_278 rfl (nI_add i 2) ?_
  refine r_ialoadT (pc' := 280) (v := px_xs g (i + 2)) dL_law_279 rfl (by decide) rfl (vp_in_nI (n := i + 2) (by omega) (by omega)) (by rw [nI_cl (by omega)]) ?_
  obtain ⟨nx, tk, pl, va, fa, h0, _⟩ := id hM
  refine r_callV (pc' := 283) (av := [.int ((px_xs g (i + 1))), .int ((px_xs g (i + 2)))]) (rest := [.int ((driveR T M ((px_xs g (i + 1))) ((px_xs g (i + 2)))))]) kX7_drive vX7_drive lL_39 dL_law_280 rfl h0 rfl rfl rfl ⟨by decide, by decide, by decide⟩ rfl rfl (Nat.le_of_ble_eq_true rfl) (ct_X7_drive hM hO (fun w2 h2 hF2 => ?_))
  show Wp g yL_law cL_law 4 (some .boolean) 33 76 1685 Z 76 1685 283 [some (.ref 1002), some (.ref 0), some (.ref 60), some (.int (nI i))] [.int ((driveR T M ((px_xs g (i + 1))) ((px_xs g (i + 2))))), .int ((driveR T M ((px_xs g (i + 1))) ((px_xs g (i + 2)))))] w2
  have hX := hX.fr hF2 (by omega)
  refine r_icmp_eq (pc' := 286) (P := True) (tgt := 770) dL_law_283 (by decide) rfl (iff_true_intro rfl) (fun _ => ?_) (fun q => absurd trivial q)
  exact K _ ⟨_, _, _, _, _, _, _, hX, h2, hO⟩
set_option maxHeartbeats 400000 in
theorem law_cell (hL : px_L g ≤ 2048) (hi : i + 4 ≤ px_L g) (hP : PS w) (K : ∀ w', PS w' → Wp g yL_law cL_law 4 (some .boolean) 33 76 1685 Z 76 1685 770 [some (.ref 1002), some (.ref 0), some (.ref 60), some (.int (nI i))] [] w') : Wp g yL_law cL_law 4 (some .boolean) 33 76 1685 Z 76 1685 288 [some (.ref 1002), some (.ref 0), some (.ref 60), some (.int (nI i))] [] w := by
  obtain ⟨T, M, U, I, n, tx, tr, hX, hM, hO⟩ := hP
  refine r_aload_n (pc' := 289) dL_law_288 rfl rfl ?_
  refine r_aload_n (pc' := 290) dL_law_289 rfl rfl ?_
  refine r_iload_n (pc' := 291) dL_law_290 rfl rfl ?_
  refine r_iconst (pc' := 292) (v := nI 1) dL_law_291 rfl rfl ?_
  refine r_iadd (pc' := 293) (v := nI (i + 1)) dL_law_292 rfl (nI_add i 1) ?_
  refine r_ialoadT (pc' := 294) (v := px_xs g (i + 1)) dL_law_293 rfl (by decide) rfl (vp_in_nI (n := i + 1) (by omega) (by omega)) (by rw [nI_cl (by omega)]) ?_
  refine r_aload_n (pc' := 295) dL_law_294 rfl rfl ?_
  refine r_iload_n (pc' := 296) dL_law_295 rfl rfl ?_
  refine r_iconst (pc' := 297) (v := nI 2) dL_law_296 rfl rfl ?_
  refine r_iadd (pc' := 298) (v := nI (i + 2)) dL_law_297 rfl (nI_add i 2) ?_
  refine r_ialoadT (pc' := 299) (v := px_xs g (i + 2)) dL_law_298 rfl (by decide) rfl (vp_in_nI (n := i + 2) (by omega) (by omega)) (by rw [nI_cl (by omega)]) ?_
  obtain ⟨ik, h0, _⟩ := id hX
  refine r_callV (pc' := 302) (av := [.int ((px_xs g (i + 1))), .int ((px_xs g (i + 2)))]) (rest := []) kX6_cell vX6_cell lL_40 dL_law_299 rfl h0 rfl rfl rfl ⟨by decide, by decide, by decide⟩ rfl rfl (Nat.le_of_ble_eq_true rfl) (cx_cell hX hO (fun w1 h1 hF1 => ?_))
  show Wp g yL_law cL_law 4 (some .boolean) 33 76 1685 Z 76 1685 302 [some (.ref 1002), some (.ref 0), some (.ref 60), some (.int (nI i))] [.int ((cellR T M ((px_xs g (i + 1))) ((px_xs g (i + 2)))))] w1
  have hM := hM.fr hF1 (by omega)
  have hX := h1
  refine r_aload_n (pc' := 303) dL_law_302 rfl rfl ?_
  refine r_aload_n (pc' := 304) dL_law_303 rfl rfl ?_
  refine r_iload_n (pc' := 305) dL_law_304 rfl rfl ?_
  refine r_iconst (pc' := 306) (v := nI 1) dL_law_305 rfl rfl ?_
  refine r_iadd (pc' := 307) (v := nI (i + 1)) dL_law_306 rfl (nI_add i 1) ?_
  refine r_ialoadT (pc' := 308) (v := px_xs g (i + 1)) dL_law_307 rfl (by decide) rfl (vp_in_nI (n := i + 1) (by omega) (by omega)) (by rw [nI_cl (by omega)]) ?_
  refine r_aload_n (pc' := 309) dL_law_308 rfl rfl ?_
  refine r_iload_n (pc' := 310) dL_law_309 rfl rfl ?_
  refine r_iconst (pc' := 311) (v := nI 2) dL_law_310 rfl rfl ?_
  refine r_iadd (pc' := 312) (v := nI (i + 2)) dL_law_311 rfl (nI_add i 2) ?_
  refine r_ialoadT (pc' := 313) (v := px_xs g (i + 2)) dL_law_312 rfl (by decide) rfl (vp_in_nI (n := i + 2) (by omega) (by omega)) (by rw [nI_cl (by omega)]) ?_
  obtain ⟨nx, tk, pl, va, fa, h0, _⟩ := id hM
  refine r_callV (pc' := 316) (av := [.int ((px_xs g (i + 1))), .int ((px_xs g (i + 2)))]) (rest := [.int ((cellR T M ((px_xs g (i + 1))) ((px_xs g (i + 2)))))]) kX7_cell vX7_cell lL_43 dL_law_313 rfl h0 rfl rfl rfl ⟨by decide, by decide, by decide⟩ rfl rfl (Nat.le_of_ble_eq_true rfl) (cm_cell hM hO (fun w2 h2 hF2 => ?_))
  show Wp g yL_law cL_law 4 (some .boolean) 33 76 1685 Z 76 1685 316 [some (.ref 1002), some (.ref 0), some (.ref 60), some (.int (nI i))] [.int ((cellR T M ((px_xs g (i + 1))) ((px_xs g (i + 2))))), .int ((cellR T M ((px_xs g (i + 1))) ((px_xs g (i + 2)))))] w2
  have hX := hX.fr hF2 (by omega)
  refine r_icmp_eq (pc' := 319) (P := True) (tgt := 770) dL_law_316 (by decide) rfl (iff_true_intro rfl) (fun _ => ?_) (fun q => absurd trivial q)
  exact K _ ⟨_, _, _, _, _, _, _, hX, h2, hO⟩
set_option maxHeartbeats 400000 in
theorem law_goer (hL : px_L g ≤ 2048) (hi : i + 4 ≤ px_L g) (hP : PS w) (K : ∀ w', PS w' → Wp g yL_law cL_law 4 (some .boolean) 33 76 1685 Z 76 1685 770 [some (.ref 1002), some (.ref 0), some (.ref 60), some (.int (nI i))] [] w') : Wp g yL_law cL_law 4 (some .boolean) 33 76 1685 Z 76 1685 321 [some (.ref 1002), some (.ref 0), some (.ref 60), some (.int (nI i))] [] w := by
  obtain ⟨T, M, U, I, n, tx, tr, hX, hM, hO⟩ := hP
  refine r_aload_n (pc' := 322) dL_law_321 rfl rfl ?_
  refine r_aload_n (pc' := 323) dL_law_322 rfl rfl ?_
  refine r_iload_n (pc' := 324) dL_law_323 rfl rfl ?_
  refine r_iconst (pc' := 325) (v := nI 1) dL_law_324 rfl rfl ?_
  refine r_iadd (pc' := 326) (v := nI (i + 1)) dL_law_325 rfl (nI_add i 1) ?_
  refine r_ialoadT (pc' := 327) (v := px_xs g (i + 1)) dL_law_326 rfl (by decide) rfl (vp_in_nI (n := i + 1) (by omega) (by omega)) (by rw [nI_cl (by omega)]) ?_
  refine r_aload_n (pc' := 328) dL_law_327 rfl rfl ?_
  refine r_iload_n (pc' := 329) dL_law_328 rfl rfl ?_
  refine r_iconst (pc' := 330) (v := nI 2) dL_law_329 rfl rfl ?_
  refine r_iadd (pc' := 331) (v := nI (i + 2)) dL_law_330 rfl (nI_add i 2) ?_
  refine r_ialoadT (pc' := 332) (v := px_xs g (i + 2)) dL_law_331 rfl (by decide) rfl (vp_in_nI (n := i + 2) (by omega) (by omega)) (by rw [nI_cl (by omega)]) ?_
  obtain ⟨ik, h0, _⟩ := id hX
  refine r_callV (pc' := 335) (av := [.int ((px_xs g (i + 1))), .int ((px_xs g (i + 2)))]) (rest := []) kX6_goer vX6_goer lL_44 dL_law_332 rfl h0 rfl rfl rfl ⟨by decide, by decide, by decide⟩ rfl rfl (Nat.le_of_ble_eq_true rfl) (cx_goer hX hO (fun w1 h1 hF1 => ?_))
  show Wp g yL_law cL_law 4 (some .boolean) 33 76 1685 Z 76 1685 335 [some (.ref 1002), some (.ref 0), some (.ref 60), some (.int (nI i))] [.int ((goerR T ((px_xs g (i + 1))) ((px_xs g (i + 2)))))] w1
  have hM := hM.fr hF1 (by omega)
  have hX := h1
  refine r_aload_n (pc' := 336) dL_law_335 rfl rfl ?_
  refine r_aload_n (pc' := 337) dL_law_336 rfl rfl ?_
  refine r_iload_n (pc' := 338) dL_law_337 rfl rfl ?_
  refine r_iconst (pc' := 339) (v := nI 1) dL_law_338 rfl rfl ?_
  refine r_iadd (pc' := 340) (v := nI (i + 1)) dL_law_339 rfl (nI_add i 1) ?_
  refine r_ialoadT (pc' := 341) (v := px_xs g (i + 1)) dL_law_340 rfl (by decide) rfl (vp_in_nI (n := i + 1) (by omega) (by omega)) (by rw [nI_cl (by omega)]) ?_
  refine r_aload_n (pc' := 342) dL_law_341 rfl rfl ?_
  refine r_iload_n (pc' := 343) dL_law_342 rfl rfl ?_
  refine r_iconst (pc' := 344) (v := nI 2) dL_law_343 rfl rfl ?_
  refine r_iadd (pc' := 345) (v := nI (i + 2)) dL_law_344 rfl (nI_add i 2) ?_
  refine r_ialoadT (pc' := 346) (v := px_xs g (i + 2)) dL_law_345 rfl (by decide) rfl (vp_in_nI (n := i + 2) (by omega) (by omega)) (by rw [nI_cl (by omega)]) ?_
  obtain ⟨nx, tk, pl, va, fa, h0, _⟩ := id hM
  refine r_callV (pc' := 349) (av := [.int ((px_xs g (i + 1))), .int ((px_xs g (i + 2)))]) (rest := [.int ((goerR T ((px_xs g (i + 1))) ((px_xs g (i + 2)))))]) kX7_goer vX7_goer lL_47 dL_law_346 rfl h0 rfl rfl rfl ⟨by decide, by decide, by decide⟩ rfl rfl (Nat.le_of_ble_eq_true rfl) (cm_goer hM hO (fun w2 h2 hF2 => ?_))
  show Wp g yL_law cL_law 4 (some .boolean) 33 76 1685 Z 76 1685 349 [some (.ref 1002), some (.ref 0), some (.ref 60), some (.int (nI i))] [.int ((goerR T ((px_xs g (i + 1))) ((px_xs g (i + 2))))), .int ((goerR T ((px_xs g (i + 1))) ((px_xs g (i + 2)))))] w2
  have hX := hX.fr hF2 (by omega)
  refine r_icmp_eq (pc' := 352) (P := True) (tgt := 770) dL_law_349 (by decide) rfl (iff_true_intro rfl) (fun _ => ?_) (fun q => absurd trivial q)
  exact K _ ⟨_, _, _, _, _, _, _, hX, h2, hO⟩
set_option maxHeartbeats 400000 in
theorem law_rakes (hL : px_L g ≤ 2048) (hi : i + 4 ≤ px_L g) (hP : PS w) (K : ∀ w', PS w' → Wp g yL_law cL_law 4 (some .boolean) 33 76 1685 Z 76 1685 770 [some (.ref 1002), some (.ref 0), some (.ref 60), some (.int (nI i))] [] w') : Wp g yL_law cL_law 4 (some .boolean) 33 76 1685 Z 76 1685 354 [some (.ref 1002), some (.ref 0), some (.ref 60), some (.int (nI i))] [] w := by
  obtain ⟨T, M, U, I, n, tx, tr, hX, hM, hO⟩ := hP
  refine r_aload_n (pc' := 355) dL_law_354 rfl rfl ?_
  refine r_aload_n (pc' := 356) dL_law_355 rfl rfl ?_
  refine r_iload_n (pc' := 357) dL_law_356 rfl rfl ?_
  refine r_iconst (pc' := 358) (v := nI 1) dL_law_357 rfl rfl ?_
  refine r_iadd (pc' := 359) (v := nI (i + 1)) dL_law_358 rfl (nI_add i 1) ?_
  refine r_ialoadT (pc' := 360) (v := px_xs g (i + 1)) dL_law_359 rfl (by decide) rfl (vp_in_nI (n := i + 1) (by omega) (by omega)) (by rw [nI_cl (by omega)]) ?_
  refine r_aload_n (pc' := 361) dL_law_360 rfl rfl ?_
  refine r_iload_n (pc' := 362) dL_law_361 rfl rfl ?_
  refine r_iconst (pc' := 363) (v := nI 2) dL_law_362 rfl rfl ?_
  refine r_iadd (pc' := 364) (v := nI (i + 2)) dL_law_363 rfl (nI_add i 2) ?_
  refine r_ialoadT (pc' := 365) (v := px_xs g (i + 2)) dL_law_364 rfl (by decide) rfl (vp_in_nI (n := i + 2) (by omega) (by omega)) (by rw [nI_cl (by omega)]) ?_
  obtain ⟨ik, h0, _⟩ := id hX
  refine r_callV (pc' := 368) (av := [.int ((px_xs g (i + 1))), .int ((px_xs g (i + 2)))]) (rest := []) kX6_rakes vX6_rakes lL_48 dL_law_365 rfl h0 rfl rfl rfl ⟨by decide, by decide, by decide⟩ rfl rfl (Nat.le_of_ble_eq_true rfl) (cx_rakes hX hO (fun w1 h1 hF1 => ?_))
  show Wp g yL_law cL_law 4 (some .boolean) 33 76 1685 Z 76 1685 368 [some (.ref 1002), some (.ref 0), some (.ref 60), some (.int (nI i))] [.int ((rakesR T ((px_xs g (i + 1))) ((px_xs g (i + 2)))))] w1
  have hM := hM.fr hF1 (by omega)
  have hX := h1
  refine r_aload_n (pc' := 369) dL_law_368 rfl rfl ?_
  refine r_aload_n (pc' := 370) dL_law_369 rfl rfl ?_
  refine r_iload_n (pc' := 371) dL_law_370 rfl rfl ?_
  refine r_iconst (pc' := 372) (v := nI 1) dL_law_371 rfl rfl ?_
  refine r_iadd (pc' := 373) (v := nI (i + 1)) dL_law_372 rfl (nI_add i 1) ?_
  refine r_ialoadT (pc' := 374) (v := px_xs g (i + 1)) dL_law_373 rfl (by decide) rfl (vp_in_nI (n := i + 1) (by omega) (by omega)) (by rw [nI_cl (by omega)]) ?_
  refine r_aload_n (pc' := 375) dL_law_374 rfl rfl ?_
  refine r_iload_n (pc' := 376) dL_law_375 rfl rfl ?_
  refine r_iconst (pc' := 377) (v := nI 2) dL_law_376 rfl rfl ?_
  refine r_iadd (pc' := 378) (v := nI (i + 2)) dL_law_377 rfl (nI_add i 2) ?_
  refine r_ialoadT (pc' := 379) (v := px_xs g (i + 2)) dL_law_378 rfl (by decide) rfl (vp_in_nI (n := i + 2) (by omega) (by omega)) (by rw [nI_cl (by omega)]) ?_
  obtain ⟨nx, tk, pl, va, fa, h0, _⟩ := id hM
  refine r_callV (pc' := 382) (av := [.int ((px_xs g (i + 1))), .int ((px_xs g (i + 2)))]) (rest := [.int ((rakesR T ((px_xs g (i + 1))) ((px_xs g (i + 2)))))]) kX7_rakes vX7_rakes lL_51 dL_law_379 rfl h0 rfl rfl rfl ⟨by decide, by decide, by decide⟩ rfl rfl (Nat.le_of_ble_eq_true rfl) (ct_X7_rakes hM hO (fun w2 h2 hF2 => ?_))
  show Wp g yL_law cL_law 4 (some .boolean) 33 76 1685 Z 76 1685 382 [some (.ref 1002), some (.ref 0), some (.ref 60), some (.int (nI i))] [.int ((rakesR T ((px_xs g (i + 1))) ((px_xs g (i + 2))))), .int ((rakesR T ((px_xs g (i + 1))) ((px_xs g (i + 2)))))] w2
  have hX := hX.fr hF2 (by omega)
  refine r_icmp_eq (pc' := 385) (P := True) (tgt := 770) dL_law_382 (by decide) rfl (iff_true_intro rfl) (fun _ => ?_) (fun q => absurd trivial q)
  exact K _ ⟨_, _, _, _, _, _, _, hX, h2, hO⟩
set_option maxHeartbeats 400000 in
theorem law_treads (hL : px_L g ≤ 2048) (hi : i + 4 ≤ px_L g) (hP : PS w) (K : ∀ w', PS w' → Wp g yL_law cL_law 4 (some .boolean) 33 76 1685 Z 76 1685 770 [some (.ref 1002), some (.ref 0), some (.ref 60), some (.int (nI i))] [] w') : Wp g yL_law cL_law 4 (some .boolean) 33 76 1685 Z 76 1685 387 [some (.ref 1002), some (.ref 0), some (.ref 60), some (.int (nI i))] [] w := by
  obtain ⟨T, M, U, I, n, tx, tr, hX, hM, hO⟩ := hP
  refine r_aload_n (pc' := 388) dL_law_387 rfl rfl ?_
  refine r_aload_n (pc' := 389) dL_law_388 rfl rfl ?_
  refine r_iload_n (pc' := 390) dL_law_389 rfl rfl ?_
  refine r_iconst (pc' := 391) (v := nI 1) dL_law_390 rfl rfl ?_
  refine r_iadd (pc' := 392) (v := nI (i + 1)) dL_law_391 rfl (nI_add i 1) ?_
  refine r_ialoadT (pc' := 393) (v := px_xs g (i + 1)) dL_law_392 rfl (by decide) rfl (vp_in_nI (n := i + 1) (by omega) (by omega)) (by rw [nI_cl (by omega)]) ?_
  refine r_aload_n (pc' := 394) dL_law_393 rfl rfl ?_
  refine r_iload_n (pc' := 395) dL_law_394 rfl rfl ?_
  refine r_iconst (pc' := 396) (v := nI 2) dL_law_395 rfl rfl ?_
  refine r_iadd (pc' := 397) (v := nI (i + 2)) dL_law_396 rfl (nI_add i 2) ?_
  refine r_ialoadT (pc' := 398) (v := px_xs g (i + 2)) dL_law_397 rfl (by decide) rfl (vp_in_nI (n := i + 2) (by omega) (by omega)) (by rw [nI_cl (by omega)]) ?_
  refine r_aload_n (pc' := 399) dL_law_398 rfl rfl ?_
  refine r_iload_n (pc' := 400) dL_law_399 rfl rfl ?_
  refine r_iconst (pc' := 401) (v := nI 3) dL_law_400 rfl rfl ?_
  refine r_iadd (pc' := 402) (v := nI (i + 3)) dL_law_401 rfl (nI_add i 3) ?_
  refine r_ialoadT (pc' := 403) (v := px_xs g (i + 3)) dL_law_402 rfl (by decide) rfl (vp_in_nI (n := i + 3) (by omega) (by omega)) (by rw [nI_cl (by omega)]) ?_
  obtain ⟨ik, h0, _⟩ := id hX
  refine r_callV (pc' := 406) (av := [.int ((px_xs g (i + 1))), .int ((px_xs g (i + 2))), .int ((px_xs g (i + 3)))]) (rest := []) kX6_treads vX6_treads lL_52 dL_law_403 rfl h0 rfl rfl rfl ⟨by decide, by decide, by decide⟩ rfl rfl (Nat.le_of_ble_eq_true rfl) (cx_treads hX hO (fun w1 h1 hF1 => ?_))
  show Wp g yL_law cL_law 4 (some .boolean) 33 76 1685 Z 76 1685 406 [some (.ref 1002), some (.ref 0), some (.ref 60), some (.int (nI i))] [.int ((treadsR T M ((px_xs g (i + 1))) ((px_xs g (i + 2))) ((px_xs g (i + 3)))))] w1
  have hM := hM.fr hF1 (by omega)
  have hX := h1
  refine r_aload_n (pc' := 407) dL_law_406 rfl rfl ?_
  refine r_aload_n (pc' := 408) dL_law_407 rfl rfl ?_
  refine r_iload_n (pc' := 409) dL_law_408 rfl rfl ?_
  refine r_iconst (pc' := 410) (v := nI 1) dL_law_409 rfl rfl ?_
  refine r_iadd (pc' := 411) (v := nI (i + 1)) dL_law_410 rfl (nI_add i 1) ?_
  refine r_ialoadT (pc' := 412) (v := px_xs g (i + 1)) dL_law_411 rfl (by decide) rfl (vp_in_nI (n := i + 1) (by omega) (by omega)) (by rw [nI_cl (by omega)]) ?_
  refine r_aload_n (pc' := 413) dL_law_412 rfl rfl ?_
  refine r_iload_n (pc' := 414) dL_law_413 rfl rfl ?_
  refine r_iconst (pc' := 415) (v := nI 2) dL_law_414 rfl rfl ?_
  refine r_iadd (pc' := 416) (v := nI (i + 2)) dL_law_415 rfl (nI_add i 2) ?_
  refine r_ialoadT (pc' := 417) (v := px_xs g (i + 2)) dL_law_416 rfl (by decide) rfl (vp_in_nI (n := i + 2) (by omega) (by omega)) (by rw [nI_cl (by omega)]) ?_
  refine r_aload_n (pc' := 418) dL_law_417 rfl rfl ?_
  refine r_iload_n (pc' := 419) dL_law_418 rfl rfl ?_
  refine r_iconst (pc' := 420) (v := nI 3) dL_law_419 rfl rfl ?_
  refine r_iadd (pc' := 421) (v := nI (i + 3)) dL_law_420 rfl (nI_add i 3) ?_
  refine r_ialoadT (pc' := 422) (v := px_xs g (i + 3)) dL_law_421 rfl (by decide) rfl (vp_in_nI (n := i + 3) (by omega) (by omega)) (by rw [nI_cl (by omega)]) ?_
  obtain ⟨nx, tk, pl, va, fa, h0, _⟩ := id hM
  refine r_callV (pc' := 425) (av := [.int ((px_xs g (i + 1))), .int ((px_xs g (i + 2))), .int ((px_xs g (i + 3)))]) (rest := [.int ((treadsR T M ((px_xs g (i + 1))) ((px_xs g (i + 2))) ((px_xs g (i + 3)))))]) kX7_treads vX7_treads lL_56 dL_law_422 rfl h0 rfl rfl rfl ⟨by decide, by decide, by decide⟩ rfl rfl (Nat.le_of_ble_eq_true rfl) (ct_X7_treads hM hO (fun w2 h2 hF2 => ?_))
  show Wp g yL_law cL_law 4 (some .boolean) 33 76 1685 Z 76 1685 425 [some (.ref 1002), some (.ref 0), some (.ref 60), some (.int (nI i))] [.int ((treadsR T M ((px_xs g (i + 1))) ((px_xs g (i + 2))) ((px_xs g (i + 3))))), .int ((treadsR T M ((px_xs g (i + 1))) ((px_xs g (i + 2))) ((px_xs g (i + 3)))))] w2
  have hX := hX.fr hF2 (by omega)
  refine r_icmp_eq (pc' := 428) (P := True) (tgt := 770) dL_law_425 (by decide) rfl (iff_true_intro rfl) (fun _ => ?_) (fun q => absurd trivial q)
  exact K _ ⟨_, _, _, _, _, _, _, hX, h2, hO⟩
set_option maxHeartbeats 400000 in
theorem law_cat (hL : px_L g ≤ 2048) (hi : i + 4 ≤ px_L g) (hP : PS w) (K : ∀ w', PS w' → Wp g yL_law cL_law 4 (some .boolean) 33 76 1685 Z 76 1685 770 [some (.ref 1002), some (.ref 0), some (.ref 60), some (.int (nI i))] [] w') : Wp g yL_law cL_law 4 (some .boolean) 33 76 1685 Z 76 1685 430 [some (.ref 1002), some (.ref 0), some (.ref 60), some (.int (nI i))] [] w := by
  obtain ⟨T, M, U, I, n, tx, tr, hX, hM, hO⟩ := hP
  refine r_aload_n (pc' := 431) dL_law_430 rfl rfl ?_
  refine r_aload_n (pc' := 432) dL_law_431 rfl rfl ?_
  refine r_iload_n (pc' := 433) dL_law_432 rfl rfl ?_
  refine r_iconst (pc' := 434) (v := nI 1) dL_law_433 rfl rfl ?_
  refine r_iadd (pc' := 435) (v := nI (i + 1)) dL_law_434 rfl (nI_add i 1) ?_
  refine r_ialoadT (pc' := 436) (v := px_xs g (i + 1)) dL_law_435 rfl (by decide) rfl (vp_in_nI (n := i + 1) (by omega) (by omega)) (by rw [nI_cl (by omega)]) ?_
  refine r_aload_n (pc' := 437) dL_law_436 rfl rfl ?_
  refine r_iload_n (pc' := 438) dL_law_437 rfl rfl ?_
  refine r_iconst (pc' := 439) (v := nI 2) dL_law_438 rfl rfl ?_
  refine r_iadd (pc' := 440) (v := nI (i + 2)) dL_law_439 rfl (nI_add i 2) ?_
  refine r_ialoadT (pc' := 441) (v := px_xs g (i + 2)) dL_law_440 rfl (by decide) rfl (vp_in_nI (n := i + 2) (by omega) (by omega)) (by rw [nI_cl (by omega)]) ?_
  obtain ⟨ik, h0, _⟩ := id hX
  refine r_callV (pc' := 444) (av := [.int ((px_xs g (i + 1))), .int ((px_xs g (i + 2)))]) (rest := []) kX6_cat vX6_cat lL_57 dL_law_441 rfl h0 rfl rfl rfl ⟨by decide, by decide, by decide⟩ rfl rfl (Nat.le_of_ble_eq_true rfl) (cx_cat hX hO (fun w1 h1 hF1 => ?_))
  show Wp g yL_law cL_law 4 (some .boolean) 33 76 1685 Z 76 1685 444 [some (.ref 1002), some (.ref 0), some (.ref 60), some (.int (nI i))] [.int ((catR T M ((px_xs g (i + 1))) ((px_xs g (i + 2)))))] w1
  have hM := hM.fr hF1 (by omega)
  have hX := h1
  refine r_aload_n (pc' := 445) dL_law_444 rfl rfl ?_
  refine r_aload_n (pc' := 446) dL_law_445 rfl rfl ?_
  refine r_iload_n (pc' := 447) dL_law_446 rfl rfl ?_
  refine r_iconst (pc' := 448) (v := nI 1) dL_law_447 rfl rfl ?_
  refine r_iadd (pc' := 449) (v := nI (i + 1)) dL_law_448 rfl (nI_add i 1) ?_
  refine r_ialoadT (pc' := 450) (v := px_xs g (i + 1)) dL_law_449 rfl (by decide) rfl (vp_in_nI (n := i + 1) (by omega) (by omega)) (by rw [nI_cl (by omega)]) ?_
  refine r_aload_n (pc' := 451) dL_law_450 rfl rfl ?_
  refine r_iload_n (pc' := 452) dL_law_451 rfl rfl ?_
  refine r_iconst (pc' := 453) (v := nI 2) dL_law_452 rfl rfl ?_
  refine r_iadd (pc' := 454) (v := nI (i + 2)) dL_law_453 rfl (nI_add i 2) ?_
  refine r_ialoadT (pc' := 455) (v := px_xs g (i + 2)) dL_law_454 rfl (by decide) rfl (vp_in_nI (n := i + 2) (by omega) (by omega)) (by rw [nI_cl (by omega)]) ?_
  obtain ⟨nx, tk, pl, va, fa, h0, _⟩ := id hM
  refine r_callV (pc' := 458) (av := [.int ((px_xs g (i + 1))), .int ((px_xs g (i + 2)))]) (rest := [.int ((catR T M ((px_xs g (i + 1))) ((px_xs g (i + 2)))))]) kX7_cat vX7_cat lL_60 dL_law_455 rfl h0 rfl rfl rfl ⟨by decide, by decide, by decide⟩ rfl rfl (Nat.le_of_ble_eq_true rfl) (ct_X7_cat hM hO (fun w2 h2 hF2 => ?_))
  show Wp g yL_law cL_law 4 (some .boolean) 33 76 1685 Z 76 1685 458 [some (.ref 1002), some (.ref 0), some (.ref 60), some (.int (nI i))] [.int ((catR T M ((px_xs g (i + 1))) ((px_xs g (i + 2))))), .int ((catR T M ((px_xs g (i + 1))) ((px_xs g (i + 2)))))] w2
  have hX := hX.fr hF2 (by omega)
  refine r_icmp_eq (pc' := 461) (P := True) (tgt := 770) dL_law_458 (by decide) rfl (iff_true_intro rfl) (fun _ => ?_) (fun q => absurd trivial q)
  exact K _ ⟨_, _, _, _, _, _, _, hX, h2, hO⟩
set_option maxHeartbeats 400000 in
theorem law_rains (hL : px_L g ≤ 2048) (hi : i + 4 ≤ px_L g) (hP : PS w) (K : ∀ w', PS w' → Wp g yL_law cL_law 4 (some .boolean) 33 76 1685 Z 76 1685 770 [some (.ref 1002), some (.ref 0), some (.ref 60), some (.int (nI i))] [] w') : Wp g yL_law cL_law 4 (some .boolean) 33 76 1685 Z 76 1685 463 [some (.ref 1002), some (.ref 0), some (.ref 60), some (.int (nI i))] [] w := by
  obtain ⟨T, M, U, I, n, tx, tr, hX, hM, hO⟩ := hP
  refine r_aload_n (pc' := 464) dL_law_463 rfl rfl ?_
  obtain ⟨ik, h0, _⟩ := id hX
  refine r_callV (pc' := 467) (av := []) (rest := []) kX6_rains vX6_rains lL_61 dL_law_464 rfl h0 rfl rfl rfl ⟨by decide, by decide, by decide⟩ rfl rfl (Nat.le_of_ble_eq_true rfl) (cx_rains hX hO (fun w1 h1 hF1 => ?_))
  show Wp g yL_law cL_law 4 (some .boolean) 33 76 1685 Z 76 1685 467 [some (.ref 1002), some (.ref 0), some (.ref 60), some (.int (nI i))] [.int ((nI (rainN M 32)))] w1
  have hM := hM.fr hF1 (by omega)
  have hX := h1
  refine r_aload_n (pc' := 468) dL_law_467 rfl rfl ?_
  obtain ⟨nx, tk, pl, va, fa, h0, _⟩ := id hM
  refine r_callV (pc' := 471) (av := []) (rest := [.int ((nI (rainN M 32)))]) kX7_rains vX7_rains lL_64 dL_law_468 rfl h0 rfl rfl rfl ⟨by decide, by decide, by decide⟩ rfl rfl (Nat.le_of_ble_eq_true rfl) (ct_X7_rains hM hO (fun w2 h2 hF2 => ?_))
  show Wp g yL_law cL_law 4 (some .boolean) 33 76 1685 Z 76 1685 471 [some (.ref 1002), some (.ref 0), some (.ref 60), some (.int (nI i))] [.int ((nI (rainN M 32))), .int ((nI (rainN M 32)))] w2
  have hX := hX.fr hF2 (by omega)
  refine r_icmp_eq (pc' := 474) (P := True) (tgt := 770) dL_law_471 (by decide) rfl (iff_true_intro rfl) (fun _ => ?_) (fun q => absurd trivial q)
  exact K _ ⟨_, _, _, _, _, _, _, hX, h2, hO⟩
set_option maxHeartbeats 400000 in
theorem law_hour (hL : px_L g ≤ 2048) (hi : i + 4 ≤ px_L g) (hP : PS w) (K : ∀ w', PS w' → Wp g yL_law cL_law 4 (some .boolean) 33 76 1685 Z 76 1685 770 [some (.ref 1002), some (.ref 0), some (.ref 60), some (.int (nI i))] [] w') : Wp g yL_law cL_law 4 (some .boolean) 33 76 1685 Z 76 1685 476 [some (.ref 1002), some (.ref 0), some (.ref 60), some (.int (nI i))] [] w := by
  obtain ⟨T, M, U, I, n, tx, tr, hX, hM, hO⟩ := hP
  refine r_aload_n (pc' := 477) dL_law_476 rfl rfl ?_
  obtain ⟨ik, h0, _⟩ := id hX
  refine r_callV (pc' := 480) (av := []) (rest := []) kX6_hour vX6_hour lL_65 dL_law_477 rfl h0 rfl rfl rfl ⟨by decide, by decide, by decide⟩ rfl rfl (Nat.le_of_ble_eq_true rfl) (cx_hour hX hO (fun w1 h1 hF1 => ?_))
  show Wp g yL_law cL_law 4 (some .boolean) 33 76 1685 Z 76 1685 480 [some (.ref 1002), some (.ref 0), some (.ref 60), some (.int (nI i))] [.int ((hourR T M))] w1
  have hM := hM.fr hF1 (by omega)
  have hX := h1
  refine r_aload_n (pc' := 481) dL_law_480 rfl rfl ?_
  obtain ⟨nx, tk, pl, va, fa, h0, _⟩ := id hM
  refine r_callV (pc' := 484) (av := []) (rest := [.int ((hourR T M))]) kX7_hour vX7_hour lL_68 dL_law_481 rfl h0 rfl rfl rfl ⟨by decide, by decide, by decide⟩ rfl rfl (Nat.le_of_ble_eq_true rfl) (ct_X7_hour hM hO (fun w2 h2 hF2 => ?_))
  show Wp g yL_law cL_law 4 (some .boolean) 33 76 1685 Z 76 1685 484 [some (.ref 1002), some (.ref 0), some (.ref 60), some (.int (nI i))] [.int ((hourR T M)), .int ((hourR T M))] w2
  have hX := hX.fr hF2 (by omega)
  refine r_icmp_eq (pc' := 487) (P := True) (tgt := 770) dL_law_484 (by decide) rfl (iff_true_intro rfl) (fun _ => ?_) (fun q => absurd trivial q)
  exact K _ ⟨_, _, _, _, _, _, _, hX, h2, hO⟩
set_option maxHeartbeats 400000 in
theorem law_undo (hL : px_L g ≤ 2048) (hi : i + 4 ≤ px_L g) (hP : PS w) (K : ∀ w', PS w' → Wp g yL_law cL_law 4 (some .boolean) 33 76 1685 Z 76 1685 770 [some (.ref 1002), some (.ref 0), some (.ref 60), some (.int (nI i))] [] w') : Wp g yL_law cL_law 4 (some .boolean) 33 76 1685 Z 76 1685 489 [some (.ref 1002), some (.ref 0), some (.ref 60), some (.int (nI i))] [] w := by
  obtain ⟨T, M, U, I, n, tx, tr, hX, hM, hO⟩ := hP
  refine r_aload_n (pc' := 490) dL_law_489 rfl rfl ?_
  obtain ⟨ik, h0, _⟩ := id hX
  refine r_callV (pc' := 493) (av := []) (rest := []) kX6_undo vX6_undo lL_69 dL_law_490 rfl h0 rfl rfl rfl ⟨by decide, by decide, by decide⟩ rfl rfl (Nat.le_of_ble_eq_true rfl) (cx_undo hX hO (fun w1 h1 hF1 => ?_))
  show Wp g yL_law cL_law 4 (some .boolean) 33 76 1685 Z 76 1685 493 [some (.ref 1002), some (.ref 0), some (.ref 60), some (.int (nI i))] [.int ((undoR U))] w1
  have hM := hM.fr hF1 (by omega)
  have hX := h1
  refine r_aload_n (pc' := 494) dL_law_493 rfl rfl ?_
  obtain ⟨nx, tk, pl, va, fa, h0, _⟩ := id hM
  refine r_callV (pc' := 497) (av := []) (rest := [.int ((undoR U))]) kX7_undo vX7_undo lL_72 dL_law_494 rfl h0 rfl rfl rfl ⟨by decide, by decide, by decide⟩ rfl rfl (Nat.le_of_ble_eq_true rfl) (ct_X7_undo hM hO (fun w2 h2 hF2 => ?_))
  show Wp g yL_law cL_law 4 (some .boolean) 33 76 1685 Z 76 1685 497 [some (.ref 1002), some (.ref 0), some (.ref 60), some (.int (nI i))] [.int ((undoR U)), .int ((undoR U))] w2
  have hX := hX.fr hF2 (by omega)
  refine r_icmp_eq (pc' := 500) (P := True) (tgt := 770) dL_law_497 (by decide) rfl (iff_true_intro rfl) (fun _ => ?_) (fun q => absurd trivial q)
  exact K _ ⟨_, _, _, _, _, _, _, hX, h2, hO⟩
set_option maxHeartbeats 400000 in
theorem law_likely (hL : px_L g ≤ 2048) (hi : i + 4 ≤ px_L g) (hP : PS w) (K : ∀ w', PS w' → Wp g yL_law cL_law 4 (some .boolean) 33 76 1685 Z 76 1685 770 [some (.ref 1002), some (.ref 0), some (.ref 60), some (.int (nI i))] [] w') : Wp g yL_law cL_law 4 (some .boolean) 33 76 1685 Z 76 1685 502 [some (.ref 1002), some (.ref 0), some (.ref 60), some (.int (nI i))] [] w := by
  obtain ⟨T, M, U, I, n, tx, tr, hX, hM, hO⟩ := hP
  refine r_aload_n (pc' := 503) dL_law_502 rfl rfl ?_
  refine r_aload_n (pc' := 504) dL_law_503 rfl rfl ?_
  refine r_iload_n (pc' := 505) dL_law_504 rfl rfl ?_
  refine r_iconst (pc' := 506) (v := nI 1) dL_law_505 rfl rfl ?_
  refine r_iadd (pc' := 507) (v := nI (i + 1)) dL_law_506 rfl (nI_add i 1) ?_
  refine r_ialoadT (pc' := 508) (v := px_xs g (i + 1)) dL_law_507 rfl (by decide) rfl (vp_in_nI (n := i + 1) (by omega) (by omega)) (by rw [nI_cl (by omega)]) ?_
  refine r_aload_n (pc' := 509) dL_law_508 rfl rfl ?_
  refine r_iload_n (pc' := 510) dL_law_509 rfl rfl ?_
  refine r_iconst (pc' := 511) (v := nI 2) dL_law_510 rfl rfl ?_
  refine r_iadd (pc' := 512) (v := nI (i + 2)) dL_law_511 rfl (nI_add i 2) ?_
  refine r_ialoadT (pc' := 513) (v := px_xs g (i + 2)) dL_law_512 rfl (by decide) rfl (vp_in_nI (n := i + 2) (by omega) (by omega)) (by rw [nI_cl (by omega)]) ?_
  refine r_aload_n (pc' := 514) dL_law_513 rfl rfl ?_
  refine r_iload_n (pc' := 515) dL_law_514 rfl rfl ?_
  refine r_iconst (pc' := 516) (v := nI 3) dL_law_515 rfl rfl ?_
  refine r_iadd (pc' := 517) (v := nI (i + 3)) dL_law_516 rfl (nI_add i 3) ?_
  refine r_ialoadT (pc' := 518) (v := px_xs g (i + 3)) dL_law_517 rfl (by decide) rfl (vp_in_nI (n := i + 3) (by omega) (by omega)) (by rw [nI_cl (by omega)]) ?_
  obtain ⟨ik, h0, _⟩ := id hX
  refine r_callV (pc' := 521) (av := [.int ((px_xs g (i + 1))), .int ((px_xs g (i + 2))), .int ((px_xs g (i + 3)))]) (rest := []) kX6_likely vX6_likely lL_73 dL_law_518 rfl h0 rfl rfl rfl ⟨by decide, by decide, by decide⟩ rfl rfl (Nat.le_of_ble_eq_true rfl) (cx_likely hX hO (fun w1 h1 hF1 => ?_))
  show Wp g yL_law cL_law 4 (some .boolean) 33 76 1685 Z 76 1685 521 [some (.ref 1002), some (.ref 0), some (.ref 60), some (.int (nI i))] [.int ((likelyR T M ((px_xs g (i + 1))) ((px_xs g (i + 2))) ((px_xs g (i + 3)))))] w1
  have hM := hM.fr hF1 (by omega)
  have hX := h1
  refine r_aload_n (pc' := 522) dL_law_521 rfl rfl ?_
  refine r_aload_n (pc' := 523) dL_law_522 rfl rfl ?_
  refine r_iload_n (pc' := 524) dL_law_523 rfl rfl ?_
  refine r_iconst (pc' := 525) (v := nI 1) dL_law_524 rfl rfl ?_
  refine r_iadd (pc' := 526) (v := nI (i + 1)) dL_law_525 rfl (nI_add i 1) ?_
  refine r_ialoadT (pc' := 527) (v := px_xs g (i + 1)) dL_law_526 rfl (by decide) rfl (vp_in_nI (n := i + 1) (by omega) (by omega)) (by rw [nI_cl (by omega)]) ?_
  refine r_aload_n (pc' := 528) dL_law_527 rfl rfl ?_
  refine r_iload_n (pc' := 529) dL_law_528 rfl rfl ?_
  refine r_iconst (pc' := 530) (v := nI 2) dL_law_529 rfl rfl ?_
  refine r_iadd (pc' := 531) (v := nI (i + 2)) dL_law_530 rfl (nI_add i 2) ?_
  refine r_ialoadT (pc' := 532) (v := px_xs g (i + 2)) dL_law_531 rfl (by decide) rfl (vp_in_nI (n := i + 2) (by omega) (by omega)) (by rw [nI_cl (by omega)]) ?_
  refine r_aload_n (pc' := 533) dL_law_532 rfl rfl ?_
  refine r_iload_n (pc' := 534) dL_law_533 rfl rfl ?_
  refine r_iconst (pc' := 535) (v := nI 3) dL_law_534 rfl rfl ?_
  refine r_iadd (pc' := 536) (v := nI (i + 3)) dL_law_535 rfl (nI_add i 3) ?_
  refine r_ialoadT (pc' := 537) (v := px_xs g (i + 3)) dL_law_536 rfl (by decide) rfl (vp_in_nI (n := i + 3) (by omega) (by omega)) (by rw [nI_cl (by omega)]) ?_
  obtain ⟨nx, tk, pl, va, fa, h0, _⟩ := id hM
  refine r_callV (pc' := 540) (av := [.int ((px_xs g (i + 1))), .int ((px_xs g (i + 2))), .int ((px_xs g (i + 3)))]) (rest := [.int ((likelyR T M ((px_xs g (i + 1))) ((px_xs g (i + 2))) ((px_xs g (i + 3)))))]) kX7_likely vX7_likely lL_76 dL_law_537 rfl h0 rfl rfl rfl ⟨by decide, by decide, by decide⟩ rfl rfl (Nat.le_of_ble_eq_true rfl) (cm_likely hM hO (fun w2 h2 hF2 => ?_))
  show Wp g yL_law cL_law 4 (some .boolean) 33 76 1685 Z 76 1685 540 [some (.ref 1002), some (.ref 0), some (.ref 60), some (.int (nI i))] [.int ((likelyR T M ((px_xs g (i + 1))) ((px_xs g (i + 2))) ((px_xs g (i + 3))))), .int ((likelyR T M ((px_xs g (i + 1))) ((px_xs g (i + 2))) ((px_xs g (i + 3)))))] w2
  have hX := hX.fr hF2 (by omega)
  refine r_icmp_eq (pc' := 543) (P := True) (tgt := 770) dL_law_540 (by decide) rfl (iff_true_intro rfl) (fun _ => ?_) (fun q => absurd trivial q)
  exact K _ ⟨_, _, _, _, _, _, _, hX, h2, hO⟩
set_option maxHeartbeats 400000 in
theorem law_spoil (hL : px_L g ≤ 2048) (hi : i + 4 ≤ px_L g) (hP : PS w) (K : ∀ w', PS w' → Wp g yL_law cL_law 4 (some .boolean) 33 76 1685 Z 76 1685 770 [some (.ref 1002), some (.ref 0), some (.ref 60), some (.int (nI i))] [] w') : Wp g yL_law cL_law 4 (some .boolean) 33 76 1685 Z 76 1685 545 [some (.ref 1002), some (.ref 0), some (.ref 60), some (.int (nI i))] [] w := by
  obtain ⟨T, M, U, I, n, tx, tr, hX, hM, hO⟩ := hP
  refine r_aload_n (pc' := 546) dL_law_545 rfl rfl ?_
  refine r_aload_n (pc' := 547) dL_law_546 rfl rfl ?_
  refine r_iload_n (pc' := 548) dL_law_547 rfl rfl ?_
  refine r_iconst (pc' := 549) (v := nI 1) dL_law_548 rfl rfl ?_
  refine r_iadd (pc' := 550) (v := nI (i + 1)) dL_law_549 rfl (nI_add i 1) ?_
  refine r_ialoadT (pc' := 551) (v := px_xs g (i + 1)) dL_law_550 rfl (by decide) rfl (vp_in_nI (n := i + 1) (by omega) (by omega)) (by rw [nI_cl (by omega)]) ?_
  refine r_aload_n (pc' := 552) dL_law_551 rfl rfl ?_
  refine r_iload_n (pc' := 553) dL_law_552 rfl rfl ?_
  refine r_iconst (pc' := 554) (v := nI 2) dL_law_553 rfl rfl ?_
  refine r_iadd (pc' := 555) (v := nI (i + 2)) dL_law_554 rfl (nI_add i 2) ?_
  refine r_ialoadT (pc' := 556) (v := px_xs g (i + 2)) dL_law_555 rfl (by decide) rfl (vp_in_nI (n := i + 2) (by omega) (by omega)) (by rw [nI_cl (by omega)]) ?_
  refine r_aload_n (pc' := 557) dL_law_556 rfl rfl ?_
  refine r_iload_n (pc' := 558) dL_law_557 rfl rfl ?_
  refine r_iconst (pc' := 559) (v := nI 3) dL_law_558 rfl rfl ?_
  refine r_iadd (pc' := 560) (v := nI (i + 3)) dL_law_559 rfl (nI_add i 3) ?_
  refine r_ialoadT (pc' := 561) (v := px_xs g (i + 3)) dL_law_560 rfl (by decide) rfl (vp_in_nI (n := i + 3) (by omega) (by omega)) (by rw [nI_cl (by omega)]) ?_
  obtain ⟨ik, h0, _⟩ := id hX
  refine r_callV (pc' := 564) (av := [.int ((px_xs g (i + 1))), .int ((px_xs g (i + 2))), .int ((px_xs g (i + 3)))]) (rest := []) kX6_spoil vX6_spoil lL_77 dL_law_561 rfl h0 rfl rfl rfl ⟨by decide, by decide, by decide⟩ rfl rfl (Nat.le_of_ble_eq_true rfl) (cx_spoil hX hO (fun w1 h1 hF1 => ?_))
  show Wp g yL_law cL_law 4 (some .boolean) 33 76 1685 Z 76 1685 564 [some (.ref 1002), some (.ref 0), some (.ref 60), some (.int (nI i))] [.int ((spoilR T M ((px_xs g (i + 1))) ((px_xs g (i + 2))) ((px_xs g (i + 3)))))] w1
  have hM := hM.fr hF1 (by omega)
  have hX := h1
  refine r_aload_n (pc' := 565) dL_law_564 rfl rfl ?_
  refine r_aload_n (pc' := 566) dL_law_565 rfl rfl ?_
  refine r_iload_n (pc' := 567) dL_law_566 rfl rfl ?_
  refine r_iconst (pc' := 568) (v := nI 1) dL_law_567 rfl rfl ?_
  refine r_iadd (pc' := 569) (v := nI (i + 1)) dL_law_568 rfl (nI_add i 1) ?_
  refine r_ialoadT (pc' := 570) (v := px_xs g (i + 1)) dL_law_569 rfl (by decide) rfl (vp_in_nI (n := i + 1) (by omega) (by omega)) (by rw [nI_cl (by omega)]) ?_
  refine r_aload_n (pc' := 571) dL_law_570 rfl rfl ?_
  refine r_iload_n (pc' := 572) dL_law_571 rfl rfl ?_
  refine r_iconst (pc' := 573) (v := nI 2) dL_law_572 rfl rfl ?_
  refine r_iadd (pc' := 574) (v := nI (i + 2)) dL_law_573 rfl (nI_add i 2) ?_
  refine r_ialoadT (pc' := 575) (v := px_xs g (i + 2)) dL_law_574 rfl (by decide) rfl (vp_in_nI (n := i + 2) (by omega) (by omega)) (by rw [nI_cl (by omega)]) ?_
  refine r_aload_n (pc' := 576) dL_law_575 rfl rfl ?_
  refine r_iload_n (pc' := 577) dL_law_576 rfl rfl ?_
  refine r_iconst (pc' := 578) (v := nI 3) dL_law_577 rfl rfl ?_
  refine r_iadd (pc' := 579) (v := nI (i + 3)) dL_law_578 rfl (nI_add i 3) ?_
  refine r_ialoadT (pc' := 580) (v := px_xs g (i + 3)) dL_law_579 rfl (by decide) rfl (vp_in_nI (n := i + 3) (by omega) (by omega)) (by rw [nI_cl (by omega)]) ?_
  obtain ⟨nx, tk, pl, va, fa, h0, _⟩ := id hM
  refine r_callV (pc' := 583) (av := [.int ((px_xs g (i + 1))), .int ((px_xs g (i + 2))), .int ((px_xs g (i + 3)))]) (rest := [.int ((spoilR T M ((px_xs g (i + 1))) ((px_xs g (i + 2))) ((px_xs g (i + 3)))))]) kX7_spoil vX7_spoil lL_80 dL_law_580 rfl h0 rfl rfl rfl ⟨by decide, by decide, by decide⟩ rfl rfl (Nat.le_of_ble_eq_true rfl) (cm_spoil hM hO (fun w2 h2 hF2 => ?_))
  show Wp g yL_law cL_law 4 (some .boolean) 33 76 1685 Z 76 1685 583 [some (.ref 1002), some (.ref 0), some (.ref 60), some (.int (nI i))] [.int ((spoilR T M ((px_xs g (i + 1))) ((px_xs g (i + 2))) ((px_xs g (i + 3))))), .int ((spoilR T M ((px_xs g (i + 1))) ((px_xs g (i + 2))) ((px_xs g (i + 3)))))] w2
  have hX := hX.fr hF2 (by omega)
  refine r_icmp_eq (pc' := 586) (P := True) (tgt := 770) dL_law_583 (by decide) rfl (iff_true_intro rfl) (fun _ => ?_) (fun q => absurd trivial q)
  exact K _ ⟨_, _, _, _, _, _, _, hX, h2, hO⟩
set_option maxHeartbeats 400000 in
theorem law_round (hL : px_L g ≤ 2048) (hi : i + 4 ≤ px_L g) (hP : PS w) (K : ∀ w', PS w' → Wp g yL_law cL_law 4 (some .boolean) 33 76 1685 Z 76 1685 770 [some (.ref 1002), some (.ref 0), some (.ref 60), some (.int (nI i))] [] w') : Wp g yL_law cL_law 4 (some .boolean) 33 76 1685 Z 76 1685 588 [some (.ref 1002), some (.ref 0), some (.ref 60), some (.int (nI i))] [] w := by
  obtain ⟨T, M, U, I, n, tx, tr, hX, hM, hO⟩ := hP
  refine r_aload_n (pc' := 589) dL_law_588 rfl rfl ?_
  refine r_aload_n (pc' := 590) dL_law_589 rfl rfl ?_
  refine r_iload_n (pc' := 591) dL_law_590 rfl rfl ?_
  refine r_iconst (pc' := 592) (v := nI 1) dL_law_591 rfl rfl ?_
  refine r_iadd (pc' := 593) (v := nI (i + 1)) dL_law_592 rfl (nI_add i 1) ?_
  refine r_ialoadT (pc' := 594) (v := px_xs g (i + 1)) dL_law_593 rfl (by decide) rfl (vp_in_nI (n := i + 1) (by omega) (by omega)) (by rw [nI_cl (by omega)]) ?_
  obtain ⟨ik, h0, _⟩ := id hX
  refine r_callV (pc' := 597) (av := [.int ((px_xs g (i + 1)))]) (rest := []) kX6_round vX6_round lL_81 dL_law_594 rfl h0 rfl rfl rfl ⟨by decide, by decide, by decide⟩ rfl rfl (Nat.le_of_ble_eq_true rfl) (cx_round hX hO (fun w1 h1 hF1 => ?_))
  show Wp g yL_law cL_law 4 (some .boolean) 33 76 1685 Z 76 1685 597 [some (.ref 1002), some (.ref 0), some (.ref 60), some (.int (nI i))] [.int ((roundR T M ((px_xs g (i + 1)))))] w1
  have hM := hM.fr hF1 (by omega)
  have hX := h1
  refine r_aload_n (pc' := 598) dL_law_597 rfl rfl ?_
  refine r_aload_n (pc' := 599) dL_law_598 rfl rfl ?_
  refine r_iload_n (pc' := 600) dL_law_599 rfl rfl ?_
  refine r_iconst (pc' := 601) (v := nI 1) dL_law_600 rfl rfl ?_
  refine r_iadd (pc' := 602) (v := nI (i + 1)) dL_law_601 rfl (nI_add i 1) ?_
  refine r_ialoadT (pc' := 603) (v := px_xs g (i + 1)) dL_law_602 rfl (by decide) rfl (vp_in_nI (n := i + 1) (by omega) (by omega)) (by rw [nI_cl (by omega)]) ?_
  obtain ⟨nx, tk, pl, va, fa, h0, _⟩ := id hM
  refine r_callV (pc' := 606) (av := [.int ((px_xs g (i + 1)))]) (rest := [.int ((roundR T M ((px_xs g (i + 1)))))]) kX7_round vX7_round lL_84 dL_law_603 rfl h0 rfl rfl rfl ⟨by decide, by decide, by decide⟩ rfl rfl (Nat.le_of_ble_eq_true rfl) (cm_round hM hO (fun w2 h2 hF2 => ?_))
  show Wp g yL_law cL_law 4 (some .boolean) 33 76 1685 Z 76 1685 606 [some (.ref 1002), some (.ref 0), some (.ref 60), some (.int (nI i))] [.int ((roundR T M ((px_xs g (i + 1))))), .int ((roundR T M ((px_xs g (i + 1)))))] w2
  have hX := hX.fr hF2 (by omega)
  refine r_icmp_eq (pc' := 609) (P := True) (tgt := 770) dL_law_606 (by decide) rfl (iff_true_intro rfl) (fun _ => ?_) (fun q => absurd trivial q)
  exact K _ ⟨_, _, _, _, _, _, _, hX, h2, hO⟩
set_option maxHeartbeats 400000 in
theorem law_odds (hL : px_L g ≤ 2048) (hi : i + 4 ≤ px_L g) (hP : PS w) (K : ∀ w', PS w' → Wp g yL_law cL_law 4 (some .boolean) 33 76 1685 Z 76 1685 770 [some (.ref 1002), some (.ref 0), some (.ref 60), some (.int (nI i))] [] w') : Wp g yL_law cL_law 4 (some .boolean) 33 76 1685 Z 76 1685 611 [some (.ref 1002), some (.ref 0), some (.ref 60), some (.int (nI i))] [] w := by
  obtain ⟨T, M, U, I, n, tx, tr, hX, hM, hO⟩ := hP
  refine r_aload_n (pc' := 612) dL_law_611 rfl rfl ?_
  refine r_aload_n (pc' := 613) dL_law_612 rfl rfl ?_
  refine r_iload_n (pc' := 614) dL_law_613 rfl rfl ?_
  refine r_iconst (pc' := 615) (v := nI 1) dL_law_614 rfl rfl ?_
  refine r_iadd (pc' := 616) (v := nI (i + 1)) dL_law_615 rfl (nI_add i 1) ?_
  refine r_ialoadT (pc' := 617) (v := px_xs g (i + 1)) dL_law_616 rfl (by decide) rfl (vp_in_nI (n := i + 1) (by omega) (by omega)) (by rw [nI_cl (by omega)]) ?_
  refine r_aload_n (pc' := 618) dL_law_617 rfl rfl ?_
  refine r_iload_n (pc' := 619) dL_law_618 rfl rfl ?_
  refine r_iconst (pc' := 620) (v := nI 2) dL_law_619 rfl rfl ?_
  refine r_iadd (pc' := 621) (v := nI (i + 2)) dL_law_620 rfl (nI_add i 2) ?_
  refine r_ialoadT (pc' := 622) (v := px_xs g (i + 2)) dL_law_621 rfl (by decide) rfl (vp_in_nI (n := i + 2) (by omega) (by omega)) (by rw [nI_cl (by omega)]) ?_
  refine r_aload_n (pc' := 623) dL_law_622 rfl rfl ?_
  refine r_iload_n (pc' := 624) dL_law_623 rfl rfl ?_
  refine r_iconst (pc' := 625) (v := nI 3) dL_law_624 rfl rfl ?_
  refine r_iadd (pc' := 626) (v := nI (i + 3)) dL_law_625 rfl (nI_add i 3) ?_
  refine r_ialoadT (pc' := 627) (v := px_xs g (i + 3)) dL_law_626 rfl (by decide) rfl (vp_in_nI (n := i + 3) (by omega) (by omega)) (by rw [nI_cl (by omega)]) ?_
  obtain ⟨ik, h0, _⟩ := id hX
  refine r_callV (pc' := 630) (av := [.int ((px_xs g (i + 1))), .int ((px_xs g (i + 2))), .int ((px_xs g (i + 3)))]) (rest := []) kX6_odds vX6_odds lL_85 dL_law_627 rfl h0 rfl rfl rfl ⟨by decide, by decide, by decide⟩ rfl rfl (Nat.le_of_ble_eq_true rfl) (cx_odds hX hO (fun w1 h1 hF1 => ?_))
  show Wp g yL_law cL_law 4 (some .boolean) 33 76 1685 Z 76 1685 630 [some (.ref 1002), some (.ref 0), some (.ref 60), some (.int (nI i))] [.int ((oddsR T M ((px_xs g (i + 1))) ((px_xs g (i + 2))) ((px_xs g (i + 3)))))] w1
  have hM := hM.fr hF1 (by omega)
  have hX := h1
  refine r_aload_n (pc' := 631) dL_law_630 rfl rfl ?_
  refine r_aload_n (pc' := 632) dL_law_631 rfl rfl ?_
  refine r_iload_n (pc' := 633) dL_law_632 rfl rfl ?_
  refine r_iconst (pc' := 634) (v := nI 1) dL_law_633 rfl rfl ?_
  refine r_iadd (pc' := 635) (v := nI (i + 1)) dL_law_634 rfl (nI_add i 1) ?_
  refine r_ialoadT (pc' := 636) (v := px_xs g (i + 1)) dL_law_635 rfl (by decide) rfl (vp_in_nI (n := i + 1) (by omega) (by omega)) (by rw [nI_cl (by omega)]) ?_
  refine r_aload_n (pc' := 637) dL_law_636 rfl rfl ?_
  refine r_iload_n (pc' := 638) dL_law_637 rfl rfl ?_
  refine r_iconst (pc' := 639) (v := nI 2) dL_law_638 rfl rfl ?_
  refine r_iadd (pc' := 640) (v := nI (i + 2)) dL_law_639 rfl (nI_add i 2) ?_
  refine r_ialoadT (pc' := 641) (v := px_xs g (i + 2)) dL_law_640 rfl (by decide) rfl (vp_in_nI (n := i + 2) (by omega) (by omega)) (by rw [nI_cl (by omega)]) ?_
  refine r_aload_n (pc' := 642) dL_law_641 rfl rfl ?_
  refine r_iload_n (pc' := 643) dL_law_642 rfl rfl ?_
  refine r_iconst (pc' := 644) (v := nI 3) dL_law_643 rfl rfl ?_
  refine r_iadd (pc' := 645) (v := nI (i + 3)) dL_law_644 rfl (nI_add i 3) ?_
  refine r_ialoadT (pc' := 646) (v := px_xs g (i + 3)) dL_law_645 rfl (by decide) rfl (vp_in_nI (n := i + 3) (by omega) (by omega)) (by rw [nI_cl (by omega)]) ?_
  obtain ⟨nx, tk, pl, va, fa, h0, _⟩ := id hM
  refine r_callV (pc' := 649) (av := [.int ((px_xs g (i + 1))), .int ((px_xs g (i + 2))), .int ((px_xs g (i + 3)))]) (rest := [.int ((oddsR T M ((px_xs g (i + 1))) ((px_xs g (i + 2))) ((px_xs g (i + 3)))))]) kX7_odds vX7_odds lL_88 dL_law_646 rfl h0 rfl rfl rfl ⟨by decide, by decide, by decide⟩ rfl rfl (Nat.le_of_ble_eq_true rfl) (cm_odds hM hO (fun w2 h2 hF2 => ?_))
  show Wp g yL_law cL_law 4 (some .boolean) 33 76 1685 Z 76 1685 649 [some (.ref 1002), some (.ref 0), some (.ref 60), some (.int (nI i))] [.int ((oddsR T M ((px_xs g (i + 1))) ((px_xs g (i + 2))) ((px_xs g (i + 3))))), .int ((oddsR T M ((px_xs g (i + 1))) ((px_xs g (i + 2))) ((px_xs g (i + 3)))))] w2
  have hX := hX.fr hF2 (by omega)
  refine r_icmp_eq (pc' := 652) (P := True) (tgt := 770) dL_law_649 (by decide) rfl (iff_true_intro rfl) (fun _ => ?_) (fun q => absurd trivial q)
  exact K _ ⟨_, _, _, _, _, _, _, hX, h2, hO⟩
set_option maxHeartbeats 400000 in
theorem law_rate (hL : px_L g ≤ 2048) (hi : i + 4 ≤ px_L g) (hP : PS w) (K : ∀ w', PS w' → Wp g yL_law cL_law 4 (some .boolean) 33 76 1685 Z 76 1685 770 [some (.ref 1002), some (.ref 0), some (.ref 60), some (.int (nI i))] [] w') : Wp g yL_law cL_law 4 (some .boolean) 33 76 1685 Z 76 1685 654 [some (.ref 1002), some (.ref 0), some (.ref 60), some (.int (nI i))] [] w := by
  obtain ⟨T, M, U, I, n, tx, tr, hX, hM, hO⟩ := hP
  refine r_aload_n (pc' := 655) dL_law_654 rfl rfl ?_
  refine r_aload_n (pc' := 656) dL_law_655 rfl rfl ?_
  refine r_iload_n (pc' := 657) dL_law_656 rfl rfl ?_
  refine r_iconst (pc' := 658) (v := nI 1) dL_law_657 rfl rfl ?_
  refine r_iadd (pc' := 659) (v := nI (i + 1)) dL_law_658 rfl (nI_add i 1) ?_
  refine r_ialoadT (pc' := 660) (v := px_xs g (i + 1)) dL_law_659 rfl (by decide) rfl (vp_in_nI (n := i + 1) (by omega) (by omega)) (by rw [nI_cl (by omega)]) ?_
  refine r_aload_n (pc' := 661) dL_law_660 rfl rfl ?_
  refine r_iload_n (pc' := 662) dL_law_661 rfl rfl ?_
  refine r_iconst (pc' := 663) (v := nI 2) dL_law_662 rfl rfl ?_
  refine r_iadd (pc' := 664) (v := nI (i + 2)) dL_law_663 rfl (nI_add i 2) ?_
  refine r_ialoadT (pc' := 665) (v := px_xs g (i + 2)) dL_law_664 rfl (by decide) rfl (vp_in_nI (n := i + 2) (by omega) (by omega)) (by rw [nI_cl (by omega)]) ?_
  obtain ⟨ik, h0, _⟩ := id hX
  refine r_callV (pc' := 668) (av := [.int ((px_xs g (i + 1))), .int ((px_xs g (i + 2)))]) (rest := []) kX6_rate vX6_rate lL_89 dL_law_665 rfl h0 rfl rfl rfl ⟨by decide, by decide, by decide⟩ rfl rfl (Nat.le_of_ble_eq_true rfl) (cx_rate hX hO (fun w1 h1 hF1 => ?_))
  show Wp g yL_law cL_law 4 (some .boolean) 33 76 1685 Z 76 1685 668 [some (.ref 1002), some (.ref 0), some (.ref 60), some (.int (nI i))] [.int ((rateR T M ((px_xs g (i + 1))) ((px_xs g (i + 2)))))] w1
  have hM := hM.fr hF1 (by omega)
  have hX := h1
  refine r_aload_n (pc' := 669) dL_law_668 rfl rfl ?_
  refine r_aload_n (pc' := 670) dL_law_669 rfl rfl ?_
  refine r_iload_n (pc' := 671) dL_law_670 rfl rfl ?_
  refine r_iconst (pc' := 672) (v := nI 1) dL_law_671 rfl rfl ?_
  refine r_iadd (pc' := 673) (v := nI (i + 1)) dL_law_672 rfl (nI_add i 1) ?_
  refine r_ialoadT (pc' := 674) (v := px_xs g (i + 1)) dL_law_673 rfl (by decide) rfl (vp_in_nI (n := i + 1) (by omega) (by omega)) (by rw [nI_cl (by omega)]) ?_
  refine r_aload_n (pc' := 675) dL_law_674 rfl rfl ?_
  refine r_iload_n (pc' := 676) dL_law_675 rfl rfl ?_
  refine r_iconst (pc' := 677) (v := nI 2) dL_law_676 rfl rfl ?_
  refine r_iadd (pc' := 678) (v := nI (i + 2)) dL_law_677 rfl (nI_add i 2) ?_
  refine r_ialoadT (pc' := 679) (v := px_xs g (i + 2)) dL_law_678 rfl (by decide) rfl (vp_in_nI (n := i + 2) (by omega) (by omega)) (by rw [nI_cl (by omega)]) ?_
  obtain ⟨nx, tk, pl, va, fa, h0, _⟩ := id hM
  refine r_callV (pc' := 682) (av := [.int ((px_xs g (i + 1))), .int ((px_xs g (i + 2)))]) (rest := [.int ((rateR T M ((px_xs g (i + 1))) ((px_xs g (i + 2)))))]) kX7_rate vX7_rate lL_92 dL_law_679 rfl h0 rfl rfl rfl ⟨by decide, by decide, by decide⟩ rfl rfl (Nat.le_of_ble_eq_true rfl) (ct_X7_rate hM hO (fun w2 h2 hF2 => ?_))
  show Wp g yL_law cL_law 4 (some .boolean) 33 76 1685 Z 76 1685 682 [some (.ref 1002), some (.ref 0), some (.ref 60), some (.int (nI i))] [.int ((rateR T M ((px_xs g (i + 1))) ((px_xs g (i + 2))))), .int ((rateR T M ((px_xs g (i + 1))) ((px_xs g (i + 2)))))] w2
  have hX := hX.fr hF2 (by omega)
  refine r_icmp_eq (pc' := 685) (P := True) (tgt := 770) dL_law_682 (by decide) rfl (iff_true_intro rfl) (fun _ => ?_) (fun q => absurd trivial q)
  exact K _ ⟨_, _, _, _, _, _, _, hX, h2, hO⟩
set_option maxHeartbeats 400000 in
theorem law_keep (hL : px_L g ≤ 2048) (hi : i + 4 ≤ px_L g) (hP : PS w) (K : ∀ w', PS w' → Wp g yL_law cL_law 4 (some .boolean) 33 76 1685 Z 76 1685 770 [some (.ref 1002), some (.ref 0), some (.ref 60), some (.int (nI i))] [] w') : Wp g yL_law cL_law 4 (some .boolean) 33 76 1685 Z 76 1685 687 [some (.ref 1002), some (.ref 0), some (.ref 60), some (.int (nI i))] [] w := by
  obtain ⟨T, M, U, I, n, tx, tr, hX, hM, hO⟩ := hP
  refine r_aload_n (pc' := 688) dL_law_687 rfl rfl ?_
  refine r_aload_n (pc' := 689) dL_law_688 rfl rfl ?_
  refine r_iload_n (pc' := 690) dL_law_689 rfl rfl ?_
  refine r_iconst (pc' := 691) (v := nI 1) dL_law_690 rfl rfl ?_
  refine r_iadd (pc' := 692) (v := nI (i + 1)) dL_law_691 rfl (nI_add i 1) ?_
  refine r_ialoadT (pc' := 693) (v := px_xs g (i + 1)) dL_law_692 rfl (by decide) rfl (vp_in_nI (n := i + 1) (by omega) (by omega)) (by rw [nI_cl (by omega)]) ?_
  obtain ⟨ik, h0, _⟩ := id hX
  refine r_callV (pc' := 696) (av := [.int ((px_xs g (i + 1)))]) (rest := []) kX6_keep vX6_keep lL_93 dL_law_693 rfl h0 rfl rfl rfl ⟨by decide, by decide, by decide⟩ rfl rfl (Nat.le_of_ble_eq_true rfl) (cx_keep hX hO (fun w1 h1 hF1 => ?_))
  show Wp g yL_law cL_law 4 (some .boolean) 33 76 1685 Z 76 1685 696 [some (.ref 1002), some (.ref 0), some (.ref 60), some (.int (nI i))] [.int ((keepR M ((px_xs g (i + 1)))))] w1
  have hM := hM.fr hF1 (by omega)
  have hX := h1
  refine r_aload_n (pc' := 697) dL_law_696 rfl rfl ?_
  refine r_aload_n (pc' := 698) dL_law_697 rfl rfl ?_
  refine r_iload_n (pc' := 699) dL_law_698 rfl rfl ?_
  refine r_iconst (pc' := 700) (v := nI 1) dL_law_699 rfl rfl ?_
  refine r_iadd (pc' := 701) (v := nI (i + 1)) dL_law_700 rfl (nI_add i 1) ?_
  refine r_ialoadT (pc' := 702) (v := px_xs g (i + 1)) dL_law_701 rfl (by decide) rfl (vp_in_nI (n := i + 1) (by omega) (by omega)) (by rw [nI_cl (by omega)]) ?_
  obtain ⟨nx, tk, pl, va, fa, h0, _⟩ := id hM
  refine r_callV (pc' := 705) (av := [.int ((px_xs g (i + 1)))]) (rest := [.int ((keepR M ((px_xs g (i + 1)))))]) kX7_keep vX7_keep lL_96 dL_law_702 rfl h0 rfl rfl rfl ⟨by decide, by decide, by decide⟩ rfl rfl (Nat.le_of_ble_eq_true rfl) (ct_X7_keep hM hO (fun w2 h2 hF2 => ?_))
  show Wp g yL_law cL_law 4 (some .boolean) 33 76 1685 Z 76 1685 705 [some (.ref 1002), some (.ref 0), some (.ref 60), some (.int (nI i))] [.int ((keepR M ((px_xs g (i + 1))))), .int ((keepR M ((px_xs g (i + 1)))))] w2
  have hX := hX.fr hF2 (by omega)
  refine r_icmp_eq (pc' := 708) (P := True) (tgt := 770) dL_law_705 (by decide) rfl (iff_true_intro rfl) (fun _ => ?_) (fun q => absurd trivial q)
  exact K _ ⟨_, _, _, _, _, _, _, hX, h2, hO⟩
set_option maxHeartbeats 400000 in
theorem law_back (hL : px_L g ≤ 2048) (hi : i + 4 ≤ px_L g) (hP : PS w) (K : ∀ w', PS w' → Wp g yL_law cL_law 4 (some .boolean) 33 76 1685 Z 76 1685 770 [some (.ref 1002), some (.ref 0), some (.ref 60), some (.int (nI i))] [] w') : Wp g yL_law cL_law 4 (some .boolean) 33 76 1685 Z 76 1685 710 [some (.ref 1002), some (.ref 0), some (.ref 60), some (.int (nI i))] [] w := by
  obtain ⟨T, M, U, I, n, tx, tr, hX, hM, hO⟩ := hP
  refine r_aload_n (pc' := 711) dL_law_710 rfl rfl ?_
  refine r_aload_n (pc' := 712) dL_law_711 rfl rfl ?_
  refine r_iload_n (pc' := 713) dL_law_712 rfl rfl ?_
  refine r_iconst (pc' := 714) (v := nI 1) dL_law_713 rfl rfl ?_
  refine r_iadd (pc' := 715) (v := nI (i + 1)) dL_law_714 rfl (nI_add i 1) ?_
  refine r_ialoadT (pc' := 716) (v := px_xs g (i + 1)) dL_law_715 rfl (by decide) rfl (vp_in_nI (n := i + 1) (by omega) (by omega)) (by rw [nI_cl (by omega)]) ?_
  obtain ⟨ik, h0, _⟩ := id hX
  refine r_callV (pc' := 719) (av := [.int ((px_xs g (i + 1)))]) (rest := []) kX6_back vX6_back lL_97 dL_law_716 rfl h0 rfl rfl rfl ⟨by decide, by decide, by decide⟩ rfl rfl (Nat.le_of_ble_eq_true rfl) (cx_back hX hO (fun w1 h1 hF1 => ?_))
  show Wp g yL_law cL_law 4 (some .boolean) 33 76 1685 Z 76 1685 719 [some (.ref 1002), some (.ref 0), some (.ref 60), some (.int (nI i))] [.int ((backR I ((px_xs g (i + 1)))))] w1
  have hM := hM.fr hF1 (by omega)
  have hX := h1
  refine r_aload_n (pc' := 720) dL_law_719 rfl rfl ?_
  refine r_aload_n (pc' := 721) dL_law_720 rfl rfl ?_
  refine r_iload_n (pc' := 722) dL_law_721 rfl rfl ?_
  refine r_iconst (pc' := 723) (v := nI 1) dL_law_722 rfl rfl ?_
  refine r_iadd (pc' := 724) (v := nI (i + 1)) dL_law_723 rfl (nI_add i 1) ?_
  refine r_ialoadT (pc' := 725) (v := px_xs g (i + 1)) dL_law_724 rfl (by decide) rfl (vp_in_nI (n := i + 1) (by omega) (by omega)) (by rw [nI_cl (by omega)]) ?_
  obtain ⟨nx, tk, pl, va, fa, h0, _⟩ := id hM
  refine r_callV (pc' := 728) (av := [.int ((px_xs g (i + 1)))]) (rest := [.int ((backR I ((px_xs g (i + 1)))))]) kX7_back vX7_back lL_100 dL_law_725 rfl h0 rfl rfl rfl ⟨by decide, by decide, by decide⟩ rfl rfl (Nat.le_of_ble_eq_true rfl) (ct_X7_back hM hO (fun w2 h2 hF2 => ?_))
  show Wp g yL_law cL_law 4 (some .boolean) 33 76 1685 Z 76 1685 728 [some (.ref 1002), some (.ref 0), some (.ref 60), some (.int (nI i))] [.int ((backR I ((px_xs g (i + 1))))), .int ((backR I ((px_xs g (i + 1)))))] w2
  have hX := hX.fr hF2 (by omega)
  refine r_icmp_eq (pc' := 731) (P := True) (tgt := 770) dL_law_728 (by decide) rfl (iff_true_intro rfl) (fun _ => ?_) (fun q => absurd trivial q)
  exact K _ ⟨_, _, _, _, _, _, _, hX, h2, hO⟩
set_option maxHeartbeats 400000 in
theorem law_count (hL : px_L g ≤ 2048) (hi : i + 4 ≤ px_L g) (hP : PS w) (K : ∀ w', PS w' → Wp g yL_law cL_law 4 (some .boolean) 33 76 1685 Z 76 1685 770 [some (.ref 1002), some (.ref 0), some (.ref 60), some (.int (nI i))] [] w') : Wp g yL_law cL_law 4 (some .boolean) 33 76 1685 Z 76 1685 733 [some (.ref 1002), some (.ref 0), some (.ref 60), some (.int (nI i))] [] w := by
  obtain ⟨T, M, U, I, n, tx, tr, hX, hM, hO⟩ := hP
  refine r_aload_n (pc' := 734) dL_law_733 rfl rfl ?_
  refine r_aload_n (pc' := 735) dL_law_734 rfl rfl ?_
  refine r_iload_n (pc' := 736) dL_law_735 rfl rfl ?_
  refine r_iconst (pc' := 737) (v := nI 1) dL_law_736 rfl rfl ?_
  refine r_iadd (pc' := 738) (v := nI (i + 1)) dL_law_737 rfl (nI_add i 1) ?_
  refine r_ialoadT (pc' := 739) (v := px_xs g (i + 1)) dL_law_738 rfl (by decide) rfl (vp_in_nI (n := i + 1) (by omega) (by omega)) (by rw [nI_cl (by omega)]) ?_
  obtain ⟨ik, h0, _⟩ := id hX
  refine r_callV (pc' := 742) (av := [.int ((px_xs g (i + 1)))]) (rest := []) kX6_count vX6_count lL_101 dL_law_739 rfl h0 rfl rfl rfl ⟨by decide, by decide, by decide⟩ rfl rfl (Nat.le_of_ble_eq_true rfl) (cx_count hX hO (fun w1 h1 hF1 => ?_))
  show Wp g yL_law cL_law 4 (some .boolean) 33 76 1685 Z 76 1685 742 [some (.ref 1002), some (.ref 0), some (.ref 60), some (.int (nI i))] [.int ((countR T M U.length n ((px_xs g (i + 1)))))] w1
  have hM := hM.fr hF1 (by omega)
  have hX := h1
  refine r_aload_n (pc' := 743) dL_law_742 rfl rfl ?_
  refine r_aload_n (pc' := 744) dL_law_743 rfl rfl ?_
  refine r_iload_n (pc' := 745) dL_law_744 rfl rfl ?_
  refine r_iconst (pc' := 746) (v := nI 1) dL_law_745 rfl rfl ?_
  refine r_iadd (pc' := 747) (v := nI (i + 1)) dL_law_746 rfl (nI_add i 1) ?_
  refine r_ialoadT (pc' := 748) (v := px_xs g (i + 1)) dL_law_747 rfl (by decide) rfl (vp_in_nI (n := i + 1) (by omega) (by omega)) (by rw [nI_cl (by omega)]) ?_
  obtain ⟨nx, tk, pl, va, fa, h0, _⟩ := id hM
  refine r_callV (pc' := 751) (av := [.int ((px_xs g (i + 1)))]) (rest := [.int ((countR T M U.length n ((px_xs g (i + 1)))))]) kX7_count vX7_count lL_104 dL_law_748 rfl h0 rfl rfl rfl ⟨by decide, by decide, by decide⟩ rfl rfl (Nat.le_of_ble_eq_true rfl) (ct_X7_count hM hO (fun w2 h2 hF2 => ?_))
  show Wp g yL_law cL_law 4 (some .boolean) 33 76 1685 Z 76 1685 751 [some (.ref 1002), some (.ref 0), some (.ref 60), some (.int (nI i))] [.int ((countR T M U.length n ((px_xs g (i + 1))))), .int ((countR T M U.length n ((px_xs g (i + 1)))))] w2
  have hX := hX.fr hF2 (by omega)
  refine r_icmp_eq (pc' := 754) (P := True) (tgt := 770) dL_law_751 (by decide) rfl (iff_true_intro rfl) (fun _ => ?_) (fun q => absurd trivial q)
  exact K _ ⟨_, _, _, _, _, _, _, hX, h2, hO⟩
set_option maxHeartbeats 400000 in
theorem law_trace (hL : px_L g ≤ 2048) (hi : i + 4 ≤ px_L g) (hP : PS w) (K : ∀ w', PS w' → Wp g yL_law cL_law 4 (some .boolean) 33 76 1685 Z 76 1685 770 [some (.ref 1002), some (.ref 0), some (.ref 60), some (.int (nI i))] [] w') : Wp g yL_law cL_law 4 (some .boolean) 33 76 1685 Z 76 1685 756 [some (.ref 1002), some (.ref 0), some (.ref 60), some (.int (nI i))] [] w := by
  obtain ⟨T, M, U, I, n, tx, tr, hX, hM, hO⟩ := hP
  refine r_aload_n (pc' := 757) dL_law_756 rfl rfl ?_
  obtain ⟨ik, h0, _⟩ := id hX
  refine r_callV (pc' := 760) (av := []) (rest := []) kX6_trace vX6_trace lL_105 dL_law_757 rfl h0 rfl rfl rfl ⟨by decide, by decide, by decide⟩ rfl rfl (Nat.le_of_ble_eq_true rfl) (cx_trace hX hO (fun w1 h1 hF1 => ?_))
  show Wp g yL_law cL_law 4 (some .boolean) 33 76 1685 Z 76 1685 760 [some (.ref 1002), some (.ref 0), some (.ref 60), some (.int (nI i))] [.long tr] w1
  have hM := hM.fr hF1 (by omega)
  have hX := h1
  refine r_aload_n (pc' := 761) dL_law_760 rfl rfl ?_
  obtain ⟨nx, tk, pl, va, fa, h0, _⟩ := id hM
  refine r_callV (pc' := 764) (av := []) (rest := [.long tr]) kX7_trace vX7_trace lL_109 dL_law_761 rfl h0 rfl rfl rfl ⟨by decide, by decide, by decide⟩ rfl rfl (Nat.le_of_ble_eq_true rfl) (ct_X7_trace hM hO (fun w2 h2 hF2 => ?_))
  show Wp g yL_law cL_law 4 (some .boolean) 33 76 1685 Z 76 1685 764 [some (.ref 1002), some (.ref 0), some (.ref 60), some (.int (nI i))] [.long tr, .long tr] w2
  have hX := hX.fr hF2 (by omega)
  refine r_lcmp (pc' := 765) (v := nI 0) dL_law_764 rfl ((lg_cmp_eq _ _).mpr rfl) ?_
  refine r_if_eq (pc' := 768) (P := True) (tgt := 770) dL_law_765 (by decide) rfl (iff_true_intro rfl) (fun _ => ?_) (fun q => absurd trivial q)
  exact K _ ⟨_, _, _, _, _, _, _, hX, h2, hO⟩
end LC
