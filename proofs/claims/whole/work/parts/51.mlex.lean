/-! the reference's tokens -/
def mT (tx : Nat → Nat) (n p : Nat) : Nat := if tC tx n p = 0 then 0 else if tC tx n p = 3 then (if 99 < numM tx (tS tx n p) (tE tx n p - tS tx n p) ∨ tB tx n p = true then 4 else 2) else if tC tx n p = 2 then 1 else if tC tx n p = 4 then 3 else 4
def mV (tx : Nat → Nat) (n p : Nat) (va : Int32) : Int32 := if tC tx n p = 3 then nI (numM tx (tS tx n p) (tE tx n p - tS tx n p)) else if tC tx n p = 2 then nI (if tE tx n p - tS tx n p = 1 then tx (tS tx n p) else 0) else va
def ltA (tx : Nat → Nat) (n i : Nat) : Int32 := if i < n then nI (tx i) else -1
theorem cls_e1 {v : Nat} : cls v = 1 ↔ v = 32 := by
  constructor
  · intro h
    unfold cls at h
    split at h
    · cases h
    · split at h
      · cases h
      · split at h
        · assumption
        · split at h <;> cases h
  · exact cls_1
theorem cls_e2 {v : Nat} : cls v = 2 ↔ 97 ≤ v ∧ v ≤ 122 := ⟨cls_2i, fun h => cls_2 h.1 h.2⟩
theorem cls_e3 {v : Nat} : cls v = 3 ↔ 48 ≤ v ∧ v ≤ 57 := ⟨cls_3i, fun h => cls_3 h.1 h.2⟩
theorem cls_e4 {v : Nat} : cls v = 4 ↔ v = 59 := by
  constructor
  · intro h
    unfold cls at h
    split at h
    · cases h
    · split at h
      · cases h
      · split at h
        · cases h
        · split at h
          · assumption
          · cases h
  · exact cls_4
theorem lt_e {tx : Nat → Nat} {n i m : Nat} (h : i < n → tx i < 256) (hm : m < 256) : ltA tx n i = nI m ↔ i < n ∧ tx i = m := by
  unfold ltA
  split
  · next q => rw [nI_eq (by have := h q; omega) (by omega)]; exact ⟨fun e => ⟨q, e⟩, fun e => e.2⟩
  · next q => exact ⟨fun e => absurd e.symm (nI_neg (by omega) (by decide)), fun e => absurd e.1 q⟩
theorem lt_32 {tx : Nat → Nat} {n i : Nat} (h : i < n → tx i < 256) : ltA tx n i = nI 32 ↔ srt tx n i = 1 := by
  rw [lt_e h (by decide)]
  unfold srt
  split
  · next q => rw [cls_e1]; exact ⟨fun e => e.2, fun e => ⟨q, e⟩⟩
  · next q => exact ⟨fun e => absurd e.1 q, fun e => by cases e⟩
theorem m1_in {lo hi : Nat} (h : lo < 2 ^ 31) : inI (-1) (nI lo) (nI hi) = false := inI_lt (by
  have e : (-1 : Int32).toInt = -1 := by decide
  rw [Int32.lt_iff_toInt_lt, nI_toInt h, e]; omega)
theorem lt_in {tx : Nat → Nat} {n i lo hi c : Nat} (h : i < n → tx i < 256) (hlo : lo < 2 ^ 31) (hhi : hi < 2 ^ 31) (hc0 : c ≠ 0) (hc : ∀ v, cls v = c ↔ lo ≤ v ∧ v ≤ hi) : inI (ltA tx n i) (nI lo) (nI hi) = decide (srt tx n i = c) := by
  unfold ltA srt
  split
  · next q =>
    rw [inI_n (by have := h q; omega) hlo hhi, ← Bool.decide_and]
    exact decide_eq_decide.mpr (hc _).symm
  · rw [m1_in hlo]; exact (decide_eq_false (fun e => hc0 e.symm)).symm
theorem lt_n {tx : Nat → Nat} {n i : Nat} (h : i < n) : ltA tx n i = nI (tx i) := if_pos h
theorem lt_lt {tx : Nat → Nat} {n i : Nat} (h : i < n → tx i < 256) : ltA tx n i < 0 ↔ srt tx n i = 0 := by
  rw [srt_0]
  unfold ltA
  split
  · next q => exact ⟨fun e => absurd e (nI_pos (by have := h q; omega)), fun e => by omega⟩
  · next q => exact ⟨fun _ => by omega, fun _ => by decide⟩
theorem numM_lt {tx : Nat → Nat} {n s : Nat} (h : ∀ j, j < n → tx j < 256) : ∀ k, s + k ≤ n → numM tx s k < 1300
  | 0, _ => by show (0 : Nat) < 1300; decide
  | k + 1, hk => by
    have h1 := numM_lt (s := s) h k (by omega)
    have h2 := h (s + k) (by omega)
    unfold numM
    split <;> omega
set_option maxHeartbeats 200000 in
theorem ct_X7_letterAt {g : px_G} {w : px_W} {Q : px_Q} {tr : Int64} {tk pl va fa um : Int32} {n e : Nat} {tx : Nat → Nat} {fs : Nat → Int32} (hX : w[60]? = some (mobj tr (nI n) (nI e) tk pl va fa um)) (hx : w[61]? = some (.inl (0, 150, .inl fs))) (rt : ∀ j, j < n → fs j = nI (tx j) ∧ tx j < 256) (hn : n ≤ 150) {i : Nat} (hi : i < 2 ^ 20) (hQ : Q (some (.int (ltA tx n i))) w) : Ct g yX7_letterAt cX7_letterAt 2 (some .int) 1 0 0 [.ref 60, .int (nI i)] w Q := by
  refine Ct.of kX7_letterAt (by omega) (lo := [some (.ref 60), some (.int (nI i))]) rfl (px_cat1 rfl) (Nat.le_of_ble_eq_true rfl) ?_
  refine r_iload_n (pc' := 1) dX7_letterAt_0 rfl rfl ?_
  refine r_aload_n (pc' := 2) dX7_letterAt_1 rfl rfl ?_
  refine r_get (pc' := 5) fX7_70 dX7_letterAt_2 rfl hX rfl ?_
  refine r_icmp_ge (pc' := 8) (P := n ≤ i) (tgt := 17) dX7_letterAt_5 (by decide) rfl (nI_leI (a := n) (b := i) (by omega) (by omega)) (fun h5 => ?_) (fun h5 => ?_)
  · skip
    refine r_iconst (pc' := 18) (v := (-1)) dX7_letterAt_17 rfl rfl ?_
    refine r_ireturn dX7_letterAt_18 rfl ?_
    refine px_eq hQ ?_
    exact (if_neg (by omega)).symm
  · skip
    refine r_aload_n (pc' := 9) dX7_letterAt_8 rfl rfl ?_
    refine r_get (pc' := 12) fX7_7 dX7_letterAt_9 rfl hX rfl ?_
    refine r_iload_n (pc' := 13) dX7_letterAt_12 rfl rfl ?_
    refine r_iaload (pc' := 14) (v := nI (tx i)) dX7_letterAt_13 rfl hx (vp_in_nI (n := i) (by omega) (by omega)) (by rw [nI_cl (by omega)]; exact (rt i (by omega)).1) ?_
    have t0 := (rt i (by omega)).2
    refine r_goto (tgt := 18) dX7_letterAt_14 (by decide) ?_
    refine r_ireturn dX7_letterAt_18 rfl ?_
    refine px_eq hQ ?_
    exact (if_pos (by omega)).symm
theorem ct_in_e {g : px_G} {w : px_W} {Q : px_Q} {a lo hi : Int32} {b : Bool} (e : inI a lo hi = b) (hQ : Q (some (.int (bI b))) w) : Ct g yX7_in cX7_in 3 (some .boolean) 1 0 0 [.int a, .int lo, .int hi] w Q := ct_X7_in (by rw [e]; exact hQ)
theorem ct_lt_n {g : px_G} {w : px_W} {Q : px_Q} {tr : Int64} {tk pl va fa um : Int32} {n e : Nat} {tx : Nat → Nat} {fs : Nat → Int32} (hX : w[60]? = some (mobj tr (nI n) (nI e) tk pl va fa um)) (hx : w[61]? = some (.inl (0, 150, .inl fs))) (rt : ∀ j, j < n → fs j = nI (tx j) ∧ tx j < 256) (hn : n ≤ 150) {i : Nat} (hi : i < n) (hQ : Q (some (.int (nI (tx i)))) w) : Ct g yX7_letterAt cX7_letterAt 2 (some .int) 1 0 0 [.ref 60, .int (nI i)] w Q := ct_X7_letterAt hX hx rt hn (i := i) (by omega) (by rw [lt_n hi]; exact hQ)
theorem px_geL {x : Int32} {P : Prop} (h : x < 0 ↔ P) : 0 ≤ x ↔ ¬ P := by
  rw [← h]; exact ⟨fun q => Int32.not_lt.mpr q, fun q => Int32.not_lt.mp q⟩
theorem px_eqL {Q : px_Q} {a b : Int32} {w : px_W} (e : a = b) (h : Q (some (.int b)) w) : Q (some (.int a)) w := by rw [e]; exact h
set_option maxHeartbeats 200000 in
theorem ct_X7_advances {g : px_G} {w : px_W} {Q : px_Q} {tr : Int64} {tk pl va fa um : Int32} {n e : Nat} {tx : Nat → Nat} {fs : Nat → Int32} (hX : w[60]? = some (mobj tr (nI n) (nI e) tk pl va fa um)) (hx : w[61]? = some (.inl (0, 150, .inl fs))) (rt : ∀ j, j < n → fs j = nI (tx j) ∧ tx j < 256) (hn : n ≤ 150) (he : e ≤ n) (hQ : Q none (w.set 60 (mobj tr (nI n) (nI (tE tx n e)) (nI (mT tx n e)) (nI (tS tx n e)) (mV tx n e va) (fa) um))) : Ct g yX7_advances cX7_advances 2 none 2 0 0 [.ref 60] w Q := by
  refine Ct.of kX7_advances (by omega) (lo := [some (.ref 60), none]) rfl (px_cat1 rfl) (Nat.le_of_ble_eq_true rfl) ?_
  have L0 : ∀ (fu : Nat) (p : Nat), n - p < fu → p ≤ n → runP tx n 1 p = tS tx n e → Wp g yX7_advances cX7_advances 2 none 2 0 0 (px_MQ g Q 0 0) 0 0 0 [some (.ref 60), none] [] (w.set 60 (mobj tr (nI n) (nI p) (tk) (pl) (va) (fa) um)) := by
    intro fu; induction fu with
    | zero => intro p hm; exact absurd hm (Nat.not_lt_zero _)
    | succ fu ih =>
      intro p hm hp hI
      have ih0 := ih; clear ih
      refine r_aload_n (pc' := 1) dX7_advances_0 rfl rfl ?_
      refine r_aload_n (pc' := 2) dX7_advances_1 rfl rfl ?_
      refine r_get (pc' := 5) fX7_73 dX7_advances_2 rfl (gs_eq hX) rfl ?_
      refine r_callV (pc' := 8) (av := [.int (nI p)]) (rest := []) kX7_letterAt vX7_letterAt lX7_76 dX7_advances_5 rfl (gs_eq hX) rfl rfl rfl ⟨by decide, by decide, by decide⟩ rfl rfl (Nat.le_of_ble_eq_true rfl) (ct_X7_letterAt (gs_eq hX) (gs_ne hx (by decide)) rt hn (i := p) (by omega) ?_)
      show Wp g yX7_advances cX7_advances 2 none 2 0 0 (px_MQ g Q 0 0) 0 0 8 [some (.ref 60), none] [.int (ltA tx n p)] (w.set 60 (mobj tr (nI n) (nI p) (tk) (pl) (va) (fa) um))
      have r5 := fun h => (rt p h).2
      refine r_bipush (pc' := 10) (v := nI 32) dX7_advances_8 rfl rfl ?_
      refine r_icmp_ne (pc' := 13) (P := srt tx n p = 1) (tgt := 26) dX7_advances_10 (by decide) rfl (lt_32 (fun h => (rt p h).2)) (fun h10 => ?_) (fun h10 => ?_)
      · skip
        have hS : tS tx n e = p := by rw [← hI, run_f h10]
        obtain rfl : p = tS tx n e := hS.symm
        have b5 := tC_b tx n e
        have hC : tC tx n e = srt tx n (tS tx n e) := rfl
        have b6 : ∀ h : tS tx n e < n, tC tx n e = cls (tx (tS tx n e)) := fun h => srt_i h
        refine r_aload_n (pc' := 27) dX7_advances_26 rfl rfl ?_
        refine r_aload_n (pc' := 28) dX7_advances_27 rfl rfl ?_
        refine r_get (pc' := 31) fX7_73 dX7_advances_28 rfl (gs_eq hX) rfl ?_
        refine r_put (pc' := 34) (ty := .int) (c' := .inr (6, [.int (nI 0), .long tr, .ref 61, .int (nI n), .int (nI ((tS tx n e))), .int tk, .int (nI ((tS tx n e))), .int va, .int fa, .ref 62, .ref 63, .ref 64, .ref 65, .ref 66, .ref 67, .ref 68, .ref 69, .ref 70, .ref 71, .ref 72, .ref 73, .ref 74, .int um, .ref 75])) fX7_80 dX7_advances_31 rfl (gs_eq hX) (Nat.le_of_ble_eq_true rfl) rfl (by decide +kernel) rfl rfl rfl ?_
        refine r_aload_n (pc' := 35) dX7_advances_34 rfl rfl ?_
        refine r_aload_n (pc' := 36) dX7_advances_35 rfl rfl ?_
        refine r_get (pc' := 39) fX7_73 dX7_advances_36 rfl (gs_eq (gs_eq hX)) rfl ?_
        refine r_callV (pc' := 42) (av := [.int (nI ((tS tx n e)))]) (rest := []) kX7_letterAt vX7_letterAt lX7_76 dX7_advances_39 rfl (gs_eq (gs_eq hX)) rfl rfl rfl ⟨by decide, by decide, by decide⟩ rfl rfl (Nat.le_of_ble_eq_true rfl) (ct_X7_letterAt (gs_eq (gs_eq hX)) (gs_ne (gs_ne hx (by decide)) (by decide)) rt hn (i := (tS tx n e)) (by omega) ?_)
        show Wp g yX7_advances cX7_advances 2 none 2 0 0 (px_MQ g Q 0 0) 0 0 42 [some (.ref 60), none] [.int (ltA tx n ((tS tx n e)))] ((w.set 60 (mobj tr (nI n) (nI (tS tx n e)) (tk) (pl) (va) (fa) um)).set 60 (.inr (6, [.int (nI 0), .long tr, .ref 61, .int (nI n), .int (nI ((tS tx n e))), .int tk, .int (nI ((tS tx n e))), .int va, .int fa, .ref 62, .ref 63, .ref 64, .ref 65, .ref 66, .ref 67, .ref 68, .ref 69, .ref 70, .ref 71, .ref 72, .ref 73, .ref 74, .int um, .ref 75])))
        have r39 := fun h => (rt ((tS tx n e)) h).2
        refine r_istore_n (pc' := 43) (lo' := [some (.ref 60), some (.int (ltA tx n ((tS tx n e))))]) dX7_advances_42 rfl (by decide) rfl ?_
        refine r_iload_n (pc' := 44) dX7_advances_43 rfl rfl ?_
        refine r_if_ge (pc' := 47) (P := ¬ tC tx n e = 0) (tgt := 55) dX7_advances_44 (by decide) rfl (px_geL (lt_lt (fun h => (rt (tS tx n e) h).2))) (fun h44 => ?_) (fun h44 => ?_)
        · have hSn : tS tx n e < n := by have := mt tC_0.mpr h44; omega
          have b7 := b6 hSn
          have b8 := (rt _ hSn).2
          rw [lt_n hSn]
          show Wp g yX7_advances cX7_advances 2 none 2 0 0 (px_MQ g Q 0 0) 0 0 55 [some (.ref 60), some (.int (nI (tx (tS tx n e))))] [] ((w.set 60 (mobj tr (nI n) (nI (tS tx n e)) (tk) (pl) (va) (fa) um)).set 60 (.inr (6, [.int (nI 0), .long tr, .ref 61, .int (nI n), .int (nI ((tS tx n e))), .int tk, .int (nI ((tS tx n e))), .int va, .int fa, .ref 62, .ref 63, .ref 64, .ref 65, .ref 66, .ref 67, .ref 68, .ref 69, .ref 70, .ref 71, .ref 72, .ref 73, .ref 74, .int um, .ref 75])))
          refine r_iload_n (pc' := 56) dX7_advances_55 rfl rfl ?_
          refine r_bipush (pc' := 58) (v := nI 48) dX7_advances_56 rfl rfl ?_
          refine r_bipush (pc' := 60) (v := nI 57) dX7_advances_58 rfl rfl ?_
          refine r_callS (pc' := 63) (av := [.int (nI (tx (tS tx n e))), .int (nI 48), .int (nI 57)]) (rest := []) kX7_in vX7_in lX7_66 dX7_advances_60 rfl rfl rfl ⟨by decide, by decide, by decide⟩ rfl rfl (Nat.le_of_ble_eq_true rfl) (ct_in_n (a := tx (tS tx n e)) (lo := 48) (hi := 57) (by omega) (by decide) (by decide) ?_)
          show Wp g yX7_advances cX7_advances 2 none 2 0 0 (px_MQ g Q 0 0) 0 0 63 [some (.ref 60), some (.int (nI (tx (tS tx n e))))] [.int (bI ((decide (48 ≤ tx (tS tx n e)) && decide (tx (tS tx n e) ≤ 57))))] ((w.set 60 (mobj tr (nI n) (nI (tS tx n e)) (tk) (pl) (va) (fa) um)).set 60 (.inr (6, [.int (nI 0), .long tr, .ref 61, .int (nI n), .int (nI ((tS tx n e))), .int tk, .int (nI ((tS tx n e))), .int va, .int fa, .ref 62, .ref 63, .ref 64, .ref 65, .ref 66, .ref 67, .ref 68, .ref 69, .ref 70, .ref 71, .ref 72, .ref 73, .ref 74, .int um, .ref 75])))
          refine r_if_eq (pc' := 66) (P := ((decide (48 ≤ tx (tS tx n e)) && decide (tx (tS tx n e) ≤ 57))) = false) (tgt := 181) dX7_advances_63 (by decide) rfl (bI_0) (fun h63 => ?_) (fun h63 => ?_)
          · skip
            refine r_iload_n (pc' := 182) dX7_advances_181 rfl rfl ?_
            refine r_bipush (pc' := 184) (v := nI 97) dX7_advances_182 rfl rfl ?_
            refine r_bipush (pc' := 186) (v := nI 122) dX7_advances_184 rfl rfl ?_
            refine r_callS (pc' := 189) (av := [.int (nI (tx (tS tx n e))), .int (nI 97), .int (nI 122)]) (rest := []) kX7_in vX7_in lX7_66 dX7_advances_186 rfl rfl rfl ⟨by decide, by decide, by decide⟩ rfl rfl (Nat.le_of_ble_eq_true rfl) (ct_in_n (a := tx (tS tx n e)) (lo := 97) (hi := 122) (by omega) (by decide) (by decide) ?_)
            show Wp g yX7_advances cX7_advances 2 none 2 0 0 (px_MQ g Q 0 0) 0 0 189 [some (.ref 60), some (.int (nI (tx (tS tx n e))))] [.int (bI ((decide (97 ≤ tx (tS tx n e)) && decide (tx (tS tx n e) ≤ 122))))] ((w.set 60 (mobj tr (nI n) (nI (tS tx n e)) (tk) (pl) (va) (fa) um)).set 60 (.inr (6, [.int (nI 0), .long tr, .ref 61, .int (nI n), .int (nI ((tS tx n e))), .int tk, .int (nI ((tS tx n e))), .int va, .int fa, .ref 62, .ref 63, .ref 64, .ref 65, .ref 66, .ref 67, .ref 68, .ref 69, .ref 70, .ref 71, .ref 72, .ref 73, .ref 74, .int um, .ref 75])))
            refine r_if_eq (pc' := 192) (P := ((decide (97 ≤ tx (tS tx n e)) && decide (tx (tS tx n e) ≤ 122))) = false) (tgt := 253) dX7_advances_189 (by decide) rfl (bI_0) (fun h189 => ?_) (fun h189 => ?_)
            · have hc2 : ¬ tC tx n e = 2 := by rw [b7]; exact fun q => by have := cls_e2.mp q; simp [this] at h189
              have hc3 : ¬ tC tx n e = 3 := by rw [b7]; exact fun q => by have := cls_e3.mp q; simp [this] at h63
              have hc4 : tC tx n e = 4 ↔ tx (tS tx n e) = 59 := by rw [b7]; exact cls_e4
              refine r_aload_n (pc' := 254) dX7_advances_253 rfl rfl ?_
              refine r_dup (pc' := 255) dX7_advances_254 rfl rfl ?_
              refine r_get (pc' := 258) fX7_73 dX7_advances_255 rfl (gs_eq (gs_eq hX)) rfl ?_
              refine r_iconst (pc' := 259) (v := nI 1) dX7_advances_258 rfl rfl ?_
              refine r_iadd (pc' := 260) (v := nI ((tS tx n e) + 1)) dX7_advances_259 rfl (nI_add ((tS tx n e)) 1) ?_
              refine r_put (pc' := 263) (ty := .int) (c' := .inr (6, [.int (nI 0), .long tr, .ref 61, .int (nI n), .int (nI ((tS tx n e) + 1)), .int tk, .int (nI ((tS tx n e))), .int va, .int fa, .ref 62, .ref 63, .ref 64, .ref 65, .ref 66, .ref 67, .ref 68, .ref 69, .ref 70, .ref 71, .ref 72, .ref 73, .ref 74, .int um, .ref 75])) fX7_73 dX7_advances_260 rfl (gs_eq (gs_eq hX)) (Nat.le_of_ble_eq_true rfl) rfl (by decide +kernel) rfl rfl rfl ?_
              refine r_aload_n (pc' := 264) dX7_advances_263 rfl rfl ?_
              refine r_iload_n (pc' := 265) dX7_advances_264 rfl rfl ?_
              refine r_bipush (pc' := 267) (v := nI 59) dX7_advances_265 rfl rfl ?_
              refine r_icmp_ne (pc' := 270) (P := tx (tS tx n e) = 59) (tgt := 274) dX7_advances_267 (by decide) rfl (nI_eq (a := tx (tS tx n e)) (b := 59) (by omega) (by omega)) (fun h267 => ?_) (fun h267 => ?_)
              · skip
                refine r_iconst (pc' := 275) (v := nI 4) dX7_advances_274 rfl rfl ?_
                refine r_put (pc' := 278) (ty := .int) (c' := .inr (6, [.int (nI 0), .long tr, .ref 61, .int (nI n), .int (nI ((tS tx n e) + 1)), .int (nI 4), .int (nI ((tS tx n e))), .int va, .int fa, .ref 62, .ref 63, .ref 64, .ref 65, .ref 66, .ref 67, .ref 68, .ref 69, .ref 70, .ref 71, .ref 72, .ref 73, .ref 74, .int um, .ref 75])) fX7_83 dX7_advances_275 rfl (gs_eq (gs_eq (gs_eq hX))) (Nat.le_of_ble_eq_true rfl) rfl (by decide +kernel) rfl rfl rfl ?_
                refine r_return dX7_advances_278 rfl ?_
                have hT : mT tx n e = 4 := by
                  first | (rw [mT, if_pos (by omega)]; done) | (rw [mT, if_neg (by omega), if_pos (by omega), if_pos (Or.inl (by omega))]; done) | (rw [mT, if_neg (by omega), if_pos (by omega), if_pos (Or.inr (by rw [tB]; simp; omega))]; done) | (rw [mT, if_neg (by omega), if_pos (by omega), if_neg (by rw [tB]; simp; omega)]; done) | (rw [mT, if_neg (by omega), if_neg (by omega), if_pos (by omega)]; done) | (rw [mT, if_neg (by omega), if_neg (by omega), if_neg (by omega), if_pos (by omega)]; done) | (rw [mT, if_neg (by omega), if_neg (by omega), if_neg (by omega), if_neg (by omega)]; done)
                have hV : mV tx n e va = va := by
                  first | (rw [mV, if_pos (by omega)]; done) | (rw [mV, if_neg (by omega), if_pos (by omega), if_pos (by omega)]; done) | (rw [mV, if_neg (by omega), if_pos (by omega), if_neg (by omega)]; done) | (rw [mV, if_neg (by omega), if_neg (by omega)]; done)
                have hE2 : tE tx n e = (tS tx n e) + 1 := by first | rfl | (rw [tE, if_neg (by omega), if_pos (by omega)]; done) | (rw [tE, if_neg (by omega), if_neg (by omega)]; done)
                (try simp only [gs_set])
                rw [hV, hT, hE2] at hQ
                exact hQ
              · skip
                refine r_iconst (pc' := 271) (v := nI 3) dX7_advances_270 rfl rfl ?_
                refine r_goto (tgt := 275) dX7_advances_271 (by decide) ?_
                refine r_put (pc' := 278) (ty := .int) (c' := .inr (6, [.int (nI 0), .long tr, .ref 61, .int (nI n), .int (nI ((tS tx n e) + 1)), .int (nI 3), .int (nI ((tS tx n e))), .int va, .int fa, .ref 62, .ref 63, .ref 64, .ref 65, .ref 66, .ref 67, .ref 68, .ref 69, .ref 70, .ref 71, .ref 72, .ref 73, .ref 74, .int um, .ref 75])) fX7_83 dX7_advances_275 rfl (gs_eq (gs_eq (gs_eq hX))) (Nat.le_of_ble_eq_true rfl) rfl (by decide +kernel) rfl rfl rfl ?_
                refine r_return dX7_advances_278 rfl ?_
                have hT : mT tx n e = 3 := by
                  first | (rw [mT, if_pos (by omega)]; done) | (rw [mT, if_neg (by omega), if_pos (by omega), if_pos (Or.inl (by omega))]; done) | (rw [mT, if_neg (by omega), if_pos (by omega), if_pos (Or.inr (by rw [tB]; simp; omega))]; done) | (rw [mT, if_neg (by omega), if_pos (by omega), if_neg (by rw [tB]; simp; omega)]; done) | (rw [mT, if_neg (by omega), if_neg (by omega), if_pos (by omega)]; done) | (rw [mT, if_neg (by omega), if_neg (by omega), if_neg (by omega), if_pos (by omega)]; done) | (rw [mT, if_neg (by omega), if_neg (by omega), if_neg (by omega), if_neg (by omega)]; done)
                have hV : mV tx n e va = va := by
                  first | (rw [mV, if_pos (by omega)]; done) | (rw [mV, if_neg (by omega), if_pos (by omega), if_pos (by omega)]; done) | (rw [mV, if_neg (by omega), if_pos (by omega), if_neg (by omega)]; done) | (rw [mV, if_neg (by omega), if_neg (by omega)]; done)
                have hE2 : tE tx n e = (tS tx n e) + 1 := by first | rfl | (rw [tE, if_neg (by omega), if_pos (by omega)]; done) | (rw [tE, if_neg (by omega), if_neg (by omega)]; done)
                (try simp only [gs_set])
                rw [hV, hT, hE2] at hQ
                exact hQ
            · have hc2 : tC tx n e = 2 := by rw [b7]; exact cls_e2.mpr (by simpa using h189)
              have L192 : ∀ (fu : Nat) (q : Nat), n - q < fu → q ≤ n → (tS tx n e) ≤ q → runP tx n 2 q = runP tx n 2 (tS tx n e) → Wp g yX7_advances cX7_advances 2 none 2 0 0 (px_MQ g Q 0 0) 0 0 192 [some (.ref 60), some (.int (nI (tx (tS tx n e))))] [] (w.set 60 (mobj tr (nI n) (nI q) (tk) (nI (tS tx n e)) (va) (fa) um)) := by
                intro fu; induction fu with
                | zero => intro q hm; exact absurd hm (Nat.not_lt_zero _)
                | succ fu ih =>
                  intro q hm hq hSq hJ
                  have ih192 := ih; clear ih
                  refine r_aload_n (pc' := 193) dX7_advances_192 rfl rfl ?_
                  refine r_aload_n (pc' := 194) dX7_advances_193 rfl rfl ?_
                  refine r_get (pc' := 197) fX7_73 dX7_advances_194 rfl (gs_eq hX) rfl ?_
                  refine r_callV (pc' := 200) (av := [.int (nI q)]) (rest := []) kX7_letterAt vX7_letterAt lX7_76 dX7_advances_197 rfl (gs_eq hX) rfl rfl rfl ⟨by decide, by decide, by decide⟩ rfl rfl (Nat.le_of_ble_eq_true rfl) (ct_X7_letterAt (gs_eq hX) (gs_ne hx (by decide)) rt hn (i := q) (by omega) ?_)
                  show Wp g yX7_advances cX7_advances 2 none 2 0 0 (px_MQ g Q 0 0) 0 0 200 [some (.ref 60), some (.int (nI (tx (tS tx n e))))] [.int (ltA tx n q)] (w.set 60 (mobj tr (nI n) (nI q) (tk) (nI (tS tx n e)) (va) (fa) um))
                  have r197 := fun h => (rt q h).2
                  refine r_bipush (pc' := 202) (v := nI 97) dX7_advances_200 rfl rfl ?_
                  refine r_bipush (pc' := 204) (v := nI 122) dX7_advances_202 rfl rfl ?_
                  refine r_callS (pc' := 207) (av := [.int (ltA tx n q), .int (nI 97), .int (nI 122)]) (rest := []) kX7_in vX7_in lX7_66 dX7_advances_204 rfl rfl rfl ⟨by decide, by decide, by decide⟩ rfl rfl (Nat.le_of_ble_eq_true rfl) (ct_in_e (lt_in (n := n) (i := q) (fun h => (rt q h).2) (by decide) (by decide) (by decide) (fun v => cls_e2)) ?_)
                  show Wp g yX7_advances cX7_advances 2 none 2 0 0 (px_MQ g Q 0 0) 0 0 207 [some (.ref 60), some (.int (nI (tx (tS tx n e))))] [.int (bI (decide (srt tx n q = 2)))] (w.set 60 (mobj tr (nI n) (nI q) (tk) (nI (tS tx n e)) (va) (fa) um))
                  refine r_if_eq (pc' := 210) (P := (decide (srt tx n q = 2)) = false) (tgt := 223) dX7_advances_207 (by decide) rfl (bI_0) (fun h207 => ?_) (fun h207 => ?_)
                  · have h207' : ¬ srt tx n q = 2 := by simpa using h207
                    have hE : tE tx n e = q := by rw [tE, if_pos (by omega), show tC tx n e = 2 by omega, ← hJ]; exact run_f (by omega)
                    obtain rfl : q = tE tx n e := hE.symm
                    refine r_aload_n (pc' := 224) dX7_advances_223 rfl rfl ?_
                    refine r_iconst (pc' := 225) (v := nI 1) dX7_advances_224 rfl rfl ?_
                    refine r_put (pc' := 228) (ty := .int) (c' := .inr (6, [.int (nI 0), .long tr, .ref 61, .int (nI n), .int (nI ((tE tx n e))), .int (nI 1), .int (nI ((tS tx n e))), .int va, .int fa, .ref 62, .ref 63, .ref 64, .ref 65, .ref 66, .ref 67, .ref 68, .ref 69, .ref 70, .ref 71, .ref 72, .ref 73, .ref 74, .int um, .ref 75])) fX7_83 dX7_advances_225 rfl (gs_eq hX) (Nat.le_of_ble_eq_true rfl) rfl (by decide +kernel) rfl rfl rfl ?_
                    refine r_aload_n (pc' := 229) dX7_advances_228 rfl rfl ?_
                    refine r_aload_n (pc' := 230) dX7_advances_229 rfl rfl ?_
                    refine r_get (pc' := 233) fX7_73 dX7_advances_230 rfl (gs_eq (gs_eq hX)) rfl ?_
                    refine r_aload_n (pc' := 234) dX7_advances_233 rfl rfl ?_
                    refine r_get (pc' := 237) fX7_80 dX7_advances_234 rfl (gs_eq (gs_eq hX)) rfl ?_
                    refine r_isub (pc' := 238) (v := nI ((tE tx n e) - ((tS tx n e)))) dX7_advances_237 rfl (pk_sub (a := (tE tx n e)) (b := (tS tx n e)) (by omega)) ?_
                    refine r_iconst (pc' := 239) (v := nI 1) dX7_advances_238 rfl rfl ?_
                    refine r_icmp_ne (pc' := 242) (P := (tE tx n e) - ((tS tx n e)) = 1) (tgt := 246) dX7_advances_239 (by decide) rfl (nI_eq (a := (tE tx n e) - ((tS tx n e))) (b := 1) (by omega) (by omega)) (fun h239 => ?_) (fun h239 => ?_)
                    · skip
                      refine r_iconst (pc' := 247) (v := nI 0) dX7_advances_246 rfl rfl ?_
                      refine r_put (pc' := 250) (ty := .int) (c' := .inr (6, [.int (nI 0), .long tr, .ref 61, .int (nI n), .int (nI ((tE tx n e))), .int (nI 1), .int (nI ((tS tx n e))), .int (nI 0), .int fa, .ref 62, .ref 63, .ref 64, .ref 65, .ref 66, .ref 67, .ref 68, .ref 69, .ref 70, .ref 71, .ref 72, .ref 73, .ref 74, .int um, .ref 75])) fX7_86 dX7_advances_247 rfl (gs_eq (gs_eq hX)) (Nat.le_of_ble_eq_true rfl) rfl (by decide +kernel) rfl rfl rfl ?_
                      refine r_goto (tgt := 278) dX7_advances_250 (by decide) ?_
                      refine r_return dX7_advances_278 rfl ?_
                      have hT : mT tx n e = 1 := by
                        first | (rw [mT, if_pos (by omega)]; done) | (rw [mT, if_neg (by omega), if_pos (by omega), if_pos (Or.inl (by omega))]; done) | (rw [mT, if_neg (by omega), if_pos (by omega), if_pos (Or.inr (by rw [tB]; simp; omega))]; done) | (rw [mT, if_neg (by omega), if_pos (by omega), if_neg (by rw [tB]; simp; omega)]; done) | (rw [mT, if_neg (by omega), if_neg (by omega), if_pos (by omega)]; done) | (rw [mT, if_neg (by omega), if_neg (by omega), if_neg (by omega), if_pos (by omega)]; done) | (rw [mT, if_neg (by omega), if_neg (by omega), if_neg (by omega), if_neg (by omega)]; done)
                      have hV : mV tx n e va = nI 0 := by
                        first | (rw [mV, if_pos (by omega)]; done) | (rw [mV, if_neg (by omega), if_pos (by omega), if_pos (by omega)]; done) | (rw [mV, if_neg (by omega), if_pos (by omega), if_neg (by omega)]; done) | (rw [mV, if_neg (by omega), if_neg (by omega)]; done)
                      have hE2 : tE tx n e = (tE tx n e) := by first | rfl | (rw [tE, if_neg (by omega), if_pos (by omega)]; done) | (rw [tE, if_neg (by omega), if_neg (by omega)]; done)
                      (try simp only [gs_set])
                      rw [hV, hT, hE2] at hQ
                      exact hQ
                    · skip
                      refine r_iload_n (pc' := 243) dX7_advances_242 rfl rfl ?_
                      refine r_goto (tgt := 247) dX7_advances_243 (by decide) ?_
                      refine r_put (pc' := 250) (ty := .int) (c' := .inr (6, [.int (nI 0), .long tr, .ref 61, .int (nI n), .int (nI ((tE tx n e))), .int (nI 1), .int (nI ((tS tx n e))), .int (nI (tx (tS tx n e))), .int fa, .ref 62, .ref 63, .ref 64, .ref 65, .ref 66, .ref 67, .ref 68, .ref 69, .ref 70, .ref 71, .ref 72, .ref 73, .ref 74, .int um, .ref 75])) fX7_86 dX7_advances_247 rfl (gs_eq (gs_eq hX)) (Nat.le_of_ble_eq_true rfl) rfl (by decide +kernel) rfl rfl rfl ?_
                      refine r_goto (tgt := 278) dX7_advances_250 (by decide) ?_
                      refine r_return dX7_advances_278 rfl ?_
                      have hT : mT tx n e = 1 := by
                        first | (rw [mT, if_pos (by omega)]; done) | (rw [mT, if_neg (by omega), if_pos (by omega), if_pos (Or.inl (by omega))]; done) | (rw [mT, if_neg (by omega), if_pos (by omega), if_pos (Or.inr (by rw [tB]; simp; omega))]; done) | (rw [mT, if_neg (by omega), if_pos (by omega), if_neg (by rw [tB]; simp; omega)]; done) | (rw [mT, if_neg (by omega), if_neg (by omega), if_pos (by omega)]; done) | (rw [mT, if_neg (by omega), if_neg (by omega), if_neg (by omega), if_pos (by omega)]; done) | (rw [mT, if_neg (by omega), if_neg (by omega), if_neg (by omega), if_neg (by omega)]; done)
                      have hV : mV tx n e va = nI (tx (tS tx n e)) := by
                        first | (rw [mV, if_pos (by omega)]; done) | (rw [mV, if_neg (by omega), if_pos (by omega), if_pos (by omega)]; done) | (rw [mV, if_neg (by omega), if_pos (by omega), if_neg (by omega)]; done) | (rw [mV, if_neg (by omega), if_neg (by omega)]; done)
                      have hE2 : tE tx n e = (tE tx n e) := by first | rfl | (rw [tE, if_neg (by omega), if_pos (by omega)]; done) | (rw [tE, if_neg (by omega), if_neg (by omega)]; done)
                      (try simp only [gs_set])
                      rw [hV, hT, hE2] at hQ
                      exact hQ
                  · have h207' : srt tx n q = 2 := by simpa using h207
                    refine r_aload_n (pc' := 211) dX7_advances_210 rfl rfl ?_
                    refine r_dup (pc' := 212) dX7_advances_211 rfl rfl ?_
                    refine r_get (pc' := 215) fX7_73 dX7_advances_212 rfl (gs_eq hX) rfl ?_
                    refine r_iconst (pc' := 216) (v := nI 1) dX7_advances_215 rfl rfl ?_
                    refine r_iadd (pc' := 217) (v := nI (q + 1)) dX7_advances_216 rfl (nI_add q 1) ?_
                    refine r_put (pc' := 220) (ty := .int) (c' := .inr (6, [.int (nI 0), .long tr, .ref 61, .int (nI n), .int (nI (q + 1)), .int tk, .int (nI ((tS tx n e))), .int va, .int fa, .ref 62, .ref 63, .ref 64, .ref 65, .ref 66, .ref 67, .ref 68, .ref 69, .ref 70, .ref 71, .ref 72, .ref 73, .ref 74, .int um, .ref 75])) fX7_73 dX7_advances_217 rfl (gs_eq hX) (Nat.le_of_ble_eq_true rfl) rfl (by decide +kernel) rfl rfl rfl ?_
                    refine r_goto (tgt := 192) dX7_advances_220 (by decide) ?_
                    have hqn : q < n := by have := mt srt_0.mpr (show ¬ srt tx n q = 0 by omega); omega
                    (try simp only [gs_set])
                    exact ih192 (q + 1) (by omega) (by omega) (by omega) (by rw [← hJ, ← run_t h207' (by decide)])
              have L0 := L192 (n - (tS tx n e) + 1) (tS tx n e) (by omega) (by omega) (Nat.le_refl _) rfl
              (try simp only [gs_set]); (try simp only [gs_set] at L0); exact L0
          · have hc3 : tC tx n e = 3 := by rw [b7]; exact cls_e3.mpr (by simpa using h63)
            refine r_aload_n (pc' := 67) dX7_advances_66 rfl rfl ?_
            refine r_iconst (pc' := 68) (v := nI 0) dX7_advances_67 rfl rfl ?_
            refine r_put (pc' := 71) (ty := .int) (c' := .inr (6, [.int (nI 0), .long tr, .ref 61, .int (nI n), .int (nI ((tS tx n e))), .int tk, .int (nI ((tS tx n e))), .int (nI 0), .int fa, .ref 62, .ref 63, .ref 64, .ref 65, .ref 66, .ref 67, .ref 68, .ref 69, .ref 70, .ref 71, .ref 72, .ref 73, .ref 74, .int um, .ref 75])) fX7_86 dX7_advances_68 rfl (gs_eq (gs_eq hX)) (Nat.le_of_ble_eq_true rfl) rfl (by decide +kernel) rfl rfl rfl ?_
            have L71 : ∀ (fu : Nat) (q : Nat), n - q < fu → q ≤ n → (tS tx n e) ≤ q → runP tx n 3 q = runP tx n 3 (tS tx n e) → Wp g yX7_advances cX7_advances 2 none 2 0 0 (px_MQ g Q 0 0) 0 0 71 [some (.ref 60), some (.int (nI (tx (tS tx n e))))] [] (w.set 60 (mobj tr (nI n) (nI q) (tk) (nI (tS tx n e)) (nI (numM tx (tS tx n e) (q - (tS tx n e)))) (fa) um)) := by
              intro fu; induction fu with
              | zero => intro q hm; exact absurd hm (Nat.not_lt_zero _)
              | succ fu ih =>
                intro q hm hq hSq hJ
                have hnb := numM_lt (s := (tS tx n e)) (n := n) (fun j h => (rt j h).2) (q - (tS tx n e)) (by omega)
                have ih71 := ih; clear ih
                refine r_aload_n (pc' := 72) dX7_advances_71 rfl rfl ?_
                refine r_aload_n (pc' := 73) dX7_advances_72 rfl rfl ?_
                refine r_get (pc' := 76) fX7_73 dX7_advances_73 rfl (gs_eq hX) rfl ?_
                refine r_callV (pc' := 79) (av := [.int (nI q)]) (rest := []) kX7_letterAt vX7_letterAt lX7_76 dX7_advances_76 rfl (gs_eq hX) rfl rfl rfl ⟨by decide, by decide, by decide⟩ rfl rfl (Nat.le_of_ble_eq_true rfl) (ct_X7_letterAt (gs_eq hX) (gs_ne hx (by decide)) rt hn (i := q) (by omega) ?_)
                show Wp g yX7_advances cX7_advances 2 none 2 0 0 (px_MQ g Q 0 0) 0 0 79 [some (.ref 60), some (.int (nI (tx (tS tx n e))))] [.int (ltA tx n q)] (w.set 60 (mobj tr (nI n) (nI q) (tk) (nI (tS tx n e)) (nI (numM tx (tS tx n e) (q - (tS tx n e)))) (fa) um))
                have r76 := fun h => (rt q h).2
                refine r_bipush (pc' := 81) (v := nI 48) dX7_advances_79 rfl rfl ?_
                refine r_bipush (pc' := 83) (v := nI 57) dX7_advances_81 rfl rfl ?_
                refine r_callS (pc' := 86) (av := [.int (ltA tx n q), .int (nI 48), .int (nI 57)]) (rest := []) kX7_in vX7_in lX7_66 dX7_advances_83 rfl rfl rfl ⟨by decide, by decide, by decide⟩ rfl rfl (Nat.le_of_ble_eq_true rfl) (ct_in_e (lt_in (n := n) (i := q) (fun h => (rt q h).2) (by decide) (by decide) (by decide) (fun v => cls_e3)) ?_)
                show Wp g yX7_advances cX7_advances 2 none 2 0 0 (px_MQ g Q 0 0) 0 0 86 [some (.ref 60), some (.int (nI (tx (tS tx n e))))] [.int (bI (decide (srt tx n q = 3)))] (w.set 60 (mobj tr (nI n) (nI q) (tk) (nI (tS tx n e)) (nI (numM tx (tS tx n e) (q - (tS tx n e)))) (fa) um))
                refine r_if_eq (pc' := 89) (P := (decide (srt tx n q = 3)) = false) (tgt := 141) dX7_advances_86 (by decide) rfl (bI_0) (fun h86 => ?_) (fun h86 => ?_)
                · have h86' : ¬ srt tx n q = 3 := by simpa using h86
                  have hE : tE tx n e = q := by rw [tE, if_pos (by omega), show tC tx n e = 3 by omega, ← hJ]; exact run_f (by omega)
                  obtain rfl : q = tE tx n e := hE.symm
                  refine r_aload_n (pc' := 142) dX7_advances_141 rfl rfl ?_
                  refine r_aload_n (pc' := 143) dX7_advances_142 rfl rfl ?_
                  refine r_get (pc' := 146) fX7_86 dX7_advances_143 rfl (gs_eq hX) rfl ?_
                  refine r_bipush (pc' := 148) (v := nI 99) dX7_advances_146 rfl rfl ?_
                  refine r_icmp_gt (pc' := 151) (P := 99 < numM tx (tS tx n e) ((tE tx n e) - (tS tx n e))) (tgt := 170) dX7_advances_148 (by decide) rfl (nI_ltI (a := 99) (b := numM tx (tS tx n e) ((tE tx n e) - (tS tx n e))) (by omega) (by omega)) (fun h148 => ?_) (fun h148 => ?_)
                  · skip
                    refine r_iconst (pc' := 171) (v := nI 4) dX7_advances_170 rfl rfl ?_
                    refine r_goto (tgt := 175) dX7_advances_171 (by decide) ?_
                    refine r_put (pc' := 178) (ty := .int) (c' := .inr (6, [.int (nI 0), .long tr, .ref 61, .int (nI n), .int (nI ((tE tx n e))), .int (nI 4), .int (nI ((tS tx n e))), .int (nI (numM tx (tS tx n e) ((tE tx n e) - (tS tx n e)))), .int fa, .ref 62, .ref 63, .ref 64, .ref 65, .ref 66, .ref 67, .ref 68, .ref 69, .ref 70, .ref 71, .ref 72, .ref 73, .ref 74, .int um, .ref 75])) fX7_83 dX7_advances_175 rfl (gs_eq hX) (Nat.le_of_ble_eq_true rfl) rfl (by decide +kernel) rfl rfl rfl ?_
                    refine r_goto (tgt := 278) dX7_advances_178 (by decide) ?_
                    refine r_return dX7_advances_278 rfl ?_
                    have hT : mT tx n e = 4 := by
                      first | (rw [mT, if_pos (by omega)]; done) | (rw [mT, if_neg (by omega), if_pos (by omega), if_pos (Or.inl (by omega))]; done) | (rw [mT, if_neg (by omega), if_pos (by omega), if_pos (Or.inr (by rw [tB]; simp; omega))]; done) | (rw [mT, if_neg (by omega), if_pos (by omega), if_neg (by rw [tB]; simp; omega)]; done) | (rw [mT, if_neg (by omega), if_neg (by omega), if_pos (by omega)]; done) | (rw [mT, if_neg (by omega), if_neg (by omega), if_neg (by omega), if_pos (by omega)]; done) | (rw [mT, if_neg (by omega), if_neg (by omega), if_neg (by omega), if_neg (by omega)]; done)
                    have hV : mV tx n e va = nI (numM tx (tS tx n e) ((tE tx n e) - (tS tx n e))) := by
                      first | (rw [mV, if_pos (by omega)]; done) | (rw [mV, if_neg (by omega), if_pos (by omega), if_pos (by omega)]; done) | (rw [mV, if_neg (by omega), if_pos (by omega), if_neg (by omega)]; done) | (rw [mV, if_neg (by omega), if_neg (by omega)]; done)
                    have hE2 : tE tx n e = (tE tx n e) := by first | rfl | (rw [tE, if_neg (by omega), if_pos (by omega)]; done) | (rw [tE, if_neg (by omega), if_neg (by omega)]; done)
                    (try simp only [gs_set])
                    rw [hV, hT, hE2] at hQ
                    exact hQ
                  · skip
                    refine r_iload_n (pc' := 152) dX7_advances_151 rfl rfl ?_
                    refine r_bipush (pc' := 154) (v := nI 48) dX7_advances_152 rfl rfl ?_
                    refine r_icmp_ne (pc' := 157) (P := tx (tS tx n e) = 48) (tgt := 174) dX7_advances_154 (by decide) rfl (nI_eq (a := tx (tS tx n e)) (b := 48) (by omega) (by omega)) (fun h154 => ?_) (fun h154 => ?_)
                    · skip
                      refine r_iconst (pc' := 175) (v := nI 2) dX7_advances_174 rfl rfl ?_
                      refine r_put (pc' := 178) (ty := .int) (c' := .inr (6, [.int (nI 0), .long tr, .ref 61, .int (nI n), .int (nI ((tE tx n e))), .int (nI 2), .int (nI ((tS tx n e))), .int (nI (numM tx (tS tx n e) ((tE tx n e) - (tS tx n e)))), .int fa, .ref 62, .ref 63, .ref 64, .ref 65, .ref 66, .ref 67, .ref 68, .ref 69, .ref 70, .ref 71, .ref 72, .ref 73, .ref 74, .int um, .ref 75])) fX7_83 dX7_advances_175 rfl (gs_eq hX) (Nat.le_of_ble_eq_true rfl) rfl (by decide +kernel) rfl rfl rfl ?_
                      refine r_goto (tgt := 278) dX7_advances_178 (by decide) ?_
                      refine r_return dX7_advances_278 rfl ?_
                      have hT : mT tx n e = 2 := by
                        first | (rw [mT, if_pos (by omega)]; done) | (rw [mT, if_neg (by omega), if_pos (by omega), if_pos (Or.inl (by omega))]; done) | (rw [mT, if_neg (by omega), if_pos (by omega), if_pos (Or.inr (by rw [tB]; simp; omega))]; done) | (rw [mT, if_neg (by omega), if_pos (by omega), if_neg (by rw [tB]; simp; omega)]; done) | (rw [mT, if_neg (by omega), if_neg (by omega), if_pos (by omega)]; done) | (rw [mT, if_neg (by omega), if_neg (by omega), if_neg (by omega), if_pos (by omega)]; done) | (rw [mT, if_neg (by omega), if_neg (by omega), if_neg (by omega), if_neg (by omega)]; done)
                      have hV : mV tx n e va = nI (numM tx (tS tx n e) ((tE tx n e) - (tS tx n e))) := by
                        first | (rw [mV, if_pos (by omega)]; done) | (rw [mV, if_neg (by omega), if_pos (by omega), if_pos (by omega)]; done) | (rw [mV, if_neg (by omega), if_pos (by omega), if_neg (by omega)]; done) | (rw [mV, if_neg (by omega), if_neg (by omega)]; done)
                      have hE2 : tE tx n e = (tE tx n e) := by first | rfl | (rw [tE, if_neg (by omega), if_pos (by omega)]; done) | (rw [tE, if_neg (by omega), if_neg (by omega)]; done)
                      (try simp only [gs_set])
                      rw [hV, hT, hE2] at hQ
                      exact hQ
                    · skip
                      refine r_aload_n (pc' := 158) dX7_advances_157 rfl rfl ?_
                      refine r_get (pc' := 161) fX7_73 dX7_advances_158 rfl (gs_eq hX) rfl ?_
                      refine r_aload_n (pc' := 162) dX7_advances_161 rfl rfl ?_
                      refine r_get (pc' := 165) fX7_80 dX7_advances_162 rfl (gs_eq hX) rfl ?_
                      refine r_isub (pc' := 166) (v := nI ((tE tx n e) - ((tS tx n e)))) dX7_advances_165 rfl (pk_sub (a := (tE tx n e)) (b := (tS tx n e)) (by omega)) ?_
                      refine r_iconst (pc' := 167) (v := nI 1) dX7_advances_166 rfl rfl ?_
                      refine r_icmp_le (pc' := 170) (P := (tE tx n e) - ((tS tx n e)) ≤ 1) (tgt := 174) dX7_advances_167 (by decide) rfl (nI_leI (a := (tE tx n e) - ((tS tx n e))) (b := 1) (by omega) (by omega)) (fun h167 => ?_) (fun h167 => ?_)
                      · skip
                        refine r_iconst (pc' := 175) (v := nI 2) dX7_advances_174 rfl rfl ?_
                        refine r_put (pc' := 178) (ty := .int) (c' := .inr (6, [.int (nI 0), .long tr, .ref 61, .int (nI n), .int (nI ((tE tx n e))), .int (nI 2), .int (nI ((tS tx n e))), .int (nI (numM tx (tS tx n e) ((tE tx n e) - (tS tx n e)))), .int fa, .ref 62, .ref 63, .ref 64, .ref 65, .ref 66, .ref 67, .ref 68, .ref 69, .ref 70, .ref 71, .ref 72, .ref 73, .ref 74, .int um, .ref 75])) fX7_83 dX7_advances_175 rfl (gs_eq hX) (Nat.le_of_ble_eq_true rfl) rfl (by decide +kernel) rfl rfl rfl ?_
                        refine r_goto (tgt := 278) dX7_advances_178 (by decide) ?_
                        refine r_return dX7_advances_278 rfl ?_
                        have hT : mT tx n e = 2 := by
                          first | (rw [mT, if_pos (by omega)]; done) | (rw [mT, if_neg (by omega), if_pos (by omega), if_pos (Or.inl (by omega))]; done) | (rw [mT, if_neg (by omega), if_pos (by omega), if_pos (Or.inr (by rw [tB]; simp; omega))]; done) | (rw [mT, if_neg (by omega), if_pos (by omega), if_neg (by rw [tB]; simp; omega)]; done) | (rw [mT, if_neg (by omega), if_neg (by omega), if_pos (by omega)]; done) | (rw [mT, if_neg (by omega), if_neg (by omega), if_neg (by omega), if_pos (by omega)]; done) | (rw [mT, if_neg (by omega), if_neg (by omega), if_neg (by omega), if_neg (by omega)]; done)
                        have hV : mV tx n e va = nI (numM tx (tS tx n e) ((tE tx n e) - (tS tx n e))) := by
                          first | (rw [mV, if_pos (by omega)]; done) | (rw [mV, if_neg (by omega), if_pos (by omega), if_pos (by omega)]; done) | (rw [mV, if_neg (by omega), if_pos (by omega), if_neg (by omega)]; done) | (rw [mV, if_neg (by omega), if_neg (by omega)]; done)
                        have hE2 : tE tx n e = (tE tx n e) := by first | rfl | (rw [tE, if_neg (by omega), if_pos (by omega)]; done) | (rw [tE, if_neg (by omega), if_neg (by omega)]; done)
                        (try simp only [gs_set])
                        rw [hV, hT, hE2] at hQ
                        exact hQ
                      · skip
                        refine r_iconst (pc' := 171) (v := nI 4) dX7_advances_170 rfl rfl ?_
                        refine r_goto (tgt := 175) dX7_advances_171 (by decide) ?_
                        refine r_put (pc' := 178) (ty := .int) (c' := .inr (6, [.int (nI 0), .long tr, .ref 61, .int (nI n), .int (nI ((tE tx n e))), .int (nI 4), .int (nI ((tS tx n e))), .int (nI (numM tx (tS tx n e) ((tE tx n e) - (tS tx n e)))), .int fa, .ref 62, .ref 63, .ref 64, .ref 65, .ref 66, .ref 67, .ref 68, .ref 69, .ref 70, .ref 71, .ref 72, .ref 73, .ref 74, .int um, .ref 75])) fX7_83 dX7_advances_175 rfl (gs_eq hX) (Nat.le_of_ble_eq_true rfl) rfl (by decide +kernel) rfl rfl rfl ?_
                        refine r_goto (tgt := 278) dX7_advances_178 (by decide) ?_
                        refine r_return dX7_advances_278 rfl ?_
                        have hT : mT tx n e = 4 := by
                          first | (rw [mT, if_pos (by omega)]; done) | (rw [mT, if_neg (by omega), if_pos (by omega), if_pos (Or.inl (by omega))]; done) | (rw [mT, if_neg (by omega), if_pos (by omega), if_pos (Or.inr (by rw [tB]; simp; omega))]; done) | (rw [mT, if_neg (by omega), if_pos (by omega), if_neg (by rw [tB]; simp; omega)]; done) | (rw [mT, if_neg (by omega), if_neg (by omega), if_pos (by omega)]; done) | (rw [mT, if_neg (by omega), if_neg (by omega), if_neg (by omega), if_pos (by omega)]; done) | (rw [mT, if_neg (by omega), if_neg (by omega), if_neg (by omega), if_neg (by omega)]; done)
                        have hV : mV tx n e va = nI (numM tx (tS tx n e) ((tE tx n e) - (tS tx n e))) := by
                          first | (rw [mV, if_pos (by omega)]; done) | (rw [mV, if_neg (by omega), if_pos (by omega), if_pos (by omega)]; done) | (rw [mV, if_neg (by omega), if_pos (by omega), if_neg (by omega)]; done) | (rw [mV, if_neg (by omega), if_neg (by omega)]; done)
                        have hE2 : tE tx n e = (tE tx n e) := by first | rfl | (rw [tE, if_neg (by omega), if_pos (by omega)]; done) | (rw [tE, if_neg (by omega), if_neg (by omega)]; done)
                        (try simp only [gs_set])
                        rw [hV, hT, hE2] at hQ
                        exact hQ
                · have h86' : srt tx n q = 3 := by simpa using h86
                  have hqn : q < n := by have := mt srt_0.mpr (show ¬ srt tx n q = 0 by omega); omega
                  have hdg := cls_3i ((srt_i hqn).symm.trans h86')
                  refine r_aload_n (pc' := 90) dX7_advances_89 rfl rfl ?_
                  refine r_aload_n (pc' := 91) dX7_advances_90 rfl rfl ?_
                  refine r_get (pc' := 94) fX7_86 dX7_advances_91 rfl (gs_eq hX) rfl ?_
                  refine r_bipush (pc' := 96) (v := nI 99) dX7_advances_94 rfl rfl ?_
                  refine r_icmp_le (pc' := 99) (P := numM tx (tS tx n e) (q - (tS tx n e)) ≤ 99) (tgt := 106) dX7_advances_96 (by decide) rfl (nI_leI (a := numM tx (tS tx n e) (q - (tS tx n e))) (b := 99) (by omega) (by omega)) (fun h96 => ?_) (fun h96 => ?_)
                  · skip
                    refine r_bipush (pc' := 108) (v := nI 10) dX7_advances_106 rfl rfl ?_
                    refine r_aload_n (pc' := 109) dX7_advances_108 rfl rfl ?_
                    refine r_get (pc' := 112) fX7_86 dX7_advances_109 rfl (gs_eq hX) rfl ?_
                    refine r_imul (pc' := 113) (v := nI (10 * (numM tx (tS tx n e) (q - (tS tx n e))))) dX7_advances_112 rfl (pk_mul 10 (numM tx (tS tx n e) (q - (tS tx n e)))) ?_
                    refine r_aload_n (pc' := 114) dX7_advances_113 rfl rfl ?_
                    refine r_aload_n (pc' := 115) dX7_advances_114 rfl rfl ?_
                    refine r_get (pc' := 118) fX7_73 dX7_advances_115 rfl (gs_eq hX) rfl ?_
                    refine r_callV (pc' := 121) (av := [.int (nI q)]) (rest := [.int (nI (10 * (numM tx (tS tx n e) (q - (tS tx n e))))), .ref 60]) kX7_letterAt vX7_letterAt lX7_76 dX7_advances_118 rfl (gs_eq hX) rfl rfl rfl ⟨by decide, by decide, by decide⟩ rfl rfl (Nat.le_of_ble_eq_true rfl) (ct_lt_n (gs_eq hX) (gs_ne hx (by decide)) rt hn (i := q) hqn ?_)
                    show Wp g yX7_advances cX7_advances 2 none 2 0 0 (px_MQ g Q 0 0) 0 0 121 [some (.ref 60), some (.int (nI (tx (tS tx n e))))] [.int (nI (tx q)), .int (nI (10 * (numM tx (tS tx n e) (q - (tS tx n e))))), .ref 60] (w.set 60 (mobj tr (nI n) (nI q) (tk) (nI (tS tx n e)) (nI (numM tx (tS tx n e) (q - (tS tx n e)))) (fa) um))
                    refine r_iadd (pc' := 122) (v := nI (10 * (numM tx (tS tx n e) (q - (tS tx n e))) + (tx q))) dX7_advances_121 rfl (nI_add (10 * (numM tx (tS tx n e) (q - (tS tx n e)))) (tx q)) ?_
                    refine r_bipush (pc' := 124) (v := nI 48) dX7_advances_122 rfl rfl ?_
                    refine r_isub (pc' := 125) (v := nI (10 * (numM tx (tS tx n e) (q - (tS tx n e))) + (tx q) - 48)) dX7_advances_124 rfl (pk_sub (a := 10 * (numM tx (tS tx n e) (q - (tS tx n e))) + (tx q)) (b := 48) (by omega)) ?_
                    refine r_put (pc' := 128) (ty := .int) (c' := .inr (6, [.int (nI 0), .long tr, .ref 61, .int (nI n), .int (nI q), .int tk, .int (nI ((tS tx n e))), .int (nI (10 * (numM tx (tS tx n e) (q - (tS tx n e))) + (tx q) - 48)), .int fa, .ref 62, .ref 63, .ref 64, .ref 65, .ref 66, .ref 67, .ref 68, .ref 69, .ref 70, .ref 71, .ref 72, .ref 73, .ref 74, .int um, .ref 75])) fX7_86 dX7_advances_125 rfl (gs_eq hX) (Nat.le_of_ble_eq_true rfl) rfl (by decide +kernel) rfl rfl rfl ?_
                    refine r_aload_n (pc' := 129) dX7_advances_128 rfl rfl ?_
                    refine r_dup (pc' := 130) dX7_advances_129 rfl rfl ?_
                    refine r_get (pc' := 133) fX7_73 dX7_advances_130 rfl (gs_eq (gs_eq hX)) rfl ?_
                    refine r_iconst (pc' := 134) (v := nI 1) dX7_advances_133 rfl rfl ?_
                    refine r_iadd (pc' := 135) (v := nI (q + 1)) dX7_advances_134 rfl (nI_add q 1) ?_
                    refine r_put (pc' := 138) (ty := .int) (c' := .inr (6, [.int (nI 0), .long tr, .ref 61, .int (nI n), .int (nI (q + 1)), .int tk, .int (nI ((tS tx n e))), .int (nI (10 * (numM tx (tS tx n e) (q - (tS tx n e))) + (tx q) - 48)), .int fa, .ref 62, .ref 63, .ref 64, .ref 65, .ref 66, .ref 67, .ref 68, .ref 69, .ref 70, .ref 71, .ref 72, .ref 73, .ref 74, .int um, .ref 75])) fX7_73 dX7_advances_135 rfl (gs_eq (gs_eq hX)) (Nat.le_of_ble_eq_true rfl) rfl (by decide +kernel) rfl rfl rfl ?_
                    refine r_goto (tgt := 71) dX7_advances_138 (by decide) ?_
                    have e1 : 10 * (numM tx (tS tx n e) (q - (tS tx n e))) + (tx q) - 48 = numM tx (tS tx n e) (q + 1 - (tS tx n e)) := by rw [show q + 1 - (tS tx n e) = q - (tS tx n e) + 1 by omega, numM, show (tS tx n e) + (q - (tS tx n e)) = q by omega]; first | rw [if_pos (by omega)] | (rw [if_neg (by omega)]; omega)
                    rw [e1]
                    (try simp only [gs_set])
                    exact ih71 (q + 1) (by omega) (by omega) (by omega) (by rw [← hJ, ← run_t h86' (by decide)])
                  · skip
                    refine r_aload_n (pc' := 100) dX7_advances_99 rfl rfl ?_
                    refine r_get (pc' := 103) fX7_86 dX7_advances_100 rfl (gs_eq hX) rfl ?_
                    refine r_goto (tgt := 125) dX7_advances_103 (by decide) ?_
                    refine r_put (pc' := 128) (ty := .int) (c' := .inr (6, [.int (nI 0), .long tr, .ref 61, .int (nI n), .int (nI q), .int tk, .int (nI ((tS tx n e))), .int (nI (numM tx (tS tx n e) (q - (tS tx n e)))), .int fa, .ref 62, .ref 63, .ref 64, .ref 65, .ref 66, .ref 67, .ref 68, .ref 69, .ref 70, .ref 71, .ref 72, .ref 73, .ref 74, .int um, .ref 75])) fX7_86 dX7_advances_125 rfl (gs_eq hX) (Nat.le_of_ble_eq_true rfl) rfl (by decide +kernel) rfl rfl rfl ?_
                    refine px_id (gs_eq hX) ?_
                    refine r_aload_n (pc' := 129) dX7_advances_128 rfl rfl ?_
                    refine r_dup (pc' := 130) dX7_advances_129 rfl rfl ?_
                    refine r_get (pc' := 133) fX7_73 dX7_advances_130 rfl (gs_eq hX) rfl ?_
                    refine r_iconst (pc' := 134) (v := nI 1) dX7_advances_133 rfl rfl ?_
                    refine r_iadd (pc' := 135) (v := nI (q + 1)) dX7_advances_134 rfl (nI_add q 1) ?_
                    refine r_put (pc' := 138) (ty := .int) (c' := .inr (6, [.int (nI 0), .long tr, .ref 61, .int (nI n), .int (nI (q + 1)), .int tk, .int (nI ((tS tx n e))), .int (nI (numM tx (tS tx n e) (q - (tS tx n e)))), .int fa, .ref 62, .ref 63, .ref 64, .ref 65, .ref 66, .ref 67, .ref 68, .ref 69, .ref 70, .ref 71, .ref 72, .ref 73, .ref 74, .int um, .ref 75])) fX7_73 dX7_advances_135 rfl (gs_eq hX) (Nat.le_of_ble_eq_true rfl) rfl (by decide +kernel) rfl rfl rfl ?_
                    refine r_goto (tgt := 71) dX7_advances_138 (by decide) ?_
                    have e1 : numM tx (tS tx n e) (q - (tS tx n e)) = numM tx (tS tx n e) (q + 1 - (tS tx n e)) := by rw [show q + 1 - (tS tx n e) = q - (tS tx n e) + 1 by omega, numM, show (tS tx n e) + (q - (tS tx n e)) = q by omega]; first | rw [if_pos (by omega)] | (rw [if_neg (by omega)]; omega)
                    rw [e1]
                    (try simp only [gs_set])
                    exact ih71 (q + 1) (by omega) (by omega) (by omega) (by rw [← hJ, ← run_t h86' (by decide)])
            have L0 := L71 (n - (tS tx n e) + 1) (tS tx n e) (by omega) (by omega) (Nat.le_refl _) rfl
            rw [show numM tx (tS tx n e) ((tS tx n e) - (tS tx n e)) = 0 by rw [Nat.sub_self]; rfl] at L0
            (try simp only [gs_set]); (try simp only [gs_set] at L0); exact L0
        · skip
          refine r_aload_n (pc' := 48) dX7_advances_47 rfl rfl ?_
          refine r_iconst (pc' := 49) (v := nI 0) dX7_advances_48 rfl rfl ?_
          refine r_put (pc' := 52) (ty := .int) (c' := .inr (6, [.int (nI 0), .long tr, .ref 61, .int (nI n), .int (nI ((tS tx n e))), .int (nI 0), .int (nI ((tS tx n e))), .int va, .int fa, .ref 62, .ref 63, .ref 64, .ref 65, .ref 66, .ref 67, .ref 68, .ref 69, .ref 70, .ref 71, .ref 72, .ref 73, .ref 74, .int um, .ref 75])) fX7_83 dX7_advances_49 rfl (gs_eq (gs_eq hX)) (Nat.le_of_ble_eq_true rfl) rfl (by decide +kernel) rfl rfl rfl ?_
          refine r_goto (tgt := 278) dX7_advances_52 (by decide) ?_
          refine r_return dX7_advances_278 rfl ?_
          have hT : mT tx n e = 0 := by
            first | (rw [mT, if_pos (by omega)]; done) | (rw [mT, if_neg (by omega), if_pos (by omega), if_pos (Or.inl (by omega))]; done) | (rw [mT, if_neg (by omega), if_pos (by omega), if_pos (Or.inr (by rw [tB]; simp; omega))]; done) | (rw [mT, if_neg (by omega), if_pos (by omega), if_neg (by rw [tB]; simp; omega)]; done) | (rw [mT, if_neg (by omega), if_neg (by omega), if_pos (by omega)]; done) | (rw [mT, if_neg (by omega), if_neg (by omega), if_neg (by omega), if_pos (by omega)]; done) | (rw [mT, if_neg (by omega), if_neg (by omega), if_neg (by omega), if_neg (by omega)]; done)
          have hV : mV tx n e va = va := by
            first | (rw [mV, if_pos (by omega)]; done) | (rw [mV, if_neg (by omega), if_pos (by omega), if_pos (by omega)]; done) | (rw [mV, if_neg (by omega), if_pos (by omega), if_neg (by omega)]; done) | (rw [mV, if_neg (by omega), if_neg (by omega)]; done)
          have hE2 : tE tx n e = (tS tx n e) := by first | rfl | (rw [tE, if_neg (by omega), if_pos (by omega)]; done) | (rw [tE, if_neg (by omega), if_neg (by omega)]; done)
          (try simp only [gs_set])
          rw [hV, hT, hE2] at hQ
          exact hQ
      · skip
        refine r_aload_n (pc' := 14) dX7_advances_13 rfl rfl ?_
        refine r_dup (pc' := 15) dX7_advances_14 rfl rfl ?_
        refine r_get (pc' := 18) fX7_73 dX7_advances_15 rfl (gs_eq hX) rfl ?_
        refine r_iconst (pc' := 19) (v := nI 1) dX7_advances_18 rfl rfl ?_
        refine r_iadd (pc' := 20) (v := nI (p + 1)) dX7_advances_19 rfl (nI_add p 1) ?_
        refine r_put (pc' := 23) (ty := .int) (c' := .inr (6, [.int (nI 0), .long tr, .ref 61, .int (nI n), .int (nI (p + 1)), .int tk, .int pl, .int va, .int fa, .ref 62, .ref 63, .ref 64, .ref 65, .ref 66, .ref 67, .ref 68, .ref 69, .ref 70, .ref 71, .ref 72, .ref 73, .ref 74, .int um, .ref 75])) fX7_73 dX7_advances_20 rfl (gs_eq hX) (Nat.le_of_ble_eq_true rfl) rfl (by decide +kernel) rfl rfl rfl ?_
        refine r_goto (tgt := 0) dX7_advances_23 (by decide) ?_
        have hpn : p < n := by have := mt srt_0.mpr (show ¬ srt tx n p = 0 by omega); omega
        rw [gs_set]
        exact ih0 (p + 1) (by omega) (by omega) (by rw [← run_t h10 (by decide)]; exact hI)
  have L0 := L0 (n - e + 1) e (Nat.lt_succ_self _) he rfl
  rw [gs_id hX] at L0
  exact L0
