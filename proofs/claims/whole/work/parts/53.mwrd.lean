theorem mT_1 {tx : Nat → Nat} {n p : Nat} : mT tx n p = 1 ↔ tC tx n p = 2 := by
  unfold mT
  constructor
  · intro h
    split at h
    · cases h
    · split at h
      · split at h <;> cases h
      · split at h
        · assumption
        · split at h <;> cases h
  · intro h
    rw [h, if_neg (by decide), if_neg (by decide), if_pos rfl]
theorem mT_3 {tx : Nat → Nat} {n p : Nat} : mT tx n p = 3 ↔ tC tx n p = 4 := by
  unfold mT
  constructor
  · intro h
    split at h
    · cases h
    · split at h
      · split at h <;> cases h
      · split at h
        · cases h
        · split at h
          · assumption
          · cases h
  · intro h
    rw [h, if_neg (by decide), if_neg (by decide), if_neg (by decide), if_pos rfl]
theorem mT_0 {tx : Nat → Nat} {n p : Nat} : mT tx n p = 0 ↔ tC tx n p = 0 := by
  unfold mT
  constructor
  · intro h
    split at h
    · assumption
    · split at h
      · split at h <;> cases h
      · split at h
        · cases h
        · split at h <;> cases h
  · intro h
    rw [if_pos h]
def okB (tx : Nat → Nat) (n p : Nat) : Bool := tC tx n p == 2 && decide (tE tx n p - tS tx n p ≤ 6)
def lq (tx : Nat → Nat) (s : Nat) : Nat → Bool := fun k => decide (97 ≤ tx (s + k)) && decide (tx (s + k) ≤ 104)
theorem okR_b (tx : Nat → Nat) (n p : Nat) : okR tx n p = (okB tx n p && allb (lq tx (tS tx n p)) (tE tx n p - tS tx n p)) := rfl
theorem allb_s (p : Nat → Bool) (n : Nat) : allb p (n + 1) = (allb p n && p n) := rfl
set_option maxHeartbeats 200000 in
theorem ct_X7_isWord {g : px_G} {w : px_W} {Q : px_Q} {tr : Int64} {va fa um : Int32} {n p : Nat} {tx : Nat → Nat} {fs : Nat → Int32} (hX : w[60]? = some (mop tr tx n p va fa um)) (hx : w[61]? = some (.inl (0, 150, .inl fs))) (rt : ∀ j, j < n → fs j = nI (tx j) ∧ tx j < 256) (hn : n ≤ 150) (hp : p ≤ n)  (hQ : Q (some (.int (bI (okR tx n p)))) w) : Ct g yX7_isWord cX7_isWord 3 (some .boolean) 2 0 0 [.ref 60] w Q := by
  refine Ct.of kX7_isWord (by omega) (lo := [some (.ref 60), none, none]) rfl (px_cat1 rfl) (Nat.le_of_ble_eq_true rfl) ?_
  have b1 := tS_le (tx := tx) hp
  have b2 := tE_ge tx n p
  have b3 : tE tx n p ≤ n := tE_le hp
  have b4 := mT_b tx n p
  refine r_aload_n (pc' := 1) dX7_isWord_0 rfl rfl ?_
  refine r_get (pc' := 4) fX7_83 dX7_isWord_1 rfl hX rfl ?_
  refine r_iconst (pc' := 5) (v := nI 1) dX7_isWord_4 rfl rfl ?_
  refine r_icmp_ne (pc' := 8) (P := mT tx n p = 1) (tgt := 26) dX7_isWord_5 (by decide) rfl (nI_eq (a := mT tx n p) (b := 1) (by omega) (by omega)) (fun h5 => ?_) (fun h5 => ?_)
  · skip
    refine r_iconst (pc' := 27) (v := bI false) dX7_isWord_26 rfl rfl ?_
    refine r_istore_n (pc' := 28) (lo' := [some (.ref 60), some (.int (bI false)), none]) dX7_isWord_27 rfl (by decide) rfl ?_
    refine r_aload_n (pc' := 29) dX7_isWord_28 rfl rfl ?_
    refine r_get (pc' := 32) fX7_80 dX7_isWord_29 rfl hX rfl ?_
    refine r_istore_n (pc' := 33) (lo' := [some (.ref 60), some (.int (bI false)), some (.int (nI (tS tx n p)))]) dX7_isWord_32 rfl (by decide) rfl ?_
    have L33 : ∀ (fu : Nat) (k : Nat), (tE tx n p) - (tS tx n p) - k < fu → k ≤ (tE tx n p) - (tS tx n p) → Wp g yX7_isWord cX7_isWord 3 (some .boolean) 2 0 0 (px_MQ g Q 0 0) 0 0 33 [some (.ref 60), some (.int (bI (okB tx n p && allb (lq tx (tS tx n p)) k))), some (.int (nI ((tS tx n p) + k)))] [] w := by
      intro fu; induction fu with
      | zero => intro k hm; exact absurd hm (Nat.not_lt_zero _)
      | succ fu ih =>
        intro k hm hk
        have ih33 := ih; clear ih
        refine r_iload_n (pc' := 34) dX7_isWord_33 rfl rfl ?_
        refine r_aload_n (pc' := 35) dX7_isWord_34 rfl rfl ?_
        refine r_get (pc' := 38) fX7_73 dX7_isWord_35 rfl hX rfl ?_
        refine r_icmp_ge (pc' := 41) (P := tE tx n p ≤ (tS tx n p) + k) (tgt := 72) dX7_isWord_38 (by decide) rfl (nI_leI (a := tE tx n p) (b := (tS tx n p) + k) (by omega) (by omega)) (fun h38 => ?_) (fun h38 => ?_)
        · obtain rfl : k = (tE tx n p) - (tS tx n p) := by omega
          refine r_iload_n (pc' := 73) dX7_isWord_72 rfl rfl ?_
          refine r_zreturn dX7_isWord_73 rfl (bI_nar _) ?_
          exact px_eqB hQ (okR_b tx n p).symm
        · skip
          refine r_iload_n (pc' := 42) dX7_isWord_41 rfl rfl ?_
          refine r_if_eq (pc' := 45) (P := (okB tx n p && allb (lq tx (tS tx n p)) k) = false) (tgt := 64) dX7_isWord_42 (by decide) rfl (bI_0) (fun h42 => ?_) (fun h42 => ?_)
          · skip
            refine r_iconst (pc' := 65) (v := bI false) dX7_isWord_64 rfl rfl ?_
            refine r_istore_n (pc' := 66) (lo' := [some (.ref 60), some (.int (bI false)), some (.int (nI ((tS tx n p) + k)))]) dX7_isWord_65 rfl (by decide) rfl ?_
            refine r_iinc (pc' := 69) (lo' := [some (.ref 60), some (.int (bI false)), some (.int (nI ((tS tx n p) + k + 1)))]) dX7_isWord_66 rfl (by decide) rfl (nI_add ((tS tx n p) + k) 1) rfl ?_
            refine r_goto (tgt := 33) dX7_isWord_69 (by decide) ?_
            have e1 : false = (okB tx n p && allb (lq tx (tS tx n p)) (k + 1)) := by first | (rw [allb_s, ← Bool.and_assoc, h42]; rfl) | (rw [allb_s, ← Bool.and_assoc, show lq tx (tS tx n p) k = false from h57, Bool.and_false])
            rw [e1]
            exact ih33 (k + 1) (by omega) (by omega)
          · skip
            refine r_aload_n (pc' := 46) dX7_isWord_45 rfl rfl ?_
            refine r_iload_n (pc' := 47) dX7_isWord_46 rfl rfl ?_
            refine r_callV (pc' := 50) (av := [.int (nI ((tS tx n p) + k))]) (rest := []) kX7_letterAt vX7_letterAt lX7_76 dX7_isWord_47 rfl hX rfl rfl rfl ⟨by decide, by decide, by decide⟩ rfl rfl (Nat.le_of_ble_eq_true rfl) (ct_lt_n hX hx rt hn (i := (tS tx n p) + k) (by omega) ?_)
            show Wp g yX7_isWord cX7_isWord 3 (some .boolean) 2 0 0 (px_MQ g Q 0 0) 0 0 50 [some (.ref 60), some (.int (bI (okB tx n p && allb (lq tx (tS tx n p)) k))), some (.int (nI ((tS tx n p) + k)))] [.int (nI (tx ((tS tx n p) + k)))] w
            have t47 := (rt ((tS tx n p) + k) (by omega)).2
            refine r_bipush (pc' := 52) (v := nI 97) dX7_isWord_50 rfl rfl ?_
            refine r_bipush (pc' := 54) (v := nI 104) dX7_isWord_52 rfl rfl ?_
            refine r_callS (pc' := 57) (av := [.int (nI (tx ((tS tx n p) + k))), .int (nI 97), .int (nI 104)]) (rest := []) kX7_in vX7_in lX7_66 dX7_isWord_54 rfl rfl rfl ⟨by decide, by decide, by decide⟩ rfl rfl (Nat.le_of_ble_eq_true rfl) (ct_in_n (a := tx ((tS tx n p) + k)) (lo := 97) (hi := 104) (by omega) (by decide) (by decide) ?_)
            show Wp g yX7_isWord cX7_isWord 3 (some .boolean) 2 0 0 (px_MQ g Q 0 0) 0 0 57 [some (.ref 60), some (.int (bI (okB tx n p && allb (lq tx (tS tx n p)) k))), some (.int (nI ((tS tx n p) + k)))] [.int (bI ((decide (97 ≤ tx ((tS tx n p) + k)) && decide (tx ((tS tx n p) + k) ≤ 104))))] w
            refine r_if_eq (pc' := 60) (P := ((decide (97 ≤ tx ((tS tx n p) + k)) && decide (tx ((tS tx n p) + k) ≤ 104))) = false) (tgt := 64) dX7_isWord_57 (by decide) rfl (bI_0) (fun h57 => ?_) (fun h57 => ?_)
            · skip
              refine r_iconst (pc' := 65) (v := bI false) dX7_isWord_64 rfl rfl ?_
              refine r_istore_n (pc' := 66) (lo' := [some (.ref 60), some (.int (bI false)), some (.int (nI ((tS tx n p) + k)))]) dX7_isWord_65 rfl (by decide) rfl ?_
              refine r_iinc (pc' := 69) (lo' := [some (.ref 60), some (.int (bI false)), some (.int (nI ((tS tx n p) + k + 1)))]) dX7_isWord_66 rfl (by decide) rfl (nI_add ((tS tx n p) + k) 1) rfl ?_
              refine r_goto (tgt := 33) dX7_isWord_69 (by decide) ?_
              have e1 : false = (okB tx n p && allb (lq tx (tS tx n p)) (k + 1)) := by first | (rw [allb_s, ← Bool.and_assoc, h42]; rfl) | (rw [allb_s, ← Bool.and_assoc, show lq tx (tS tx n p) k = false from h57, Bool.and_false])
              rw [e1]
              exact ih33 (k + 1) (by omega) (by omega)
            · skip
              refine r_iconst (pc' := 61) (v := bI true) dX7_isWord_60 rfl rfl ?_
              refine r_goto (tgt := 65) dX7_isWord_61 (by decide) ?_
              refine r_istore_n (pc' := 66) (lo' := [some (.ref 60), some (.int (bI true)), some (.int (nI ((tS tx n p) + k)))]) dX7_isWord_65 rfl (by decide) rfl ?_
              refine r_iinc (pc' := 69) (lo' := [some (.ref 60), some (.int (bI true)), some (.int (nI ((tS tx n p) + k + 1)))]) dX7_isWord_66 rfl (by decide) rfl (nI_add ((tS tx n p) + k) 1) rfl ?_
              refine r_goto (tgt := 33) dX7_isWord_69 (by decide) ?_
              have e1 : true = (okB tx n p && allb (lq tx (tS tx n p)) (k + 1)) := by rw [allb_s, ← Bool.and_assoc, show (okB tx n p && allb (lq tx (tS tx n p)) k) = true by simpa using h42, lq]; simp; simp at h57; omega
              rw [e1]
              exact ih33 (k + 1) (by omega) (by omega)
    have e0 : false = (okB tx n p && allb (lq tx (tS tx n p)) 0) := by first | (rw [okB, mT_1.mp h5]; simp [allb]; omega) | (rw [okB]; simp [allb]; intro q; exact absurd (mT_1.mpr q) h5)
    rw [e0]
    exact L33 ((tE tx n p) - (tS tx n p) + 1) 0 (by omega) (Nat.zero_le _)
  · skip
    refine r_aload_n (pc' := 9) dX7_isWord_8 rfl rfl ?_
    refine r_get (pc' := 12) fX7_73 dX7_isWord_9 rfl hX rfl ?_
    refine r_aload_n (pc' := 13) dX7_isWord_12 rfl rfl ?_
    refine r_get (pc' := 16) fX7_80 dX7_isWord_13 rfl hX rfl ?_
    refine r_isub (pc' := 17) (v := nI (tE tx n p - (tS tx n p))) dX7_isWord_16 rfl (pk_sub (a := tE tx n p) (b := tS tx n p) (by omega)) ?_
    refine r_bipush (pc' := 19) (v := nI 7) dX7_isWord_17 rfl rfl ?_
    refine r_icmp_ge (pc' := 22) (P := 7 ≤ tE tx n p - (tS tx n p)) (tgt := 26) dX7_isWord_19 (by decide) rfl (nI_leI (a := 7) (b := tE tx n p - (tS tx n p)) (by omega) (by omega)) (fun h19 => ?_) (fun h19 => ?_)
    · skip
      refine r_iconst (pc' := 27) (v := bI false) dX7_isWord_26 rfl rfl ?_
      refine r_istore_n (pc' := 28) (lo' := [some (.ref 60), some (.int (bI false)), none]) dX7_isWord_27 rfl (by decide) rfl ?_
      refine r_aload_n (pc' := 29) dX7_isWord_28 rfl rfl ?_
      refine r_get (pc' := 32) fX7_80 dX7_isWord_29 rfl hX rfl ?_
      refine r_istore_n (pc' := 33) (lo' := [some (.ref 60), some (.int (bI false)), some (.int (nI (tS tx n p)))]) dX7_isWord_32 rfl (by decide) rfl ?_
      have L33 : ∀ (fu : Nat) (k : Nat), (tE tx n p) - (tS tx n p) - k < fu → k ≤ (tE tx n p) - (tS tx n p) → Wp g yX7_isWord cX7_isWord 3 (some .boolean) 2 0 0 (px_MQ g Q 0 0) 0 0 33 [some (.ref 60), some (.int (bI (okB tx n p && allb (lq tx (tS tx n p)) k))), some (.int (nI ((tS tx n p) + k)))] [] w := by
        intro fu; induction fu with
        | zero => intro k hm; exact absurd hm (Nat.not_lt_zero _)
        | succ fu ih =>
          intro k hm hk
          have ih33 := ih; clear ih
          refine r_iload_n (pc' := 34) dX7_isWord_33 rfl rfl ?_
          refine r_aload_n (pc' := 35) dX7_isWord_34 rfl rfl ?_
          refine r_get (pc' := 38) fX7_73 dX7_isWord_35 rfl hX rfl ?_
          refine r_icmp_ge (pc' := 41) (P := tE tx n p ≤ (tS tx n p) + k) (tgt := 72) dX7_isWord_38 (by decide) rfl (nI_leI (a := tE tx n p) (b := (tS tx n p) + k) (by omega) (by omega)) (fun h38 => ?_) (fun h38 => ?_)
          · obtain rfl : k = (tE tx n p) - (tS tx n p) := by omega
            refine r_iload_n (pc' := 73) dX7_isWord_72 rfl rfl ?_
            refine r_zreturn dX7_isWord_73 rfl (bI_nar _) ?_
            exact px_eqB hQ (okR_b tx n p).symm
          · skip
            refine r_iload_n (pc' := 42) dX7_isWord_41 rfl rfl ?_
            refine r_if_eq (pc' := 45) (P := (okB tx n p && allb (lq tx (tS tx n p)) k) = false) (tgt := 64) dX7_isWord_42 (by decide) rfl (bI_0) (fun h42 => ?_) (fun h42 => ?_)
            · skip
              refine r_iconst (pc' := 65) (v := bI false) dX7_isWord_64 rfl rfl ?_
              refine r_istore_n (pc' := 66) (lo' := [some (.ref 60), some (.int (bI false)), some (.int (nI ((tS tx n p) + k)))]) dX7_isWord_65 rfl (by decide) rfl ?_
              refine r_iinc (pc' := 69) (lo' := [some (.ref 60), some (.int (bI false)), some (.int (nI ((tS tx n p) + k + 1)))]) dX7_isWord_66 rfl (by decide) rfl (nI_add ((tS tx n p) + k) 1) rfl ?_
              refine r_goto (tgt := 33) dX7_isWord_69 (by decide) ?_
              have e1 : false = (okB tx n p && allb (lq tx (tS tx n p)) (k + 1)) := by first | (rw [allb_s, ← Bool.and_assoc, h42]; rfl) | (rw [allb_s, ← Bool.and_assoc, show lq tx (tS tx n p) k = false from h57, Bool.and_false])
              rw [e1]
              exact ih33 (k + 1) (by omega) (by omega)
            · skip
              refine r_aload_n (pc' := 46) dX7_isWord_45 rfl rfl ?_
              refine r_iload_n (pc' := 47) dX7_isWord_46 rfl rfl ?_
              refine r_callV (pc' := 50) (av := [.int (nI ((tS tx n p) + k))]) (rest := []) kX7_letterAt vX7_letterAt lX7_76 dX7_isWord_47 rfl hX rfl rfl rfl ⟨by decide, by decide, by decide⟩ rfl rfl (Nat.le_of_ble_eq_true rfl) (ct_lt_n hX hx rt hn (i := (tS tx n p) + k) (by omega) ?_)
              show Wp g yX7_isWord cX7_isWord 3 (some .boolean) 2 0 0 (px_MQ g Q 0 0) 0 0 50 [some (.ref 60), some (.int (bI (okB tx n p && allb (lq tx (tS tx n p)) k))), some (.int (nI ((tS tx n p) + k)))] [.int (nI (tx ((tS tx n p) + k)))] w
              have t47 := (rt ((tS tx n p) + k) (by omega)).2
              refine r_bipush (pc' := 52) (v := nI 97) dX7_isWord_50 rfl rfl ?_
              refine r_bipush (pc' := 54) (v := nI 104) dX7_isWord_52 rfl rfl ?_
              refine r_callS (pc' := 57) (av := [.int (nI (tx ((tS tx n p) + k))), .int (nI 97), .int (nI 104)]) (rest := []) kX7_in vX7_in lX7_66 dX7_isWord_54 rfl rfl rfl ⟨by decide, by decide, by decide⟩ rfl rfl (Nat.le_of_ble_eq_true rfl) (ct_in_n (a := tx ((tS tx n p) + k)) (lo := 97) (hi := 104) (by omega) (by decide) (by decide) ?_)
              show Wp g yX7_isWord cX7_isWord 3 (some .boolean) 2 0 0 (px_MQ g Q 0 0) 0 0 57 [some (.ref 60), some (.int (bI (okB tx n p && allb (lq tx (tS tx n p)) k))), some (.int (nI ((tS tx n p) + k)))] [.int (bI ((decide (97 ≤ tx ((tS tx n p) + k)) && decide (tx ((tS tx n p) + k) ≤ 104))))] w
              refine r_if_eq (pc' := 60) (P := ((decide (97 ≤ tx ((tS tx n p) + k)) && decide (tx ((tS tx n p) + k) ≤ 104))) = false) (tgt := 64) dX7_isWord_57 (by decide) rfl (bI_0) (fun h57 => ?_) (fun h57 => ?_)
              · skip
                refine r_iconst (pc' := 65) (v := bI false) dX7_isWord_64 rfl rfl ?_
                refine r_istore_n (pc' := 66) (lo' := [some (.ref 60), some (.int (bI false)), some (.int (nI ((tS tx n p) + k)))]) dX7_isWord_65 rfl (by decide) rfl ?_
                refine r_iinc (pc' := 69) (lo' := [some (.ref 60), some (.int (bI false)), some (.int (nI ((tS tx n p) + k + 1)))]) dX7_isWord_66 rfl (by decide) rfl (nI_add ((tS tx n p) + k) 1) rfl ?_
                refine r_goto (tgt := 33) dX7_isWord_69 (by decide) ?_
                have e1 : false = (okB tx n p && allb (lq tx (tS tx n p)) (k + 1)) := by first | (rw [allb_s, ← Bool.and_assoc, h42]; rfl) | (rw [allb_s, ← Bool.and_assoc, show lq tx (tS tx n p) k = false from h57, Bool.and_false])
                rw [e1]
                exact ih33 (k + 1) (by omega) (by omega)
              · skip
                refine r_iconst (pc' := 61) (v := bI true) dX7_isWord_60 rfl rfl ?_
                refine r_goto (tgt := 65) dX7_isWord_61 (by decide) ?_
                refine r_istore_n (pc' := 66) (lo' := [some (.ref 60), some (.int (bI true)), some (.int (nI ((tS tx n p) + k)))]) dX7_isWord_65 rfl (by decide) rfl ?_
                refine r_iinc (pc' := 69) (lo' := [some (.ref 60), some (.int (bI true)), some (.int (nI ((tS tx n p) + k + 1)))]) dX7_isWord_66 rfl (by decide) rfl (nI_add ((tS tx n p) + k) 1) rfl ?_
                refine r_goto (tgt := 33) dX7_isWord_69 (by decide) ?_
                have e1 : true = (okB tx n p && allb (lq tx (tS tx n p)) (k + 1)) := by rw [allb_s, ← Bool.and_assoc, show (okB tx n p && allb (lq tx (tS tx n p)) k) = true by simpa using h42, lq]; simp; simp at h57; omega
                rw [e1]
                exact ih33 (k + 1) (by omega) (by omega)
      have e0 : false = (okB tx n p && allb (lq tx (tS tx n p)) 0) := by first | (rw [okB, mT_1.mp h5]; simp [allb]; omega) | (rw [okB]; simp [allb]; intro q; exact absurd (mT_1.mpr q) h5)
      rw [e0]
      exact L33 ((tE tx n p) - (tS tx n p) + 1) 0 (by omega) (Nat.zero_le _)
    · skip
      refine r_iconst (pc' := 23) (v := bI true) dX7_isWord_22 rfl rfl ?_
      refine r_goto (tgt := 27) dX7_isWord_23 (by decide) ?_
      refine r_istore_n (pc' := 28) (lo' := [some (.ref 60), some (.int (bI true)), none]) dX7_isWord_27 rfl (by decide) rfl ?_
      refine r_aload_n (pc' := 29) dX7_isWord_28 rfl rfl ?_
      refine r_get (pc' := 32) fX7_80 dX7_isWord_29 rfl hX rfl ?_
      refine r_istore_n (pc' := 33) (lo' := [some (.ref 60), some (.int (bI true)), some (.int (nI (tS tx n p)))]) dX7_isWord_32 rfl (by decide) rfl ?_
      have L33 : ∀ (fu : Nat) (k : Nat), (tE tx n p) - (tS tx n p) - k < fu → k ≤ (tE tx n p) - (tS tx n p) → Wp g yX7_isWord cX7_isWord 3 (some .boolean) 2 0 0 (px_MQ g Q 0 0) 0 0 33 [some (.ref 60), some (.int (bI (okB tx n p && allb (lq tx (tS tx n p)) k))), some (.int (nI ((tS tx n p) + k)))] [] w := by
        intro fu; induction fu with
        | zero => intro k hm; exact absurd hm (Nat.not_lt_zero _)
        | succ fu ih =>
          intro k hm hk
          have ih33 := ih; clear ih
          refine r_iload_n (pc' := 34) dX7_isWord_33 rfl rfl ?_
          refine r_aload_n (pc' := 35) dX7_isWord_34 rfl rfl ?_
          refine r_get (pc' := 38) fX7_73 dX7_isWord_35 rfl hX rfl ?_
          refine r_icmp_ge (pc' := 41) (P := tE tx n p ≤ (tS tx n p) + k) (tgt := 72) dX7_isWord_38 (by decide) rfl (nI_leI (a := tE tx n p) (b := (tS tx n p) + k) (by omega) (by omega)) (fun h38 => ?_) (fun h38 => ?_)
          · obtain rfl : k = (tE tx n p) - (tS tx n p) := by omega
            refine r_iload_n (pc' := 73) dX7_isWord_72 rfl rfl ?_
            refine r_zreturn dX7_isWord_73 rfl (bI_nar _) ?_
            exact px_eqB hQ (okR_b tx n p).symm
          · skip
            refine r_iload_n (pc' := 42) dX7_isWord_41 rfl rfl ?_
            refine r_if_eq (pc' := 45) (P := (okB tx n p && allb (lq tx (tS tx n p)) k) = false) (tgt := 64) dX7_isWord_42 (by decide) rfl (bI_0) (fun h42 => ?_) (fun h42 => ?_)
            · skip
              refine r_iconst (pc' := 65) (v := bI false) dX7_isWord_64 rfl rfl ?_
              refine r_istore_n (pc' := 66) (lo' := [some (.ref 60), some (.int (bI false)), some (.int (nI ((tS tx n p) + k)))]) dX7_isWord_65 rfl (by decide) rfl ?_
              refine r_iinc (pc' := 69) (lo' := [some (.ref 60), some (.int (bI false)), some (.int (nI ((tS tx n p) + k + 1)))]) dX7_isWord_66 rfl (by decide) rfl (nI_add ((tS tx n p) + k) 1) rfl ?_
              refine r_goto (tgt := 33) dX7_isWord_69 (by decide) ?_
              have e1 : false = (okB tx n p && allb (lq tx (tS tx n p)) (k + 1)) := by first | (rw [allb_s, ← Bool.and_assoc, h42]; rfl) | (rw [allb_s, ← Bool.and_assoc, show lq tx (tS tx n p) k = false from h57, Bool.and_false])
              rw [e1]
              exact ih33 (k + 1) (by omega) (by omega)
            · skip
              refine r_aload_n (pc' := 46) dX7_isWord_45 rfl rfl ?_
              refine r_iload_n (pc' := 47) dX7_isWord_46 rfl rfl ?_
              refine r_callV (pc' := 50) (av := [.int (nI ((tS tx n p) + k))]) (rest := []) kX7_letterAt vX7_letterAt lX7_76 dX7_isWord_47 rfl hX rfl rfl rfl ⟨by decide, by decide, by decide⟩ rfl rfl (Nat.le_of_ble_eq_true rfl) (ct_lt_n hX hx rt hn (i := (tS tx n p) + k) (by omega) ?_)
              show Wp g yX7_isWord cX7_isWord 3 (some .boolean) 2 0 0 (px_MQ g Q 0 0) 0 0 50 [some (.ref 60), some (.int (bI (okB tx n p && allb (lq tx (tS tx n p)) k))), some (.int (nI ((tS tx n p) + k)))] [.int (nI (tx ((tS tx n p) + k)))] w
              have t47 := (rt ((tS tx n p) + k) (by omega)).2
              refine r_bipush (pc' := 52) (v := nI 97) dX7_isWord_50 rfl rfl ?_
              refine r_bipush (pc' := 54) (v := nI 104) dX7_isWord_52 rfl rfl ?_
              refine r_callS (pc' := 57) (av := [.int (nI (tx ((tS tx n p) + k))), .int (nI 97), .int (nI 104)]) (rest := []) kX7_in vX7_in lX7_66 dX7_isWord_54 rfl rfl rfl ⟨by decide, by decide, by decide⟩ rfl rfl (Nat.le_of_ble_eq_true rfl) (ct_in_n (a := tx ((tS tx n p) + k)) (lo := 97) (hi := 104) (by omega) (by decide) (by decide) ?_)
              show Wp g yX7_isWord cX7_isWord 3 (some .boolean) 2 0 0 (px_MQ g Q 0 0) 0 0 57 [some (.ref 60), some (.int (bI (okB tx n p && allb (lq tx (tS tx n p)) k))), some (.int (nI ((tS tx n p) + k)))] [.int (bI ((decide (97 ≤ tx ((tS tx n p) + k)) && decide (tx ((tS tx n p) + k) ≤ 104))))] w
              refine r_if_eq (pc' := 60) (P := ((decide (97 ≤ tx ((tS tx n p) + k)) && decide (tx ((tS tx n p) + k) ≤ 104))) = false) (tgt := 64) dX7_isWord_57 (by decide) rfl (bI_0) (fun h57 => ?_) (fun h57 => ?_)
              · skip
                refine r_iconst (pc' := 65) (v := bI false) dX7_isWord_64 rfl rfl ?_
                refine r_istore_n (pc' := 66) (lo' := [some (.ref 60), some (.int (bI false)), some (.int (nI ((tS tx n p) + k)))]) dX7_isWord_65 rfl (by decide) rfl ?_
                refine r_iinc (pc' := 69) (lo' := [some (.ref 60), some (.int (bI false)), some (.int (nI ((tS tx n p) + k + 1)))]) dX7_isWord_66 rfl (by decide) rfl (nI_add ((tS tx n p) + k) 1) rfl ?_
                refine r_goto (tgt := 33) dX7_isWord_69 (by decide) ?_
                have e1 : false = (okB tx n p && allb (lq tx (tS tx n p)) (k + 1)) := by first | (rw [allb_s, ← Bool.and_assoc, h42]; rfl) | (rw [allb_s, ← Bool.and_assoc, show lq tx (tS tx n p) k = false from h57, Bool.and_false])
                rw [e1]
                exact ih33 (k + 1) (by omega) (by omega)
              · skip
                refine r_iconst (pc' := 61) (v := bI true) dX7_isWord_60 rfl rfl ?_
                refine r_goto (tgt := 65) dX7_isWord_61 (by decide) ?_
                refine r_istore_n (pc' := 66) (lo' := [some (.ref 60), some (.int (bI true)), some (.int (nI ((tS tx n p) + k)))]) dX7_isWord_65 rfl (by decide) rfl ?_
                refine r_iinc (pc' := 69) (lo' := [some (.ref 60), some (.int (bI true)), some (.int (nI ((tS tx n p) + k + 1)))]) dX7_isWord_66 rfl (by decide) rfl (nI_add ((tS tx n p) + k) 1) rfl ?_
                refine r_goto (tgt := 33) dX7_isWord_69 (by decide) ?_
                have e1 : true = (okB tx n p && allb (lq tx (tS tx n p)) (k + 1)) := by rw [allb_s, ← Bool.and_assoc, show (okB tx n p && allb (lq tx (tS tx n p)) k) = true by simpa using h42, lq]; simp; simp at h57; omega
                rw [e1]
                exact ih33 (k + 1) (by omega) (by omega)
      have e0 : true = (okB tx n p && allb (lq tx (tS tx n p)) 0) := by first | (rw [okB, mT_1.mp h5]; simp [allb]; omega) | (rw [okB]; simp [allb]; intro q; exact absurd (mT_1.mpr q) h5)
      rw [e0]
      exact L33 ((tE tx n p) - (tS tx n p) + 1) 0 (by omega) (Nat.zero_le _)
/-- the reference's rows while a text is read: T is told, D is being told -/
def MtE (D : px_T) (fm fz fl fs fd g0 g1 g2 g3 : Nat → Int32) : Prop := (fm 3 = nI (tW D) ∧ fm 4 = nI (tD D) ∧ fm 5 = nI (tG D)) ∧ (∀ i, i < tW D → fz (6 + i) = nI (tl D i) ∧ fs (6 + i) = nI (ts D i)) ∧ (∀ i x, i < tW D → x < tl D i → fl (36 + 6 * i + x) = nI (tc D i x)) ∧ (∀ d, d < tD D → fd (4 + d) = nI (td D d)) ∧ (∀ j, j < tG D → g0 (6 + j) = nI (tg D j 0) ∧ g1 (6 + j) = nI (tg D j 1) ∧ g2 (6 + j) = nI (tg D j 2) ∧ g3 (6 + j) = nI (tg D j 3)) ∧ SubB D
def MtC (w : px_W) (fm fz fl fs fd g0 g1 g2 g3 : Nat → Int32) : Prop := w[62]? = some (.inl (0, 6, .inl fm)) ∧ w[63]? = some (.inl (0, 12, .inl fz)) ∧ w[64]? = some (.inl (0, 72, .inl fl)) ∧ w[65]? = some (.inl (0, 12, .inl fs)) ∧ w[66]? = some (.inl (0, 8, .inl fd)) ∧ w[67]? = some (.inl (0, 12, .inl g0)) ∧ w[68]? = some (.inl (0, 12, .inl g1)) ∧ w[69]? = some (.inl (0, 12, .inl g2)) ∧ w[70]? = some (.inl (0, 12, .inl g3))
def MtD (w : px_W) (T D : px_T) : Prop := ∃ fm fz fl fs fd g0 g1 g2 g3 : Nat → Int32, MtC w fm fz fl fs fd g0 g1 g2 g3 ∧ MtF T fm fz fl fs fd g0 g1 g2 g3 ∧ MtE D fm fz fl fs fd g0 g1 g2 g3
theorem MtD.a {w : px_W} {T D : px_T} (h : MtD w T D) : MtA w T := by
  obtain ⟨fm, fz, fl, fs, fd, g0, g1, g2, g3, h1, h2, _⟩ := h
  exact ⟨fm, fz, fl, fs, fd, g0, g1, g2, g3, h1, h2⟩
theorem MtC.fr {w w' : px_W} {a b : Nat} {fm fz fl fs fd g0 g1 g2 g3 : Nat → Int32} (h : MtC w fm fz fl fs fd g0 g1 g2 g3) (hF : Frm w w' a b) (hk : 71 ≤ a ∨ b ≤ 62) : MtC w' fm fz fl fs fd g0 g1 g2 g3 := by
  obtain ⟨c1, c2, c3, c4, c5, c6, c7, c8, c9⟩ := h
  exact ⟨hF.at c1 (by omega), hF.at c2 (by omega), hF.at c3 (by omega), hF.at c4 (by omega), hF.at c5 (by omega), hF.at c6 (by omega), hF.at c7 (by omega), hF.at c8 (by omega), hF.at c9 (by omega)⟩
theorem MtD.fr {w w' : px_W} {a b : Nat} {T D : px_T} (h : MtD w T D) (hF : Frm w w' a b) (hk : 71 ≤ a ∨ b ≤ 62) : MtD w' T D := by
  obtain ⟨fm, fz, fl, fs, fd, g0, g1, g2, g3, h1, h2⟩ := h
  exact ⟨fm, fz, fl, fs, fd, g0, g1, g2, g3, h1.fr hF hk, h2⟩
theorem mV_r {tx : Nat → Nat} {n p : Nat} {va : Int32} (h : tC tx n p = 2) : mV tx n p va = nI (if tE tx n p - tS tx n p = 1 then tx (tS tx n p) else 0) := by
  rw [mV, if_neg (by omega), if_pos h]
theorem beg_r {tx : Nat → Nat} {n p v : Nat} (h : tC tx n p = 2) (hv : v ≠ 0) : beg tx n p v = decide ((if tE tx n p - tS tx n p = 1 then tx (tS tx n p) else 0) = v) := by
  rw [beg, h]
  split
  · next e => rw [e]; simp; rfl
  · next e =>
    have e2 : (tE tx n p - tS tx n p == 1) = false := by simpa using e
    rw [e2]
    exact (decide_eq_false (fun q => hv q.symm)).symm
set_option maxHeartbeats 200000 in
theorem ct_X7_mayBegin {g : px_G} {w : px_W} {Q : px_Q} {tr : Int64} {va fa um : Int32} {n p : Nat} {tx : Nat → Nat} {fs : Nat → Int32} (hX : w[60]? = some (mop tr tx n p va fa um)) (hx : w[61]? = some (.inl (0, 150, .inl fs))) (rt : ∀ j, j < n → fs j = nI (tx j) ∧ tx j < 256) (hn : n ≤ 150) (hp : p ≤ n) {D : px_T} {fm : Nat → Int32} (cm : w[62]? = some (.inl (0, 6, .inl fm))) (hm : fm 3 = nI (tW D) ∧ fm 4 = nI (tD D) ∧ fm 5 = nI (tG D)) (hb : tW D ≤ 6 ∧ tD D ≤ 4 ∧ tG D ≤ 6) (h2 : tC tx n p = 2) (hQ : Q (some (.int (bI (beg tx n p 119 && decide (tW D < 6) || beg tx n p 100 && decide (tD D < 4) || beg tx n p 103 && decide (tG D < 6))))) w) : Ct g yX7_mayBegin cX7_mayBegin 1 (some .boolean) 1 0 0 [.ref 60] w Q := by
  refine Ct.of kX7_mayBegin (by omega) (lo := [some (.ref 60)]) rfl (px_cat1 rfl) (Nat.le_of_ble_eq_true rfl) ?_
  have b1 := tS_le (tx := tx) hp
  have b2 := tE_ge tx n p
  have b3 : tE tx n p ≤ n := tE_le hp
  have b4 := mT_b tx n p
  have hvq : (if tE tx n p - tS tx n p = 1 then tx (tS tx n p) else 0) < 256 := by split; exact (rt _ (by have := mt tC_0.mpr (show ¬ tC tx n p = 0 by omega); omega)).2; decide
  have ev := mV_r (va := va) h2
  have g1 := beg_r (v := 119) h2 (by decide)
  have g2 := beg_r (v := 100) h2 (by decide)
  have g3 := beg_r (v := 103) h2 (by decide)
  refine r_aload_n (pc' := 1) dX7_mayBegin_0 rfl rfl ?_
  refine r_get (pc' := 4) fX7_86 dX7_mayBegin_1 rfl hX rfl ?_
  refine r_bipush (pc' := 6) (v := nI 119) dX7_mayBegin_4 rfl rfl ?_
  refine r_icmp_ne (pc' := 9) (P := (if tE tx n p - tS tx n p = 1 then tx (tS tx n p) else 0) = 119) (tgt := 26) dX7_mayBegin_6 (by decide) rfl ((by rw [ev]; exact nI_eq (by omega) (by decide))) (fun h6 => ?_) (fun h6 => ?_)
  · skip
    refine r_aload_n (pc' := 27) dX7_mayBegin_26 rfl rfl ?_
    refine r_get (pc' := 30) fX7_86 dX7_mayBegin_27 rfl hX rfl ?_
    refine r_bipush (pc' := 32) (v := nI 100) dX7_mayBegin_30 rfl rfl ?_
    refine r_icmp_ne (pc' := 35) (P := (if tE tx n p - tS tx n p = 1 then tx (tS tx n p) else 0) = 100) (tgt := 53) dX7_mayBegin_32 (by decide) rfl ((by rw [ev]; exact nI_eq (by omega) (by decide))) (fun h32 => ?_) (fun h32 => ?_)
    · skip
      refine r_aload_n (pc' := 54) dX7_mayBegin_53 rfl rfl ?_
      refine r_get (pc' := 57) fX7_86 dX7_mayBegin_54 rfl hX rfl ?_
      refine r_bipush (pc' := 59) (v := nI 103) dX7_mayBegin_57 rfl rfl ?_
      refine r_icmp_ne (pc' := 62) (P := (if tE tx n p - tS tx n p = 1 then tx (tS tx n p) else 0) = 103) (tgt := 77) dX7_mayBegin_59 (by decide) rfl ((by rw [ev]; exact nI_eq (by omega) (by decide))) (fun h59 => ?_) (fun h59 => ?_)
      · skip
        refine r_iconst (pc' := 78) (v := bI false) dX7_mayBegin_77 rfl rfl ?_
        refine r_zreturn dX7_mayBegin_78 rfl (bI_nar _) ?_
        refine px_eqB hQ ?_
        rw [g1, g2, g3]
        first | (simp [h6]; omega) | (simp [h6, h32]; omega) | (simp [h6, h32, h59]; omega) | (simp [h6, h32, h59]; done) | (simp [h6, h32]; done) | (simp [h6]; done)
      · skip
        refine r_aload_n (pc' := 63) dX7_mayBegin_62 rfl rfl ?_
        refine r_get (pc' := 66) fX7_13 dX7_mayBegin_63 rfl hX rfl ?_
        refine r_iconst (pc' := 67) (v := nI 5) dX7_mayBegin_66 rfl rfl ?_
        refine r_iaload (pc' := 68) (v := nI (tG D)) dX7_mayBegin_67 rfl cm (vp_in_nI (n := 5) (by omega) (by omega)) (by rw [nI_cl (by omega)]; exact hm.2.2) ?_
        refine r_bipush (pc' := 70) (v := nI 6) dX7_mayBegin_68 rfl rfl ?_
        refine r_icmp_ge (pc' := 73) (P := 6 ≤ tG D) (tgt := 77) dX7_mayBegin_70 (by decide) rfl (nI_leI (a := 6) (b := tG D) (by omega) (by omega)) (fun h70 => ?_) (fun h70 => ?_)
        · skip
          refine r_iconst (pc' := 78) (v := bI false) dX7_mayBegin_77 rfl rfl ?_
          refine r_zreturn dX7_mayBegin_78 rfl (bI_nar _) ?_
          refine px_eqB hQ ?_
          rw [g1, g2, g3]
          first | (simp [h6]; omega) | (simp [h6, h32]; omega) | (simp [h6, h32, h59]; omega) | (simp [h6, h32, h59]; done) | (simp [h6, h32]; done) | (simp [h6]; done)
        · skip
          refine r_iconst (pc' := 74) (v := bI true) dX7_mayBegin_73 rfl rfl ?_
          refine r_goto (tgt := 78) dX7_mayBegin_74 (by decide) ?_
          refine r_zreturn dX7_mayBegin_78 rfl (bI_nar _) ?_
          refine px_eqB hQ ?_
          rw [g1, g2, g3]
          first | (simp [h6]; omega) | (simp [h6, h32]; omega) | (simp [h6, h32, h59]; omega) | (simp [h6, h32, h59]; done) | (simp [h6, h32]; done) | (simp [h6]; done)
    · skip
      refine r_aload_n (pc' := 36) dX7_mayBegin_35 rfl rfl ?_
      refine r_get (pc' := 39) fX7_13 dX7_mayBegin_36 rfl hX rfl ?_
      refine r_iconst (pc' := 40) (v := nI 4) dX7_mayBegin_39 rfl rfl ?_
      refine r_iaload (pc' := 41) (v := nI (tD D)) dX7_mayBegin_40 rfl cm (vp_in_nI (n := 4) (by omega) (by omega)) (by rw [nI_cl (by omega)]; exact hm.2.1) ?_
      refine r_iconst (pc' := 42) (v := nI 4) dX7_mayBegin_41 rfl rfl ?_
      refine r_icmp_ge (pc' := 45) (P := 4 ≤ tD D) (tgt := 49) dX7_mayBegin_42 (by decide) rfl (nI_leI (a := 4) (b := tD D) (by omega) (by omega)) (fun h42 => ?_) (fun h42 => ?_)
      · skip
        refine r_iconst (pc' := 50) (v := bI false) dX7_mayBegin_49 rfl rfl ?_
        refine r_goto (tgt := 78) dX7_mayBegin_50 (by decide) ?_
        refine r_zreturn dX7_mayBegin_78 rfl (bI_nar _) ?_
        refine px_eqB hQ ?_
        rw [g1, g2, g3]
        first | (simp [h6]; omega) | (simp [h6, h32]; omega) | (simp [h6, h32, h59]; omega) | (simp [h6, h32, h59]; done) | (simp [h6, h32]; done) | (simp [h6]; done)
      · skip
        refine r_iconst (pc' := 46) (v := bI true) dX7_mayBegin_45 rfl rfl ?_
        refine r_goto (tgt := 78) dX7_mayBegin_46 (by decide) ?_
        refine r_zreturn dX7_mayBegin_78 rfl (bI_nar _) ?_
        refine px_eqB hQ ?_
        rw [g1, g2, g3]
        first | (simp [h6]; omega) | (simp [h6, h32]; omega) | (simp [h6, h32, h59]; omega) | (simp [h6, h32, h59]; done) | (simp [h6, h32]; done) | (simp [h6]; done)
  · skip
    refine r_aload_n (pc' := 10) dX7_mayBegin_9 rfl rfl ?_
    refine r_get (pc' := 13) fX7_13 dX7_mayBegin_10 rfl hX rfl ?_
    refine r_iconst (pc' := 14) (v := nI 3) dX7_mayBegin_13 rfl rfl ?_
    refine r_iaload (pc' := 15) (v := nI (tW D)) dX7_mayBegin_14 rfl cm (vp_in_nI (n := 3) (by omega) (by omega)) (by rw [nI_cl (by omega)]; exact hm.1) ?_
    refine r_bipush (pc' := 17) (v := nI 6) dX7_mayBegin_15 rfl rfl ?_
    refine r_icmp_ge (pc' := 20) (P := 6 ≤ tW D) (tgt := 24) dX7_mayBegin_17 (by decide) rfl (nI_leI (a := 6) (b := tW D) (by omega) (by omega)) (fun h17 => ?_) (fun h17 => ?_)
    · skip
      refine r_iconst (pc' := 25) (v := bI false) dX7_mayBegin_24 rfl rfl ?_
      refine r_zreturn dX7_mayBegin_25 rfl (bI_nar _) ?_
      refine px_eqB hQ ?_
      rw [g1, g2, g3]
      first | (simp [h6]; omega) | (simp [h6, h32]; omega) | (simp [h6, h32, h59]; omega) | (simp [h6, h32, h59]; done) | (simp [h6, h32]; done) | (simp [h6]; done)
    · skip
      refine r_iconst (pc' := 21) (v := bI true) dX7_mayBegin_20 rfl rfl ?_
      refine r_goto (tgt := 25) dX7_mayBegin_21 (by decide) ?_
      refine r_zreturn dX7_mayBegin_25 rfl (bI_nar _) ?_
      refine px_eqB hQ ?_
      rw [g1, g2, g3]
      first | (simp [h6]; omega) | (simp [h6, h32]; omega) | (simp [h6, h32, h59]; omega) | (simp [h6, h32, h59]; done) | (simp [h6, h32]; done) | (simp [h6]; done)
