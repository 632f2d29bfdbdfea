theorem oN_none {o : Option Nat} (h : ∀ v, o = some v → v < 2 ^ 31) : oN o = -9 ↔ o = none := by
  cases o with
  | none => exact ⟨fun _ => rfl, fun _ => rfl⟩
  | some v => exact ⟨fun e => absurd e (nI_neg (h v rfl) (by decide)), fun e => by cases e⟩
def cpL (a b : Nat) : Nat → Nat
  | 0 => 1
  | n + 1 => if n = 0 then 1 else if a % (n + 1) = 0 ∧ b % (n + 1) = 0 then n + 1 else cpL a b n
def cmp (a b : Nat) : Nat := cpL a b (if a < b then b else a)
theorem cpL_1 (a b n : Nat) (h : n ≤ 1) : cpL a b n = 1 := by
  cases n with
  | zero => rfl
  | succ n => have : n = 0 := by omega
              subst this; rfl
theorem cpL_pos (a b : Nat) : ∀ n, 1 ≤ cpL a b n
  | 0 => Nat.le_refl _
  | n + 1 => by
    unfold cpL
    split
    · exact Nat.le_refl _
    · split
      · omega
      · exact cpL_pos a b n
theorem cpL_le (a b : Nat) : ∀ n, cpL a b n ≤ n + 1
  | 0 => Nat.le_refl _
  | n + 1 => by
    unfold cpL
    split
    · omega
    · split
      · omega
      · have := cpL_le a b n; omega
set_option maxHeartbeats 200000 in
theorem ct_X6_heaviestAlikeAt {g : px_G} {w : px_W} {Q : px_Q} {ik : Int32} {tr : Int64} {T : px_T} {M : px_N} (hX : w[0]? = some (.inr (5, [.ref 1, .ref 9, .ref 15, .ref 18, .ref 51, .ref 59, .int ik, .long tr]))) (hT : SubA w 9 T) (hO : TOK T) (hM : MorA w 15 M) {x fits : Nat} (hx : x < 2 ^ 20) (hf : fits < 2 ^ 20) (hQ : Q (some (.int (nI (hvy T x fits)))) w) : Ct g yX6_heaviestAlikeAt cX6_heaviestAlikeAt 5 (some .int) 5 0 0 [.ref 0, .int (nI x), .int (nI fits)] w Q := by
  refine Ct.of kX6_heaviestAlikeAt (by omega) (lo := [some (.ref 0), some (.int (nI x)), some (.int (nI fits)), none, none]) rfl (px_cat1 rfl) (Nat.le_of_ble_eq_true rfl) ?_
  obtain ⟨⟨sb1, sb2, sb3⟩, sb4, sb5⟩ := hT.b
  obtain ⟨mB1, mB2, mB3⟩ := hM.b
  refine r_iconst (pc' := 1) (v := nI 0) dX6_heaviestAlikeAt_0 rfl rfl ?_
  refine r_istore_n (pc' := 2) (lo' := [some (.ref 0), some (.int (nI x)), some (.int (nI fits)), some (.int (nI 0)), none]) dX6_heaviestAlikeAt_1 rfl (by decide) rfl ?_
  refine r_iconst (pc' := 3) (v := nI 0) dX6_heaviestAlikeAt_2 rfl rfl ?_
  refine r_istore (pc' := 5) (lo' := [some (.ref 0), some (.int (nI x)), some (.int (nI fits)), some (.int (nI 0)), some (.int (nI 0))]) dX6_heaviestAlikeAt_3 rfl (by decide) rfl ?_
  have L5 : ∀ (fu : Nat) (c : Nat), 9 - c < fu → c ≤ 9 → Wp g yX6_heaviestAlikeAt cX6_heaviestAlikeAt 5 (some .int) 5 0 0 (px_MQ g Q 0 0) 0 0 5 [some (.ref 0), some (.int (nI x)), some (.int (nI fits)), some (.int (nI (nmax (fun c => wgt T (fits &&& bset (fun i => tc T i x == c) (tW T))) c))), some (.int (nI c))] [] w := by
    intro fu; induction fu with
    | zero => intro c hm; exact absurd hm (Nat.not_lt_zero _)
    | succ fu ih =>
      intro c hm hc
      have ih5 := ih; clear ih
      refine r_iload (pc' := 7) dX6_heaviestAlikeAt_5 rfl rfl ?_
      refine r_bipush (pc' := 9) (v := nI 8) dX6_heaviestAlikeAt_7 rfl rfl ?_
      refine r_icmp_gt (pc' := 12) (P := 8 < c) (tgt := 42) dX6_heaviestAlikeAt_9 (by decide) rfl (nI_ltI (a := 8) (b := c) (by omega) (by omega)) (fun h9 => ?_) (fun h9 => ?_)
      · have hc2 : c = 9 := by omega
        subst hc2
        refine r_iload_n (pc' := 43) dX6_heaviestAlikeAt_42 rfl rfl ?_
        refine r_ireturn dX6_heaviestAlikeAt_43 rfl ?_
        exact hQ
      · skip
        refine r_iload_n (pc' := 13) dX6_heaviestAlikeAt_12 rfl rfl ?_
        refine r_aload_n (pc' := 14) dX6_heaviestAlikeAt_13 rfl rfl ?_
        refine r_get (pc' := 17) fX6_19 dX6_heaviestAlikeAt_14 rfl hX rfl ?_
        refine r_iload_n (pc' := 18) dX6_heaviestAlikeAt_17 rfl rfl ?_
        refine r_aload_n (pc' := 19) dX6_heaviestAlikeAt_18 rfl rfl ?_
        refine r_get (pc' := 22) fX6_19 dX6_heaviestAlikeAt_19 rfl hX rfl ?_
        refine r_iload_n (pc' := 23) dX6_heaviestAlikeAt_22 rfl rfl ?_
        refine r_iload (pc' := 25) dX6_heaviestAlikeAt_23 rfl rfl ?_
        refine r_callV (pc' := 28) (av := [.int (nI x), .int (nI c)]) (rest := [.int (nI fits), .ref 9, .int (nI (nmax (fun c => wgt T (fits &&& bset (fun i => tc T i x == c) (tW T))) c))]) kX5_wordsWith vX5_wordsWith lX6_258 dX6_heaviestAlikeAt_25 rfl hT.o rfl rfl rfl ⟨by decide, by decide, by decide⟩ rfl rfl (Nat.le_of_ble_eq_true rfl) (ct_X5_wordsWith hT hO (x := x) (c := c) (by omega) (by omega) ?_)
        show Wp g yX6_heaviestAlikeAt cX6_heaviestAlikeAt 5 (some .int) 5 0 0 (px_MQ g Q 0 0) 0 0 28 [some (.ref 0), some (.int (nI x)), some (.int (nI fits)), some (.int (nI (nmax (fun c => wgt T (fits &&& bset (fun i => tc T i x == c) (tW T))) c))), some (.int (nI c))] [.int (nI (bset (fun i => tc T i x == c) (tW T))), .int (nI fits), .ref 9, .int (nI (nmax (fun c => wgt T (fits &&& bset (fun i => tc T i x == c) (tW T))) c))] w
        refine r_iand (pc' := 29) (v := nI (fits &&& (bset (fun i => tc T i x == c) (tW T)))) dX6_heaviestAlikeAt_28 rfl (and_n fits (bset (fun i => tc T i x == c) (tW T))) ?_
        refine r_callV (pc' := 32) (av := [.int (nI (fits &&& (bset (fun i => tc T i x == c) (tW T))))]) (rest := [.int (nI (nmax (fun c => wgt T (fits &&& bset (fun i => tc T i x == c) (tW T))) c))]) kX5_weightOf vX5_weightOf lX6_178 dX6_heaviestAlikeAt_29 rfl hT.o rfl rfl rfl ⟨by decide, by decide, by decide⟩ rfl rfl (Nat.le_of_ble_eq_true rfl) (ct_X5_weightOf hT hO (bits := fits &&& (bset (fun i => tc T i x == c) (tW T))) (and_lt31 (by omega)) ?_)
        show Wp g yX6_heaviestAlikeAt cX6_heaviestAlikeAt 5 (some .int) 5 0 0 (px_MQ g Q 0 0) 0 0 32 [some (.ref 0), some (.int (nI x)), some (.int (nI fits)), some (.int (nI (nmax (fun c => wgt T (fits &&& bset (fun i => tc T i x == c) (tW T))) c))), some (.int (nI c))] [.int (nI (wgt T (fits &&& (bset (fun i => tc T i x == c) (tW T))))), .int (nI (nmax (fun c => wgt T (fits &&& bset (fun i => tc T i x == c) (tW T))) c))] w
        have e29 := wgt_le hO hT.b (fits &&& (bset (fun i => tc T i x == c) (tW T)))
        have e30 : nmax (fun c => wgt T (fits &&& bset (fun i => tc T i x == c) (tW T))) c ≤ 54 := nmax_le (fun c => wgt_le hO hT.b _) c
        refine r_mmax (pc' := 35) (v := nI (nmax (fun c => wgt T (fits &&& bset (fun i => tc T i x == c) (tW T))) (c + 1))) lX6_261 mS_max mI mC_max dX6_heaviestAlikeAt_32 rfl (by rw [mx_n (by omega) (by omega)]; rfl) ⟨by decide, by decide⟩ (Nat.le_of_ble_eq_true rfl) ?_
        refine r_istore_n (pc' := 36) (lo' := [some (.ref 0), some (.int (nI x)), some (.int (nI fits)), some (.int (nI (nmax (fun c => wgt T (fits &&& bset (fun i => tc T i x == c) (tW T))) (c + 1)))), some (.int (nI c))]) dX6_heaviestAlikeAt_35 rfl (by decide) rfl ?_
        refine r_iinc (pc' := 39) (lo' := [some (.ref 0), some (.int (nI x)), some (.int (nI fits)), some (.int (nI (nmax (fun c => wgt T (fits &&& bset (fun i => tc T i x == c) (tW T))) (c + 1)))), some (.int (nI (c + 1)))]) dX6_heaviestAlikeAt_36 rfl (by decide) rfl (nI_add c 1) rfl ?_
        refine r_goto (tgt := 5) dX6_heaviestAlikeAt_39 (by decide) ?_
        exact ih5 (c + 1) (by omega) (by omega)
  exact L5 ((9) + 1) 0 (Nat.lt_succ_self _) (by omega)
set_option maxHeartbeats 200000 in
theorem ct_X6_lookOn {g : px_G} {w : px_W} {Q : px_Q} {ik : Int32} {tr : Int64} {T : px_T} {M : px_N} (hX : w[0]? = some (.inr (5, [.ref 1, .ref 9, .ref 15, .ref 18, .ref 51, .ref 59, .int ik, .long tr]))) (hT : SubA w 9 T) (hO : TOK T) (hM : MorA w 15 M) {d : Nat} (hd : d < tD T) (hQ : Q (some (.int (oN (lookS T M d)))) w) : Ct g yX6_lookOn cX6_lookOn 8 (some .int) 6 0 0 [.ref 0, .int (nI d)] w Q := by
  refine Ct.of kX6_lookOn (by omega) (lo := [some (.ref 0), some (.int (nI d)), none, none, none, none, none, none]) rfl (px_cat1 rfl) (Nat.le_of_ble_eq_true rfl) ?_
  obtain ⟨⟨sb1, sb2, sb3⟩, sb4, sb5⟩ := hT.b
  obtain ⟨mB1, mB2, mB3⟩ := hM.b
  refine r_aload_n (pc' := 1) dX6_lookOn_0 rfl rfl ?_
  refine r_iload_n (pc' := 2) dX6_lookOn_1 rfl rfl ?_
  refine r_callV (pc' := 5) (av := [.int (nI d)]) (rest := []) kX6_fitsOf vX6_fitsOf lX6_107 dX6_lookOn_2 rfl hX rfl rfl rfl ⟨by decide, by decide, by decide⟩ rfl rfl (Nat.le_of_ble_eq_true rfl) (ct_X6_fitsOf hX hT hO hM (d := d) (by omega) ?_)
  show Wp g yX6_lookOn cX6_lookOn 8 (some .int) 6 0 0 (px_MQ g Q 0 0) 0 0 5 [some (.ref 0), some (.int (nI d)), none, none, none, none, none, none] [.int (nI (fitS T M d))] w
  have e2 := fitS_lt (M := M) (d := d) sb1
  refine r_istore_n (pc' := 6) (lo' := [some (.ref 0), some (.int (nI d)), some (.int (nI (fitS T M d))), none, none, none, none, none]) dX6_lookOn_5 rfl (by decide) rfl ?_
  refine r_iload_n (pc' := 7) dX6_lookOn_6 rfl rfl ?_
  refine r_callS (pc' := 10) (av := [.int (nI (fitS T M d))]) (rest := []) kJ6_bitCount_0f7a4 vJ6_bitCount_0f7a4 lX6_155 dX6_lookOn_7 rfl rfl rfl ⟨by decide, by decide, by decide⟩ rfl rfl (Nat.le_of_ble_eq_true rfl) (ct_J6_bitCount_0f7a4 (n := fitS T M d) (by first | omega | assumption) ?_)
  show Wp g yX6_lookOn cX6_lookOn 8 (some .int) 6 0 0 (px_MQ g Q 0 0) 0 0 10 [some (.ref 0), some (.int (nI d)), some (.int (nI (fitS T M d))), none, none, none, none, none] [.int (nI (popc (fitS T M d)))] w
  have e7 := popc_le (fitS T M d)
  refine r_iconst (pc' := 11) (v := nI 2) dX6_lookOn_10 rfl rfl ?_
  refine r_icmp_ge (pc' := 14) (P := 2 ≤ popc (fitS T M d)) (tgt := 17) dX6_lookOn_11 (by decide) rfl (nI_leI (a := 2) (b := popc (fitS T M d)) (by omega) (by omega)) (fun h11 => ?_) (fun h11 => ?_)
  · skip
    refine r_bipush (pc' := 19) (v := (-9)) dX6_lookOn_17 rfl rfl ?_
    refine r_istore_n (pc' := 20) (lo' := [some (.ref 0), some (.int (nI d)), some (.int (nI (fitS T M d))), some (.int ((-9))), none, none, none, none]) dX6_lookOn_19 rfl (by decide) rfl ?_
    refine r_bipush (pc' := 22) (v := nI 55) dX6_lookOn_20 rfl rfl ?_
    refine r_istore (pc' := 24) (lo' := [some (.ref 0), some (.int (nI d)), some (.int (nI (fitS T M d))), some (.int ((-9))), some (.int (nI 55)), none, none, none]) dX6_lookOn_22 rfl (by decide) rfl ?_
    refine r_aload_n (pc' := 25) dX6_lookOn_24 rfl rfl ?_
    refine r_get (pc' := 28) fX6_19 dX6_lookOn_25 rfl hX rfl ?_
    refine r_iload_n (pc' := 29) dX6_lookOn_28 rfl rfl ?_
    refine r_callV (pc' := 32) (av := [.int (nI d)]) (rest := []) kX5_longOfDrive vX5_longOfDrive lX6_101 dX6_lookOn_29 rfl hT.o rfl rfl rfl ⟨by decide, by decide, by decide⟩ rfl rfl (Nat.le_of_ble_eq_true rfl) (ct_X5_longOfDrive hT (i := d) (by omega) ?_)
    show Wp g yX6_lookOn cX6_lookOn 8 (some .int) 6 0 0 (px_MQ g Q 0 0) 0 0 32 [some (.ref 0), some (.int (nI d)), some (.int (nI (fitS T M d))), some (.int ((-9))), some (.int (nI 55)), none, none, none] [.int (nI (td T d))] w
    have e29 := (hO.2.2.1 d (by omega))
    refine r_istore (pc' := 34) (lo' := [some (.ref 0), some (.int (nI d)), some (.int (nI (fitS T M d))), some (.int ((-9))), some (.int (nI 55)), some (.int (nI (td T d))), none, none]) dX6_lookOn_32 rfl (by decide) rfl ?_
    refine r_iconst (pc' := 35) (v := nI 0) dX6_lookOn_34 rfl rfl ?_
    refine r_istore (pc' := 37) (lo' := [some (.ref 0), some (.int (nI d)), some (.int (nI (fitS T M d))), some (.int ((-9))), some (.int (nI 55)), some (.int (nI (td T d))), some (.int (nI 0)), none]) dX6_lookOn_35 rfl (by decide) rfl ?_
    have L37 : ∀ (fu : Nat) (x : Nat), td T d - x < fu → x ≤ td T d → Wp g yX6_lookOn cX6_lookOn 8 (some .int) 6 0 0 (px_MQ g Q 0 0) 0 0 37 [some (.ref 0), some (.int (nI d)), some (.int (nI (fitS T M d))), some (.int (oN (amin (fun x => (nt M d).testBit x) (fun x => hvy T x (fitS T M d)) x))), some (.int (nI (aval (fun x => hvy T x (fitS T M d)) 55 (amin (fun x => (nt M d).testBit x) (fun x => hvy T x (fitS T M d)) x)))), some (.int (nI (td T d))), some (.int (nI x)), none] [] w := by
      intro fu; induction fu with
      | zero => intro x hm; exact absurd hm (Nat.not_lt_zero _)
      | succ fu ih =>
        intro x hm hx
        have hav : aval (fun x => hvy T x (fitS T M d)) 55 (amin (fun x => (nt M d).testBit x) (fun x => hvy T x (fitS T M d)) x) ≤ 55 := aval_le (fun v _ => by have := hvy_le hO hT.b v (fitS T M d); show hvy _ _ _ ≤ 55; omega)
        have ih37 := ih; clear ih
        refine r_iload (pc' := 39) dX6_lookOn_37 rfl rfl ?_
        refine r_iload (pc' := 41) dX6_lookOn_39 rfl rfl ?_
        refine r_icmp_ge (pc' := 44) (P := td T d ≤ x) (tgt := 91) dX6_lookOn_41 (by decide) rfl (nI_leI (a := td T d) (b := x) (by omega) (by omega)) (fun h41 => ?_) (fun h41 => ?_)
        · have hx2 : x = td T d := by omega
          subst hx2
          refine r_iload_n (pc' := 92) dX6_lookOn_91 rfl rfl ?_
          refine r_ireturn dX6_lookOn_92 rfl ?_
          refine px_eq hQ ?_
          rw [lookS, if_neg (by omega)]
        · skip
          refine r_aload_n (pc' := 45) dX6_lookOn_44 rfl rfl ?_
          refine r_get (pc' := 48) fX6_26 dX6_lookOn_45 rfl hX rfl ?_
          refine r_iload_n (pc' := 49) dX6_lookOn_48 rfl rfl ?_
          refine r_iload (pc' := 51) dX6_lookOn_49 rfl rfl ?_
          refine r_callV (pc' := 54) (av := [.int (nI d), .int (nI x)]) (rest := []) kX0_isTrodden vX0_isTrodden lX6_123 dX6_lookOn_51 rfl hM.o rfl rfl rfl ⟨by decide, by decide, by decide⟩ rfl rfl (Nat.le_of_ble_eq_true rfl) (ct_X0_isTrodden hM (d := d) (x := x) (by omega) (by omega) ?_)
          show Wp g yX6_lookOn cX6_lookOn 8 (some .int) 6 0 0 (px_MQ g Q 0 0) 0 0 54 [some (.ref 0), some (.int (nI d)), some (.int (nI (fitS T M d))), some (.int (oN (amin (fun x => (nt M d).testBit x) (fun x => hvy T x (fitS T M d)) x))), some (.int (nI (aval (fun x => hvy T x (fitS T M d)) 55 (amin (fun x => (nt M d).testBit x) (fun x => hvy T x (fitS T M d)) x)))), some (.int (nI (td T d))), some (.int (nI x)), none] [.int (bI ((nt M d).testBit x))] w
          refine r_if_eq (pc' := 57) (P := ((nt M d).testBit x) = false) (tgt := 67) dX6_lookOn_54 (by decide) rfl (bI_0) (fun h54 => ?_) (fun h54 => ?_)
          · skip
            refine r_iload (pc' := 69) dX6_lookOn_67 rfl rfl ?_
            refine r_istore (pc' := 71) (lo' := [some (.ref 0), some (.int (nI d)), some (.int (nI (fitS T M d))), some (.int (oN (amin (fun x => (nt M d).testBit x) (fun x => hvy T x (fitS T M d)) x))), some (.int (nI (aval (fun x => hvy T x (fitS T M d)) 55 (amin (fun x => (nt M d).testBit x) (fun x => hvy T x (fitS T M d)) x)))), some (.int (nI (td T d))), some (.int (nI x)), some (.int (nI (aval (fun x => hvy T x (fitS T M d)) 55 (amin (fun x => (nt M d).testBit x) (fun x => hvy T x (fitS T M d)) x))))]) dX6_lookOn_69 rfl (by decide) rfl ?_
            refine r_iload (pc' := 73) dX6_lookOn_71 rfl rfl ?_
            refine r_iload (pc' := 75) dX6_lookOn_73 rfl rfl ?_
            refine r_icmp_ge (pc' := 78) (P := aval (fun x => hvy T x (fitS T M d)) 55 (amin (fun x => (nt M d).testBit x) (fun x => hvy T x (fitS T M d)) x) ≤ aval (fun x => hvy T x (fitS T M d)) 55 (amin (fun x => (nt M d).testBit x) (fun x => hvy T x (fitS T M d)) x)) (tgt := 85) dX6_lookOn_75 (by decide) rfl (nI_leI (a := aval (fun x => hvy T x (fitS T M d)) 55 (amin (fun x => (nt M d).testBit x) (fun x => hvy T x (fitS T M d)) x)) (b := aval (fun x => hvy T x (fitS T M d)) 55 (amin (fun x => (nt M d).testBit x) (fun x => hvy T x (fitS T M d)) x)) (by omega) (by omega)) (fun h75 => ?_) (fun h75 => ?_)
            · skip
              refine r_iinc (pc' := 88) (lo' := [some (.ref 0), some (.int (nI d)), some (.int (nI (fitS T M d))), some (.int (oN (amin (fun x => (nt M d).testBit x) (fun x => hvy T x (fitS T M d)) x))), some (.int (nI (aval (fun x => hvy T x (fitS T M d)) 55 (amin (fun x => (nt M d).testBit x) (fun x => hvy T x (fitS T M d)) x)))), some (.int (nI (td T d))), some (.int (nI (x + 1))), some (.int (nI (aval (fun x => hvy T x (fitS T M d)) 55 (amin (fun x => (nt M d).testBit x) (fun x => hvy T x (fitS T M d)) x))))]) dX6_lookOn_85 rfl (by decide) rfl (nI_add x 1) rfl ?_
              refine r_goto (tgt := 37) dX6_lookOn_88 (by decide) ?_
              have e1 := amin_f (p := (fun x => (nt M d).testBit x)) (f := (fun x => hvy T x (fitS T M d))) (n := x) (big := 55) (by have := hvy_le hO hT.b x (fitS T M d); show hvy _ _ _ < 55; omega) (by first | exact Or.inl h54 | exact Or.inr (by omega))
              have hi := ih37 (x + 1) (by omega) (by omega)
              rw [e1] at hi
              refine r_drop 7 rfl ?_
              exact hi
            · skip
              exfalso; omega
          · skip
            refine r_aload_n (pc' := 58) dX6_lookOn_57 rfl rfl ?_
            refine r_iload (pc' := 60) dX6_lookOn_58 rfl rfl ?_
            refine r_iload_n (pc' := 61) dX6_lookOn_60 rfl rfl ?_
            refine r_callV (pc' := 64) (av := [.int (nI x), .int (nI (fitS T M d))]) (rest := []) kX6_heaviestAlikeAt vX6_heaviestAlikeAt lX6_255 dX6_lookOn_61 rfl hX rfl rfl rfl ⟨by decide, by decide, by decide⟩ rfl rfl (Nat.le_of_ble_eq_true rfl) (ct_X6_heaviestAlikeAt hX hT hO hM (x := x) (fits := fitS T M d) (by omega) (by omega) ?_)
            show Wp g yX6_lookOn cX6_lookOn 8 (some .int) 6 0 0 (px_MQ g Q 0 0) 0 0 64 [some (.ref 0), some (.int (nI d)), some (.int (nI (fitS T M d))), some (.int (oN (amin (fun x => (nt M d).testBit x) (fun x => hvy T x (fitS T M d)) x))), some (.int (nI (aval (fun x => hvy T x (fitS T M d)) 55 (amin (fun x => (nt M d).testBit x) (fun x => hvy T x (fitS T M d)) x)))), some (.int (nI (td T d))), some (.int (nI x)), none] [.int (nI (hvy T x (fitS T M d)))] w
            have e61 := hvy_le hO hT.b x (fitS T M d)
            refine r_goto (tgt := 69) dX6_lookOn_64 (by decide) ?_
            refine r_istore (pc' := 71) (lo' := [some (.ref 0), some (.int (nI d)), some (.int (nI (fitS T M d))), some (.int (oN (amin (fun x => (nt M d).testBit x) (fun x => hvy T x (fitS T M d)) x))), some (.int (nI (aval (fun x => hvy T x (fitS T M d)) 55 (amin (fun x => (nt M d).testBit x) (fun x => hvy T x (fitS T M d)) x)))), some (.int (nI (td T d))), some (.int (nI x)), some (.int (nI (hvy T x (fitS T M d))))]) dX6_lookOn_69 rfl (by decide) rfl ?_
            refine r_iload (pc' := 73) dX6_lookOn_71 rfl rfl ?_
            refine r_iload (pc' := 75) dX6_lookOn_73 rfl rfl ?_
            refine r_icmp_ge (pc' := 78) (P := aval (fun x => hvy T x (fitS T M d)) 55 (amin (fun x => (nt M d).testBit x) (fun x => hvy T x (fitS T M d)) x) ≤ hvy T x (fitS T M d)) (tgt := 85) dX6_lookOn_75 (by decide) rfl (nI_leI (a := aval (fun x => hvy T x (fitS T M d)) 55 (amin (fun x => (nt M d).testBit x) (fun x => hvy T x (fitS T M d)) x)) (b := hvy T x (fitS T M d)) (by omega) (by omega)) (fun h75 => ?_) (fun h75 => ?_)
            · skip
              refine r_iinc (pc' := 88) (lo' := [some (.ref 0), some (.int (nI d)), some (.int (nI (fitS T M d))), some (.int (oN (amin (fun x => (nt M d).testBit x) (fun x => hvy T x (fitS T M d)) x))), some (.int (nI (aval (fun x => hvy T x (fitS T M d)) 55 (amin (fun x => (nt M d).testBit x) (fun x => hvy T x (fitS T M d)) x)))), some (.int (nI (td T d))), some (.int (nI (x + 1))), some (.int (nI (hvy T x (fitS T M d))))]) dX6_lookOn_85 rfl (by decide) rfl (nI_add x 1) rfl ?_
              refine r_goto (tgt := 37) dX6_lookOn_88 (by decide) ?_
              have e1 := amin_f (p := (fun x => (nt M d).testBit x)) (f := (fun x => hvy T x (fitS T M d))) (n := x) (big := 55) (by have := hvy_le hO hT.b x (fitS T M d); show hvy _ _ _ < 55; omega) (by first | exact Or.inl h54 | exact Or.inr (by omega))
              have hi := ih37 (x + 1) (by omega) (by omega)
              rw [e1] at hi
              refine r_drop 7 rfl ?_
              exact hi
            · skip
              refine r_iload (pc' := 80) dX6_lookOn_78 rfl rfl ?_
              refine r_istore_n (pc' := 81) (lo' := [some (.ref 0), some (.int (nI d)), some (.int (nI (fitS T M d))), some (.int (nI x)), some (.int (nI (aval (fun x => hvy T x (fitS T M d)) 55 (amin (fun x => (nt M d).testBit x) (fun x => hvy T x (fitS T M d)) x)))), some (.int (nI (td T d))), some (.int (nI x)), some (.int (nI (hvy T x (fitS T M d))))]) dX6_lookOn_80 rfl (by decide) rfl ?_
              refine r_iload (pc' := 83) dX6_lookOn_81 rfl rfl ?_
              refine r_istore (pc' := 85) (lo' := [some (.ref 0), some (.int (nI d)), some (.int (nI (fitS T M d))), some (.int (nI x)), some (.int (nI (hvy T x (fitS T M d)))), some (.int (nI (td T d))), some (.int (nI x)), some (.int (nI (hvy T x (fitS T M d))))]) dX6_lookOn_83 rfl (by decide) rfl ?_
              refine r_iinc (pc' := 88) (lo' := [some (.ref 0), some (.int (nI d)), some (.int (nI (fitS T M d))), some (.int (nI x)), some (.int (nI (hvy T x (fitS T M d)))), some (.int (nI (td T d))), some (.int (nI (x + 1))), some (.int (nI (hvy T x (fitS T M d))))]) dX6_lookOn_85 rfl (by decide) rfl (nI_add x 1) rfl ?_
              refine r_goto (tgt := 37) dX6_lookOn_88 (by decide) ?_
              have e1 := amin_t (p := (fun x => (nt M d).testBit x)) (f := (fun x => hvy T x (fitS T M d))) (n := x) (big := 55) (by show hvy _ _ _ < 55; omega) (by simpa using h54) (by omega)
              have hi := ih37 (x + 1) (by omega) (by omega)
              rw [e1] at hi
              refine r_drop 7 rfl ?_
              exact hi
    exact L37 ((td T d) + 1) 0 (Nat.lt_succ_self _) (by omega)
  · skip
    refine r_bipush (pc' := 16) (v := (-9)) dX6_lookOn_14 rfl rfl ?_
    refine r_ireturn dX6_lookOn_16 rfl ?_
    refine px_eq hQ ?_
    rw [lookS, if_pos (by omega)]; rfl
set_option maxHeartbeats 200000 in
theorem ct_X6_differing {g : px_G} {w : px_W} {Q : px_Q} {ik : Int32} {tr : Int64} {T : px_T} {M : px_N} (hX : w[0]? = some (.inr (5, [.ref 1, .ref 9, .ref 15, .ref 18, .ref 51, .ref 59, .int ik, .long tr]))) (hT : SubA w 9 T) (hO : TOK T) (hM : MorA w 15 M) {i j : Nat} (hi : i < tW T) (hj : j < tW T) (hQ : Q (some (.int (nI (dif T i j)))) w) : Ct g yX6_differing cX6_differing 5 (some .int) 4 0 0 [.ref 0, .int (nI i), .int (nI j)] w Q := by
  refine Ct.of kX6_differing (by omega) (lo := [some (.ref 0), some (.int (nI i)), some (.int (nI j)), none, none]) rfl (px_cat1 rfl) (Nat.le_of_ble_eq_true rfl) ?_
  obtain ⟨⟨sb1, sb2, sb3⟩, sb4, sb5⟩ := hT.b
  obtain ⟨mB1, mB2, mB3⟩ := hM.b
  refine r_iconst (pc' := 1) (v := nI 0) dX6_differing_0 rfl rfl ?_
  refine r_istore_n (pc' := 2) (lo' := [some (.ref 0), some (.int (nI i)), some (.int (nI j)), some (.int (nI 0)), none]) dX6_differing_1 rfl (by decide) rfl ?_
  refine r_iconst (pc' := 3) (v := nI 0) dX6_differing_2 rfl rfl ?_
  refine r_istore (pc' := 5) (lo' := [some (.ref 0), some (.int (nI i)), some (.int (nI j)), some (.int (nI 0)), some (.int (nI 0))]) dX6_differing_3 rfl (by decide) rfl ?_
  have L5 : ∀ (fu : Nat) (x : Nat), 6 - x < fu → x ≤ 6 → Wp g yX6_differing cX6_differing 5 (some .int) 4 0 0 (px_MQ g Q 0 0) 0 0 5 [some (.ref 0), some (.int (nI i)), some (.int (nI j)), some (.int (nI (nsum (fun x => if tc T i x == tc T j x then 0 else 1) x))), some (.int (nI x))] [] w := by
    intro fu; induction fu with
    | zero => intro x hm; exact absurd hm (Nat.not_lt_zero _)
    | succ fu ih =>
      intro x hm hx
      have ih5 := ih; clear ih
      refine r_iload (pc' := 7) dX6_differing_5 rfl rfl ?_
      refine r_bipush (pc' := 9) (v := nI 6) dX6_differing_7 rfl rfl ?_
      refine r_icmp_ge (pc' := 12) (P := 6 ≤ x) (tgt := 44) dX6_differing_9 (by decide) rfl (nI_leI (a := 6) (b := x) (by omega) (by omega)) (fun h9 => ?_) (fun h9 => ?_)
      · have hx2 : x = 6 := by omega
        subst hx2
        refine r_iload_n (pc' := 45) dX6_differing_44 rfl rfl ?_
        refine r_ireturn dX6_differing_45 rfl ?_
        exact hQ
      · skip
        refine r_aload_n (pc' := 13) dX6_differing_12 rfl rfl ?_
        refine r_get (pc' := 16) fX6_19 dX6_differing_13 rfl hX rfl ?_
        refine r_iload_n (pc' := 17) dX6_differing_16 rfl rfl ?_
        refine r_iload (pc' := 19) dX6_differing_17 rfl rfl ?_
        refine r_callV (pc' := 22) (av := [.int (nI i), .int (nI x)]) (rest := []) kX5_contentOf vX5_contentOf lX6_94 dX6_differing_19 rfl hT.o rfl rfl rfl ⟨by decide, by decide, by decide⟩ rfl rfl (Nat.le_of_ble_eq_true rfl) (ct_X5_contentOf hT (i := i) (x := x) (by omega) (by omega) ?_)
        show Wp g yX6_differing cX6_differing 5 (some .int) 4 0 0 (px_MQ g Q 0 0) 0 0 22 [some (.ref 0), some (.int (nI i)), some (.int (nI j)), some (.int (nI (nsum (fun x => if tc T i x == tc T j x then 0 else 1) x))), some (.int (nI x))] [.int (nI (tc T i x))] w
        have e19 := tc_le hO hT.b (i := i) (x := x) (by omega)
        refine r_aload_n (pc' := 23) dX6_differing_22 rfl rfl ?_
        refine r_get (pc' := 26) fX6_19 dX6_differing_23 rfl hX rfl ?_
        refine r_iload_n (pc' := 27) dX6_differing_26 rfl rfl ?_
        refine r_iload (pc' := 29) dX6_differing_27 rfl rfl ?_
        refine r_callV (pc' := 32) (av := [.int (nI j), .int (nI x)]) (rest := [.int (nI (tc T i x))]) kX5_contentOf vX5_contentOf lX6_94 dX6_differing_29 rfl hT.o rfl rfl rfl ⟨by decide, by decide, by decide⟩ rfl rfl (Nat.le_of_ble_eq_true rfl) (ct_X5_contentOf hT (i := j) (x := x) (by omega) (by omega) ?_)
        show Wp g yX6_differing cX6_differing 5 (some .int) 4 0 0 (px_MQ g Q 0 0) 0 0 32 [some (.ref 0), some (.int (nI i)), some (.int (nI j)), some (.int (nI (nsum (fun x => if tc T i x == tc T j x then 0 else 1) x))), some (.int (nI x))] [.int (nI (tc T j x)), .int (nI (tc T i x))] w
        have e29 := tc_le hO hT.b (i := j) (x := x) (by omega)
        refine r_icmp_eq (pc' := 35) (P := tc T i x = tc T j x) (tgt := 38) dX6_differing_32 (by decide) rfl (nI_eq (a := tc T i x) (b := tc T j x) (by omega) (by omega)) (fun h32 => ?_) (fun h32 => ?_)
        · skip
          refine r_iinc (pc' := 41) (lo' := [some (.ref 0), some (.int (nI i)), some (.int (nI j)), some (.int (nI (nsum (fun x => if tc T i x == tc T j x then 0 else 1) x))), some (.int (nI (x + 1)))]) dX6_differing_38 rfl (by decide) rfl (nI_add x 1) rfl ?_
          refine r_goto (tgt := 5) dX6_differing_41 (by decide) ?_
          have hs : nsum (fun x => if tc T i x == tc T j x then 0 else 1) x = nsum (fun x => if tc T i x == tc T j x then 0 else 1) (x + 1) := by simp [nsum, h32]
          rw [hs]
          exact ih5 (x + 1) (by omega) (by omega)
        · skip
          refine r_iinc (pc' := 38) (lo' := [some (.ref 0), some (.int (nI i)), some (.int (nI j)), some (.int (nI (nsum (fun x => if tc T i x == tc T j x then 0 else 1) x + 1))), some (.int (nI x))]) dX6_differing_35 rfl (by decide) rfl (nI_add (nsum (fun x => if tc T i x == tc T j x then 0 else 1) x) 1) rfl ?_
          refine r_iinc (pc' := 41) (lo' := [some (.ref 0), some (.int (nI i)), some (.int (nI j)), some (.int (nI (nsum (fun x => if tc T i x == tc T j x then 0 else 1) x + 1))), some (.int (nI (x + 1)))]) dX6_differing_38 rfl (by decide) rfl (nI_add x 1) rfl ?_
          refine r_goto (tgt := 5) dX6_differing_41 (by decide) ?_
          have hs : nsum (fun x => if tc T i x == tc T j x then 0 else 1) x + 1 = nsum (fun x => if tc T i x == tc T j x then 0 else 1) (x + 1) := by simp [nsum, h32]
          rw [hs]
          exact ih5 (x + 1) (by omega) (by omega)
  exact L5 ((6) + 1) 0 (Nat.lt_succ_self _) (by omega)
set_option maxHeartbeats 200000 in
theorem ct_X6_nearestTo {g : px_G} {w : px_W} {Q : px_Q} {ik : Int32} {tr : Int64} {T : px_T} {M : px_N} (hX : w[0]? = some (.inr (5, [.ref 1, .ref 9, .ref 15, .ref 18, .ref 51, .ref 59, .int ik, .long tr]))) (hT : SubA w 9 T) (hO : TOK T) (hM : MorA w 15 M) {i : Nat} (hi : i < tW T) (hQ : Q (some (.int (oN (nearS T i)))) w) : Ct g yX6_nearestTo cX6_nearestTo 6 (some .int) 5 0 0 [.ref 0, .int (nI i)] w Q := by
  refine Ct.of kX6_nearestTo (by omega) (lo := [some (.ref 0), some (.int (nI i)), none, none, none, none]) rfl (px_cat1 rfl) (Nat.le_of_ble_eq_true rfl) ?_
  obtain ⟨⟨sb1, sb2, sb3⟩, sb4, sb5⟩ := hT.b
  obtain ⟨mB1, mB2, mB3⟩ := hM.b
  refine r_bipush (pc' := 2) (v := (-9)) dX6_nearestTo_0 rfl rfl ?_
  refine r_istore_n (pc' := 3) (lo' := [some (.ref 0), some (.int (nI i)), some (.int ((-9))), none, none, none]) dX6_nearestTo_2 rfl (by decide) rfl ?_
  refine r_bipush (pc' := 5) (v := nI 7) dX6_nearestTo_3 rfl rfl ?_
  refine r_istore_n (pc' := 6) (lo' := [some (.ref 0), some (.int (nI i)), some (.int ((-9))), some (.int (nI 7)), none, none]) dX6_nearestTo_5 rfl (by decide) rfl ?_
  refine r_iconst (pc' := 7) (v := nI 0) dX6_nearestTo_6 rfl rfl ?_
  refine r_istore (pc' := 9) (lo' := [some (.ref 0), some (.int (nI i)), some (.int ((-9))), some (.int (nI 7)), some (.int (nI 0)), none]) dX6_nearestTo_7 rfl (by decide) rfl ?_
  have L9 : ∀ (fu : Nat) (v : Nat), tW T - v < fu → v ≤ tW T → Wp g yX6_nearestTo cX6_nearestTo 6 (some .int) 5 0 0 (px_MQ g Q 0 0) 0 0 9 [some (.ref 0), some (.int (nI i)), some (.int (oN (amin (fun v => !(v == i)) (dif T i) v))), some (.int (nI (aval (dif T i) 7 (amin (fun v => !(v == i)) (dif T i) v)))), some (.int (nI v)), none] [] w := by
    intro fu; induction fu with
    | zero => intro v hm; exact absurd hm (Nat.not_lt_zero _)
    | succ fu ih =>
      intro v hm hv
      have hav : aval (dif T i) 7 (amin (fun v => !(v == i)) (dif T i) v) ≤ 7 := aval_le (fun v _ => by have := dif_le T i v; omega)
      have ih9 := ih; clear ih
      refine r_iload (pc' := 11) dX6_nearestTo_9 rfl rfl ?_
      refine r_aload_n (pc' := 12) dX6_nearestTo_11 rfl rfl ?_
      refine r_get (pc' := 15) fX6_19 dX6_nearestTo_12 rfl hX rfl ?_
      refine r_getN (pc' := 18) fX6_238 dX6_nearestTo_15 rfl hT.o rfl ?_
      refine r_icmp_ge (pc' := 21) (P := tW T ≤ v) (tgt := 58) dX6_nearestTo_18 (by decide) rfl (nI_leI (a := tW T) (b := v) (by omega) (by omega)) (fun h18 => ?_) (fun h18 => ?_)
      · have hv2 : v = tW T := by omega
        subst hv2
        refine r_iload_n (pc' := 59) dX6_nearestTo_58 rfl rfl ?_
        refine r_ireturn dX6_nearestTo_59 rfl ?_
        exact hQ
      · skip
        refine r_iload (pc' := 23) dX6_nearestTo_21 rfl rfl ?_
        refine r_iload_n (pc' := 24) dX6_nearestTo_23 rfl rfl ?_
        refine r_icmp_ne (pc' := 27) (P := v = i) (tgt := 31) dX6_nearestTo_24 (by decide) rfl (nI_eq (a := v) (b := i) (by omega) (by omega)) (fun h24 => ?_) (fun h24 => ?_)
        · skip
          refine r_aload_n (pc' := 32) dX6_nearestTo_31 rfl rfl ?_
          refine r_iload_n (pc' := 33) dX6_nearestTo_32 rfl rfl ?_
          refine r_iload (pc' := 35) dX6_nearestTo_33 rfl rfl ?_
          refine r_callV (pc' := 38) (av := [.int (nI i), .int (nI v)]) (rest := []) kX6_differing vX6_differing lX6_266 dX6_nearestTo_35 rfl hX rfl rfl rfl ⟨by decide, by decide, by decide⟩ rfl rfl (Nat.le_of_ble_eq_true rfl) (ct_X6_differing hX hT hO hM (i := i) (j := v) (by omega) (by omega) ?_)
          show Wp g yX6_nearestTo cX6_nearestTo 6 (some .int) 5 0 0 (px_MQ g Q 0 0) 0 0 38 [some (.ref 0), some (.int (nI i)), some (.int (oN (amin (fun v => !(v == i)) (dif T i) v))), some (.int (nI (aval (dif T i) 7 (amin (fun v => !(v == i)) (dif T i) v)))), some (.int (nI v)), none] [.int (nI (dif T i v))] w
          have e35 := dif_le T i v
          refine r_istore (pc' := 40) (lo' := [some (.ref 0), some (.int (nI i)), some (.int (oN (amin (fun v => !(v == i)) (dif T i) v))), some (.int (nI (aval (dif T i) 7 (amin (fun v => !(v == i)) (dif T i) v)))), some (.int (nI v)), some (.int (nI (dif T i v)))]) dX6_nearestTo_38 rfl (by decide) rfl ?_
          refine r_iload (pc' := 42) dX6_nearestTo_40 rfl rfl ?_
          refine r_iload_n (pc' := 43) dX6_nearestTo_42 rfl rfl ?_
          refine r_icmp_ge (pc' := 46) (P := aval (dif T i) 7 (amin (fun v => !(v == i)) (dif T i) v) ≤ dif T i v) (tgt := 52) dX6_nearestTo_43 (by decide) rfl (nI_leI (a := aval (dif T i) 7 (amin (fun v => !(v == i)) (dif T i) v)) (b := dif T i v) (by omega) (by omega)) (fun h43 => ?_) (fun h43 => ?_)
          · skip
            refine r_iinc (pc' := 55) (lo' := [some (.ref 0), some (.int (nI i)), some (.int (oN (amin (fun v => !(v == i)) (dif T i) v))), some (.int (nI (aval (dif T i) 7 (amin (fun v => !(v == i)) (dif T i) v)))), some (.int (nI (v + 1))), some (.int (nI (dif T i v)))]) dX6_nearestTo_52 rfl (by decide) rfl (nI_add v 1) rfl ?_
            refine r_goto (tgt := 9) dX6_nearestTo_55 (by decide) ?_
            have e1 := amin_f (p := (fun v => !(v == i))) (f := (dif T i)) (n := v) (big := 7) (by have := dif_le T i v; omega) (by first | exact Or.inl (by simpa using h24) | exact Or.inr (by omega))
            have hi := ih9 (v + 1) (by omega) (by omega)
            rw [e1] at hi
            refine r_drop 5 rfl ?_
            exact hi
          · skip
            refine r_iload (pc' := 48) dX6_nearestTo_46 rfl rfl ?_
            refine r_istore_n (pc' := 49) (lo' := [some (.ref 0), some (.int (nI i)), some (.int (nI v)), some (.int (nI (aval (dif T i) 7 (amin (fun v => !(v == i)) (dif T i) v)))), some (.int (nI v)), some (.int (nI (dif T i v)))]) dX6_nearestTo_48 rfl (by decide) rfl ?_
            refine r_iload (pc' := 51) dX6_nearestTo_49 rfl rfl ?_
            refine r_istore_n (pc' := 52) (lo' := [some (.ref 0), some (.int (nI i)), some (.int (nI v)), some (.int (nI (dif T i v))), some (.int (nI v)), some (.int (nI (dif T i v)))]) dX6_nearestTo_51 rfl (by decide) rfl ?_
            refine r_iinc (pc' := 55) (lo' := [some (.ref 0), some (.int (nI i)), some (.int (nI v)), some (.int (nI (dif T i v))), some (.int (nI (v + 1))), some (.int (nI (dif T i v)))]) dX6_nearestTo_52 rfl (by decide) rfl (nI_add v 1) rfl ?_
            refine r_goto (tgt := 9) dX6_nearestTo_55 (by decide) ?_
            have e1 := amin_t (p := (fun v => !(v == i))) (f := (dif T i)) (n := v) (big := 7) (by omega) (by simpa using h24) (by omega)
            have hi := ih9 (v + 1) (by omega) (by omega)
            rw [e1] at hi
            refine r_drop 5 rfl ?_
            exact hi
        · skip
          refine r_iload_n (pc' := 28) dX6_nearestTo_27 rfl rfl ?_
          refine r_goto (tgt := 38) dX6_nearestTo_28 (by decide) ?_
          refine r_istore (pc' := 40) (lo' := [some (.ref 0), some (.int (nI i)), some (.int (oN (amin (fun v => !(v == i)) (dif T i) v))), some (.int (nI (aval (dif T i) 7 (amin (fun v => !(v == i)) (dif T i) v)))), some (.int (nI v)), some (.int (nI (aval (dif T i) 7 (amin (fun v => !(v == i)) (dif T i) v))))]) dX6_nearestTo_38 rfl (by decide) rfl ?_
          refine r_iload (pc' := 42) dX6_nearestTo_40 rfl rfl ?_
          refine r_iload_n (pc' := 43) dX6_nearestTo_42 rfl rfl ?_
          refine r_icmp_ge (pc' := 46) (P := aval (dif T i) 7 (amin (fun v => !(v == i)) (dif T i) v) ≤ aval (dif T i) 7 (amin (fun v => !(v == i)) (dif T i) v)) (tgt := 52) dX6_nearestTo_43 (by decide) rfl (nI_leI (a := aval (dif T i) 7 (amin (fun v => !(v == i)) (dif T i) v)) (b := aval (dif T i) 7 (amin (fun v => !(v == i)) (dif T i) v)) (by omega) (by omega)) (fun h43 => ?_) (fun h43 => ?_)
          · skip
            refine r_iinc (pc' := 55) (lo' := [some (.ref 0), some (.int (nI i)), some (.int (oN (amin (fun v => !(v == i)) (dif T i) v))), some (.int (nI (aval (dif T i) 7 (amin (fun v => !(v == i)) (dif T i) v)))), some (.int (nI (v + 1))), some (.int (nI (aval (dif T i) 7 (amin (fun v => !(v == i)) (dif T i) v))))]) dX6_nearestTo_52 rfl (by decide) rfl (nI_add v 1) rfl ?_
            refine r_goto (tgt := 9) dX6_nearestTo_55 (by decide) ?_
            have e1 := amin_f (p := (fun v => !(v == i))) (f := (dif T i)) (n := v) (big := 7) (by have := dif_le T i v; omega) (by first | exact Or.inl (by simpa using h24) | exact Or.inr (by omega))
            have hi := ih9 (v + 1) (by omega) (by omega)
            rw [e1] at hi
            refine r_drop 5 rfl ?_
            exact hi
          · skip
            exfalso; omega
  exact L9 ((tW T) + 1) 0 (Nat.lt_succ_self _) (by omega)
theorem nearS_lt {T : px_T} {i v : Nat} (h : nearS T i = some v) : v < tW T := (amin_lt h).1
theorem nearS_31 {T : px_T} {i : Nat} (h6 : tW T ≤ 6) : ∀ v, nearS T i = some v → v < 2 ^ 31 := fun v h => by have := nearS_lt h; omega
set_option maxHeartbeats 200000 in
theorem ct_X6_doubtOf {g : px_G} {w : px_W} {Q : px_Q} {ik : Int32} {tr : Int64} {T : px_T} {M : px_N} (hX : w[0]? = some (.inr (5, [.ref 1, .ref 9, .ref 15, .ref 18, .ref 51, .ref 59, .int ik, .long tr]))) (hT : SubA w 9 T) (hO : TOK T) (hM : MorA w 15 M) {i : Nat} (hi : i < tW T) (hQ : Q (some (.int (oN (doubtS T i)))) w) : Ct g yX6_doubtOf cX6_doubtOf 3 (some .int) 6 0 0 [.ref 0, .int (nI i)] w Q := by
  refine Ct.of kX6_doubtOf (by omega) (lo := [some (.ref 0), some (.int (nI i)), none]) rfl (px_cat1 rfl) (Nat.le_of_ble_eq_true rfl) ?_
  obtain ⟨⟨sb1, sb2, sb3⟩, sb4, sb5⟩ := hT.b
  obtain ⟨mB1, mB2, mB3⟩ := hM.b
  refine r_aload_n (pc' := 1) dX6_doubtOf_0 rfl rfl ?_
  refine r_iload_n (pc' := 2) dX6_doubtOf_1 rfl rfl ?_
  refine r_callV (pc' := 5) (av := [.int (nI i)]) (rest := []) kX6_nearestTo vX6_nearestTo lX6_91 dX6_doubtOf_2 rfl hX rfl rfl rfl ⟨by decide, by decide, by decide⟩ rfl rfl (Nat.le_of_ble_eq_true rfl) (ct_X6_nearestTo hX hT hO hM (i := i) (by omega) ?_)
  show Wp g yX6_doubtOf cX6_doubtOf 3 (some .int) 6 0 0 (px_MQ g Q 0 0) 0 0 5 [some (.ref 0), some (.int (nI i)), none] [.int (oN (nearS T i))] w
  refine r_istore_n (pc' := 6) (lo' := [some (.ref 0), some (.int (nI i)), some (.int (oN (nearS T i)))]) dX6_doubtOf_5 rfl (by decide) rfl ?_
  refine r_iload_n (pc' := 7) dX6_doubtOf_6 rfl rfl ?_
  refine r_bipush (pc' := 9) (v := (-9)) dX6_doubtOf_7 rfl rfl ?_
  refine r_icmp_ne (pc' := 12) (P := nearS T i = none) (tgt := 17) dX6_doubtOf_9 (by decide) rfl (oN_none (nearS_31 sb1)) (fun h9 => ?_) (fun h9 => ?_)
  · obtain ⟨v, hv⟩ := Option.ne_none_iff_exists'.mp h9
    have hv2 := nearS_lt hv
    rw [hv]
    show Wp g yX6_doubtOf cX6_doubtOf 3 (some .int) 6 0 0 (px_MQ g Q 0 0) 0 0 17 [some (.ref 0), some (.int (nI i)), some (.int (nI v))] [] w
    refine r_aload_n (pc' := 18) dX6_doubtOf_17 rfl rfl ?_
    refine r_iload_n (pc' := 19) dX6_doubtOf_18 rfl rfl ?_
    refine r_iload_n (pc' := 20) dX6_doubtOf_19 rfl rfl ?_
    refine r_callV (pc' := 23) (av := [.int (nI i), .int (nI v)]) (rest := []) kX6_differing vX6_differing lX6_266 dX6_doubtOf_20 rfl hX rfl rfl rfl ⟨by decide, by decide, by decide⟩ rfl rfl (Nat.le_of_ble_eq_true rfl) (ct_X6_differing hX hT hO hM (i := i) (j := v) (by omega) (by omega) ?_)
    show Wp g yX6_doubtOf cX6_doubtOf 3 (some .int) 6 0 0 (px_MQ g Q 0 0) 0 0 23 [some (.ref 0), some (.int (nI i)), some (.int (nI v))] [.int (nI (dif T i v))] w
    have e20 := dif_le T i v
    refine r_ireturn dX6_doubtOf_23 rfl ?_
    refine px_eq hQ ?_
    first | (rw [doubtS, h9]; rfl) | (rw [doubtS, hv]; rfl)
  · skip
    refine r_bipush (pc' := 14) (v := (-9)) dX6_doubtOf_12 rfl rfl ?_
    refine r_goto (tgt := 23) dX6_doubtOf_14 (by decide) ?_
    refine r_ireturn dX6_doubtOf_23 rfl ?_
    refine px_eq hQ ?_
    first | (rw [doubtS, h9]; rfl) | (rw [doubtS, hv]; rfl)
set_option maxHeartbeats 200000 in
theorem ct_X6_commonPart {g : px_G} {w : px_W} {Q : px_Q} {a b : Nat} (ha : a < 2 ^ 20) (hb : b < 2 ^ 20) (hQ : Q (some (.int (nI (cmp a b)))) w) : Ct g yX6_commonPart cX6_commonPart 3 (some .int) 1 0 0 [.int (nI a), .int (nI b)] w Q := by
  refine Ct.of kX6_commonPart (by omega) (lo := [some (.int (nI a)), some (.int (nI b)), none]) rfl (px_cat1 rfl) (Nat.le_of_ble_eq_true rfl) ?_
  refine r_iload_n (pc' := 1) dX6_commonPart_0 rfl rfl ?_
  refine r_iload_n (pc' := 2) dX6_commonPart_1 rfl rfl ?_
  refine r_mmax (pc' := 5) (v := nI (if a < b then b else a)) lX6_261 mS_max mI mC_max dX6_commonPart_2 rfl (mx_n (by omega) (by omega)) ⟨by decide, by decide⟩ (Nat.le_of_ble_eq_true rfl) ?_
  refine r_istore_n (pc' := 6) (lo' := [some (.int (nI a)), some (.int (nI b)), some (.int (nI (if a < b then b else a)))]) dX6_commonPart_5 rfl (by decide) rfl ?_
  have L6 : ∀ (fu : Nat) (n : Nat), n < fu → n < 2 ^ 20 → cpL a b n = cmp a b → Wp g yX6_commonPart cX6_commonPart 3 (some .int) 1 0 0 (px_MQ g Q 0 0) 0 0 6 [some (.int (nI a)), some (.int (nI b)), some (.int (nI n))] [] w := by
    intro fu; induction fu with
    | zero => intro n hm; exact absurd hm (Nat.not_lt_zero _)
    | succ fu ih =>
      intro n hm hn hI
      have ih6 := ih; clear ih
      refine r_iload_n (pc' := 7) dX6_commonPart_6 rfl rfl ?_
      refine r_iconst (pc' := 8) (v := nI 1) dX6_commonPart_7 rfl rfl ?_
      refine r_icmp_le (pc' := 11) (P := n ≤ 1) (tgt := 31) dX6_commonPart_8 (by decide) rfl (nI_leI (a := n) (b := 1) (by omega) (by omega)) (fun h8 => ?_) (fun h8 => ?_)
      · rw [cpL_1 _ _ _ h8] at hI
        refine r_iconst (pc' := 32) (v := nI 1) dX6_commonPart_31 rfl rfl ?_
        refine r_ireturn dX6_commonPart_32 rfl ?_
        refine px_eqN hQ ?_
        rw [← hI]
      · obtain ⟨m, rfl⟩ : ∃ m, n = m + 1 := ⟨n - 1, by omega⟩
        refine r_iload_n (pc' := 12) dX6_commonPart_11 rfl rfl ?_
        refine r_iload_n (pc' := 13) dX6_commonPart_12 rfl rfl ?_
        refine r_irem (pc' := 14) (v := nI (a % (m + 1))) dX6_commonPart_13 rfl (nI_ne0 (n := m + 1) (by omega) (by omega)) (pk_rem (a := a) (d := m + 1) (by omega) (by omega) (by omega)) ?_
        have e13 : a % (m + 1) < m + 1 := Nat.mod_lt _ (by omega)
        refine r_if_ne (pc' := 17) (P := a % (m + 1) = 0) (tgt := 25) dX6_commonPart_14 (by decide) rfl (nI_eq0 (n := a % (m + 1)) (by omega)) (fun h14 => ?_) (fun h14 => ?_)
        · skip
          refine r_iinc (pc' := 28) (lo' := [some (.int (nI a)), some (.int (nI b)), some (.int (nI m))]) dX6_commonPart_25 rfl (by decide) rfl (pk_m1 m) rfl ?_
          refine r_goto (tgt := 6) dX6_commonPart_28 (by decide) ?_
          exact ih6 m (by omega) (by omega) (by rw [← hI, cpL, if_neg (by omega), if_neg (fun q => by first | exact h14 q.1 | exact h20 q.2)])
        · skip
          refine r_iload_n (pc' := 18) dX6_commonPart_17 rfl rfl ?_
          refine r_iload_n (pc' := 19) dX6_commonPart_18 rfl rfl ?_
          refine r_irem (pc' := 20) (v := nI (b % (m + 1))) dX6_commonPart_19 rfl (nI_ne0 (n := m + 1) (by omega) (by omega)) (pk_rem (a := b) (d := m + 1) (by omega) (by omega) (by omega)) ?_
          have e19 : b % (m + 1) < m + 1 := Nat.mod_lt _ (by omega)
          refine r_if_ne (pc' := 23) (P := b % (m + 1) = 0) (tgt := 25) dX6_commonPart_20 (by decide) rfl (nI_eq0 (n := b % (m + 1)) (by omega)) (fun h20 => ?_) (fun h20 => ?_)
          · skip
            refine r_iinc (pc' := 28) (lo' := [some (.int (nI a)), some (.int (nI b)), some (.int (nI m))]) dX6_commonPart_25 rfl (by decide) rfl (pk_m1 m) rfl ?_
            refine r_goto (tgt := 6) dX6_commonPart_28 (by decide) ?_
            exact ih6 m (by omega) (by omega) (by rw [← hI, cpL, if_neg (by omega), if_neg (fun q => by first | exact h14 q.1 | exact h20 q.2)])
          · skip
            refine r_iload_n (pc' := 24) dX6_commonPart_23 rfl rfl ?_
            refine r_ireturn dX6_commonPart_24 rfl ?_
            refine px_eqN hQ ?_
            rw [← hI, cpL, if_neg (by omega), if_pos ⟨h14, h20⟩]
  exact L6 ((if a < b then b else a) + 1) ((if a < b then b else a)) (Nat.lt_succ_self _) (by split <;> omega) (rfl)
set_option maxHeartbeats 200000 in
theorem ct_X6_inLeastTerms {g : px_G} {w : px_W} {Q : px_Q} {n c : Nat} (hn : n < 2 ^ 30) (hc : 1 ≤ c) (hc2 : c < 2 ^ 30) (hQ : Q (some (.int (nI (n / c)))) w) : Ct g yX6_inLeastTerms cX6_inLeastTerms 2 (some .int) 1 0 0 [.int (nI n), .int (nI c)] w Q := by
  refine Ct.of kX6_inLeastTerms (by omega) (lo := [some (.int (nI n)), some (.int (nI c))]) rfl (px_cat1 rfl) (Nat.le_of_ble_eq_true rfl) ?_
  refine r_iload_n (pc' := 1) dX6_inLeastTerms_0 rfl rfl ?_
  refine r_iconst (pc' := 2) (v := nI 1) dX6_inLeastTerms_1 rfl rfl ?_
  refine r_icmp_le (pc' := 5) (P := c ≤ 1) (tgt := 11) dX6_inLeastTerms_2 (by decide) rfl (nI_leI (a := c) (b := 1) (by omega) (by omega)) (fun h2 => ?_) (fun h2 => ?_)
  · skip
    refine r_iload_n (pc' := 12) dX6_inLeastTerms_11 rfl rfl ?_
    refine r_ireturn dX6_inLeastTerms_12 rfl ?_
    first | exact hQ | exact px_eqN hQ (by rw [show c = 1 by omega, Nat.div_one])
  · skip
    refine r_iload_n (pc' := 6) dX6_inLeastTerms_5 rfl rfl ?_
    refine r_iload_n (pc' := 7) dX6_inLeastTerms_6 rfl rfl ?_
    refine r_idiv (pc' := 8) (v := nI (n / c)) dX6_inLeastTerms_7 rfl (nI_ne0 (n := c) (by omega) (by omega)) (pk_div (a := n) (d := c) (by omega) (by omega) (by omega)) ?_
    refine r_goto (tgt := 12) dX6_inLeastTerms_8 (by decide) ?_
    refine r_ireturn dX6_inLeastTerms_12 rfl ?_
    first | exact hQ | exact px_eqN hQ (by rw [show c = 1 by omega, Nat.div_one])
set_option maxHeartbeats 200000 in
theorem ct_X6_canSpoil {g : px_G} {w : px_W} {Q : px_Q} {ik : Int32} {tr : Int64} {T : px_T} {M : px_N} (hX : w[0]? = some (.inr (5, [.ref 1, .ref 9, .ref 15, .ref 18, .ref 51, .ref 59, .int ik, .long tr]))) (hT : SubA w 9 T) (hO : TOK T) (hM : MorA w 15 M) {j d : Nat} (hj : j < tG T) (hd : d < tD T) (hQ : Q (some (.int (bI (canSp T M j d)))) w) : Ct g yX6_canSpoil cX6_canSpoil 3 (some .boolean) 5 0 0 [.ref 0, .int (nI j), .int (nI d)] w Q := by
  refine Ct.of kX6_canSpoil (by omega) (lo := [some (.ref 0), some (.int (nI j)), some (.int (nI d))]) rfl (px_cat1 rfl) (Nat.le_of_ble_eq_true rfl) ?_
  obtain ⟨⟨sb1, sb2, sb3⟩, sb4, sb5⟩ := hT.b
  obtain ⟨mB1, mB2, mB3⟩ := hM.b
  refine r_aload_n (pc' := 1) dX6_canSpoil_0 rfl rfl ?_
  refine r_get (pc' := 4) fX6_19 dX6_canSpoil_1 rfl hX rfl ?_
  refine r_iload_n (pc' := 5) dX6_canSpoil_4 rfl rfl ?_
  refine r_iconst (pc' := 6) (v := nI 1) dX6_canSpoil_5 rfl rfl ?_
  refine r_callV (pc' := 9) (av := [.int (nI j), .int (nI 1)]) (rest := []) kX5_partOfGoer vX5_partOfGoer lX6_130 dX6_canSpoil_6 rfl hT.o rfl rfl rfl ⟨by decide, by decide, by decide⟩ rfl rfl (Nat.le_of_ble_eq_true rfl) (ct_X5_partOfGoer hT (i := j) (p := 1) (by omega) (by omega) ?_)
  show Wp g yX6_canSpoil cX6_canSpoil 3 (some .boolean) 5 0 0 (px_MQ g Q 0 0) 0 0 9 [some (.ref 0), some (.int (nI j)), some (.int (nI d))] [.int (nI (tg T j 1))] w
  have e6 := (hO.2.2.2 j (by omega))
  refine r_iload_n (pc' := 10) dX6_canSpoil_9 rfl rfl ?_
  refine r_icmp_ne (pc' := 13) (P := tg T j 1 = d) (tgt := 50) dX6_canSpoil_10 (by decide) rfl (nI_eq (a := tg T j 1) (b := d) (by omega) (by omega)) (fun h10 => ?_) (fun h10 => ?_)
  · skip
    refine r_iconst (pc' := 51) (v := bI false) dX6_canSpoil_50 rfl rfl ?_
    refine r_zreturn dX6_canSpoil_51 rfl (bI_nar _) ?_
    refine px_eqB hQ ?_
    first | (simp [canSp, h10]; done) | (simp [canSp, h10, show ¬ nh M < tg T j 0 by omega]; done) | (simp [canSp, h10, h29, h43]; done) | (simp [canSp, h43]; omega)
  · skip
    refine r_aload_n (pc' := 14) dX6_canSpoil_13 rfl rfl ?_
    refine r_get (pc' := 17) fX6_19 dX6_canSpoil_14 rfl hX rfl ?_
    refine r_iload_n (pc' := 18) dX6_canSpoil_17 rfl rfl ?_
    refine r_iconst (pc' := 19) (v := nI 0) dX6_canSpoil_18 rfl rfl ?_
    refine r_callV (pc' := 22) (av := [.int (nI j), .int (nI 0)]) (rest := []) kX5_partOfGoer vX5_partOfGoer lX6_130 dX6_canSpoil_19 rfl hT.o rfl rfl rfl ⟨by decide, by decide, by decide⟩ rfl rfl (Nat.le_of_ble_eq_true rfl) (ct_X5_partOfGoer hT (i := j) (p := 0) (by omega) (by omega) ?_)
    show Wp g yX6_canSpoil cX6_canSpoil 3 (some .boolean) 5 0 0 (px_MQ g Q 0 0) 0 0 22 [some (.ref 0), some (.int (nI j)), some (.int (nI d))] [.int (nI (tg T j 0))] w
    have e19 := (hO.2.2.2 j (by omega))
    refine r_aload_n (pc' := 23) dX6_canSpoil_22 rfl rfl ?_
    refine r_get (pc' := 26) fX6_26 dX6_canSpoil_23 rfl hX rfl ?_
    refine r_getN (pc' := 29) fX6_163 dX6_canSpoil_26 rfl hM.o rfl ?_
    refine r_icmp_le (pc' := 32) (P := tg T j 0 ≤ nh M) (tgt := 50) dX6_canSpoil_29 (by decide) rfl (nI_leI (a := tg T j 0) (b := nh M) (by omega) (by omega)) (fun h29 => ?_) (fun h29 => ?_)
    · skip
      refine r_iconst (pc' := 51) (v := bI false) dX6_canSpoil_50 rfl rfl ?_
      refine r_zreturn dX6_canSpoil_51 rfl (bI_nar _) ?_
      refine px_eqB hQ ?_
      first | (simp [canSp, h10]; done) | (simp [canSp, h10, show ¬ nh M < tg T j 0 by omega]; done) | (simp [canSp, h10, h29, h43]; done) | (simp [canSp, h43]; omega)
    · skip
      refine r_aload_n (pc' := 33) dX6_canSpoil_32 rfl rfl ?_
      refine r_iload_n (pc' := 34) dX6_canSpoil_33 rfl rfl ?_
      refine r_callV (pc' := 37) (av := [.int (nI d)]) (rest := []) kX6_readableOn vX6_readableOn lX6_187 dX6_canSpoil_34 rfl hX rfl rfl rfl ⟨by decide, by decide, by decide⟩ rfl rfl (Nat.le_of_ble_eq_true rfl) (ct_X6_readableOn hX hT hO hM (d := d) (by omega) ?_)
      show Wp g yX6_canSpoil cX6_canSpoil 3 (some .boolean) 5 0 0 (px_MQ g Q 0 0) 0 0 37 [some (.ref 0), some (.int (nI j)), some (.int (nI d))] [.int (nI (rdbl T M d))] w
      have e34 := rdbl_lt (M := M) (hO.2.2.1 d (by omega)).2
      refine r_aload_n (pc' := 38) dX6_canSpoil_37 rfl rfl ?_
      refine r_iload_n (pc' := 39) dX6_canSpoil_38 rfl rfl ?_
      refine r_callV (pc' := 42) (av := [.int (nI j)]) (rest := [.int (nI (rdbl T M d))]) kX6_trackOfGoer vX6_trackOfGoer lX6_169 dX6_canSpoil_39 rfl hX rfl rfl rfl ⟨by decide, by decide, by decide⟩ rfl rfl (Nat.le_of_ble_eq_true rfl) (ct_X6_trackOfGoer hX hT hO hM (j := j) (by omega) ?_)
      show Wp g yX6_canSpoil cX6_canSpoil 3 (some .boolean) 5 0 0 (px_MQ g Q 0 0) 0 0 42 [some (.ref 0), some (.int (nI j)), some (.int (nI d))] [.int (nI (trkG T j)), .int (nI (rdbl T M d))] w
      have e39 := trkG_lt hO (j := j) (by omega)
      refine r_iand (pc' := 43) (v := nI ((rdbl T M d) &&& (trkG T j))) dX6_canSpoil_42 rfl (and_n (rdbl T M d) (trkG T j)) ?_
      refine r_if_eq (pc' := 46) (P := (rdbl T M d &&& trkG T j) = 0) (tgt := 50) dX6_canSpoil_43 (by decide) rfl (nI_eq0 (n := rdbl T M d &&& trkG T j) (and_lt31 (by omega))) (fun h43 => ?_) (fun h43 => ?_)
      · skip
        refine r_iconst (pc' := 51) (v := bI false) dX6_canSpoil_50 rfl rfl ?_
        refine r_zreturn dX6_canSpoil_51 rfl (bI_nar _) ?_
        refine px_eqB hQ ?_
        first | (simp [canSp, h10]; done) | (simp [canSp, h10, show ¬ nh M < tg T j 0 by omega]; done) | (simp [canSp, h10, h29, h43]; done) | (simp [canSp, h43]; omega)
      · skip
        refine r_iconst (pc' := 47) (v := bI true) dX6_canSpoil_46 rfl rfl ?_
        refine r_goto (tgt := 51) dX6_canSpoil_47 (by decide) ?_
        refine r_zreturn dX6_canSpoil_51 rfl (bI_nar _) ?_
        refine px_eqB hQ ?_
        first | (simp [canSp, h10]; done) | (simp [canSp, h10, show ¬ nh M < tg T j 0 by omega]; done) | (simp [canSp, h10, h29, h43]; done) | (simp [canSp, h43]; omega)
