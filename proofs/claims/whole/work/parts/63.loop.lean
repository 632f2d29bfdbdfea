/-! THE CLAIM OUT OF ONE WALK OF THE LAW'S BODY. Your part is whole_start (and what it stands on); all else here is the same for every law, but numbers. -/
def R_law : String := "GravelWordsLaw"
def lw_P (b : Addr) (xs : List Int32) (args : Array Value) (s : State) : Prop := args = #[.ref b] ∧ s.IntsAt b xs ∧ xs.length ≤ 2048 ∧ (Jvm.Cond.and given_1 narrow_1).before args s = true
def lw_Q (_ : Array Value) (s : State) (o : Outcome) (t : State) : Prop := o = .returned (some (.int 1)) ∧ Framed s o t [] 600000 7302250
def lw_Z (below : List Frame) (a : Array Value) (s : State) : State → Prop := fun t => ∃ o, t.status = .running ∧ Ended t below o ∧ lw_Q a s o t
/-- the law's own end, with 1 on the stack, nothing written that was there before, its room as the claim has it -/
theorem lw_ret {p : Program} {l : Launch} {e : Env} {s : State} {m : MethodId} {below : List Frame} {meth : Method} {c : Code} {b : Nat} (hx : p.tables.exec = Jvm.exec) (hb : c.code = code) (hr : meth.sig.returnType = ret) (hlocks : meth.locks = false) {pc : Nat} {H : Heap} {ls : Array Slot} (hdg : decode code pc = .ok (.ireturn, 1)) : W p l e room_1 s m #[Value.ref b] below meth c H [] 600000 7302250 (lw_Z below #[Value.ref b] s) (F0 m pc ls [.int 1]) := by
  intro T hT X
  obtain ⟨fs, hret, hrun, hended, hW, hframe⟩ := X.leave (v := some (.int 1)) (hlocks := hlocks) (fun h => by rw [hr] at h; cases h)
  have hmeth' : T.vm.method? m = some meth := X.method'
  refine ⟨T.setFrames fs, ?_, .returned (some (.int 1)), hrun, hended, rfl, ⟨_, rfl⟩, hW, hframe⟩
  jvm_step X.here [X.here.top, hx, hb, hdg, hmeth', hr, ret, narrow_b1]
  (try refine ⟨rfl, ?_⟩); (try refine ⟨rfl, ?_⟩)
  first | (intro acts; rw [hret _ acts rfl rfl rfl]) | rw [hret _ _ rfl rfl rfl]
  exact Steps.refl _
/-- what holds at the law's entry: the machine, the code, the tables' words (any of lw_tbl by 'hts w (by decide +kernel)'), the script of L ints xs at the cell b, what the Statement gives of the start (any of its parts by flat_of_before) -/
def lw_At (p : Program) (s : State) (m : MethodId) (meth : Method) (c : Code) (b L : Nat) (xs : Nat → Int32) : Prop :=
  p.tables.exec = Jvm.exec ∧ c.code = code ∧ meth.sig.returnType = ret ∧ c.maxLocals = 4 ∧ s.vm.findClass R_law = some m.cls ∧ (∀ w ∈ lw_tbl, w.before #[Value.ref b] s = true) ∧ va_X b L xs s s.heap ∧ b < s.heap.size ∧ meth.locks = false ∧ (Jvm.Cond.and given_1 narrow_1).before #[Value.ref b] s = true
/-! the law's own walk -/
theorem gt4 {L i : Nat} (hL : L ≤ 2048) (hi : i ≤ L) : nI L - nI 4 < nI i ↔ L < i + 4 := by
  by_cases h : 4 ≤ L
  · rw [pk_sub (a := L) (b := 4) h, nI_ltI (by omega) (by omega)]
    omega
  · have hn : (nI L - nI 4).toInt < 0 := by
      rcases (show L = 0 ∨ L = 1 ∨ L = 2 ∨ L = 3 by omega) with rfl | rfl | rfl | rfl <;> decide
    constructor
    · intro _; omega
    · intro _
      rw [Int32.lt_iff_toInt_lt, nI_toInt (show i < 2 ^ 31 by omega)]
      omega
/-- the law's end, in any room -/
theorem law_retg {p : Program} {l : Launch} {e : Env} {R : Room} {s : State} {m : MethodId} {args : Array Value} {below : List Frame} {meth : Method} {c : Code} (hx : p.tables.exec = Jvm.exec) (hb : c.code = code) (hr : meth.sig.returnType = ret) (hlocks : meth.locks = false) {pc : Nat} {H : Heap} {ls : Array Slot} (hdg : decode code pc = .ok (.ireturn, 1)) : W p l e R s m args below meth c H [] 600000 7302250 (lw_Z below args s) (F0 m pc ls [.int 1]) := by
  intro T hT X
  obtain ⟨fs, hret, hrun, hended, hW, hframe⟩ := X.leave (v := some (.int 1)) (hlocks := hlocks) (fun h => by rw [hr] at h; cases h)
  have hmeth' : T.vm.method? m = some meth := X.method'
  refine ⟨T.setFrames fs, ?_, .returned (some (.int 1)), hrun, hended, rfl, ⟨_, rfl⟩, hW, hframe⟩
  jvm_step X.here [X.here.top, hx, hb, hdg, hmeth', hr, ret, narrow_b1]
  (try refine ⟨rfl, ?_⟩); (try refine ⟨rfl, ?_⟩)
  first | (intro acts; rw [hret _ acts rfl rfl rfl]) | rw [hret _ _ rfl rfl rfl]
  exact Steps.refl _
def LZ (g : px_G) : px_Z := fun below args s t => s.heap.size = px_b g → lw_Z below args s t
theorem law_fin {g : px_G} {w : px_W} {lo : List (Option Value)} : Wp g yL_law cL_law 4 (some .boolean) 33 76 1685 (LZ g) 76 1685 777 lo [.int 1] w := by
  intro p e R s m args below meth c H locs ls hM hP hS hl
  by_cases hz : s.heap.size = px_b g
  · have k : W p (px_l g) e R s m args below meth c H locs 76 1685 (lw_Z below args s) (F0 m 777 ls [.int 1]) := by
      refine va_forget (fun q hq => by rw [hz]; exact hS.2.2 q hq) ?_
      refine W.widen (k := 600000) (n := 7302250) (Nat.le_of_ble_eq_true rfl) (Nat.le_of_ble_eq_true rfl) ?_
      exact law_retg hM.1 hM.2.1 hM.2.2.2.1 hM.2.2.2.2.2.2.1 dL_law_777
    intro T hT X
    obtain ⟨t, a, b⟩ := k T hT X
    exact ⟨t, a, fun _ => b⟩
  · intro T hT X
    exact ⟨_, Steps.refl _, fun h => absurd h hz⟩
set_option maxHeartbeats 400000 in
theorem law_loop {g : px_G} (hL : px_L g ≤ 2048) : ∀ (fu i : Nat) (w : px_W), px_L g - i < fu → i ≤ px_L g → PS w → Wp g yL_law cL_law 4 (some .boolean) 33 76 1685 (LZ g) 76 1685 18 [some (.ref 1002), some (.ref 0), some (.ref 60), some (.int (nI i))] [] w := by
  intro fu; induction fu with
  | zero => intro i w hm; exact absurd hm (Nat.not_lt_zero _)
  | succ fu ih =>
    intro i w hm hi hP
    refine r_iload_n (pc' := 19) dL_law_18 rfl rfl ?_
    refine r_aload_n (pc' := 20) dL_law_19 rfl rfl ?_
    refine r_alenT (pc' := 21) (v := nI (px_L g)) (f := px_xs g) dL_law_20 rfl (by decide) rfl rfl ?_
    refine r_iconst (pc' := 22) (v := nI 4) dL_law_21 rfl rfl ?_
    refine r_isub (pc' := 23) (v := nI (px_L g) - nI 4) dL_law_22 rfl rfl ?_
    refine r_icmp_gt (pc' := 26) (P := px_L g < i + 4) (tgt := 776) dL_law_23 (by decide) rfl (gt4 hL hi) (fun h23 => ?_) (fun h23 => ?_)
    · refine r_iconst (pc' := 777) (v := 1) dL_law_776 rfl rfl ?_
      exact law_fin
    · have hi4 : i + 4 ≤ px_L g := by omega
      have K : ∀ w', PS w' → Wp g yL_law cL_law 4 (some .boolean) 33 76 1685 (LZ g) 76 1685 770 [some (.ref 1002), some (.ref 0), some (.ref 60), some (.int (nI i))] [] w' := by
        intro w' hP'
        refine r_iinc (pc' := 773) (lo' := [some (.ref 1002), some (.ref 0), some (.ref 60), some (.int (nI (i + 4)))]) dL_law_770 rfl (by decide) rfl (nI_add i 4) rfl ?_
        refine r_goto (tgt := 18) dL_law_773 (by decide) ?_
        exact ih (i + 4) w' (by omega) (by omega) hP'
      refine r_aload_n (pc' := 27) dL_law_26 rfl rfl ?_
      refine r_iload_n (pc' := 28) dL_law_27 rfl rfl ?_
      refine r_ialoadT (pc' := 29) (v := px_xs g i) dL_law_28 rfl (by decide) rfl (vp_in_nI (n := i) (by omega) (by omega)) (by rw [nI_cl (by omega)]) ?_
      refine r_bipush (pc' := 31) (v := nI 31) dL_law_29 rfl rfl ?_
      refine r_iand (pc' := 32) (v := px_xs g i &&& nI 31) dL_law_31 rfl rfl ?_
      generalize px_xs g i &&& nI 31 = x
      by_cases hsw : hasI x 23 = true
      · obtain ⟨k, hk, rfl⟩ := hasI_t hsw (by omega)
        rcases (show k = 0 ∨ k = 1 ∨ k = 2 ∨ k = 3 ∨ k = 4 ∨ k = 5 ∨ k = 6 ∨ k = 7 ∨ k = 8 ∨ k = 9 ∨ k = 10 ∨ k = 11 ∨ k = 12 ∨ k = 13 ∨ k = 14 ∨ k = 15 ∨ k = 16 ∨ k = 17 ∨ k = 18 ∨ k = 19 ∨ k = 20 ∨ k = 21 ∨ k = 22 by omega) with rfl | rfl | rfl | rfl | rfl | rfl | rfl | rfl | rfl | rfl | rfl | rfl | rfl | rfl | rfl | rfl | rfl | rfl | rfl | rfl | rfl | rfl | rfl
        · exact r_tableIn (off := 108) (tgt := 140) dL_law_32 (by decide) (by decide) (by decide) (by decide) (law_type hL hi4 hP K)
        · exact r_tableIn (off := 131) (tgt := 163) dL_law_32 (by decide) (by decide) (by decide) (by decide) (law_clear hL hi4 hP K)
        · exact r_tableIn (off := 144) (tgt := 176) dL_law_32 (by decide) (by decide) (by decide) (by decide) (law_suburb hL hi4 hP K)
        · exact r_tableIn (off := 157) (tgt := 189) dL_law_32 (by decide) (by decide) (by decide) (by decide) (law_word hL hi4 hP K)
        · exact r_tableIn (off := 190) (tgt := 222) dL_law_32 (by decide) (by decide) (by decide) (by decide) (law_letter hL hi4 hP K)
        · exact r_tableIn (off := 223) (tgt := 255) dL_law_32 (by decide) (by decide) (by decide) (by decide) (law_drive hL hi4 hP K)
        · exact r_tableIn (off := 256) (tgt := 288) dL_law_32 (by decide) (by decide) (by decide) (by decide) (law_cell hL hi4 hP K)
        · exact r_tableIn (off := 289) (tgt := 321) dL_law_32 (by decide) (by decide) (by decide) (by decide) (law_goer hL hi4 hP K)
        · exact r_tableIn (off := 322) (tgt := 354) dL_law_32 (by decide) (by decide) (by decide) (by decide) (law_rakes hL hi4 hP K)
        · exact r_tableIn (off := 355) (tgt := 387) dL_law_32 (by decide) (by decide) (by decide) (by decide) (law_treads hL hi4 hP K)
        · exact r_tableIn (off := 398) (tgt := 430) dL_law_32 (by decide) (by decide) (by decide) (by decide) (law_cat hL hi4 hP K)
        · exact r_tableIn (off := 431) (tgt := 463) dL_law_32 (by decide) (by decide) (by decide) (by decide) (law_rains hL hi4 hP K)
        · exact r_tableIn (off := 444) (tgt := 476) dL_law_32 (by decide) (by decide) (by decide) (by decide) (law_hour hL hi4 hP K)
        · exact r_tableIn (off := 457) (tgt := 489) dL_law_32 (by decide) (by decide) (by decide) (by decide) (law_undo hL hi4 hP K)
        · exact r_tableIn (off := 470) (tgt := 502) dL_law_32 (by decide) (by decide) (by decide) (by decide) (law_likely hL hi4 hP K)
        · exact r_tableIn (off := 513) (tgt := 545) dL_law_32 (by decide) (by decide) (by decide) (by decide) (law_spoil hL hi4 hP K)
        · exact r_tableIn (off := 556) (tgt := 588) dL_law_32 (by decide) (by decide) (by decide) (by decide) (law_round hL hi4 hP K)
        · exact r_tableIn (off := 579) (tgt := 611) dL_law_32 (by decide) (by decide) (by decide) (by decide) (law_odds hL hi4 hP K)
        · exact r_tableIn (off := 622) (tgt := 654) dL_law_32 (by decide) (by decide) (by decide) (by decide) (law_rate hL hi4 hP K)
        · exact r_tableIn (off := 655) (tgt := 687) dL_law_32 (by decide) (by decide) (by decide) (by decide) (law_keep hL hi4 hP K)
        · exact r_tableIn (off := 678) (tgt := 710) dL_law_32 (by decide) (by decide) (by decide) (by decide) (law_back hL hi4 hP K)
        · exact r_tableIn (off := 701) (tgt := 733) dL_law_32 (by decide) (by decide) (by decide) (by decide) (law_count hL hi4 hP K)
        · exact r_tableIn (off := 724) (tgt := 756) dL_law_32 (by decide) (by decide) (by decide) (by decide) (law_trace hL hi4 hP K)
      · exact r_tableOut (tgt := 770) dL_law_32 (out_hasI hsw) (by decide) (K w hP)
theorem TOK_0 : TOK T0 := ⟨fun i hi => absurd hi (Nat.not_lt_zero _), fun i x hi => absurd hi (Nat.not_lt_zero _), fun d hd => absurd hd (Nat.not_lt_zero _), fun j hj => absurd hj (Nat.not_lt_zero _)⟩
set_option maxHeartbeats 400000 in
theorem law_main {g : px_G} (hL : px_L g ≤ 2048) : Wp g yL_law cL_law 4 (some .boolean) 33 76 1685 (LZ g) 0 0 0 [some (.ref 1002), none, none, none] [] [] := by
  refine r_new (pc' := 3) (ci := 5) (q := 0) (fs := [.null, .null, .null, .null, .null, .null, .int (nI 0), .long 0]) (ty := tyX6) (c1 := 1) (s1 := 8) rfl iX6 tyX6_ok clL_7 inX6.1 inX6.2 frX6 rfl (by decide) dL_law_0 rfl rfl rfl rfl (by decide) (by decide) ?_
  refine r_dup (pc' := 4) dL_law_3 rfl rfl ?_
  refine r_callI (pc' := 7) (av := []) (q := 0) (rest := [.ref 0]) (c1 := 60) (s1 := 861) kX6_init vX6_init lL_9 dL_law_4 rfl (Nat.le_of_ble_eq_true rfl) rfl rfl ⟨by decide, by decide, by decide⟩ rfl rfl (Nat.le_of_ble_eq_true rfl) (ct_X6_init rfl rfl (fun w1 hl1 h1 => ?_))
  show Wp g yL_law cL_law 4 (some .boolean) 33 76 1685 (LZ g) 60 861 7 [some (.ref 1002), none, none, none] [.ref 0] w1
  refine r_astore_n (pc' := 8) (lo' := [some (.ref 1002), some (.ref 0), none, none]) dL_law_7 rfl (by decide) rfl ?_
  refine r_new (pc' := 11) (ci := 6) (q := 60) (fs := [.int (nI 0), .long 0, .null, .int (nI 0), .int (nI 0), .int (nI 0), .int (nI 0), .int (nI 0), .int (nI 0), .null, .null, .null, .null, .null, .null, .null, .null, .null, .null, .null, .null, .null, .int (nI 0), .null]) (ty := tyX7) (c1 := 61) (s1 := 885) rfl iX7 tyX7_ok clL_10 inX7.1 inX7.2 frX7 rfl (by omega) dL_law_8 rfl hl1 rfl rfl (by decide) (by decide) ?_
  refine r_dup (pc' := 12) dL_law_11 rfl rfl ?_
  refine r_callI (pc' := 15) (av := []) (q := 60) (rest := [.ref 60]) (c1 := 76) (s1 := 1685) kX7_init vX7_init lL_12 dL_law_12 rfl (by rw [List.length_append, hl1]; simp) rfl rfl ⟨by decide, by decide, by decide⟩ rfl rfl (Nat.le_of_ble_eq_true rfl) (ct_X7_init (by rw [List.length_append, hl1]; simp) (ap_eq hl1) (fun w2 hl2 h2 hF2 => ?_))
  show Wp g yL_law cL_law 4 (some .boolean) 33 76 1685 (LZ g) 76 1685 15 [some (.ref 1002), some (.ref 0), none, none] [.ref 60] w2
  have h1 := h1.fr (Frm.new hl1 hF2 (by omega)) (by omega)
  refine r_astore_n (pc' := 16) (lo' := [some (.ref 1002), some (.ref 0), some (.ref 60), none]) dL_law_15 rfl (by decide) rfl ?_
  refine r_iconst (pc' := 17) (v := nI 0) dL_law_16 rfl rfl ?_
  refine r_istore_n (pc' := 18) (lo' := [some (.ref 1002), some (.ref 0), some (.ref 60), some (.int (nI 0))]) dL_law_17 rfl (by decide) rfl ?_
  exact law_loop hL (px_L g + 1) 0 w2 (by omega) (Nat.zero_le _) ⟨_, _, _, _, _, _, _, h1, h2, TOK_0⟩
