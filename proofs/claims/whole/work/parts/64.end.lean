/-! the law's start: the ghost, the tables, the claim -/
theorem nF_ok : ∀ q ∈ px_nF, Cond.fieldLinkNest q.1 q.2.1 q.2.2.1 q.2.2.2.1 q.2.2.2.2.1 q.2.2.2.2.2 ∈ lw_tbl := by decide +kernel
theorem nM_ok : ∀ q ∈ px_nM, Cond.methodLinkNest q.1 q.2.1 q.2.2.1 q.2.2.2 ∈ lw_tbl := by decide +kernel
theorem AO_ok : Cond.arrayOver (.object "GravelWords$Morning") ∈ lw_tbl := List.mem_of_getElem? (i := 177) (by decide +kernel)
/-- the classes' numbers and slots -/
theorem cls_ok {s : State} {args : Array Value} (hts : ∀ w ∈ gw, w.before args s = true) : ∃ D : va_G, ∀ (k : Nat) (q : vw_C), px_cl[k]? = some q → u_Kn s q.1 q.2.1 q.2.2 (D.1 k) (D.2 k) := by
  have h : ∀ k : Nat, ∃ d : ClassId × (Nat → Nat), ∀ q : vw_C, px_cl[k]? = some q → u_Kn s q.1 q.2.1 q.2.2 d.1 d.2 := by
    intro k
    match k with
    | 0 => obtain ⟨cC, iS, hk⟩ := u_known (C := RX0) (T := TX0) (N := 3) (n := 3) hts iX0 (hts _ inX0.1); exact ⟨(cC, iS), fun q hq => by cases hq; exact hk⟩
    | 1 => obtain ⟨cC, iS, hk⟩ := u_known (C := RX1) (T := TX1) (N := 3) (n := 3) hts iX1 (hts _ inX1.1); exact ⟨(cC, iS), fun q hq => by cases hq; exact hk⟩
    | 2 => obtain ⟨cC, iS, hk⟩ := u_known (C := RX2) (T := TX2) (N := 7) (n := 7) hts iX2 (hts _ inX2.1); exact ⟨(cC, iS), fun q hq => by cases hq; exact hk⟩
    | 3 => obtain ⟨cC, iS, hk⟩ := u_known (C := RX4) (T := TX4) (N := 1) (n := 1) hts iX4 (hts _ inX4.1); exact ⟨(cC, iS), fun q hq => by cases hq; exact hk⟩
    | 4 => obtain ⟨cC, iS, hk⟩ := u_known (C := RX5) (T := TX5) (N := 8) (n := 8) hts iX5 (hts _ inX5.1); exact ⟨(cC, iS), fun q hq => by cases hq; exact hk⟩
    | 5 => obtain ⟨cC, iS, hk⟩ := u_known (C := RX6) (T := TX6) (N := 8) (n := 8) hts iX6 (hts _ inX6.1); exact ⟨(cC, iS), fun q hq => by cases hq; exact hk⟩
    | 6 => obtain ⟨cC, iS, hk⟩ := u_known (C := RX7) (T := TX7) (N := 24) (n := 24) hts iX7 (hts _ inX7.1); exact ⟨(cC, iS), fun q hq => by cases hq; exact hk⟩
    | k + 7 => exact ⟨(0, fun _ => 0), fun q hq => by simp at hq⟩
  exact ⟨(fun k => (Classical.choose (h k)).1, fun k => (Classical.choose (h k)).2), fun k q hq => Classical.choose_spec (h k) q hq⟩
/-- the arrays' classes -/
theorem arr_ok {s : State} {args : Array Value} (hts : ∀ w ∈ gw, w.before args s = true) (hao : (Cond.arrayOver (.object "GravelWords$Morning")).before args s = true) : ∃ tc : Nat → ClassId, ∀ (k : Nat) (q : ClassId × FieldType), ([(tc 0, .int), (tc 1, .boolean), (tc 2, .object "GravelWords$Morning")] : List (ClassId × FieldType))[k]? = some q → ArrOfT s q.1 q.2 ∧ va_RA s q.1 q.2 := by
  obtain ⟨c1, k1, m1, e1, e2, e3⟩ := Cond.arrayClass_spec (hts _ aC_int)
  obtain ⟨c2, k2, m2, f1, f2, f3⟩ := Cond.arrayClass_spec (hts _ aC_boolean)
  obtain ⟨m3, c3, k3, g1, -, g3, g4, g5⟩ := Cond.arrayOver_spec hao
  refine ⟨fun k => if k = 0 then c1 else if k = 1 then c2 else c3, fun k q hq => ?_⟩
  match k, hq with
  | 0, hq => cases hq; exact ⟨fun n z => ⟨(fun k h => by cases h), k1, e2, m1, e3⟩, e1⟩
  | 1, hq => cases hq; exact ⟨fun n z => ⟨(fun k h => by cases h), k2, f2, m2, f3⟩, f1⟩
  | 2, hq => cases hq; exact ⟨fun n z => ⟨(fun k h => by cases h), k3, g3, m3, g4⟩, k3, m3, g3, g4, g1, g5⟩
  | k + 3, hq => simp at hq
theorem scr_T {b L : Nat} {xs : Nat → Int32} {s : State} {A : Nat → Prop} (hX : va_X b L xs s s.heap) (hb : ¬ A b) : va_T .int b L (fun j => .int (xs j)) A s s.heap := by
  obtain ⟨scr, h1, h2, h3, h4, h5⟩ := hX
  exact ⟨scr, h1, h2, h3, Nat.le_of_eq h4.symm, by rw [h4], h5, hb⟩
set_option maxHeartbeats 400000 in
/-- YOUR PART: from the entry, for every script of at most 2048 ints, the law comes to its end with true ('hflags': the launch's flags, for a law that throws: no stack traces) -/
theorem whole_start {p : Program} {e : Env} {s : State} {m : MethodId} {below : List Frame} {meth : Method} {c : Code} (l : Launch) (hflags : l.flags = flags0) {b L : Nat} {xs : Nat → Int32} (hL : L ≤ 2048) (C0 : lw_At p s m meth c b L xs) : W p l e room_1 s m #[Value.ref b] below meth c s.heap [] 0 0 (lw_Z below #[Value.ref b] s) (entryFrame m ([Value.ref b] : List Value).toArray 4) := by
  obtain ⟨hx, hb, hr, hml, hown, hts, hX, hbl, hlocks, hgv⟩ := C0
  have hg : ∀ w ∈ gw, w.before #[Value.ref b] s = true := fun w hw => hts w (gw_tbl hw)
  have hA0 : ∀ a : Nat, a < s.heap.size → ¬ (fun q : Nat => s.heap.size ≤ q) a := fun a h => Nat.not_le.mpr h
  obtain ⟨D, hD⟩ := cls_ok hg
  obtain ⟨tc, htc⟩ := arr_ok hg (hts _ AO_ok)
  have T3 := scr_T (A := fun q : Nat => s.heap.size ≤ q) hX (hA0 b hbl)
  obtain ⟨sa, s3⟩ : ∃ sa : Nat → Nat, sa 1002 = b := ⟨fun _ => b, rfl⟩
  subst s3
  obtain ⟨g, hge⟩ : ∃ g : px_G, g = (l, s.heap.size, sa, D, tc, L, xs) := ⟨_, rfl⟩
  have hgl : px_l g = l := by rw [hge]
  have hgb : px_b g = s.heap.size := by rw [hge]
  have hgL : px_L g = L := by rw [hge]
  have hS : px_S g s s.heap := by
    subst hge
    refine ⟨fun k n f hk => ?_, fun q hq => va_Nw.of rfl (hts _ (nF_ok q hq)), fun q hq => va_Nw.of rfl (hts _ (nM_ok q hq)), va_AO.of (hts _ AO_ok)⟩
    unfold px_t at hk
    by_cases e2 : k = 1002
    · subst e2; rw [if_pos rfl] at hk; cases hk; exact T3
    · rw [if_neg e2] at hk; cases hk
  have hP : px_P g [] s s.heap := by
    subst hge
    exact ⟨rfl, Nat.zero_le _, fun k q h => by simp [px_w] at h, hD, htc⟩
  have hM : px_M g yL_law cL_law 4 (some .boolean) 33 76 1685 p room_1 s m #[Value.ref (sa 1002)] meth c := ⟨hx, hb, hml, hr, hown, hg, hlocks, fun h => absurd h (by decide), hS, Nat.le_of_eq hgb, by decide, Nat.le_of_ble_eq_true rfl, Nat.le_of_ble_eq_true rfl, Nat.le_of_ble_eq_true rfl, Nat.le_of_ble_eq_true rfl⟩
  have hl := lv_entry ([.ref (sa 1002)]) (n := 4) (Nat.le_of_ble_eq_true rfl)
  rw [lg_entry_eq]
  have k := law_main (g := g) (by rw [hgL]; exact hL) p e room_1 s m #[Value.ref (sa 1002)] below meth c s.heap [] ((lg_sl ([.ref (sa 1002)]) ++ List.replicate (4 - (lg_sl ([.ref (sa 1002)])).length) Slot.unset).toArray) hM hP va_S.rf ⟨hl.1, hl.2.1, rfl, fun i v hv => ?_⟩
  · intro T hT X
    obtain ⟨t, a, z⟩ := k T hT (by rw [hgl]; exact X)
    exact ⟨t, a, z hgb.symm⟩
  · have hi : i = 0 := by
      rcases Nat.lt_or_ge i 1 with q | q
      · omega
      · exfalso
        match i, q, hv with
        | 1, _, hv => cases hv
        | 2, _, hv => cases hv
        | 3, _, hv => cases hv
        | i + 4, _, hv => simp at hv
    subst hi
    cases hv
    refine ⟨?_, rfl⟩
    have e9 : px_v g (.ref 1002) = .ref (sa 1002) := by rw [hge]; rfl
    rw [e9]
    exact hl.2.2 (0, .ref (sa 1002)) List.mem_cons_self
set_option maxHeartbeats 4000000 in
theorem lw_walk (l : Launch) (hflags : l.flags = flags0) (b : Addr) (xs : List Int32) : MetFree l x (headSpec (Jvm.Cond.code x code maxLocals ret :: tables_1) room_1) (lw_P b xs) (fun _ _ _ _ _ => True) lw_Q := by
  refine MetFree.of_bodyS (code := code) (maxLocals := maxLocals) (ret := ret) (by decide) ?_ ?_
  · intro args s m h hn
    obtain ⟨meth, c, h1, h2, h3, h4, h5, h6, -, -⟩ := Cond.code_spec hn (atoms_spec (ws := Jvm.Cond.code x code maxLocals ret :: tables_1) h _ List.mem_cons_self)
    exact ⟨meth, c, h1, h2, h3, h4, h5, h6⟩
  · intro p e s m args below meth c s₁ B hml0 hP _
    obtain ⟨rfl, hx, hbd, hgv⟩ := hP
    obtain ⟨scr, harrAt, hlist, hof, hsmall⟩ := hx
    obtain ⟨hcb, hkn, -, -⟩ := State.arrayAt?_spec harrAt
    have hown : s.vm.findClass R_law = some m.cls := findClass_of_methodNamed B.named
    have hts0 : ∀ c ∈ (Jvm.Cond.code x code maxLocals ret :: tables_1), c.before #[Value.ref b] s = true := atoms_spec (ws := Jvm.Cond.code x code maxLocals ret :: tables_1) B.pre
    have hts : ∀ w ∈ lw_tbl, w.before #[Value.ref b] s = true := k2_hts_sels lw_privs (fun w hw => hts0 w (List.mem_cons_of_mem _ hw)) lw_privs_ok
    have hml : c.maxLocals = 4 := B.maxLocals_eq (hts0 _ List.mem_cons_self)
    have X₀ : Stand p l e room_1 s m #[Value.ref b] below meth c s₁ [] 0 0 := Stand.of_body B
    have hh0 : s₁.heap = s.heap := by rw [B.state]; rfl
    have hsz : scr.slots.size = xs.length := by rw [← Array.length_toList, hlist, List.length_map]
    have hval : ∀ j : Nat, j < xs.length → scr.slots[j]? = some (.int (xs.getD j 0)) := fun j hj => by
      rw [← Array.getElem?_toList, hlist]
      simp [hj]
    have hbl : b < s.heap.size := (Array.getElem?_eq_some_iff.mp hcb).1
    have hX : va_X b xs.length (fun j => xs.getD j 0) s s.heap := ⟨scr, hcb, hof, hkn, hsz, hval⟩
    have K : W p l e room_1 s m #[Value.ref b] below meth c s₁.heap [] 0 0 (lw_Z below #[Value.ref b] s) (entryFrame m ([Value.ref b] : List Value).toArray 4) := by
      rw [hh0]
      exact whole_start l hflags hbd ⟨B.exec, B.bytes, B.returns, hml, hown, hts, hX, hbl, B.notSynchronized, hgv⟩
    obtain ⟨t, a1, o, b1, b2, b3⟩ := K s₁ rfl X₀
    exact ⟨t, o, a1, b1, b2, b3⟩
theorem lw_pre_spec {args : Array Value} {s : State} (h : (Jvm.Cond.and given_1 narrow_1).before args s = true) (hr : rest_1_c.before args s = true) : ∃ (b : Addr) (xs : List Int32), lw_P b xs args s := by
  have hs := flat_of_before _ h
  have hq := flat_of_before _ hr
  have hc : (Cond.count 1).before args s = true := hs _ (by decide +kernel)
  have harr : (Cond.arrayOf (.arg 0) .int).before args s = true := hs _ (by decide +kernel)
  have hle : (Cond.le (.length (.arg 0)) (.int 2048)).before args s = true := hs _ (by decide +kernel)
  have hlen : (Cond.isInt (.length (.arg 0))).before args s = true := hq _ (by decide +kernel)
  have hall : (Cond.all (.arg 0) (.isInt (.elem (.arg 0) (.index 0)))).before args s = true := hq _ (by decide +kernel)
  obtain ⟨b, xs, hb, hx⟩ := State.ints_of_pre rfl harr hlen hall
  have hsm : xs.length < 2 ^ 31 := hx.choose_spec.2.2.2
  have hev : (Term.length (.arg 0)).eval args s none [] s = some (.int xs.length.toInt32) := hx.length_eval hb
  have hv := Cond.le_ints hev (show (Term.int 2048).eval args s none [] s = some (.int 2048) from rfl)
  have hd : xs.length.toInt32 ≤ 2048 := by
    simpa [Cond.before, Cond.holds, hv] using hle
  have hN : xs.length ≤ 2048 := (Int32.ofNat_le_ofNat hsm (by decide)).mp (show Int32.ofNat xs.length ≤ Int32.ofNat 2048 from hd)
  exact ⟨b, xs, Cond.one_arg hc (show args[0]? = some (.ref b) from hb), hx, hN, h⟩
theorem lw_comes (l : Launch) (hflags : l.flags = flags0) : Comes l x (Jvm.Cond.code x code maxLocals ret :: tables_1) room_1 (fun tb e args s => Calls_1 tb e args s ∧ rest_1 tb e args s ∧ Pre_1 tb e args s)
    (fun _ _ args s o t => lw_Q args s o t) := by
  intro p e ha hc hk s m args below hf hfit hheap happ hpre
  obtain ⟨b, xs, hP⟩ := lw_pre_spec hpre.2.2 hpre.2.1
  obtain ⟨k, o, h1, h2, h3, hQ⟩ := lw_walk l hflags b xs p e ha hc hk s m args below hf ((Spec.applies_iff_loose hf).mp happ).1 hP trivial
  exact ⟨k, o, h1, h2, h3, hQ⟩
theorem lw_frame {s t : State} {o : Outcome} {args : Array Value} (h : Framed s o t [] 600000 7302250) :
    Framed s o t (fieldLocs frame_1_writes args s ++ arrayLocs frame_1_arrays args s ++ staticLocs frame_1_statics s) 600000 7302250 := h
theorem lw_limb (L : Cond) (hL : ∀ (args : Array Value) (s t : State), L.after args s (.returned (some (.int 1))) t = true) :
    ArmFor flags0 classFile x code maxLocals ret World_1 tables_1 room_1 Calls_1 rest_1 Pre_1
      (fun tb e a s o t => postC L tb e a s o t ∧ Framed s o t (fieldLocs frame_1_writes a s ++ arrayLocs frame_1_arrays a s ++ staticLocs frame_1_statics s) 600000 7302250) := by
  intro l hflags _ _ p e ha hc hk s m args below hf hfit hheap happ hpre
  obtain ⟨k, o, h1, h2, h3, rfl, hF⟩ := lw_comes l hflags p e ha hc hk s m args below hf hfit hheap happ hpre
  exact ⟨k, _, h1, h2, h3, hL args s _, lw_frame hF⟩
theorem i_vc : Claimed_1_1 ∧ Claimed_1_2 := ⟨lw_limb limb_1_1 (fun args s t => by simp [limb_1_1, Cond.after, Cond.holds, Cond.value]), lw_limb limb_1_2 (fun args s t => Cond.after_iff.mpr (by
  first | (rw [show limb_1_2 = Cond.eq .result (.int 1) from rfl, Cond.eq_ints (x := 1) (y := 1) rfl rfl]; simp; done) | (simp [limb_1_2, Cond.value, Term.eval]; done)))⟩
