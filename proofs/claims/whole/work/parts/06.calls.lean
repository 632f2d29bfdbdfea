/-! rules of calls and of new cells -/
def px_push (r : Option Value) (l : List Value) : List Value := match r with
  | some v => v :: l
  | none => l
theorem px_push_map (g : px_G) (r : Option Value) (l : List Value) : (px_push r l).map (px_v g) = (r.map (px_v g)).toList ++ l.map (px_v g) := by cases r <;> rfl
section CG
variable {g : px_G} {p : Program} {l : Launch} {e : Env} {R : Room} {s : State} {m : MethodId} {args : Array Value} {below : List Frame} {meth : Method} {c : Code} {H : Heap} {locs : List Loc} {c0 s0 mc' ms' pc : Nat} {ls : Array Slot} {rest st0 : List Value} {a : Array Value} {Qf : State → Prop} {Q' : px_Q}
theorem px_go (hr : va_Run p l e R s m args below meth c H locs c0 s0 mc' ms' (F0 m pc ls st0) rest (px_Qc g Q' a) (px_A g)) (hS : va_S (px_A g) s.heap H locs)
    (kk : ∀ (r : Option Value) (w' : px_W) (H1 : Heap) (locs1 : List Loc), Q' r w' → px_P g w' s H1 → va_S (px_A g) s.heap H1 locs1 → W p l e R s m args below meth c H1 locs1 (c0 + mc') (s0 + ms') Qf (F0 m (pc + 3) ls ((r.map (px_v g)).toList ++ rest))) : W p l e R s m args below meth c H locs c0 s0 Qf (F0 m pc ls st0) := by
  intro T hT X
  obtain ⟨v, st₀, t, T', L, h0, X', hL, e1, e2, ⟨⟨r, w', hv, hQ, hP⟩, hz, hk⟩, st⟩ := hr T hT X
  cases hv
  rw [h0] at hz hk
  have hvm : s.vm.Alike t.vm := by rw [← e2]; exact X'.warmed.alike
  obtain ⟨t2, a1, b1⟩ := kk r w' T'.heap (locs ++ L) hQ (by rw [e1]; exact hP.moved hvm.symm)
    ⟨Nat.le_trans hS.1 (by rw [e1]; exact hz), fun q h1 h2 => by rw [e1, hk q (Nat.lt_of_lt_of_le h1 hS.1) h2]; exact hS.2.1 q h1 h2, fun q hq => by
      rcases List.mem_append.mp hq with h | h
      · exact hS.2.2 q h
      · exact hL q h⟩ T' rfl X'
  exact ⟨t2, st t2 a1, b1⟩
theorem px_start {w : px_W} {av : List Value} (hP : px_P g w s H) (hS : va_S (px_A g) s.heap H locs) (hsS : px_S g s s.heap) : ∀ U : State, U.heap = H → s.WarmedH U.vm → px_Pc g av w (av.map (px_v g)).toArray U := by
  intro U hU hW
  refine ⟨rfl, ?_, ?_⟩
  · rw [hU]; exact hP.moved hW.alike
  · rw [hU]; exact (hsS.kept (H1 := H) (fun q h1 h2 => hS.2.1 q h1 h2)).warm hW
end CG
section C
variable {g : px_G} {y : MethodName} {cc : ByteArray} {nL : Nat} {rt : Option FieldType} {dp mc ms : Nat} {Z : px_Z} {c0 s0 c1 s1 pc pc' : Nat} {lo : List (Option Value)} {st rest : List Value} {w : px_W}
variable {y' : MethodName} {cc' : ByteArray} {nL' n dp' mc' ms' idx q : Nat} {rt' : Option FieldType} {av : List Value}
theorem px_gin (hk : px_K y' cc' nL' rt' n) : GoodIn gw (Cond.code y' cc' nL' rt' :: gw) := gw_in (fun w hw => by
  rcases List.mem_cons.mp hw with rfl | h
  · exact hk.1
  · exact h)
theorem px_room {R : Room} {dp dp' nL' mc' ms' : Nat} (h1 : dp' + 1 ≤ dp) (h2 : dp ≤ R.frames) (h3 : 100 * dp ≤ R.locals) (h4 : nL' ≤ 80) : (px_rm dp' mc' ms').frames + 1 ≤ R.frames ∧ 8 + (nL' + 11) + (px_rm dp' mc' ms').locals ≤ R.locals := by
  constructor
  · show dp' + 1 ≤ _; omega
  · show 8 + (nL' + 11) + 100 * dp' ≤ _; omega
theorem px_cats (g : px_G) (l : List Value) : ((l.map (px_v g)).map fun v => v.category).sum = (l.map Value.category).sum := by
  rw [List.map_map]; congr 1
  apply List.map_congr_left
  intro v _
  exact px_v_cat g v
theorem r_callV {ci N : Nat} {T : u_T} {fs : List Value} (hk : px_K y' cc' nL' rt' n) (hv : Cond.instanceMethod y' ∈ gw ∧ Cond.selects y'.cls y' y' ∈ gw) (hl : Cond.methodLink y.cls idx y' ∈ gw) (hdg : decode cc pc = .ok (.invokevirtual idx, 3)) (hp : pc + 3 = pc') (he : w[q]? = some (.inr (ci, fs))) (hc : px_cl[ci]? = some (y'.cls, T, N)) (hst : st = av.reverse ++ .ref q :: rest) (hn : av.length = n) (hroom : dp' + 1 ≤ dp ∧ c1 ≤ mc ∧ s1 ≤ ms) (h1 : c0 + mc' = c1) (h2 : s0 + ms' = s1) (hcat : (rest.map Value.category).sum ≤ 8)
    (hct : Ct g y' cc' nL' rt' dp' mc' ms' (.ref q :: av) w (fun r w' => Wp g y cc nL rt dp mc ms Z c1 s1 pc' lo (px_push r rest) w')) : Wp g y cc nL rt dp mc ms Z c0 s0 pc lo st w := by
  subst hp; subst hst; subst h1; subst h2
  intro p e R s m args below meth c H locs ls hM hP hS hlo
  have hM' := hM
  obtain ⟨hx, hb, hml, hr, hown, hts, hlocks, hin, hsS, hbase, hd1, hf, hlc, hmc, hms⟩ := hM
  have hq := px_lt hP he
  have hrecv := va_recv hP.2.2.2 hP.2.2.1 hc (px_w_get he)
  have cw : CallW R s args y.cls y'.cls idx y' cc' nL' rt' (Cond.code y' cc' nL' rt' :: gw) (px_rm dp' mc' ms') mc' ms' n := ⟨callB_of n hts (px_gin hk) rfl rfl rfl (hts _ hk.2.1) (hts _ hl) hk.2.2.1 (px_room hroom.1 hf hlc hk.2.2.2.2), hts _ hv.1, hts _ hv.2⟩
  have hpv : PreV s H y'.cls (px_b g + q) (px_Pc g (.ref q :: av) w) (av.map (px_v g)) := ⟨px_blind g _ w, hrecv, fun U hU hW => by
    have := px_start (av := .ref q :: av) hP hS hsS U hU hW
    rw [List.map_cons] at this
    have e9 : px_v g (.ref q) = .ref (px_b g + q) := by show Value.ref (px_ad g q) = _; rw [px_ad_lo hq]
    rw [e9] at this
    exact this⟩
  have hrun := va_runV (p := p) (l := px_l g) (e := e) (below := below) (meth := meth) (locs := locs) (cells := c0) (slots := s0) (rest := rest.map (px_v g)) (g := F0 m pc ls (((av.reverse ++ .ref q :: rest)).map (px_v g))) ⟨hx, hb, hml, hown, hts⟩ hct cw hpv rfl (by simpa using hn) hlo.1 (by simp [px_v, px_ad_lo hq]) (lv_room (by rw [px_cats]; exact hcat)) hdg ⟨Nat.le_trans hroom.2.1 hmc, Nat.le_trans hroom.2.2 hms⟩
  refine px_go hrun hS (fun r w' H1 locs1 hQ hP1 hS1 => ?_)
  have := hQ p e R s m args below meth c H1 locs1 ls hM' hP1 hS1 hlo
  rw [px_push_map] at this
  exact this
theorem r_callS (hk : px_K y' cc' nL' rt' n) (hv : Cond.static y' ∈ gw) (hl : Cond.methodLink y.cls idx y' ∈ gw) (hdg : decode cc pc = .ok (.invokestatic idx, 3)) (hp : pc + 3 = pc') (hst : st = av.reverse ++ rest) (hn : av.length = n) (hroom : dp' + 1 ≤ dp ∧ c1 ≤ mc ∧ s1 ≤ ms) (h1 : c0 + mc' = c1) (h2 : s0 + ms' = s1) (hcat : (rest.map Value.category).sum ≤ 8)
    (hct : Ct g y' cc' nL' rt' dp' mc' ms' av w (fun r w' => Wp g y cc nL rt dp mc ms Z c1 s1 pc' lo (px_push r rest) w')) : Wp g y cc nL rt dp mc ms Z c0 s0 pc lo st w := by
  subst hp; subst hst; subst h1; subst h2
  intro p e R s m args below meth c H locs ls hM hP hS hlo
  have hM' := hM
  obtain ⟨hx, hb, hml, hr, hown, hts, hlocks, hin, hsS, hbase, hd1, hf, hlc, hmc, hms⟩ := hM
  have cw : CallB R s args y.cls idx y' cc' nL' rt' (Cond.code y' cc' nL' rt' :: gw) (px_rm dp' mc' ms') mc' ms' n := callB_of n hts (px_gin hk) rfl rfl rfl (hts _ hk.2.1) (hts _ hl) hk.2.2.1 (px_room hroom.1 hf hlc hk.2.2.2.2)
  have hps : PreS s H (px_Pc g av w) (av.map (px_v g)) := ⟨px_blind g _ w, px_start hP hS hsS⟩
  have hrun := va_runS (p := p) (l := px_l g) (e := e) (below := below) (meth := meth) (locs := locs) (cells := c0) (slots := s0) (rest := rest.map (px_v g)) (g := F0 m pc ls (((av.reverse ++ rest)).map (px_v g))) ⟨hx, hb, hml, hown, hts⟩ hct ⟨cw, hts _ hv⟩ hps rfl (by simpa using hn) hlo.1 (by simp) (lv_room (by rw [px_cats]; exact hcat)) hdg ⟨Nat.le_trans hroom.2.1 hmc, Nat.le_trans hroom.2.2 hms⟩
  refine px_go hrun hS (fun r w' H1 locs1 hQ hP1 hS1 => ?_)
  have := hQ p e R s m args below meth c H1 locs1 ls hM' hP1 hS1 hlo
  rw [px_push_map] at this
  exact this
theorem r_callSN (hk : px_K y' cc' nL' rt' n) (hv : Cond.static y' ∈ gw) (hl : (y.cls, idx, y', "GravelWords") ∈ px_nM) (hdg : decode cc pc = .ok (.invokestatic idx, 3)) (hp : pc + 3 = pc') (hst : st = av.reverse ++ rest) (hn : av.length = n) (hroom : dp' + 1 ≤ dp ∧ c1 ≤ mc ∧ s1 ≤ ms) (h1 : c0 + mc' = c1) (h2 : s0 + ms' = s1) (hcat : (rest.map Value.category).sum ≤ 8)
    (hct : Ct g y' cc' nL' rt' dp' mc' ms' av w (fun r w' => Wp g y cc nL rt dp mc ms Z c1 s1 pc' lo (px_push r rest) w')) : Wp g y cc nL rt dp mc ms Z c0 s0 pc lo st w := by
  subst hp; subst hst; subst h1; subst h2
  intro p e R s m args below meth c H locs ls hM hP hS hlo
  have hM' := hM
  obtain ⟨hx, hb, hml, hr, hown, hts, hlocks, hin, hsS, hbase, hd1, hf, hlc, hmc, hms⟩ := hM
  have cw : va_CN R s args y.cls idx y' "GravelWords" cc' nL' rt' (Cond.code y' cc' nL' rt' :: gw) (px_rm dp' mc' ms') mc' ms' n := va_cnB n hts (px_gin hk) rfl rfl rfl (hsS.2.2.1 _ hl) (hts _ hk.2.1) hk.2.2.1 (px_room hroom.1 hf hlc hk.2.2.2.2)
  have hps : PreS s H (px_Pc g av w) (av.map (px_v g)) := ⟨px_blind g _ w, px_start hP hS hsS⟩
  have hrun := va_runSN (p := p) (l := px_l g) (e := e) (below := below) (meth := meth) (locs := locs) (cells := c0) (slots := s0) (rest := rest.map (px_v g)) (g := F0 m pc ls (((av.reverse ++ rest)).map (px_v g))) ⟨hx, hb, hml, hown, hts⟩ hct ⟨cw, hts _ hv, trivial⟩ hps rfl (by simpa using hn) hlo.1 (by simp) (lv_room (by rw [px_cats]; exact hcat)) hdg ⟨Nat.le_trans hroom.2.1 hmc, Nat.le_trans hroom.2.2 hms⟩
  refine px_go hrun hS (fun r w' H1 locs1 hQ hP1 hS1 => ?_)
  have := hQ p e R s m args below meth c H1 locs1 ls hM' hP1 hS1 hlo
  rw [px_push_map] at this
  exact this
theorem r_callI (hk : px_K y' cc' nL' none n) (hv : y'.name = "<init>" ∧ Cond.instanceMethod y' ∈ gw) (hl : Cond.methodLink y.cls idx y' ∈ gw) (hdg : decode cc pc = .ok (.invokespecial idx, 3)) (hp : pc + 3 = pc') (hq : q < w.length) (hst : st = av.reverse ++ .ref q :: rest) (hn : av.length = n) (hroom : dp' + 1 ≤ dp ∧ c1 ≤ mc ∧ s1 ≤ ms) (h1 : c0 + mc' = c1) (h2 : s0 + ms' = s1) (hcat : (rest.map Value.category).sum ≤ 8)
    (hct : Ct g y' cc' nL' none dp' mc' ms' (.ref q :: av) w (fun r w' => Wp g y cc nL rt dp mc ms Z c1 s1 pc' lo (px_push r rest) w')) : Wp g y cc nL rt dp mc ms Z c0 s0 pc lo st w := by
  subst hp; subst hst; subst h1; subst h2
  intro p e R s m args below meth c H locs ls hM hP hS hlo
  have hM' := hM
  obtain ⟨hx, hb, hml, hr, hown, hts, hlocks, hin, hsS, hbase, hd1, hf, hlc, hmc, hms⟩ := hM
  have hq' : q < 1000 := by have := hP.2.1; omega
  have e9 : px_v g (.ref q) = .ref (px_b g + q) := by show Value.ref (px_ad g q) = _; rw [px_ad_lo hq']
  have cw : CallB R s args y.cls idx y' cc' nL' none (Cond.code y' cc' nL' none :: gw) (px_rm dp' mc' ms') mc' ms' n := callB_of n hts (px_gin hk) rfl rfl rfl (hts _ hk.2.1) (hts _ hl) hk.2.2.1 (px_room hroom.1 hf hlc hk.2.2.2.2)
  have hps : PreS s H (px_Pc g (.ref q :: av) w) (.ref (px_b g + q) :: av.map (px_v g)) := ⟨px_blind g _ w, by
    have := px_start (av := .ref q :: av) hP hS hsS
    rw [List.map_cons, e9] at this
    exact this⟩
  have hrun := va_runI (p := p) (l := px_l g) (e := e) (below := below) (meth := meth) (locs := locs) (cells := c0) (slots := s0) (rest := rest.map (px_v g)) (g := F0 m pc ls (((av.reverse ++ .ref q :: rest)).map (px_v g))) ⟨hx, hb, hml, hown, hts⟩ hct ⟨cw, hv.1, hts _ hv.2⟩ hps rfl (by simpa using hn) hlo.1 (by simp [px_v, px_ad_lo hq']) (lv_room (by rw [px_cats]; exact hcat)) hdg ⟨Nat.le_trans hroom.2.1 hmc, Nat.le_trans hroom.2.2 hms⟩
  refine px_go hrun hS (fun r w' H1 locs1 hQ hP1 hS1 => ?_)
  have := hQ p e R s m args below meth c H1 locs1 ls hM' hP1 hS1 hlo
  rw [px_push_map] at this
  exact this
theorem r_callIN (hk : px_K y' cc' nL' none n) (hv : y'.name = "<init>" ∧ Cond.instanceMethod y' ∈ gw) (hl : (y.cls, idx, y', "GravelWords") ∈ px_nM) (hdg : decode cc pc = .ok (.invokespecial idx, 3)) (hp : pc + 3 = pc') (hq : q < w.length) (hst : st = av.reverse ++ .ref q :: rest) (hn : av.length = n) (hroom : dp' + 1 ≤ dp ∧ c1 ≤ mc ∧ s1 ≤ ms) (h1 : c0 + mc' = c1) (h2 : s0 + ms' = s1) (hcat : (rest.map Value.category).sum ≤ 8)
    (hct : Ct g y' cc' nL' none dp' mc' ms' (.ref q :: av) w (fun r w' => Wp g y cc nL rt dp mc ms Z c1 s1 pc' lo (px_push r rest) w')) : Wp g y cc nL rt dp mc ms Z c0 s0 pc lo st w := by
  subst hp; subst hst; subst h1; subst h2
  intro p e R s m args below meth c H locs ls hM hP hS hlo
  have hM' := hM
  obtain ⟨hx, hb, hml, hr, hown, hts, hlocks, hin, hsS, hbase, hd1, hf, hlc, hmc, hms⟩ := hM
  have hq' : q < 1000 := by have := hP.2.1; omega
  have e9 : px_v g (.ref q) = .ref (px_b g + q) := by show Value.ref (px_ad g q) = _; rw [px_ad_lo hq']
  have cw : va_CN R s args y.cls idx y' "GravelWords" cc' nL' none (Cond.code y' cc' nL' none :: gw) (px_rm dp' mc' ms') mc' ms' n := va_cnB n hts (px_gin hk) rfl rfl rfl (hsS.2.2.1 _ hl) (hts _ hk.2.1) hk.2.2.1 (px_room hroom.1 hf hlc hk.2.2.2.2)
  have hps : PreS s H (px_Pc g (.ref q :: av) w) (.ref (px_b g + q) :: av.map (px_v g)) := ⟨px_blind g _ w, by
    have := px_start (av := .ref q :: av) hP hS hsS
    rw [List.map_cons, e9] at this
    exact this⟩
  have hrun := va_runIN (p := p) (l := px_l g) (e := e) (below := below) (meth := meth) (locs := locs) (cells := c0) (slots := s0) (rest := rest.map (px_v g)) (g := F0 m pc ls (((av.reverse ++ .ref q :: rest)).map (px_v g))) ⟨hx, hb, hml, hown, hts⟩ hct ⟨cw, hv.1, hts _ hv.2⟩ hps rfl (by simpa using hn) hlo.1 (by simp [px_v, px_ad_lo hq']) (lv_room (by rw [px_cats]; exact hcat)) hdg ⟨Nat.le_trans hroom.2.1 hmc, Nat.le_trans hroom.2.2 hms⟩
  refine px_go hrun hS (fun r w' H1 locs1 hQ hP1 hS1 => ?_)
  have := hQ p e R s m args below meth c H1 locs1 ls hM' hP1 hS1 hlo
  rw [px_push_map] at this
  exact this
theorem r_objInit (hl : Cond.methodLink y.cls idx objectInit ∈ gw) (hi : Cond.instanceMethod objectInit ∈ gw) (hc : Cond.code objectInit ⟨#[0xb1]⟩ 1 none ∈ gw) (hdg : decode cc pc = .ok (.invokespecial idx, 3)) (hp : pc + 3 = pc') (hcat : (rest.map Value.category).sum ≤ 8) (kk : Wp g y cc nL rt dp mc ms Z c0 s0 pc' lo rest w) : Wp g y cc nL rt dp mc ms Z c0 s0 pc lo (.ref q :: rest) w := by
  subst hp
  intro p e R s m args below meth c H locs ls hM hP hS hlo
  have hk2 := kk p e R s m args below meth c H locs ls hM hP hS hlo
  obtain ⟨hx, hb, hml, hr, hown, hts, hlocks, hin, hsS, hbase, hd1, hf, hlc, hmc, hms⟩ := hM
  refine W.objInit hx hb hown (hts _ hl) (hts _ hi) (hts _ hc) rfl (by rw [hml]; exact hlo.1) rfl hdg (Nat.le_trans hd1 hf) ?_ hk2
  have h1 := lv_room (m := m) (pc := pc) (ls := ls) (rest := rest) (st := rest.map (px_v g)) (by rw [px_cats]; exact hcat)
  have h2 : 2 * (F0 m pc ls ((Value.ref q :: rest).map (px_v g))).monitorRoom + ((rest.map (px_v g)).map fun v => v.category).sum ≤ 8 := h1
  omega
theorem r_new {C : String} {T : u_T} {N ci : Nat} {fs : List Value} {ty : Nat → FieldType} (hcl : px_cl[ci]? = some (C, T, N)) (hin : ∀ w ∈ u_ws C T N, w ∈ gw) (hty : ∀ k, k < N → parseFieldDescriptor (T k).2.2.1 = some (ty k)) (hw1 : Cond.classLink y.cls idx C ∈ gw) (hw2 : Cond.instantiable C N ∈ gw) (hw3 : Cond.initialized C ∈ gw) (hfs : ∀ j, j < N → defaultValue (ty j) = vp_V fs j) (hfs2 : fs.map (px_v g) = fs) (hlen : w.length + 1 ≤ 900) (hdg : decode cc pc = .ok (.new idx, 3)) (hp : pc + 3 = pc') (hq : w.length = q) (h1 : c0 + 1 = c1) (h2 : s0 + N = s1) (hr1 : c1 ≤ mc) (hr2 : s1 ≤ ms)
    (kk : Wp g y cc nL rt dp mc ms Z c1 s1 pc' lo (.ref q :: st) (w ++ [.inr (ci, fs)])) : Wp g y cc nL rt dp mc ms Z c0 s0 pc lo st w := by
  subst hp; subst hq; subst h1; subst h2
  intro p e R s m args below meth c H locs ls hM hP hS hlo
  have hM' := hM
  obtain ⟨hx, hb, hml, hr, hown, hts, hlocks, hini, hsS, hbase, hd1, hf, hlc, hmc, hms⟩ := hM
  have hKn := hP.2.2.2.1 ci _ hcl
  refine W.newcK hx hb hown (hts _ hw1) (hts _ hw2) (hts _ hw3) rfl hdg (Nat.le_trans hr1 hmc) (Nat.le_trans hr2 hms) hKn.2.1 rfl fun H1 kC hkC e1 z1 o1 => ?_
  have hkp : ∀ (k : Nat) (x : Nat × va_E), (px_w g w)[k]? = some x → H1[x.1]? = H[x.1]? := fun k x hx => o1 x.1 ((hP.2.2.1 k x hx).lt)
  have hP1 : px_P g (w ++ [.inr (ci, fs)]) s H1 := by
    refine ⟨by rw [z1, hP.1, List.length_append]; simp only [List.length_cons, List.length_nil]; omega, by rw [List.length_append]; simpa using hlen, ?_, hP.2.2.2⟩
    rw [px_w_app]
    refine (hP.2.2.1.kept hkp).app (fun k x hx => ?_)
    have hz : k < 1 := (List.getElem?_eq_some_iff.mp hx).1
    rw [show k = 0 by omega] at hx
    cases hx
    rw [← hP.1]
    refine ⟨_, hcl, ?_⟩
    show t_OB H.size _ _ _ H1 (vp_V (fs.map (px_v g)))
    rw [hfs2]
    exact (u_born ty hts hin hKn hkC e1 hty).to hfs
  have := kk p e R s m args below meth c H1 locs ls hM' hP1 ⟨Nat.le_trans hS.1 (by omega), fun x h1 h2 => (o1 x (Nat.lt_of_lt_of_le h1 hS.1)).trans (hS.2.1 x h1 h2), hS.2.2⟩ hlo
  have e9 : px_ad g w.length = H.size := by rw [px_ad_lo (by omega), hP.1]
  have e8 : (Value.ref w.length :: st).map (px_v g) = .ref H.size :: st.map (px_v g) := by
    rw [List.map_cons]; congr 1; show Value.ref (px_ad g w.length) = _; rw [e9]
  rw [e8] at this
  exact this
theorem r_newarray {at_ : ArrayType} {t k N : Nat} {x : Int32} (hat : (at_ = .int ∧ t = 0 ∧ k = 0) ∨ (at_ = .boolean ∧ t = 1 ∧ k = 1)) (hw : Cond.arrayClass (newarray.typeOf at_) ∈ gw) (hn : ¬ x < 0) (hN : x.toNatClampNeg = N) (hb1 : N ≤ 100000) (hlen : w.length + 1 ≤ 900) (hdg : decode cc pc = .ok (.newarray at_, 2)) (hp : pc + 2 = pc') (hq : w.length = q) (h1 : c0 + 1 = c1) (h2 : s0 + N = s1) (hr1 : c1 ≤ mc) (hr2 : s1 ≤ ms)
    (kk : Wp g y cc nL rt dp mc ms Z c1 s1 pc' lo (.ref q :: st) (w ++ [.inl (t, N, .inl (fun _ => 0))])) : Wp g y cc nL rt dp mc ms Z c0 s0 pc lo (.int x :: st) w := by
  subst hp; subst hq; subst h1; subst h2
  intro p e R s m args below meth c H locs ls hM hP hS hlo
  have hM' := hM
  obtain ⟨hx, hb, hml, hr, hown, hts, hlocks, hini, hsS, hbase, hd1, hf, hlc, hmc, hms⟩ := hM
  have hby : N * componentBytes (newarray.typeOf at_) ≤ 536870912 := by
    have h9 : componentBytes (newarray.typeOf at_) ≤ 4 := by rcases hat with ⟨rfl, -⟩ | ⟨rfl, -⟩ <;> decide
    calc N * componentBytes (newarray.typeOf at_) ≤ 100000 * 4 := Nat.mul_le_mul hb1 h9
      _ ≤ 536870912 := by decide
  refine va_newaK hx hb (hts _ hw) rfl hdg rfl hn hN hby (Nat.le_trans hr1 hmc) (Nat.le_trans hr2 hms) rfl fun H1 cA e1 z1 o1 hAr hNm => ?_
  have hkp : ∀ (k : Nat) (x : Nat × va_E), (px_w g w)[k]? = some x → H1[x.1]? = H[x.1]? := fun k x hx => o1 x.1 ((hP.2.2.1 k x hx).lt)
  have hcA : px_tc g t = cA := by
    rcases hat with ⟨rfl, rfl, -⟩ | ⟨rfl, rfl, -⟩
    · exact Option.some.inj (((hP.2.2.2.2 0 _ rfl).2 : s.vm.findClass _ = some _).symm.trans hNm)
    · exact Option.some.inj (((hP.2.2.2.2 1 _ rfl).2 : s.vm.findClass _ = some _).symm.trans hNm)
  have hP1 : px_P g (w ++ [.inl (t, N, .inl (fun _ => 0))]) s H1 := by
    refine ⟨by rw [z1, hP.1, List.length_append]; simp only [List.length_cons, List.length_nil]; omega, by rw [List.length_append]; simpa using hlen, ?_, hP.2.2.2⟩
    rw [px_w_app]
    refine (hP.2.2.1.kept hkp).app (fun k x hx => ?_)
    have hz : k < 1 := (List.getElem?_eq_some_iff.mp hx).1
    rw [show k = 0 by omega] at hx
    cases hx
    rw [← hP.1]
    show H1[H.size]? = some (vp_cell (px_tc g t) (N, .inl (fun _ => 0)))
    rw [e1, hcA, vp_cell_i]
    rcases hat with ⟨rfl, -⟩ | ⟨rfl, -⟩ <;> rfl
  have := kk p e R s m args below meth c H1 locs ls hM' hP1 ⟨Nat.le_trans hS.1 (by omega), fun x h1 h2 => (o1 x (Nat.lt_of_lt_of_le h1 hS.1)).trans (hS.2.1 x h1 h2), hS.2.2⟩ hlo
  have e9 : px_ad g w.length = H.size := by rw [px_ad_lo (by omega), hP.1]
  have e8 : (Value.ref w.length :: st).map (px_v g) = .ref H.size :: st.map (px_v g) := by
    rw [List.map_cons]; congr 1; show Value.ref (px_ad g w.length) = _; rw [e9]
  rw [e8] at this
  exact this
theorem r_anewarray {N : Nat} {x : Int32} (hw : Cond.classLink y.cls idx "GravelWords$Morning" ∈ gw) (hn : ¬ x < 0) (hN : x.toNatClampNeg = N) (hb1 : N ≤ 100000) (hlen : w.length + 1 ≤ 900) (hdg : decode cc pc = .ok (.anewarray idx, 3)) (hp : pc + 3 = pc') (hq : w.length = q) (h1 : c0 + 1 = c1) (h2 : s0 + N = s1) (hr1 : c1 ≤ mc) (hr2 : s1 ≤ ms)
    (kk : Wp g y cc nL rt dp mc ms Z c1 s1 pc' lo (.ref q :: st) (w ++ [.inl (2, N, .inr (.inr (.inr (.inr (fun _ => none)))))])) : Wp g y cc nL rt dp mc ms Z c0 s0 pc lo (.int x :: st) w := by
  subst hp; subst hq; subst h1; subst h2; subst hN
  intro p e R s m args below meth c H locs ls hM hP hS hlo
  have hM' := hM
  obtain ⟨hx, hb, hml, hr, hown, hts, hlocks, hini, hsS, hbase, hd1, hf, hlc, hmc, hms⟩ := hM
  refine W.anew hx hb hown (hts _ hw) (va_AO.use hsS.2.2.2) rfl hdg rfl hn (by omega) (Nat.le_trans hr1 hmc) (Nat.le_trans hr2 hms) fun cA kA comp f1 f2 f3 f4 => ?_
  generalize hH1 : H.push ({ cls := cA, slots := Array.replicate x.toNatClampNeg .null, vm := .none } : Cell) = H1
  have z1 : H1.size = H.size + 1 := by rw [← hH1, Array.size_push]
  have e1 : H1[H.size]? = some (arrV cA x.toNatClampNeg (fun _ => .null)) := by rw [← hH1, Array.getElem?_push_size, ← arrV_new]
  have o1 : ∀ q : Nat, q < H.size → H1[q]? = H[q]? := fun q hq => by rw [← hH1, Array.getElem?_push, if_neg (Nat.ne_of_lt hq)]
  have hkp : ∀ (k : Nat) (x : Nat × va_E), (px_w g w)[k]? = some x → H1[x.1]? = H[x.1]? := fun k x hx => o1 x.1 ((hP.2.2.1 k x hx).lt)
  have hcA : px_tc g 2 = cA := by
    obtain ⟨_, _, -, -, -, h4⟩ := (hP.2.2.2.2 2 _ rfl).2
    exact Option.some.inj (h4.symm.trans f1)
  have hP1 : px_P g (w ++ [.inl (2, x.toNatClampNeg, .inr (.inr (.inr (.inr (fun _ => none)))))]) s H1 := by
    refine ⟨by rw [z1, hP.1, List.length_append]; simp only [List.length_cons, List.length_nil]; omega, by rw [List.length_append]; simpa using hlen, ?_, hP.2.2.2⟩
    rw [px_w_app]
    refine (hP.2.2.1.kept hkp).app (fun k x hx => ?_)
    have hz : k < 1 := (List.getElem?_eq_some_iff.mp hx).1
    rw [show k = 0 by omega] at hx
    cases hx
    rw [← hP.1]
    show H1[H.size]? = some (vp_cell (px_tc g 2) (_, .inr (.inr (.inr (.inr (fun _ => none))))))
    rw [e1, hcA, vp_cell_q]
    rfl
  have := kk p e R s m args below meth c H1 locs ls hM' hP1 ⟨Nat.le_trans hS.1 (by omega), fun x h1 h2 => (o1 x (Nat.lt_of_lt_of_le h1 hS.1)).trans (hS.2.1 x h1 h2), hS.2.2⟩ hlo
  have e9 : px_ad g w.length = H.size := by rw [px_ad_lo (by omega), hP.1]
  have e8 : (Value.ref w.length :: st).map (px_v g) = .ref H.size :: st.map (px_v g) := by
    rw [List.map_cons]; congr 1; show Value.ref (px_ad g w.length) = _; rw [e9]
  rw [e8] at this
  exact this
end C
