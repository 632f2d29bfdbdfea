/-! the frame: one list of cells is the whole heap of the law's own objects; place k lies at address base+k -/
def gw : List Cond := lw_tbl.filter goodWord
theorem gw_of {w : Cond} (i : Nat) (h : lw_tbl[i]? = some w) (g : goodWord w = true) : w ∈ gw := List.mem_filter.mpr ⟨List.mem_of_getElem? h, g⟩
theorem gw_tbl {w : Cond} (h : w ∈ gw) : w ∈ lw_tbl := (List.mem_filter.mp h).1
theorem gw_good {w : Cond} (h : w ∈ gw) : (w.onTables && w.keeps) = true ∨ ∃ ty, w = .arrayClass ty := good_of_word (List.mem_filter.mp h).2
theorem gw_in {ws : List Cond} (h : ∀ w ∈ ws, w ∈ gw) : GoodIn gw ws := fun w hw => ⟨h w hw, gw_good (h w hw)⟩
abbrev px_C : Type := (Nat × vp_A) ⊕ (Nat × List Value)
abbrev px_W : Type := List px_C
/-- launch, base, the tables' addresses, the classes' data, the arrays' classes, the script's length and values -/
abbrev px_G : Type := Launch × Nat × (Nat → Nat) × va_G × (Nat → ClassId) × Nat × (Nat → Int32)
abbrev px_l (g : px_G) : Launch := g.1
abbrev px_b (g : px_G) : Nat := g.2.1
abbrev px_sa (g : px_G) : Nat → Nat := g.2.2.1
abbrev px_D (g : px_G) : va_G := g.2.2.2.1
abbrev px_tc (g : px_G) : Nat → ClassId := g.2.2.2.2.1
abbrev px_L (g : px_G) : Nat := g.2.2.2.2.2.1
abbrev px_xs (g : px_G) : Nat → Int32 := g.2.2.2.2.2.2
def px_ad (g : px_G) (k : Nat) : Nat := if k < 1000 then px_b g + k else px_sa g k
def px_v (g : px_G) (v : Value) : Value := match v with
  | .ref k => .ref (px_ad g k)
  | v => v
def px_a (g : px_G) (a : vp_A) : vp_A := match a with
  | (n, .inr (.inr (.inr (.inr f)))) => (n, .inr (.inr (.inr (.inr (fun j => (f j).map (px_ad g))))))
  | a => a
def px_e (g : px_G) (c : px_C) : va_E := match c with
  | .inl (t, a) => .inl (px_tc g t, px_a g a)
  | .inr (ci, fs) => .inr (ci, fs.map (px_v g))
def px_w (g : px_G) (w : px_W) : va_W := w.mapIdx (fun k c => (px_b g + k, px_e g c))
theorem px_ad_lo {g : px_G} {k : Nat} (h : k < 1000) : px_ad g k = px_b g + k := if_pos h
theorem px_ad_hi {g : px_G} {k : Nat} (h : ¬ k < 1000) : px_ad g k = px_sa g k := if_neg h
theorem px_v_cat (g : px_G) (v : Value) : (px_v g v).category = v.category := by cases v <;> rfl
theorem px_w_get {g : px_G} {w : px_W} {k : Nat} {c : px_C} (h : w[k]? = some c) : (px_w g w)[k]? = some (px_b g + k, px_e g c) := by
  simp [px_w, List.getElem?_mapIdx, h]
theorem px_w_inv {g : px_G} {w : px_W} {k : Nat} {q : Nat × va_E} (h : (px_w g w)[k]? = some q) : ∃ c, w[k]? = some c ∧ q = (px_b g + k, px_e g c) := by
  simp only [px_w, List.getElem?_mapIdx, Option.map_eq_some_iff] at h
  obtain ⟨c, h1, h2⟩ := h
  exact ⟨c, h1, h2.symm⟩
theorem px_w_len (g : px_G) (w : px_W) : (px_w g w).length = w.length := by simp [px_w]
theorem px_w_set (g : px_G) (w : px_W) (k : Nat) (c : px_C) : px_w g (w.set k c) = (px_w g w).set k (px_b g + k, px_e g c) := by
  apply List.ext_getElem?
  intro i
  rw [px_w, List.getElem?_mapIdx, List.getElem?_set, List.getElem?_set, px_w_len]
  by_cases h : k = i
  · subst h
    by_cases h2 : k < w.length <;> simp [h2]
  · simp [h, px_w, List.getElem?_mapIdx]
theorem px_w_app (g : px_G) (w : px_W) (c : px_C) : px_w g (w ++ [c]) = px_w g w ++ [(px_b g + w.length, px_e g c)] := by
  simp [px_w, List.mapIdx_append]
def px_A (g : px_G) : Nat → Prop := fun q => px_b g ≤ q
theorem px_D_ok (g : px_G) (w : px_W) : va_D (px_A g) (px_w g w) := by
  refine ⟨fun i j p q hi hj h => ?_, fun k q h => ?_⟩
  · obtain ⟨c, -, rfl⟩ := px_w_inv hi
    obtain ⟨d, -, rfl⟩ := px_w_inv hj
    simpa using h
  · obtain ⟨c, -, rfl⟩ := px_w_inv h
    exact Nat.le_add_right _ _
/-! what lies there before: 1002 the script -/
def px_t (g : px_G) (k : Nat) : Option (Nat × (Nat → Int32)) := if k = 1002 then some (px_L g, px_xs g) else none
def px_nF : List (String × Nat × String × String × String × String) := [("GravelWords$Reader", 55, "GravelWords$Suburb", "words", "I", "GravelWords"), ("GravelWords", 238, "GravelWords$Suburb", "words", "I", "GravelWords"), ("GravelWords$Reader", 61, "GravelWords$Suburb", "drives", "I", "GravelWords"), ("GravelWords", 241, "GravelWords$Suburb", "drives", "I", "GravelWords"), ("GravelWords$Reader", 67, "GravelWords$Suburb", "goers", "I", "GravelWords"), ("GravelWords", 166, "GravelWords$Suburb", "goers", "I", "GravelWords"), ("GravelWords", 53, "GravelWords$Reader", "length", "I", "GravelWords"), ("GravelWords", 64, "GravelWords$Reader", "draft", "LGravelWords$Suburb;", "GravelWords"), ("GravelWords", 163, "GravelWords$Morning", "hour", "I", "GravelWords"), ("GravelWords", 172, "GravelWords$Past", "known", "I", "GravelWords")]
def px_nM : List (String × Nat × MethodName × String) := [("GravelWords", 9, yX2_init, "GravelWords"), ("GravelWords$Reader", 17, yX5_init, "GravelWords"), ("GravelWords", 18, yX5_init, "GravelWords"), ("GravelWords", 25, yX0_init, "GravelWords"), ("GravelWords", 32, yX1_init, "GravelWords"), ("GravelWords$Shelf", 21, yX0_init, "GravelWords"), ("GravelWords$Morning", 49, yX6_isVowel, "GravelWords"), ("GravelWords$Suburb", 65, yX6_isVowel, "GravelWords")]
/-- what stays all the time: the tables, the nest words -/
def px_S (g : px_G) (U : State) (H : Heap) : Prop := (∀ k n f, px_t g k = some (n, f) → va_T .int (px_sa g k) n (fun j => .int (f j)) (px_A g) U H) ∧ (∀ q ∈ px_nF, va_Nw (.fieldLinkNest q.1 q.2.1 q.2.2.1 q.2.2.2.1 q.2.2.2.2.1 q.2.2.2.2.2) U) ∧ (∀ q ∈ px_nM, va_Nw (.methodLinkNest q.1 q.2.1 q.2.2.1 q.2.2.2) U) ∧ va_AO "GravelWords$Morning" U
theorem px_S.warm {g : px_G} {s U : State} {H : Heap} (hW : s.WarmedH U.vm) (h : px_S g s H) : px_S g U H :=
  ⟨fun k n f hk => (h.1 k n f hk).moved hW.alike, fun q hq => (h.2.1 q hq).warmF hW, fun q hq => (h.2.2.1 q hq).warmM hW, h.2.2.2.moved hW.alike⟩
theorem px_S.same {g : px_G} {s U : State} {H : Heap} (hv : s.vm = U.vm) (h : px_S g s H) : px_S g U H := by
  have hA : s.vm.Alike U.vm := by rw [hv]; exact Vm.Alike.refl _
  exact ⟨fun k n f hk => (h.1 k n f hk).moved hA, fun q hq => (h.2.1 q hq).same rfl hv, fun q hq => (h.2.2.1 q hq).same rfl hv, h.2.2.2.moved hA⟩
theorem px_S.kept {g : px_G} {U : State} {H H1 : Heap} (h : px_S g U H) (hq : ∀ a : Nat, a < H.size → ¬ px_A g a → H1[a]? = H[a]?) : px_S g U H1 :=
  ⟨fun k n f hk => (h.1 k n f hk).kept hq, h.2.1, h.2.2.1, h.2.2.2⟩
def px_ty (g : px_G) : List (ClassId × FieldType) := [(px_tc g 0, .int), (px_tc g 1, .boolean), (px_tc g 2, .object "GravelWords$Morning")]
def px_P (g : px_G) (w : px_W) (U : State) (H : Heap) : Prop := H.size = px_b g + w.length ∧ w.length ≤ 900 ∧ va_P (px_D g) px_cl (px_w g w) H ∧ va_K (px_D g) px_cl (px_ty g) U
theorem px_P.moved {g : px_G} {w : px_W} {u U : State} {H : Heap} (hv : u.vm.Alike U.vm) (h : px_P g w u H) : px_P g w U H := ⟨h.1, h.2.1, h.2.2.1, h.2.2.2.moved hv⟩
def px_lo (g : px_G) (ls : Array Slot) (nL : Nat) (lo : List (Option Value)) : Prop := ls.size = nL ∧ lv_wf ls ∧ lo.length = nL ∧ ∀ (i : Nat) (v : Value), lo[i]? = some (some v) → ls[i]? = some (.val (px_v g v)) ∧ v.category = 1
def px_M (g : px_G) (y : MethodName) (cc : ByteArray) (nL : Nat) (rt : Option FieldType) (dp mc ms : Nat) (p : Program) (R : Room) (s : State) (m : MethodId) (args : Array Value) (meth : Method) (c : Code) : Prop :=
  p.tables.exec = Jvm.exec ∧ c.code = cc ∧ c.maxLocals = nL ∧ meth.sig.returnType = rt ∧ s.vm.findClass y.cls = some m.cls ∧ (∀ w ∈ gw, w.before args s = true) ∧ meth.locks = false ∧ (y.name = "<init>" → meth.name = "<init>") ∧ px_S g s s.heap ∧ px_b g ≤ s.heap.size ∧ 1 ≤ dp ∧ dp ≤ R.frames ∧ 100 * dp ≤ R.locals ∧ mc ≤ R.cells ∧ ms ≤ R.slots
abbrev px_Z : Type := List Frame → Array Value → State → State → Prop
abbrev px_Q : Type := Option Value → px_W → Prop
def Wp (g : px_G) (y : MethodName) (cc : ByteArray) (nL : Nat) (rt : Option FieldType) (dp mc ms : Nat) (Z : px_Z) (c0 s0 pc : Nat) (lo : List (Option Value)) (st : List Value) (w : px_W) : Prop :=
  ∀ (p : Program) (e : Env) (R : Room) (s : State) (m : MethodId) (args : Array Value) (below : List Frame) (meth : Method) (c : Code) (H : Heap) (locs : List Loc) (ls : Array Slot), px_M g y cc nL rt dp mc ms p R s m args meth c → px_P g w s H → va_S (px_A g) s.heap H locs → px_lo g ls nL lo →
    W p (px_l g) e R s m args below meth c H locs c0 s0 (Z below args s) (F0 m pc ls (st.map (px_v g)))
def px_Qc (g : px_G) (Q : px_Q) : Array Value → State → Outcome → State → Prop := fun _ st o t => (∃ (r : Option Value) (w' : px_W), o = .returned (r.map (px_v g)) ∧ Q r w' ∧ px_P g w' t t.heap) ∧ va_F (px_A g) st t
def px_MQ (g : px_G) (Q : px_Q) (mc ms : Nat) : px_Z := fun below args s => MQ below (px_Qc g Q) args s mc ms (px_A g)
def px_Pc (g : px_G) (av : List Value) (w : px_W) : Array Value → State → Prop := fun v U => v = (av.map (px_v g)).toArray ∧ px_P g w U U.heap ∧ px_S g U U.heap
def px_rm (dp mc ms : Nat) : Room := { frames := dp, cells := mc, slots := ms, locals := 100 * dp }
def Ct (g : px_G) (y : MethodName) (cc : ByteArray) (nL : Nat) (rt : Option FieldType) (dp mc ms : Nat) (av : List Value) (w : px_W) (Q : px_Q) : Prop :=
  Met (px_l g) y (.code y cc nL rt :: gw) (px_rm dp mc ms) (px_Pc g av w) (px_Qc g Q) mc ms (px_A g)
/-- what the tables say of a method: its code, its class, how many parameters -/
def px_K (y : MethodName) (cc : ByteArray) (nL : Nat) (rt : Option FieldType) (n : Nat) : Prop :=
  Cond.code y cc nL rt ∈ gw ∧ Cond.initialized y.cls ∈ gw ∧ (y.cls ≠ "java/lang/invoke/MethodHandle" ∧ y.cls ≠ "java/lang/invoke/VarHandle" ∧ (parseMethodDescriptor y.desc).map (fun d => d.parameters.length) = some n) ∧ plainName y.cls = true ∧ nL ≤ 80
theorem px_blind (g : px_G) (av : List Value) (w : px_W) : FrameBlind (px_Pc g av w) := fun a U fr mk q => ⟨q.1, ⟨q.2.1.1, q.2.1.2.1, q.2.1.2.2.1, va_K.moved (u := U) (U := U.calling fr mk a) (Vm.Alike.refl U.vm) q.2.1.2.2.2⟩, px_S.same (s := U) (U := U.calling fr mk a) rfl q.2.2⟩
theorem lv_args_mem : ∀ (vs : List Value) (i0 : Nat), (∀ v ∈ vs, v.category = 1) → ∀ (i : Nat) (v : Value), vs[i]? = some v → (i0 + i, v) ∈ lv_args i0 vs
  | [], _, _, i, v, h => by simp at h
  | a :: vs, i0, hc, 0, v, h => by
    have : a = v := by simpa using h
    subst this
    exact List.mem_cons_self
  | a :: vs, i0, hc, i + 1, v, h => by
    have h1 : a.category = 1 := hc a List.mem_cons_self
    have h2 := lv_args_mem vs (i0 + 1) (fun v hv => hc v (List.mem_cons_of_mem _ hv)) i v (by simpa using h)
    rw [lv_args, h1]
    refine List.mem_cons_of_mem _ ?_
    have e : i0 + (i + 1) = i0 + 1 + i := by omega
    rw [e]
    simpa using h2
theorem lg_sl_len (vs : List Value) (h : ∀ v ∈ vs, v.category = 1) : (lg_sl vs).length = vs.length := by
  induction vs with
  | nil => rfl
  | cons a vs ih =>
    have h1 : a.category = 1 := h a List.mem_cons_self
    have := ih (fun v hv => h v (List.mem_cons_of_mem _ hv))
    simp only [lg_sl, List.flatMap_cons, List.length_append, List.length_cons] at this ⊢
    rw [this]
    simp [h1]
    omega
theorem Ct.of {g : px_G} {y : MethodName} {cc : ByteArray} {nL n : Nat} {rt : Option FieldType} {dp mc ms : Nat} {av : List Value} {w : px_W} {Q : px_Q} (hk : px_K y cc nL rt n) (hd : 1 ≤ dp) {lo : List (Option Value)} (hlo : lo = av.map some ++ List.replicate (nL - av.length) none) (hcat : ∀ v ∈ av, v.category = 1) (hlen : av.length ≤ nL)
    (kk : Wp g y cc nL rt dp mc ms (px_MQ g Q mc ms) 0 0 0 lo [] w) : Ct g y cc nL rt dp mc ms av w Q := by
  refine Met.ofW (cc := cc) (maxL := nL) (ret := rt) hk.2.2.2.1 rfl ?_
  intro p e s m args below meth c s₁ B hml hv
  obtain ⟨rfl, hP, hS⟩ := hv
  have hts := atoms_spec (ws := Cond.code y cc nL rt :: gw) B.pre
  have hown : s.vm.findClass y.cls = some m.cls := findClass_of_methodNamed B.named
  have hcat' : ∀ v ∈ av.map (px_v g), v.category = 1 := by
    intro v hv
    obtain ⟨u, hu, rfl⟩ := List.mem_map.mp hv
    rw [px_v_cat]; exact hcat u hu
  have hl := lv_entry (av.map (px_v g)) (n := nL) (by rw [lg_sl_len _ hcat']; simpa using hlen)
  rw [lg_entry_eq]
  refine kk p e _ s m _ below meth c s.heap [] _ ⟨B.exec, B.bytes, hml, B.returns, hown, fun w hw => hts w (List.mem_cons_of_mem _ hw), B.notSynchronized, fun h => (name_of_methodNamed B.named B.method).1.trans h, hS, ?_, hd, Nat.le_refl _, Nat.le_refl _, Nat.le_refl _, Nat.le_refl _⟩ hP va_S.rf ?_
  · rw [hP.1]; exact Nat.le_add_right _ _
  · refine ⟨hl.1, hl.2.1, ?_, fun i v hv => ?_⟩
    · subst hlo; simp; omega
    · subst hlo
      have hi : av[i]? = some v := by
        rcases Nat.lt_or_ge i av.length with h | h
        · rw [List.getElem?_append_left (by simpa using h)] at hv
          simpa using hv
        · rw [List.getElem?_append_right (by simpa using h)] at hv
          have := List.eq_of_mem_replicate (List.mem_of_getElem? hv)
          cases this
      refine ⟨?_, hcat v (List.mem_of_getElem? hi)⟩
      have hm := lv_args_mem (av.map (px_v g)) 0 hcat' i (px_v g v) (by simp [hi])
      have := hl.2.2 _ hm
      simpa using this
