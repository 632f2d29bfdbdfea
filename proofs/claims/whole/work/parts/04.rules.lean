/-! rules: one an instruction -/
section R
variable {g : px_G} {y : MethodName} {cc : ByteArray} {nL : Nat} {rt : Option FieldType} {dp mc ms : Nat} {Z : px_Z} {c0 s0 pc pc' : Nat} {lo : List (Option Value)} {st : List Value} {w : px_W}
/-- a step that changes the stack alone -/
theorem Wp.step {pc' : Nat} {st st' : List Value} (f : ∀ (p : Program) (e : Env) (R : Room) (s : State) (m : MethodId) (args : Array Value) (below : List Frame) (meth : Method) (c : Code) (H : Heap) (locs : List Loc) (ls : Array Slot) (Q : State → Prop), p.tables.exec = Jvm.exec → c.code = cc → px_lo g ls nL lo → s.vm.findClass y.cls = some m.cls → (∀ w ∈ gw, w.before args s = true) →
      W p (px_l g) e R s m args below meth c H locs c0 s0 Q (F0 m pc' ls (st'.map (px_v g))) → W p (px_l g) e R s m args below meth c H locs c0 s0 Q (F0 m pc ls (st.map (px_v g)))) (k : Wp g y cc nL rt dp mc ms Z c0 s0 pc' lo st' w) : Wp g y cc nL rt dp mc ms Z c0 s0 pc lo st w :=
  fun p e R s m args below meth c H locs ls hM hP hS hl => f p e R s m args below meth c H locs ls _ hM.1 hM.2.1 hl hM.2.2.2.2.1 hM.2.2.2.2.2.1 (k p e R s m args below meth c H locs ls hM hP hS hl)
theorem r_iconst {n : Int} {v : Int32} (hdg : decode cc pc = .ok (.iconst n, 1)) (hp : pc + 1 = pc') (hv : Int32.ofInt n = v) (k : Wp g y cc nL rt dp mc ms Z c0 s0 pc' lo (.int v :: st) w) : Wp g y cc nL rt dp mc ms Z c0 s0 pc lo st w := by
  subst hp
  exact Wp.step (fun p e R s m args below meth c H locs ls Q hx hb hl _ _ kk => lv_iconst hx hb hdg hv kk) k
theorem r_bipush {n : Int} {v : Int32} (hdg : decode cc pc = .ok (.bipush n, 2)) (hp : pc + 2 = pc') (hv : (Int8.ofInt n).toInt32 = v) (k : Wp g y cc nL rt dp mc ms Z c0 s0 pc' lo (.int v :: st) w) : Wp g y cc nL rt dp mc ms Z c0 s0 pc lo st w := by
  subst hp
  exact Wp.step (fun p e R s m args below meth c H locs ls Q hx hb hl _ _ kk => lv_bipush hx hb hdg hv kk) k
theorem r_sipush {n : Int} {v : Int32} (hdg : decode cc pc = .ok (.sipush n, 3)) (hp : pc + 3 = pc') (hv : (Int16.ofInt n).toInt32 = v) (k : Wp g y cc nL rt dp mc ms Z c0 s0 pc' lo (.int v :: st) w) : Wp g y cc nL rt dp mc ms Z c0 s0 pc lo st w := by
  subst hp
  exact Wp.step (fun p e R s m args below meth c H locs ls Q hx hb hl _ _ kk => lv_sipush hx hb hdg hv kk) k
theorem r_lconst {n : Fin 2} {v : Int64} (hdg : decode cc pc = .ok (.lconst n, 1)) (hp : pc + 1 = pc') (hv : Int64.ofNat (n : Nat) = v) (k : Wp g y cc nL rt dp mc ms Z c0 s0 pc' lo (.long v :: st) w) : Wp g y cc nL rt dp mc ms Z c0 s0 pc lo st w := by
  subst hp
  exact Wp.step (fun p e R s m args below meth c H locs ls Q hx hb hl _ _ kk => lv_lconst hx hb hdg hv kk) k
theorem r_ldc {index : Nat} {v : Int32} (hdg : decode cc pc = .ok (.ldc index, 2)) (hp : pc + 2 = pc') (hc : Cond.constant y.cls index v ∈ gw) (k : Wp g y cc nL rt dp mc ms Z c0 s0 pc' lo (.int v :: st) w) : Wp g y cc nL rt dp mc ms Z c0 s0 pc lo st w := by
  subst hp
  exact Wp.step (fun p e R s m args below meth c H locs ls Q hx hb hl ho hts kk => lv_ldc hx hb ho (hts _ hc) hdg kk) k
theorem r_ldcw {index : Nat} {v : Int32} (hdg : decode cc pc = .ok (.ldc_w index, 3)) (hp : pc + 3 = pc') (hc : Cond.constant y.cls index v ∈ gw) (k : Wp g y cc nL rt dp mc ms Z c0 s0 pc' lo (.int v :: st) w) : Wp g y cc nL rt dp mc ms Z c0 s0 pc lo st w := by
  subst hp
  exact Wp.step (fun p e R s m args below meth c H locs ls Q hx hb hl ho hts kk => lv_ldcw hx hb ho (hts _ hc) hdg kk) k
theorem r_ldc2 {index : Nat} {v : Int64} (hdg : decode cc pc = .ok (.ldc2_w index, 3)) (hp : pc + 3 = pc') (hc : Cond.constantLong y.cls index v ∈ gw) (k : Wp g y cc nL rt dp mc ms Z c0 s0 pc' lo (.long v :: st) w) : Wp g y cc nL rt dp mc ms Z c0 s0 pc lo st w := by
  subst hp
  exact Wp.step (fun p e R s m args below meth c H locs ls Q hx hb hl ho hts kk => lv_ldc2 hx hb ho (hts _ hc) hdg kk) k
theorem r_iload_n {i : Fin 4} {x : Int32} (hdg : decode cc pc = .ok (.iload_n i, 1)) (hp : pc + 1 = pc') (hl : lo[(i : Nat)]? = some (some (.int x))) (k : Wp g y cc nL rt dp mc ms Z c0 s0 pc' lo (.int x :: st) w) : Wp g y cc nL rt dp mc ms Z c0 s0 pc lo st w := by
  subst hp
  exact Wp.step (fun p e R s m args below meth c H locs ls Q hx hb hl' _ _ kk => lv_iload_n hx hb hdg rfl (hl'.2.2.2 _ _ hl).1 kk) k
theorem r_iload {i : Nat} {x : Int32} (hdg : decode cc pc = .ok (.iload i, 2)) (hp : pc + 2 = pc') (hl : lo[i]? = some (some (.int x))) (k : Wp g y cc nL rt dp mc ms Z c0 s0 pc' lo (.int x :: st) w) : Wp g y cc nL rt dp mc ms Z c0 s0 pc lo st w := by
  subst hp
  exact Wp.step (fun p e R s m args below meth c H locs ls Q hx hb hl' _ _ kk => lv_iload hx hb hdg (hl'.2.2.2 _ _ hl).1 kk) k
theorem r_aload_n {i : Fin 4} {x : Nat} (hdg : decode cc pc = .ok (.aload_n i, 1)) (hp : pc + 1 = pc') (hl : lo[(i : Nat)]? = some (some (.ref x))) (k : Wp g y cc nL rt dp mc ms Z c0 s0 pc' lo (.ref x :: st) w) : Wp g y cc nL rt dp mc ms Z c0 s0 pc lo st w := by
  subst hp
  exact Wp.step (fun p e R s m args below meth c H locs ls Q hx hb hl' _ _ kk => lv_aload_n hx hb hdg rfl (hl'.2.2.2 _ _ hl).1 kk) k
theorem r_aload {i : Nat} {x : Nat} (hdg : decode cc pc = .ok (.aload i, 2)) (hp : pc + 2 = pc') (hl : lo[i]? = some (some (.ref x))) (k : Wp g y cc nL rt dp mc ms Z c0 s0 pc' lo (.ref x :: st) w) : Wp g y cc nL rt dp mc ms Z c0 s0 pc lo st w := by
  subst hp
  exact Wp.step (fun p e R s m args below meth c H locs ls Q hx hb hl' _ _ kk => lv_aload hx hb hdg (hl'.2.2.2 _ _ hl).1 kk) k
/-- the known locals as the kit has them -/
def px_lv (g : px_G) (lo : List (Option Value)) : List (Nat × Value) := (List.range lo.length).filterMap (fun i => match lo[i]? with
  | some (some v) => some (i, px_v g v)
  | _ => none)
theorem px_lv_mem {g : px_G} {lo : List (Option Value)} {q : Nat × Value} (h : q ∈ px_lv g lo) : ∃ v, lo[q.1]? = some (some v) ∧ q.2 = px_v g v := by
  obtain ⟨i, -, h2⟩ := List.mem_filterMap.mp h
  split at h2
  · next v hv =>
    cases h2
    exact ⟨v, hv, rfl⟩
  · cases h2
theorem px_lv_in {g : px_G} {lo : List (Option Value)} {i : Nat} {v : Value} (h : lo[i]? = some (some v)) : (i, px_v g v) ∈ px_lv g lo := by
  refine List.mem_filterMap.mpr ⟨i, List.mem_range.mpr (List.getElem?_eq_some_iff.mp h).1, ?_⟩
  simp [h]
theorem px_lo.has {g : px_G} {ls : Array Slot} {nL : Nat} {lo : List (Option Value)} (h : px_lo g ls nL lo) : lv_has ls nL (px_lv g lo) := by
  refine ⟨h.1, h.2.1, fun q hq => ?_⟩
  obtain ⟨v, h1, h2⟩ := px_lv_mem hq
  rw [h2]
  exact (h.2.2.2 _ _ h1).1
theorem px_lo.store {g : px_G} {ls ls' : Array Slot} {nL : Nat} {lo : List (Option Value)} (h : px_lo g ls nL lo) {i : Nat} {v : Value} (hc : v.category = 1) (h' : lv_has ls' nL ((i, px_v g v) :: (px_lv g lo).filter (fun q => !(q.1 == i) && !(q.1 + 1 == i && q.2.category == 2)))) : px_lo g ls' nL (lo.set i (some v)) := by
  refine ⟨h'.1, h'.2.1, by rw [List.length_set]; exact h.2.2.1, fun j u hu => ?_⟩
  rw [List.getElem?_set] at hu
  by_cases e : i = j
  · subst e
    rw [if_pos rfl] at hu
    split at hu
    · cases hu
      exact ⟨h'.2.2 (i, px_v g v) List.mem_cons_self, hc⟩
    · cases hu
  · rw [if_neg e] at hu
    have hcu := (h.2.2.2 _ _ hu).2
    refine ⟨h'.2.2 (j, px_v g u) (List.mem_cons_of_mem _ (List.mem_filter.mpr ⟨px_lv_in hu, ?_⟩)), hcu⟩
    have e2 : ¬ j = i := fun q => e q.symm
    simp [e2, px_v_cat, hcu]
theorem r_istore_n {i : Fin 4} {x : Int32} {lo' : List (Option Value)} (hdg : decode cc pc = .ok (.istore_n i, 1)) (hp : pc + 1 = pc') (hi : (i : Nat) < nL) (hlo : lo.set (i : Nat) (some (.int x)) = lo') (k : Wp g y cc nL rt dp mc ms Z c0 s0 pc' lo' st w) : Wp g y cc nL rt dp mc ms Z c0 s0 pc lo (.int x :: st) w := by
  subst hp; subst hlo
  intro p e R s m args below meth c H locs ls hM hP hS hl
  exact lv_istore_n hM.1 hM.2.1 hdg rfl hl.has hi rfl (fun ls' h' => k p e R s m args below meth c H locs ls' hM hP hS (hl.store (v := .int x) rfl h'))
theorem r_istore {i : Nat} {x : Int32} {lo' : List (Option Value)} (hdg : decode cc pc = .ok (.istore i, 2)) (hp : pc + 2 = pc') (hi : i < nL) (hlo : lo.set i (some (.int x)) = lo') (k : Wp g y cc nL rt dp mc ms Z c0 s0 pc' lo' st w) : Wp g y cc nL rt dp mc ms Z c0 s0 pc lo (.int x :: st) w := by
  subst hp; subst hlo
  intro p e R s m args below meth c H locs ls hM hP hS hl
  exact lv_istore hM.1 hM.2.1 hdg hl.has hi rfl (fun ls' h' => k p e R s m args below meth c H locs ls' hM hP hS (hl.store (v := .int x) rfl h'))
theorem r_astore_n {i : Fin 4} {x : Nat} {lo' : List (Option Value)} (hdg : decode cc pc = .ok (.astore_n i, 1)) (hp : pc + 1 = pc') (hi : (i : Nat) < nL) (hlo : lo.set (i : Nat) (some (.ref x)) = lo') (k : Wp g y cc nL rt dp mc ms Z c0 s0 pc' lo' st w) : Wp g y cc nL rt dp mc ms Z c0 s0 pc lo (.ref x :: st) w := by
  subst hp; subst hlo
  intro p e R s m args below meth c H locs ls hM hP hS hl
  exact lv_astore_n hM.1 hM.2.1 hdg rfl hl.has hi rfl (fun ls' h' => k p e R s m args below meth c H locs ls' hM hP hS (hl.store (v := .ref x) rfl h'))
theorem r_astore {i : Nat} {x : Nat} {lo' : List (Option Value)} (hdg : decode cc pc = .ok (.astore i, 2)) (hp : pc + 2 = pc') (hi : i < nL) (hlo : lo.set i (some (.ref x)) = lo') (k : Wp g y cc nL rt dp mc ms Z c0 s0 pc' lo' st w) : Wp g y cc nL rt dp mc ms Z c0 s0 pc lo (.ref x :: st) w := by
  subst hp; subst hlo
  intro p e R s m args below meth c H locs ls hM hP hS hl
  exact lv_astore hM.1 hM.2.1 hdg hl.has hi rfl (fun ls' h' => k p e R s m args below meth c H locs ls' hM hP hS (hl.store (v := .ref x) rfl h'))
theorem r_iinc {i : Nat} {n : Int} {x v : Int32} {lo' : List (Option Value)} (hdg : decode cc pc = .ok (.iinc i n, 3)) (hp : pc + 3 = pc') (hi : i < nL) (hx : lo[i]? = some (some (.int x))) (hv : x + Int32.ofInt n = v) (hlo : lo.set i (some (.int v)) = lo') (k : Wp g y cc nL rt dp mc ms Z c0 s0 pc' lo' st w) : Wp g y cc nL rt dp mc ms Z c0 s0 pc lo st w := by
  subst hp; subst hlo
  intro p e R s m args below meth c H locs ls hM hP hS hl
  obtain ⟨q, hq⟩ := List.getElem?_of_mem (px_lv_in (g := g) hx)
  exact lv_iinc hM.1 hM.2.1 hdg hl.has hq hv hi rfl (fun ls' h' => k p e R s m args below meth c H locs ls' hM hP hS (hl.store (v := .int v) rfl h'))
theorem r_iadd {x z v : Int32} (hdg : decode cc pc = .ok (.iadd, 1)) (hp : pc + 1 = pc') (hv : x + z = v) (k : Wp g y cc nL rt dp mc ms Z c0 s0 pc' lo (.int v :: st) w) : Wp g y cc nL rt dp mc ms Z c0 s0 pc lo (.int z :: .int x :: st) w := by
  subst hp; subst hv
  exact Wp.step (fun p e R s m args below meth c H locs ls Q hx hb hl _ _ kk => lv_iadd hx hb hdg kk) k
theorem r_isub {x z v : Int32} (hdg : decode cc pc = .ok (.isub, 1)) (hp : pc + 1 = pc') (hv : x - z = v) (k : Wp g y cc nL rt dp mc ms Z c0 s0 pc' lo (.int v :: st) w) : Wp g y cc nL rt dp mc ms Z c0 s0 pc lo (.int z :: .int x :: st) w := by
  subst hp; subst hv
  exact Wp.step (fun p e R s m args below meth c H locs ls Q hx hb hl _ _ kk => lv_isub hx hb hdg kk) k
theorem r_imul {x z v : Int32} (hdg : decode cc pc = .ok (.imul, 1)) (hp : pc + 1 = pc') (hv : x * z = v) (k : Wp g y cc nL rt dp mc ms Z c0 s0 pc' lo (.int v :: st) w) : Wp g y cc nL rt dp mc ms Z c0 s0 pc lo (.int z :: .int x :: st) w := by
  subst hp; subst hv
  exact Wp.step (fun p e R s m args below meth c H locs ls Q hx hb hl _ _ kk => lv_imul hx hb hdg kk) k
theorem r_iand {x z v : Int32} (hdg : decode cc pc = .ok (.iand, 1)) (hp : pc + 1 = pc') (hv : x &&& z = v) (k : Wp g y cc nL rt dp mc ms Z c0 s0 pc' lo (.int v :: st) w) : Wp g y cc nL rt dp mc ms Z c0 s0 pc lo (.int z :: .int x :: st) w := by
  subst hp; subst hv
  exact Wp.step (fun p e R s m args below meth c H locs ls Q hx hb hl _ _ kk => lv_iand hx hb hdg kk) k
theorem r_ior {x z v : Int32} (hdg : decode cc pc = .ok (.ior, 1)) (hp : pc + 1 = pc') (hv : x ||| z = v) (k : Wp g y cc nL rt dp mc ms Z c0 s0 pc' lo (.int v :: st) w) : Wp g y cc nL rt dp mc ms Z c0 s0 pc lo (.int z :: .int x :: st) w := by
  subst hp; subst hv
  exact Wp.step (fun p e R s m args below meth c H locs ls Q hx hb hl _ _ kk => lv_ior hx hb hdg kk) k
theorem r_ixor {x z v : Int32} (hdg : decode cc pc = .ok (.ixor, 1)) (hp : pc + 1 = pc') (hv : x ^^^ z = v) (k : Wp g y cc nL rt dp mc ms Z c0 s0 pc' lo (.int v :: st) w) : Wp g y cc nL rt dp mc ms Z c0 s0 pc lo (.int z :: .int x :: st) w := by
  subst hp; subst hv
  exact Wp.step (fun p e R s m args below meth c H locs ls Q hx hb hl _ _ kk => lv_ixor hx hb hdg kk) k
theorem r_idiv {x z v : Int32} (hdg : decode cc pc = .ok (.idiv, 1)) (hp : pc + 1 = pc') (hne : ¬ z = 0) (hv : x / z = v) (k : Wp g y cc nL rt dp mc ms Z c0 s0 pc' lo (.int v :: st) w) : Wp g y cc nL rt dp mc ms Z c0 s0 pc lo (.int z :: .int x :: st) w := by
  subst hp; subst hv
  exact Wp.step (fun p e R s m args below meth c H locs ls Q hx hb hl _ _ kk => lv_idiv hx hb hdg hne kk) k
theorem r_irem {x z v : Int32} (hdg : decode cc pc = .ok (.irem, 1)) (hp : pc + 1 = pc') (hne : ¬ z = 0) (hv : x - x / z * z = v) (k : Wp g y cc nL rt dp mc ms Z c0 s0 pc' lo (.int v :: st) w) : Wp g y cc nL rt dp mc ms Z c0 s0 pc lo (.int z :: .int x :: st) w := by
  subst hp; subst hv
  exact Wp.step (fun p e R s m args below meth c H locs ls Q hx hb hl _ _ kk => lv_irem hx hb hdg hne kk) k
theorem r_ishl {x z v : Int32} (hdg : decode cc pc = .ok (.ishl, 1)) (hp : pc + 1 = pc') (hv : x <<< (z &&& 31) = v) (k : Wp g y cc nL rt dp mc ms Z c0 s0 pc' lo (.int v :: st) w) : Wp g y cc nL rt dp mc ms Z c0 s0 pc lo (.int z :: .int x :: st) w := by
  subst hp; subst hv
  exact Wp.step (fun p e R s m args below meth c H locs ls Q hx hb hl _ _ kk => lv_ishl hx hb hdg kk) k
theorem r_ishr {x z v : Int32} (hdg : decode cc pc = .ok (.ishr, 1)) (hp : pc + 1 = pc') (hv : x >>> (z &&& 31) = v) (k : Wp g y cc nL rt dp mc ms Z c0 s0 pc' lo (.int v :: st) w) : Wp g y cc nL rt dp mc ms Z c0 s0 pc lo (.int z :: .int x :: st) w := by
  subst hp; subst hv
  exact Wp.step (fun p e R s m args below meth c H locs ls Q hx hb hl _ _ kk => lv_ishr hx hb hdg kk) k
theorem r_iushr {x z v : Int32} (hdg : decode cc pc = .ok (.iushr, 1)) (hp : pc + 1 = pc') (hv : (x.toUInt32 >>> (z.toUInt32 &&& Int32.toUInt32 31)).toInt32 = v) (k : Wp g y cc nL rt dp mc ms Z c0 s0 pc' lo (.int v :: st) w) : Wp g y cc nL rt dp mc ms Z c0 s0 pc lo (.int z :: .int x :: st) w := by
  subst hp
  exact Wp.step (fun p e R s m args below meth c H locs ls Q hx hb hl _ _ kk => lv_iushr hx hb hdg hv kk) k
theorem r_ineg {x v : Int32} (hdg : decode cc pc = .ok (.ineg, 1)) (hp : pc + 1 = pc') (hv : -x = v) (k : Wp g y cc nL rt dp mc ms Z c0 s0 pc' lo (.int v :: st) w) : Wp g y cc nL rt dp mc ms Z c0 s0 pc lo (.int x :: st) w := by
  subst hp; subst hv
  exact Wp.step (fun p e R s m args below meth c H locs ls Q hx hb hl _ _ kk => lv_ineg hx hb hdg kk) k
theorem r_ladd {x z v : Int64} (hdg : decode cc pc = .ok (.ladd, 1)) (hp : pc + 1 = pc') (hv : x + z = v) (k : Wp g y cc nL rt dp mc ms Z c0 s0 pc' lo (.long v :: st) w) : Wp g y cc nL rt dp mc ms Z c0 s0 pc lo (.long z :: .long x :: st) w := by
  subst hp; subst hv
  exact Wp.step (fun p e R s m args below meth c H locs ls Q hx hb hl _ _ kk => lv_ladd hx hb hdg kk) k
theorem r_lcmp {x z : Int64} {v : Int32} (hdg : decode cc pc = .ok (.lcmp, 1)) (hp : pc + 1 = pc') (hv : lg_cmp x z = v) (k : Wp g y cc nL rt dp mc ms Z c0 s0 pc' lo (.int v :: st) w) : Wp g y cc nL rt dp mc ms Z c0 s0 pc lo (.long z :: .long x :: st) w := by
  subst hp; subst hv
  exact Wp.step (fun p e R s m args below meth c H locs ls Q hx hb hl _ _ kk => W.lcmp hx hb hdg kk) k
theorem r_i2l {x : Int32} {v : Int64} (hdg : decode cc pc = .ok (.i2l, 1)) (hp : pc + 1 = pc') (hv : x.toInt64 = v) (k : Wp g y cc nL rt dp mc ms Z c0 s0 pc' lo (.long v :: st) w) : Wp g y cc nL rt dp mc ms Z c0 s0 pc lo (.int x :: st) w := by
  subst hp
  exact Wp.step (fun p e R s m args below meth c H locs ls Q hx hb hl _ _ kk => lv_i2l hx hb hdg hv kk) k
theorem r_dup {v : Value} (hdg : decode cc pc = .ok (.dup, 1)) (hp : pc + 1 = pc') (hv : v.category = 1) (k : Wp g y cc nL rt dp mc ms Z c0 s0 pc' lo (v :: v :: st) w) : Wp g y cc nL rt dp mc ms Z c0 s0 pc lo (v :: st) w := by
  subst hp
  exact Wp.step (fun p e R s m args below meth c H locs ls Q hx hb hl _ _ kk => lv_dup hx hb hdg ((px_v_cat g v).trans hv) kk) k
theorem r_pop {v : Value} (hdg : decode cc pc = .ok (.pop, 1)) (hp : pc + 1 = pc') (hv : v.category = 1) (k : Wp g y cc nL rt dp mc ms Z c0 s0 pc' lo st w) : Wp g y cc nL rt dp mc ms Z c0 s0 pc lo (v :: st) w := by
  subst hp
  exact Wp.step (fun p e R s m args below meth c H locs ls Q hx hb hl _ _ kk => lv_pop hx hb hdg ((px_v_cat g v).trans hv) kk) k
theorem r_dup2 {v u : Value} (hdg : decode cc pc = .ok (.dup2, 1)) (hp : pc + 1 = pc') (hv : v.category = 1) (hu : u.category = 1) (k : Wp g y cc nL rt dp mc ms Z c0 s0 pc' lo (v :: u :: v :: u :: st) w) : Wp g y cc nL rt dp mc ms Z c0 s0 pc lo (v :: u :: st) w := by
  subst hp
  exact Wp.step (fun p e R s m args below meth c H locs ls Q hx hb hl _ _ kk => lv_dup2_11 hx hb hdg ((px_v_cat g v).trans hv) ((px_v_cat g u).trans hu) kk) k
theorem r_goto {off : Int} {tgt : Nat} (hdg : decode cc pc = .ok (.goto off, 3)) (ht : (pc : Int) + off = (tgt : Int)) (k : Wp g y cc nL rt dp mc ms Z c0 s0 tgt lo st w) : Wp g y cc nL rt dp mc ms Z c0 s0 pc lo st w :=
  Wp.step (fun p e R s m args below meth c H locs ls Q hx hb hl _ _ kk => lv_goto hx hb hdg ht kk) k
theorem r_ifnull {off : Int} {x : Nat} (hdg : decode cc pc = .ok (.ifnull off, 3)) (hp : pc + 3 = pc') (k : Wp g y cc nL rt dp mc ms Z c0 s0 pc' lo st w) : Wp g y cc nL rt dp mc ms Z c0 s0 pc lo (.ref x :: st) w := by
  subst hp
  exact Wp.step (fun p e R s m args below meth c H locs ls Q hx hb hl _ _ kk => lv_ifnull hx hb hdg kk) k
theorem r_if_eq {x : Int32} {P : Prop} {off : Int} {tgt : Nat} (hdg : decode cc pc = .ok (.ifCond .eq off, 3)) (ht : (pc : Int) + off = (tgt : Int)) (hp : pc + 3 = pc') (hP : x = 0 ↔ P) (kt : P → Wp g y cc nL rt dp mc ms Z c0 s0 tgt lo st w) (kf : ¬ P → Wp g y cc nL rt dp mc ms Z c0 s0 pc' lo st w) : Wp g y cc nL rt dp mc ms Z c0 s0 pc lo (.int x :: st) w := by
  subst hp
  intro p e R s m args below meth c H locs ls hM hP' hS hl
  exact lv_if_eq hM.1 hM.2.1 hdg ht (fun h => kt (hP.mp h) p e R s m args below meth c H locs ls hM hP' hS hl) (fun h => kf (fun h' => h (hP.mpr h')) p e R s m args below meth c H locs ls hM hP' hS hl)
theorem r_if_lt {x : Int32} {P : Prop} {off : Int} {tgt : Nat} (hdg : decode cc pc = .ok (.ifCond .lt off, 3)) (ht : (pc : Int) + off = (tgt : Int)) (hp : pc + 3 = pc') (hP : x < 0 ↔ P) (kt : P → Wp g y cc nL rt dp mc ms Z c0 s0 tgt lo st w) (kf : ¬ P → Wp g y cc nL rt dp mc ms Z c0 s0 pc' lo st w) : Wp g y cc nL rt dp mc ms Z c0 s0 pc lo (.int x :: st) w := by
  subst hp
  intro p e R s m args below meth c H locs ls hM hP' hS hl
  exact lv_if_lt hM.1 hM.2.1 hdg ht (fun h => kt (hP.mp h) p e R s m args below meth c H locs ls hM hP' hS hl) (fun h => kf (fun h' => h (hP.mpr h')) p e R s m args below meth c H locs ls hM hP' hS hl)
theorem r_if_ge {x : Int32} {P : Prop} {off : Int} {tgt : Nat} (hdg : decode cc pc = .ok (.ifCond .ge off, 3)) (ht : (pc : Int) + off = (tgt : Int)) (hp : pc + 3 = pc') (hP : 0 ≤ x ↔ P) (kt : P → Wp g y cc nL rt dp mc ms Z c0 s0 tgt lo st w) (kf : ¬ P → Wp g y cc nL rt dp mc ms Z c0 s0 pc' lo st w) : Wp g y cc nL rt dp mc ms Z c0 s0 pc lo (.int x :: st) w := by
  subst hp
  intro p e R s m args below meth c H locs ls hM hP' hS hl
  exact lv_if_ge hM.1 hM.2.1 hdg ht (fun h => kt (hP.mp h) p e R s m args below meth c H locs ls hM hP' hS hl) (fun h => kf (fun h' => h (hP.mpr h')) p e R s m args below meth c H locs ls hM hP' hS hl)
theorem r_if_gt {x : Int32} {P : Prop} {off : Int} {tgt : Nat} (hdg : decode cc pc = .ok (.ifCond .gt off, 3)) (ht : (pc : Int) + off = (tgt : Int)) (hp : pc + 3 = pc') (hP : 0 < x ↔ P) (kt : P → Wp g y cc nL rt dp mc ms Z c0 s0 tgt lo st w) (kf : ¬ P → Wp g y cc nL rt dp mc ms Z c0 s0 pc' lo st w) : Wp g y cc nL rt dp mc ms Z c0 s0 pc lo (.int x :: st) w := by
  subst hp
  intro p e R s m args below meth c H locs ls hM hP' hS hl
  exact lv_if_gt hM.1 hM.2.1 hdg ht (fun h => kt (hP.mp h) p e R s m args below meth c H locs ls hM hP' hS hl) (fun h => kf (fun h' => h (hP.mpr h')) p e R s m args below meth c H locs ls hM hP' hS hl)
theorem r_if_le {x : Int32} {P : Prop} {off : Int} {tgt : Nat} (hdg : decode cc pc = .ok (.ifCond .le off, 3)) (ht : (pc : Int) + off = (tgt : Int)) (hp : pc + 3 = pc') (hP : x ≤ 0 ↔ P) (kt : P → Wp g y cc nL rt dp mc ms Z c0 s0 tgt lo st w) (kf : ¬ P → Wp g y cc nL rt dp mc ms Z c0 s0 pc' lo st w) : Wp g y cc nL rt dp mc ms Z c0 s0 pc lo (.int x :: st) w := by
  subst hp
  intro p e R s m args below meth c H locs ls hM hP' hS hl
  exact lv_if_le hM.1 hM.2.1 hdg ht (fun h => kt (hP.mp h) p e R s m args below meth c H locs ls hM hP' hS hl) (fun h => kf (fun h' => h (hP.mpr h')) p e R s m args below meth c H locs ls hM hP' hS hl)
theorem r_icmp_eq {x z : Int32} {P : Prop} {off : Int} {tgt : Nat} (hdg : decode cc pc = .ok (.if_icmp .eq off, 3)) (ht : (pc : Int) + off = (tgt : Int)) (hp : pc + 3 = pc') (hP : x = z ↔ P) (kt : P → Wp g y cc nL rt dp mc ms Z c0 s0 tgt lo st w) (kf : ¬ P → Wp g y cc nL rt dp mc ms Z c0 s0 pc' lo st w) : Wp g y cc nL rt dp mc ms Z c0 s0 pc lo (.int z :: .int x :: st) w := by
  subst hp
  intro p e R s m args below meth c H locs ls hM hP' hS hl
  exact lv_icmp_eq hM.1 hM.2.1 hdg ht (fun h => kt (hP.mp h) p e R s m args below meth c H locs ls hM hP' hS hl) (fun h => kf (fun h' => h (hP.mpr h')) p e R s m args below meth c H locs ls hM hP' hS hl)
theorem r_icmp_lt {x z : Int32} {P : Prop} {off : Int} {tgt : Nat} (hdg : decode cc pc = .ok (.if_icmp .lt off, 3)) (ht : (pc : Int) + off = (tgt : Int)) (hp : pc + 3 = pc') (hP : x < z ↔ P) (kt : P → Wp g y cc nL rt dp mc ms Z c0 s0 tgt lo st w) (kf : ¬ P → Wp g y cc nL rt dp mc ms Z c0 s0 pc' lo st w) : Wp g y cc nL rt dp mc ms Z c0 s0 pc lo (.int z :: .int x :: st) w := by
  subst hp
  intro p e R s m args below meth c H locs ls hM hP' hS hl
  exact lv_icmp_lt hM.1 hM.2.1 hdg ht (fun h => kt (hP.mp h) p e R s m args below meth c H locs ls hM hP' hS hl) (fun h => kf (fun h' => h (hP.mpr h')) p e R s m args below meth c H locs ls hM hP' hS hl)
theorem r_icmp_ge {x z : Int32} {P : Prop} {off : Int} {tgt : Nat} (hdg : decode cc pc = .ok (.if_icmp .ge off, 3)) (ht : (pc : Int) + off = (tgt : Int)) (hp : pc + 3 = pc') (hP : z ≤ x ↔ P) (kt : P → Wp g y cc nL rt dp mc ms Z c0 s0 tgt lo st w) (kf : ¬ P → Wp g y cc nL rt dp mc ms Z c0 s0 pc' lo st w) : Wp g y cc nL rt dp mc ms Z c0 s0 pc lo (.int z :: .int x :: st) w := by
  subst hp
  intro p e R s m args below meth c H locs ls hM hP' hS hl
  exact lv_icmp_ge hM.1 hM.2.1 hdg ht (fun h => kt (hP.mp h) p e R s m args below meth c H locs ls hM hP' hS hl) (fun h => kf (fun h' => h (hP.mpr h')) p e R s m args below meth c H locs ls hM hP' hS hl)
theorem r_icmp_gt {x z : Int32} {P : Prop} {off : Int} {tgt : Nat} (hdg : decode cc pc = .ok (.if_icmp .gt off, 3)) (ht : (pc : Int) + off = (tgt : Int)) (hp : pc + 3 = pc') (hP : z < x ↔ P) (kt : P → Wp g y cc nL rt dp mc ms Z c0 s0 tgt lo st w) (kf : ¬ P → Wp g y cc nL rt dp mc ms Z c0 s0 pc' lo st w) : Wp g y cc nL rt dp mc ms Z c0 s0 pc lo (.int z :: .int x :: st) w := by
  subst hp
  intro p e R s m args below meth c H locs ls hM hP' hS hl
  exact lv_icmp_gt hM.1 hM.2.1 hdg ht (fun h => kt (hP.mp h) p e R s m args below meth c H locs ls hM hP' hS hl) (fun h => kf (fun h' => h (hP.mpr h')) p e R s m args below meth c H locs ls hM hP' hS hl)
theorem r_icmp_le {x z : Int32} {P : Prop} {off : Int} {tgt : Nat} (hdg : decode cc pc = .ok (.if_icmp .le off, 3)) (ht : (pc : Int) + off = (tgt : Int)) (hp : pc + 3 = pc') (hP : x ≤ z ↔ P) (kt : P → Wp g y cc nL rt dp mc ms Z c0 s0 tgt lo st w) (kf : ¬ P → Wp g y cc nL rt dp mc ms Z c0 s0 pc' lo st w) : Wp g y cc nL rt dp mc ms Z c0 s0 pc lo (.int z :: .int x :: st) w := by
  subst hp
  intro p e R s m args below meth c H locs ls hM hP' hS hl
  exact lv_icmp_le hM.1 hM.2.1 hdg ht (fun h => kt (hP.mp h) p e R s m args below meth c H locs ls hM hP' hS hl) (fun h => kf (fun h' => h (hP.mpr h')) p e R s m args below meth c H locs ls hM hP' hS hl)
theorem r_if_ne {x : Int32} {P : Prop} {off : Int} {tgt : Nat} (hdg : decode cc pc = .ok (.ifCond .ne off, 3)) (ht : (pc : Int) + off = (tgt : Int)) (hp : pc + 3 = pc') (hP : x = 0 ↔ P) (kt : ¬ P → Wp g y cc nL rt dp mc ms Z c0 s0 tgt lo st w) (kf : P → Wp g y cc nL rt dp mc ms Z c0 s0 pc' lo st w) : Wp g y cc nL rt dp mc ms Z c0 s0 pc lo (.int x :: st) w := by
  subst hp
  intro p e R s m args below meth c H locs ls hM hP' hS hl
  exact lv_if_ne hM.1 hM.2.1 hdg ht (fun h => kt (fun h' => h (hP.mpr h')) p e R s m args below meth c H locs ls hM hP' hS hl) (fun h => kf (hP.mp h) p e R s m args below meth c H locs ls hM hP' hS hl)
theorem r_icmp_ne {x z : Int32} {P : Prop} {off : Int} {tgt : Nat} (hdg : decode cc pc = .ok (.if_icmp .ne off, 3)) (ht : (pc : Int) + off = (tgt : Int)) (hp : pc + 3 = pc') (hP : x = z ↔ P) (kt : ¬ P → Wp g y cc nL rt dp mc ms Z c0 s0 tgt lo st w) (kf : P → Wp g y cc nL rt dp mc ms Z c0 s0 pc' lo st w) : Wp g y cc nL rt dp mc ms Z c0 s0 pc lo (.int z :: .int x :: st) w := by
  subst hp
  intro p e R s m args below meth c H locs ls hM hP' hS hl
  exact lv_icmp_ne hM.1 hM.2.1 hdg ht (fun h => kt (fun h' => h (hP.mpr h')) p e R s m args below meth c H locs ls hM hP' hS hl) (fun h => kf (hP.mp h) p e R s m args below meth c H locs ls hM hP' hS hl)
theorem r_tableOut {dflt low high : Int} {offs : Array Int} {len : Nat} {x : Int32} {tgt : Nat} (hdg : decode cc pc = .ok (.tableswitch dflt low high offs, len)) (h : x.toInt < low ∨ high < x.toInt) (ht : (pc : Int) + dflt = (tgt : Int)) (k : Wp g y cc nL rt dp mc ms Z c0 s0 tgt lo st w) : Wp g y cc nL rt dp mc ms Z c0 s0 pc lo (.int x :: st) w :=
  Wp.step (fun p e R s m args below meth c H locs ls Q hx hb hl _ _ kk => lv_tableOut hx hb hdg h ht kk) k
theorem r_tableIn {dflt low high : Int} {offs : Array Int} {len : Nat} {x : Int32} {off : Int} {tgt : Nat} (hdg : decode cc pc = .ok (.tableswitch dflt low high offs, len)) (h1 : ¬ x.toInt < low) (h2 : ¬ high < x.toInt) (ho : offs[(x.toInt - low).toNat]? = some off) (ht : (pc : Int) + off = (tgt : Int)) (k : Wp g y cc nL rt dp mc ms Z c0 s0 tgt lo st w) : Wp g y cc nL rt dp mc ms Z c0 s0 pc lo (.int x :: st) w :=
  Wp.step (fun p e R s m args below meth c H locs ls Q hx hb hl _ _ kk => lv_tableIn hx hb hdg h1 h2 ho ht kk) k
theorem r_widen {c1 s1 : Nat} (h1 : c0 ≤ c1) (h2 : s0 ≤ s1) (k : Wp g y cc nL rt dp mc ms Z c1 s1 pc lo st w) : Wp g y cc nL rt dp mc ms Z c0 s0 pc lo st w :=
  fun p e R s m args below meth c H locs ls hM hP hS hl => W.widen h1 h2 (k p e R s m args below meth c H locs ls hM hP hS hl)
end R
section RR
variable {g : px_G} {y : MethodName} {cc : ByteArray} {nL : Nat} {rt : Option FieldType} {dp mc ms : Nat} {Q : px_Q} {pc : Nat} {lo : List (Option Value)} {w : px_W}
theorem px_ret {p : Program} {R : Room} {s : State} {m : MethodId} {args : Array Value} {meth : Method} {c : Code} {H : Heap} {locs : List Loc} {r : Option Value} (hP : px_P g w s H) (hS : va_S (px_A g) s.heap H locs) (hQ : Q r w) {o : Outcome} (ho : o = .returned (r.map (px_v g))) : ∀ t : State, t.heap = H → s.WarmedH t.vm → px_Qc g Q args s o t :=
  fun t ht hW => ⟨⟨r, w, ho, hQ, by rw [ht]; exact hP.moved hW.alike⟩, hS.F ht⟩
theorem r_ireturn {x : Int32} (hdg : decode cc pc = .ok (.ireturn, 1)) (hr : rt = some .int) (hQ : Q (some (.int x)) w) : Wp g y cc nL rt dp mc ms (px_MQ g Q mc ms) mc ms pc lo [.int x] w := by
  intro p e R s m args below meth c H locs ls hM hP hS hl
  have hlocks := hM.2.2.2.2.2.2.1
  exact W.iret (v := x) hM.1 hM.2.1 (hM.2.2.2.1.trans hr) (px_ret (p := p) (R := R) (m := m) (meth := meth) (c := c) hP hS hQ rfl) hS.2.2 hdg hlocks
theorem r_zreturn {x : Int32} (hdg : decode cc pc = .ok (.ireturn, 1)) (hr : rt = some .boolean) (hn : narrow .boolean (.int x) = .int x) (hQ : Q (some (.int x)) w) : Wp g y cc nL rt dp mc ms (px_MQ g Q mc ms) mc ms pc lo [.int x] w := by
  intro p e R s m args below meth c H locs ls hM hP hS hl
  have hlocks := hM.2.2.2.2.2.2.1
  exact W.zret (v := x) hM.1 hM.2.1 (hM.2.2.2.1.trans hr) hn (px_ret (p := p) (R := R) (m := m) (meth := meth) (c := c) hP hS hQ rfl) hS.2.2 hdg hlocks
theorem r_lreturn {x : Int64} (hdg : decode cc pc = .ok (.lreturn, 1)) (hr : rt = some .long) (hQ : Q (some (.long x)) w) : Wp g y cc nL rt dp mc ms (px_MQ g Q mc ms) mc ms pc lo [.long x] w := by
  intro p e R s m args below meth c H locs ls hM hP hS hl
  have hlocks := hM.2.2.2.2.2.2.1
  exact W.lret (v := x) hM.1 hM.2.1 (hM.2.2.2.1.trans hr) (px_ret (p := p) (R := R) (m := m) (meth := meth) (c := c) hP hS hQ rfl) hS.2.2 hdg hlocks
theorem r_return (hdg : decode cc pc = .ok (.return_, 1)) (hr : rt = none) (hQ : Q none w) : Wp g y cc nL rt dp mc ms (px_MQ g Q mc ms) mc ms pc lo [] w := by
  intro p e R s m args below meth c H locs ls hM hP hS hl
  have hlocks := hM.2.2.2.2.2.2.1
  exact W.vret hM.1 hM.2.1 (hM.2.2.2.1.trans hr) (px_ret (p := p) (R := R) (m := m) (meth := meth) (c := c) hP hS hQ rfl) hS.2.2 hdg hlocks
end RR
