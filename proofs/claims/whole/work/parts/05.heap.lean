/-! rules of fields, arrays, new cells -/
def px_F (own : String) (idx : Nat) (C : String) (T : u_T) (N ci k : Nat) : Prop :=
  px_cl[ci]? = some (C, T, N) ∧ (∀ w ∈ u_ws C T N, w ∈ gw) ∧ (∃ ty0 : Nat → FieldType, ∀ k, k < N → parseFieldDescriptor (T k).2.2.1 = some (ty0 k)) ∧ (∀ a, a < N → ∀ b, b < N → a ≠ b → (T a).2.1 ≠ (T b).2.1) ∧ k < N ∧ Cond.fieldLink own idx (T k).1 (T k).2.1 (T k).2.2.1 ∈ gw
def px_FN (own : String) (idx : Nat) (C : String) (T : u_T) (N ci k : Nat) : Prop :=
  px_cl[ci]? = some (C, T, N) ∧ (∀ w ∈ u_ws C T N, w ∈ gw) ∧ (∃ ty0 : Nat → FieldType, ∀ k, k < N → parseFieldDescriptor (T k).2.2.1 = some (ty0 k)) ∧ (∀ a, a < N → ∀ b, b < N → a ≠ b → (T a).2.1 ≠ (T b).2.1) ∧ k < N ∧ (own, idx, (T k).1, (T k).2.1, (T k).2.2.1, "GravelWords") ∈ px_nF
theorem px_lt {g : px_G} {w : px_W} {U : State} {H : Heap} (hP : px_P g w U H) {k : Nat} {c : px_C} (h : w[k]? = some c) : k < 1000 := by
  have h1 := (List.getElem?_eq_some_iff.mp h).1
  have h2 := hP.2.1
  omega
theorem px_P.setc {g : px_G} {w : px_W} {s : State} {H H1 : Heap} {k : Nat} {c : px_C} (hP : px_P g w s H) (h1 : va_P (px_D g) px_cl ((px_w g w).set k (px_b g + k, px_e g c)) H1) (hz : H1.size = H.size) : px_P g (w.set k c) s H1 :=
  ⟨by rw [hz, hP.1, List.length_set], by rw [List.length_set]; exact hP.2.1, by rw [px_w_set]; exact h1, hP.2.2.2⟩
section H
variable {g : px_G} {y : MethodName} {cc : ByteArray} {nL : Nat} {rt : Option FieldType} {dp mc ms : Nat} {Z : px_Z} {c0 s0 pc pc' : Nat} {lo : List (Option Value)} {st : List Value} {w : px_W}
theorem r_get {idx q ci k N : Nat} {C : String} {T : u_T} {fs : List Value} {v : Value} (hF : px_F y.cls idx C T N ci k) (hdg : decode cc pc = .ok (.getfield idx, 3)) (hp : pc + 3 = pc') (he : w[q]? = some (.inr (ci, fs))) (hv : fs[k]? = some v) (kk : Wp g y cc nL rt dp mc ms Z c0 s0 pc' lo (v :: st) w) : Wp g y cc nL rt dp mc ms Z c0 s0 pc lo (.ref q :: st) w := by
  subst hp
  intro p e R s m args below meth c H locs ls hM hP hS hl
  obtain ⟨hc, hin, -, -, hk, hlink⟩ := hF
  have hts := hM.2.2.2.2.2.1
  have hk2 := kk p e R s m args below meth c H locs ls hM hP hS hl
  show W p (px_l g) e R s m args below meth c H locs c0 s0 _ (F0 m pc ls (.ref (px_ad g q) :: st.map (px_v g)))
  rw [px_ad_lo (px_lt hP he)]
  exact va_get hM.1 hM.2.1 hts hin hM.2.2.2.2.1 hP.2.2.2 hP.2.2.1 q (px_w_get he) hc k hk (hts _ hlink) (fun x h => h) (v := px_v g v) (by simp [hv]) hdg hk2
theorem r_getN {idx q ci k N : Nat} {C : String} {T : u_T} {fs : List Value} {v : Value} (hF : px_FN y.cls idx C T N ci k) (hdg : decode cc pc = .ok (.getfield idx, 3)) (hp : pc + 3 = pc') (he : w[q]? = some (.inr (ci, fs))) (hv : fs[k]? = some v) (kk : Wp g y cc nL rt dp mc ms Z c0 s0 pc' lo (v :: st) w) : Wp g y cc nL rt dp mc ms Z c0 s0 pc lo (.ref q :: st) w := by
  subst hp
  intro p e R s m args below meth c H locs ls hM hP hS hl
  obtain ⟨hc, hin, -, -, hk, hlink⟩ := hF
  have hts := hM.2.2.2.2.2.1
  have hk2 := kk p e R s m args below meth c H locs ls hM hP hS hl
  show W p (px_l g) e R s m args below meth c H locs c0 s0 _ (F0 m pc ls (.ref (px_ad g q) :: st.map (px_v g)))
  rw [px_ad_lo (px_lt hP he)]
  have hsS := hM.2.2.2.2.2.2.2.2.1
  exact va_getN hM.1 hM.2.1 hts hin hM.2.2.2.2.1 hP.2.2.2 hP.2.2.1 q (px_w_get he) hc k hk ((hsS.2.1 _ hlink).use rfl) (fun x h => h) (v := px_v g v) (by simp [hv]) hdg hk2
theorem px_put_aux {C : String} {T : u_T} {N ci k q : Nat} {fs : List Value} {v : Value} {s : State} {H H' : Heap} {args : Array Value} (hc : px_cl[ci]? = some (C, T, N)) (hk : k < N) (hl : k < fs.length) {cell : Cell} {slot : Nat} (hap : ∀ x z, x < N → z < N → x ≠ z → ((px_D g).2 ci) x ≠ ((px_D g).2 ci) z) (hP : px_P g w s H) (he : w[q]? = some (.inr (ci, fs)))
    (q2 : cell.cls = (px_D g).1 ci) (q3 : cell.vm = .none) (q4 : ∀ j, j < N → cell.slots[(px_D g).2 ci j]? = some (vp_V (fs.map (px_v g)) j)) (hsl : slot = (px_D g).2 ci k) (e1 : H'[px_b g + q]? = some (cell.setSlot slot (px_v g v))) (e2 : H'.size = H.size) (e3 : ∀ x : Nat, x ≠ px_b g + q → H'[x]? = H[x]?) : px_P g (w.set q (.inr (ci, fs.set k v))) s H' := by
  subst hsl
  have hl' : k < (fs.map (px_v g)).length := by simpa using hl
  refine hP.setc ?_ e2
  have hX : px_e g (.inr (ci, fs.set k v)) = .inr (ci, (fs.map (px_v g)).set k (px_v g v)) := by simp [px_e, List.map_set]
  rw [hX]
  exact hP.2.2.1.set (px_D_ok g w) (px_w_get he) ⟨_, hc, t_OB.to (V := updV (vp_V (fs.map (px_v g))) k (px_v g v)) ⟨_, e1, q2, q3, t_set q4 hap hk (px_v g v)⟩ (fun j _ => vp_updV_set hl' (px_v g v) j)⟩ e3
theorem r_put {idx q ci k N : Nat} {C : String} {T : u_T} {fs : List Value} {v : Value} {ty : FieldType} {c' : px_C} (hF : px_F y.cls idx C T N ci k) (hdg : decode cc pc = .ok (.putfield idx, 3)) (hp : pc + 3 = pc') (he : w[q]? = some (.inr (ci, fs))) (hl : k < fs.length) (hfin : (T k).2.2.2 = false) (hd : parseFieldDescriptor (T k).2.2.1 = some ty) (hn : narrow ty (px_v g v) = px_v g v) (hfit : fits ty (px_v g v) = true) (hc' : Sum.inr (ci, fs.set k v) = c')
    (kk : Wp g y cc nL rt dp mc ms Z c0 s0 pc' lo st (w.set q c')) : Wp g y cc nL rt dp mc ms Z c0 s0 pc lo (v :: .ref q :: st) w := by
  subst hp; subst hc'
  intro p e R s m args below meth c H locs ls hM hP hS hlo
  obtain ⟨hc, hin, ⟨ty0, hty⟩, hnm, hk, hlink⟩ := hF
  have hts := hM.2.2.2.2.2.1
  have hK := hP.2.2.2
  have hap := va_apart (own := y.cls) hts hin ty0 hty hnm hK hc
  obtain ⟨r, h1, cell, q1, q2, q3, q4⟩ := hP.2.2.1 q _ (px_w_get he)
  have hr : r = (C, T, N) := Option.some.inj (h1.symm.trans hc)
  subst hr
  obtain ⟨hSl, hfc, kC, hkC, hkind⟩ := hK.1 ci _ hc
  obtain ⟨cf, kf, fi, f, hi, hsl⟩ := hSl k hk
  have hlay := hts _ (hin _ (u_in_lay hk))
  unfold u_lay at hlay
  rw [if_neg (by rw [hfin]; decide)] at hlay
  have hst := (u_facts hfc hkC (u_lays hts hin hk) hi).1
  have h6 := u_store hfc hkC hkind hlay hi hd hn hfit
  show W p (px_l g) e R s m args below meth c H locs c0 s0 _ (F0 m pc ls (px_v g v :: .ref (px_ad g q) :: st.map (px_v g)))
  rw [px_ad_lo (px_lt hP he)]
  refine W.putK hM.1 hM.2.1 (f := f) ⟨hM.2.2.2.2.1, hts _ hlink, ⟨_, _, _, hi⟩, hst⟩ (by rw [q2]; exact h6) q1 q3 (by rw [hsl]; exact k2_hasslot (q4 k hk)) rfl rfl hdg fun H' e1 e2 e3 => ?_
  exact kk p e R s m args below meth c H' _ ls hM (px_put_aux (args := args) hc hk hl hap hP he q2 q3 q4 hsl e1 e2 e3) (hS.put e2 e3 (Nat.le_add_right _ _)) hlo
theorem r_putN {idx q ci k N : Nat} {C : String} {T : u_T} {fs : List Value} {v : Value} {ty : FieldType} {c' : px_C} (hF : px_FN y.cls idx C T N ci k) (hdg : decode cc pc = .ok (.putfield idx, 3)) (hp : pc + 3 = pc') (he : w[q]? = some (.inr (ci, fs))) (hl : k < fs.length) (hfin : (T k).2.2.2 = false) (hd : parseFieldDescriptor (T k).2.2.1 = some ty) (hn : narrow ty (px_v g v) = px_v g v) (hfit : fits ty (px_v g v) = true) (hc' : Sum.inr (ci, fs.set k v) = c')
    (kk : Wp g y cc nL rt dp mc ms Z c0 s0 pc' lo st (w.set q c')) : Wp g y cc nL rt dp mc ms Z c0 s0 pc lo (v :: .ref q :: st) w := by
  subst hp; subst hc'
  intro p e R s m args below meth c H locs ls hM hP hS hlo
  obtain ⟨hc, hin, ⟨ty0, hty⟩, hnm, hk, hlink⟩ := hF
  have hts := hM.2.2.2.2.2.1
  have hK := hP.2.2.2
  have hap := va_apart (own := y.cls) hts hin ty0 hty hnm hK hc
  obtain ⟨r, h1, cell, q1, q2, q3, q4⟩ := hP.2.2.1 q _ (px_w_get he)
  have hr : r = (C, T, N) := Option.some.inj (h1.symm.trans hc)
  subst hr
  obtain ⟨hSl, hfc, kC, hkC, hkind⟩ := hK.1 ci _ hc
  obtain ⟨cf, kf, fi, f, hi, hsl⟩ := hSl k hk
  have hlay := hts _ (hin _ (u_in_lay hk))
  unfold u_lay at hlay
  rw [if_neg (by rw [hfin]; decide)] at hlay
  have hst := (u_facts hfc hkC (u_lays hts hin hk) hi).1
  have h6 := u_store hfc hkC hkind hlay hi hd hn hfit
  have hsS := hM.2.2.2.2.2.2.2.2.1
  show W p (px_l g) e R s m args below meth c H locs c0 s0 _ (F0 m pc ls (px_v g v :: .ref (px_ad g q) :: st.map (px_v g)))
  rw [px_ad_lo (px_lt hP he)]
  refine va_WputK hM.1 hM.2.1 (f := f) hM.2.2.2.2.1 ((hsS.2.1 _ hlink).use rfl) hi hst (by rw [q2]; exact h6) q1 q3 (by rw [hsl]; exact k2_hasslot (q4 k hk)) rfl rfl hdg fun H' e1 e2 e3 => ?_
  exact kk p e R s m args below meth c H' _ ls hM (px_put_aux (args := args) hc hk hl hap hP he q2 q3 q4 hsl e1 e2 e3) (hS.put e2 e3 (Nat.le_add_right _ _)) hlo
theorem r_putF {idx q ci k N : Nat} {C : String} {T : u_T} {fs : List Value} {v : Value} {ty : FieldType} {c' : px_C} (hF : px_F y.cls idx C T N ci k) (hdg : decode cc pc = .ok (.putfield idx, 3)) (hp : pc + 3 = pc') (he : w[q]? = some (.inr (ci, fs))) (hl : k < fs.length) (hfin : (T k).2.2.2 = true) (hini : y.name = "<init>") (hdecl : (T k).1 = y.cls) (hd : parseFieldDescriptor (T k).2.2.1 = some ty) (hn : narrow ty (px_v g v) = px_v g v) (hfit : fits ty (px_v g v) = true) (hc' : Sum.inr (ci, fs.set k v) = c')
    (kk : Wp g y cc nL rt dp mc ms Z c0 s0 pc' lo st (w.set q c')) : Wp g y cc nL rt dp mc ms Z c0 s0 pc lo (v :: .ref q :: st) w := by
  subst hp; subst hc'
  intro p e R s m args below meth c H locs ls hM hP hS hlo
  obtain ⟨hc, hin, ⟨ty0, hty⟩, hnm, hk, hlink⟩ := hF
  have hts := hM.2.2.2.2.2.1
  have hown := hM.2.2.2.2.1
  have hK := hP.2.2.2
  have hap := va_apart (own := y.cls) hts hin ty0 hty hnm hK hc
  obtain ⟨r, h1, cell, q1, q2, q3, q4⟩ := hP.2.2.1 q _ (px_w_get he)
  have hr : r = (C, T, N) := Option.some.inj (h1.symm.trans hc)
  subst hr
  obtain ⟨hSl, hfc, kC, hkC, hkind⟩ := hK.1 ci _ hc
  obtain ⟨cf, kf, fi, f, hi, hsl⟩ := hSl k hk
  have hlay := hts _ (hin _ (u_in_lay hk))
  unfold u_lay at hlay
  rw [if_pos hfin] at hlay
  have hst := (u_facts hfc hkC (u_lays hts hin hk) hi).1
  have hcf : m.cls = cf := by
    obtain ⟨_, _, c', _, _, _, -, -, hf', -, -, -, hown2, -⟩ := Cond.laysFinal_spec hlay
    have e1 : c' = cf := by have := hi.symm.trans hf'; simp at this; exact this.1.symm
    rw [hdecl] at hown2
    rw [← e1]; exact Option.some.inj (hown.symm.trans hown2)
  have h6 := u_fits hfc hkC hkind (Or.inr hlay) hi hd hn hfit
  show W p (px_l g) e R s m args below meth c H locs c0 s0 _ (F0 m pc ls (px_v g v :: .ref (px_ad g q) :: st.map (px_v g)))
  rw [px_ad_lo (px_lt hP he)]
  refine W.putFinK hM.1 hM.2.1 hown (hts _ hlink) hi hst hcf (hM.2.2.2.2.2.2.2.1 hini) (by rw [q2]; exact h6) q1 q3 (by rw [hsl]; exact k2_hasslot (q4 k hk)) rfl rfl hdg fun H' e1 e2 e3 => ?_
  exact kk p e R s m args below meth c H' _ ls hM (px_put_aux (args := args) hc hk hl hap hP he q2 q3 q4 hsl e1 e2 e3) (hS.put e2 e3 (Nat.le_add_right _ _)) hlo
/-! arrays: 0 of int, 1 of boolean, 2 of Morning -/
theorem r_iaload {q n : Nat} {f : Nat → Int32} {i v : Int32} (hdg : decode cc pc = .ok (.iaload, 1)) (hp : pc + 1 = pc') (he : w[q]? = some (.inl (0, n, .inl f))) (hin : vp_in i n) (hv : f i.toNatClampNeg = v) (kk : Wp g y cc nL rt dp mc ms Z c0 s0 pc' lo (.int v :: st) w) : Wp g y cc nL rt dp mc ms Z c0 s0 pc lo (.int i :: .ref q :: st) w := by
  subst hp; subst hv
  intro p e R s m args below meth c H locs ls hM hP hS hl
  have hk2 := kk p e R s m args below meth c H locs ls hM hP hS hl
  show W p (px_l g) e R s m args below meth c H locs c0 s0 _ (F0 m pc ls (.int i :: .ref (px_ad g q) :: st.map (px_v g)))
  rw [px_ad_lo (px_lt hP he)]
  exact va_iald hM.1 hM.2.1 hP.2.2.2 hP.2.2.1 q 0 (px_w_get he) rfl hin hdg hk2
theorem r_baload {q n : Nat} {f : Nat → Int32} {i v : Int32} (hdg : decode cc pc = .ok (.baload, 1)) (hp : pc + 1 = pc') (he : w[q]? = some (.inl (1, n, .inl f))) (hin : vp_in i n) (hv : f i.toNatClampNeg = v) (kk : Wp g y cc nL rt dp mc ms Z c0 s0 pc' lo (.int v :: st) w) : Wp g y cc nL rt dp mc ms Z c0 s0 pc lo (.int i :: .ref q :: st) w := by
  subst hp; subst hv
  intro p e R s m args below meth c H locs ls hM hP hS hl
  have hk2 := kk p e R s m args below meth c H locs ls hM hP hS hl
  show W p (px_l g) e R s m args below meth c H locs c0 s0 _ (F0 m pc ls (.int i :: .ref (px_ad g q) :: st.map (px_v g)))
  rw [px_ad_lo (px_lt hP he)]
  exact va_zald hM.1 hM.2.1 hP.2.2.2 hP.2.2.1 q 1 (px_w_get he) rfl hin hdg hk2
theorem r_aaload {q n a : Nat} {f : Nat → Option Nat} {i : Int32} (hdg : decode cc pc = .ok (.aaload, 1)) (hp : pc + 1 = pc') (he : w[q]? = some (.inl (2, n, .inr (.inr (.inr (.inr f)))))) (hin : vp_in i n) (hv : f i.toNatClampNeg = some a) (kk : Wp g y cc nL rt dp mc ms Z c0 s0 pc' lo (.ref a :: st) w) : Wp g y cc nL rt dp mc ms Z c0 s0 pc lo (.int i :: .ref q :: st) w := by
  subst hp
  intro p e R s m args below meth c H locs ls hM hP hS hl
  have hk2 := kk p e R s m args below meth c H locs ls hM hP hS hl
  show W p (px_l g) e R s m args below meth c H locs c0 s0 _ (F0 m pc ls (.int i :: .ref (px_ad g q) :: st.map (px_v g)))
  rw [px_ad_lo (px_lt hP he)]
  refine va_aldq hM.1 hM.2.1 hP.2.2.2 hP.2.2.1 q 2 (px_w_get he) rfl hin hdg ?_
  simp only [hv, Option.map_some]
  exact hk2
theorem r_ialoadT {q n : Nat} {f : Nat → Int32} {i v : Int32} (hdg : decode cc pc = .ok (.iaload, 1)) (hp : pc + 1 = pc') (hq : ¬ q < 1000) (he : px_t g q = some (n, f)) (hin : vp_in i n) (hv : f i.toNatClampNeg = v) (kk : Wp g y cc nL rt dp mc ms Z c0 s0 pc' lo (.int v :: st) w) : Wp g y cc nL rt dp mc ms Z c0 s0 pc lo (.int i :: .ref q :: st) w := by
  subst hp; subst hv
  intro p e R s m args below meth c H locs ls hM hP hS hl
  have hk2 := kk p e R s m args below meth c H locs ls hM hP hS hl
  have hsS := hM.2.2.2.2.2.2.2.2.1
  show W p (px_l g) e R s m args below meth c H locs c0 s0 _ (F0 m pc ls (.int i :: .ref (px_ad g q) :: st.map (px_v g)))
  rw [px_ad_hi hq]
  exact va_ti hM.1 hM.2.1 (hsS.1 _ _ _ he) hS hin rfl hdg hk2
theorem r_alen {q t : Nat} {a : vp_A} {v : Int32} (hdg : decode cc pc = .ok (.arraylength, 1)) (hp : pc + 1 = pc') (he : w[q]? = some (.inl (t, a))) (ht : t < 3) (hv : Int32.ofNat a.1 = v) (kk : Wp g y cc nL rt dp mc ms Z c0 s0 pc' lo (.int v :: st) w) : Wp g y cc nL rt dp mc ms Z c0 s0 pc lo (.ref q :: st) w := by
  subst hp
  intro p e R s m args below meth c H locs ls hM hP hS hl
  have hk2 := kk p e R s m args below meth c H locs ls hM hP hS hl
  show W p (px_l g) e R s m args below meth c H locs c0 s0 _ (F0 m pc ls (.ref (px_ad g q) :: st.map (px_v g)))
  rw [px_ad_lo (px_lt hP he)]
  have hv' : Int32.ofNat (px_a g a).1 = v := by rw [← hv]; unfold px_a; split <;> rfl
  have h1 : t = 0 ∨ t = 1 ∨ t = 2 := by omega
  rcases h1 with rfl | rfl | rfl
  · exact va_alen hM.1 hM.2.1 hP.2.2.2 hP.2.2.1 q 0 (px_w_get he) rfl hv' hdg hk2
  · exact va_alen hM.1 hM.2.1 hP.2.2.2 hP.2.2.1 q 1 (px_w_get he) rfl hv' hdg hk2
  · exact va_alen hM.1 hM.2.1 hP.2.2.2 hP.2.2.1 q 2 (px_w_get he) rfl hv' hdg hk2
theorem r_alenT {q n : Nat} {f : Nat → Int32} {v : Int32} (hdg : decode cc pc = .ok (.arraylength, 1)) (hp : pc + 1 = pc') (hq : ¬ q < 1000) (he : px_t g q = some (n, f)) (hv : Int32.ofNat n = v) (kk : Wp g y cc nL rt dp mc ms Z c0 s0 pc' lo (.int v :: st) w) : Wp g y cc nL rt dp mc ms Z c0 s0 pc lo (.ref q :: st) w := by
  subst hp
  intro p e R s m args below meth c H locs ls hM hP hS hl
  have hk2 := kk p e R s m args below meth c H locs ls hM hP hS hl
  have hsS := hM.2.2.2.2.2.2.2.2.1
  show W p (px_l g) e R s m args below meth c H locs c0 s0 _ (F0 m pc ls (.ref (px_ad g q) :: st.map (px_v g)))
  rw [px_ad_hi hq]
  exact va_tlen hM.1 hM.2.1 (hsS.1 _ _ _ he) hS hv hdg hk2
theorem r_iastore {q n : Nat} {f : Nat → Int32} {i x : Int32} {c' : px_C} (hdg : decode cc pc = .ok (.iastore, 1)) (hp : pc + 1 = pc') (he : w[q]? = some (.inl (0, n, .inl f))) (hin : vp_in i n) (hc' : Sum.inl (0, n, .inl (upd f i.toNatClampNeg x)) = c') (kk : Wp g y cc nL rt dp mc ms Z c0 s0 pc' lo st (w.set q c')) : Wp g y cc nL rt dp mc ms Z c0 s0 pc lo (.int x :: .int i :: .ref q :: st) w := by
  subst hp; subst hc'
  intro p e R s m args below meth c H locs ls hM hP hS hl
  show W p (px_l g) e R s m args below meth c H locs c0 s0 _ (F0 m pc ls (.int x :: .int i :: .ref (px_ad g q) :: st.map (px_v g)))
  rw [px_ad_lo (px_lt hP he)]
  have ha := px_w_get (g := g) he
  have hD := px_D_ok g w
  refine W.iast hM.1 hM.2.1 (hP.2.2.1 q _ ha) ((hP.2.2.2.2 0 _ rfl).1 n (fun j => .int (f j))) (fun q => by cases q) (by show ¬ (i < 0 ∨ (arrV _ _ _).slots.size ≤ _); rw [arrV_size]; exact hin) rfl rfl hdg fun H1 e z oq => ?_
  refine kk p _ R s m args below meth c H1 _ ls hM (hP.setc (hP.2.2.1.set hD ha ?_ oq) z) (hS.put z oq (hD.2 q _ ha)) hl
  show H1[_]? = some (vp_cell _ _)
  rw [e]
  show some (Cell.setSlot (vp_cell _ (n, .inl f)) _ _) = some (vp_cell _ (n, .inl _))
  rw [vp_cell_i, vp_cell_i, arrV_store]
  congr 2
  funext q
  by_cases hq : q = i.toNatClampNeg
  · subst hq
    simp [updV, upd]
  · simp [updV, upd, hq]
theorem r_bastore {q n : Nat} {f : Nat → Int32} {i x : Int32} {c' : px_C} (hdg : decode cc pc = .ok (.bastore, 1)) (hp : pc + 1 = pc') (he : w[q]? = some (.inl (1, n, .inl f))) (hin : vp_in i n) (hx : narrow .boolean (.int x) = .int x) (hc' : Sum.inl (1, n, .inl (upd f i.toNatClampNeg x)) = c') (kk : Wp g y cc nL rt dp mc ms Z c0 s0 pc' lo st (w.set q c')) : Wp g y cc nL rt dp mc ms Z c0 s0 pc lo (.int x :: .int i :: .ref q :: st) w := by
  subst hp; subst hc'
  intro p e R s m args below meth c H locs ls hM hP hS hl
  show W p (px_l g) e R s m args below meth c H locs c0 s0 _ (F0 m pc ls (.int x :: .int i :: .ref (px_ad g q) :: st.map (px_v g)))
  rw [px_ad_lo (px_lt hP he)]
  have ha := px_w_get (g := g) he
  have hD := px_D_ok g w
  refine W.zast hM.1 hM.2.1 (hP.2.2.1 q _ ha) ((hP.2.2.2.2 1 _ rfl).1 n (fun j => .int (f j))) (fun q => by cases q) (by show ¬ (i < 0 ∨ (arrV _ _ _).slots.size ≤ _); rw [arrV_size]; exact hin) rfl rfl hdg fun H1 e z oq => ?_
  refine kk p _ R s m args below meth c H1 _ ls hM (hP.setc (hP.2.2.1.set hD ha ?_ oq) z) (hS.put z oq (hD.2 q _ ha)) hl
  show H1[_]? = some (vp_cell _ _)
  rw [e]
  show some (Cell.setSlot (vp_cell _ (n, .inl f)) _ _) = some (vp_cell _ (n, .inl _))
  rw [vp_cell_i, vp_cell_i, arrV_store]
  congr 2
  funext q
  by_cases hq : q = i.toNatClampNeg
  · subst hq
    simp [updV, upd, hx]
  · simp [updV, upd, hq]
theorem r_aastore {q n a ci : Nat} {vs : List Value} {f : Nat → Option Nat} {i : Int32} {c' : px_C} (hdg : decode cc pc = .ok (.aastore, 1)) (hp : pc + 1 = pc') (he : w[q]? = some (.inl (2, n, .inr (.inr (.inr (.inr f)))))) (hin : vp_in i n) (hv : w[a]? = some (.inr (ci, vs))) (hci : px_cl[ci]? = some ("GravelWords$Morning", TX0, 3)) (hc' : Sum.inl (2, n, .inr (.inr (.inr (.inr (va_up f i.toNatClampNeg (some a)))))) = c') (kk : Wp g y cc nL rt dp mc ms Z c0 s0 pc' lo st (w.set q c')) : Wp g y cc nL rt dp mc ms Z c0 s0 pc lo (.ref a :: .int i :: .ref q :: st) w := by
  subst hp; subst hc'
  intro p e R s m args below meth c H locs ls hM hP hS hl
  show W p (px_l g) e R s m args below meth c H locs c0 s0 _ (F0 m pc ls (.ref (px_ad g a) :: .int i :: .ref (px_ad g q) :: st.map (px_v g)))
  rw [px_ad_lo (px_lt hP he), px_ad_lo (px_lt hP hv)]
  have ha := px_w_get (g := g) he
  have hD := px_D_ok g w
  have hlt : i.toNatClampNeg < n := Nat.not_le.mp fun q => hin (Or.inr q)
  have h0 : ¬ i < 0 := fun q => hin (Or.inl q)
  obtain ⟨r', hr', cellV, g1, g2, g3, -⟩ := hP.2.2.1 a _ (px_w_get hv)
  have hcls := (hP.2.2.2.1 ci _ hci).2
  obtain ⟨kA, comp, k1, k2, k3, -⟩ := (hP.2.2.2.2 2 _ rfl).2
  have hcomp : comp = (px_D g).1 ci := Option.some.inj (k3.symm.trans hcls.1)
  subst hcomp
  obtain ⟨kC, hkC, -⟩ := hcls.2
  refine W.aast hM.1 hM.2.1 (hP.2.2.1 q _ ha) (fun q h => by cases h) (fun h => by cases h) k1 k2 rfl hkC ⟨h0, by show _ < (arrV _ _ _).slots.size; rw [arrV_size]; exact hlt⟩ g1 (fun q h => by rw [g3] at h; cases h) (by rw [g2]; exact hkC) (by rw [g2]; exact va_assign hcls) rfl rfl hdg fun H1 e z oq => ?_
  refine kk p _ R s m args below meth c H1 _ ls hM (hP.setc (hP.2.2.1.set hD ha ?_ oq) z) (hS.put z oq (hD.2 q _ ha)) hl
  show H1[_]? = some (vp_cell _ _)
  rw [e]
  show some (Cell.setSlot (vp_cell _ (n, .inr (.inr (.inr (.inr _))))) _ _) = some (vp_cell _ (n, .inr (.inr (.inr (.inr _)))))
  rw [vp_cell_q, vp_cell_q, arrV_store]
  congr 2
  funext q
  by_cases hq : q = i.toNatClampNeg
  · subst hq
    simp [updV, va_up, va_rf, px_ad_lo (px_lt hP hv)]
  · simp [updV, va_up, hq]
end H
