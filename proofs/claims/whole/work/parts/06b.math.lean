section MM
variable {g : px_G} {y : MethodName} {cc : ByteArray} {nL : Nat} {rt : Option FieldType} {dp mc ms : Nat} {Z : px_Z} {c0 s0 pc pc' idx : Nat} {lo : List (Option Value)} {st : List Value} {w : px_W}
theorem r_mmax {x z v : Int32} (hl : Cond.methodLink y.cls idx Lib.Math.max.name ∈ gw) (h2 : Cond.static Lib.Math.max.name ∈ gw) (h3 : Cond.initialized "java/lang/Math" ∈ gw) (h4 : Cond.code Lib.Math.max.name Lib.Math.max.code 2 (some .int) ∈ gw) (hdg : decode cc pc = .ok (.invokestatic idx, 3)) (hp : pc + 3 = pc') (hv : (if x < z then z else x) = v) (hb : c0 ≤ mc ∧ s0 ≤ ms) (hcat : (st.map Value.category).sum ≤ 8) (kk : Wp g y cc nL rt dp mc ms Z c0 s0 pc' lo (.int v :: st) w) : Wp g y cc nL rt dp mc ms Z c0 s0 pc lo (.int z :: .int x :: st) w := by
  subst hp; subst hv
  intro p e R s m args below meth c H locs ls hM hP hS hlo
  have hk2 := kk p e R s m args below meth c H locs ls hM hP hS hlo
  obtain ⟨hx, hbc, hml, hr, hown, hts, hlocks, hin, hsS, hbase, hd1, hf, hlc, hmc, hms⟩ := hM
  exact va_mmax hx hbc (by rw [hml]; exact hlo.1.symm) hown (hts _ hl) (hts _ h2) (hts _ h3) (hts _ h4) (Nat.le_trans hd1 hf) (by rw [px_cats]; omega) (Nat.le_trans hb.1 hmc) (Nat.le_trans hb.2 hms) hdg hk2
theorem r_mmin {x z v : Int32} (hl : Cond.methodLink y.cls idx Lib.Math.min.name ∈ gw) (h2 : Cond.static Lib.Math.min.name ∈ gw) (h3 : Cond.initialized "java/lang/Math" ∈ gw) (h4 : Cond.code Lib.Math.min.name Lib.Math.min.code 2 (some .int) ∈ gw) (hdg : decode cc pc = .ok (.invokestatic idx, 3)) (hp : pc + 3 = pc') (hv : (if z < x then z else x) = v) (hb : c0 ≤ mc ∧ s0 ≤ ms) (hcat : (st.map Value.category).sum ≤ 8) (kk : Wp g y cc nL rt dp mc ms Z c0 s0 pc' lo (.int v :: st) w) : Wp g y cc nL rt dp mc ms Z c0 s0 pc lo (.int z :: .int x :: st) w := by
  subst hp; subst hv
  intro p e R s m args below meth c H locs ls hM hP hS hlo
  have hk2 := kk p e R s m args below meth c H locs ls hM hP hS hlo
  obtain ⟨hx, hbc, hml, hr, hown, hts, hlocks, hin, hsS, hbase, hd1, hf, hlc, hmc, hms⟩ := hM
  exact va_mmin hx hbc (by rw [hml]; exact hlo.1.symm) hown (hts _ hl) (hts _ h2) (hts _ h3) (hts _ h4) (Nat.le_trans hd1 hf) (by rw [px_cats]; omega) (Nat.le_trans hb.1 hmc) (Nat.le_trans hb.2 hms) hdg hk2
theorem r_mabs {x v : Int32} (hl : Cond.methodLink y.cls idx Lib.Math.abs.name ∈ gw) (h2 : Cond.static Lib.Math.abs.name ∈ gw) (h3 : Cond.initialized "java/lang/Math" ∈ gw) (h4 : Cond.code Lib.Math.abs.name Lib.Math.abs.code 1 (some .int) ∈ gw) (hdg : decode cc pc = .ok (.invokestatic idx, 3)) (hp : pc + 3 = pc') (hv : (if 0 ≤ x then x else 0 - x) = v) (hb : c0 ≤ mc ∧ s0 ≤ ms) (hcat : (st.map Value.category).sum ≤ 8) (kk : Wp g y cc nL rt dp mc ms Z c0 s0 pc' lo (.int v :: st) w) : Wp g y cc nL rt dp mc ms Z c0 s0 pc lo (.int x :: st) w := by
  subst hp; subst hv
  intro p e R s m args below meth c H locs ls hM hP hS hlo
  have hk2 := kk p e R s m args below meth c H locs ls hM hP hS hlo
  obtain ⟨hx, hbc, hml, hr, hown, hts, hlocks, hin, hsS, hbase, hd1, hf, hlc, hmc, hms⟩ := hM
  exact va_mabs hx hbc (by rw [hml]; exact hlo.1.symm) hown (hts _ hl) (hts _ h2) (hts _ h3) (hts _ h4) (Nat.le_trans hd1 hf) (by rw [px_cats]; omega) (Nat.le_trans hb.1 hmc) (Nat.le_trans hb.2 hms) hdg hk2
end MM
