/-! both sides' calls over all that each holds -/
theorem XSx.fr {w w' : px_W} {p q : Nat} {T : px_T} {M : px_N} {U : List px_N} {I : Nat → Option px_N} {n : Nat} {tx : Nat → Nat} {tr : Int64} (h : XSx w T M U I n tx tr) (hF : Frm w w' p q) (hk : 60 ≤ p) : XSx w' T M U I n tx tr := by
  obtain ⟨ik, hX, hR, hT, hM, hU, hI, fe, hY⟩ := h
  exact ⟨ik, hF.at hX (by omega), hR.fr hF (by omega), hT.fr hF (by omega), hM.fr hF (by omega), hU.fr hF (by omega), hI.fr hF (by omega), fe, hF.at hY (by omega)⟩
theorem MSx.fr {w w' : px_W} {p q : Nat} {T : px_T} {M : px_N} {U : List px_N} {I : Nat → Option px_N} {n : Nat} {tx : Nat → Nat} {tr : Int64} (h : MSx w T M U I n tx tr) (hF : Frm w w' p q) (hk : q ≤ 60) : MSx w' T M U I n tx tr := by
  obtain ⟨nx, tk, pl, va, fa, h0, hT, hM, hx, hI, hU, hy⟩ := h
  exact ⟨nx, tk, pl, va, fa, hF.at h0 (by omega), hT.fr hF (by omega), hM.fr hF (by omega), hx.fr hF (by omega), hI.fr hF (by omega), hU.fr hF (by omega), hy.fr hF (by omega)⟩
theorem Frm.two {w w' : px_W} {c c' : px_C} (h0 : w[0]? = some c) (h1 : w'[0]? = some c') (hs : ∀ j, 1 ≤ j → (j < 51 ∨ 59 ≤ j) → w'[j]? = w[j]?) : Frm (w.set 0 c') w' 51 59 := fun j hj => by
  rcases Nat.lt_or_ge j 1 with z | z
  · rw [show j = 0 by omega, h1, gs_eq h0]
  · rw [hs j z hj, gs_off (by omega)]
set_option maxHeartbeats 200000 in
theorem cx_type {g : px_G} {w : px_W} {Q : px_Q} {T : px_T} {M : px_N} {U : List px_N} {I : Nat → Option px_N} {n : Nat} {tx : Nat → Nat} {tr : Int64} (hS : XSx w T M U I n tx tr) (hO : TOK T) {a : Int32} (hQ : ∀ w', XSx w' T M U I (typeN n a) (typeX n tx a) tr → Frm w w' 0 60 → Q (some (.int (typeR n a))) w') : Ct g yX6_type cX6_type 2 (some .int) 3 0 0 [.ref 0, .int a] w Q := by
  obtain ⟨ik, hX, hR, hT, hM, hU, hI, fe, hY⟩ := id hS
  exact ct_X6_type hX hR (fun w' h1 hF => hQ w' ⟨ik, hF.at hX (by omega), h1, hT.fr hF (by omega), hM.fr hF (by omega), hU.fr hF (by omega), hI.fr hF (by omega), fe, hF.at hY (by omega)⟩ (hF.mono (by omega) (by omega)))
set_option maxHeartbeats 200000 in
theorem cx_clear {g : px_G} {w : px_W} {Q : px_Q} {T : px_T} {M : px_N} {U : List px_N} {I : Nat → Option px_N} {n : Nat} {tx : Nat → Nat} {tr : Int64} (hS : XSx w T M U I n tx tr) (hO : TOK T) (hQ : ∀ w', XSx w' T M U I 0 tx tr → Frm w w' 0 60 → Q (some (.int (nI n))) w') : Ct g yX6_clear cX6_clear 2 (some .int) 1 0 0 [.ref 0] w Q := by
  obtain ⟨ik, hX, hR, hT, hM, hU, hI, fe, hY⟩ := id hS
  exact ct_X6_clear hX hR (fun w' h1 hF => hQ w' ⟨ik, hF.at hX (by omega), h1, hT.fr hF (by omega), hM.fr hF (by omega), hU.fr hF (by omega), hI.fr hF (by omega), fe, hF.at hY (by omega)⟩ (hF.mono (by omega) (by omega)))
set_option maxHeartbeats 200000 in
theorem cx_word {g : px_G} {w : px_W} {Q : px_Q} {T : px_T} {M : px_N} {U : List px_N} {I : Nat → Option px_N} {n : Nat} {tx : Nat → Nat} {tr : Int64} (hS : XSx w T M U I n tx tr) (hO : TOK T) {a b : Int32} (hQ : ∀ w', XSx w' T M U I n tx tr → Frm w w' 0 60 → Q (some (.int (wordR T a b))) w') : Ct g yX6_word cX6_word 3 (some .int) 7 0 0 [.ref 0, .int a, .int b] w Q := by
  obtain ⟨ik, hX, hR, hT, hM, hU, hI, fe, hY⟩ := id hS
  exact ct_X6_word hX hT hO hM (hQ w hS Frm.rf)
set_option maxHeartbeats 200000 in
theorem cm_word {g : px_G} {w : px_W} {Q : px_Q} {T : px_T} {M : px_N} {U : List px_N} {I : Nat → Option px_N} {n : Nat} {tx : Nat → Nat} {tr : Int64} (hS : MSx w T M U I n tx tr) (hO : TOK T) {a b : Int32} (hQ : ∀ w', MSx w' T M U I n tx tr → Frm w w' 60 76 → Q (some (.int (wordR T a b))) w') : Ct g yX7_word cX7_word 4 (some .int) 4 0 0 [.ref 60, .int a, .int b] w Q := by
  obtain ⟨nx, tk, pl, va, fa, hX, hT, hM, hx, hI, hU, hy⟩ := id hS
  exact ct_X7_word hX hT hO hM (hQ w hS Frm.rf)
set_option maxHeartbeats 200000 in
theorem cx_letter {g : px_G} {w : px_W} {Q : px_Q} {T : px_T} {M : px_N} {U : List px_N} {I : Nat → Option px_N} {n : Nat} {tx : Nat → Nat} {tr : Int64} (hS : XSx w T M U I n tx tr) (hO : TOK T) {a b : Int32} (hQ : ∀ w', XSx w' T M U I n tx tr → Frm w w' 0 60 → Q (some (.int (letterR T a b))) w') : Ct g yX6_letter cX6_letter 3 (some .int) 4 0 0 [.ref 0, .int a, .int b] w Q := by
  obtain ⟨ik, hX, hR, hT, hM, hU, hI, fe, hY⟩ := id hS
  exact ct_X6_letter hX hT hO hM (hQ w hS Frm.rf)
set_option maxHeartbeats 200000 in
theorem cm_letter {g : px_G} {w : px_W} {Q : px_Q} {T : px_T} {M : px_N} {U : List px_N} {I : Nat → Option px_N} {n : Nat} {tx : Nat → Nat} {tr : Int64} (hS : MSx w T M U I n tx tr) (hO : TOK T) {a b : Int32} (hQ : ∀ w', MSx w' T M U I n tx tr → Frm w w' 60 76 → Q (some (.int (letterR T a b))) w') : Ct g yX7_letter cX7_letter 3 (some .int) 3 0 0 [.ref 60, .int a, .int b] w Q := by
  obtain ⟨nx, tk, pl, va, fa, hX, hT, hM, hx, hI, hU, hy⟩ := id hS
  exact ct_X7_letter hX hT hO hM (hQ w hS Frm.rf)
set_option maxHeartbeats 200000 in
theorem cx_drive {g : px_G} {w : px_W} {Q : px_Q} {T : px_T} {M : px_N} {U : List px_N} {I : Nat → Option px_N} {n : Nat} {tx : Nat → Nat} {tr : Int64} (hS : XSx w T M U I n tx tr) (hO : TOK T) {a b : Int32} (hQ : ∀ w', XSx w' T M U I n tx tr → Frm w w' 0 60 → Q (some (.int (driveR T M a b))) w') : Ct g yX6_drive cX6_drive 3 (some .int) 7 0 0 [.ref 0, .int a, .int b] w Q := by
  obtain ⟨ik, hX, hR, hT, hM, hU, hI, fe, hY⟩ := id hS
  exact ct_X6_drive hX hT hO hM (hQ w hS Frm.rf)
set_option maxHeartbeats 200000 in
theorem cx_cell {g : px_G} {w : px_W} {Q : px_Q} {T : px_T} {M : px_N} {U : List px_N} {I : Nat → Option px_N} {n : Nat} {tx : Nat → Nat} {tr : Int64} (hS : XSx w T M U I n tx tr) (hO : TOK T) {a b : Int32} (hQ : ∀ w', XSx w' T M U I n tx tr → Frm w w' 0 60 → Q (some (.int (cellR T M a b))) w') : Ct g yX6_cell cX6_cell 3 (some .int) 4 0 0 [.ref 0, .int a, .int b] w Q := by
  obtain ⟨ik, hX, hR, hT, hM, hU, hI, fe, hY⟩ := id hS
  exact ct_X6_cell hX hT hO hM (hQ w hS Frm.rf)
set_option maxHeartbeats 200000 in
theorem cm_cell {g : px_G} {w : px_W} {Q : px_Q} {T : px_T} {M : px_N} {U : List px_N} {I : Nat → Option px_N} {n : Nat} {tx : Nat → Nat} {tr : Int64} (hS : MSx w T M U I n tx tr) (hO : TOK T) {a b : Int32} (hQ : ∀ w', MSx w' T M U I n tx tr → Frm w w' 60 76 → Q (some (.int (cellR T M a b))) w') : Ct g yX7_cell cX7_cell 3 (some .int) 3 0 0 [.ref 60, .int a, .int b] w Q := by
  obtain ⟨nx, tk, pl, va, fa, hX, hT, hM, hx, hI, hU, hy⟩ := id hS
  exact ct_X7_cell hX hT hO hM (hQ w hS Frm.rf)
set_option maxHeartbeats 200000 in
theorem cx_goer {g : px_G} {w : px_W} {Q : px_Q} {T : px_T} {M : px_N} {U : List px_N} {I : Nat → Option px_N} {n : Nat} {tx : Nat → Nat} {tr : Int64} (hS : XSx w T M U I n tx tr) (hO : TOK T) {a b : Int32} (hQ : ∀ w', XSx w' T M U I n tx tr → Frm w w' 0 60 → Q (some (.int (goerR T a b))) w') : Ct g yX6_goer cX6_goer 3 (some .int) 3 0 0 [.ref 0, .int a, .int b] w Q := by
  obtain ⟨ik, hX, hR, hT, hM, hU, hI, fe, hY⟩ := id hS
  exact ct_X6_goer hX hT hO hM (hQ w hS Frm.rf)
set_option maxHeartbeats 200000 in
theorem cm_goer {g : px_G} {w : px_W} {Q : px_Q} {T : px_T} {M : px_N} {U : List px_N} {I : Nat → Option px_N} {n : Nat} {tx : Nat → Nat} {tr : Int64} (hS : MSx w T M U I n tx tr) (hO : TOK T) {a b : Int32} (hQ : ∀ w', MSx w' T M U I n tx tr → Frm w w' 60 76 → Q (some (.int (goerR T a b))) w') : Ct g yX7_goer cX7_goer 3 (some .int) 2 0 0 [.ref 60, .int a, .int b] w Q := by
  obtain ⟨nx, tk, pl, va, fa, hX, hT, hM, hx, hI, hU, hy⟩ := id hS
  exact ct_X7_goer hX hT hO hM (hQ w hS Frm.rf)
set_option maxHeartbeats 200000 in
theorem cx_rakes {g : px_G} {w : px_W} {Q : px_Q} {T : px_T} {M : px_N} {U : List px_N} {I : Nat → Option px_N} {n : Nat} {tx : Nat → Nat} {tr : Int64} (hS : XSx w T M U I n tx tr) (hO : TOK T) {a b : Int32} (hQ : ∀ w', XSx w' T (rakesM T M a b) (rakesU T M U a b) I n tx tr → Frm w w' 0 60 → Q (some (.int (rakesR T a b))) w') : Ct g yX6_rakes cX6_rakes 5 (some .int) 5 0 0 [.ref 0, .int a, .int b] w Q := by
  obtain ⟨ik, hX, hR, hT, hM, hU, hI, fe, hY⟩ := id hS
  exact ct_X6_rakes hX hT hO hM hU (fun w' h1 h2 hF => hQ w' ⟨ik, hF.at hX (by omega), hR.fr hF (by omega), hT.fr hF (by omega), h1, h2, hI.fr hF (by omega), fe, hF.at hY (by omega)⟩ (hF.mono (by omega) (by omega)))
set_option maxHeartbeats 200000 in
theorem cx_treads {g : px_G} {w : px_W} {Q : px_Q} {T : px_T} {M : px_N} {U : List px_N} {I : Nat → Option px_N} {n : Nat} {tx : Nat → Nat} {tr : Int64} (hS : XSx w T M U I n tx tr) (hO : TOK T) {a b c : Int32} (hQ : ∀ w', XSx w' T (treadsM T M a b c) (treadsU T M U a b c) I n tx tr → Frm w w' 0 60 → Q (some (.int (treadsR T M a b c))) w') : Ct g yX6_treads cX6_treads 4 (some .int) 5 0 0 [.ref 0, .int a, .int b, .int c] w Q := by
  obtain ⟨ik, hX, hR, hT, hM, hU, hI, fe, hY⟩ := id hS
  exact ct_X6_treads hX hT hO hM hU (fun w' h1 h2 hF => hQ w' ⟨ik, hF.at hX (by omega), hR.fr hF (by omega), hT.fr hF (by omega), h1, h2, hI.fr hF (by omega), fe, hF.at hY (by omega)⟩ (hF.mono (by omega) (by omega)))
set_option maxHeartbeats 200000 in
theorem cx_cat {g : px_G} {w : px_W} {Q : px_Q} {T : px_T} {M : px_N} {U : List px_N} {I : Nat → Option px_N} {n : Nat} {tx : Nat → Nat} {tr : Int64} (hS : XSx w T M U I n tx tr) (hO : TOK T) {a b : Int32} (hQ : ∀ w', XSx w' T (catM T M a b) (catU T M U a b) I n tx tr → Frm w w' 0 60 → Q (some (.int (catR T M a b))) w') : Ct g yX6_cat cX6_cat 3 (some .int) 5 0 0 [.ref 0, .int a, .int b] w Q := by
  obtain ⟨ik, hX, hR, hT, hM, hU, hI, fe, hY⟩ := id hS
  exact ct_X6_cat hX hT hO hM hU (fun w' h1 h2 hF => hQ w' ⟨ik, hF.at hX (by omega), hR.fr hF (by omega), hT.fr hF (by omega), h1, h2, hI.fr hF (by omega), fe, hF.at hY (by omega)⟩ (hF.mono (by omega) (by omega)))
set_option maxHeartbeats 200000 in
theorem cx_rains {g : px_G} {w : px_W} {Q : px_Q} {T : px_T} {M : px_N} {U : List px_N} {I : Nat → Option px_N} {n : Nat} {tx : Nat → Nat} {tr : Int64} (hS : XSx w T M U I n tx tr) (hO : TOK T) (hQ : ∀ w', XSx w' T (nRain M) (note M U) I n tx tr → Frm w w' 0 60 → Q (some (.int (nI (rainN M 32)))) w') : Ct g yX6_rains cX6_rains 1 (some .int) 5 0 0 [.ref 0] w Q := by
  obtain ⟨ik, hX, hR, hT, hM, hU, hI, fe, hY⟩ := id hS
  exact ct_X6_rains hX hT hO hM hU (fun w' h1 h2 hF => hQ w' ⟨ik, hF.at hX (by omega), hR.fr hF (by omega), hT.fr hF (by omega), h1, h2, hI.fr hF (by omega), fe, hF.at hY (by omega)⟩ (hF.mono (by omega) (by omega)))
set_option maxHeartbeats 200000 in
theorem cx_hour {g : px_G} {w : px_W} {Q : px_Q} {T : px_T} {M : px_N} {U : List px_N} {I : Nat → Option px_N} {n : Nat} {tx : Nat → Nat} {tr : Int64} (hS : XSx w T M U I n tx tr) (hO : TOK T) (hQ : ∀ w', XSx w' T (hourM T M) (hourU M U) I n tx tr → Frm w w' 0 60 → Q (some (.int (hourR T M))) w') : Ct g yX6_hour cX6_hour 3 (some .int) 5 0 0 [.ref 0] w Q := by
  obtain ⟨ik, hX, hR, hT, hM, hU, hI, fe, hY⟩ := id hS
  exact ct_X6_hour hX hT hO hM hU (fun w' h1 h2 hF => hQ w' ⟨ik, hF.at hX (by omega), hR.fr hF (by omega), hT.fr hF (by omega), h1, h2, hI.fr hF (by omega), fe, hF.at hY (by omega)⟩ (hF.mono (by omega) (by omega)))
set_option maxHeartbeats 200000 in
theorem cx_undo {g : px_G} {w : px_W} {Q : px_Q} {T : px_T} {M : px_N} {U : List px_N} {I : Nat → Option px_N} {n : Nat} {tx : Nat → Nat} {tr : Int64} (hS : XSx w T M U I n tx tr) (hO : TOK T) (hQ : ∀ w', XSx w' T (undoM M U) (undoU U) I n tx tr → Frm w w' 0 60 → Q (some (.int (undoR U))) w') : Ct g yX6_undo cX6_undo 1 (some .int) 5 0 0 [.ref 0] w Q := by
  obtain ⟨ik, hX, hR, hT, hM, hU, hI, fe, hY⟩ := id hS
  exact ct_X6_undo hX hT hO hM hU (fun w' h1 h2 hF => hQ w' ⟨ik, hF.at hX (by omega), hR.fr hF (by omega), hT.fr hF (by omega), h1, h2, hI.fr hF (by omega), fe, hF.at hY (by omega)⟩ (hF.mono (by omega) (by omega)))
set_option maxHeartbeats 200000 in
theorem cx_likely {g : px_G} {w : px_W} {Q : px_Q} {T : px_T} {M : px_N} {U : List px_N} {I : Nat → Option px_N} {n : Nat} {tx : Nat → Nat} {tr : Int64} (hS : XSx w T M U I n tx tr) (hO : TOK T) {a b c : Int32} (hQ : ∀ w', XSx w' T M U I n tx tr → Frm w w' 0 60 → Q (some (.int (likelyR T M a b c))) w') : Ct g yX6_likely cX6_likely 8 (some .int) 6 0 0 [.ref 0, .int a, .int b, .int c] w Q := by
  obtain ⟨ik, hX, hR, hT, hM, hU, hI, fe, hY⟩ := id hS
  exact ct_X6_likely hX hT hO hM (hQ w hS Frm.rf)
set_option maxHeartbeats 200000 in
theorem cm_likely {g : px_G} {w : px_W} {Q : px_Q} {T : px_T} {M : px_N} {U : List px_N} {I : Nat → Option px_N} {n : Nat} {tx : Nat → Nat} {tr : Int64} (hS : MSx w T M U I n tx tr) (hO : TOK T) {a b c : Int32} (hQ : ∀ w', MSx w' T M U I n tx tr → Frm w w' 60 76 → Q (some (.int (likelyR T M a b c))) w') : Ct g yX7_likely cX7_likely 7 (some .int) 4 0 0 [.ref 60, .int a, .int b, .int c] w Q := by
  obtain ⟨nx, tk, pl, va, fa, hX, hT, hM, hx, hI, hU, hy⟩ := id hS
  exact ct_X7_likely hX hT hO hM (hQ w hS Frm.rf)
set_option maxHeartbeats 200000 in
theorem cx_spoil {g : px_G} {w : px_W} {Q : px_Q} {T : px_T} {M : px_N} {U : List px_N} {I : Nat → Option px_N} {n : Nat} {tx : Nat → Nat} {tr : Int64} (hS : XSx w T M U I n tx tr) (hO : TOK T) {a b c : Int32} (hQ : ∀ w', XSx w' T M U I n tx tr → Frm w w' 0 60 → Q (some (.int (spoilR T M a b c))) w') : Ct g yX6_spoil cX6_spoil 9 (some .int) 5 0 0 [.ref 0, .int a, .int b, .int c] w Q := by
  obtain ⟨ik, hX, hR, hT, hM, hU, hI, fe, hY⟩ := id hS
  exact ct_X6_spoil hX hT hO hM (hQ w hS Frm.rf)
set_option maxHeartbeats 200000 in
theorem cm_spoil {g : px_G} {w : px_W} {Q : px_Q} {T : px_T} {M : px_N} {U : List px_N} {I : Nat → Option px_N} {n : Nat} {tx : Nat → Nat} {tr : Int64} (hS : MSx w T M U I n tx tr) (hO : TOK T) {a b c : Int32} (hQ : ∀ w', MSx w' T M U I n tx tr → Frm w w' 60 76 → Q (some (.int (spoilR T M a b c))) w') : Ct g yX7_spoil cX7_spoil 8 (some .int) 3 0 0 [.ref 60, .int a, .int b, .int c] w Q := by
  obtain ⟨nx, tk, pl, va, fa, hX, hT, hM, hx, hI, hU, hy⟩ := id hS
  exact ct_X7_spoil hX hT hO hM (hQ w hS Frm.rf)
set_option maxHeartbeats 200000 in
theorem cx_round {g : px_G} {w : px_W} {Q : px_Q} {T : px_T} {M : px_N} {U : List px_N} {I : Nat → Option px_N} {n : Nat} {tx : Nat → Nat} {tr : Int64} (hS : XSx w T M U I n tx tr) (hO : TOK T) {a : Int32} (hQ : ∀ w', XSx w' T M U I n tx tr → Frm w w' 0 60 → Q (some (.int (roundR T M a))) w') : Ct g yX6_round cX6_round 4 (some .int) 31 0 0 [.ref 0, .int a] w Q := by
  obtain ⟨ik, hX, hR, hT, hM, hU, hI, fe, hY⟩ := id hS
  exact ct_X6_round hX hT hO hM hY (fun w' h1 hF => hQ w' ⟨ik, hF.at hX (by omega), hR.fr hF (by omega), hT.fr hF (by omega), hM.fr hF (by omega), hU.fr hF (by omega), hI.fr hF (by omega), h1⟩ (hF.mono (by omega) (by omega)))
set_option maxHeartbeats 200000 in
theorem cm_round {g : px_G} {w : px_W} {Q : px_Q} {T : px_T} {M : px_N} {U : List px_N} {I : Nat → Option px_N} {n : Nat} {tx : Nat → Nat} {tr : Int64} (hS : MSx w T M U I n tx tr) (hO : TOK T) {a : Int32} (hQ : ∀ w', MSx w' T M U I n tx tr → Frm w w' 60 76 → Q (some (.int (roundR T M a))) w') : Ct g yX7_round cX7_round 6 (some .int) 5 0 0 [.ref 60, .int a] w Q := by
  obtain ⟨nx, tk, pl, va, fa, hX, hT, hM, hx, hI, hU, hy⟩ := id hS
  exact ct_X7_round hX hT hO hM (hQ w hS Frm.rf)
set_option maxHeartbeats 200000 in
theorem cx_odds {g : px_G} {w : px_W} {Q : px_Q} {T : px_T} {M : px_N} {U : List px_N} {I : Nat → Option px_N} {n : Nat} {tx : Nat → Nat} {tr : Int64} (hS : XSx w T M U I n tx tr) (hO : TOK T) {a b c : Int32} (hQ : ∀ w', XSx w' T M U I n tx tr → Frm w w' 0 60 → Q (some (.int (oddsR T M a b c))) w') : Ct g yX6_odds cX6_odds 8 (some .int) 6 0 0 [.ref 0, .int a, .int b, .int c] w Q := by
  obtain ⟨ik, hX, hR, hT, hM, hU, hI, fe, hY⟩ := id hS
  exact ct_X6_odds hX hT hO hM (hQ w hS Frm.rf)
set_option maxHeartbeats 200000 in
theorem cm_odds {g : px_G} {w : px_W} {Q : px_Q} {T : px_T} {M : px_N} {U : List px_N} {I : Nat → Option px_N} {n : Nat} {tx : Nat → Nat} {tr : Int64} (hS : MSx w T M U I n tx tr) (hO : TOK T) {a b c : Int32} (hQ : ∀ w', MSx w' T M U I n tx tr → Frm w w' 60 76 → Q (some (.int (oddsR T M a b c))) w') : Ct g yX7_odds cX7_odds 8 (some .int) 3 0 0 [.ref 60, .int a, .int b, .int c] w Q := by
  obtain ⟨nx, tk, pl, va, fa, hX, hT, hM, hx, hI, hU, hy⟩ := id hS
  exact ct_X7_odds hX hT hO hM (hQ w hS Frm.rf)
set_option maxHeartbeats 200000 in
theorem cx_rate {g : px_G} {w : px_W} {Q : px_Q} {T : px_T} {M : px_N} {U : List px_N} {I : Nat → Option px_N} {n : Nat} {tx : Nat → Nat} {tr : Int64} (hS : XSx w T M U I n tx tr) (hO : TOK T) {a b : Int32} (hQ : ∀ w', XSx w' T M U I n tx (rateT T tr a b) → Frm w w' 0 60 → Q (some (.int (rateR T M a b))) w') : Ct g yX6_rate cX6_rate 3 (some .int) 7 0 0 [.ref 0, .int a, .int b] w Q := by
  obtain ⟨ik, hX, hR, hT, hM, hU, hI, fe, hY⟩ := id hS
  have hF : Frm w (w.set 0 (xobj ik (rateT T tr a b))) 0 1 := Frm.set (by omega) (by omega)
  exact ct_X6_rate hX hT hO hM (hQ _ ⟨ik, gs_eq hX, hR.fr hF (by omega), hT.fr hF (by omega), hM.fr hF (by omega), hU.fr hF (by omega), hI.fr hF (by omega), fe, hF.at hY (by omega)⟩ (hF.mono (by omega) (by omega)))
set_option maxHeartbeats 200000 in
theorem cx_keep {g : px_G} {w : px_W} {Q : px_Q} {T : px_T} {M : px_N} {U : List px_N} {I : Nat → Option px_N} {n : Nat} {tx : Nat → Nat} {tr : Int64} (hS : XSx w T M U I n tx tr) (hO : TOK T) {a : Int32} (hQ : ∀ w', XSx w' T M U (keepI M I a) n tx tr → Frm w w' 0 60 → Q (some (.int (keepR M a))) w') : Ct g yX6_keep cX6_keep 2 (some .int) 4 0 0 [.ref 0, .int a] w Q := by
  obtain ⟨ik, hX, hR, hT, hM, hU, hI, fe, hY⟩ := id hS
  refine ct_X6_keep hX hT hO hM hU hI (fun w' ik' h1 h2 hs => ?_)
  have hF : Frm w (w.set 0 (xobj ik' tr)) 0 1 := Frm.set (by omega) (by omega)
  have hG := Frm.two hX h1 hs
  exact hQ w' ⟨ik', h1, (hR.fr hF (by omega)).fr hG (by omega), (hT.fr hF (by omega)).fr hG (by omega), (hM.fr hF (by omega)).fr hG (by omega), (hU.fr hF (by omega)).fr hG (by omega), h2, fe, hG.at (hF.at hY (by omega)) (by omega)⟩ (hF.tr (a := 0) (b := 60) hG (by omega) (by omega) (by omega) (by omega))
set_option maxHeartbeats 200000 in
theorem cx_back {g : px_G} {w : px_W} {Q : px_Q} {T : px_T} {M : px_N} {U : List px_N} {I : Nat → Option px_N} {n : Nat} {tx : Nat → Nat} {tr : Int64} (hS : XSx w T M U I n tx tr) (hO : TOK T) {a : Int32} (hQ : ∀ w', XSx w' T (backM M I a) (backU U I a) I n tx tr → Frm w w' 0 60 → Q (some (.int (backR I a))) w') : Ct g yX6_back cX6_back 2 (some .int) 4 0 0 [.ref 0, .int a] w Q := by
  obtain ⟨ik, hX, hR, hT, hM, hU, hI, fe, hY⟩ := id hS
  exact ct_X6_back hX hT hO hM hU hI (fun w' h1 h2 hF => hQ w' ⟨ik, hF.at hX (by omega), hR.fr hF (by omega), hT.fr hF (by omega), h1, h2, hI.fr hF (by omega), fe, hF.at hY (by omega)⟩ (hF.mono (by omega) (by omega)))
set_option maxHeartbeats 200000 in
theorem cx_count {g : px_G} {w : px_W} {Q : px_Q} {T : px_T} {M : px_N} {U : List px_N} {I : Nat → Option px_N} {n : Nat} {tx : Nat → Nat} {tr : Int64} (hS : XSx w T M U I n tx tr) (hO : TOK T) {a : Int32} (hQ : ∀ w', XSx w' T M U I n tx tr → Frm w w' 0 60 → Q (some (.int (countR T M U.length n a))) w') : Ct g yX6_count cX6_count 2 (some .int) 1 0 0 [.ref 0, .int a] w Q := by
  obtain ⟨ik, hX, hR, hT, hM, hU, hI, fe, hY⟩ := id hS
  exact ct_X6_count hX hT hO hM hU hR (hQ w hS Frm.rf)
set_option maxHeartbeats 200000 in
theorem cx_trace {g : px_G} {w : px_W} {Q : px_Q} {T : px_T} {M : px_N} {U : List px_N} {I : Nat → Option px_N} {n : Nat} {tx : Nat → Nat} {tr : Int64} (hS : XSx w T M U I n tx tr) (hO : TOK T) (hQ : ∀ w', XSx w' T M U I n tx tr → Frm w w' 0 60 → Q (some (.long tr)) w') : Ct g yX6_trace cX6_trace 1 (some .long) 1 0 0 [.ref 0] w Q := by
  obtain ⟨ik, hX, hR, hT, hM, hU, hI, fe, hY⟩ := id hS
  exact ct_X6_trace hX hT hO hM (hQ w hS Frm.rf)
/-- class and reference hold the same -/
def PS (w : px_W) : Prop := ∃ (T : px_T) (M : px_N) (U : List px_N) (I : Nat → Option px_N) (n : Nat) (tx : Nat → Nat) (tr : Int64), XSx w T M U I n tx tr ∧ MSx w T M U I n tx tr ∧ TOK T
