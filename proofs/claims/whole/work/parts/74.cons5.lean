theorem ws_eq {ws : va_W} {Ω : xW} {σ : xH} (hl : ws.length = (xsh Ω).length) (h : ∀ k e, (xsh Ω)[k]? = some e → ws[k]? = some (xad Ω k, xce (xad Ω) (xcy Ω) σ k e)) : ws = xw Ω σ := by
  apply List.ext_getElem?
  intro k
  cases hk : (xsh Ω)[k]? with
  | none =>
    have h1 := List.getElem?_eq_none_iff.mp hk
    rw [List.getElem?_eq_none (by omega)]
    unfold xw
    rw [List.getElem?_mapIdx, hk]
    rfl
  | some e => rw [h k e hk, xw_get hk]
set_option maxHeartbeats 2000000 in
set_option maxRecDepth 100000 in
theorem we_X4 (cy : Nat → ClassId) (D : va_G) (z : Nat → Nat) (h0 q1 q2 q3 q4 q5 q6 q7 q8 q9 q10 q11 q12 q13 q14 q15 q16 q17 q18 q19 q20 q21 q22 q23 q24 q25 q26 q27 q28 q29 q30 : Nat) : ([(h0, .inr (3, [.ref q1, .ref q7, .ref q13, .ref q19, .ref q21, .ref q30, .int 0])), (q1, .inr (2, [.int 0, .int 3, .int 0, .ref q2, .ref q3, .ref q4, .ref q5, .ref q6])), (q2, .inl (cy 0, 60, .inl (fun _ => 0))), (q3, .inl (cy 0, 60, .inl (fun _ => 0))), (q4, .inl (cy 0, 8, .inl (fun _ => 0))), (q5, .inl (cy 0, 8, .inl (fun _ => 0))), (q6, .inl (cy 0, 8, .inl (fun _ => 0))), (q7, .inr (2, [.int 0, .int 3, .int 0, .ref q8, .ref q9, .ref q10, .ref q11, .ref q12])), (q8, .inl (cy 0, 60, .inl (fun _ => 0))), (q9, .inl (cy 0, 60, .inl (fun _ => 0))), (q10, .inl (cy 0, 8, .inl (fun _ => 0))), (q11, .inl (cy 0, 8, .inl (fun _ => 0))), (q12, .inl (cy 0, 8, .inl (fun _ => 0))), (q13, .inr (2, [.int 0, .int 3, .int 0, .ref q14, .ref q15, .ref q16, .ref q17, .ref q18])), (q14, .inl (cy 0, 60, .inl (fun _ => 0))), (q15, .inl (cy 0, 60, .inl (fun _ => 0))), (q16, .inl (cy 0, 8, .inl (fun _ => 0))), (q17, .inl (cy 0, 8, .inl (fun _ => 0))), (q18, .inl (cy 0, 8, .inl (fun _ => 0))), (q19, .inr (1, [.ref q20, .int 0, .int 0, .int 0, .int 0, .int 0])), (q20, .inl (cy 0, 120, .inl (fun _ => 0))), (q21, .inl (cy 2, 4, .inr (.inr (.inr (.inr (fun j => some (zA [h0, q1, q2, q3, q4, q5, q6, q7, q8, q9, q10, q11, q12, q13, q14, q15, q16, q17, q18, q19, q20, q21, q22, q23, q24, q25, q26, q27, q28, q29, q30] z (22 + 2 * j)))))))), (q22, .inr (0, [.int 0, .int 0, .ref q23])), (q23, .inl (cy 1, 40, .inr (.inl (fun _ => 0)))), (q24, .inr (0, [.int 0, .int 0, .ref q25])), (q25, .inl (cy 1, 40, .inr (.inl (fun _ => 0)))), (q26, .inr (0, [.int 0, .int 0, .ref q27])), (q27, .inl (cy 1, 40, .inr (.inl (fun _ => 0)))), (q28, .inr (0, [.int 0, .int 0, .ref q29])), (q29, .inl (cy 1, 40, .inr (.inl (fun _ => 0)))), (q30, .inl (cy 0, 7, .inl (fun _ => 0)))] : va_W) = xw (oC (zA [h0, q1, q2, q3, q4, q5, q6, q7, q8, q9, q10, q11, q12, q13, q14, q15, q16, q17, q18, q19, q20, q21, q22, q23, q24, q25, q26, q27, q28, q29, q30] z) D cy) s0C := by
  refine ws_eq rfl (fun k e hk => ?_)
  match k, hk with
  | 0, hk => cases hk; rfl
  | 1, hk => cases hk; rfl
  | 2, hk => cases hk; rfl
  | 3, hk => cases hk; rfl
  | 4, hk => cases hk; rfl
  | 5, hk => cases hk; rfl
  | 6, hk => cases hk; rfl
  | 7, hk => cases hk; rfl
  | 8, hk => cases hk; rfl
  | 9, hk => cases hk; rfl
  | 10, hk => cases hk; rfl
  | 11, hk => cases hk; rfl
  | 12, hk => cases hk; rfl
  | 13, hk => cases hk; rfl
  | 14, hk => cases hk; rfl
  | 15, hk => cases hk; rfl
  | 16, hk => cases hk; rfl
  | 17, hk => cases hk; rfl
  | 18, hk => cases hk; rfl
  | 19, hk => cases hk; rfl
  | 20, hk => cases hk; rfl
  | 21, hk => cases hk; rfl
  | 22, hk => cases hk; rfl
  | 23, hk => cases hk; rfl
  | 24, hk => cases hk; rfl
  | 25, hk => cases hk; rfl
  | 26, hk => cases hk; rfl
  | 27, hk => cases hk; rfl
  | 28, hk => cases hk; rfl
  | 29, hk => cases hk; rfl
  | 30, hk => cases hk; rfl
  | k + 31, hk => exact absurd (List.getElem?_eq_some_iff.mp hk).1 (Nat.not_lt.mpr (Nat.le_add_left _ _))
theorem wx_X4 {cy : Nat → ClassId} {D : va_G} (z : Nat → Nat) {h0 : Nat} {ws : va_W} (hw : ∃ q1 q2 q3 q4 q5 q6 q7 q8 q9 q10 q11 q12 q13 q14 q15 q16 q17 q18 q19 q20 q21 q22 q23 q24 q25 q26 q27 q28 q29 q30 : Nat, ws = [(h0, .inr (3, [.ref q1, .ref q7, .ref q13, .ref q19, .ref q21, .ref q30, .int 0])), (q1, .inr (2, [.int 0, .int 3, .int 0, .ref q2, .ref q3, .ref q4, .ref q5, .ref q6])), (q2, .inl (cy 0, 60, .inl (fun _ => 0))), (q3, .inl (cy 0, 60, .inl (fun _ => 0))), (q4, .inl (cy 0, 8, .inl (fun _ => 0))), (q5, .inl (cy 0, 8, .inl (fun _ => 0))), (q6, .inl (cy 0, 8, .inl (fun _ => 0))), (q7, .inr (2, [.int 0, .int 3, .int 0, .ref q8, .ref q9, .ref q10, .ref q11, .ref q12])), (q8, .inl (cy 0, 60, .inl (fun _ => 0))), (q9, .inl (cy 0, 60, .inl (fun _ => 0))), (q10, .inl (cy 0, 8, .inl (fun _ => 0))), (q11, .inl (cy 0, 8, .inl (fun _ => 0))), (q12, .inl (cy 0, 8, .inl (fun _ => 0))), (q13, .inr (2, [.int 0, .int 3, .int 0, .ref q14, .ref q15, .ref q16, .ref q17, .ref q18])), (q14, .inl (cy 0, 60, .inl (fun _ => 0))), (q15, .inl (cy 0, 60, .inl (fun _ => 0))), (q16, .inl (cy 0, 8, .inl (fun _ => 0))), (q17, .inl (cy 0, 8, .inl (fun _ => 0))), (q18, .inl (cy 0, 8, .inl (fun _ => 0))), (q19, .inr (1, [.ref q20, .int 0, .int 0, .int 0, .int 0, .int 0])), (q20, .inl (cy 0, 120, .inl (fun _ => 0))), (q21, .inl (cy 2, 4, .inr (.inr (.inr (.inr (va_up (va_up (va_up (va_up (fun _ => none) 0 (some q22)) 1 (some q24)) 2 (some q26)) 3 (some q28))))))), (q22, .inr (0, [.int 0, .int 0, .ref q23])), (q23, .inl (cy 1, 40, .inr (.inl (fun _ => 0)))), (q24, .inr (0, [.int 0, .int 0, .ref q25])), (q25, .inl (cy 1, 40, .inr (.inl (fun _ => 0)))), (q26, .inr (0, [.int 0, .int 0, .ref q27])), (q27, .inl (cy 1, 40, .inr (.inl (fun _ => 0)))), (q28, .inr (0, [.int 0, .int 0, .ref q29])), (q29, .inl (cy 1, 40, .inr (.inl (fun _ => 0)))), (q30, .inl (cy 0, 7, .inl (fun _ => 0)))]) : ∃ ad : Nat → Nat, ad 0 = h0 ∧ (∀ k, 31 ≤ k → ad k = z k) ∧ (∀ H, va_P D vwCl ws H → va_P D vwCl (xw (oC ad D cy) s0C) H) ∧ ∀ A, va_D A ws → va_D A (xw (oC ad D cy) s0C) := by
  obtain ⟨q1, q2, q3, q4, q5, q6, q7, q8, q9, q10, q11, q12, q13, q14, q15, q16, q17, q18, q19, q20, q21, q22, q23, q24, q25, q26, q27, q28, q29, q30, rfl⟩ := hw
  refine ⟨zA [h0, q1, q2, q3, q4, q5, q6, q7, q8, q9, q10, q11, q12, q13, q14, q15, q16, q17, q18, q19, q20, q21, q22, q23, q24, q25, q26, q27, q28, q29, q30] z, rfl, fun k hk => zA_ge (by exact hk), fun H h => ?_, fun A h => ?_⟩
  · rw [← we_X4 cy D z]
    exact va_ext (q0 := 21) (g := fun j => some (zA [h0, q1, q2, q3, q4, q5, q6, q7, q8, q9, q10, q11, q12, q13, q14, q15, q16, q17, q18, q19, q20, q21, q22, q23, q24, q25, q26, q27, q28, q29, q30] z (22 + 2 * j))) h rfl (fun j hj => by match j, hj with
      | 0, _ => rfl
      | 1, _ => rfl
      | 2, _ => rfl
      | 3, _ => rfl
      | j + 4, hj => exact absurd hj (by omega)) rfl
  · rw [← we_X4 cy D z]
    exact va_dext (q0 := 21) h rfl rfl
set_option maxHeartbeats 2000000 in
set_option maxRecDepth 100000 in
theorem we_X5 (cy : Nat → ClassId) (D : va_G) (z : Nat → Nat) (h0 q1 q2 q3 q4 q5 q6 q7 q8 q9 q10 q11 q12 q13 : Nat) : ([(h0, .inr (4, [.ref q1, .ref q2, .ref q3, .int 0, .ref q4, .ref q5, .int 0, .int 0, .ref q6, .int 0, .int 0, .int 0, .int 0, .long 0, .ref q7, .ref q8, .ref q9, .ref q10, .ref q11, .ref q12, .ref q13])), (q1, .inl (cy 0, 147, .inl (upd (fun _ => 0) 1 3))), (q2, .inl (cy 0, 147, .inl (fun _ => 0))), (q3, .inl (cy 0, 147, .inl (fun _ => 0))), (q4, .inl (cy 0, 7, .inl (fun _ => 0))), (q5, .inl (cy 0, 20, .inl (fun _ => 0))), (q6, .inl (cy 0, 120, .inl (fun _ => 0))), (q7, .inl (cy 2, 54, .inl (wr mL7 54))), (q8, .inl (cy 2, 18, .inl (wr mL8 18))), (q9, .inl (cy 2, 54, .inl (wr mL9 54))), (q10, .inl (cy 0, 4, .inl (fun _ => 0))), (q11, .inl (cy 0, 4, .inl (fun _ => 0))), (q12, .inl (cy 1, 160, .inr (.inl (fun _ => 0)))), (q13, .inl (cy 1, 40, .inr (.inl (fun _ => 0))))] : va_W) = xw (oM (zA [h0, q1, q2, q3, q4, q5, q6, q7, q8, q9, q10, q11, q12, q13] z) D cy) s0M := by
  refine ws_eq rfl (fun k e hk => ?_)
  match k, hk with
  | 0, hk => cases hk; rfl
  | 1, hk => cases hk; rfl
  | 2, hk => cases hk; rfl
  | 3, hk => cases hk; rfl
  | 4, hk => cases hk; rfl
  | 5, hk => cases hk; rfl
  | 6, hk => cases hk; rfl
  | 7, hk => cases hk; rfl
  | 8, hk => cases hk; rfl
  | 9, hk => cases hk; rfl
  | 10, hk => cases hk; rfl
  | 11, hk => cases hk; rfl
  | 12, hk => cases hk; rfl
  | 13, hk => cases hk; rfl
  | k + 14, hk => exact absurd (List.getElem?_eq_some_iff.mp hk).1 (Nat.not_lt.mpr (Nat.le_add_left _ _))
theorem wx_X5 {cy : Nat → ClassId} {D : va_G} (z : Nat → Nat) {h0 : Nat} {ws : va_W} (hw : ∃ q1 q2 q3 q4 q5 q6 q7 q8 q9 q10 q11 q12 q13 : Nat, ws = [(h0, .inr (4, [.ref q1, .ref q2, .ref q3, .int 0, .ref q4, .ref q5, .int 0, .int 0, .ref q6, .int 0, .int 0, .int 0, .int 0, .long 0, .ref q7, .ref q8, .ref q9, .ref q10, .ref q11, .ref q12, .ref q13])), (q1, .inl (cy 0, 147, .inl (upd (fun _ => 0) 1 3))), (q2, .inl (cy 0, 147, .inl (fun _ => 0))), (q3, .inl (cy 0, 147, .inl (fun _ => 0))), (q4, .inl (cy 0, 7, .inl (fun _ => 0))), (q5, .inl (cy 0, 20, .inl (fun _ => 0))), (q6, .inl (cy 0, 120, .inl (fun _ => 0))), (q7, .inl (cy 2, 54, .inl (wr mL7 54))), (q8, .inl (cy 2, 18, .inl (wr mL8 18))), (q9, .inl (cy 2, 54, .inl (wr mL9 54))), (q10, .inl (cy 0, 4, .inl (fun _ => 0))), (q11, .inl (cy 0, 4, .inl (fun _ => 0))), (q12, .inl (cy 1, 160, .inr (.inl (fun _ => 0)))), (q13, .inl (cy 1, 40, .inr (.inl (fun _ => 0))))]) : ∃ ad : Nat → Nat, ad 0 = h0 ∧ (∀ k, 14 ≤ k → ad k = z k) ∧ (∀ H, va_P D vwCl ws H → va_P D vwCl (xw (oM ad D cy) s0M) H) ∧ ∀ A, va_D A ws → va_D A (xw (oM ad D cy) s0M) := by
  obtain ⟨q1, q2, q3, q4, q5, q6, q7, q8, q9, q10, q11, q12, q13, rfl⟩ := hw
  refine ⟨zA [h0, q1, q2, q3, q4, q5, q6, q7, q8, q9, q10, q11, q12, q13] z, rfl, fun k hk => zA_ge (by exact hk), fun H h => ?_, fun A h => ?_⟩
  · rw [← we_X5 cy D z]
    exact h
  · rw [← we_X5 cy D z]
    exact h
