section
variable {l : Launch} {ad : Nat → Nat} {D : va_G} {cy : Nat → ClassId}
/-! WORDS AS NUMBERS: of at most nine letters, each its own -/
def vv (g : Nat → Nat) : Nat → Nat
  | 0 => 0
  | k + 1 => vv g k * 27 + g k
theorem vv_inj (g h : Nat → Nat) : ∀ m n, (∀ k, k < m → 1 ≤ g k ∧ g k ≤ 26) → (∀ k, k < n → 1 ≤ h k ∧ h k ≤ 26) → vv g m = vv h n → m = n ∧ ∀ k, k < m → g k = h k := by
  intro m
  induction m with
  | zero =>
    intro n hg hh e
    match n, hh, e with
    | 0, _, _ => exact ⟨rfl, fun k hk => absurd hk (Nat.not_lt_zero _)⟩
    | n + 1, hh, e =>
      have := (hh n (by omega)).1
      have e : 0 = vv h n * 27 + h n := e
      omega
  | succ m ih =>
    intro n hg hh e
    match n, hh, e with
    | 0, _, e =>
      have := (hg m (by omega)).1
      have e : vv g m * 27 + g m = 0 := e
      omega
    | n + 1, hh, e =>
      have h1 := hg m (by omega)
      have h2 := hh n (by omega)
      have e : vv g m * 27 + g m = vv h n * 27 + h n := e
      have e1 : vv g m = vv h n := by omega
      have e2 : g m = h n := by omega
      obtain ⟨hmn, hk⟩ := ih n (fun k hk => hg k (by omega)) (fun k hk => hh k (by omega)) e1
      subst hmn
      refine ⟨rfl, fun k hk' => ?_⟩
      by_cases q : k = m
      · subst q; exact e2
      · exact hk k (by omega)
theorem vv_lt (g : Nat → Nat) : ∀ k, (∀ j, j < k → 1 ≤ g j ∧ g j ≤ 26) → vv g k + 1 ≤ 27 ^ k ∧ 27 ^ k ≤ 26 * vv g k + 1 := by
  intro k
  induction k with
  | zero => intro _; exact (show 0 + 1 ≤ 27 ^ 0 ∧ 27 ^ 0 ≤ 26 * 0 + 1 by decide)
  | succ k ih =>
    intro h
    have h1 := ih (fun j hj => h j (by omega))
    have h2 := h k (by omega)
    rw [vv, Nat.pow_succ]
    omega
theorem wN_vv (b : Nat → Int32) (s : Nat) (g : Nat → Nat) (hg : ∀ j, g j = (b (s + j)).toNatClampNeg - 96) : ∀ k, k ≤ 10 → (∀ j, j < k → 1 ≤ g j ∧ g j ≤ 26) → wN b s k = vv g k := by
  intro k
  induction k with
  | zero => intro _ _; rfl
  | succ k ih =>
    intro hk h
    have h1 := ih (by omega) (fun j hj => h j (by omega))
    have h2 := (vv_lt g k (fun j hj => h j (by omega))).1
    have h3 : 27 ^ k ≤ 27 ^ 9 := Nat.pow_le_pow_right (by omega) (by omega)
    have h4 : (27 : Nat) ^ 9 = 7625597484987 := by decide
    rw [wN, h1, if_neg (by omega), vv, hg k]
theorem wN_big (b : Nat → Int32) (s : Nat) (g : Nat → Nat) (hg : ∀ j, g j = (b (s + j)).toNatClampNeg - 96) : ∀ k, 10 ≤ k → (∀ j, j < k → 1 ≤ g j ∧ g j ≤ 26) → 7625597484987 ≤ wN b s k := by
  intro k
  induction k with
  | zero => intro hk _; omega
  | succ k ih =>
    intro hk h
    by_cases e : k = 9
    · subst e
      rw [wN_vv b s g hg 10 (by omega) h, vv]
      have h2 := (vv_lt g 9 (fun j hj => h j (by omega))).2
      have h4 : (27 : Nat) ^ 9 = 7625597484987 := by decide
      omega
    · have h1 := ih (by omega) (fun j hj => h j (by omega))
      rw [wN]
      split <;> omega
theorem dV_nN (b : Nat → Int32) (s : Nat) : ∀ k, dV b s k = min 1000 (nN b s k) := by
  intro k
  induction k with
  | zero => rfl
  | succ k ih =>
    rw [dV, nN, ih]
    split <;> omega
end
