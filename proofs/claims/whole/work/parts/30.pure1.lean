section
variable {l : Launch} {ad : Nat → Nat} {D : va_G} {cy : Nat → ClassId}
/-! HOW QUICK one is: at least 5, no more than one's wish -/
theorem le3_lt4 (h : Int32) : h ≤ nI 3 ↔ h < nI 4 := by
  rw [Int32.le_iff_toInt_le, Int32.lt_iff_toInt_lt, nI_toInt (by decide), nI_toInt (by decide)]; omega
theorem le20_lt21 (h : Int32) : h ≤ nI 20 ↔ h < nI 21 := by
  rw [Int32.le_iff_toInt_le, Int32.lt_iff_toInt_lt, nI_toInt (by decide), nI_toInt (by decide)]; omega
theorem lt_or_eq_ite (a b : Int32) : (if a < b then a else b) = if a ≤ b then a else b := by
  by_cases h : a < b
  · rw [if_pos h, if_pos (by rw [Int32.lt_iff_toInt_lt] at h; rw [Int32.le_iff_toInt_le]; omega)]
  · rw [if_neg h]
    by_cases h2 : a ≤ b
    · rw [if_pos h2]
      apply Int32.toInt_inj.mp
      rw [Int32.lt_iff_toInt_lt] at h
      rw [Int32.le_iff_toInt_le] at h2
      omega
    · rw [if_neg h2]
theorem fSlow_g (k w t h g : Int32) : fSlow k w t h g = fSlow k w t h (if g < nI 21 then nI 0 else nI 21) := by
  by_cases hg : g < nI 21
  · rw [if_pos hg]
    simp only [fSlow, fPlain, hg, show nI 0 < nI 21 by decide]
  · rw [if_neg hg]
    simp only [fSlow, fPlain, hg, show ¬ nI 21 < nI 21 by decide]
def slowOK (k g : Nat) : Bool := (List.range 71).all fun w => (List.range 4).all fun t => (List.range 6).all fun h => decide (nI 5 ≤ fSlow (nI k) (nI (10 + w)) (nI (1 + t)) (nI (1 + h)) (nI g)) && decide (fSlow (nI k) (nI (10 + w)) (nI (1 + t)) (nI (1 + h)) (nI g) ≤ nI (10 + w))
theorem slowOK_use {k g : Nat} (h : slowOK k g = true) {w t x : Nat} (h10 : 10 ≤ w) (h80 : w ≤ 80) (h1 : 1 ≤ t) (h4 : t ≤ 4) (g1 : 1 ≤ x) (g6 : x ≤ 6) : nI 5 ≤ fSlow (nI k) (nI w) (nI t) (nI x) (nI g) ∧ fSlow (nI k) (nI w) (nI t) (nI x) (nI g) ≤ nI w := by
  have a := List.all_eq_true.mp (List.all_eq_true.mp (List.all_eq_true.mp h (w - 10) (List.mem_range.mpr (by omega))) (t - 1) (List.mem_range.mpr (by omega))) (x - 1) (List.mem_range.mpr (by omega))
  rw [Bool.and_eq_true] at a
  rw [show 10 + (w - 10) = w by omega, show 1 + (t - 1) = t by omega, show 1 + (x - 1) = x by omega] at a
  exact ⟨of_decide_eq_true a.1, of_decide_eq_true a.2⟩
theorem slow_d0_0 : slowOK 0 0 = true := by decide +kernel
theorem slow_d0_1 : slowOK 1 0 = true := by decide +kernel
theorem slow_d0_2 : slowOK 2 0 = true := by decide +kernel
theorem slow_d0_3 : slowOK 3 0 = true := by decide +kernel
theorem slow_d0_4 : slowOK 4 0 = true := by decide +kernel
theorem slow_d0_5 : slowOK 5 0 = true := by decide +kernel
theorem slow_d21_0 : slowOK 0 21 = true := by decide +kernel
theorem slow_d21_1 : slowOK 1 21 = true := by decide +kernel
theorem slow_d21_2 : slowOK 2 21 = true := by decide +kernel
theorem slow_d21_3 : slowOK 3 21 = true := by decide +kernel
theorem slow_d21_4 : slowOK 4 21 = true := by decide +kernel
theorem slow_d21_5 : slowOK 5 21 = true := by decide +kernel
theorem slow_rng {k w t h : Nat} (hk : k < 6) (h10 : 10 ≤ w) (h80 : w ≤ 80) (h1 : 1 ≤ t) (h4 : t ≤ 4) (g1 : 1 ≤ h) (g6 : h ≤ 6) (g : Int32) : ∃ y, 5 ≤ y ∧ y ≤ w ∧ fSlow (nI k) (nI w) (nI t) (nI h) g = nI y := by
  have key : nI 5 ≤ fSlow (nI k) (nI w) (nI t) (nI h) g ∧ fSlow (nI k) (nI w) (nI t) (nI h) g ≤ nI w := by
    rw [fSlow_g]
    by_cases hg : g < nI 21
    · rw [if_pos hg]
      match k, hk with
      | 0, _ => exact slowOK_use slow_d0_0 h10 h80 h1 h4 g1 g6
      | 1, _ => exact slowOK_use slow_d0_1 h10 h80 h1 h4 g1 g6
      | 2, _ => exact slowOK_use slow_d0_2 h10 h80 h1 h4 g1 g6
      | 3, _ => exact slowOK_use slow_d0_3 h10 h80 h1 h4 g1 g6
      | 4, _ => exact slowOK_use slow_d0_4 h10 h80 h1 h4 g1 g6
      | 5, _ => exact slowOK_use slow_d0_5 h10 h80 h1 h4 g1 g6
    · rw [if_neg hg]
      match k, hk with
      | 0, _ => exact slowOK_use slow_d21_0 h10 h80 h1 h4 g1 g6
      | 1, _ => exact slowOK_use slow_d21_1 h10 h80 h1 h4 g1 g6
      | 2, _ => exact slowOK_use slow_d21_2 h10 h80 h1 h4 g1 g6
      | 3, _ => exact slowOK_use slow_d21_3 h10 h80 h1 h4 g1 g6
      | 4, _ => exact slowOK_use slow_d21_4 h10 h80 h1 h4 g1 g6
      | 5, _ => exact slowOK_use slow_d21_5 h10 h80 h1 h4 g1 g6
  obtain ⟨y, a, b, e⟩ := vR_of (lo := 5) (hi := w) (a := fSlow (nI k) (nI w) (nI t) (nI h) g) ⟨Int32.not_lt.mpr key.1, Int32.not_lt.mpr key.2⟩ (by omega) (by decide)
  exact ⟨y, a, b, e⟩
theorem hur_rng {k : Nat} (hk : k < 6) : ∃ u, 6 ≤ u ∧ u ≤ 22 ∧ fHur (nI k) = nI u := by
  match k, hk with
  | 0, _ => exact ⟨12, by omega, by omega, by decide⟩
  | 1, _ => exact ⟨6, by omega, by omega, by decide⟩
  | 2, _ => exact ⟨6, by omega, by omega, by decide⟩
  | 3, _ => exact ⟨12, by omega, by omega, by decide⟩
  | 4, _ => exact ⟨12, by omega, by omega, by decide⟩
  | 5, _ => exact ⟨22, by omega, by omega, by decide⟩
theorem top_rng {k w b : Nat} (hk : k < 6) (h80 : w ≤ 80) (h5 : 5 ≤ b) (hb : b ≤ w) : ∃ y, 5 ≤ y ∧ y ≤ w ∧ fTop (nI k) (nI w) (nI b) = nI y := by
  obtain ⟨u, a1, a2, e⟩ := hur_rng hk
  unfold fTop
  rw [e, nI_add]
  by_cases h : nI (b + u) ≤ nI w
  · rw [if_pos h]
    have := (nI_leI (by omega) (by omega)).mp h
    exact ⟨b + u, by omega, this, rfl⟩
  · rw [if_neg h]
    exact ⟨w, by omega, Nat.le_refl _, rfl⟩
theorem next_rng {k w t h b : Nat} (hk : k < 6) (h10 : 10 ≤ w) (h80 : w ≤ 80) (h4 : t ≤ 4) (g1 : 1 ≤ h) (g6 : h ≤ 6) (g : Int32) (h5 : 5 ≤ b) (hb : b ≤ w) : ∃ y, 5 ≤ y ∧ y ≤ w ∧ fNext (nI k) (nI w) (nI t) (nI h) g (nI b) = nI y := by
  obtain ⟨y1, a1, a2, e1⟩ := top_rng hk h80 h5 hb
  unfold fNext
  by_cases h0 : nI t = 0
  · rw [if_pos h0]; exact ⟨y1, a1, a2, e1⟩
  · rw [if_neg h0]
    have ht : 1 ≤ t := Nat.pos_of_ne_zero (fun z => h0 (by rw [z]; rfl))
    obtain ⟨y2, b1, b2, e2⟩ := slow_rng hk h10 h80 ht h4 g1 g6 g
    split
    · exact ⟨y1, a1, a2, e1⟩
    · exact ⟨y2, b1, b2, e2⟩
theorem pP_rng {T : Tw} (hO : tOk T) {k w r : Nat} (hk : k < 6) (h10 : 10 ≤ w) (h80 : w ≤ 80) (hr : r < 3) : ∀ i, i ≤ 20 → ∃ y, 5 ≤ y ∧ y ≤ w ∧ pP T (nI k) (nI w) r i = nI y := by
  intro i
  induction i with
  | zero => intro _; exact ⟨w, by omega, Nat.le_refl _, rfl⟩
  | succ i ih =>
    intro hi
    obtain ⟨b, b1, b2, e⟩ := ih (by omega)
    obtain ⟨t, ht, et⟩ := hO.2.2.2.1 (r * 20 + i) (by omega)
    obtain ⟨h, g1, g6, eh⟩ := hO.2.2.2.2.2.1
    have := next_rng hk h10 h80 ht g1 g6 (tAg T (r * 20 + i)) b1 b2
    rw [← et, ← eh, ← e] at this
    exact this
theorem pP_pos {T : Tw} (hO : tOk T) {k w r i : Nat} (hk : k < 6) (h10 : 10 ≤ w) (h80 : w ≤ 80) (hr : r < 3) (hi : i ≤ 20) : ¬ pP T (nI k) (nI w) r i ≤ 0 ∧ ¬ pP T (nI k) (nI w) r i = 0 := by
  obtain ⟨y, a, b, e⟩ := pP_rng hO hk h10 h80 hr i hi
  rw [e]
  exact ⟨nI_nle (by omega) (by omega), nI_ne0 (by omega) (by omega)⟩
theorem top_w {k w : Nat} (hk : k < 6) (h80 : w ≤ 80) : fTop (nI k) (nI w) (nI w) = nI w := by
  obtain ⟨u, a1, a2, e⟩ := hur_rng hk
  unfold fTop
  rw [e, nI_add, if_neg]
  intro z
  have := (nI_leI (by omega) (by omega)).mp z
  omega
theorem top_less (k w b : Int32) : (if w < b + fHur k then w else b + fHur k) = fTop k w b := by
  unfold fTop
  by_cases h : w < b + fHur k
  · rw [if_pos h, if_neg (Int32.not_le.mpr h)]
  · rw [if_neg h, if_pos (Int32.not_lt.mp h)]
end
