section
variable {l : Launch} {ad : Nat → Nat} {D : va_G} {cy : Nat → ClassId}
/-! A CHOICE THAT STANDS: the class chooses anew only where it must -/
theorem i_refl (a : Int32) : a ≤ a := by rw [Int32.le_iff_toInt_le]; omega
theorem i_trans {a b c : Int32} (h : a ≤ b) (g : b ≤ c) : a ≤ c := by rw [Int32.le_iff_toInt_le] at *; omega
theorem i_nle {a b : Int32} (h : ¬ a ≤ b) : b ≤ a := by rw [Int32.le_iff_toInt_le] at *; omega
theorem ch_inv (T : Tw) (k w : Int32) (b : Nat) : ∀ r, (ch T k w b r).2 = pTime T k w (ch T k w b r).1 ∧ ∀ q, q < r → (ch T k w b r).2 ≤ pTime T k w q := by
  intro r
  induction r with
  | zero => exact ⟨rfl, fun q hq => absurd hq (Nat.not_lt_zero _)⟩
  | succ r ih =>
    rw [ch]
    by_cases h : (ch T k w b r).2 ≤ pTime T k w r
    · rw [if_pos h]
      refine ⟨ih.1, fun q hq => ?_⟩
      by_cases e : q = r
      · rw [e]; exact h
      · exact ih.2 q (by omega)
    · rw [if_neg h]
      refine ⟨rfl, fun q hq => ?_⟩
      by_cases e : q = r
      · rw [e]; exact i_refl _
      · exact i_trans (i_nle h) (ih.2 q (by omega))
theorem ch_fix {T : Tw} {k w : Int32} {b : Nat} (h : ∀ q, q < 3 → pTime T k w b ≤ pTime T k w q) : ∀ r, r ≤ 3 → ch T k w b r = (b, pTime T k w b) := by
  intro r
  induction r with
  | zero => intro _; rfl
  | succ r ih =>
    intro hr
    rw [ch, ih (by omega)]
    exact if_pos (h r (by omega))
def stl (T : Tw) : Prop := ∀ d, d < tN T → ∀ q, q < 3 → pTime T (tKd T d) (tWs T d) (tGo T d) ≤ pTime T (tKd T d) (tWs T d) q
theorem stl_chA (T : Tw) : stl (chA T (tN T)) := by
  intro d hd q hq
  have hd : d < tN T := hd
  have e : tGo (chA T (tN T)) d = (ch T (tKd T d) (tWs T d) (tGo T d) 3).1 := if_pos hd
  obtain ⟨h1, h2⟩ := ch_inv T (tKd T d) (tWs T d) (tGo T d) 3
  rw [e]
  show pTime T (tKd T d) (tWs T d) _ ≤ pTime T (tKd T d) (tWs T d) q
  rw [← h1]
  exact h2 q hq
theorem chA_id {A : Tw} (h : stl A) : chA A (tN A) = A := by
  have e : (fun d => if d < tN A then cho A d else tGo A d) = tGo A := by
    funext d
    by_cases hd : d < tN A
    · rw [if_pos hd]
      show (ch A (tKd A d) (tWs A d) (tGo A d) 3).1 = tGo A d
      rw [ch_fix (h d hd) 3 (Nat.le_refl _)]
    · rw [if_neg hd]
  show (tDay A, tIn A, tN A, tTh A, tAg A, tKd A, tWs A, (fun d => if d < tN A then cho A d else tGo A d)) = A
  rw [e]
theorem agE_f {T : Tw} : ∀ n, agE T n = false → ∀ i, i < n → ¬ (tTh T i = nI 4 ∧ ¬ nI 999 ≤ tAg T i ∧ tAg T i + nI 1 = nI 21) := by
  intro n
  induction n with
  | zero => intro _ i hi; exact absurd hi (Nat.not_lt_zero _)
  | succ n ih =>
    intro h i hi
    rw [agE, Bool.or_eq_false_iff] at h
    by_cases e : i = n
    · subst e; exact of_decide_eq_false h.2
    · exact ih h.1 i (by omega)
theorem fSlow_eqg {k w t h g g' : Int32} (e : g < nI 21 ↔ g' < nI 21) : fSlow k w t h g = fSlow k w t h g' := by
  rw [fSlow_g k w t h g, fSlow_g k w t h g']
  simp only [e]
theorem next_ag {T : Tw} (hO : tOk T) (hE : agE T 60 = false) {i : Nat} (hi : i < 60) (k w b : Int32) : fNext k w (tTh T i) (tIn T) (agF T 60 i) b = fNext k w (tTh T i) (tIn T) (tAg T i) b := by
  have e : fSlow k w (tTh T i) (tIn T) (agF T 60 i) = fSlow k w (tTh T i) (tIn T) (tAg T i) := by
    unfold agF
    by_cases hc : i < 60 ∧ tTh T i = nI 4 ∧ ¬ nI 999 ≤ tAg T i
    · rw [if_pos hc]
      apply fSlow_eqg
      obtain ⟨a, ha, ea, -⟩ := hO.2.2.2.2.1 i hi
      have hne := agE_f 60 hE i hi
      have h21 : ¬ a + 1 = 21 := fun z => hne ⟨hc.2.1, hc.2.2, by rw [ea, nI_add, z]⟩
      rw [ea, nI_add, nI_ltI (by omega) (by omega), nI_ltI (by omega) (by omega)]
      omega
    · rw [if_neg hc]
  unfold fNext
  rw [e]
theorem fP_congr {k w h : Int32} {th ag ag' : Nat → Int32} (e : ∀ i, i < 20 → ∀ b, fNext k w (th i) h (ag' i) b = fNext k w (th i) h (ag i) b) : ∀ i, i ≤ 20 → fP k w h th ag' i = fP k w h th ag i := by
  intro i
  induction i with
  | zero => intro _; rfl
  | succ i ih =>
    intro hi
    show fNext k w (th i) h (ag' i) (fP k w h th ag' i) = fNext k w (th i) h (ag i) (fP k w h th ag i)
    rw [ih (by omega), e i (by omega)]
theorem fT_congr {k w h : Int32} {th ag ag' : Nat → Int32} (e : ∀ i, i < 20 → ∀ b, fNext k w (th i) h (ag' i) b = fNext k w (th i) h (ag i) b) : ∀ i, i ≤ 20 → fT k w h th ag' i = fT k w h th ag i := by
  intro i
  induction i with
  | zero => intro _; rfl
  | succ i ih =>
    intro hi
    rw [fT, fT, ih (by omega), fP_congr e (i + 1) hi]
theorem pTime_ag {T : Tw} (hO : tOk T) (hE : agE T 60 = false) (k w : Int32) {r : Nat} (hr : r < 3) : pTime (agS T 60) k w r = pTime T k w r :=
  fT_congr (fun i hi b => next_ag hO hE (by omega) k w b) 20 (Nat.le_refl _)
theorem dayC_eq {T : Tw} (hO : tOk T) (hs : stl T) : dayC (nI 0) T = dayM T := by
  unfold dayC dayM
  by_cases hE : agE T 60 = true
  · rw [if_pos (Or.inr hE)]
  · rw [if_neg (fun z => z.elim (fun q => q rfl) hE)]
    have hE : agE T 60 = false := by simpa using hE
    congr 1
    refine (chA_id (A := agS T 60) (fun d hd q hq => ?_)).symm
    have hd : d < tN T := hd
    have hg : tGo T d < 3 := hO.2.2.2.2.2.2.2 d hd
    show pTime (agS T 60) (tKd T d) (tWs T d) (tGo T d) ≤ pTime (agS T 60) (tKd T d) (tWs T d) q
    rw [pTime_ag hO hE _ _ hg, pTime_ag hO hE _ _ hq]
    exact hs d hd q hq
theorem daysC_eq {T : Tw} (hO : tOk T) : ∀ m, daysC T m = daysM T m := by
  intro m
  induction m with
  | zero => rfl
  | succ m ih =>
    rw [daysC, daysM, ih]
    cases m with
    | zero =>
      rw [if_pos rfl]
      exact congrArg incD (if_pos (Or.inl (by decide)))
    | succ m =>
      rw [if_neg (by omega)]
      exact dayC_eq (daysM_ok hO (m + 1)) (stl_chA (agS (daysM T m) 60))
/-! HOW MUCH at most -/
def shOK (k : Nat) : Bool := (List.range 81).all fun y => (List.range 6).all fun h => (decide (0 ≤ fShake (nI k) (nI y) (nI (1 + h)))) && decide (fShake (nI k) (nI y) (nI (1 + h)) ≤ nI 96)
theorem shOK_0 : shOK 0 = true := by decide +kernel
theorem shOK_1 : shOK 1 = true := by decide +kernel
theorem shOK_2 : shOK 2 = true := by decide +kernel
theorem shOK_3 : shOK 3 = true := by decide +kernel
theorem shOK_4 : shOK 4 = true := by decide +kernel
theorem shOK_5 : shOK 5 = true := by decide +kernel
theorem shake_rng {k y h : Nat} (hk : k < 6) (hy : y ≤ 80) (h1 : 1 ≤ h) (h6 : h ≤ 6) : ∃ s, s ≤ 96 ∧ fShake (nI k) (nI y) (nI h) = nI s := by
  have key : 0 ≤ fShake (nI k) (nI y) (nI h) ∧ fShake (nI k) (nI y) (nI h) ≤ nI 96 := by
    have use : ∀ {k : Nat}, shOK k = true → 0 ≤ fShake (nI k) (nI y) (nI h) ∧ fShake (nI k) (nI y) (nI h) ≤ nI 96 := by
      intro k hh
      have a := List.all_eq_true.mp (List.all_eq_true.mp hh y (List.mem_range.mpr (by omega))) (h - 1) (List.mem_range.mpr (by omega))
      rw [Bool.and_eq_true, show 1 + (h - 1) = h by omega] at a
      exact ⟨of_decide_eq_true a.1, of_decide_eq_true a.2⟩
    match k, hk with
    | 0, _ => exact use shOK_0
    | 1, _ => exact use shOK_1
    | 2, _ => exact use shOK_2
    | 3, _ => exact use shOK_3
    | 4, _ => exact use shOK_4
    | 5, _ => exact use shOK_5
  obtain ⟨s, -, b, e⟩ := vR_of (lo := 0) (hi := 96) (a := fShake (nI k) (nI y) (nI h)) ⟨Int32.not_lt.mpr key.1, Int32.not_lt.mpr key.2⟩ (by omega) (by decide)
  exact ⟨s, b, e⟩
theorem fT_rng {T : Tw} (hO : tOk T) {k w r : Nat} (hk : k < 6) (h10 : 10 ≤ w) (h80 : w ≤ 80) (hr : r < 3) : ∀ i, i ≤ 20 → ∃ t, t ≤ 245 * i ∧ fT (nI k) (nI w) (tIn T) (fun i => tTh T (r * 20 + i)) (fun i => tAg T (r * 20 + i)) i = nI t := by
  intro i
  induction i with
  | zero => intro _; exact ⟨0, Nat.le_refl _, rfl⟩
  | succ i ih =>
    intro hi
    obtain ⟨t, ht, et⟩ := ih (by omega)
    obtain ⟨y, a, b, e⟩ := pP_rng hO hk h10 h80 hr (i + 1) hi
    have e : fP (nI k) (nI w) (tIn T) (fun i => tTh T (r * 20 + i)) (fun i => tAg T (r * 20 + i)) (i + 1) = nI y := e
    rw [fT, e, if_neg (nI_nle (by omega) (by omega)), et, pk_div (by decide) (by omega) (by omega), nI_add]
    refine ⟨t + 1227 / y, ?_, rfl⟩
    have : 1227 / y ≤ 245 := by
      have h1 : 1227 / y ≤ 1227 / 5 := Nat.div_le_div_left a (by decide)
      omega
    omega
theorem pTime_rng {T : Tw} (hO : tOk T) {k w r : Nat} (hk : k < 6) (h10 : 10 ≤ w) (h80 : w ≤ 80) (hr : r < 3) : ∃ t, t ≤ 4900 ∧ pTime T (nI k) (nI w) r = nI t := fT_rng hO hk h10 h80 hr 20 (Nat.le_refl _)
theorem fS_rng {T : Tw} (hO : tOk T) {k w r : Nat} (hk : k < 6) (h10 : 10 ≤ w) (h80 : w ≤ 80) (hr : r < 3) : ∀ i, i ≤ 20 → ∃ t, t ≤ 96 * i ∧ fS (nI k) (nI w) (tIn T) (fun i => tTh T (r * 20 + i)) (fun i => tAg T (r * 20 + i)) i = nI t := by
  intro i
  induction i with
  | zero => intro _; exact ⟨0, Nat.le_refl _, rfl⟩
  | succ i ih =>
    intro hi
    obtain ⟨t, ht, et⟩ := ih (by omega)
    obtain ⟨y, a, b, e⟩ := pP_rng hO hk h10 h80 hr (i + 1) hi
    obtain ⟨h, g1, g6, eh⟩ := hO.2.2.2.2.2.1
    have e : fP (nI k) (nI w) (tIn T) (fun i => tTh T (r * 20 + i)) (fun i => tAg T (r * 20 + i)) (i + 1) = nI y := e
    obtain ⟨s, hs, es⟩ := shake_rng hk (y := y) (by omega) g1 g6
    rw [fS, e, et, eh, es]
    split
    · exact ⟨t + s, by omega, nI_add _ _⟩
    · exact ⟨t, by omega, rfl⟩
theorem pShake_rng {T : Tw} (hO : tOk T) {k w r : Nat} (hk : k < 6) (h10 : 10 ≤ w) (h80 : w ≤ 80) (hr : r < 3) : ∃ t, t ≤ 1920 ∧ pShake T (nI k) (nI w) r = nI t := fS_rng hO hk h10 h80 hr 20 (Nat.le_refl _)
theorem fM_rng {T : Tw} (hO : tOk T) {k w r : Nat} (hk : k < 6) (h10 : 10 ≤ w) (h80 : w ≤ 80) (hr : r < 3) : ∀ i, i ≤ 20 → ∃ t, t ≤ 80 ∧ fM (nI k) (nI w) (tIn T) (fun i => tTh T (r * 20 + i)) (fun i => tAg T (r * 20 + i)) i = nI t := by
  intro i
  induction i with
  | zero => intro _; exact ⟨0, by omega, rfl⟩
  | succ i ih =>
    intro hi
    obtain ⟨t, ht, et⟩ := ih (by omega)
    obtain ⟨y, a, b, e⟩ := pP_rng hO hk h10 h80 hr (i + 1) hi
    have e : fP (nI k) (nI w) (tIn T) (fun i => tTh T (r * 20 + i)) (fun i => tAg T (r * 20 + i)) (i + 1) = nI y := e
    rw [fM, e, et]
    split
    · exact ⟨y, by omega, rfl⟩
    · exact ⟨t, ht, rfl⟩
theorem pTop_rng {T : Tw} (hO : tOk T) {k w r : Nat} (hk : k < 6) (h10 : 10 ≤ w) (h80 : w ≤ 80) (hr : r < 3) : ∃ t, t ≤ 80 ∧ pTop T (nI k) (nI w) r = nI t := fM_rng hO hk h10 h80 hr 20 (Nat.le_refl _)
theorem lay_ok {T : Tw} (h : tOk T) (p : Nat) {v : Nat} (hv : v ≤ 4) : tOk (layT T p (nI v)) := by
  obtain ⟨h1, h2, h3, h4, h5, h6, h7, h8⟩ := h
  refine ⟨h1, h2, h3, fun i hi => ?_, fun i hi => ?_, h6, trivial, h8⟩
  · show ∃ x, x ≤ 4 ∧ upd (tTh T) p (nI v) i = nI x
    unfold upd
    by_cases e : i = p
    · rw [if_pos e]; exact ⟨v, hv, rfl⟩
    · rw [if_neg e]; exact h4 i hi
  · show ∃ a, a ≤ 999 ∧ upd (tAg T) p (nI 0) i = nI a ∧ (¬ upd (tTh T) p (nI v) i = nI 4 → a = 0)
    unfold upd
    by_cases e : i = p
    · rw [if_pos e, if_pos e]; exact ⟨0, by omega, rfl, fun _ => rfl⟩
    · rw [if_neg e, if_neg e]; exact h5 i hi
theorem setIn_ok {T : Tw} (h : tOk T) {v : Nat} (h1 : 1 ≤ v) (h6 : v ≤ 6) : tOk (setIn T (nI v)) := by
  obtain ⟨a1, a2, a3, a4, a5, a6, a7, a8⟩ := h
  exact ⟨a1, a2, a3, a4, a5, ⟨v, h1, h6, rfl⟩, trivial, a8⟩
theorem daysC_ok {T : Tw} (h : tOk T) (m : Nat) : tOk (daysC T m) := by rw [daysC_eq h]; exact daysM_ok h m
end
