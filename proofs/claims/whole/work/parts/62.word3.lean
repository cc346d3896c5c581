section
variable {l : Launch} {ad : Nat → Nat} {D : va_G} {cy : Nat → ClassId}
theorem rn_all (p : Int32 → Bool) (b : Nat → Int32) : ∀ f e j, e ≤ j → j < rn p b f e → p (b j) = true := by
  intro f
  induction f with
  | zero => intro e j h1 h2; exact absurd h2 (Nat.not_lt.mpr h1)
  | succ f ih =>
    intro e j h1 h2
    rw [rn] at h2
    by_cases hp : p (b e) = true
    · rw [if_pos hp] at h2
      by_cases q : j = e
      · rw [q]; exact hp
      · exact ih (e + 1) j (by omega) h2
    · rw [if_neg hp] at h2
      exact absurd h2 (Nat.not_lt.mpr h1)
theorem kS_1 {b : Nat → Int32} {L s : Nat} (h : kS b L s = 1) : s < L ∧ isLt (b s) = true := by
  unfold kS at h
  by_cases h1 : s < L
  · rw [if_pos h1] at h
    by_cases h2 : isLt (b s) = true
    · exact ⟨h1, h2⟩
    · rw [if_neg h2] at h
      repeat' split at h
      all_goals omega
  · rw [if_neg h1] at h
    omega
theorem kS_2 {b : Nat → Int32} {L s : Nat} (h : kS b L s = 2) : s < L ∧ ¬ isLt (b s) = true ∧ isDg (b s) = true := by
  unfold kS at h
  by_cases h1 : s < L
  · rw [if_pos h1] at h
    by_cases h2 : isLt (b s) = true
    · rw [if_pos h2] at h
      omega
    · rw [if_neg h2] at h
      by_cases h3 : isDg (b s) = true
      · exact ⟨h1, h2, h3⟩
      · rw [if_neg h3] at h
        split at h
        all_goals omega
  · rw [if_neg h1] at h
    omega
theorem ltr {b : Nat → Int32} {L s j : Nat} (h : kS b L s = 1) (hj : j < eS b L s - s) : ∃ x, 97 ≤ x ∧ x ≤ 122 ∧ b (s + j) = nI x := by
  obtain ⟨h1, h2⟩ := kS_1 h
  have e : eS b L s = rn isLt b (L - s) s := by unfold eS; rw [if_pos h1, if_pos h2]
  have := rn_all isLt b (L - s) s (s + j) (by omega) (by omega)
  exact vR_of (of_decide_eq_true this) (by decide) (by decide)
def gx (u j : Nat) : Nat := ((xbyt.getD u []).getD j 0).toNatClampNeg - 96
theorem gx_ok : ∀ u, u < 14 → ∀ j, j < xlen.getD u 0 → (1 ≤ gx u j ∧ gx u j ≤ 26) ∧ (xbyt.getD u []).getD j 0 = nI (gx u j + 96) := by decide +kernel
theorem wdm_iff (b : Nat → Int32) (s w : Nat) : ∀ k, wdm b s w k = true ↔ ∀ j, j < k → b (s + j) = (xbyt.getD w []).getD j 0 := by
  intro k
  induction k with
  | zero => exact ⟨fun _ j hj => absurd hj (Nat.not_lt_zero _), fun _ => rfl⟩
  | succ k ih =>
    rw [wdm, Bool.and_eq_true, ih, decide_eq_true_eq]
    constructor
    · intro h j hj
      by_cases q : j = k
      · rw [q]; exact h.2
      · exact h.1 j (by omega)
    · intro h
      exact ⟨fun j hj => h j (by omega), h k (by omega)⟩
theorem vv_congr (g h : Nat → Nat) : ∀ k, (∀ j, j < k → g j = h j) → vv g k = vv h k := by
  intro k
  induction k with
  | zero => intro _; rfl
  | succ k ih => intro e; rw [vv, vv, ih (fun j hj => e j (by omega)), e k (by omega)]
def cu (u : Nat) : Nat := vv (gx u) (xlen.getD u 0)
theorem isW_iff {b : Nat → Int32} {L s u : Nat} (hu : u < 14) (hs : kS b L s = 1) : isW b L s u = true ↔ cu u = wN b s (eS b L s - s) := by
  have hg : ∀ j, j < eS b L s - s → 1 ≤ (b (s + j)).toNatClampNeg - 96 ∧ (b (s + j)).toNatClampNeg - 96 ≤ 26 := fun j hj => by
    obtain ⟨x, h1, h2, e⟩ := ltr hs hj
    rw [e, nI_clamp (by omega)]
    omega
  have h9 := sl9 u hu
  have hc := gx_ok u hu
  constructor
  · intro h
    unfold isW at h
    rw [Bool.and_eq_true, Bool.and_eq_true, decide_eq_true_eq, decide_eq_true_eq] at h
    obtain ⟨-, e, hw⟩ := h
    rw [wdm_iff] at hw
    rw [wN_vv b s (fun j => (b (s + j)).toNatClampNeg - 96) (fun _ => rfl) _ (by omega) hg, e]
    exact vv_congr _ _ _ (fun j hj => by show ((xbyt.getD u []).getD j 0).toNatClampNeg - 96 = (b (s + j)).toNatClampNeg - 96; rw [← hw j hj])
  · intro h
    by_cases h10 : eS b L s - s ≤ 9
    · rw [wN_vv b s (fun j => (b (s + j)).toNatClampNeg - 96) (fun _ => rfl) _ (by omega) hg] at h
      obtain ⟨e1, e2⟩ := vv_inj (gx u) (fun j => (b (s + j)).toNatClampNeg - 96) _ _ (fun j hj => (hc j hj).1) hg h
      unfold isW
      rw [Bool.and_eq_true, Bool.and_eq_true, decide_eq_true_eq, decide_eq_true_eq]
      refine ⟨hs, e1.symm, (wdm_iff b s u _).mpr fun j hj => ?_⟩
      obtain ⟨x, h1, h2, ex⟩ := ltr (j := j) hs (by omega)
      have e3 : gx u j = (b (s + j)).toNatClampNeg - 96 := e2 j hj
      rw [(hc j hj).2, e3, ex, nI_clamp (by omega), Nat.sub_add_cancel (by omega)]
    · have h1 := wN_big b s (fun j => (b (s + j)).toNatClampNeg - 96) (fun _ => rfl) _ (by omega) hg
      have h2 := (vv_lt (gx u) (xlen.getD u 0) (fun j hj => (hc j hj).1)).1
      have h3 : 27 ^ xlen.getD u 0 ≤ 27 ^ 9 := Nat.pow_le_pow_right (by omega) h9
      have h4 : (27 : Nat) ^ 9 = 7625597484987 := by decide
      have h : vv (gx u) (xlen.getD u 0) = _ := h
      exfalso
      omega
theorem xif {p q : Prop} [Decidable p] [Decidable q] {α : Type} {a b c : α} (h : p ↔ q) (e : b = c) : (if p then a else b) = (if q then a else c) := by
  subst e
  by_cases hp : p
  · rw [if_pos hp, if_pos (h.mp hp)]
  · rw [if_neg hp, if_neg (fun z => hp (h.mpr z))]
theorem lN_eq63 {a b : Nat} (ha : a < 2 ^ 63) (hb : b < 2 ^ 63) : lN a = lN b ↔ a = b := by
  have ea : (lN a).toInt = a := Int64.toInt_ofNat_of_lt ha
  have eb : (lN b).toInt = b := Int64.toInt_ofNat_of_lt hb
  constructor
  · intro h
    have := congrArg Int64.toInt h
    rw [ea, eb] at this
    omega
  · intro h
    rw [h]
def mN (b : Nat → Int32) (L s : Nat) : Int32 := if isW b L s 6 = true then nI 0 else if isW b L s 7 = true then nI 1 else -1
def oN (b : Nat → Int32) (L s : Nat) : Int32 := if isW b L s 8 = true then nI 0 else if isW b L s 9 = true then nI 1 else if isW b L s 10 = true then nI 2 else if isW b L s 11 = true then nI 3 else if isW b L s 12 = true then nI 4 else if isW b L s 13 = true then nI 5 else -1
theorem q7 : ∀ w, w < 6 → cv mL7 (9 * w) 9 = cu (0 + w) ∧ cu (0 + w) < 2 ^ 62 := by decide +kernel
theorem wk7 (N : Nat) : (if cu 5 = N then nI 5 else if cu 4 = N then nI 4 else if cu 3 = N then nI 3 else if cu 2 = N then nI 2 else if cu 1 = N then nI 1 else if cu 0 = N then nI 0 else -1 : Int32) = (if cu 0 = N then nI 0 else if cu 1 = N then nI 1 else if cu 2 = N then nI 2 else if cu 3 = N then nI 3 else if cu 4 = N then nI 4 else if cu 5 = N then nI 5 else -1 : Int32) := by
  have h0 : cu 0 = 67154904 := by decide +kernel
  have h1 : cu 1 = 2044 := by decide +kernel
  have h2 : cu 2 = 6686170 := by decide +kernel
  have h3 : cu 3 = 6674763 := by decide +kernel
  have h4 : cu 4 = 419496703412 := by decide +kernel
  have h5 : cu 5 = 9587961 := by decide +kernel
  rw [h0, h1, h2, h3, h4, h5]
  repeat' split
  all_goals first | rfl | (exfalso; omega)
theorem wf7 {b : Nat → Int32} {L s : Nat} (hs : kS b L s = 1) : wf mL7 (lN (wN b s (eS b L s - s))) 6 = kN b L s := by
  have hN := wN_lt (b := b) (s := s) (eS b L s - s) (fun j hj => ltr hs hj)
  have k : ∀ w, w < 6 → (lN (cv mL7 (9 * w) 9) = lN (wN b s (eS b L s - s)) ↔ cu (0 + w) = wN b s (eS b L s - s)) := fun w hw => by
    have h := q7 w hw
    rw [h.1]
    exact lN_eq63 (by omega) (by omega)
  have e1 : wf mL7 (lN (wN b s (eS b L s - s))) 6 = (if cu 5 = wN b s (eS b L s - s) then nI 5 else if cu 4 = wN b s (eS b L s - s) then nI 4 else if cu 3 = wN b s (eS b L s - s) then nI 3 else if cu 2 = wN b s (eS b L s - s) then nI 2 else if cu 1 = wN b s (eS b L s - s) then nI 1 else if cu 0 = wN b s (eS b L s - s) then nI 0 else -1 : Int32) := (xif (k 5 (by decide)) (xif (k 4 (by decide)) (xif (k 3 (by decide)) (xif (k 2 (by decide)) (xif (k 1 (by decide)) (xif (k 0 (by decide)) rfl))))))
  have e2 : kN b L s = (if cu 0 = wN b s (eS b L s - s) then nI 0 else if cu 1 = wN b s (eS b L s - s) then nI 1 else if cu 2 = wN b s (eS b L s - s) then nI 2 else if cu 3 = wN b s (eS b L s - s) then nI 3 else if cu 4 = wN b s (eS b L s - s) then nI 4 else if cu 5 = wN b s (eS b L s - s) then nI 5 else -1 : Int32) := (xif (isW_iff (by decide) hs) (xif (isW_iff (by decide) hs) (xif (isW_iff (by decide) hs) (xif (isW_iff (by decide) hs) (xif (isW_iff (by decide) hs) (xif (isW_iff (by decide) hs) rfl))))))
  rw [e1, e2]
  exact wk7 _
theorem no7 {b : Nat → Int32} {L s : Nat} (hs : ¬ kS b L s = 1) : kN b L s = -1 := by
  have h : ∀ u, ¬ isW b L s u = true := fun u z => by
    unfold isW at z
    rw [decide_eq_false hs, Bool.false_and] at z
    exact absurd z (by decide)
  exact (if_neg (h _)).trans ((if_neg (h _)).trans ((if_neg (h _)).trans ((if_neg (h _)).trans ((if_neg (h _)).trans ((if_neg (h _)))))))
theorem q8 : ∀ w, w < 2 → cv mL8 (9 * w) 9 = cu (6 + w) ∧ cu (6 + w) < 2 ^ 62 := by decide +kernel
theorem wk8 (N : Nat) : (if cu 7 = N then nI 1 else if cu 6 = N then nI 0 else -1 : Int32) = (if cu 6 = N then nI 0 else if cu 7 = N then nI 1 else -1 : Int32) := by
  have h0 : cu 6 = 459791 := by decide +kernel
  have h1 : cu 7 = 257 := by decide +kernel
  rw [h0, h1]
  repeat' split
  all_goals first | rfl | (exfalso; omega)
theorem wf8 {b : Nat → Int32} {L s : Nat} (hs : kS b L s = 1) : wf mL8 (lN (wN b s (eS b L s - s))) 2 = mN b L s := by
  have hN := wN_lt (b := b) (s := s) (eS b L s - s) (fun j hj => ltr hs hj)
  have k : ∀ w, w < 2 → (lN (cv mL8 (9 * w) 9) = lN (wN b s (eS b L s - s)) ↔ cu (6 + w) = wN b s (eS b L s - s)) := fun w hw => by
    have h := q8 w hw
    rw [h.1]
    exact lN_eq63 (by omega) (by omega)
  have e1 : wf mL8 (lN (wN b s (eS b L s - s))) 2 = (if cu 7 = wN b s (eS b L s - s) then nI 1 else if cu 6 = wN b s (eS b L s - s) then nI 0 else -1 : Int32) := (xif (k 1 (by decide)) (xif (k 0 (by decide)) rfl))
  have e2 : mN b L s = (if cu 6 = wN b s (eS b L s - s) then nI 0 else if cu 7 = wN b s (eS b L s - s) then nI 1 else -1 : Int32) := (xif (isW_iff (by decide) hs) (xif (isW_iff (by decide) hs) rfl))
  rw [e1, e2]
  exact wk8 _
theorem no8 {b : Nat → Int32} {L s : Nat} (hs : ¬ kS b L s = 1) : mN b L s = -1 := by
  have h : ∀ u, ¬ isW b L s u = true := fun u z => by
    unfold isW at z
    rw [decide_eq_false hs, Bool.false_and] at z
    exact absurd z (by decide)
  exact (if_neg (h _)).trans ((if_neg (h _)))
theorem q9 : ∀ w, w < 6 → cv mL9 (9 * w) 9 = cu (8 + w) ∧ cu (8 + w) < 2 ^ 62 := by decide +kernel
theorem wk9 (N : Nat) : (if cu 13 = N then nI 5 else if cu 12 = N then nI 4 else if cu 11 = N then nI 3 else if cu 10 = N then nI 2 else if cu 9 = N then nI 1 else if cu 8 = N then nI 0 else -1 : Int32) = (if cu 8 = N then nI 0 else if cu 9 = N then nI 1 else if cu 10 = N then nI 2 else if cu 11 = N then nI 3 else if cu 12 = N then nI 4 else if cu 13 = N then nI 5 else -1 : Int32) := by
  have h0 : cu 8 = 1834209 := by decide +kernel
  have h1 : cu 9 = 55042 := by decide +kernel
  have h2 : cu 10 = 201783983 := by decide +kernel
  have h3 : cu 11 = 380741 := by decide +kernel
  have h4 : cu 12 = 8529698 := by decide +kernel
  have h5 : cu 13 = 164222 := by decide +kernel
  rw [h0, h1, h2, h3, h4, h5]
  repeat' split
  all_goals first | rfl | (exfalso; omega)
theorem wf9 {b : Nat → Int32} {L s : Nat} (hs : kS b L s = 1) : wf mL9 (lN (wN b s (eS b L s - s))) 6 = oN b L s := by
  have hN := wN_lt (b := b) (s := s) (eS b L s - s) (fun j hj => ltr hs hj)
  have k : ∀ w, w < 6 → (lN (cv mL9 (9 * w) 9) = lN (wN b s (eS b L s - s)) ↔ cu (8 + w) = wN b s (eS b L s - s)) := fun w hw => by
    have h := q9 w hw
    rw [h.1]
    exact lN_eq63 (by omega) (by omega)
  have e1 : wf mL9 (lN (wN b s (eS b L s - s))) 6 = (if cu 13 = wN b s (eS b L s - s) then nI 5 else if cu 12 = wN b s (eS b L s - s) then nI 4 else if cu 11 = wN b s (eS b L s - s) then nI 3 else if cu 10 = wN b s (eS b L s - s) then nI 2 else if cu 9 = wN b s (eS b L s - s) then nI 1 else if cu 8 = wN b s (eS b L s - s) then nI 0 else -1 : Int32) := (xif (k 5 (by decide)) (xif (k 4 (by decide)) (xif (k 3 (by decide)) (xif (k 2 (by decide)) (xif (k 1 (by decide)) (xif (k 0 (by decide)) rfl))))))
  have e2 : oN b L s = (if cu 8 = wN b s (eS b L s - s) then nI 0 else if cu 9 = wN b s (eS b L s - s) then nI 1 else if cu 10 = wN b s (eS b L s - s) then nI 2 else if cu 11 = wN b s (eS b L s - s) then nI 3 else if cu 12 = wN b s (eS b L s - s) then nI 4 else if cu 13 = wN b s (eS b L s - s) then nI 5 else -1 : Int32) := (xif (isW_iff (by decide) hs) (xif (isW_iff (by decide) hs) (xif (isW_iff (by decide) hs) (xif (isW_iff (by decide) hs) (xif (isW_iff (by decide) hs) (xif (isW_iff (by decide) hs) rfl))))))
  rw [e1, e2]
  exact wk9 _
theorem no9 {b : Nat → Int32} {L s : Nat} (hs : ¬ kS b L s = 1) : oN b L s = -1 := by
  have h : ∀ u, ¬ isW b L s u = true := fun u z => by
    unfold isW at z
    rw [decide_eq_false hs, Bool.false_and] at z
    exact absurd z (by decide)
  exact (if_neg (h _)).trans ((if_neg (h _)).trans ((if_neg (h _)).trans ((if_neg (h _)).trans ((if_neg (h _)).trans ((if_neg (h _)))))))
theorem mk_4 (b : Nat → Int32) (L s : Nat) : mk b L s ≤ 4 := by
  have := kS_4 b L s
  unfold mk
  split <;> omega
theorem mk_1 {b : Nat → Int32} {L s : Nat} : mk b L s = 1 ↔ kS b L s = 1 := by
  unfold mk
  constructor
  · intro h
    split at h
    · omega
    · exact h
  · intro h
    rw [if_neg (fun z => by have := z.1; omega)]
    exact h
theorem mk_2 {b : Nat → Int32} {L s : Nat} (h : mk b L s = 2) : kS b L s = 2 ∧ nN b s (eS b L s - s) = vS b L s ∧ vS b L s ≤ 999 := by
  unfold mk at h
  split at h
  · omega
  · rename_i h9
    obtain ⟨h1, h2, h3⟩ := kS_2 h
    have hv : vS b L s = dV b s (eS b L s - s) := by unfold vS; rw [if_pos h1, if_neg h2, if_pos h3]
    have h8 : ¬ 999 < nN b s (eS b L s - s) := fun z => h9 ⟨h, z⟩
    rw [hv, dV_nN]
    omega
theorem mk_num {b : Nat → Int32} {L s lo hi : Nat} (h : num b L s lo hi) (hh : hi < 1000) : mk b L s = 2 := by
  obtain ⟨h0, hlo, hhi⟩ := h
  obtain ⟨h1, h2, h3⟩ := kS_2 h0
  have hv : vS b L s = dV b s (eS b L s - s) := by unfold vS; rw [if_pos h1, if_neg h2, if_pos h3]
  rw [hv, dV_nN] at hhi
  unfold mk
  rw [if_neg (fun z => by have := z.2; omega)]
  exact h0
set_option maxHeartbeats 4000000 in
set_option maxRecDepth 20000 in
theorem l_wo7 {K : Int32 → xH → Prop} {σ : xH} (hq : ∀ i, i < 54 → σ.1 7 i = nI (mL7.getD i 32)) {V : Int64} (ht : σ.1 0 10 = nI 1) (hv : σ.2 0 13 = V) (hk : K (wf mL7 V 6) σ) : ∀ (n i : Nat) , i + n = 6 →  Ex l (oM ad D cy) mX5_wordOf 4 [some (.ref 0), some (.ref 7), some (.int (wf mL7 V i)), some (.int (nI i)), none, none, none] [] σ (xQi K) := by
  intro n
  induction n with
  | zero =>
    intro i  hi 
    have hi : i = 6 := by omega
    subst hi
    refine x_iload_n (i := 3) dX5_wordOf_4 rfl rfl ?_
    refine x_aload_n (i := 1) dX5_wordOf_5 rfl rfl ?_
    refine x_clen (v := nI 54) dX5_wordOf_6 rfl rfl ?_
    refine x_bipush (v := nI 9) dX5_wordOf_7 (by decide) ?_
    refine x_idiv dX5_wordOf_9 (by decide) ?_
    refine x_top (y := nI 6) (by decide) ?_
    refine x_icgeN (tgt := 104) (by omega) (by omega) dX5_wordOf_10 rfl (fun h10 => ?_) (fun h10 => ?_)
    · skip
      refine x_iload_n (i := 2) dX5_wordOf_104 rfl rfl ?_
      exact x_ireti dX5_wordOf_105 rfl hk
    · exact absurd h10 (by omega)
  | succ n ih =>
    intro i  hi 
    refine x_iload_n (i := 3) dX5_wordOf_4 rfl rfl ?_
    refine x_aload_n (i := 1) dX5_wordOf_5 rfl rfl ?_
    refine x_clen (v := nI 54) dX5_wordOf_6 rfl rfl ?_
    refine x_bipush (v := nI 9) dX5_wordOf_7 (by decide) ?_
    refine x_idiv dX5_wordOf_9 (by decide) ?_
    refine x_top (y := nI 6) (by decide) ?_
    refine x_icgeN (tgt := 104) (by omega) (by omega) dX5_wordOf_10 rfl (fun h10 => ?_) (fun h10 => ?_)
    · exact absurd h10 (by omega)
    · skip
      refine x_aload_n (i := 0) dX5_wordOf_13 rfl rfl ?_
      refine x_getiE (i := 10) dX5_wordOf_14 rfl rfl rfl (by decide) fl_X5_179 inX5 ht ?_
      refine x_iconstN (n := 1) dX5_wordOf_17 ?_
      refine x_icneN (tgt := 104) (by omega) (by omega) dX5_wordOf_18 rfl (fun h18 => ?_) (fun h18 => ?_)
      · exact absurd h18 (by decide)
      · skip
        refine x_lconst (v := 0) dX5_wordOf_21 (by decide) ?_
        refine x_lstore (i := 4) (ls2 := [_, _, _, _, _, _, _]) dX5_wordOf_22 (by decide) rfl ?_
        refine x_iconstN (n := 0) dX5_wordOf_24 ?_
        refine y_istore (i := 6) (ls2 := [_, _, _, _, _, _, _]) dX5_wordOf_25 (by decide) rfl rfl ?_
        refine x_ls (ls' := [some (.ref 0), some (.ref 7), some (.int (wf mL7 V i)), some (.int (nI i)), some (.long (lN (cv mL7 (9 * i) 0))), none, some (.int (nI 0))]) rfl ?_
        refine l_wi7 hq _ (by omega) ?_ 9 0 rfl
        refine x_lload (i := 4) dX5_wordOf_82 rfl ?_
        refine x_aload_n (i := 0) dX5_wordOf_84 rfl rfl ?_
        refine x_getlE (i := 13) dX5_wordOf_85 rfl rfl rfl (by decide) fl_X5_175 inX5 hv ?_
        refine x_lcmp dX5_wordOf_88 ?_
        refine x_ifne (tgt := 96) dX5_wordOf_89 rfl (fun h89 => ?_) (fun h89 => ?_)
        · skip
          refine x_iload_n (i := 2) dX5_wordOf_96 rfl rfl ?_
          refine y_istore_n (i := 2) (ls2 := [_, _, _, _, _, _, _]) dX5_wordOf_97 rfl (by decide) rfl rfl ?_
          refine y_iincN (i := 3) (ls2 := [_, _, _, _, _, _, _]) dX5_wordOf_98 rfl (by decide) rfl rfl ?_
          refine x_goto (tgt := 4) dX5_wordOf_101 rfl ?_
          have e : wf mL7 V (i + 1) = wf mL7 V i := if_neg (lcmpN h89)
          refine x_mask [true, true, true, true, false, false, false] ?_
          refine x_ls (ls' := [some (.ref 0), some (.ref 7), some (.int (wf mL7 V (i + 1))), some (.int (nI (i + 1))), none, none, none]) (by rw [e] <;> rfl) ?_
          exact ih (i + 1) (by omega)
        · skip
          refine x_iload_n (i := 3) dX5_wordOf_92 rfl rfl ?_
          refine x_goto (tgt := 97) dX5_wordOf_93 rfl ?_
          refine y_istore_n (i := 2) (ls2 := [_, _, _, _, _, _, _]) dX5_wordOf_97 rfl (by decide) rfl rfl ?_
          refine y_iincN (i := 3) (ls2 := [_, _, _, _, _, _, _]) dX5_wordOf_98 rfl (by decide) rfl rfl ?_
          refine x_goto (tgt := 4) dX5_wordOf_101 rfl ?_
          have e : wf mL7 V (i + 1) = nI i := if_pos (lcmp0 h89)
          refine x_mask [true, true, true, true, false, false, false] ?_
          refine x_ls (ls' := [some (.ref 0), some (.ref 7), some (.int (wf mL7 V (i + 1))), some (.int (nI (i + 1))), none, none, none]) (by rw [e] <;> rfl) ?_
          exact ih (i + 1) (by omega)
set_option maxHeartbeats 4000000 in
set_option maxRecDepth 20000 in
theorem c_w7 {σ : xH} {K : Int32 → xH → Prop} {b : Nat → Int32} {L s : Nat} (hT : mT σ b L s) (hq : ∀ i, i < 54 → σ.1 7 i = nI (mL7.getD i 32)) (hk : K (kN b L s) σ) : Evi l (oM ad D cy) mX5_wordOf [.ref 0, .ref 7] σ K := by
  have hm := mk_4 b L s
  refine x_enter (ls := [some (.ref 0), some (.ref 7), none, none, none, none, none]) rfl ?_
  by_cases h1 : kS b L s = 1
  · skip
    refine x_iconst (v := -1) dX5_wordOf_0 (by decide) ?_
    refine y_istore_n (i := 2) (ls2 := [_, _, _, _, _, _, _]) dX5_wordOf_1 rfl (by decide) rfl rfl ?_
    refine x_iconstN (n := 0) dX5_wordOf_2 ?_
    refine y_istore_n (i := 3) (ls2 := [_, _, _, _, _, _, _]) dX5_wordOf_3 rfl (by decide) rfl rfl ?_
    exact l_wo7 hq (by rw [hT.1, mk_1.mpr h1]) (hT.2.2.2.1 h1) (by rw [wf7 h1]; exact hk) 6 0 rfl
  · skip
    refine x_iconst (v := -1) dX5_wordOf_0 (by decide) ?_
    refine y_istore_n (i := 2) (ls2 := [_, _, _, _, _, _, _]) dX5_wordOf_1 rfl (by decide) rfl rfl ?_
    refine x_iconstN (n := 0) dX5_wordOf_2 ?_
    refine y_istore_n (i := 3) (ls2 := [_, _, _, _, _, _, _]) dX5_wordOf_3 rfl (by decide) rfl rfl ?_
    refine x_iload_n (i := 3) dX5_wordOf_4 rfl rfl ?_
    refine x_aload_n (i := 1) dX5_wordOf_5 rfl rfl ?_
    refine x_clen (v := nI 54) dX5_wordOf_6 rfl rfl ?_
    refine x_bipush (v := nI 9) dX5_wordOf_7 (by decide) ?_
    refine x_idiv dX5_wordOf_9 (by decide) ?_
    refine x_top (y := nI 6) (by decide) ?_
    refine x_icgeN (tgt := 104) (by omega) (by omega) dX5_wordOf_10 rfl (fun h10 => ?_) (fun h10 => ?_)
    · exact absurd h10 (by decide)
    · skip
      refine x_aload_n (i := 0) dX5_wordOf_13 rfl rfl ?_
      refine x_getiE (i := 10) dX5_wordOf_14 rfl rfl rfl (by decide) fl_X5_179 inX5 hT.1 ?_
      refine x_iconstN (n := 1) dX5_wordOf_17 ?_
      refine x_icneN (tgt := 104) (by omega) (by omega) dX5_wordOf_18 rfl (fun h18 => ?_) (fun h18 => ?_)
      · skip
        refine x_iload_n (i := 2) dX5_wordOf_104 rfl rfl ?_
        exact x_ireti dX5_wordOf_105 rfl (by rw [no7 h1] at hk; exact hk)
      · exact absurd (mk_1.mp h18) h1
set_option maxHeartbeats 4000000 in
set_option maxRecDepth 20000 in
theorem l_wo8 {K : Int32 → xH → Prop} {σ : xH} (hq : ∀ i, i < 18 → σ.1 8 i = nI (mL8.getD i 32)) {V : Int64} (ht : σ.1 0 10 = nI 1) (hv : σ.2 0 13 = V) (hk : K (wf mL8 V 2) σ) : ∀ (n i : Nat) , i + n = 2 →  Ex l (oM ad D cy) mX5_wordOf 4 [some (.ref 0), some (.ref 8), some (.int (wf mL8 V i)), some (.int (nI i)), none, none, none] [] σ (xQi K) := by
  intro n
  induction n with
  | zero =>
    intro i  hi 
    have hi : i = 2 := by omega
    subst hi
    refine x_iload_n (i := 3) dX5_wordOf_4 rfl rfl ?_
    refine x_aload_n (i := 1) dX5_wordOf_5 rfl rfl ?_
    refine x_clen (v := nI 18) dX5_wordOf_6 rfl rfl ?_
    refine x_bipush (v := nI 9) dX5_wordOf_7 (by decide) ?_
    refine x_idiv dX5_wordOf_9 (by decide) ?_
    refine x_top (y := nI 2) (by decide) ?_
    refine x_icgeN (tgt := 104) (by omega) (by omega) dX5_wordOf_10 rfl (fun h10 => ?_) (fun h10 => ?_)
    · skip
      refine x_iload_n (i := 2) dX5_wordOf_104 rfl rfl ?_
      exact x_ireti dX5_wordOf_105 rfl hk
    · exact absurd h10 (by omega)
  | succ n ih =>
    intro i  hi 
    refine x_iload_n (i := 3) dX5_wordOf_4 rfl rfl ?_
    refine x_aload_n (i := 1) dX5_wordOf_5 rfl rfl ?_
    refine x_clen (v := nI 18) dX5_wordOf_6 rfl rfl ?_
    refine x_bipush (v := nI 9) dX5_wordOf_7 (by decide) ?_
    refine x_idiv dX5_wordOf_9 (by decide) ?_
    refine x_top (y := nI 2) (by decide) ?_
    refine x_icgeN (tgt := 104) (by omega) (by omega) dX5_wordOf_10 rfl (fun h10 => ?_) (fun h10 => ?_)
    · exact absurd h10 (by omega)
    · skip
      refine x_aload_n (i := 0) dX5_wordOf_13 rfl rfl ?_
      refine x_getiE (i := 10) dX5_wordOf_14 rfl rfl rfl (by decide) fl_X5_179 inX5 ht ?_
      refine x_iconstN (n := 1) dX5_wordOf_17 ?_
      refine x_icneN (tgt := 104) (by omega) (by omega) dX5_wordOf_18 rfl (fun h18 => ?_) (fun h18 => ?_)
      · exact absurd h18 (by decide)
      · skip
        refine x_lconst (v := 0) dX5_wordOf_21 (by decide) ?_
        refine x_lstore (i := 4) (ls2 := [_, _, _, _, _, _, _]) dX5_wordOf_22 (by decide) rfl ?_
        refine x_iconstN (n := 0) dX5_wordOf_24 ?_
        refine y_istore (i := 6) (ls2 := [_, _, _, _, _, _, _]) dX5_wordOf_25 (by decide) rfl rfl ?_
        refine x_ls (ls' := [some (.ref 0), some (.ref 8), some (.int (wf mL8 V i)), some (.int (nI i)), some (.long (lN (cv mL8 (9 * i) 0))), none, some (.int (nI 0))]) rfl ?_
        refine l_wi8 hq _ (by omega) ?_ 9 0 rfl
        refine x_lload (i := 4) dX5_wordOf_82 rfl ?_
        refine x_aload_n (i := 0) dX5_wordOf_84 rfl rfl ?_
        refine x_getlE (i := 13) dX5_wordOf_85 rfl rfl rfl (by decide) fl_X5_175 inX5 hv ?_
        refine x_lcmp dX5_wordOf_88 ?_
        refine x_ifne (tgt := 96) dX5_wordOf_89 rfl (fun h89 => ?_) (fun h89 => ?_)
        · skip
          refine x_iload_n (i := 2) dX5_wordOf_96 rfl rfl ?_
          refine y_istore_n (i := 2) (ls2 := [_, _, _, _, _, _, _]) dX5_wordOf_97 rfl (by decide) rfl rfl ?_
          refine y_iincN (i := 3) (ls2 := [_, _, _, _, _, _, _]) dX5_wordOf_98 rfl (by decide) rfl rfl ?_
          refine x_goto (tgt := 4) dX5_wordOf_101 rfl ?_
          have e : wf mL8 V (i + 1) = wf mL8 V i := if_neg (lcmpN h89)
          refine x_mask [true, true, true, true, false, false, false] ?_
          refine x_ls (ls' := [some (.ref 0), some (.ref 8), some (.int (wf mL8 V (i + 1))), some (.int (nI (i + 1))), none, none, none]) (by rw [e] <;> rfl) ?_
          exact ih (i + 1) (by omega)
        · skip
          refine x_iload_n (i := 3) dX5_wordOf_92 rfl rfl ?_
          refine x_goto (tgt := 97) dX5_wordOf_93 rfl ?_
          refine y_istore_n (i := 2) (ls2 := [_, _, _, _, _, _, _]) dX5_wordOf_97 rfl (by decide) rfl rfl ?_
          refine y_iincN (i := 3) (ls2 := [_, _, _, _, _, _, _]) dX5_wordOf_98 rfl (by decide) rfl rfl ?_
          refine x_goto (tgt := 4) dX5_wordOf_101 rfl ?_
          have e : wf mL8 V (i + 1) = nI i := if_pos (lcmp0 h89)
          refine x_mask [true, true, true, true, false, false, false] ?_
          refine x_ls (ls' := [some (.ref 0), some (.ref 8), some (.int (wf mL8 V (i + 1))), some (.int (nI (i + 1))), none, none, none]) (by rw [e] <;> rfl) ?_
          exact ih (i + 1) (by omega)
set_option maxHeartbeats 4000000 in
set_option maxRecDepth 20000 in
theorem c_w8 {σ : xH} {K : Int32 → xH → Prop} {b : Nat → Int32} {L s : Nat} (hT : mT σ b L s) (hq : ∀ i, i < 18 → σ.1 8 i = nI (mL8.getD i 32)) (hk : K (mN b L s) σ) : Evi l (oM ad D cy) mX5_wordOf [.ref 0, .ref 8] σ K := by
  have hm := mk_4 b L s
  refine x_enter (ls := [some (.ref 0), some (.ref 8), none, none, none, none, none]) rfl ?_
  by_cases h1 : kS b L s = 1
  · skip
    refine x_iconst (v := -1) dX5_wordOf_0 (by decide) ?_
    refine y_istore_n (i := 2) (ls2 := [_, _, _, _, _, _, _]) dX5_wordOf_1 rfl (by decide) rfl rfl ?_
    refine x_iconstN (n := 0) dX5_wordOf_2 ?_
    refine y_istore_n (i := 3) (ls2 := [_, _, _, _, _, _, _]) dX5_wordOf_3 rfl (by decide) rfl rfl ?_
    exact l_wo8 hq (by rw [hT.1, mk_1.mpr h1]) (hT.2.2.2.1 h1) (by rw [wf8 h1]; exact hk) 2 0 rfl
  · skip
    refine x_iconst (v := -1) dX5_wordOf_0 (by decide) ?_
    refine y_istore_n (i := 2) (ls2 := [_, _, _, _, _, _, _]) dX5_wordOf_1 rfl (by decide) rfl rfl ?_
    refine x_iconstN (n := 0) dX5_wordOf_2 ?_
    refine y_istore_n (i := 3) (ls2 := [_, _, _, _, _, _, _]) dX5_wordOf_3 rfl (by decide) rfl rfl ?_
    refine x_iload_n (i := 3) dX5_wordOf_4 rfl rfl ?_
    refine x_aload_n (i := 1) dX5_wordOf_5 rfl rfl ?_
    refine x_clen (v := nI 18) dX5_wordOf_6 rfl rfl ?_
    refine x_bipush (v := nI 9) dX5_wordOf_7 (by decide) ?_
    refine x_idiv dX5_wordOf_9 (by decide) ?_
    refine x_top (y := nI 2) (by decide) ?_
    refine x_icgeN (tgt := 104) (by omega) (by omega) dX5_wordOf_10 rfl (fun h10 => ?_) (fun h10 => ?_)
    · exact absurd h10 (by decide)
    · skip
      refine x_aload_n (i := 0) dX5_wordOf_13 rfl rfl ?_
      refine x_getiE (i := 10) dX5_wordOf_14 rfl rfl rfl (by decide) fl_X5_179 inX5 hT.1 ?_
      refine x_iconstN (n := 1) dX5_wordOf_17 ?_
      refine x_icneN (tgt := 104) (by omega) (by omega) dX5_wordOf_18 rfl (fun h18 => ?_) (fun h18 => ?_)
      · skip
        refine x_iload_n (i := 2) dX5_wordOf_104 rfl rfl ?_
        exact x_ireti dX5_wordOf_105 rfl (by rw [no8 h1] at hk; exact hk)
      · exact absurd (mk_1.mp h18) h1
set_option maxHeartbeats 4000000 in
set_option maxRecDepth 20000 in
theorem l_wo9 {K : Int32 → xH → Prop} {σ : xH} (hq : ∀ i, i < 54 → σ.1 9 i = nI (mL9.getD i 32)) {V : Int64} (ht : σ.1 0 10 = nI 1) (hv : σ.2 0 13 = V) (hk : K (wf mL9 V 6) σ) : ∀ (n i : Nat) , i + n = 6 →  Ex l (oM ad D cy) mX5_wordOf 4 [some (.ref 0), some (.ref 9), some (.int (wf mL9 V i)), some (.int (nI i)), none, none, none] [] σ (xQi K) := by
  intro n
  induction n with
  | zero =>
    intro i  hi 
    have hi : i = 6 := by omega
    subst hi
    refine x_iload_n (i := 3) dX5_wordOf_4 rfl rfl ?_
    refine x_aload_n (i := 1) dX5_wordOf_5 rfl rfl ?_
    refine x_clen (v := nI 54) dX5_wordOf_6 rfl rfl ?_
    refine x_bipush (v := nI 9) dX5_wordOf_7 (by decide) ?_
    refine x_idiv dX5_wordOf_9 (by decide) ?_
    refine x_top (y := nI 6) (by decide) ?_
    refine x_icgeN (tgt := 104) (by omega) (by omega) dX5_wordOf_10 rfl (fun h10 => ?_) (fun h10 => ?_)
    · skip
      refine x_iload_n (i := 2) dX5_wordOf_104 rfl rfl ?_
      exact x_ireti dX5_wordOf_105 rfl hk
    · exact absurd h10 (by omega)
  | succ n ih =>
    intro i  hi 
    refine x_iload_n (i := 3) dX5_wordOf_4 rfl rfl ?_
    refine x_aload_n (i := 1) dX5_wordOf_5 rfl rfl ?_
    refine x_clen (v := nI 54) dX5_wordOf_6 rfl rfl ?_
    refine x_bipush (v := nI 9) dX5_wordOf_7 (by decide) ?_
    refine x_idiv dX5_wordOf_9 (by decide) ?_
    refine x_top (y := nI 6) (by decide) ?_
    refine x_icgeN (tgt := 104) (by omega) (by omega) dX5_wordOf_10 rfl (fun h10 => ?_) (fun h10 => ?_)
    · exact absurd h10 (by omega)
    · skip
      refine x_aload_n (i := 0) dX5_wordOf_13 rfl rfl ?_
      refine x_getiE (i := 10) dX5_wordOf_14 rfl rfl rfl (by decide) fl_X5_179 inX5 ht ?_
      refine x_iconstN (n := 1) dX5_wordOf_17 ?_
      refine x_icneN (tgt := 104) (by omega) (by omega) dX5_wordOf_18 rfl (fun h18 => ?_) (fun h18 => ?_)
      · exact absurd h18 (by decide)
      · skip
        refine x_lconst (v := 0) dX5_wordOf_21 (by decide) ?_
        refine x_lstore (i := 4) (ls2 := [_, _, _, _, _, _, _]) dX5_wordOf_22 (by decide) rfl ?_
        refine x_iconstN (n := 0) dX5_wordOf_24 ?_
        refine y_istore (i := 6) (ls2 := [_, _, _, _, _, _, _]) dX5_wordOf_25 (by decide) rfl rfl ?_
        refine x_ls (ls' := [some (.ref 0), some (.ref 9), some (.int (wf mL9 V i)), some (.int (nI i)), some (.long (lN (cv mL9 (9 * i) 0))), none, some (.int (nI 0))]) rfl ?_
        refine l_wi9 hq _ (by omega) ?_ 9 0 rfl
        refine x_lload (i := 4) dX5_wordOf_82 rfl ?_
        refine x_aload_n (i := 0) dX5_wordOf_84 rfl rfl ?_
        refine x_getlE (i := 13) dX5_wordOf_85 rfl rfl rfl (by decide) fl_X5_175 inX5 hv ?_
        refine x_lcmp dX5_wordOf_88 ?_
        refine x_ifne (tgt := 96) dX5_wordOf_89 rfl (fun h89 => ?_) (fun h89 => ?_)
        · skip
          refine x_iload_n (i := 2) dX5_wordOf_96 rfl rfl ?_
          refine y_istore_n (i := 2) (ls2 := [_, _, _, _, _, _, _]) dX5_wordOf_97 rfl (by decide) rfl rfl ?_
          refine y_iincN (i := 3) (ls2 := [_, _, _, _, _, _, _]) dX5_wordOf_98 rfl (by decide) rfl rfl ?_
          refine x_goto (tgt := 4) dX5_wordOf_101 rfl ?_
          have e : wf mL9 V (i + 1) = wf mL9 V i := if_neg (lcmpN h89)
          refine x_mask [true, true, true, true, false, false, false] ?_
          refine x_ls (ls' := [some (.ref 0), some (.ref 9), some (.int (wf mL9 V (i + 1))), some (.int (nI (i + 1))), none, none, none]) (by rw [e] <;> rfl) ?_
          exact ih (i + 1) (by omega)
        · skip
          refine x_iload_n (i := 3) dX5_wordOf_92 rfl rfl ?_
          refine x_goto (tgt := 97) dX5_wordOf_93 rfl ?_
          refine y_istore_n (i := 2) (ls2 := [_, _, _, _, _, _, _]) dX5_wordOf_97 rfl (by decide) rfl rfl ?_
          refine y_iincN (i := 3) (ls2 := [_, _, _, _, _, _, _]) dX5_wordOf_98 rfl (by decide) rfl rfl ?_
          refine x_goto (tgt := 4) dX5_wordOf_101 rfl ?_
          have e : wf mL9 V (i + 1) = nI i := if_pos (lcmp0 h89)
          refine x_mask [true, true, true, true, false, false, false] ?_
          refine x_ls (ls' := [some (.ref 0), some (.ref 9), some (.int (wf mL9 V (i + 1))), some (.int (nI (i + 1))), none, none, none]) (by rw [e] <;> rfl) ?_
          exact ih (i + 1) (by omega)
set_option maxHeartbeats 4000000 in
set_option maxRecDepth 20000 in
theorem c_w9 {σ : xH} {K : Int32 → xH → Prop} {b : Nat → Int32} {L s : Nat} (hT : mT σ b L s) (hq : ∀ i, i < 54 → σ.1 9 i = nI (mL9.getD i 32)) (hk : K (oN b L s) σ) : Evi l (oM ad D cy) mX5_wordOf [.ref 0, .ref 9] σ K := by
  have hm := mk_4 b L s
  refine x_enter (ls := [some (.ref 0), some (.ref 9), none, none, none, none, none]) rfl ?_
  by_cases h1 : kS b L s = 1
  · skip
    refine x_iconst (v := -1) dX5_wordOf_0 (by decide) ?_
    refine y_istore_n (i := 2) (ls2 := [_, _, _, _, _, _, _]) dX5_wordOf_1 rfl (by decide) rfl rfl ?_
    refine x_iconstN (n := 0) dX5_wordOf_2 ?_
    refine y_istore_n (i := 3) (ls2 := [_, _, _, _, _, _, _]) dX5_wordOf_3 rfl (by decide) rfl rfl ?_
    exact l_wo9 hq (by rw [hT.1, mk_1.mpr h1]) (hT.2.2.2.1 h1) (by rw [wf9 h1]; exact hk) 6 0 rfl
  · skip
    refine x_iconst (v := -1) dX5_wordOf_0 (by decide) ?_
    refine y_istore_n (i := 2) (ls2 := [_, _, _, _, _, _, _]) dX5_wordOf_1 rfl (by decide) rfl rfl ?_
    refine x_iconstN (n := 0) dX5_wordOf_2 ?_
    refine y_istore_n (i := 3) (ls2 := [_, _, _, _, _, _, _]) dX5_wordOf_3 rfl (by decide) rfl rfl ?_
    refine x_iload_n (i := 3) dX5_wordOf_4 rfl rfl ?_
    refine x_aload_n (i := 1) dX5_wordOf_5 rfl rfl ?_
    refine x_clen (v := nI 54) dX5_wordOf_6 rfl rfl ?_
    refine x_bipush (v := nI 9) dX5_wordOf_7 (by decide) ?_
    refine x_idiv dX5_wordOf_9 (by decide) ?_
    refine x_top (y := nI 6) (by decide) ?_
    refine x_icgeN (tgt := 104) (by omega) (by omega) dX5_wordOf_10 rfl (fun h10 => ?_) (fun h10 => ?_)
    · exact absurd h10 (by decide)
    · skip
      refine x_aload_n (i := 0) dX5_wordOf_13 rfl rfl ?_
      refine x_getiE (i := 10) dX5_wordOf_14 rfl rfl rfl (by decide) fl_X5_179 inX5 hT.1 ?_
      refine x_iconstN (n := 1) dX5_wordOf_17 ?_
      refine x_icneN (tgt := 104) (by omega) (by omega) dX5_wordOf_18 rfl (fun h18 => ?_) (fun h18 => ?_)
      · skip
        refine x_iload_n (i := 2) dX5_wordOf_104 rfl rfl ?_
        exact x_ireti dX5_wordOf_105 rfl (by rw [no9 h1] at hk; exact hk)
      · exact absurd (mk_1.mp h18) h1
end
