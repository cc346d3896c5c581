theorem xE_start {p : Program} {s : State} {m : MethodId} {meth : Method} {c : Code} {b L : Nat} {xs : Nat → Int32} (C0 : lw_At p s m meth c b L xs) : ∃ z : Nat → Nat, ∀ Ω : xW, (∀ k, 1000 ≤ k → xad Ω k = z k) → xE Ω (fun q => s.heap.size ≤ q) s s.heap := by
  obtain ⟨hx, hb, hr, hml, hown, hts, hX, hbl, hlocks, hgv⟩ := id C0
  have hs := flat_of_before _ hgv
  have hA : ∀ a : Nat, a < s.heap.size → ¬ (fun q : Nat => s.heap.size ≤ q) a := fun a h => Nat.not_le.mpr h
  obtain ⟨adK, adV, hS, hev⟩ := vk_Sof (N := 14) (tm := tm) (len := xlen) (byt := xbyt) (A := fun q => s.heap.size ≤ q) tq7 (fun i hi => hs _ (tq1 i hi)) (fun i hi => hs _ (tq2 i hi)) (fun i hi => hs _ (tq3 i hi)) (fun i hi => hs _ (tq4 i hi)) (fun i hi j hj => hs _ (tq5 i hi j hj)) (fun i j hi hj hij => (Nat.lt_or_gt_of_ne hij).elim (fun h => Or.inl (hs _ (tq6 i hi j hj h))) (fun h => Or.inr (hs _ (tq6 j hj i hi h)))) hA
  have hZ1 : va_Z RJ0 "COMPACT_STRINGS" "Z" (.int 1) (fun q => s.heap.size ≤ q) s s.heap := va_Zof (hts _ tl1) (hts _ (gt_in in_J0)) (va_eqi (hs _ tq8)) hA
  have hZ2 : va_Zq RJ3 "SIOOBE_FORMATTER" "Ljava/util/function/BiFunction;" (fun q => s.heap.size ≤ q) s s.heap := va_Zqof (hts _ tl2) (hts _ (gt_in in_J3)) (hs _ tq9) hA
  have hNw : va_Nw (.methodLinkNest RX3 43 yX4_placeOf RX4) s := va_Nw.of rfl (hts _ tl3)
  obtain ⟨t, hZ3⟩ : ∃ t : Nat, va_Z RJ3 "SIOOBE_FORMATTER" "Ljava/util/function/BiFunction;" .null (fun q => s.heap.size ≤ q) s s.heap ∨ va_Z RJ3 "SIOOBE_FORMATTER" "Ljava/util/function/BiFunction;" (.ref t) (fun q => s.heap.size ≤ q) s s.heap := by
    rcases hZ2 with h | ⟨t, h⟩
    · exact ⟨0, Or.inl h⟩
    · exact ⟨t, Or.inr h⟩
  refine ⟨fun k => if k = 3000 then t else if 2000 ≤ k then adV (k - 2000) else adK (k - 1000), fun Ω hΩ => ?_⟩
  have e1 : ∀ i, i < 14 → xad Ω (1000 + i) = adK i := fun i hi => by
    refine (hΩ _ (by omega)).trans ?_
    show (if 1000 + i = 3000 then t else if 2000 ≤ 1000 + i then adV (1000 + i - 2000) else adK (1000 + i - 1000)) = adK i
    rw [if_neg (by omega), if_neg (by omega), show 1000 + i - 1000 = i by omega]
  have e2 : ∀ i, i < 14 → xad Ω (2000 + i) = adV i := fun i hi => by
    refine (hΩ _ (by omega)).trans ?_
    show (if 2000 + i = 3000 then t else if 2000 ≤ 2000 + i then adV (2000 + i - 2000) else adK (2000 + i - 1000)) = adV i
    rw [if_neg (by omega), if_pos (by omega), show 2000 + i - 2000 = i by omega]
  have e3 : xad Ω 3000 = t := (hΩ _ (by omega)).trans (if_pos rfl)
  refine ⟨hNw, ⟨fun i hi => ?_, fun i j hi hj h => ?_⟩, fun i q hi => ?_, hZ1, ?_⟩
  · have h := hS.1 i hi
    show va_O _ (xad Ω (1000 + i)) _ _ _ ∧ va_OF _ _ _ _ (xad Ω (1000 + i)) _ _ _ ∧ va_OF _ _ _ (.ref (xad Ω (2000 + i))) (xad Ω (1000 + i)) _ _ _ ∧ va_T _ (xad Ω (2000 + i)) _ _ _ _ _
    rw [e1 i hi, e2 i hi]
    exact h
  · have h : xad Ω (1000 + i) = xad Ω (1000 + j) := h
    rw [e1 i hi, e1 j hj] at h
    exact hS.2 i j hi hj h
  · have hlt : i < 14 := (List.getElem?_eq_some_iff.mp hi).1
    rw [e1 i hlt]
    have hv := hev i hlt
    match i, hi, hv with
    | 0, hi, hv => cases hi; exact vk_R.of (hts _ ts0) hv
    | 1, hi, hv => cases hi; exact vk_R.of (hts _ ts1) hv
    | 2, hi, hv => cases hi; exact vk_R.of (hts _ ts2) hv
    | 3, hi, hv => cases hi; exact vk_R.of (hts _ ts3) hv
    | 4, hi, hv => cases hi; exact vk_R.of (hts _ ts4) hv
    | 5, hi, hv => cases hi; exact vk_R.of (hts _ ts5) hv
    | 6, hi, hv => cases hi; exact vk_R.of (hts _ ts6) hv
    | 7, hi, hv => cases hi; exact vk_R.of (hts _ ts7) hv
    | 8, hi, hv => cases hi; exact vk_R.of (hts _ ts8) hv
    | 9, hi, hv => cases hi; exact vk_R.of (hts _ ts9) hv
    | 10, hi, hv => cases hi; exact vk_R.of (hts _ ts10) hv
    | 11, hi, hv => cases hi; exact vk_R.of (hts _ ts11) hv
    | 12, hi, hv => cases hi; exact vk_R.of (hts _ ts12) hv
    | 13, hi, hv => cases hi; exact vk_R.of (hts _ ts13) hv
    | i + 14, hi, _ => exact absurd (List.getElem?_eq_some_iff.mp hi).1 (Nat.not_lt.mpr (Nat.le_add_left _ _))
  · unfold xZq
    rw [e3]
    exact hZ3
