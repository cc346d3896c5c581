section
variable {l : Launch} {ad : Nat → Nat} {D : va_G} {cy : Nat → ClassId}
theorem nx_ge {b : Nat → Int32} {L s : Nat} (h : s ≤ L) : s ≤ nx b L s := by
  have h1 := eS_le (b := b) h
  have h2 := tSt_le (b := b) h1.2
  unfold nx
  omega
theorem nx_gt {b : Nat → Int32} {L s : Nat} (h : s < L) : s < nx b L s := by
  have h0 := eS_lt (b := b) h
  have h1 := eS_le (b := b) (Nat.le_of_lt h)
  have h2 := tSt_le (b := b) h1.2
  unfold nx
  omega
theorem pTm_ge {b : Nat → Int32} {L s : Nat} {T : Tw} {v : Int32} (h : s ≤ L) : s ≤ (pTm b L s T v).2.1 := by
  have h1 := nx_ge (b := b) h
  have h2 := nx_ge (b := b) (nx_le (b := b) h)
  unfold pTm
  repeat' split
  all_goals first | exact Nat.le_refl _ | exact h1 | exact Nat.le_trans h1 h2
theorem pDi_ge {b : Nat → Int32} {L s d : Nat} {T : Tw} (h : s ≤ L) : s ≤ (pDi b L s d T).2.1 := by
  have h1 := nx_ge (b := b) h
  have h2 := nx_ge (b := b) (nx_le (b := b) h)
  unfold pDi
  repeat' split
  all_goals first | exact Nat.le_refl _ | exact h1 | exact Nat.le_trans h1 h2
theorem pDw_ge {b : Nat → Int32} {L s d : Nat} {T : Tw} (h : s ≤ L) : s ≤ (pDw b L s d T).2.1 := by
  have h1 := nx_ge (b := b) h
  have h2 := nx_ge (b := b) (nx_le (b := b) h)
  have h3 := nx_le (b := b) (nx_le (b := b) h)
  unfold pDw
  repeat' split
  all_goals first | exact h1 | exact Nat.le_trans (Nat.le_trans h1 h2) (pDi_ge h3) | exact pDi_ge h
theorem pIt_gt {b : Nat → Int32} {L s : Nat} {T : Tw} (h : (pIt b L s T).1 = true) (hs : s ≤ L) : s < (pIt b L s T).2.1 := by
  have key : kS b L s = 1 → s < nx b L s ∧ nx b L s ≤ L := fun z => ⟨nx_gt (kS_1 z).1, nx_le hs⟩
  unfold pIt at h ⊢
  split at h
  · rename_i h1
    obtain ⟨k1, k2⟩ := key h1
    rw [if_pos h1]
    split at h
    · rename_i h2
      rw [if_pos h2]
      split at h
      · rename_i h3
        rw [if_pos h3]
        split at h
        · rename_i h4
          rw [if_pos h4]
          split at h
          · rename_i h5
            rw [if_pos h5]
            exact Nat.lt_of_lt_of_le k1 (nx_ge k2)
          · exact absurd h Bool.false_ne_true
        · exact absurd h Bool.false_ne_true
      · rename_i h3
        rw [if_neg h3]
        exact Nat.lt_of_lt_of_le k1 (pTm_ge k2)
    · rename_i h2
      rw [if_neg h2]
      unfold pDr at h ⊢
      split at h
      · rename_i h3
        rw [if_pos h3]
        exact Nat.lt_of_lt_of_le k1 (pDw_ge k2)
      · exact absurd h Bool.false_ne_true
  · exact absurd h Bool.false_ne_true
theorem mk_0 {b : Nat → Int32} {L s : Nat} : mk b L s = 0 ↔ kS b L s = 0 := by
  unfold mk
  constructor
  · intro h
    split at h
    · omega
    · exact h
  · intro h
    rw [if_neg (fun z => by have := z.1; omega)]
    exact h
theorem mk_3 {b : Nat → Int32} {L s : Nat} : mk b L s = 3 ↔ kS b L s = 3 := by
  unfold mk
  constructor
  · intro h
    split at h
    · omega
    · exact h
  · intro h
    rw [if_neg (fun z => by have := z.1; omega)]
    exact h
theorem kS_lt {b : Nat → Int32} {L s : Nat} (h : kS b L s = 3) : s < L := Classical.byContradiction fun z => by
  unfold kS at h
  rw [if_neg z] at h
  omega
set_option maxHeartbeats 4000000 in
set_option maxRecDepth 20000 in
theorem l_tend {σ : xH} {K : Int32 → xH → Prop} {b : Nat → Int32} {L s m : Nat} {T : Tw} (h : pm σ b L s T) {p : Prop} [Decidable p] (hk1 : p → kS b L s = 0 → K (nI m) (xpi σ 0 9 (nI 0))) (hk : ¬ (p ∧ kS b L s = 0) → ∀ ω, (∀ j, j < 147 → ω.1 1 j = (xpi σ 0 9 (nI 0)).1 3 j) → fc 1 (xpi σ 0 9 (nI 0)) ω → K (-1 - nI s) ω) : Ex l (oM ad D cy) mX5_town 47 [some (.ref 0), some (.int (nI m)), some (.int (xb p))] [] σ (xQi K) := by
  have hm := mk_4 b L s
  refine x_iload_n (i := 2) dX5_town_47 rfl rfl ?_
  refine x_ifeqP (tgt := 62) dX5_town_48 rfl (fun h48 => ?_) (fun h48 => ?_)
  · skip
    refine x_iconstN (n := 0) dX5_town_62 ?_
    refine y_istore_n (i := 2) (ls2 := [_, _, _]) dX5_town_63 rfl (by decide) rfl rfl ?_
    refine x_aload_n (i := 0) dX5_town_64 rfl rfl ?_
    refine x_iconstN (n := 0) dX5_town_65 ?_
    refine x_puti (i := 9) (ty := .int) dX5_town_66 rfl rfl rfl (by decide) fl_X5_166 inX5 tyX5_ok nmX5 rfl rfl rfl rfl ?_
    refine x_iload_n (i := 2) dX5_town_69 rfl rfl ?_
    refine x_ifne (tgt := 84) dX5_town_70 rfl (fun h70 => ?_) (fun h70 => ?_)
    · exact absurd h70 (by decide)
    · skip
      refine x_aload_n (i := 0) dX5_town_73 rfl rfl ?_
      refine x_v0v dX5_town_74 okX5_laysBack ml_X5_156 rfl rfl (Nat.le_of_ble_eq_true rfl) ⟨by decide, by decide⟩ (Nat.le_of_ble_eq_true rfl) (c_X5_laysBack (fun ω a4 f4 => ?_))
      refine x_iconst (v := -1) dX5_town_77 (by decide) ?_
      refine x_aload_n (i := 0) dX5_town_78 rfl rfl ?_
      refine x_getiE (i := 11) dX5_town_79 rfl rfl rfl (by decide) fl_X5_172 inX5 (show ω.1 0 11 = nI s by rw [f4.2 0 (by omega), xp_o (by omega)]; exact h.2.1.2.1) ?_
      refine x_isub dX5_town_82 ?_
      exact x_ireti dX5_town_83 rfl (hk (fun z => h48 z.1) ω a4 f4)
  · skip
    refine x_aload_n (i := 0) dX5_town_51 rfl rfl ?_
    refine x_getiE (i := 10) dX5_town_52 rfl rfl rfl (by decide) fl_X5_179 inX5 h.2.1.1 ?_
    refine x_ifne (tgt := 62) dX5_town_55 rfl (fun h55 => ?_) (fun h55 => ?_)
    · skip
      refine x_iconstN (n := 0) dX5_town_62 ?_
      refine y_istore_n (i := 2) (ls2 := [_, _, _]) dX5_town_63 rfl (by decide) rfl rfl ?_
      refine x_aload_n (i := 0) dX5_town_64 rfl rfl ?_
      refine x_iconstN (n := 0) dX5_town_65 ?_
      refine x_puti (i := 9) (ty := .int) dX5_town_66 rfl rfl rfl (by decide) fl_X5_166 inX5 tyX5_ok nmX5 rfl rfl rfl rfl ?_
      refine x_iload_n (i := 2) dX5_town_69 rfl rfl ?_
      refine x_ifne (tgt := 84) dX5_town_70 rfl (fun h70 => ?_) (fun h70 => ?_)
      · exact absurd h70 (by decide)
      · skip
        refine x_aload_n (i := 0) dX5_town_73 rfl rfl ?_
        refine x_v0v dX5_town_74 okX5_laysBack ml_X5_156 rfl rfl (Nat.le_of_ble_eq_true rfl) ⟨by decide, by decide⟩ (Nat.le_of_ble_eq_true rfl) (c_X5_laysBack (fun ω a4 f4 => ?_))
        refine x_iconst (v := -1) dX5_town_77 (by decide) ?_
        refine x_aload_n (i := 0) dX5_town_78 rfl rfl ?_
        refine x_getiE (i := 11) dX5_town_79 rfl rfl rfl (by decide) fl_X5_172 inX5 (show ω.1 0 11 = nI s by rw [f4.2 0 (by omega), xp_o (by omega)]; exact h.2.1.2.1) ?_
        refine x_isub dX5_town_82 ?_
        exact x_ireti dX5_town_83 rfl (hk (fun z => h55 (by rw [mk_0.mpr z.2]; rfl)) ω a4 f4)
    · skip
      refine x_iconstN (n := 1) dX5_town_58 ?_
      refine x_goto (tgt := 63) dX5_town_59 rfl ?_
      refine y_istore_n (i := 2) (ls2 := [_, _, _]) dX5_town_63 rfl (by decide) rfl rfl ?_
      refine x_aload_n (i := 0) dX5_town_64 rfl rfl ?_
      refine x_iconstN (n := 0) dX5_town_65 ?_
      refine x_puti (i := 9) (ty := .int) dX5_town_66 rfl rfl rfl (by decide) fl_X5_166 inX5 tyX5_ok nmX5 rfl rfl rfl rfl ?_
      refine x_iload_n (i := 2) dX5_town_69 rfl rfl ?_
      refine x_ifne (tgt := 84) dX5_town_70 rfl (fun h70 => ?_) (fun h70 => ?_)
      · skip
        refine x_iload_n (i := 1) dX5_town_84 rfl rfl ?_
        exact x_ireti dX5_town_85 rfl (hk1 h48 (mk_0.mp (nI0 (by omega) h55)))
      · exact absurd h70 (by decide)
set_option maxHeartbeats 4000000 in
set_option maxRecDepth 20000 in
theorem l_town {σ0 : xH} {K : Int32 → xH → Prop} {b : Nat → Int32} {L : Nat} {R : Int32 × Tw} (hk1 : ∀ σ s m T, m ≤ 120 → R = (nI m, T) → gp σ0 σ → pm σ b L s T → K (nI m) (xpi σ 0 9 (nI 0))) (hk : ∀ σ s T, R.1 = -1 - nI s → gp σ0 σ → pm σ b L s T → ∀ ω, (∀ j, j < 147 → ω.1 1 j = (xpi σ 0 9 (nI 0)).1 3 j) → fc 1 (xpi σ 0 9 (nI 0)) ω → K (-1 - nI s) ω) : ∀ (f s m : Nat) (T : Tw) (σ : xH), m + f = 120 → m ≤ s + 1 → s ≤ L → R = pAll b L (f + 1) s T m → pm σ b L (pIt b L s T).2.1 (pIt b L s T).2.2 → gp σ0 σ → Ex l (oM ad D cy) mX5_town 20 [some (.ref 0), some (.int (nI m)), some (.int (xb ((pIt b L s T).1 = true)))] [] σ (xQi K) := by
  intro f
  induction f with
  | zero =>
    intro s m T σ hm hms hsL hR h hf
    have hm4 := mk_4 b L (pIt b L s T).2.1
    have hL := h.1.2.2
    rw [pAll] at hR
    refine x_iload_n (i := 2) dX5_town_20 rfl rfl ?_
    refine x_ifeqP (tgt := 47) dX5_town_21 rfl (fun h21 => ?_) (fun h21 => ?_)
    · skip
      rw [if_neg h21] at hR
      exact l_tend h (fun z => absurd z h21) (fun _ => hk σ _ _ (by rw [hR]) hf h)
    · skip
      refine x_aload_n (i := 0) dX5_town_24 rfl rfl ?_
      refine x_getiE (i := 10) dX5_town_25 rfl rfl rfl (by decide) fl_X5_179 inX5 h.2.1.1 ?_
      refine x_iconstN (n := 3) dX5_town_28 ?_
      refine x_icneN (tgt := 47) (by omega) (by omega) dX5_town_29 rfl (fun h29 => ?_) (fun h29 => ?_)
      · skip
        rw [if_pos h21] at hR
        have h3 : ¬ kS b L (pIt b L s T).2.1 = 3 := fun z => h29 (mk_3.mpr z)
        refine l_tend h (fun _ z => ?_) (fun z => ?_)
        · rw [if_pos z] at hR
          exact hk1 σ _ m _ (by omega) hR hf h
        · rw [if_neg (fun q => z ⟨h21, q⟩), if_neg h3] at hR
          exact hk σ _ _ (by rw [hR]) hf h
      · skip
        exfalso
        have h1 := pIt_gt h21 hsL
        have h2 := kS_lt (mk_3.mp h29)
        omega
  | succ f ih =>
    intro s m T σ hm hms hsL hR h hf
    have hm4 := mk_4 b L (pIt b L s T).2.1
    have hL := h.1.2.2
    rw [pAll] at hR
    refine x_iload_n (i := 2) dX5_town_20 rfl rfl ?_
    refine x_ifeqP (tgt := 47) dX5_town_21 rfl (fun h21 => ?_) (fun h21 => ?_)
    · skip
      rw [if_neg h21] at hR
      exact l_tend h (fun z => absurd z h21) (fun _ => hk σ _ _ (by rw [hR]) hf h)
    · skip
      refine x_aload_n (i := 0) dX5_town_24 rfl rfl ?_
      refine x_getiE (i := 10) dX5_town_25 rfl rfl rfl (by decide) fl_X5_179 inX5 h.2.1.1 ?_
      refine x_iconstN (n := 3) dX5_town_28 ?_
      refine x_icneN (tgt := 47) (by omega) (by omega) dX5_town_29 rfl (fun h29 => ?_) (fun h29 => ?_)
      · skip
        rw [if_pos h21] at hR
        have h3 : ¬ kS b L (pIt b L s T).2.1 = 3 := fun z => h29 (mk_3.mpr z)
        refine l_tend h (fun _ z => ?_) (fun z => ?_)
        · rw [if_pos z] at hR
          exact hk1 σ _ m _ (by omega) hR hf h
        · rw [if_neg (fun q => z ⟨h21, q⟩), if_neg h3] at hR
          exact hk σ _ _ (by rw [hR]) hf h
      · skip
        refine x_aload_n (i := 0) dX5_town_32 rfl rfl ?_
        refine x_v0v dX5_town_33 okX5_nextToken ml_X5_200 rfl rfl (Nat.le_of_ble_eq_true rfl) ⟨by decide, by decide⟩ (Nat.le_of_ble_eq_true rfl) (c_nextM h (fun τ1 h1n hf1 => ?_))
        refine x_aload_n (i := 0) dX5_town_36 rfl rfl ?_
        refine x_v0i dX5_town_37 okX5_readsItem ml_X5_216 rfl rfl (Nat.le_of_ble_eq_true rfl) ⟨by decide, by decide⟩ (Nat.le_of_ble_eq_true rfl) (c_X5_readsItem h1n (fun τ2 a2 f2 => ?_))
        refine y_istore_n (i := 2) (ls2 := [_, _, _]) dX5_town_40 rfl (by decide) rfl rfl ?_
        refine y_iincN (i := 1) (ls2 := [_, _, _]) dX5_town_41 rfl (by decide) rfl rfl ?_
        refine x_goto (tgt := 20) dX5_town_44 rfl ?_
        rw [if_pos h21, if_neg (fun z => by have := mk_3.mp h29; omega), if_pos (mk_3.mp h29)] at hR
        have h1 := pIt_gt h21 hsL
        have h2 := nx_gt (b := b) (kS_lt (mk_3.mp h29))
        exact ih _ (m + 1) _ τ2 (by omega) (by omega) h1n.2.2.2.1 hR a2 (gp_tr hf (gp_tr hf1 f2))
theorem neg1 {s : Nat} (h : s ≤ 120) : (-1 - nI s : Int32) < 0 := by
  have key : ∀ s, s < 121 → (-1 - nI s : Int32) < 0 := by decide +kernel
  exact key s (by omega)
theorem mS_ok {σ σ0 σ1 : xH} {S : St} (hS : mS σ S) (f0 : fc 3 σ σ0) (f : gp σ0 σ1) {T : Tw} (hw : ms σ1 1 T) : mS (xpi σ1 0 9 (nI 0)) (pTape (pT S T) 0 (gB S)) := by
  obtain ⟨h1, h2, h3, h4, h5, h6, h7, h8, h9⟩ := hS
  have e : ∀ q, q ≠ 0 → (xpi σ1 0 9 (nI 0)).1 q = σ1.1 q := fun q hq => xui_o _ _ hq
  have e2 : ∀ q, q ≠ 0 → q ≠ 1 → q ≠ 5 → q ≠ 3 → (xpi σ1 0 9 (nI 0)).1 q = σ.1 q := fun q a b c d => (e q a).trans ((f.1 q a b c).trans (f0.2 q d))
  refine ⟨ms_keep hw (fun i _ => by rw [e 1 (by omega)]), by rw [xp_o (by omega), f.2.1 3 (by omega) (by omega) (by omega), f0.2 0 (by omega)]; exact h2, fun U hU => ms_keep (h3 U hU) (fun i _ => by rw [e2 2 (by omega) (by omega) (by omega) (by omega)]), xp_s, fun i hi => absurd hi (Nat.not_lt_zero _), Nat.zero_le _, fun j hj => ?_, fun i hi => by rw [e2 4 (by omega) (by omega) (by omega) (by omega)]; exact h8 i hi, mW_of h9 (fun q a c => e2 q (by omega) (by omega) (by omega) (by omega))⟩
  obtain ⟨g1, g2, g3, g4⟩ := h7 j hj
  exact ⟨by rw [e2 10 (by omega) (by omega) (by omega) (by omega)]; exact g1, by rw [e2 11 (by omega) (by omega) (by omega) (by omega)]; exact g2, fun i hi => (show σ1.2 12 (40 * j + i) = gN S j i by rw [f.2.2 12 (by omega), f0.1]; exact g3 i hi), g4⟩
theorem mS_no {σ σ0 σ1 ω : xH} {S : St} (hS : mS σ S) (h0 : ∀ j, j < 147 → σ0.1 3 j = σ.1 1 j) (f0 : fc 3 σ σ0) (f : gp σ0 σ1) (ha : ∀ j, j < 147 → ω.1 1 j = (xpi σ1 0 9 (nI 0)).1 3 j) (fb : fc 1 (xpi σ1 0 9 (nI 0)) ω) : mS ω (pTape S 0 (gB S)) := by
  have hw : ms ω 1 (gT S) := ms_keep hS.1 (fun i hi => by rw [ha i hi, xui_o _ _ (by omega), f.1 3 (by omega) (by omega) (by omega), h0 i hi])
  obtain ⟨h1, h2, h3, h4, h5, h6, h7, h8, h9⟩ := hS
  have e2 : ∀ q, q ≠ 0 → q ≠ 1 → q ≠ 5 → q ≠ 3 → ω.1 q = σ.1 q := fun q a b c d => (fb.2 q b).trans ((xui_o _ _ a).trans ((f.1 q a b c).trans (f0.2 q d)))
  refine ⟨hw, by rw [fb.2 0 (by omega), xp_o (by omega), f.2.1 3 (by omega) (by omega) (by omega), f0.2 0 (by omega)]; exact h2, fun U hU => ms_keep (h3 U hU) (fun i _ => by rw [e2 2 (by omega) (by omega) (by omega) (by omega)]), by rw [fb.2 0 (by omega)]; exact xp_s, fun i hi => absurd hi (Nat.not_lt_zero _), Nat.zero_le _, fun j hj => ?_, fun i hi => by rw [e2 4 (by omega) (by omega) (by omega) (by omega)]; exact h8 i hi, mW_of h9 (fun q a c => e2 q (by omega) (by omega) (by omega) (by omega))⟩
  obtain ⟨g1, g2, g3, g4⟩ := h7 j hj
  exact ⟨by rw [e2 10 (by omega) (by omega) (by omega) (by omega)]; exact g1, by rw [e2 11 (by omega) (by omega) (by omega) (by omega)]; exact g2, fun i hi => by rw [fb.1]; exact (show σ1.2 12 (40 * j + i) = gN S j i by rw [f.2.2 12 (by omega), f0.1]; exact g3 i hi), g4⟩
set_option maxHeartbeats 4000000 in
set_option maxRecDepth 20000 in
theorem c_X5_town {σ : xH} {K : Int32 → xH → Prop} {S : St} (hS : mS σ S) (hO : tOk (gT S))  (hk : ∀ τ, mS τ (oTown S).2 → K (oTown S).1 τ) : Evi l (oM ad D cy) mX5_town [.ref 0] σ K := by
  have hs := hS.1
  have h8 := ms_8 hs
  refine x_enter (ls := [some (.ref 0), none, none]) rfl ?_
  unfold oTown at hk
  refine x_aload_n (i := 0) dX5_town_0 rfl rfl ?_
  refine x_v0v dX5_town_1 okX5_setsAside ml_X5_153 rfl rfl (Nat.le_of_ble_eq_true rfl) ⟨by decide, by decide⟩ (Nat.le_of_ble_eq_true rfl) (c_X5_setsAside (fun σ0 a0 f0 => ?_))
  refine x_aload_n (i := 0) dX5_town_4 rfl rfl ?_
  refine x_iconstN (n := 0) dX5_town_5 ?_
  refine x_puti (i := 12) (ty := .int) dX5_town_6 rfl rfl rfl (by decide) fl_X5_169 inX5 tyX5_ok nmX5 rfl rfl rfl rfl ?_
  refine x_aload_n (i := 0) dX5_town_9 rfl rfl ?_
  refine x_v0v dX5_town_10 okX5_nextToken ml_X5_200 rfl rfl (Nat.le_of_ble_eq_true rfl) ⟨by decide, by decide⟩ (Nat.le_of_ble_eq_true rfl) (c_X5_nextToken (e := 0) (b := gB S) (L := gL S) (mp_gf (k := 10) (σ := σ0) ⟨by rw [f0.2 0 (by omega)]; exact hS.2.2.2.1, fun i hi => by rw [f0.2 6 (by omega)]; exact hS.2.2.2.2.1 i hi, hS.2.2.2.2.2.1⟩ (gf_p (by omega)) (by omega)) (Nat.zero_le _) xp_s (fun τ1 hT1 hf1 => ?_))
  refine x_iconstN (n := 1) dX5_town_13 ?_
  refine y_istore_n (i := 1) (ls2 := [_, _, _]) dX5_town_14 rfl (by decide) rfl rfl ?_
  refine x_aload_n (i := 0) dX5_town_15 rfl rfl ?_
  have f1 : gf 10 σ0 τ1 := gf_tr (gf_p (by omega)) hf1
  have h1 : pm τ1 (gB S) (gL S) (tSt (gB S) (gL S) 0) (gT S) := ⟨mp_gf (k := 10) (σ := σ0) ⟨by rw [f0.2 0 (by omega)]; exact hS.2.2.2.1, fun i hi => by rw [f0.2 6 (by omega)]; exact hS.2.2.2.2.1 i hi, hS.2.2.2.2.2.1⟩ f1 (by omega), hT1, ms_keep hs (fun i _ => by rw [f1.1 1 (by omega), f0.2 1 (by omega)]), (tSt_le (Nat.zero_le _)).2, mW_of hS.2.2.2.2.2.2.2.2 (fun q a c => (f1.1 q (by omega)).trans (f0.2 q (by omega)))⟩
  refine x_v0i dX5_town_16 okX5_readsItem ml_X5_216 rfl rfl (Nat.le_of_ble_eq_true rfl) ⟨by decide, by decide⟩ (Nat.le_of_ble_eq_true rfl) (c_X5_readsItem (T := gT S) h1 (fun τ2 a2 f2 => ?_))
  refine y_istore_n (i := 2) (ls2 := [_, _, _]) dX5_town_19 rfl (by decide) rfl rfl ?_
  refine l_town (σ0 := σ0) (R := pTn (gB S) (gL S) (gT S)) ?_ ?_ 119 _ 1 _ τ2 rfl (by omega) h1.2.2.2.1 rfl a2 (gp_tr (gf_gp f1 (by omega)) f2)
  · intro σ1 s m T hm hR hf h
    rw [hR] at hk
    rw [if_neg (show ¬ nI m < 0 from nI_pos (by omega))] at hk
    exact hk _ (mS_ok hS f0 hf h.2.2.1)
  · intro σ1 s T hR hf h ω ha fb
    have hL := h.1.2.2
    have hsL := h.2.2.2.1
    rw [hR] at hk
    rw [if_pos (neg1 (by omega))] at hk
    exact hk ω (mS_no hS a0 f0 hf ha fb)
end
