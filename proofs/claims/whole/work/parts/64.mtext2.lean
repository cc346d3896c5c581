section
variable {l : Launch} {ad : Nat → Nat} {D : va_G} {cy : Nat → ClassId}
theorem kN_1 {b : Nat → Int32} {L s : Nat} (h : ¬ kN b L s < 0) : kS b L s = 1 := Classical.byContradiction fun z => h (by rw [no7 z]; decide)
theorem oN_no {b : Nat → Int32} {L s : Nat} (h : ¬ 0 ≤ oN b L s) : tNm b L s < 0 ∧ ¬ isW b L s 13 = true := by
  unfold oN at h
  unfold tNm
  by_cases h8 : isW b L s 8 = true
  · rw [if_pos h8] at h; exact absurd (by decide) h
  rw [if_neg h8] at h ⊢
  by_cases h9 : isW b L s 9 = true
  · rw [if_pos h9] at h; exact absurd (by decide) h
  rw [if_neg h9] at h ⊢
  by_cases h10 : isW b L s 10 = true
  · rw [if_pos h10] at h; exact absurd (by decide) h
  rw [if_neg h10] at h ⊢
  by_cases h11 : isW b L s 11 = true
  · rw [if_pos h11] at h; exact absurd (by decide) h
  rw [if_neg h11] at h ⊢
  by_cases h12 : isW b L s 12 = true
  · rw [if_pos h12] at h; exact absurd (by decide) h
  rw [if_neg h12] at h ⊢
  by_cases h13 : isW b L s 13 = true
  · rw [if_pos h13] at h; exact absurd (by decide) h
  exact ⟨by decide, h13⟩
theorem oN_1 {b : Nat → Int32} {L s : Nat} (h : 0 ≤ oN b L s) : kS b L s = 1 := Classical.byContradiction fun z => by rw [no9 z] at h; exact absurd h (by decide)
theorem oN_th {b : Nat → Int32} {L s : Nat} (h : 0 ≤ oN b L s) (h5 : ¬ nI 5 ≤ oN b L s) : tNm b L s = oN b L s ∧ ¬ tNm b L s < 0 := by
  have key : ¬ tNm b L s < 0 → tNm b L s = oN b L s := by
    unfold tNm oN
    repeat' split
    all_goals first | (intro _; rfl) | (intro z; exact absurd (by decide) z)
  have k2 : ¬ tNm b L s < 0 := fun z => by
    unfold tNm at z
    unfold oN at h h5
    by_cases h8 : isW b L s 8 = true
    · rw [if_pos h8] at z; exact absurd z (by decide)
    rw [if_neg h8] at z h h5
    by_cases h9 : isW b L s 9 = true
    · rw [if_pos h9] at z; exact absurd z (by decide)
    rw [if_neg h9] at z h h5
    by_cases h10 : isW b L s 10 = true
    · rw [if_pos h10] at z; exact absurd z (by decide)
    rw [if_neg h10] at z h h5
    by_cases h11 : isW b L s 11 = true
    · rw [if_pos h11] at z; exact absurd z (by decide)
    rw [if_neg h11] at z h h5
    by_cases h12 : isW b L s 12 = true
    · rw [if_pos h12] at z; exact absurd z (by decide)
    rw [if_neg h12] at z h h5
    by_cases h13 : isW b L s 13 = true
    · rw [if_pos h13] at h5; exact absurd (by decide) h5
    · rw [if_neg h13] at h; exact absurd h (by decide)
  exact ⟨key k2, k2⟩
theorem oN_hi {b : Nat → Int32} {L s : Nat} (h5 : nI 5 ≤ oN b L s) : tNm b L s < 0 ∧ isW b L s 13 = true := by
  unfold oN at h5
  unfold tNm
  by_cases h8 : isW b L s 8 = true
  · rw [if_pos h8] at h5; exact absurd h5 (by decide)
  rw [if_neg h8] at h5 ⊢
  by_cases h9 : isW b L s 9 = true
  · rw [if_pos h9] at h5; exact absurd h5 (by decide)
  rw [if_neg h9] at h5 ⊢
  by_cases h10 : isW b L s 10 = true
  · rw [if_pos h10] at h5; exact absurd h5 (by decide)
  rw [if_neg h10] at h5 ⊢
  by_cases h11 : isW b L s 11 = true
  · rw [if_pos h11] at h5; exact absurd h5 (by decide)
  rw [if_neg h11] at h5 ⊢
  by_cases h12 : isW b L s 12 = true
  · rw [if_pos h12] at h5; exact absurd h5 (by decide)
  rw [if_neg h12] at h5 ⊢
  by_cases h13 : isW b L s 13 = true
  · exact ⟨by decide, h13⟩
  · rw [if_neg h13] at h5; exact absurd h5 (by decide)
theorem pIt_no {b : Nat → Int32} {L s : Nat} {T : Tw} (hk : kN b L s < 0) (h : ¬ 0 ≤ oN b L s) : pIt b L s T = (false, s, T) := by
  obtain ⟨h1, h2⟩ := oN_no h
  unfold pIt
  by_cases h3 : kS b L s = 1
  · rw [if_pos h3, if_pos hk, if_pos h1, if_neg h2]
  · rw [if_neg h3]
set_option maxHeartbeats 4000000 in
set_option maxRecDepth 20000 in
theorem c_X5_readsItem {σ : xH} {K : Int32 → xH → Prop} {b : Nat → Int32} {L s : Nat} {T : Tw} (h : pm σ b L s T) (hk : ∀ τ, pm τ b L (pIt b L s T).2.1 (pIt b L s T).2.2 → gp σ τ → K (xb ((pIt b L s T).1 = true)) τ) : Evi l (oM ad D cy) mX5_readsItem [.ref 0] σ K := by
  refine x_enter (ls := [some (.ref 0), none, none, none]) rfl ?_
  refine x_aload_n (i := 0) dX5_readsItem_0 rfl rfl ?_
  refine x_aload_n (i := 0) dX5_readsItem_1 rfl rfl ?_
  refine x_getr (i := 14) dX5_readsItem_2 rfl rfl rfl (by decide) fl_X5_28 inX5 ?_
  refine x_v1i dX5_readsItem_5 okX5_wordOf ml_X5_203 rfl rfl (Nat.le_of_ble_eq_true rfl) ⟨by decide, by decide⟩ (Nat.le_of_ble_eq_true rfl) (c_w7 h.2.1 h.2.2.2.2.1 ?_)
  refine y_istore_n (i := 1) (ls2 := [_, _, _, _]) dX5_readsItem_8 rfl (by decide) rfl rfl ?_
  refine x_iload_n (i := 1) dX5_readsItem_9 rfl rfl ?_
  refine x_iflt (tgt := 19) dX5_readsItem_10 rfl (fun h10 => ?_) (fun h10 => ?_)
  · skip
    refine x_aload_n (i := 0) dX5_readsItem_19 rfl rfl ?_
    refine x_aload_n (i := 0) dX5_readsItem_20 rfl rfl ?_
    refine x_getr (i := 16) dX5_readsItem_21 rfl rfl rfl (by decide) fl_X5_35 inX5 ?_
    refine x_v1i dX5_readsItem_24 okX5_wordOf ml_X5_203 rfl rfl (Nat.le_of_ble_eq_true rfl) ⟨by decide, by decide⟩ (Nat.le_of_ble_eq_true rfl) (c_w9 h.2.1 h.2.2.2.2.2.2 ?_)
    refine y_istore_n (i := 2) (ls2 := [_, _, _, _]) dX5_readsItem_27 rfl (by decide) rfl rfl ?_
    refine x_iload_n (i := 2) dX5_readsItem_28 rfl rfl ?_
    refine x_ifge (tgt := 34) dX5_readsItem_29 rfl (fun h29 => ?_) (fun h29 => ?_)
    · skip
      refine x_aload_n (i := 0) dX5_readsItem_34 rfl rfl ?_
      refine x_v0v dX5_readsItem_35 okX5_nextToken ml_X5_200 rfl rfl (Nat.le_of_ble_eq_true rfl) ⟨by decide, by decide⟩ (Nat.le_of_ble_eq_true rfl) (c_nextM h (fun τ1 h1 hf1 => ?_))
      refine x_iload_n (i := 2) dX5_readsItem_38 rfl rfl ?_
      refine x_iconstN (n := 5) dX5_readsItem_39 ?_
      refine x_icge (tgt := 49) dX5_readsItem_40 rfl (fun h40 => ?_) (fun h40 => ?_)
      · skip
        refine x_aload_n (i := 0) dX5_readsItem_49 rfl rfl ?_
        refine x_iconstN (n := 1) dX5_readsItem_50 ?_
        refine x_bipush (v := nI 6) dX5_readsItem_51 (by decide) ?_
        refine x_v2i dX5_readsItem_53 okX5_takesNumber ml_X5_207 rfl rfl (Nat.le_of_ble_eq_true rfl) ⟨by decide, by decide⟩ (Nat.le_of_ble_eq_true rfl) (c_X5_takesNumber h1 (by decide) (by decide) (fun n2 τ2 h2 hf2 => ?_) (fun n2 => ?_))
        · skip
          refine y_istore_n (i := 3) (ls2 := [_, _, _, _]) dX5_readsItem_56 rfl (by decide) rfl rfl ?_
          refine x_aload_n (i := 0) dX5_readsItem_57 rfl rfl ?_
          refine x_getr (i := 0) dX5_readsItem_58 rfl rfl rfl (by decide) fl_X5_9 inX5 ?_
          refine x_iconstN (n := 1) dX5_readsItem_61 ?_
          refine x_iload_n (i := 3) dX5_readsItem_62 rfl rfl ?_
          refine x_ifge (tgt := 75) dX5_readsItem_63 rfl (fun h63 => ?_) (fun h63 => ?_)
          · skip
            refine x_iload_n (i := 3) dX5_readsItem_75 rfl rfl ?_
            refine x_iastN dX5_readsItem_76 rfl (by omega) (by decide) ?_
            refine x_iload_n (i := 3) dX5_readsItem_77 rfl rfl ?_
            refine x_iflt (tgt := 85) dX5_readsItem_78 rfl (fun h78 => ?_) (fun h78 => ?_)
            · exact absurd h78 (nI_pos (vS_31 _ _ _))
            · skip
              refine x_iconstN (n := 1) dX5_readsItem_81 ?_
              refine x_goto (tgt := 86) dX5_readsItem_82 rfl ?_
              exact x_iretz dX5_readsItem_86 rfl (by decide) (by obtain ⟨e1, e2⟩ := oN_hi h40; have e : pIt b L s T = _ := (if_pos (oN_1 h29)).trans ((if_pos h10).trans ((if_pos e1).trans ((if_pos e2).trans (if_pos n2)))); rw [e] at hk; exact hk _ (pm_fg h2 fg_1 (ms_setIn h2.2.2.1 _)) (gp_tr hf1 (gp_tr hf2 (fg_gp fg_1))))
          · exact absurd (nI_pos' (vS_31 _ _ _)) h63
        · skip
          refine y_istore_n (i := 3) (ls2 := [_, _, _, _]) dX5_readsItem_56 rfl (by decide) rfl rfl ?_
          refine x_aload_n (i := 0) dX5_readsItem_57 rfl rfl ?_
          refine x_getr (i := 0) dX5_readsItem_58 rfl rfl rfl (by decide) fl_X5_9 inX5 ?_
          refine x_iconstN (n := 1) dX5_readsItem_61 ?_
          refine x_iload_n (i := 3) dX5_readsItem_62 rfl rfl ?_
          refine x_ifge (tgt := 75) dX5_readsItem_63 rfl (fun h63 => ?_) (fun h63 => ?_)
          · exact absurd h63 (by decide)
          · skip
            refine x_aload_n (i := 0) dX5_readsItem_66 rfl rfl ?_
            refine x_getr (i := 0) dX5_readsItem_67 rfl rfl rfl (by decide) fl_X5_9 inX5 ?_
            refine x_iconstN (n := 1) dX5_readsItem_70 ?_
            refine x_ialdE dX5_readsItem_71 rfl (by omega) (by decide) (ms_in h1.2.2.1) ?_
            refine x_goto (tgt := 76) dX5_readsItem_72 rfl ?_
            refine x_iastN dX5_readsItem_76 rfl (by omega) (by decide) ?_
            refine x_iload_n (i := 3) dX5_readsItem_77 rfl rfl ?_
            refine x_iflt (tgt := 85) dX5_readsItem_78 rfl (fun h78 => ?_) (fun h78 => ?_)
            · skip
              refine x_iconstN (n := 0) dX5_readsItem_85 ?_
              exact x_iretz dX5_readsItem_86 rfl (by decide) (by obtain ⟨e1, e2⟩ := oN_hi h40; have e : pIt b L s T = (false, nx b L s, T) := (if_pos (oN_1 h29)).trans ((if_pos h10).trans ((if_pos e1).trans ((if_pos e2).trans (if_neg n2)))); rw [e] at hk; exact hk _ (pm_fg h1 fg_1 (ms_setIn h1.2.2.1 (tIn T))) (gp_tr hf1 (fg_gp fg_1)))
            · exact absurd h78 (by decide)
      · skip
        refine x_aload_n (i := 0) dX5_readsItem_43 rfl rfl ?_
        refine x_iload_n (i := 2) dX5_readsItem_44 rfl rfl ?_
        refine x_v1i dX5_readsItem_45 okX5_readsThing ml_X5_213 rfl rfl (Nat.le_of_ble_eq_true rfl) ⟨by decide, by decide⟩ (Nat.le_of_ble_eq_true rfl) (c_X5_readsThing h1 _ (fun τ2 a2 f2 => ?_))
        exact x_iretz dX5_readsItem_48 rfl (xb_01 _) (by obtain ⟨e1, e2⟩ := oN_th h29 h40; have e : pIt b L s T = pTm b L (nx b L s) T (oN b L s) := (if_pos (oN_1 h29)).trans ((if_pos h10).trans ((if_neg e2).trans (by rw [e1]; rfl))); rw [e] at hk; exact hk τ2 a2 (gp_tr hf1 f2))
    · skip
      refine x_iconstN (n := 0) dX5_readsItem_32 ?_
      exact x_iretz dX5_readsItem_33 rfl (by decide) (by rw [pIt_no h10 h29] at hk; exact hk σ h (gp_rf σ))
  · skip
    refine x_aload_n (i := 0) dX5_readsItem_13 rfl rfl ?_
    refine x_iload_n (i := 1) dX5_readsItem_14 rfl rfl ?_
    refine x_v1i dX5_readsItem_15 okX5_readsDriver ml_X5_210 rfl rfl (Nat.le_of_ble_eq_true rfl) ⟨by decide, by decide⟩ (Nat.le_of_ble_eq_true rfl) (c_X5_readsDriver h _ (fun τ1 a1 f1 => ?_))
    exact x_iretz dX5_readsItem_18 rfl (xb_01 _) (by have e : pIt b L s T = _ := (if_pos (kN_1 h10)).trans (if_neg h10); rw [e] at hk; exact hk τ1 a1 f1)
end
