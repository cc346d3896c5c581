section
variable {l : Launch} {ad : Nat → Nat} {D : va_G} {cy : Nat → ClassId}
theorem c_inP {σ : xH} {K : Int32 → xH → Prop} {n : Nat} (hn : n < 2147483647) (v : Int32) (hk : K (xb (vN n v)) σ) : Evi l (oM ad D cy) mX5_in1 [.int v, .int (nI 0), .int (nI n - nI 1)] σ K := c_X5_in1 _ _ _ (by rw [xb_congr (vR_pred hn)]; exact hk)
theorem mnL {z : Nat} (hz : z < 2 ^ 31) : (if nI z < nI 20 then nI z else nI 20) = nI (min z 20) := by
  by_cases h : z < 20
  · rw [if_pos (nI_lt h (by omega)), Nat.min_eq_left (by omega)]
  · rw [if_neg (nI_nlt (by omega) hz), Nat.min_eq_right (by omega)]
set_option maxHeartbeats 4000000 in
set_option maxRecDepth 20000 in
theorem l_X5_sheet {K : Int32 → xH → Prop} {σ0 : xH} {j z : Nat} (hj : j < 4) (x y : Int32) (ez : σ0.1 11 j = nI z) (hk : ∀ τ, (∀ q, q < 40 → τ.2 12 (40 * j + q) = 0) → fS2 j σ0 τ → K (nI z) τ) : ∀ (n i : Nat) (σ : xH), i + n = 40 → (∀ q, q < i → σ.2 12 (40 * j + q) = 0) → (fS2 j σ0 σ) → Ex l (oM ad D cy) mX5_sheet 83 [some (.ref 0), some (.int (nI j)), some (.int x), some (.int y), some (.int (nI i))] [] σ (xQi K) := by
  intro n
  induction n with
  | zero =>
    intro i σ hi h0 hf
    have hi : i = 40 := by omega
    subst hi
    refine x_iload (i := 4) dX5_sheet_83 rfl ?_
    refine x_bipush (v := nI 40) dX5_sheet_85 (by decide) ?_
    refine x_icgeN (tgt := 109) (by omega) (by omega) dX5_sheet_87 rfl (fun h87 => ?_) (fun h87 => ?_)
    · skip
      refine x_aload_n (i := 0) dX5_sheet_109 rfl rfl ?_
      refine x_getr (i := 18) dX5_sheet_110 rfl rfl rfl (by decide) fl_X5_41 inX5 ?_
      refine x_iload_n (i := 1) dX5_sheet_113 rfl rfl ?_
      refine x_ialdE dX5_sheet_114 rfl (by omega) (by decide) (show _ = nI z by rw [hf.1]; exact ez) ?_
      exact x_ireti dX5_sheet_115 rfl (hk σ h0 hf)
    · exact absurd h87 (by omega)
  | succ n ih =>
    intro i σ hi h0 hf
    refine x_iload (i := 4) dX5_sheet_83 rfl ?_
    refine x_bipush (v := nI 40) dX5_sheet_85 (by decide) ?_
    refine x_icgeN (tgt := 109) (by omega) (by omega) dX5_sheet_87 rfl (fun h87 => ?_) (fun h87 => ?_)
    · exact absurd h87 (by omega)
    · skip
      refine x_aload_n (i := 0) dX5_sheet_90 rfl rfl ?_
      refine x_getr (i := 19) dX5_sheet_91 rfl rfl rfl (by decide) fl_X5_44 inX5 ?_
      refine x_bipush (v := nI 40) dX5_sheet_94 (by decide) ?_
      refine x_iload_n (i := 1) dX5_sheet_96 rfl rfl ?_
      refine x_imulN dX5_sheet_97 ?_
      refine x_iload (i := 4) dX5_sheet_98 rfl ?_
      refine x_iaddN dX5_sheet_100 ?_
      refine x_lconst (v := 0) dX5_sheet_101 (by decide) ?_
      refine x_lastN dX5_sheet_102 rfl (by omega) (by decide) ?_
      refine y_iincN (i := 4) (ls2 := [_, _, _, _, _]) dX5_sheet_103 rfl (by decide) rfl rfl ?_
      refine x_goto (tgt := 83) dX5_sheet_106 rfl ?_
      exact ih (i + 1) _ (by omega) (fun q hq => if e : q = i then (by rw [e]; exact xl_s) else (by rw [xl_o (by omega)]; exact h0 q (by omega))) (fS2_tr hf (fS2_put (by omega)))
set_option maxHeartbeats 4000000 in
set_option maxRecDepth 20000 in
theorem c_X5_sheet {σ : xH} {K : Int32 → xH → Prop} {S : St} (hS : mS σ S) (hO : tOk (gT S)) (s b m : Int32) (hk : ∀ τ, mS τ (oSheet S s b m).2 → K (oSheet S s b m).1 τ) : Evi l (oM ad D cy) mX5_sheet [.ref 0, .int s, .int b, .int m] σ K := by
  have hs := hS.1
  have h8 := ms_8 hs
  refine x_enter (ls := [some (.ref 0), some (.int s), some (.int b), some (.int m), none]) rfl ?_
  by_cases hc : vR (nI 0) (nI 3) s ∧ (b = 0 ∨ b = nI 8 ∨ b = nI 16 ∨ b = nI 64)
  · unfold oSheet at hk
    rw [if_pos hc] at hk
    obtain ⟨j, -, hj3, rfl⟩ := vR_of hc.1 (by decide) (by decide)
    have hj : j < 4 := by omega
    have h8j : j < 2 ^ 31 := by omega
    simp only [cn, nI_clamp h8j] at hk
    refine x_iload_n (i := 1) dX5_sheet_0 rfl rfl ?_
    refine x_s1i dX5_sheet_1 okX5_isSheet ml_X5_220 (Nat.le_of_ble_eq_true rfl) ⟨by decide, by decide⟩ (Nat.le_of_ble_eq_true rfl) (c_X5_isSheet _ ?_)
    refine x_ifeqP (tgt := 29) dX5_sheet_4 rfl (fun h4 => ?_) (fun h4 => ?_)
    · exact absurd hc.1 h4
    · skip
      refine x_iload_n (i := 2) dX5_sheet_7 rfl rfl ?_
      refine x_ifeq (tgt := 35) dX5_sheet_8 rfl (fun h8 => ?_) (fun h8 => ?_)
      · skip
        refine x_iload_n (i := 3) dX5_sheet_35 rfl rfl ?_
        refine x_ifge (tgt := 46) dX5_sheet_36 rfl (fun h36 => ?_) (fun h36 => ?_)
        · skip
          refine x_iload_n (i := 3) dX5_sheet_46 rfl rfl ?_
          refine x_bipush (v := nI 40) dX5_sheet_47 (by decide) ?_
          refine x_icle (tgt := 58) dX5_sheet_49 rfl (fun h49 => ?_) (fun h49 => ?_)
          · skip
            rw [if_pos h36, if_pos h49] at hk
            obtain ⟨z, hz31, rfl⟩ := nI_of (Int32.not_lt.mpr h36)
            have hz : z ≤ 40 := (nI_leI hz31 (by omega)).mp h49
            simp only [nI_clamp hz31] at hk
            refine x_aload_n (i := 0) dX5_sheet_58 rfl rfl ?_
            refine x_getr (i := 17) dX5_sheet_59 rfl rfl rfl (by decide) fl_X5_38 inX5 ?_
            refine x_iload_n (i := 1) dX5_sheet_62 rfl rfl ?_
            refine x_iload_n (i := 2) dX5_sheet_63 rfl rfl ?_
            refine x_iastN dX5_sheet_64 rfl (by omega) (by decide) ?_
            refine x_aload_n (i := 0) dX5_sheet_65 rfl rfl ?_
            refine x_getr (i := 18) dX5_sheet_66 rfl rfl rfl (by decide) fl_X5_41 inX5 ?_
            refine x_iload_n (i := 1) dX5_sheet_69 rfl rfl ?_
            refine x_iload_n (i := 2) dX5_sheet_70 rfl rfl ?_
            refine x_ifne (tgt := 78) dX5_sheet_71 rfl (fun h71 => ?_) (fun h71 => ?_)
            · skip
              refine x_iload_n (i := 3) dX5_sheet_78 rfl rfl ?_
              refine x_iastN dX5_sheet_79 rfl (by omega) (by decide) ?_
              refine x_iconstN (n := 0) dX5_sheet_80 ?_
              refine y_istore (i := 4) (ls2 := [_, _, _, _, _]) dX5_sheet_81 (by decide) rfl rfl ?_
              rw [if_neg h71] at hk
              exact l_X5_sheet (σ0 := xpi (xpi σ 10 j b) 11 j (nI z)) hj _ _ xp_s (fun τ h0 hf => hk τ (mS_sh hS (fun q a1 a2 => by rw [hf.1, xui_o _ _ a2, xui_o _ _ a1]) (fun i hi hn => ⟨by rw [hf.1, xui_o _ _ (by omega), xp_o hn], by rw [hf.1, xp_o hn, xui_o _ _ (by omega)], hf.2 i hi hn⟩) ⟨by rw [hf.1, xui_o _ _ (by omega), xp_s], by rw [hf.1, xp_s], h0, by omega⟩)) 40 0 _ rfl (fun q hq => absurd hq (Nat.not_lt_zero _)) (fS2_rf j _)
            · skip
              refine x_iconstN (n := 0) dX5_sheet_74 ?_
              refine x_goto (tgt := 79) dX5_sheet_75 rfl ?_
              refine x_iastN dX5_sheet_79 rfl (by omega) (by decide) ?_
              refine x_iconstN (n := 0) dX5_sheet_80 ?_
              refine y_istore (i := 4) (ls2 := [_, _, _, _, _]) dX5_sheet_81 (by decide) rfl rfl ?_
              rw [if_pos h71] at hk
              exact l_X5_sheet (σ0 := xpi (xpi σ 10 j b) 11 j (nI 0)) hj _ _ xp_s (fun τ h0 hf => hk τ (mS_sh hS (fun q a1 a2 => by rw [hf.1, xui_o _ _ a2, xui_o _ _ a1]) (fun i hi hn => ⟨by rw [hf.1, xui_o _ _ (by omega), xp_o hn], by rw [hf.1, xp_o hn, xui_o _ _ (by omega)], hf.2 i hi hn⟩) ⟨by rw [hf.1, xui_o _ _ (by omega), xp_s], by rw [hf.1, xp_s], h0, by omega⟩)) 40 0 _ rfl (fun q hq => absurd hq (Nat.not_lt_zero _)) (fS2_rf j _)
          · skip
            refine x_aload_n (i := 0) dX5_sheet_52 rfl rfl ?_
            refine x_iconstN (n := 0) dX5_sheet_53 ?_
            refine x_v1i dX5_sheet_54 okX5_no ml_X5_118 rfl rfl (Nat.le_of_ble_eq_true rfl) ⟨by decide, by decide⟩ (Nat.le_of_ble_eq_true rfl) (c_X5_no hS 0 (by decide) (fun τ hτ => ?_))
            exact x_ireti dX5_sheet_57 rfl (by rw [if_pos h36, if_neg h49] at hk; exact hk τ hτ)
        · skip
          refine x_aload_n (i := 0) dX5_sheet_39 rfl rfl ?_
          refine x_bipush (v := nI 6) dX5_sheet_40 (by decide) ?_
          refine x_v1i dX5_sheet_42 okX5_no ml_X5_118 rfl rfl (Nat.le_of_ble_eq_true rfl) ⟨by decide, by decide⟩ (Nat.le_of_ble_eq_true rfl) (c_X5_no hS 6 (by decide) (fun τ hτ => ?_))
          exact x_ireti dX5_sheet_45 rfl (by rw [if_neg h36] at hk; exact hk τ hτ)
      · skip
        refine x_iload_n (i := 2) dX5_sheet_11 rfl rfl ?_
        refine x_bipush (v := nI 8) dX5_sheet_12 (by decide) ?_
        refine x_iceq (tgt := 35) dX5_sheet_14 rfl (fun h14 => ?_) (fun h14 => ?_)
        · skip
          refine x_iload_n (i := 3) dX5_sheet_35 rfl rfl ?_
          refine x_ifge (tgt := 46) dX5_sheet_36 rfl (fun h36 => ?_) (fun h36 => ?_)
          · skip
            refine x_iload_n (i := 3) dX5_sheet_46 rfl rfl ?_
            refine x_bipush (v := nI 40) dX5_sheet_47 (by decide) ?_
            refine x_icle (tgt := 58) dX5_sheet_49 rfl (fun h49 => ?_) (fun h49 => ?_)
            · skip
              rw [if_pos h36, if_pos h49] at hk
              obtain ⟨z, hz31, rfl⟩ := nI_of (Int32.not_lt.mpr h36)
              have hz : z ≤ 40 := (nI_leI hz31 (by omega)).mp h49
              simp only [nI_clamp hz31] at hk
              refine x_aload_n (i := 0) dX5_sheet_58 rfl rfl ?_
              refine x_getr (i := 17) dX5_sheet_59 rfl rfl rfl (by decide) fl_X5_38 inX5 ?_
              refine x_iload_n (i := 1) dX5_sheet_62 rfl rfl ?_
              refine x_iload_n (i := 2) dX5_sheet_63 rfl rfl ?_
              refine x_iastN dX5_sheet_64 rfl (by omega) (by decide) ?_
              refine x_aload_n (i := 0) dX5_sheet_65 rfl rfl ?_
              refine x_getr (i := 18) dX5_sheet_66 rfl rfl rfl (by decide) fl_X5_41 inX5 ?_
              refine x_iload_n (i := 1) dX5_sheet_69 rfl rfl ?_
              refine x_iload_n (i := 2) dX5_sheet_70 rfl rfl ?_
              refine x_ifne (tgt := 78) dX5_sheet_71 rfl (fun h71 => ?_) (fun h71 => ?_)
              · skip
                refine x_iload_n (i := 3) dX5_sheet_78 rfl rfl ?_
                refine x_iastN dX5_sheet_79 rfl (by omega) (by decide) ?_
                refine x_iconstN (n := 0) dX5_sheet_80 ?_
                refine y_istore (i := 4) (ls2 := [_, _, _, _, _]) dX5_sheet_81 (by decide) rfl rfl ?_
                rw [if_neg h71] at hk
                exact l_X5_sheet (σ0 := xpi (xpi σ 10 j b) 11 j (nI z)) hj _ _ xp_s (fun τ h0 hf => hk τ (mS_sh hS (fun q a1 a2 => by rw [hf.1, xui_o _ _ a2, xui_o _ _ a1]) (fun i hi hn => ⟨by rw [hf.1, xui_o _ _ (by omega), xp_o hn], by rw [hf.1, xp_o hn, xui_o _ _ (by omega)], hf.2 i hi hn⟩) ⟨by rw [hf.1, xui_o _ _ (by omega), xp_s], by rw [hf.1, xp_s], h0, by omega⟩)) 40 0 _ rfl (fun q hq => absurd hq (Nat.not_lt_zero _)) (fS2_rf j _)
              · skip
                refine x_iconstN (n := 0) dX5_sheet_74 ?_
                refine x_goto (tgt := 79) dX5_sheet_75 rfl ?_
                refine x_iastN dX5_sheet_79 rfl (by omega) (by decide) ?_
                refine x_iconstN (n := 0) dX5_sheet_80 ?_
                refine y_istore (i := 4) (ls2 := [_, _, _, _, _]) dX5_sheet_81 (by decide) rfl rfl ?_
                rw [if_pos h71] at hk
                exact l_X5_sheet (σ0 := xpi (xpi σ 10 j b) 11 j (nI 0)) hj _ _ xp_s (fun τ h0 hf => hk τ (mS_sh hS (fun q a1 a2 => by rw [hf.1, xui_o _ _ a2, xui_o _ _ a1]) (fun i hi hn => ⟨by rw [hf.1, xui_o _ _ (by omega), xp_o hn], by rw [hf.1, xp_o hn, xui_o _ _ (by omega)], hf.2 i hi hn⟩) ⟨by rw [hf.1, xui_o _ _ (by omega), xp_s], by rw [hf.1, xp_s], h0, by omega⟩)) 40 0 _ rfl (fun q hq => absurd hq (Nat.not_lt_zero _)) (fS2_rf j _)
            · skip
              refine x_aload_n (i := 0) dX5_sheet_52 rfl rfl ?_
              refine x_iconstN (n := 0) dX5_sheet_53 ?_
              refine x_v1i dX5_sheet_54 okX5_no ml_X5_118 rfl rfl (Nat.le_of_ble_eq_true rfl) ⟨by decide, by decide⟩ (Nat.le_of_ble_eq_true rfl) (c_X5_no hS 0 (by decide) (fun τ hτ => ?_))
              exact x_ireti dX5_sheet_57 rfl (by rw [if_pos h36, if_neg h49] at hk; exact hk τ hτ)
          · skip
            refine x_aload_n (i := 0) dX5_sheet_39 rfl rfl ?_
            refine x_bipush (v := nI 6) dX5_sheet_40 (by decide) ?_
            refine x_v1i dX5_sheet_42 okX5_no ml_X5_118 rfl rfl (Nat.le_of_ble_eq_true rfl) ⟨by decide, by decide⟩ (Nat.le_of_ble_eq_true rfl) (c_X5_no hS 6 (by decide) (fun τ hτ => ?_))
            exact x_ireti dX5_sheet_45 rfl (by rw [if_neg h36] at hk; exact hk τ hτ)
        · skip
          refine x_iload_n (i := 2) dX5_sheet_17 rfl rfl ?_
          refine x_bipush (v := nI 16) dX5_sheet_18 (by decide) ?_
          refine x_iceq (tgt := 35) dX5_sheet_20 rfl (fun h20 => ?_) (fun h20 => ?_)
          · skip
            refine x_iload_n (i := 3) dX5_sheet_35 rfl rfl ?_
            refine x_ifge (tgt := 46) dX5_sheet_36 rfl (fun h36 => ?_) (fun h36 => ?_)
            · skip
              refine x_iload_n (i := 3) dX5_sheet_46 rfl rfl ?_
              refine x_bipush (v := nI 40) dX5_sheet_47 (by decide) ?_
              refine x_icle (tgt := 58) dX5_sheet_49 rfl (fun h49 => ?_) (fun h49 => ?_)
              · skip
                rw [if_pos h36, if_pos h49] at hk
                obtain ⟨z, hz31, rfl⟩ := nI_of (Int32.not_lt.mpr h36)
                have hz : z ≤ 40 := (nI_leI hz31 (by omega)).mp h49
                simp only [nI_clamp hz31] at hk
                refine x_aload_n (i := 0) dX5_sheet_58 rfl rfl ?_
                refine x_getr (i := 17) dX5_sheet_59 rfl rfl rfl (by decide) fl_X5_38 inX5 ?_
                refine x_iload_n (i := 1) dX5_sheet_62 rfl rfl ?_
                refine x_iload_n (i := 2) dX5_sheet_63 rfl rfl ?_
                refine x_iastN dX5_sheet_64 rfl (by omega) (by decide) ?_
                refine x_aload_n (i := 0) dX5_sheet_65 rfl rfl ?_
                refine x_getr (i := 18) dX5_sheet_66 rfl rfl rfl (by decide) fl_X5_41 inX5 ?_
                refine x_iload_n (i := 1) dX5_sheet_69 rfl rfl ?_
                refine x_iload_n (i := 2) dX5_sheet_70 rfl rfl ?_
                refine x_ifne (tgt := 78) dX5_sheet_71 rfl (fun h71 => ?_) (fun h71 => ?_)
                · skip
                  refine x_iload_n (i := 3) dX5_sheet_78 rfl rfl ?_
                  refine x_iastN dX5_sheet_79 rfl (by omega) (by decide) ?_
                  refine x_iconstN (n := 0) dX5_sheet_80 ?_
                  refine y_istore (i := 4) (ls2 := [_, _, _, _, _]) dX5_sheet_81 (by decide) rfl rfl ?_
                  rw [if_neg h71] at hk
                  exact l_X5_sheet (σ0 := xpi (xpi σ 10 j b) 11 j (nI z)) hj _ _ xp_s (fun τ h0 hf => hk τ (mS_sh hS (fun q a1 a2 => by rw [hf.1, xui_o _ _ a2, xui_o _ _ a1]) (fun i hi hn => ⟨by rw [hf.1, xui_o _ _ (by omega), xp_o hn], by rw [hf.1, xp_o hn, xui_o _ _ (by omega)], hf.2 i hi hn⟩) ⟨by rw [hf.1, xui_o _ _ (by omega), xp_s], by rw [hf.1, xp_s], h0, by omega⟩)) 40 0 _ rfl (fun q hq => absurd hq (Nat.not_lt_zero _)) (fS2_rf j _)
                · skip
                  refine x_iconstN (n := 0) dX5_sheet_74 ?_
                  refine x_goto (tgt := 79) dX5_sheet_75 rfl ?_
                  refine x_iastN dX5_sheet_79 rfl (by omega) (by decide) ?_
                  refine x_iconstN (n := 0) dX5_sheet_80 ?_
                  refine y_istore (i := 4) (ls2 := [_, _, _, _, _]) dX5_sheet_81 (by decide) rfl rfl ?_
                  rw [if_pos h71] at hk
                  exact l_X5_sheet (σ0 := xpi (xpi σ 10 j b) 11 j (nI 0)) hj _ _ xp_s (fun τ h0 hf => hk τ (mS_sh hS (fun q a1 a2 => by rw [hf.1, xui_o _ _ a2, xui_o _ _ a1]) (fun i hi hn => ⟨by rw [hf.1, xui_o _ _ (by omega), xp_o hn], by rw [hf.1, xp_o hn, xui_o _ _ (by omega)], hf.2 i hi hn⟩) ⟨by rw [hf.1, xui_o _ _ (by omega), xp_s], by rw [hf.1, xp_s], h0, by omega⟩)) 40 0 _ rfl (fun q hq => absurd hq (Nat.not_lt_zero _)) (fS2_rf j _)
              · skip
                refine x_aload_n (i := 0) dX5_sheet_52 rfl rfl ?_
                refine x_iconstN (n := 0) dX5_sheet_53 ?_
                refine x_v1i dX5_sheet_54 okX5_no ml_X5_118 rfl rfl (Nat.le_of_ble_eq_true rfl) ⟨by decide, by decide⟩ (Nat.le_of_ble_eq_true rfl) (c_X5_no hS 0 (by decide) (fun τ hτ => ?_))
                exact x_ireti dX5_sheet_57 rfl (by rw [if_pos h36, if_neg h49] at hk; exact hk τ hτ)
            · skip
              refine x_aload_n (i := 0) dX5_sheet_39 rfl rfl ?_
              refine x_bipush (v := nI 6) dX5_sheet_40 (by decide) ?_
              refine x_v1i dX5_sheet_42 okX5_no ml_X5_118 rfl rfl (Nat.le_of_ble_eq_true rfl) ⟨by decide, by decide⟩ (Nat.le_of_ble_eq_true rfl) (c_X5_no hS 6 (by decide) (fun τ hτ => ?_))
              exact x_ireti dX5_sheet_45 rfl (by rw [if_neg h36] at hk; exact hk τ hτ)
          · skip
            refine x_iload_n (i := 2) dX5_sheet_23 rfl rfl ?_
            refine x_bipush (v := nI 64) dX5_sheet_24 (by decide) ?_
            refine x_iceq (tgt := 35) dX5_sheet_26 rfl (fun h26 => ?_) (fun h26 => ?_)
            · skip
              refine x_iload_n (i := 3) dX5_sheet_35 rfl rfl ?_
              refine x_ifge (tgt := 46) dX5_sheet_36 rfl (fun h36 => ?_) (fun h36 => ?_)
              · skip
                refine x_iload_n (i := 3) dX5_sheet_46 rfl rfl ?_
                refine x_bipush (v := nI 40) dX5_sheet_47 (by decide) ?_
                refine x_icle (tgt := 58) dX5_sheet_49 rfl (fun h49 => ?_) (fun h49 => ?_)
                · skip
                  rw [if_pos h36, if_pos h49] at hk
                  obtain ⟨z, hz31, rfl⟩ := nI_of (Int32.not_lt.mpr h36)
                  have hz : z ≤ 40 := (nI_leI hz31 (by omega)).mp h49
                  simp only [nI_clamp hz31] at hk
                  refine x_aload_n (i := 0) dX5_sheet_58 rfl rfl ?_
                  refine x_getr (i := 17) dX5_sheet_59 rfl rfl rfl (by decide) fl_X5_38 inX5 ?_
                  refine x_iload_n (i := 1) dX5_sheet_62 rfl rfl ?_
                  refine x_iload_n (i := 2) dX5_sheet_63 rfl rfl ?_
                  refine x_iastN dX5_sheet_64 rfl (by omega) (by decide) ?_
                  refine x_aload_n (i := 0) dX5_sheet_65 rfl rfl ?_
                  refine x_getr (i := 18) dX5_sheet_66 rfl rfl rfl (by decide) fl_X5_41 inX5 ?_
                  refine x_iload_n (i := 1) dX5_sheet_69 rfl rfl ?_
                  refine x_iload_n (i := 2) dX5_sheet_70 rfl rfl ?_
                  refine x_ifne (tgt := 78) dX5_sheet_71 rfl (fun h71 => ?_) (fun h71 => ?_)
                  · skip
                    refine x_iload_n (i := 3) dX5_sheet_78 rfl rfl ?_
                    refine x_iastN dX5_sheet_79 rfl (by omega) (by decide) ?_
                    refine x_iconstN (n := 0) dX5_sheet_80 ?_
                    refine y_istore (i := 4) (ls2 := [_, _, _, _, _]) dX5_sheet_81 (by decide) rfl rfl ?_
                    rw [if_neg h71] at hk
                    exact l_X5_sheet (σ0 := xpi (xpi σ 10 j b) 11 j (nI z)) hj _ _ xp_s (fun τ h0 hf => hk τ (mS_sh hS (fun q a1 a2 => by rw [hf.1, xui_o _ _ a2, xui_o _ _ a1]) (fun i hi hn => ⟨by rw [hf.1, xui_o _ _ (by omega), xp_o hn], by rw [hf.1, xp_o hn, xui_o _ _ (by omega)], hf.2 i hi hn⟩) ⟨by rw [hf.1, xui_o _ _ (by omega), xp_s], by rw [hf.1, xp_s], h0, by omega⟩)) 40 0 _ rfl (fun q hq => absurd hq (Nat.not_lt_zero _)) (fS2_rf j _)
                  · skip
                    refine x_iconstN (n := 0) dX5_sheet_74 ?_
                    refine x_goto (tgt := 79) dX5_sheet_75 rfl ?_
                    refine x_iastN dX5_sheet_79 rfl (by omega) (by decide) ?_
                    refine x_iconstN (n := 0) dX5_sheet_80 ?_
                    refine y_istore (i := 4) (ls2 := [_, _, _, _, _]) dX5_sheet_81 (by decide) rfl rfl ?_
                    rw [if_pos h71] at hk
                    exact l_X5_sheet (σ0 := xpi (xpi σ 10 j b) 11 j (nI 0)) hj _ _ xp_s (fun τ h0 hf => hk τ (mS_sh hS (fun q a1 a2 => by rw [hf.1, xui_o _ _ a2, xui_o _ _ a1]) (fun i hi hn => ⟨by rw [hf.1, xui_o _ _ (by omega), xp_o hn], by rw [hf.1, xp_o hn, xui_o _ _ (by omega)], hf.2 i hi hn⟩) ⟨by rw [hf.1, xui_o _ _ (by omega), xp_s], by rw [hf.1, xp_s], h0, by omega⟩)) 40 0 _ rfl (fun q hq => absurd hq (Nat.not_lt_zero _)) (fS2_rf j _)
                · skip
                  refine x_aload_n (i := 0) dX5_sheet_52 rfl rfl ?_
                  refine x_iconstN (n := 0) dX5_sheet_53 ?_
                  refine x_v1i dX5_sheet_54 okX5_no ml_X5_118 rfl rfl (Nat.le_of_ble_eq_true rfl) ⟨by decide, by decide⟩ (Nat.le_of_ble_eq_true rfl) (c_X5_no hS 0 (by decide) (fun τ hτ => ?_))
                  exact x_ireti dX5_sheet_57 rfl (by rw [if_pos h36, if_neg h49] at hk; exact hk τ hτ)
              · skip
                refine x_aload_n (i := 0) dX5_sheet_39 rfl rfl ?_
                refine x_bipush (v := nI 6) dX5_sheet_40 (by decide) ?_
                refine x_v1i dX5_sheet_42 okX5_no ml_X5_118 rfl rfl (Nat.le_of_ble_eq_true rfl) ⟨by decide, by decide⟩ (Nat.le_of_ble_eq_true rfl) (c_X5_no hS 6 (by decide) (fun τ hτ => ?_))
                exact x_ireti dX5_sheet_45 rfl (by rw [if_neg h36] at hk; exact hk τ hτ)
            · exact absurd hc.2 (fun z => z.elim h8 (fun z => z.elim h14 (fun z => z.elim h20 h26)))
  · unfold oSheet at hk
    rw [if_neg hc] at hk
    refine x_iload_n (i := 1) dX5_sheet_0 rfl rfl ?_
    refine x_s1i dX5_sheet_1 okX5_isSheet ml_X5_220 (Nat.le_of_ble_eq_true rfl) ⟨by decide, by decide⟩ (Nat.le_of_ble_eq_true rfl) (c_X5_isSheet _ ?_)
    refine x_ifeqP (tgt := 29) dX5_sheet_4 rfl (fun h4 => ?_) (fun h4 => ?_)
    · skip
      refine x_aload_n (i := 0) dX5_sheet_29 rfl rfl ?_
      refine x_iconstN (n := 0) dX5_sheet_30 ?_
      refine x_v1i dX5_sheet_31 okX5_no ml_X5_118 rfl rfl (Nat.le_of_ble_eq_true rfl) ⟨by decide, by decide⟩ (Nat.le_of_ble_eq_true rfl) (c_X5_no hS 0 (by decide) (fun τ hτ => ?_))
      exact x_ireti dX5_sheet_34 rfl (hk τ hτ)
    · skip
      refine x_iload_n (i := 2) dX5_sheet_7 rfl rfl ?_
      refine x_ifeq (tgt := 35) dX5_sheet_8 rfl (fun h8 => ?_) (fun h8 => ?_)
      · exact absurd ⟨h4, Or.inl h8⟩ hc
      · skip
        refine x_iload_n (i := 2) dX5_sheet_11 rfl rfl ?_
        refine x_bipush (v := nI 8) dX5_sheet_12 (by decide) ?_
        refine x_iceq (tgt := 35) dX5_sheet_14 rfl (fun h14 => ?_) (fun h14 => ?_)
        · exact absurd ⟨h4, Or.inr (Or.inl h14)⟩ hc
        · skip
          refine x_iload_n (i := 2) dX5_sheet_17 rfl rfl ?_
          refine x_bipush (v := nI 16) dX5_sheet_18 (by decide) ?_
          refine x_iceq (tgt := 35) dX5_sheet_20 rfl (fun h20 => ?_) (fun h20 => ?_)
          · exact absurd ⟨h4, Or.inr (Or.inr (Or.inl h20))⟩ hc
          · skip
            refine x_iload_n (i := 2) dX5_sheet_23 rfl rfl ?_
            refine x_bipush (v := nI 64) dX5_sheet_24 (by decide) ?_
            refine x_iceq (tgt := 35) dX5_sheet_26 rfl (fun h26 => ?_) (fun h26 => ?_)
            · exact absurd ⟨h4, Or.inr (Or.inr (Or.inr h26))⟩ hc
            · skip
              refine x_aload_n (i := 0) dX5_sheet_29 rfl rfl ?_
              refine x_iconstN (n := 0) dX5_sheet_30 ?_
              refine x_v1i dX5_sheet_31 okX5_no ml_X5_118 rfl rfl (Nat.le_of_ble_eq_true rfl) ⟨by decide, by decide⟩ (Nat.le_of_ble_eq_true rfl) (c_X5_no hS 0 (by decide) (fun τ hτ => ?_))
              exact x_ireti dX5_sheet_34 rfl (hk τ hτ)
set_option maxHeartbeats 4000000 in
set_option maxRecDepth 20000 in
theorem c_X5_write {σ : xH} {K : Int64 → xH → Prop} {S : St} (hS : mS σ S) (hO : tOk (gT S)) (s i : Int32) (v : Int64) (hk : ∀ τ, mS τ (oWrite S s i v).2 → K (oWrite S s i v).1 τ) : Evl l (oM ad D cy) mX5_write [.ref 0, .int s, .int i, .long v] σ K := by
  have hs := hS.1
  have h8 := ms_8 hs
  refine x_enter (ls := [some (.ref 0), some (.int s), some (.int i), some (.long v), none, none, none, none]) rfl ?_
  by_cases hc : vR (nI 0) (nI 3) s
  · unfold oWrite at hk
    rw [if_pos hc] at hk
    obtain ⟨j, -, hj3, rfl⟩ := vR_of hc (by decide) (by decide)
    have hj : j < 4 := by omega
    have h8j : j < 2 ^ 31 := by omega
    simp only [cn, nI_clamp h8j] at hk
    by_cases h1 : gW S j = 0
    · rw [if_pos h1] at hk
      refine x_aload_n (i := 0) dX5_write_0 rfl rfl ?_
      refine x_iload_n (i := 1) dX5_write_1 rfl rfl ?_
      refine x_v1i dX5_write_2 okX5_wrongSheet ml_X5_223 rfl rfl (Nat.le_of_ble_eq_true rfl) ⟨by decide, by decide⟩ (Nat.le_of_ble_eq_true rfl) (c_ws5 hS hj h1 ?_)
      refine y_istore (i := 5) (ls2 := [_, _, _, _, _, _, _, _]) dX5_write_5 (by decide) rfl rfl ?_
      refine x_iload (i := 5) dX5_write_7 rfl ?_
      refine x_ifge (tgt := 31) dX5_write_9 rfl (fun h9 => ?_) (fun h9 => ?_)
      · skip
        refine x_iload (i := 5) dX5_write_31 rfl ?_
        refine x_iflt (tgt := 44) dX5_write_33 rfl (fun h33 => ?_) (fun h33 => ?_)
        · exact absurd h33 (by decide)
        · skip
          refine x_aload_n (i := 0) dX5_write_36 rfl rfl ?_
          refine x_iload (i := 5) dX5_write_37 rfl ?_
          refine x_v1i dX5_write_39 okX5_no ml_X5_118 rfl rfl (Nat.le_of_ble_eq_true rfl) ⟨by decide, by decide⟩ (Nat.le_of_ble_eq_true rfl) (c_X5_no hS 5 (by decide) (fun τ hτ => ?_))
          refine x_i2l dX5_write_42 ?_
          exact x_retl dX5_write_43 rfl (hk τ hτ)
      · exact absurd h9 (by decide)
    · rw [if_neg h1] at hk
      have hm := hS.2.2.2.2.2.2.1 j hj
      have hz := hm.2.2.2
      by_cases h2 : vN (gZ S j) i
      · rw [if_pos h2] at hk
        have h22 := h2
        obtain ⟨i, hi, rfl⟩ := vN_of h2 (by omega)
        simp only [nI_clamp (show i < 2 ^ 31 by omega)] at hk
        refine x_aload_n (i := 0) dX5_write_0 rfl rfl ?_
        refine x_iload_n (i := 1) dX5_write_1 rfl rfl ?_
        refine x_v1i dX5_write_2 okX5_wrongSheet ml_X5_223 rfl rfl (Nat.le_of_ble_eq_true rfl) ⟨by decide, by decide⟩ (Nat.le_of_ble_eq_true rfl) (c_wsm hS hj h1 ?_)
        refine y_istore (i := 5) (ls2 := [_, _, _, _, _, _, _, _]) dX5_write_5 (by decide) rfl rfl ?_
        refine x_iload (i := 5) dX5_write_7 rfl ?_
        refine x_ifge (tgt := 31) dX5_write_9 rfl (fun h9 => ?_) (fun h9 => ?_)
        · exact absurd h9 (by decide)
        · skip
          refine x_iload_n (i := 2) dX5_write_12 rfl rfl ?_
          refine x_iconstN (n := 0) dX5_write_13 ?_
          refine x_aload_n (i := 0) dX5_write_14 rfl rfl ?_
          refine x_getr (i := 18) dX5_write_15 rfl rfl rfl (by decide) fl_X5_41 inX5 ?_
          refine x_iload_n (i := 1) dX5_write_18 rfl rfl ?_
          refine x_ialdE dX5_write_19 rfl (by omega) (by decide) hm.2.1 ?_
          refine x_iconstN (n := 1) dX5_write_20 ?_
          refine x_isub dX5_write_21 ?_
          refine x_s3i dX5_write_22 okX5_in1 ml_X5_52 (Nat.le_of_ble_eq_true rfl) ⟨by decide, by decide⟩ (Nat.le_of_ble_eq_true rfl) (c_inP (by omega) _ ?_)
          refine x_ifneP (tgt := 31) dX5_write_25 rfl (fun h25 => ?_) (fun h25 => ?_)
          · skip
            refine x_iload (i := 5) dX5_write_31 rfl ?_
            refine x_iflt (tgt := 44) dX5_write_33 rfl (fun h33 => ?_) (fun h33 => ?_)
            · skip
              refine x_aload_n (i := 0) dX5_write_44 rfl rfl ?_
              refine x_iload_n (i := 1) dX5_write_45 rfl rfl ?_
              refine x_iload_n (i := 2) dX5_write_46 rfl rfl ?_
              refine x_v2l dX5_write_47 okX5_told ml_X5_226 rfl rfl (Nat.le_of_ble_eq_true rfl) ⟨by decide, by decide⟩ (Nat.le_of_ble_eq_true rfl) (c_X5_told hj hm (by omega) ?_)
              refine x_lstore (i := 6) (ls2 := [_, _, _, _, _, _, _, _]) dX5_write_50 (by decide) rfl ?_
              refine x_aload_n (i := 0) dX5_write_52 rfl rfl ?_
              refine x_iload_n (i := 1) dX5_write_53 rfl rfl ?_
              refine x_iload_n (i := 2) dX5_write_54 rfl rfl ?_
              refine x_lload_n (i := 3) dX5_write_55 rfl rfl ?_
              refine x_v3v dX5_write_56 okX5_tells ml_X5_230 rfl rfl (Nat.le_of_ble_eq_true rfl) ⟨by decide, by decide⟩ (Nat.le_of_ble_eq_true rfl) (c_X5_tells hj hm (by omega) _ (fun τ hm1 hf1 => ?_))
              refine x_lload (i := 6) dX5_write_59 rfl ?_
              exact x_retl dX5_write_61 rfl (hk τ (mS_S2 hS hf1 hm1))
            · exact absurd h33 (by decide)
          · exact absurd h22 h25
      · rw [if_neg h2] at hk
        refine x_aload_n (i := 0) dX5_write_0 rfl rfl ?_
        refine x_iload_n (i := 1) dX5_write_1 rfl rfl ?_
        refine x_v1i dX5_write_2 okX5_wrongSheet ml_X5_223 rfl rfl (Nat.le_of_ble_eq_true rfl) ⟨by decide, by decide⟩ (Nat.le_of_ble_eq_true rfl) (c_wsm hS hj h1 ?_)
        refine y_istore (i := 5) (ls2 := [_, _, _, _, _, _, _, _]) dX5_write_5 (by decide) rfl rfl ?_
        refine x_iload (i := 5) dX5_write_7 rfl ?_
        refine x_ifge (tgt := 31) dX5_write_9 rfl (fun h9 => ?_) (fun h9 => ?_)
        · exact absurd h9 (by decide)
        · skip
          refine x_iload_n (i := 2) dX5_write_12 rfl rfl ?_
          refine x_iconstN (n := 0) dX5_write_13 ?_
          refine x_aload_n (i := 0) dX5_write_14 rfl rfl ?_
          refine x_getr (i := 18) dX5_write_15 rfl rfl rfl (by decide) fl_X5_41 inX5 ?_
          refine x_iload_n (i := 1) dX5_write_18 rfl rfl ?_
          refine x_ialdE dX5_write_19 rfl (by omega) (by decide) hm.2.1 ?_
          refine x_iconstN (n := 1) dX5_write_20 ?_
          refine x_isub dX5_write_21 ?_
          refine x_s3i dX5_write_22 okX5_in1 ml_X5_52 (Nat.le_of_ble_eq_true rfl) ⟨by decide, by decide⟩ (Nat.le_of_ble_eq_true rfl) (c_inP (by omega) _ ?_)
          refine x_ifneP (tgt := 31) dX5_write_25 rfl (fun h25 => ?_) (fun h25 => ?_)
          · exact absurd h25 h2
          · skip
            refine x_iconstN (n := 0) dX5_write_28 ?_
            refine y_istore (i := 5) (ls2 := [_, _, _, _, _, _, _, _]) dX5_write_29 (by decide) rfl rfl ?_
            refine x_iload (i := 5) dX5_write_31 rfl ?_
            refine x_iflt (tgt := 44) dX5_write_33 rfl (fun h33 => ?_) (fun h33 => ?_)
            · exact absurd h33 (by decide)
            · skip
              refine x_aload_n (i := 0) dX5_write_36 rfl rfl ?_
              refine x_iload (i := 5) dX5_write_37 rfl ?_
              refine x_v1i dX5_write_39 okX5_no ml_X5_118 rfl rfl (Nat.le_of_ble_eq_true rfl) ⟨by decide, by decide⟩ (Nat.le_of_ble_eq_true rfl) (c_X5_no hS 0 (by decide) (fun τ hτ => ?_))
              refine x_i2l dX5_write_42 ?_
              exact x_retl dX5_write_43 rfl (hk τ hτ)
  · unfold oWrite at hk
    rw [if_neg hc] at hk
    refine x_aload_n (i := 0) dX5_write_0 rfl rfl ?_
    refine x_iload_n (i := 1) dX5_write_1 rfl rfl ?_
    refine x_v1i dX5_write_2 okX5_wrongSheet ml_X5_223 rfl rfl (Nat.le_of_ble_eq_true rfl) ⟨by decide, by decide⟩ (Nat.le_of_ble_eq_true rfl) (c_ws0 hc ?_)
    refine y_istore (i := 5) (ls2 := [_, _, _, _, _, _, _, _]) dX5_write_5 (by decide) rfl rfl ?_
    refine x_iload (i := 5) dX5_write_7 rfl ?_
    refine x_ifge (tgt := 31) dX5_write_9 rfl (fun h9 => ?_) (fun h9 => ?_)
    · skip
      refine x_iload (i := 5) dX5_write_31 rfl ?_
      refine x_iflt (tgt := 44) dX5_write_33 rfl (fun h33 => ?_) (fun h33 => ?_)
      · exact absurd h33 (by decide)
      · skip
        refine x_aload_n (i := 0) dX5_write_36 rfl rfl ?_
        refine x_iload (i := 5) dX5_write_37 rfl ?_
        refine x_v1i dX5_write_39 okX5_no ml_X5_118 rfl rfl (Nat.le_of_ble_eq_true rfl) ⟨by decide, by decide⟩ (Nat.le_of_ble_eq_true rfl) (c_X5_no hS 0 (by decide) (fun τ hτ => ?_))
        refine x_i2l dX5_write_42 ?_
        exact x_retl dX5_write_43 rfl (hk τ hτ)
    · exact absurd h9 (by decide)
set_option maxHeartbeats 4000000 in
set_option maxRecDepth 20000 in
theorem l_X5_lays {K : Int32 → xH → Prop} {σ0 : xH} {S : St} (hS : mS σ0 S) {j r : Nat} (hj : j < 4) (hr : r < 3) (hk : ∀ τ, mS τ (pT S (lyS (gT S) (gN S j) r (min (gZ S j) 20)).1) → K (lyS (gT S) (gN S j) r (min (gZ S j) 20)).2 τ) : ∀ (n i : Nat) (σ : xH) (c : Int32), i + n = min (gZ S j) 20 → (c = (lyS (gT S) (gN S j) r i).2) → (ms σ 1 (lyS (gT S) (gN S j) r i).1) → (fg σ0 σ) → Ex l (oM ad D cy) mX5_lays 26 [some (.ref 0), some (.int (nI j)), some (.int (nI r)), some (.int (-1)), some (.int c), some (.int (nI i))] [] σ (xQi K) := by
  intro n
  induction n with
  | zero =>
    intro i σ c hi ec hs hf
    have hi : i = min (gZ S j) 20 := by omega
    subst hi
    have hm : mh σ j (gW S j) (gZ S j) (gN S j) := (mS_g hS hf hs).2.2.2.2.2.2.1 j hj
    have hz := hm.2.2.2
    refine x_iload (i := 5) dX5_lays_26 rfl ?_
    refine x_aload_n (i := 0) dX5_lays_28 rfl rfl ?_
    refine x_getr (i := 18) dX5_lays_29 rfl rfl rfl (by decide) fl_X5_41 inX5 ?_
    refine x_iload_n (i := 1) dX5_lays_32 rfl rfl ?_
    refine x_ialdE dX5_lays_33 rfl (by omega) (by decide) (show _ = nI (gZ S j) from hm.2.1) ?_
    refine x_icgeN (tgt := 94) (by omega) (by omega) dX5_lays_34 rfl (fun h34 => ?_) (fun h34 => ?_)
    · skip
      refine x_iload (i := 4) dX5_lays_94 rfl ?_
      exact x_ireti dX5_lays_96 rfl (ec ▸ hk σ (mS_g hS hf hs))
    · skip
      refine x_iload (i := 5) dX5_lays_37 rfl ?_
      refine x_bipush (v := nI 20) dX5_lays_39 (by decide) ?_
      refine x_icgeN (tgt := 94) (by omega) (by omega) dX5_lays_41 rfl (fun h41 => ?_) (fun h41 => ?_)
      · skip
        refine x_iload (i := 4) dX5_lays_94 rfl ?_
        exact x_ireti dX5_lays_96 rfl (ec ▸ hk σ (mS_g hS hf hs))
      · exact absurd h41 (by omega)
  | succ n ih =>
    intro i σ c hi ec hs hf
    have hm : mh σ j (gW S j) (gZ S j) (gN S j) := (mS_g hS hf hs).2.2.2.2.2.2.1 j hj
    have hz := hm.2.2.2
    subst ec
    refine x_iload (i := 5) dX5_lays_26 rfl ?_
    refine x_aload_n (i := 0) dX5_lays_28 rfl rfl ?_
    refine x_getr (i := 18) dX5_lays_29 rfl rfl rfl (by decide) fl_X5_41 inX5 ?_
    refine x_iload_n (i := 1) dX5_lays_32 rfl rfl ?_
    refine x_ialdE dX5_lays_33 rfl (by omega) (by decide) (show _ = nI (gZ S j) from hm.2.1) ?_
    refine x_icgeN (tgt := 94) (by omega) (by omega) dX5_lays_34 rfl (fun h34 => ?_) (fun h34 => ?_)
    · exact absurd h34 (by omega)
    · skip
      refine x_iload (i := 5) dX5_lays_37 rfl ?_
      refine x_bipush (v := nI 20) dX5_lays_39 (by decide) ?_
      refine x_icgeN (tgt := 94) (by omega) (by omega) dX5_lays_41 rfl (fun h41 => ?_) (fun h41 => ?_)
      · exact absurd h41 (by omega)
      · skip
        refine x_aload_n (i := 0) dX5_lays_44 rfl rfl ?_
        refine x_iload_n (i := 1) dX5_lays_45 rfl rfl ?_
        refine x_iload (i := 5) dX5_lays_46 rfl ?_
        refine x_v2l dX5_lays_48 okX5_told ml_X5_226 rfl rfl (Nat.le_of_ble_eq_true rfl) ⟨by decide, by decide⟩ (Nat.le_of_ble_eq_true rfl) (c_X5_told (f := gN S j) hj hm (by omega) ?_)
        refine x_lconst (v := 0) dX5_lays_51 (by decide) ?_
        refine x_lcmp dX5_lays_52 ?_
        refine x_iflt (tgt := 88) dX5_lays_53 rfl (fun h53 => ?_) (fun h53 => ?_)
        · skip
          refine y_iincN (i := 5) (ls2 := [_, _, _, _, _, _]) dX5_lays_88 rfl (by decide) rfl rfl ?_
          refine x_goto (tgt := 26) dX5_lays_91 rfl ?_
          exact ih (i + 1) _ _ (by omega) (by rw [lyS, if_neg (fun z => z.1 h53)]) (by rw [lyS, if_neg (fun z => z.1 h53)]; exact hs) hf
        · skip
          refine x_aload_n (i := 0) dX5_lays_56 rfl rfl ?_
          refine x_iload_n (i := 1) dX5_lays_57 rfl rfl ?_
          refine x_iload (i := 5) dX5_lays_58 rfl ?_
          refine x_v2l dX5_lays_60 okX5_told ml_X5_226 rfl rfl (Nat.le_of_ble_eq_true rfl) ⟨by decide, by decide⟩ (Nat.le_of_ble_eq_true rfl) (c_X5_told (f := gN S j) hj hm (by omega) ?_)
          refine x_ldc2 (v := 4) dX5_lays_63 kl_X5_238 ?_
          refine x_lcmp dX5_lays_66 ?_
          refine x_ifgt (tgt := 88) dX5_lays_67 rfl (fun h67 => ?_) (fun h67 => ?_)
          · skip
            refine y_iincN (i := 5) (ls2 := [_, _, _, _, _, _]) dX5_lays_88 rfl (by decide) rfl rfl ?_
            refine x_goto (tgt := 26) dX5_lays_91 rfl ?_
            exact ih (i + 1) _ _ (by omega) (by rw [lyS, if_neg (fun z => z.2 h67)]) (by rw [lyS, if_neg (fun z => z.2 h67)]; exact hs) hf
          · skip
            refine x_aload_n (i := 0) dX5_lays_70 rfl rfl ?_
            refine x_iload_n (i := 2) dX5_lays_71 rfl rfl ?_
            refine x_iload (i := 5) dX5_lays_72 rfl ?_
            refine x_aload_n (i := 0) dX5_lays_74 rfl rfl ?_
            refine x_iload_n (i := 1) dX5_lays_75 rfl rfl ?_
            refine x_iload (i := 5) dX5_lays_76 rfl ?_
            refine x_v2l dX5_lays_78 okX5_told ml_X5_226 rfl rfl (Nat.le_of_ble_eq_true rfl) ⟨by decide, by decide⟩ (Nat.le_of_ble_eq_true rfl) (c_X5_told (f := gN S j) hj hm (by omega) ?_)
            refine x_l2i dX5_lays_81 ?_
            refine x_v3v dX5_lays_82 okX5_lies ml_X5_121 rfl rfl (Nat.le_of_ble_eq_true rfl) ⟨by decide, by decide⟩ (Nat.le_of_ble_eq_true rfl) (c_X5_lies hs hr (by omega) _ (fun τ hs1 hf1 => ?_))
            refine y_iinc (i := 4) (ls2 := [_, _, _, _, _, _]) dX5_lays_85 rfl rfl (by decide) rfl rfl ?_
            refine y_iincN (i := 5) (ls2 := [_, _, _, _, _, _]) dX5_lays_88 rfl (by decide) rfl rfl ?_
            refine x_goto (tgt := 26) dX5_lays_91 rfl ?_
            exact ih (i + 1) _ _ (by omega) (by rw [lyS, if_pos ⟨h53, h67⟩]; rfl) (by rw [lyS, if_pos ⟨h53, h67⟩]; exact hs1) (fg_tr hf hf1)
set_option maxHeartbeats 4000000 in
set_option maxRecDepth 20000 in
theorem c_X5_lays {σ : xH} {K : Int32 → xH → Prop} {S : St} (hS : mS σ S) (hO : tOk (gT S)) (s a : Int32) (hk : ∀ τ, mS τ (oLays S s a).2 → K (oLays S s a).1 τ) : Evi l (oM ad D cy) mX5_lays [.ref 0, .int s, .int a] σ K := by
  have hs := hS.1
  have h8 := ms_8 hs
  refine x_enter (ls := [some (.ref 0), some (.int s), some (.int a), none, none, none]) rfl ?_
  by_cases hc : vR (nI 0) (nI 3) s
  · unfold oLays at hk
    rw [if_pos hc] at hk
    obtain ⟨j, -, hj3, rfl⟩ := vR_of hc (by decide) (by decide)
    have hj : j < 4 := by omega
    have h8j : j < 2 ^ 31 := by omega
    simp only [cn, nI_clamp h8j] at hk
    by_cases h1 : gW S j = 0
    · rw [if_pos h1] at hk
      refine x_aload_n (i := 0) dX5_lays_0 rfl rfl ?_
      refine x_iload_n (i := 1) dX5_lays_1 rfl rfl ?_
      refine x_iload_n (i := 2) dX5_lays_2 rfl rfl ?_
      refine x_s1i dX5_lays_3 okX5_isStreet ml_X5_112 (Nat.le_of_ble_eq_true rfl) ⟨by decide, by decide⟩ (Nat.le_of_ble_eq_true rfl) (c_X5_isStreet _ ?_)
      refine x_v2i dX5_lays_6 okX5_wrongWith ml_X5_234 rfl rfl (Nat.le_of_ble_eq_true rfl) ⟨by decide, by decide⟩ (Nat.le_of_ble_eq_true rfl) (c_ww5 hS hj h1 ?_)
      refine y_istore_n (i := 3) (ls2 := [_, _, _, _, _, _]) dX5_lays_9 rfl (by decide) rfl rfl ?_
      refine x_iload_n (i := 3) dX5_lays_10 rfl rfl ?_
      refine x_iflt (tgt := 20) dX5_lays_11 rfl (fun h11 => ?_) (fun h11 => ?_)
      · exact absurd h11 (by decide)
      · skip
        refine x_aload_n (i := 0) dX5_lays_14 rfl rfl ?_
        refine x_iload_n (i := 3) dX5_lays_15 rfl rfl ?_
        refine x_v1i dX5_lays_16 okX5_no ml_X5_118 rfl rfl (Nat.le_of_ble_eq_true rfl) ⟨by decide, by decide⟩ (Nat.le_of_ble_eq_true rfl) (c_X5_no hS 5 (by decide) (fun τ hτ => ?_))
        exact x_ireti dX5_lays_19 rfl (hk τ hτ)
    · rw [if_neg h1] at hk
      have hm := hS.2.2.2.2.2.2.1 j hj
      have hz := hm.2.2.2
      by_cases h2 : vN 3 a
      · rw [if_pos h2] at hk
        have h22 := h2
        obtain ⟨r, hr, rfl⟩ := vN_of h2 (by decide)
        simp only [nI_clamp (show r < 2 ^ 31 by omega)] at hk
        refine x_aload_n (i := 0) dX5_lays_0 rfl rfl ?_
        refine x_iload_n (i := 1) dX5_lays_1 rfl rfl ?_
        refine x_iload_n (i := 2) dX5_lays_2 rfl rfl ?_
        refine x_s1i dX5_lays_3 okX5_isStreet ml_X5_112 (Nat.le_of_ble_eq_true rfl) ⟨by decide, by decide⟩ (Nat.le_of_ble_eq_true rfl) (c_X5_isStreet _ ?_)
        refine x_v2i dX5_lays_6 okX5_wrongWith ml_X5_234 rfl rfl (Nat.le_of_ble_eq_true rfl) ⟨by decide, by decide⟩ (Nat.le_of_ble_eq_true rfl) (c_wwm hS hj h1 h22 ?_)
        refine y_istore_n (i := 3) (ls2 := [_, _, _, _, _, _]) dX5_lays_9 rfl (by decide) rfl rfl ?_
        refine x_iload_n (i := 3) dX5_lays_10 rfl rfl ?_
        refine x_iflt (tgt := 20) dX5_lays_11 rfl (fun h11 => ?_) (fun h11 => ?_)
        · skip
          refine x_iconstN (n := 0) dX5_lays_20 ?_
          refine y_istore (i := 4) (ls2 := [_, _, _, _, _, _]) dX5_lays_21 (by decide) rfl rfl ?_
          refine x_iconstN (n := 0) dX5_lays_23 ?_
          refine y_istore (i := 5) (ls2 := [_, _, _, _, _, _]) dX5_lays_24 (by decide) rfl rfl ?_
          exact l_X5_lays hS hj hr hk (min (gZ S j) 20) 0 σ _ (by omega) rfl hs (fg_rf σ)
        · exact absurd h11 (by decide)
      · rw [if_neg h2] at hk
        refine x_aload_n (i := 0) dX5_lays_0 rfl rfl ?_
        refine x_iload_n (i := 1) dX5_lays_1 rfl rfl ?_
        refine x_iload_n (i := 2) dX5_lays_2 rfl rfl ?_
        refine x_s1i dX5_lays_3 okX5_isStreet ml_X5_112 (Nat.le_of_ble_eq_true rfl) ⟨by decide, by decide⟩ (Nat.le_of_ble_eq_true rfl) (c_X5_isStreet _ ?_)
        refine x_v2i dX5_lays_6 okX5_wrongWith ml_X5_234 rfl rfl (Nat.le_of_ble_eq_true rfl) ⟨by decide, by decide⟩ (Nat.le_of_ble_eq_true rfl) (c_wwb hS hj h1 h2 ?_)
        refine y_istore_n (i := 3) (ls2 := [_, _, _, _, _, _]) dX5_lays_9 rfl (by decide) rfl rfl ?_
        refine x_iload_n (i := 3) dX5_lays_10 rfl rfl ?_
        refine x_iflt (tgt := 20) dX5_lays_11 rfl (fun h11 => ?_) (fun h11 => ?_)
        · exact absurd h11 (by decide)
        · skip
          refine x_aload_n (i := 0) dX5_lays_14 rfl rfl ?_
          refine x_iload_n (i := 3) dX5_lays_15 rfl rfl ?_
          refine x_v1i dX5_lays_16 okX5_no ml_X5_118 rfl rfl (Nat.le_of_ble_eq_true rfl) ⟨by decide, by decide⟩ (Nat.le_of_ble_eq_true rfl) (c_X5_no hS 0 (by decide) (fun τ hτ => ?_))
          exact x_ireti dX5_lays_19 rfl (hk τ hτ)
  · unfold oLays at hk
    rw [if_neg hc] at hk
    refine x_aload_n (i := 0) dX5_lays_0 rfl rfl ?_
    refine x_iload_n (i := 1) dX5_lays_1 rfl rfl ?_
    refine x_iload_n (i := 2) dX5_lays_2 rfl rfl ?_
    refine x_s1i dX5_lays_3 okX5_isStreet ml_X5_112 (Nat.le_of_ble_eq_true rfl) ⟨by decide, by decide⟩ (Nat.le_of_ble_eq_true rfl) (c_X5_isStreet _ ?_)
    refine x_v2i dX5_lays_6 okX5_wrongWith ml_X5_234 rfl rfl (Nat.le_of_ble_eq_true rfl) ⟨by decide, by decide⟩ (Nat.le_of_ble_eq_true rfl) (c_ww0 hc ?_)
    refine y_istore_n (i := 3) (ls2 := [_, _, _, _, _, _]) dX5_lays_9 rfl (by decide) rfl rfl ?_
    refine x_iload_n (i := 3) dX5_lays_10 rfl rfl ?_
    refine x_iflt (tgt := 20) dX5_lays_11 rfl (fun h11 => ?_) (fun h11 => ?_)
    · exact absurd h11 (by decide)
    · skip
      refine x_aload_n (i := 0) dX5_lays_14 rfl rfl ?_
      refine x_iload_n (i := 3) dX5_lays_15 rfl rfl ?_
      refine x_v1i dX5_lays_16 okX5_no ml_X5_118 rfl rfl (Nat.le_of_ble_eq_true rfl) ⟨by decide, by decide⟩ (Nat.le_of_ble_eq_true rfl) (c_X5_no hS 0 (by decide) (fun τ hτ => ?_))
      exact x_ireti dX5_lays_19 rfl (hk τ hτ)
set_option maxHeartbeats 4000000 in
set_option maxRecDepth 20000 in
theorem l_X5_book {K : Int32 → xH → Prop} {σ0 : xH} {S : St} (hS : mS σ0 S) {j : Nat} (hj : j < 4) (p : Nat → Int32) (hq : ∀ i, i < 20 → σ0.1 5 i = p i) (x y : Int32) (hk : ∀ τ, mS τ (pSh S j (gW S j) (gZ S j) (bkF (gN S j) (gW S j) p (min (gZ S j) 20))) → K (nI (min (gZ S j) 20)) τ) : ∀ (n i : Nat) (σ : xH), i + n = min (gZ S j) 20 → (mh σ j (gW S j) (gZ S j) (bkF (gN S j) (gW S j) p i)) → (fS2 j σ0 σ) → Ex l (oM ad D cy) mX5_book 58 [some (.ref 0), some (.int (nI j)), some (.int x), some (.int y), some (.int (-1)), some (.int (nI (min (gZ S j) 20))), some (.int (nI i))] [] σ (xQi K) := by
  intro n
  induction n with
  | zero =>
    intro i σ hi hm hf
    have hi : i = min (gZ S j) 20 := by omega
    subst hi
    have hz := hm.2.2.2
    refine x_iload (i := 6) dX5_book_58 rfl ?_
    refine x_iload (i := 5) dX5_book_60 rfl ?_
    refine x_icgeN (tgt := 86) (by omega) (by omega) dX5_book_62 rfl (fun h62 => ?_) (fun h62 => ?_)
    · skip
      refine x_iload (i := 5) dX5_book_86 rfl ?_
      exact x_ireti dX5_book_88 rfl (hk σ (mS_S2 hS hf hm))
    · exact absurd h62 (by omega)
  | succ n ih =>
    intro i σ hi hm hf
    have hz := hm.2.2.2
    refine x_iload (i := 6) dX5_book_58 rfl ?_
    refine x_iload (i := 5) dX5_book_60 rfl ?_
    refine x_icgeN (tgt := 86) (by omega) (by omega) dX5_book_62 rfl (fun h62 => ?_) (fun h62 => ?_)
    · exact absurd h62 (by omega)
    · skip
      refine x_aload_n (i := 0) dX5_book_65 rfl rfl ?_
      refine x_iload_n (i := 1) dX5_book_66 rfl rfl ?_
      refine x_iload (i := 6) dX5_book_67 rfl ?_
      refine x_aload_n (i := 0) dX5_book_69 rfl rfl ?_
      refine x_getr (i := 5) dX5_book_70 rfl rfl rfl (by decide) fl_X5_22 inX5 ?_
      refine x_iload (i := 6) dX5_book_73 rfl ?_
      refine x_ialdE dX5_book_75 rfl (by omega) (by decide) (show _ = p i by rw [hf.1]; exact hq i (by omega)) ?_
      refine x_i2l dX5_book_76 ?_
      refine x_v3v dX5_book_77 okX5_tells ml_X5_230 rfl rfl (Nat.le_of_ble_eq_true rfl) ⟨by decide, by decide⟩ (Nat.le_of_ble_eq_true rfl) (c_X5_tells hj hm (by omega) _ (fun τ hm1 hf1 => ?_))
      refine y_iincN (i := 6) (ls2 := [_, _, _, _, _, _, _]) dX5_book_80 rfl (by decide) rfl rfl ?_
      refine x_goto (tgt := 58) dX5_book_83 rfl ?_
      exact ih (i + 1) τ (by omega) hm1 (fS2_tr hf hf1)
set_option maxHeartbeats 4000000 in
set_option maxRecDepth 20000 in
theorem c_X5_book {σ : xH} {K : Int32 → xH → Prop} {S : St} (hS : mS σ S) (hO : tOk (gT S)) (s d a : Int32) (hk : ∀ τ, mS τ (oBook S s d a).2 → K (oBook S s d a).1 τ) : Evi l (oM ad D cy) mX5_book [.ref 0, .int s, .int d, .int a] σ K := by
  have hs := hS.1
  have h8 := ms_8 hs
  refine x_enter (ls := [some (.ref 0), some (.int s), some (.int d), some (.int a), none, none, none]) rfl ?_
  by_cases hc : vR (nI 0) (nI 3) s
  · unfold oBook at hk
    rw [if_pos hc] at hk
    obtain ⟨j, -, hj3, rfl⟩ := vR_of hc (by decide) (by decide)
    have hj : j < 4 := by omega
    have h8j : j < 2 ^ 31 := by omega
    simp only [cn, nI_clamp h8j] at hk
    by_cases h1 : gW S j = 0
    · rw [if_pos h1] at hk
      refine x_aload_n (i := 0) dX5_book_0 rfl rfl ?_
      refine x_iload_n (i := 1) dX5_book_1 rfl rfl ?_
      refine x_aload_n (i := 0) dX5_book_2 rfl rfl ?_
      refine x_iload_n (i := 2) dX5_book_3 rfl rfl ?_
      refine x_iload_n (i := 3) dX5_book_4 rfl rfl ?_
      refine x_v2i dX5_book_5 okX5_areBoth ml_X5_146 rfl rfl (Nat.le_of_ble_eq_true rfl) ⟨by decide, by decide⟩ (Nat.le_of_ble_eq_true rfl) (c_X5_areBoth hs _ _ ?_)
      refine x_v2i dX5_book_8 okX5_wrongWith ml_X5_234 rfl rfl (Nat.le_of_ble_eq_true rfl) ⟨by decide, by decide⟩ (Nat.le_of_ble_eq_true rfl) (c_ww5 hS hj h1 ?_)
      refine y_istore (i := 4) (ls2 := [_, _, _, _, _, _, _]) dX5_book_11 (by decide) rfl rfl ?_
      refine x_iload (i := 4) dX5_book_13 rfl ?_
      refine x_iflt (tgt := 25) dX5_book_15 rfl (fun h15 => ?_) (fun h15 => ?_)
      · exact absurd h15 (by decide)
      · skip
        refine x_aload_n (i := 0) dX5_book_18 rfl rfl ?_
        refine x_iload (i := 4) dX5_book_19 rfl ?_
        refine x_v1i dX5_book_21 okX5_no ml_X5_118 rfl rfl (Nat.le_of_ble_eq_true rfl) ⟨by decide, by decide⟩ (Nat.le_of_ble_eq_true rfl) (c_X5_no hS 5 (by decide) (fun τ hτ => ?_))
        exact x_ireti dX5_book_24 rfl (hk τ hτ)
    · rw [if_neg h1] at hk
      have hm := hS.2.2.2.2.2.2.1 j hj
      have hz := hm.2.2.2
      by_cases h2 : vN (tN (gT S)) d ∧ vN 3 a
      · rw [if_pos h2] at hk
        have h22 := h2
        obtain ⟨d, hd, rfl⟩ := vN_of h2.1 (by omega)
        have h8d : d < 2 ^ 31 := by omega
        obtain ⟨r, hr, rfl⟩ := vN_of h2.2 (by decide)
        simp only [nI_clamp h8d, nI_clamp (show r < 2 ^ 31 by omega)] at hk
        obtain ⟨k, hk6, ek⟩ := hO.2.1 d hd
        obtain ⟨w, h10, h80, ew⟩ := hO.2.2.1 d hd
        refine x_aload_n (i := 0) dX5_book_0 rfl rfl ?_
        refine x_iload_n (i := 1) dX5_book_1 rfl rfl ?_
        refine x_aload_n (i := 0) dX5_book_2 rfl rfl ?_
        refine x_iload_n (i := 2) dX5_book_3 rfl rfl ?_
        refine x_iload_n (i := 3) dX5_book_4 rfl rfl ?_
        refine x_v2i dX5_book_5 okX5_areBoth ml_X5_146 rfl rfl (Nat.le_of_ble_eq_true rfl) ⟨by decide, by decide⟩ (Nat.le_of_ble_eq_true rfl) (c_X5_areBoth hs _ _ ?_)
        refine x_v2i dX5_book_8 okX5_wrongWith ml_X5_234 rfl rfl (Nat.le_of_ble_eq_true rfl) ⟨by decide, by decide⟩ (Nat.le_of_ble_eq_true rfl) (c_wwm hS hj h1 h22 ?_)
        refine y_istore (i := 4) (ls2 := [_, _, _, _, _, _, _]) dX5_book_11 (by decide) rfl rfl ?_
        refine x_iload (i := 4) dX5_book_13 rfl ?_
        refine x_iflt (tgt := 25) dX5_book_15 rfl (fun h15 => ?_) (fun h15 => ?_)
        · skip
          refine x_aload_n (i := 0) dX5_book_25 rfl rfl ?_
          refine x_aload_n (i := 0) dX5_book_26 rfl rfl ?_
          refine x_iload_n (i := 2) dX5_book_27 rfl rfl ?_
          refine x_iconstN (n := 0) dX5_book_28 ?_
          refine x_v2i dX5_book_29 okX5_get ml_X5_92 rfl rfl (Nat.le_of_ble_eq_true rfl) ⟨by decide, by decide⟩ (Nat.le_of_ble_eq_true rfl) (c_get0 hs (by omega) ?_)
          refine x_top ek ?_
          refine x_aload_n (i := 0) dX5_book_32 rfl rfl ?_
          refine x_iload_n (i := 2) dX5_book_33 rfl rfl ?_
          refine x_iconstN (n := 1) dX5_book_34 ?_
          refine x_v2i dX5_book_35 okX5_get ml_X5_92 rfl rfl (Nat.le_of_ble_eq_true rfl) ⟨by decide, by decide⟩ (Nat.le_of_ble_eq_true rfl) (c_get1 hs (by omega) ?_)
          refine x_top ew ?_
          refine x_iload_n (i := 3) dX5_book_38 rfl rfl ?_
          refine x_v3v dX5_book_39 okX5_goesThrough ml_X5_95 rfl rfl (Nat.le_of_ble_eq_true rfl) ⟨by decide, by decide⟩ (Nat.le_of_ble_eq_true rfl) (c_X5_goesThrough hO hk6 h10 h80 hr hs (fun τ hq hf => ?_))
          refine x_aload_n (i := 0) dX5_book_42 rfl rfl ?_
          refine x_getr (i := 18) dX5_book_43 rfl rfl rfl (by decide) fl_X5_41 inX5 ?_
          refine x_iload_n (i := 1) dX5_book_46 rfl rfl ?_
          refine x_ialdE dX5_book_47 rfl (by omega) (by decide) ((mS_q hS hf).2.2.2.2.2.2.1 j hj).2.1 ?_
          refine x_bipush (v := nI 20) dX5_book_48 (by decide) ?_
          refine x_s2i dX5_book_50 okX5_less ml_X5_71 (Nat.le_of_ble_eq_true rfl) ⟨by decide, by decide⟩ (Nat.le_of_ble_eq_true rfl) (c_X5_less _ _ ?_)
          refine x_top (mnL (by omega)) ?_
          refine y_istore (i := 5) (ls2 := [_, _, _, _, _, _, _]) dX5_book_53 (by decide) rfl rfl ?_
          refine x_iconstN (n := 0) dX5_book_55 ?_
          refine y_istore (i := 6) (ls2 := [_, _, _, _, _, _, _]) dX5_book_56 (by decide) rfl rfl ?_
          exact l_X5_book (mS_q hS hf) hj _ (fun i hi => by rw [hq.1 i hi, ek, ew]) _ _ hk (min (gZ S j) 20) 0 τ (by omega) ((mS_q hS hf).2.2.2.2.2.2.1 j hj) (fS2_rf j τ)
        · exact absurd h15 (by decide)
      · rw [if_neg h2] at hk
        refine x_aload_n (i := 0) dX5_book_0 rfl rfl ?_
        refine x_iload_n (i := 1) dX5_book_1 rfl rfl ?_
        refine x_aload_n (i := 0) dX5_book_2 rfl rfl ?_
        refine x_iload_n (i := 2) dX5_book_3 rfl rfl ?_
        refine x_iload_n (i := 3) dX5_book_4 rfl rfl ?_
        refine x_v2i dX5_book_5 okX5_areBoth ml_X5_146 rfl rfl (Nat.le_of_ble_eq_true rfl) ⟨by decide, by decide⟩ (Nat.le_of_ble_eq_true rfl) (c_X5_areBoth hs _ _ ?_)
        refine x_v2i dX5_book_8 okX5_wrongWith ml_X5_234 rfl rfl (Nat.le_of_ble_eq_true rfl) ⟨by decide, by decide⟩ (Nat.le_of_ble_eq_true rfl) (c_wwb hS hj h1 h2 ?_)
        refine y_istore (i := 4) (ls2 := [_, _, _, _, _, _, _]) dX5_book_11 (by decide) rfl rfl ?_
        refine x_iload (i := 4) dX5_book_13 rfl ?_
        refine x_iflt (tgt := 25) dX5_book_15 rfl (fun h15 => ?_) (fun h15 => ?_)
        · exact absurd h15 (by decide)
        · skip
          refine x_aload_n (i := 0) dX5_book_18 rfl rfl ?_
          refine x_iload (i := 4) dX5_book_19 rfl ?_
          refine x_v1i dX5_book_21 okX5_no ml_X5_118 rfl rfl (Nat.le_of_ble_eq_true rfl) ⟨by decide, by decide⟩ (Nat.le_of_ble_eq_true rfl) (c_X5_no hS 0 (by decide) (fun τ hτ => ?_))
          exact x_ireti dX5_book_24 rfl (hk τ hτ)
  · unfold oBook at hk
    rw [if_neg hc] at hk
    refine x_aload_n (i := 0) dX5_book_0 rfl rfl ?_
    refine x_iload_n (i := 1) dX5_book_1 rfl rfl ?_
    refine x_aload_n (i := 0) dX5_book_2 rfl rfl ?_
    refine x_iload_n (i := 2) dX5_book_3 rfl rfl ?_
    refine x_iload_n (i := 3) dX5_book_4 rfl rfl ?_
    refine x_v2i dX5_book_5 okX5_areBoth ml_X5_146 rfl rfl (Nat.le_of_ble_eq_true rfl) ⟨by decide, by decide⟩ (Nat.le_of_ble_eq_true rfl) (c_X5_areBoth hs _ _ ?_)
    refine x_v2i dX5_book_8 okX5_wrongWith ml_X5_234 rfl rfl (Nat.le_of_ble_eq_true rfl) ⟨by decide, by decide⟩ (Nat.le_of_ble_eq_true rfl) (c_ww0 hc ?_)
    refine y_istore (i := 4) (ls2 := [_, _, _, _, _, _, _]) dX5_book_11 (by decide) rfl rfl ?_
    refine x_iload (i := 4) dX5_book_13 rfl ?_
    refine x_iflt (tgt := 25) dX5_book_15 rfl (fun h15 => ?_) (fun h15 => ?_)
    · exact absurd h15 (by decide)
    · skip
      refine x_aload_n (i := 0) dX5_book_18 rfl rfl ?_
      refine x_iload (i := 4) dX5_book_19 rfl ?_
      refine x_v1i dX5_book_21 okX5_no ml_X5_118 rfl rfl (Nat.le_of_ble_eq_true rfl) ⟨by decide, by decide⟩ (Nat.le_of_ble_eq_true rfl) (c_X5_no hS 0 (by decide) (fun τ hτ => ?_))
      exact x_ireti dX5_book_24 rfl (hk τ hτ)
end
