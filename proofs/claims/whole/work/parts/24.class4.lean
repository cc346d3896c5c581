section
variable {l : Launch} {ad : Nat → Nat} {D : va_G} {cy : Nat → ClassId}
set_option maxHeartbeats 4000000 in
set_option maxRecDepth 20000 in
theorem c_X4_fault0 {σ : xH} {K : Int32 → xH → Prop} {s : Int32} (hc : ¬ vR (nI 0) (nI 3) s) (hk : K (fnd 0) σ) : Evi l (oC ad D cy) mX4_sheetFault [.ref 0, .int s] σ K := by
  refine x_enter (ls := [some (.ref 0), some (.int s)]) rfl ?_
  refine x_iload_n (i := 1) dX4_sheetFault_0 rfl rfl ?_
  refine x_iconstN (n := 0) dX4_sheetFault_1 ?_
  refine x_iconstN (n := 3) dX4_sheetFault_2 ?_
  refine x_s3i dX4_sheetFault_3 okX4_isWithin ml_X4_48 (Nat.le_of_ble_eq_true rfl) ⟨by decide, by decide⟩ (Nat.le_of_ble_eq_true rfl) (c_X4_isWithin _ _ _ ?_)
  refine x_ifneP (tgt := 12) dX4_sheetFault_6 rfl (fun h6 => ?_) (fun h6 => ?_)
  · exact absurd h6 hc
  · skip
    refine x_ldc (v := -1000000001) dX4_sheetFault_9 kc_X4_52 ?_
    exact x_ireti dX4_sheetFault_11 rfl (show K (-1000000001) σ from (show (-1000000001 : Int32) = fnd 0 by decide) ▸ hk)
set_option maxHeartbeats 4000000 in
set_option maxRecDepth 20000 in
theorem c_X4_fault5 {σ : xH} {K : Int32 → xH → Prop} {S : St} (hS : cS σ S) {j : Nat} (hj : j < 4) (hb : gW S j = 0) (hk : K (fnd 5) σ) : Evi l (oC ad D cy) mX4_sheetFault [.ref 0, .int (nI j)] σ K := by
  refine x_enter (ls := [some (.ref 0), some (.int (nI j))]) rfl ?_
  refine x_iload_n (i := 1) dX4_sheetFault_0 rfl rfl ?_
  refine x_iconstN (n := 0) dX4_sheetFault_1 ?_
  refine x_iconstN (n := 3) dX4_sheetFault_2 ?_
  refine x_s3i dX4_sheetFault_3 okX4_isWithin ml_X4_48 (Nat.le_of_ble_eq_true rfl) ⟨by decide, by decide⟩ (Nat.le_of_ble_eq_true rfl) (c_X4_isWithin _ _ _ ?_)
  refine x_ifneP (tgt := 12) dX4_sheetFault_6 rfl (fun h6 => ?_) (fun h6 => ?_)
  · skip
    refine x_aload_n (i := 0) dX4_sheetFault_12 rfl rfl ?_
    refine x_getr (i := 4) dX4_sheetFault_13 rfl rfl rfl (by decide) fl_X4_31 inX4 ?_
    refine x_iload_n (i := 1) dX4_sheetFault_16 rfl rfl ?_
    refine x_aaldN rfl dX4_sheetFault_17 rfl (by omega) (by decide) ?_
    refine x_getiE (i := 0) dX4_sheetFault_18 (sS0 hj) rfl rfl (by decide) fl_X4_200 inX1 ((hS.2.2.2.2.2.2.1 j hj).1.trans hb) ?_
    refine x_ifne (tgt := 29) dX4_sheetFault_21 rfl (fun h21 => ?_) (fun h21 => ?_)
    · exact absurd rfl h21
    · skip
      refine x_ldc (v := -1000000006) dX4_sheetFault_24 kc_X4_203 ?_
      refine x_goto (tgt := 30) dX4_sheetFault_26 rfl ?_
      exact x_ireti dX4_sheetFault_30 rfl (show K (-1000000006) σ from (show (-1000000006 : Int32) = fnd 5 by decide) ▸ hk)
  · exact absurd (show vR (nI 0) (nI 3) (nI j) from vR_nI (by omega) (by omega) (by decide)) h6
set_option maxHeartbeats 4000000 in
set_option maxRecDepth 20000 in
theorem c_X4_faultN {σ : xH} {K : Int32 → xH → Prop} {S : St} (hS : cS σ S) {j : Nat} (hj : j < 4) (hb : ¬ gW S j = 0) (hk : K (nI 0) σ) : Evi l (oC ad D cy) mX4_sheetFault [.ref 0, .int (nI j)] σ K := by
  refine x_enter (ls := [some (.ref 0), some (.int (nI j))]) rfl ?_
  refine x_iload_n (i := 1) dX4_sheetFault_0 rfl rfl ?_
  refine x_iconstN (n := 0) dX4_sheetFault_1 ?_
  refine x_iconstN (n := 3) dX4_sheetFault_2 ?_
  refine x_s3i dX4_sheetFault_3 okX4_isWithin ml_X4_48 (Nat.le_of_ble_eq_true rfl) ⟨by decide, by decide⟩ (Nat.le_of_ble_eq_true rfl) (c_X4_isWithin _ _ _ ?_)
  refine x_ifneP (tgt := 12) dX4_sheetFault_6 rfl (fun h6 => ?_) (fun h6 => ?_)
  · skip
    refine x_aload_n (i := 0) dX4_sheetFault_12 rfl rfl ?_
    refine x_getr (i := 4) dX4_sheetFault_13 rfl rfl rfl (by decide) fl_X4_31 inX4 ?_
    refine x_iload_n (i := 1) dX4_sheetFault_16 rfl rfl ?_
    refine x_aaldN rfl dX4_sheetFault_17 rfl (by omega) (by decide) ?_
    refine x_getiE (i := 0) dX4_sheetFault_18 (sS0 hj) rfl rfl (by decide) fl_X4_200 inX1 ((hS.2.2.2.2.2.2.1 j hj).1) ?_
    refine x_ifne (tgt := 29) dX4_sheetFault_21 rfl (fun h21 => ?_) (fun h21 => ?_)
    · skip
      refine x_iconstN (n := 0) dX4_sheetFault_29 ?_
      exact x_ireti dX4_sheetFault_30 rfl hk
    · exact absurd h21 hb
  · exact absurd (show vR (nI 0) (nI 3) (nI j) from vR_nI (by omega) (by omega) (by decide)) h6
set_option maxHeartbeats 4000000 in
set_option maxRecDepth 20000 in
theorem c_X4_sheet {σ : xH} {K : Int32 → xH → Prop} {S : St} (hS : cS σ S) (s b m : Int32) (hk : ∀ τ, cS τ (oSheet S s b m).2 → K (oSheet S s b m).1 τ) : Evi l (oC ad D cy) mX4_sheet [.ref 0, .int s, .int b, .int m] σ K := by
  have hw := hS.1
  have h8 := tw_8 hw
  refine x_enter (ls := [some (.ref 0), some (.int s), some (.int b), some (.int m)]) rfl ?_
  by_cases hc : vR (nI 0) (nI 3) s ∧ (b = 0 ∨ b = nI 8 ∨ b = nI 16 ∨ b = nI 64)
  · unfold oSheet at hk
    rw [if_pos hc] at hk
    obtain ⟨j, -, hj3, rfl⟩ := vR_of hc.1 (by decide) (by decide)
    have hj : j < 4 := by omega
    have h8j : j < 2 ^ 31 := by omega
    simp only [cn, nI_clamp h8j] at hk
    by_cases h1 : 0 ≤ m
    · rw [if_pos h1] at hk
      by_cases h2 : m ≤ nI 40
      · rw [if_pos h2] at hk
        obtain ⟨z, hz, rfl⟩ := nI_of (x := m) (Int32.not_lt.mpr h1)
        have hz40 : z ≤ 40 := (nI_leI hz (by decide)).mp h2
        simp only [nI_clamp hz] at hk
        refine x_iload_n (i := 1) dX4_sheet_0 rfl rfl ?_
        refine x_iconstN (n := 0) dX4_sheet_1 ?_
        refine x_iconstN (n := 3) dX4_sheet_2 ?_
        refine x_s3i dX4_sheet_3 okX4_isWithin ml_X4_48 (Nat.le_of_ble_eq_true rfl) ⟨by decide, by decide⟩ (Nat.le_of_ble_eq_true rfl) (c_X4_isWithin _ _ _ ?_)
        refine x_ifeqP (tgt := 31) dX4_sheet_6 rfl (fun h6 => ?_) (fun h6 => ?_)
        · exact absurd hc.1 h6
        · skip
          refine x_iload_n (i := 2) dX4_sheet_9 rfl rfl ?_
          refine x_ifeq (tgt := 38) dX4_sheet_10 rfl (fun h10 => ?_) (fun h10 => ?_)
          · skip
            refine x_iload_n (i := 3) dX4_sheet_38 rfl rfl ?_
            refine x_ifge (tgt := 49) dX4_sheet_39 rfl (fun h39 => ?_) (fun h39 => ?_)
            · skip
              refine x_iload_n (i := 3) dX4_sheet_49 rfl rfl ?_
              refine x_bipush (v := nI 40) dX4_sheet_50 (by decide) ?_
              refine x_icleN (tgt := 62) (by omega) (by omega) dX4_sheet_52 rfl (fun h52 => ?_) (fun h52 => ?_)
              · skip
                refine x_aload_n (i := 0) dX4_sheet_62 rfl rfl ?_
                refine x_getr (i := 4) dX4_sheet_63 rfl rfl rfl (by decide) fl_X4_31 inX4 ?_
                refine x_iload_n (i := 1) dX4_sheet_66 rfl rfl ?_
                refine x_aaldN rfl dX4_sheet_67 rfl (by omega) (by decide) ?_
                refine x_iload_n (i := 2) dX4_sheet_68 rfl rfl ?_
                refine x_iload_n (i := 2) dX4_sheet_69 rfl rfl ?_
                refine x_ifne (tgt := 77) dX4_sheet_70 rfl (fun h70 => ?_) (fun h70 => ?_)
                · skip
                  refine x_iload_n (i := 3) dX4_sheet_77 rfl rfl ?_
                  refine x_v2v dX4_sheet_78 okX1_become ml_X4_183 (sS0 hj) rfl (Nat.le_of_ble_eq_true rfl) ⟨by decide, by decide⟩ (Nat.le_of_ble_eq_true rfl) (c_X1_become hj (by omega) _ (fun τ hs1 hf1 => ?_))
                  refine x_aload_n (i := 0) dX4_sheet_81 rfl rfl ?_
                  refine x_getr (i := 4) dX4_sheet_82 rfl rfl rfl (by decide) fl_X4_31 inX4 ?_
                  refine x_iload_n (i := 1) dX4_sheet_85 rfl rfl ?_
                  refine x_aaldN rfl dX4_sheet_86 rfl (by omega) (by decide) ?_
                  refine x_getiE (i := 1) dX4_sheet_87 (sS0 hj) rfl rfl (by decide) fl_X4_186 inX1 hs1.2.1 ?_
                  exact x_ireti dX4_sheet_90 rfl (by first | (simp only [if_pos h70] at hk; exact hk τ (cS_S hS hj hf1 hs1)) | (simp only [if_neg h70] at hk; exact hk τ (cS_S hS hj hf1 hs1)))
                · skip
                  refine x_iconstN (n := 0) dX4_sheet_73 ?_
                  refine x_goto (tgt := 78) dX4_sheet_74 rfl ?_
                  refine x_v2v dX4_sheet_78 okX1_become ml_X4_183 (sS0 hj) rfl (Nat.le_of_ble_eq_true rfl) ⟨by decide, by decide⟩ (Nat.le_of_ble_eq_true rfl) (c_X1_become hj (by omega) _ (fun τ hs1 hf1 => ?_))
                  refine x_aload_n (i := 0) dX4_sheet_81 rfl rfl ?_
                  refine x_getr (i := 4) dX4_sheet_82 rfl rfl rfl (by decide) fl_X4_31 inX4 ?_
                  refine x_iload_n (i := 1) dX4_sheet_85 rfl rfl ?_
                  refine x_aaldN rfl dX4_sheet_86 rfl (by omega) (by decide) ?_
                  refine x_getiE (i := 1) dX4_sheet_87 (sS0 hj) rfl rfl (by decide) fl_X4_186 inX1 hs1.2.1 ?_
                  exact x_ireti dX4_sheet_90 rfl (by first | (simp only [if_pos h70] at hk; exact hk τ (cS_S hS hj hf1 hs1)) | (simp only [if_neg h70] at hk; exact hk τ (cS_S hS hj hf1 hs1)))
              · exact absurd h2 (fun q => absurd ((nI_leI hz (by decide)).mp q) (by omega))
            · exact absurd h1 h39
          · skip
            refine x_iload_n (i := 2) dX4_sheet_13 rfl rfl ?_
            refine x_bipush (v := nI 8) dX4_sheet_14 (by decide) ?_
            refine x_iceq (tgt := 38) dX4_sheet_16 rfl (fun h16 => ?_) (fun h16 => ?_)
            · skip
              refine x_iload_n (i := 3) dX4_sheet_38 rfl rfl ?_
              refine x_ifge (tgt := 49) dX4_sheet_39 rfl (fun h39 => ?_) (fun h39 => ?_)
              · skip
                refine x_iload_n (i := 3) dX4_sheet_49 rfl rfl ?_
                refine x_bipush (v := nI 40) dX4_sheet_50 (by decide) ?_
                refine x_icleN (tgt := 62) (by omega) (by omega) dX4_sheet_52 rfl (fun h52 => ?_) (fun h52 => ?_)
                · skip
                  refine x_aload_n (i := 0) dX4_sheet_62 rfl rfl ?_
                  refine x_getr (i := 4) dX4_sheet_63 rfl rfl rfl (by decide) fl_X4_31 inX4 ?_
                  refine x_iload_n (i := 1) dX4_sheet_66 rfl rfl ?_
                  refine x_aaldN rfl dX4_sheet_67 rfl (by omega) (by decide) ?_
                  refine x_iload_n (i := 2) dX4_sheet_68 rfl rfl ?_
                  refine x_iload_n (i := 2) dX4_sheet_69 rfl rfl ?_
                  refine x_ifne (tgt := 77) dX4_sheet_70 rfl (fun h70 => ?_) (fun h70 => ?_)
                  · skip
                    refine x_iload_n (i := 3) dX4_sheet_77 rfl rfl ?_
                    refine x_v2v dX4_sheet_78 okX1_become ml_X4_183 (sS0 hj) rfl (Nat.le_of_ble_eq_true rfl) ⟨by decide, by decide⟩ (Nat.le_of_ble_eq_true rfl) (c_X1_become hj (by omega) _ (fun τ hs1 hf1 => ?_))
                    refine x_aload_n (i := 0) dX4_sheet_81 rfl rfl ?_
                    refine x_getr (i := 4) dX4_sheet_82 rfl rfl rfl (by decide) fl_X4_31 inX4 ?_
                    refine x_iload_n (i := 1) dX4_sheet_85 rfl rfl ?_
                    refine x_aaldN rfl dX4_sheet_86 rfl (by omega) (by decide) ?_
                    refine x_getiE (i := 1) dX4_sheet_87 (sS0 hj) rfl rfl (by decide) fl_X4_186 inX1 hs1.2.1 ?_
                    exact x_ireti dX4_sheet_90 rfl (by first | (simp only [if_pos h70] at hk; exact hk τ (cS_S hS hj hf1 hs1)) | (simp only [if_neg h70] at hk; exact hk τ (cS_S hS hj hf1 hs1)))
                  · skip
                    refine x_iconstN (n := 0) dX4_sheet_73 ?_
                    refine x_goto (tgt := 78) dX4_sheet_74 rfl ?_
                    refine x_v2v dX4_sheet_78 okX1_become ml_X4_183 (sS0 hj) rfl (Nat.le_of_ble_eq_true rfl) ⟨by decide, by decide⟩ (Nat.le_of_ble_eq_true rfl) (c_X1_become hj (by omega) _ (fun τ hs1 hf1 => ?_))
                    refine x_aload_n (i := 0) dX4_sheet_81 rfl rfl ?_
                    refine x_getr (i := 4) dX4_sheet_82 rfl rfl rfl (by decide) fl_X4_31 inX4 ?_
                    refine x_iload_n (i := 1) dX4_sheet_85 rfl rfl ?_
                    refine x_aaldN rfl dX4_sheet_86 rfl (by omega) (by decide) ?_
                    refine x_getiE (i := 1) dX4_sheet_87 (sS0 hj) rfl rfl (by decide) fl_X4_186 inX1 hs1.2.1 ?_
                    exact x_ireti dX4_sheet_90 rfl (by first | (simp only [if_pos h70] at hk; exact hk τ (cS_S hS hj hf1 hs1)) | (simp only [if_neg h70] at hk; exact hk τ (cS_S hS hj hf1 hs1)))
                · exact absurd h2 (fun q => absurd ((nI_leI hz (by decide)).mp q) (by omega))
              · exact absurd h1 h39
            · skip
              refine x_iload_n (i := 2) dX4_sheet_19 rfl rfl ?_
              refine x_bipush (v := nI 16) dX4_sheet_20 (by decide) ?_
              refine x_iceq (tgt := 38) dX4_sheet_22 rfl (fun h22 => ?_) (fun h22 => ?_)
              · skip
                refine x_iload_n (i := 3) dX4_sheet_38 rfl rfl ?_
                refine x_ifge (tgt := 49) dX4_sheet_39 rfl (fun h39 => ?_) (fun h39 => ?_)
                · skip
                  refine x_iload_n (i := 3) dX4_sheet_49 rfl rfl ?_
                  refine x_bipush (v := nI 40) dX4_sheet_50 (by decide) ?_
                  refine x_icleN (tgt := 62) (by omega) (by omega) dX4_sheet_52 rfl (fun h52 => ?_) (fun h52 => ?_)
                  · skip
                    refine x_aload_n (i := 0) dX4_sheet_62 rfl rfl ?_
                    refine x_getr (i := 4) dX4_sheet_63 rfl rfl rfl (by decide) fl_X4_31 inX4 ?_
                    refine x_iload_n (i := 1) dX4_sheet_66 rfl rfl ?_
                    refine x_aaldN rfl dX4_sheet_67 rfl (by omega) (by decide) ?_
                    refine x_iload_n (i := 2) dX4_sheet_68 rfl rfl ?_
                    refine x_iload_n (i := 2) dX4_sheet_69 rfl rfl ?_
                    refine x_ifne (tgt := 77) dX4_sheet_70 rfl (fun h70 => ?_) (fun h70 => ?_)
                    · skip
                      refine x_iload_n (i := 3) dX4_sheet_77 rfl rfl ?_
                      refine x_v2v dX4_sheet_78 okX1_become ml_X4_183 (sS0 hj) rfl (Nat.le_of_ble_eq_true rfl) ⟨by decide, by decide⟩ (Nat.le_of_ble_eq_true rfl) (c_X1_become hj (by omega) _ (fun τ hs1 hf1 => ?_))
                      refine x_aload_n (i := 0) dX4_sheet_81 rfl rfl ?_
                      refine x_getr (i := 4) dX4_sheet_82 rfl rfl rfl (by decide) fl_X4_31 inX4 ?_
                      refine x_iload_n (i := 1) dX4_sheet_85 rfl rfl ?_
                      refine x_aaldN rfl dX4_sheet_86 rfl (by omega) (by decide) ?_
                      refine x_getiE (i := 1) dX4_sheet_87 (sS0 hj) rfl rfl (by decide) fl_X4_186 inX1 hs1.2.1 ?_
                      exact x_ireti dX4_sheet_90 rfl (by first | (simp only [if_pos h70] at hk; exact hk τ (cS_S hS hj hf1 hs1)) | (simp only [if_neg h70] at hk; exact hk τ (cS_S hS hj hf1 hs1)))
                    · skip
                      refine x_iconstN (n := 0) dX4_sheet_73 ?_
                      refine x_goto (tgt := 78) dX4_sheet_74 rfl ?_
                      refine x_v2v dX4_sheet_78 okX1_become ml_X4_183 (sS0 hj) rfl (Nat.le_of_ble_eq_true rfl) ⟨by decide, by decide⟩ (Nat.le_of_ble_eq_true rfl) (c_X1_become hj (by omega) _ (fun τ hs1 hf1 => ?_))
                      refine x_aload_n (i := 0) dX4_sheet_81 rfl rfl ?_
                      refine x_getr (i := 4) dX4_sheet_82 rfl rfl rfl (by decide) fl_X4_31 inX4 ?_
                      refine x_iload_n (i := 1) dX4_sheet_85 rfl rfl ?_
                      refine x_aaldN rfl dX4_sheet_86 rfl (by omega) (by decide) ?_
                      refine x_getiE (i := 1) dX4_sheet_87 (sS0 hj) rfl rfl (by decide) fl_X4_186 inX1 hs1.2.1 ?_
                      exact x_ireti dX4_sheet_90 rfl (by first | (simp only [if_pos h70] at hk; exact hk τ (cS_S hS hj hf1 hs1)) | (simp only [if_neg h70] at hk; exact hk τ (cS_S hS hj hf1 hs1)))
                  · exact absurd h2 (fun q => absurd ((nI_leI hz (by decide)).mp q) (by omega))
                · exact absurd h1 h39
              · skip
                refine x_iload_n (i := 2) dX4_sheet_25 rfl rfl ?_
                refine x_bipush (v := nI 64) dX4_sheet_26 (by decide) ?_
                refine x_iceq (tgt := 38) dX4_sheet_28 rfl (fun h28 => ?_) (fun h28 => ?_)
                · skip
                  refine x_iload_n (i := 3) dX4_sheet_38 rfl rfl ?_
                  refine x_ifge (tgt := 49) dX4_sheet_39 rfl (fun h39 => ?_) (fun h39 => ?_)
                  · skip
                    refine x_iload_n (i := 3) dX4_sheet_49 rfl rfl ?_
                    refine x_bipush (v := nI 40) dX4_sheet_50 (by decide) ?_
                    refine x_icleN (tgt := 62) (by omega) (by omega) dX4_sheet_52 rfl (fun h52 => ?_) (fun h52 => ?_)
                    · skip
                      refine x_aload_n (i := 0) dX4_sheet_62 rfl rfl ?_
                      refine x_getr (i := 4) dX4_sheet_63 rfl rfl rfl (by decide) fl_X4_31 inX4 ?_
                      refine x_iload_n (i := 1) dX4_sheet_66 rfl rfl ?_
                      refine x_aaldN rfl dX4_sheet_67 rfl (by omega) (by decide) ?_
                      refine x_iload_n (i := 2) dX4_sheet_68 rfl rfl ?_
                      refine x_iload_n (i := 2) dX4_sheet_69 rfl rfl ?_
                      refine x_ifne (tgt := 77) dX4_sheet_70 rfl (fun h70 => ?_) (fun h70 => ?_)
                      · skip
                        refine x_iload_n (i := 3) dX4_sheet_77 rfl rfl ?_
                        refine x_v2v dX4_sheet_78 okX1_become ml_X4_183 (sS0 hj) rfl (Nat.le_of_ble_eq_true rfl) ⟨by decide, by decide⟩ (Nat.le_of_ble_eq_true rfl) (c_X1_become hj (by omega) _ (fun τ hs1 hf1 => ?_))
                        refine x_aload_n (i := 0) dX4_sheet_81 rfl rfl ?_
                        refine x_getr (i := 4) dX4_sheet_82 rfl rfl rfl (by decide) fl_X4_31 inX4 ?_
                        refine x_iload_n (i := 1) dX4_sheet_85 rfl rfl ?_
                        refine x_aaldN rfl dX4_sheet_86 rfl (by omega) (by decide) ?_
                        refine x_getiE (i := 1) dX4_sheet_87 (sS0 hj) rfl rfl (by decide) fl_X4_186 inX1 hs1.2.1 ?_
                        exact x_ireti dX4_sheet_90 rfl (by first | (simp only [if_pos h70] at hk; exact hk τ (cS_S hS hj hf1 hs1)) | (simp only [if_neg h70] at hk; exact hk τ (cS_S hS hj hf1 hs1)))
                      · skip
                        refine x_iconstN (n := 0) dX4_sheet_73 ?_
                        refine x_goto (tgt := 78) dX4_sheet_74 rfl ?_
                        refine x_v2v dX4_sheet_78 okX1_become ml_X4_183 (sS0 hj) rfl (Nat.le_of_ble_eq_true rfl) ⟨by decide, by decide⟩ (Nat.le_of_ble_eq_true rfl) (c_X1_become hj (by omega) _ (fun τ hs1 hf1 => ?_))
                        refine x_aload_n (i := 0) dX4_sheet_81 rfl rfl ?_
                        refine x_getr (i := 4) dX4_sheet_82 rfl rfl rfl (by decide) fl_X4_31 inX4 ?_
                        refine x_iload_n (i := 1) dX4_sheet_85 rfl rfl ?_
                        refine x_aaldN rfl dX4_sheet_86 rfl (by omega) (by decide) ?_
                        refine x_getiE (i := 1) dX4_sheet_87 (sS0 hj) rfl rfl (by decide) fl_X4_186 inX1 hs1.2.1 ?_
                        exact x_ireti dX4_sheet_90 rfl (by first | (simp only [if_pos h70] at hk; exact hk τ (cS_S hS hj hf1 hs1)) | (simp only [if_neg h70] at hk; exact hk τ (cS_S hS hj hf1 hs1)))
                    · exact absurd h2 (fun q => absurd ((nI_leI hz (by decide)).mp q) (by omega))
                  · exact absurd h1 h39
                · exact absurd hc.2 (fun z => z.elim h10 (fun z => z.elim h16 (fun z => z.elim h22 h28)))
      · rw [if_neg h2] at hk
        refine x_iload_n (i := 1) dX4_sheet_0 rfl rfl ?_
        refine x_iconstN (n := 0) dX4_sheet_1 ?_
        refine x_iconstN (n := 3) dX4_sheet_2 ?_
        refine x_s3i dX4_sheet_3 okX4_isWithin ml_X4_48 (Nat.le_of_ble_eq_true rfl) ⟨by decide, by decide⟩ (Nat.le_of_ble_eq_true rfl) (c_X4_isWithin _ _ _ ?_)
        refine x_ifeqP (tgt := 31) dX4_sheet_6 rfl (fun h6 => ?_) (fun h6 => ?_)
        · exact absurd hc.1 h6
        · skip
          refine x_iload_n (i := 2) dX4_sheet_9 rfl rfl ?_
          refine x_ifeq (tgt := 38) dX4_sheet_10 rfl (fun h10 => ?_) (fun h10 => ?_)
          · skip
            refine x_iload_n (i := 3) dX4_sheet_38 rfl rfl ?_
            refine x_ifge (tgt := 49) dX4_sheet_39 rfl (fun h39 => ?_) (fun h39 => ?_)
            · skip
              refine x_iload_n (i := 3) dX4_sheet_49 rfl rfl ?_
              refine x_bipush (v := nI 40) dX4_sheet_50 (by decide) ?_
              refine x_icle (tgt := 62) dX4_sheet_52 rfl (fun h52 => ?_) (fun h52 => ?_)
              · exact absurd h52 h2
              · skip
                refine x_aload_n (i := 0) dX4_sheet_55 rfl rfl ?_
                refine x_ldc (v := -1000000001) dX4_sheet_56 kc_X4_52 ?_
                refine x_v1i dX4_sheet_58 okX4_tell ml_X4_53 rfl rfl (Nat.le_of_ble_eq_true rfl) ⟨by decide, by decide⟩ (Nat.le_of_ble_eq_true rfl) (c_X4_tell hS 0 (by decide) (by decide) (by decide) (fun τ hτ => ?_))
                exact x_ireti dX4_sheet_61 rfl (hk τ hτ)
            · exact absurd h1 h39
          · skip
            refine x_iload_n (i := 2) dX4_sheet_13 rfl rfl ?_
            refine x_bipush (v := nI 8) dX4_sheet_14 (by decide) ?_
            refine x_iceq (tgt := 38) dX4_sheet_16 rfl (fun h16 => ?_) (fun h16 => ?_)
            · skip
              refine x_iload_n (i := 3) dX4_sheet_38 rfl rfl ?_
              refine x_ifge (tgt := 49) dX4_sheet_39 rfl (fun h39 => ?_) (fun h39 => ?_)
              · skip
                refine x_iload_n (i := 3) dX4_sheet_49 rfl rfl ?_
                refine x_bipush (v := nI 40) dX4_sheet_50 (by decide) ?_
                refine x_icle (tgt := 62) dX4_sheet_52 rfl (fun h52 => ?_) (fun h52 => ?_)
                · exact absurd h52 h2
                · skip
                  refine x_aload_n (i := 0) dX4_sheet_55 rfl rfl ?_
                  refine x_ldc (v := -1000000001) dX4_sheet_56 kc_X4_52 ?_
                  refine x_v1i dX4_sheet_58 okX4_tell ml_X4_53 rfl rfl (Nat.le_of_ble_eq_true rfl) ⟨by decide, by decide⟩ (Nat.le_of_ble_eq_true rfl) (c_X4_tell hS 0 (by decide) (by decide) (by decide) (fun τ hτ => ?_))
                  exact x_ireti dX4_sheet_61 rfl (hk τ hτ)
              · exact absurd h1 h39
            · skip
              refine x_iload_n (i := 2) dX4_sheet_19 rfl rfl ?_
              refine x_bipush (v := nI 16) dX4_sheet_20 (by decide) ?_
              refine x_iceq (tgt := 38) dX4_sheet_22 rfl (fun h22 => ?_) (fun h22 => ?_)
              · skip
                refine x_iload_n (i := 3) dX4_sheet_38 rfl rfl ?_
                refine x_ifge (tgt := 49) dX4_sheet_39 rfl (fun h39 => ?_) (fun h39 => ?_)
                · skip
                  refine x_iload_n (i := 3) dX4_sheet_49 rfl rfl ?_
                  refine x_bipush (v := nI 40) dX4_sheet_50 (by decide) ?_
                  refine x_icle (tgt := 62) dX4_sheet_52 rfl (fun h52 => ?_) (fun h52 => ?_)
                  · exact absurd h52 h2
                  · skip
                    refine x_aload_n (i := 0) dX4_sheet_55 rfl rfl ?_
                    refine x_ldc (v := -1000000001) dX4_sheet_56 kc_X4_52 ?_
                    refine x_v1i dX4_sheet_58 okX4_tell ml_X4_53 rfl rfl (Nat.le_of_ble_eq_true rfl) ⟨by decide, by decide⟩ (Nat.le_of_ble_eq_true rfl) (c_X4_tell hS 0 (by decide) (by decide) (by decide) (fun τ hτ => ?_))
                    exact x_ireti dX4_sheet_61 rfl (hk τ hτ)
                · exact absurd h1 h39
              · skip
                refine x_iload_n (i := 2) dX4_sheet_25 rfl rfl ?_
                refine x_bipush (v := nI 64) dX4_sheet_26 (by decide) ?_
                refine x_iceq (tgt := 38) dX4_sheet_28 rfl (fun h28 => ?_) (fun h28 => ?_)
                · skip
                  refine x_iload_n (i := 3) dX4_sheet_38 rfl rfl ?_
                  refine x_ifge (tgt := 49) dX4_sheet_39 rfl (fun h39 => ?_) (fun h39 => ?_)
                  · skip
                    refine x_iload_n (i := 3) dX4_sheet_49 rfl rfl ?_
                    refine x_bipush (v := nI 40) dX4_sheet_50 (by decide) ?_
                    refine x_icle (tgt := 62) dX4_sheet_52 rfl (fun h52 => ?_) (fun h52 => ?_)
                    · exact absurd h52 h2
                    · skip
                      refine x_aload_n (i := 0) dX4_sheet_55 rfl rfl ?_
                      refine x_ldc (v := -1000000001) dX4_sheet_56 kc_X4_52 ?_
                      refine x_v1i dX4_sheet_58 okX4_tell ml_X4_53 rfl rfl (Nat.le_of_ble_eq_true rfl) ⟨by decide, by decide⟩ (Nat.le_of_ble_eq_true rfl) (c_X4_tell hS 0 (by decide) (by decide) (by decide) (fun τ hτ => ?_))
                      exact x_ireti dX4_sheet_61 rfl (hk τ hτ)
                  · exact absurd h1 h39
                · exact absurd hc.2 (fun z => z.elim h10 (fun z => z.elim h16 (fun z => z.elim h22 h28)))
    · rw [if_neg h1] at hk
      refine x_iload_n (i := 1) dX4_sheet_0 rfl rfl ?_
      refine x_iconstN (n := 0) dX4_sheet_1 ?_
      refine x_iconstN (n := 3) dX4_sheet_2 ?_
      refine x_s3i dX4_sheet_3 okX4_isWithin ml_X4_48 (Nat.le_of_ble_eq_true rfl) ⟨by decide, by decide⟩ (Nat.le_of_ble_eq_true rfl) (c_X4_isWithin _ _ _ ?_)
      refine x_ifeqP (tgt := 31) dX4_sheet_6 rfl (fun h6 => ?_) (fun h6 => ?_)
      · exact absurd hc.1 h6
      · skip
        refine x_iload_n (i := 2) dX4_sheet_9 rfl rfl ?_
        refine x_ifeq (tgt := 38) dX4_sheet_10 rfl (fun h10 => ?_) (fun h10 => ?_)
        · skip
          refine x_iload_n (i := 3) dX4_sheet_38 rfl rfl ?_
          refine x_ifge (tgt := 49) dX4_sheet_39 rfl (fun h39 => ?_) (fun h39 => ?_)
          · exact absurd h39 h1
          · skip
            refine x_aload_n (i := 0) dX4_sheet_42 rfl rfl ?_
            refine x_ldc (v := -1000000007) dX4_sheet_43 kc_X4_182 ?_
            refine x_v1i dX4_sheet_45 okX4_tell ml_X4_53 rfl rfl (Nat.le_of_ble_eq_true rfl) ⟨by decide, by decide⟩ (Nat.le_of_ble_eq_true rfl) (c_X4_tell hS 6 (by decide) (by decide) (by decide) (fun τ hτ => ?_))
            exact x_ireti dX4_sheet_48 rfl (hk τ hτ)
        · skip
          refine x_iload_n (i := 2) dX4_sheet_13 rfl rfl ?_
          refine x_bipush (v := nI 8) dX4_sheet_14 (by decide) ?_
          refine x_iceq (tgt := 38) dX4_sheet_16 rfl (fun h16 => ?_) (fun h16 => ?_)
          · skip
            refine x_iload_n (i := 3) dX4_sheet_38 rfl rfl ?_
            refine x_ifge (tgt := 49) dX4_sheet_39 rfl (fun h39 => ?_) (fun h39 => ?_)
            · exact absurd h39 h1
            · skip
              refine x_aload_n (i := 0) dX4_sheet_42 rfl rfl ?_
              refine x_ldc (v := -1000000007) dX4_sheet_43 kc_X4_182 ?_
              refine x_v1i dX4_sheet_45 okX4_tell ml_X4_53 rfl rfl (Nat.le_of_ble_eq_true rfl) ⟨by decide, by decide⟩ (Nat.le_of_ble_eq_true rfl) (c_X4_tell hS 6 (by decide) (by decide) (by decide) (fun τ hτ => ?_))
              exact x_ireti dX4_sheet_48 rfl (hk τ hτ)
          · skip
            refine x_iload_n (i := 2) dX4_sheet_19 rfl rfl ?_
            refine x_bipush (v := nI 16) dX4_sheet_20 (by decide) ?_
            refine x_iceq (tgt := 38) dX4_sheet_22 rfl (fun h22 => ?_) (fun h22 => ?_)
            · skip
              refine x_iload_n (i := 3) dX4_sheet_38 rfl rfl ?_
              refine x_ifge (tgt := 49) dX4_sheet_39 rfl (fun h39 => ?_) (fun h39 => ?_)
              · exact absurd h39 h1
              · skip
                refine x_aload_n (i := 0) dX4_sheet_42 rfl rfl ?_
                refine x_ldc (v := -1000000007) dX4_sheet_43 kc_X4_182 ?_
                refine x_v1i dX4_sheet_45 okX4_tell ml_X4_53 rfl rfl (Nat.le_of_ble_eq_true rfl) ⟨by decide, by decide⟩ (Nat.le_of_ble_eq_true rfl) (c_X4_tell hS 6 (by decide) (by decide) (by decide) (fun τ hτ => ?_))
                exact x_ireti dX4_sheet_48 rfl (hk τ hτ)
            · skip
              refine x_iload_n (i := 2) dX4_sheet_25 rfl rfl ?_
              refine x_bipush (v := nI 64) dX4_sheet_26 (by decide) ?_
              refine x_iceq (tgt := 38) dX4_sheet_28 rfl (fun h28 => ?_) (fun h28 => ?_)
              · skip
                refine x_iload_n (i := 3) dX4_sheet_38 rfl rfl ?_
                refine x_ifge (tgt := 49) dX4_sheet_39 rfl (fun h39 => ?_) (fun h39 => ?_)
                · exact absurd h39 h1
                · skip
                  refine x_aload_n (i := 0) dX4_sheet_42 rfl rfl ?_
                  refine x_ldc (v := -1000000007) dX4_sheet_43 kc_X4_182 ?_
                  refine x_v1i dX4_sheet_45 okX4_tell ml_X4_53 rfl rfl (Nat.le_of_ble_eq_true rfl) ⟨by decide, by decide⟩ (Nat.le_of_ble_eq_true rfl) (c_X4_tell hS 6 (by decide) (by decide) (by decide) (fun τ hτ => ?_))
                  exact x_ireti dX4_sheet_48 rfl (hk τ hτ)
              · exact absurd hc.2 (fun z => z.elim h10 (fun z => z.elim h16 (fun z => z.elim h22 h28)))
  · unfold oSheet at hk
    rw [if_neg hc] at hk
    refine x_iload_n (i := 1) dX4_sheet_0 rfl rfl ?_
    refine x_iconstN (n := 0) dX4_sheet_1 ?_
    refine x_iconstN (n := 3) dX4_sheet_2 ?_
    refine x_s3i dX4_sheet_3 okX4_isWithin ml_X4_48 (Nat.le_of_ble_eq_true rfl) ⟨by decide, by decide⟩ (Nat.le_of_ble_eq_true rfl) (c_X4_isWithin _ _ _ ?_)
    refine x_ifeqP (tgt := 31) dX4_sheet_6 rfl (fun h6 => ?_) (fun h6 => ?_)
    · skip
      refine x_aload_n (i := 0) dX4_sheet_31 rfl rfl ?_
      refine x_ldc (v := -1000000001) dX4_sheet_32 kc_X4_52 ?_
      refine x_v1i dX4_sheet_34 okX4_tell ml_X4_53 rfl rfl (Nat.le_of_ble_eq_true rfl) ⟨by decide, by decide⟩ (Nat.le_of_ble_eq_true rfl) (c_X4_tell hS 0 (by decide) (by decide) (by decide) (fun τ hτ => ?_))
      exact x_ireti dX4_sheet_37 rfl (hk τ hτ)
    · skip
      refine x_iload_n (i := 2) dX4_sheet_9 rfl rfl ?_
      refine x_ifeq (tgt := 38) dX4_sheet_10 rfl (fun h10 => ?_) (fun h10 => ?_)
      · exact absurd ⟨h6, Or.inl h10⟩ hc
      · skip
        refine x_iload_n (i := 2) dX4_sheet_13 rfl rfl ?_
        refine x_bipush (v := nI 8) dX4_sheet_14 (by decide) ?_
        refine x_iceq (tgt := 38) dX4_sheet_16 rfl (fun h16 => ?_) (fun h16 => ?_)
        · exact absurd ⟨h6, Or.inr (Or.inl h16)⟩ hc
        · skip
          refine x_iload_n (i := 2) dX4_sheet_19 rfl rfl ?_
          refine x_bipush (v := nI 16) dX4_sheet_20 (by decide) ?_
          refine x_iceq (tgt := 38) dX4_sheet_22 rfl (fun h22 => ?_) (fun h22 => ?_)
          · exact absurd ⟨h6, Or.inr (Or.inr (Or.inl h22))⟩ hc
          · skip
            refine x_iload_n (i := 2) dX4_sheet_25 rfl rfl ?_
            refine x_bipush (v := nI 64) dX4_sheet_26 (by decide) ?_
            refine x_iceq (tgt := 38) dX4_sheet_28 rfl (fun h28 => ?_) (fun h28 => ?_)
            · exact absurd ⟨h6, Or.inr (Or.inr (Or.inr h28))⟩ hc
            · skip
              refine x_aload_n (i := 0) dX4_sheet_31 rfl rfl ?_
              refine x_ldc (v := -1000000001) dX4_sheet_32 kc_X4_52 ?_
              refine x_v1i dX4_sheet_34 okX4_tell ml_X4_53 rfl rfl (Nat.le_of_ble_eq_true rfl) ⟨by decide, by decide⟩ (Nat.le_of_ble_eq_true rfl) (c_X4_tell hS 0 (by decide) (by decide) (by decide) (fun τ hτ => ?_))
              exact x_ireti dX4_sheet_37 rfl (hk τ hτ)
set_option maxHeartbeats 4000000 in
set_option maxRecDepth 20000 in
theorem c_X4_write {σ : xH} {K : Int64 → xH → Prop} {S : St} (hS : cS σ S) (s i : Int32) (v : Int64) (hk : ∀ τ, cS τ (oWrite S s i v).2 → K (oWrite S s i v).1 τ) : Evl l (oC ad D cy) mX4_write [.ref 0, .int s, .int i, .long v] σ K := by
  have hw := hS.1
  have h8 := tw_8 hw
  refine x_enter (ls := [some (.ref 0), some (.int s), some (.int i), some (.long v), none, none, none, none]) rfl ?_
  by_cases hc : vR (nI 0) (nI 3) s
  · unfold oWrite at hk
    rw [if_pos hc] at hk
    obtain ⟨j, -, hj3, rfl⟩ := vR_of hc (by decide) (by decide)
    have hj : j < 4 := by omega
    have h8j : j < 2 ^ 31 := by omega
    simp only [cn, nI_clamp h8j] at hk
    by_cases h1 : gW S j = 0
    · rw [if_pos h1] at hk
      refine x_aload_n (i := 0) dX4_write_0 rfl rfl ?_
      refine x_iload_n (i := 1) dX4_write_1 rfl rfl ?_
      refine x_v1i dX4_write_2 okX4_sheetFault ml_X4_189 rfl rfl (Nat.le_of_ble_eq_true rfl) ⟨by decide, by decide⟩ (Nat.le_of_ble_eq_true rfl) (c_X4_fault5 hS hj h1 ?_)
      refine y_istore (i := 5) (ls2 := [_, _, _, _, _, _, _, _]) dX4_write_5 (by decide) rfl rfl ?_
      refine x_iload (i := 5) dX4_write_7 rfl ?_
      refine x_ifeq (tgt := 20) dX4_write_9 rfl (fun h9 => ?_) (fun h9 => ?_)
      · exact absurd h9 (by decide)
      · skip
        refine x_aload_n (i := 0) dX4_write_12 rfl rfl ?_
        refine x_iload (i := 5) dX4_write_13 rfl ?_
        refine x_v1i dX4_write_15 okX4_tell ml_X4_53 rfl rfl (Nat.le_of_ble_eq_true rfl) ⟨by decide, by decide⟩ (Nat.le_of_ble_eq_true rfl) (c_X4_tell hS 5 (by decide) (by decide) (by decide) (fun τ hτ => ?_))
        refine x_i2l dX4_write_18 ?_
        exact x_retl dX4_write_19 rfl (hk τ hτ)
    · rw [if_neg h1] at hk
      have hs := hS.2.2.2.2.2.2.1 j hj
      have hz := hs.2.2.2
      by_cases h2 : vN (gZ S j) i
      · rw [if_pos h2] at hk
        obtain ⟨x, hx, rfl⟩ := vN_of h2 (by omega)
        simp only [nI_clamp (show x < 2 ^ 31 by omega)] at hk
        refine x_aload_n (i := 0) dX4_write_0 rfl rfl ?_
        refine x_iload_n (i := 1) dX4_write_1 rfl rfl ?_
        refine x_v1i dX4_write_2 okX4_sheetFault ml_X4_189 rfl rfl (Nat.le_of_ble_eq_true rfl) ⟨by decide, by decide⟩ (Nat.le_of_ble_eq_true rfl) (c_X4_faultN hS hj h1 ?_)
        refine y_istore (i := 5) (ls2 := [_, _, _, _, _, _, _, _]) dX4_write_5 (by decide) rfl rfl ?_
        refine x_iload (i := 5) dX4_write_7 rfl ?_
        refine x_ifeq (tgt := 20) dX4_write_9 rfl (fun h9 => ?_) (fun h9 => ?_)
        · skip
          refine x_iload_n (i := 2) dX4_write_20 rfl rfl ?_
          refine x_iflt (tgt := 37) dX4_write_21 rfl (fun h21 => ?_) (fun h21 => ?_)
          · exact absurd h21 h2.1
          · skip
            refine x_iload_n (i := 2) dX4_write_24 rfl rfl ?_
            refine x_aload_n (i := 0) dX4_write_25 rfl rfl ?_
            refine x_getr (i := 4) dX4_write_26 rfl rfl rfl (by decide) fl_X4_31 inX4 ?_
            refine x_iload_n (i := 1) dX4_write_29 rfl rfl ?_
            refine x_aaldN rfl dX4_write_30 rfl (by omega) (by decide) ?_
            refine x_getiE (i := 1) dX4_write_31 (sS0 hj) rfl rfl (by decide) fl_X4_186 inX1 hs.2.1 ?_
            refine x_icltN (tgt := 45) (by omega) (by omega) dX4_write_34 rfl (fun h34 => ?_) (fun h34 => ?_)
            · skip
              refine x_aload_n (i := 0) dX4_write_45 rfl rfl ?_
              refine x_getr (i := 4) dX4_write_46 rfl rfl rfl (by decide) fl_X4_31 inX4 ?_
              refine x_iload_n (i := 1) dX4_write_49 rfl rfl ?_
              refine x_aaldN rfl dX4_write_50 rfl (by omega) (by decide) ?_
              refine x_getr (i := 2) dX4_write_51 (sS0 hj) rfl rfl (by decide) fl_X4_192 inX1 ?_
              refine x_iload_n (i := 2) dX4_write_54 rfl rfl ?_
              refine x_laldE dX4_write_55 (sS1 hj) (by omega) (by decide) (hs.2.2.1 x (by omega)) ?_
              refine x_lstore (i := 6) (ls2 := [_, _, _, _, _, _, _, _]) dX4_write_56 (by decide) rfl ?_
              refine x_aload_n (i := 0) dX4_write_58 rfl rfl ?_
              refine x_getr (i := 4) dX4_write_59 rfl rfl rfl (by decide) fl_X4_31 inX4 ?_
              refine x_iload_n (i := 1) dX4_write_62 rfl rfl ?_
              refine x_aaldN rfl dX4_write_63 rfl (by omega) (by decide) ?_
              refine x_iload_n (i := 2) dX4_write_64 rfl rfl ?_
              refine x_lload_n (i := 3) dX4_write_65 rfl rfl ?_
              refine x_v2v dX4_write_66 okX1_put ml_X4_196 (sS0 hj) rfl (Nat.le_of_ble_eq_true rfl) ⟨by decide, by decide⟩ (Nat.le_of_ble_eq_true rfl) (c_X1_put hj hs (by omega) _ (fun τ hs1 hf1 => ?_))
              refine x_lload (i := 6) dX4_write_69 rfl ?_
              exact x_retl dX4_write_71 rfl (hk τ (cS_S hS hj hf1 hs1))
            · exact absurd h34 (by omega)
        · exact absurd h9 (by decide)
      · rw [if_neg h2] at hk
        refine x_aload_n (i := 0) dX4_write_0 rfl rfl ?_
        refine x_iload_n (i := 1) dX4_write_1 rfl rfl ?_
        refine x_v1i dX4_write_2 okX4_sheetFault ml_X4_189 rfl rfl (Nat.le_of_ble_eq_true rfl) ⟨by decide, by decide⟩ (Nat.le_of_ble_eq_true rfl) (c_X4_faultN hS hj h1 ?_)
        refine y_istore (i := 5) (ls2 := [_, _, _, _, _, _, _, _]) dX4_write_5 (by decide) rfl rfl ?_
        refine x_iload (i := 5) dX4_write_7 rfl ?_
        refine x_ifeq (tgt := 20) dX4_write_9 rfl (fun h9 => ?_) (fun h9 => ?_)
        · skip
          refine x_iload_n (i := 2) dX4_write_20 rfl rfl ?_
          refine x_iflt (tgt := 37) dX4_write_21 rfl (fun h21 => ?_) (fun h21 => ?_)
          · skip
            refine x_aload_n (i := 0) dX4_write_37 rfl rfl ?_
            refine x_ldc (v := -1000000001) dX4_write_38 kc_X4_52 ?_
            refine x_v1i dX4_write_40 okX4_tell ml_X4_53 rfl rfl (Nat.le_of_ble_eq_true rfl) ⟨by decide, by decide⟩ (Nat.le_of_ble_eq_true rfl) (c_X4_tell hS 0 (by decide) (by decide) (by decide) (fun τ hτ => ?_))
            refine x_i2l dX4_write_43 ?_
            exact x_retl dX4_write_44 rfl (hk τ hτ)
          · skip
            refine x_iload_n (i := 2) dX4_write_24 rfl rfl ?_
            refine x_aload_n (i := 0) dX4_write_25 rfl rfl ?_
            refine x_getr (i := 4) dX4_write_26 rfl rfl rfl (by decide) fl_X4_31 inX4 ?_
            refine x_iload_n (i := 1) dX4_write_29 rfl rfl ?_
            refine x_aaldN rfl dX4_write_30 rfl (by omega) (by decide) ?_
            refine x_getiE (i := 1) dX4_write_31 (sS0 hj) rfl rfl (by decide) fl_X4_186 inX1 hs.2.1 ?_
            refine x_iclt (tgt := 45) dX4_write_34 rfl (fun h34 => ?_) (fun h34 => ?_)
            · exact absurd ⟨h21, Int32.not_le.mpr h34⟩ h2
            · skip
              refine x_aload_n (i := 0) dX4_write_37 rfl rfl ?_
              refine x_ldc (v := -1000000001) dX4_write_38 kc_X4_52 ?_
              refine x_v1i dX4_write_40 okX4_tell ml_X4_53 rfl rfl (Nat.le_of_ble_eq_true rfl) ⟨by decide, by decide⟩ (Nat.le_of_ble_eq_true rfl) (c_X4_tell hS 0 (by decide) (by decide) (by decide) (fun τ hτ => ?_))
              refine x_i2l dX4_write_43 ?_
              exact x_retl dX4_write_44 rfl (hk τ hτ)
        · exact absurd h9 (by decide)
  · unfold oWrite at hk
    rw [if_neg hc] at hk
    refine x_aload_n (i := 0) dX4_write_0 rfl rfl ?_
    refine x_iload_n (i := 1) dX4_write_1 rfl rfl ?_
    refine x_v1i dX4_write_2 okX4_sheetFault ml_X4_189 rfl rfl (Nat.le_of_ble_eq_true rfl) ⟨by decide, by decide⟩ (Nat.le_of_ble_eq_true rfl) (c_X4_fault0 hc ?_)
    refine y_istore (i := 5) (ls2 := [_, _, _, _, _, _, _, _]) dX4_write_5 (by decide) rfl rfl ?_
    refine x_iload (i := 5) dX4_write_7 rfl ?_
    refine x_ifeq (tgt := 20) dX4_write_9 rfl (fun h9 => ?_) (fun h9 => ?_)
    · exact absurd h9 (by decide)
    · skip
      refine x_aload_n (i := 0) dX4_write_12 rfl rfl ?_
      refine x_iload (i := 5) dX4_write_13 rfl ?_
      refine x_v1i dX4_write_15 okX4_tell ml_X4_53 rfl rfl (Nat.le_of_ble_eq_true rfl) ⟨by decide, by decide⟩ (Nat.le_of_ble_eq_true rfl) (c_X4_tell hS 0 (by decide) (by decide) (by decide) (fun τ hτ => ?_))
      refine x_i2l dX4_write_18 ?_
      exact x_retl dX4_write_19 rfl (hk τ hτ)
set_option maxHeartbeats 4000000 in
set_option maxRecDepth 20000 in
theorem c_X4_copy {σ : xH} {K : Int32 → xH → Prop} {S : St} (hS : cS σ S) (s f t g m : Int32) (hk : ∀ τ, cS τ (oCopy S s f t g m).2 → K (oCopy S s f t g m).1 τ) : Evi l (oC ad D cy) mX4_copy [.ref 0, .int s, .int f, .int t, .int g, .int m] σ K := by
  have hw := hS.1
  have h8 := tw_8 hw
  refine x_enter (ls := [some (.ref 0), some (.int s), some (.int f), some (.int t), some (.int g), some (.int m), none, none]) rfl ?_
  by_cases hc : vR (nI 0) (nI 3) s ∧ vR (nI 0) (nI 3) t
  · unfold oCopy at hk
    rw [if_pos hc] at hk
    obtain ⟨j, -, hj3, rfl⟩ := vR_of hc.1 (by decide) (by decide)
    obtain ⟨i, -, hi3, rfl⟩ := vR_of hc.2 (by decide) (by decide)
    have hj : j < 4 := by omega
    have hi : i < 4 := by omega
    have h8j : j < 2 ^ 31 := by omega
    have h8i : i < 2 ^ 31 := by omega
    simp only [cn, nI_clamp h8j, nI_clamp h8i] at hk
    have hs := hS.2.2.2.2.2.2.1 j hj
    have ht := hS.2.2.2.2.2.2.1 i hi
    by_cases h1 : gW S j = 0 ∨ gW S i = 0
    · rw [if_pos h1] at hk
      refine x_iload_n (i := 1) dX4_copy_0 rfl rfl ?_
      refine x_iconstN (n := 0) dX4_copy_1 ?_
      refine x_iconstN (n := 3) dX4_copy_2 ?_
      refine x_s3i dX4_copy_3 okX4_isWithin ml_X4_48 (Nat.le_of_ble_eq_true rfl) ⟨by decide, by decide⟩ (Nat.le_of_ble_eq_true rfl) (c_X4_isWithin _ _ _ ?_)
      refine x_ifeqP (tgt := 18) dX4_copy_6 rfl (fun h6 => ?_) (fun h6 => ?_)
      · exact absurd hc.1 h6
      · skip
        refine x_iload_n (i := 3) dX4_copy_9 rfl rfl ?_
        refine x_iconstN (n := 0) dX4_copy_10 ?_
        refine x_iconstN (n := 3) dX4_copy_11 ?_
        refine x_s3i dX4_copy_12 okX4_isWithin ml_X4_48 (Nat.le_of_ble_eq_true rfl) ⟨by decide, by decide⟩ (Nat.le_of_ble_eq_true rfl) (c_X4_isWithin _ _ _ ?_)
        refine x_ifneP (tgt := 25) dX4_copy_15 rfl (fun h15 => ?_) (fun h15 => ?_)
        · skip
          refine x_aload_n (i := 0) dX4_copy_25 rfl rfl ?_
          refine x_getr (i := 4) dX4_copy_26 rfl rfl rfl (by decide) fl_X4_31 inX4 ?_
          refine x_iload_n (i := 1) dX4_copy_29 rfl rfl ?_
          refine x_aaldN rfl dX4_copy_30 rfl (by omega) (by decide) ?_
          refine y_astore (i := 6) (ls2 := [_, _, _, _, _, _, _, _]) dX4_copy_31 (by decide) rfl rfl ?_
          refine x_aload_n (i := 0) dX4_copy_33 rfl rfl ?_
          refine x_getr (i := 4) dX4_copy_34 rfl rfl rfl (by decide) fl_X4_31 inX4 ?_
          refine x_iload_n (i := 3) dX4_copy_37 rfl rfl ?_
          refine x_aaldN rfl dX4_copy_38 rfl (by omega) (by decide) ?_
          refine y_astore (i := 7) (ls2 := [_, _, _, _, _, _, _, _]) dX4_copy_39 (by decide) rfl rfl ?_
          refine x_aload (i := 6) dX4_copy_41 rfl ?_
          refine x_getiE (i := 0) dX4_copy_43 (sS0 hj) rfl rfl (by decide) fl_X4_200 inX1 hs.1 ?_
          refine x_ifeq (tgt := 57) dX4_copy_46 rfl (fun h46 => ?_) (fun h46 => ?_)
          · skip
            refine x_aload_n (i := 0) dX4_copy_57 rfl rfl ?_
            refine x_ldc (v := -1000000006) dX4_copy_58 kc_X4_203 ?_
            refine x_v1i dX4_copy_60 okX4_tell ml_X4_53 rfl rfl (Nat.le_of_ble_eq_true rfl) ⟨by decide, by decide⟩ (Nat.le_of_ble_eq_true rfl) (c_X4_tell hS 5 (by decide) (by decide) (by decide) (fun τ hτ => ?_))
            exact x_ireti dX4_copy_63 rfl (hk τ hτ)
          · skip
            refine x_aload (i := 7) dX4_copy_49 rfl ?_
            refine x_getiE (i := 0) dX4_copy_51 (sS0 hi) rfl rfl (by decide) fl_X4_200 inX1 ht.1 ?_
            refine x_ifne (tgt := 64) dX4_copy_54 rfl (fun h54 => ?_) (fun h54 => ?_)
            · exact absurd h1 (fun z => z.elim h46 h54)
            · skip
              refine x_aload_n (i := 0) dX4_copy_57 rfl rfl ?_
              refine x_ldc (v := -1000000006) dX4_copy_58 kc_X4_203 ?_
              refine x_v1i dX4_copy_60 okX4_tell ml_X4_53 rfl rfl (Nat.le_of_ble_eq_true rfl) ⟨by decide, by decide⟩ (Nat.le_of_ble_eq_true rfl) (c_X4_tell hS 5 (by decide) (by decide) (by decide) (fun τ hτ => ?_))
              exact x_ireti dX4_copy_63 rfl (hk τ hτ)
        · exact absurd hc.2 h15
    · rw [if_neg h1] at hk
      by_cases h2 : gW S j = gW S i
      · rw [if_pos h2] at hk
        by_cases h3 : vP (gZ S j) f m ∧ vP (gZ S i) g m
        · rw [if_pos h3] at hk
          obtain ⟨x, y, rfl, rfl, hxy⟩ := hp_of hs.2.2.2 h3.1
          obtain ⟨u, y2, rfl, ey, huy⟩ := hp_of ht.2.2.2 h3.2
          have hzj := hs.2.2.2
          have hzi := ht.2.2.2
          have ey : y = y2 := nI_inj (by omega) (by omega) ey
          subst ey
          have g1 : (nI x).toNatClampNeg = x := nI_clamp (by omega)
          have g2 : (nI y).toNatClampNeg = y := nI_clamp (by omega)
          have g3 : (nI u).toNatClampNeg = u := nI_clamp (by omega)
          simp only [g1, g2, g3] at hk
          have hcp : sh (xul σ (23 + 2 * i) (va_cpy (σ.2 (23 + 2 * j)) (σ.2 (23 + 2 * i)) (nI x).toNatClampNeg (nI u).toNatClampNeg (nI y).toNatClampNeg)) i (gW S i) (gZ S i) (va_cpy (gN S j) (gN S i) x u y) := by
            refine ⟨ht.1, ht.2.1, fun q hq => ?_, ht.2.2.2⟩
            rw [xul_s, g1, g2, g3]
            unfold va_cpy
            by_cases e : u ≤ q ∧ q < u + y
            · rw [if_pos e, if_pos e]; exact hs.2.2.1 _ (by omega)
            · rw [if_neg e, if_neg e]; exact ht.2.2.1 q hq
          refine x_iload_n (i := 1) dX4_copy_0 rfl rfl ?_
          refine x_iconstN (n := 0) dX4_copy_1 ?_
          refine x_iconstN (n := 3) dX4_copy_2 ?_
          refine x_s3i dX4_copy_3 okX4_isWithin ml_X4_48 (Nat.le_of_ble_eq_true rfl) ⟨by decide, by decide⟩ (Nat.le_of_ble_eq_true rfl) (c_X4_isWithin _ _ _ ?_)
          refine x_ifeqP (tgt := 18) dX4_copy_6 rfl (fun h6 => ?_) (fun h6 => ?_)
          · exact absurd hc.1 h6
          · skip
            refine x_iload_n (i := 3) dX4_copy_9 rfl rfl ?_
            refine x_iconstN (n := 0) dX4_copy_10 ?_
            refine x_iconstN (n := 3) dX4_copy_11 ?_
            refine x_s3i dX4_copy_12 okX4_isWithin ml_X4_48 (Nat.le_of_ble_eq_true rfl) ⟨by decide, by decide⟩ (Nat.le_of_ble_eq_true rfl) (c_X4_isWithin _ _ _ ?_)
            refine x_ifneP (tgt := 25) dX4_copy_15 rfl (fun h15 => ?_) (fun h15 => ?_)
            · skip
              refine x_aload_n (i := 0) dX4_copy_25 rfl rfl ?_
              refine x_getr (i := 4) dX4_copy_26 rfl rfl rfl (by decide) fl_X4_31 inX4 ?_
              refine x_iload_n (i := 1) dX4_copy_29 rfl rfl ?_
              refine x_aaldN rfl dX4_copy_30 rfl (by omega) (by decide) ?_
              refine y_astore (i := 6) (ls2 := [_, _, _, _, _, _, _, _]) dX4_copy_31 (by decide) rfl rfl ?_
              refine x_aload_n (i := 0) dX4_copy_33 rfl rfl ?_
              refine x_getr (i := 4) dX4_copy_34 rfl rfl rfl (by decide) fl_X4_31 inX4 ?_
              refine x_iload_n (i := 3) dX4_copy_37 rfl rfl ?_
              refine x_aaldN rfl dX4_copy_38 rfl (by omega) (by decide) ?_
              refine y_astore (i := 7) (ls2 := [_, _, _, _, _, _, _, _]) dX4_copy_39 (by decide) rfl rfl ?_
              refine x_aload (i := 6) dX4_copy_41 rfl ?_
              refine x_getiE (i := 0) dX4_copy_43 (sS0 hj) rfl rfl (by decide) fl_X4_200 inX1 hs.1 ?_
              refine x_ifeq (tgt := 57) dX4_copy_46 rfl (fun h46 => ?_) (fun h46 => ?_)
              · exact absurd (Or.inl h46) h1
              · skip
                refine x_aload (i := 7) dX4_copy_49 rfl ?_
                refine x_getiE (i := 0) dX4_copy_51 (sS0 hi) rfl rfl (by decide) fl_X4_200 inX1 ht.1 ?_
                refine x_ifne (tgt := 64) dX4_copy_54 rfl (fun h54 => ?_) (fun h54 => ?_)
                · skip
                  refine x_aload (i := 6) dX4_copy_64 rfl ?_
                  refine x_getiE (i := 0) dX4_copy_66 (sS0 hj) rfl rfl (by decide) fl_X4_200 inX1 hs.1 ?_
                  refine x_aload (i := 7) dX4_copy_69 rfl ?_
                  refine x_getiE (i := 0) dX4_copy_71 (sS0 hi) rfl rfl (by decide) fl_X4_200 inX1 ht.1 ?_
                  refine x_iceq (tgt := 84) dX4_copy_74 rfl (fun h74 => ?_) (fun h74 => ?_)
                  · skip
                    refine x_aload (i := 6) dX4_copy_84 rfl ?_
                    refine x_iload_n (i := 2) dX4_copy_86 rfl rfl ?_
                    refine x_iload (i := 5) dX4_copy_87 rfl ?_
                    refine x_v2i dX4_copy_89 okX1_hasPart ml_X4_204 (sS0 hj) rfl (Nat.le_of_ble_eq_true rfl) ⟨by decide, by decide⟩ (Nat.le_of_ble_eq_true rfl) (c_X1_hasPart hj hs _ _ ?_)
                    refine x_ifeqP (tgt := 107) dX4_copy_92 rfl (fun h92 => ?_) (fun h92 => ?_)
                    · exact absurd h3.1 h92
                    · skip
                      refine x_aload (i := 7) dX4_copy_95 rfl ?_
                      refine x_iload (i := 4) dX4_copy_97 rfl ?_
                      refine x_iload (i := 5) dX4_copy_99 rfl ?_
                      refine x_v2i dX4_copy_101 okX1_hasPart ml_X4_204 (sS0 hi) rfl (Nat.le_of_ble_eq_true rfl) ⟨by decide, by decide⟩ (Nat.le_of_ble_eq_true rfl) (c_X1_hasPart hi ht _ _ ?_)
                      refine x_ifneP (tgt := 114) dX4_copy_104 rfl (fun h104 => ?_) (fun h104 => ?_)
                      · skip
                        refine x_aload (i := 6) dX4_copy_114 rfl ?_
                        refine x_getr (i := 2) dX4_copy_116 (sS0 hj) rfl rfl (by decide) fl_X4_192 inX1 ?_
                        refine x_iload_n (i := 2) dX4_copy_119 rfl rfl ?_
                        refine x_aload (i := 7) dX4_copy_120 rfl ?_
                        refine x_getr (i := 2) dX4_copy_122 (sS0 hi) rfl rfl (by decide) fl_X4_192 inX1 ?_
                        refine x_iload (i := 4) dX4_copy_125 rfl ?_
                        refine x_iload (i := 5) dX4_copy_127 rfl ?_
                        refine x_acpl dX4_copy_129 ml_X4_207 nm_java_lang_System_arraycopy sm_java_lang_System_arraycopy in_J10 (sS1 hj) (sS1 hi) (nI_pos (by omega)) (nI_pos (by omega)) (nI_pos (by omega)) (by rw [g1, g2]; omega) (by rw [g3, g2]; omega) (by decide) (Nat.le_of_ble_eq_true rfl) ?_
                        refine x_iload (i := 5) dX4_copy_132 rfl ?_
                        exact x_ireti dX4_copy_134 rfl (hk _ (cS_S hS hi ⟨fun _ _ => rfl, fun q hq => xul_o _ _ hq⟩ hcp))
                      · exact absurd h3.2 h104
                  · exact absurd h2 h74
                · exact absurd (Or.inr h54) h1
            · exact absurd hc.2 h15
        · rw [if_neg h3] at hk
          refine x_iload_n (i := 1) dX4_copy_0 rfl rfl ?_
          refine x_iconstN (n := 0) dX4_copy_1 ?_
          refine x_iconstN (n := 3) dX4_copy_2 ?_
          refine x_s3i dX4_copy_3 okX4_isWithin ml_X4_48 (Nat.le_of_ble_eq_true rfl) ⟨by decide, by decide⟩ (Nat.le_of_ble_eq_true rfl) (c_X4_isWithin _ _ _ ?_)
          refine x_ifeqP (tgt := 18) dX4_copy_6 rfl (fun h6 => ?_) (fun h6 => ?_)
          · exact absurd hc.1 h6
          · skip
            refine x_iload_n (i := 3) dX4_copy_9 rfl rfl ?_
            refine x_iconstN (n := 0) dX4_copy_10 ?_
            refine x_iconstN (n := 3) dX4_copy_11 ?_
            refine x_s3i dX4_copy_12 okX4_isWithin ml_X4_48 (Nat.le_of_ble_eq_true rfl) ⟨by decide, by decide⟩ (Nat.le_of_ble_eq_true rfl) (c_X4_isWithin _ _ _ ?_)
            refine x_ifneP (tgt := 25) dX4_copy_15 rfl (fun h15 => ?_) (fun h15 => ?_)
            · skip
              refine x_aload_n (i := 0) dX4_copy_25 rfl rfl ?_
              refine x_getr (i := 4) dX4_copy_26 rfl rfl rfl (by decide) fl_X4_31 inX4 ?_
              refine x_iload_n (i := 1) dX4_copy_29 rfl rfl ?_
              refine x_aaldN rfl dX4_copy_30 rfl (by omega) (by decide) ?_
              refine y_astore (i := 6) (ls2 := [_, _, _, _, _, _, _, _]) dX4_copy_31 (by decide) rfl rfl ?_
              refine x_aload_n (i := 0) dX4_copy_33 rfl rfl ?_
              refine x_getr (i := 4) dX4_copy_34 rfl rfl rfl (by decide) fl_X4_31 inX4 ?_
              refine x_iload_n (i := 3) dX4_copy_37 rfl rfl ?_
              refine x_aaldN rfl dX4_copy_38 rfl (by omega) (by decide) ?_
              refine y_astore (i := 7) (ls2 := [_, _, _, _, _, _, _, _]) dX4_copy_39 (by decide) rfl rfl ?_
              refine x_aload (i := 6) dX4_copy_41 rfl ?_
              refine x_getiE (i := 0) dX4_copy_43 (sS0 hj) rfl rfl (by decide) fl_X4_200 inX1 hs.1 ?_
              refine x_ifeq (tgt := 57) dX4_copy_46 rfl (fun h46 => ?_) (fun h46 => ?_)
              · exact absurd (Or.inl h46) h1
              · skip
                refine x_aload (i := 7) dX4_copy_49 rfl ?_
                refine x_getiE (i := 0) dX4_copy_51 (sS0 hi) rfl rfl (by decide) fl_X4_200 inX1 ht.1 ?_
                refine x_ifne (tgt := 64) dX4_copy_54 rfl (fun h54 => ?_) (fun h54 => ?_)
                · skip
                  refine x_aload (i := 6) dX4_copy_64 rfl ?_
                  refine x_getiE (i := 0) dX4_copy_66 (sS0 hj) rfl rfl (by decide) fl_X4_200 inX1 hs.1 ?_
                  refine x_aload (i := 7) dX4_copy_69 rfl ?_
                  refine x_getiE (i := 0) dX4_copy_71 (sS0 hi) rfl rfl (by decide) fl_X4_200 inX1 ht.1 ?_
                  refine x_iceq (tgt := 84) dX4_copy_74 rfl (fun h74 => ?_) (fun h74 => ?_)
                  · skip
                    refine x_aload (i := 6) dX4_copy_84 rfl ?_
                    refine x_iload_n (i := 2) dX4_copy_86 rfl rfl ?_
                    refine x_iload (i := 5) dX4_copy_87 rfl ?_
                    refine x_v2i dX4_copy_89 okX1_hasPart ml_X4_204 (sS0 hj) rfl (Nat.le_of_ble_eq_true rfl) ⟨by decide, by decide⟩ (Nat.le_of_ble_eq_true rfl) (c_X1_hasPart hj hs _ _ ?_)
                    refine x_ifeqP (tgt := 107) dX4_copy_92 rfl (fun h92 => ?_) (fun h92 => ?_)
                    · skip
                      refine x_aload_n (i := 0) dX4_copy_107 rfl rfl ?_
                      refine x_ldc (v := -1000000001) dX4_copy_108 kc_X4_52 ?_
                      refine x_v1i dX4_copy_110 okX4_tell ml_X4_53 rfl rfl (Nat.le_of_ble_eq_true rfl) ⟨by decide, by decide⟩ (Nat.le_of_ble_eq_true rfl) (c_X4_tell hS 0 (by decide) (by decide) (by decide) (fun τ hτ => ?_))
                      exact x_ireti dX4_copy_113 rfl (hk τ hτ)
                    · skip
                      refine x_aload (i := 7) dX4_copy_95 rfl ?_
                      refine x_iload (i := 4) dX4_copy_97 rfl ?_
                      refine x_iload (i := 5) dX4_copy_99 rfl ?_
                      refine x_v2i dX4_copy_101 okX1_hasPart ml_X4_204 (sS0 hi) rfl (Nat.le_of_ble_eq_true rfl) ⟨by decide, by decide⟩ (Nat.le_of_ble_eq_true rfl) (c_X1_hasPart hi ht _ _ ?_)
                      refine x_ifneP (tgt := 114) dX4_copy_104 rfl (fun h104 => ?_) (fun h104 => ?_)
                      · exact absurd ⟨h92, h104⟩ h3
                      · skip
                        refine x_aload_n (i := 0) dX4_copy_107 rfl rfl ?_
                        refine x_ldc (v := -1000000001) dX4_copy_108 kc_X4_52 ?_
                        refine x_v1i dX4_copy_110 okX4_tell ml_X4_53 rfl rfl (Nat.le_of_ble_eq_true rfl) ⟨by decide, by decide⟩ (Nat.le_of_ble_eq_true rfl) (c_X4_tell hS 0 (by decide) (by decide) (by decide) (fun τ hτ => ?_))
                        exact x_ireti dX4_copy_113 rfl (hk τ hτ)
                  · exact absurd h2 h74
                · exact absurd (Or.inr h54) h1
            · exact absurd hc.2 h15
      · rw [if_neg h2] at hk
        refine x_iload_n (i := 1) dX4_copy_0 rfl rfl ?_
        refine x_iconstN (n := 0) dX4_copy_1 ?_
        refine x_iconstN (n := 3) dX4_copy_2 ?_
        refine x_s3i dX4_copy_3 okX4_isWithin ml_X4_48 (Nat.le_of_ble_eq_true rfl) ⟨by decide, by decide⟩ (Nat.le_of_ble_eq_true rfl) (c_X4_isWithin _ _ _ ?_)
        refine x_ifeqP (tgt := 18) dX4_copy_6 rfl (fun h6 => ?_) (fun h6 => ?_)
        · exact absurd hc.1 h6
        · skip
          refine x_iload_n (i := 3) dX4_copy_9 rfl rfl ?_
          refine x_iconstN (n := 0) dX4_copy_10 ?_
          refine x_iconstN (n := 3) dX4_copy_11 ?_
          refine x_s3i dX4_copy_12 okX4_isWithin ml_X4_48 (Nat.le_of_ble_eq_true rfl) ⟨by decide, by decide⟩ (Nat.le_of_ble_eq_true rfl) (c_X4_isWithin _ _ _ ?_)
          refine x_ifneP (tgt := 25) dX4_copy_15 rfl (fun h15 => ?_) (fun h15 => ?_)
          · skip
            refine x_aload_n (i := 0) dX4_copy_25 rfl rfl ?_
            refine x_getr (i := 4) dX4_copy_26 rfl rfl rfl (by decide) fl_X4_31 inX4 ?_
            refine x_iload_n (i := 1) dX4_copy_29 rfl rfl ?_
            refine x_aaldN rfl dX4_copy_30 rfl (by omega) (by decide) ?_
            refine y_astore (i := 6) (ls2 := [_, _, _, _, _, _, _, _]) dX4_copy_31 (by decide) rfl rfl ?_
            refine x_aload_n (i := 0) dX4_copy_33 rfl rfl ?_
            refine x_getr (i := 4) dX4_copy_34 rfl rfl rfl (by decide) fl_X4_31 inX4 ?_
            refine x_iload_n (i := 3) dX4_copy_37 rfl rfl ?_
            refine x_aaldN rfl dX4_copy_38 rfl (by omega) (by decide) ?_
            refine y_astore (i := 7) (ls2 := [_, _, _, _, _, _, _, _]) dX4_copy_39 (by decide) rfl rfl ?_
            refine x_aload (i := 6) dX4_copy_41 rfl ?_
            refine x_getiE (i := 0) dX4_copy_43 (sS0 hj) rfl rfl (by decide) fl_X4_200 inX1 hs.1 ?_
            refine x_ifeq (tgt := 57) dX4_copy_46 rfl (fun h46 => ?_) (fun h46 => ?_)
            · exact absurd (Or.inl h46) h1
            · skip
              refine x_aload (i := 7) dX4_copy_49 rfl ?_
              refine x_getiE (i := 0) dX4_copy_51 (sS0 hi) rfl rfl (by decide) fl_X4_200 inX1 ht.1 ?_
              refine x_ifne (tgt := 64) dX4_copy_54 rfl (fun h54 => ?_) (fun h54 => ?_)
              · skip
                refine x_aload (i := 6) dX4_copy_64 rfl ?_
                refine x_getiE (i := 0) dX4_copy_66 (sS0 hj) rfl rfl (by decide) fl_X4_200 inX1 hs.1 ?_
                refine x_aload (i := 7) dX4_copy_69 rfl ?_
                refine x_getiE (i := 0) dX4_copy_71 (sS0 hi) rfl rfl (by decide) fl_X4_200 inX1 ht.1 ?_
                refine x_iceq (tgt := 84) dX4_copy_74 rfl (fun h74 => ?_) (fun h74 => ?_)
                · exact absurd h74 h2
                · skip
                  refine x_aload_n (i := 0) dX4_copy_77 rfl rfl ?_
                  refine x_ldc (v := -1000000003) dX4_copy_78 kc_X4_138 ?_
                  refine x_v1i dX4_copy_80 okX4_tell ml_X4_53 rfl rfl (Nat.le_of_ble_eq_true rfl) ⟨by decide, by decide⟩ (Nat.le_of_ble_eq_true rfl) (c_X4_tell hS 2 (by decide) (by decide) (by decide) (fun τ hτ => ?_))
                  exact x_ireti dX4_copy_83 rfl (hk τ hτ)
              · exact absurd (Or.inr h54) h1
          · exact absurd hc.2 h15
  · unfold oCopy at hk
    rw [if_neg hc] at hk
    refine x_iload_n (i := 1) dX4_copy_0 rfl rfl ?_
    refine x_iconstN (n := 0) dX4_copy_1 ?_
    refine x_iconstN (n := 3) dX4_copy_2 ?_
    refine x_s3i dX4_copy_3 okX4_isWithin ml_X4_48 (Nat.le_of_ble_eq_true rfl) ⟨by decide, by decide⟩ (Nat.le_of_ble_eq_true rfl) (c_X4_isWithin _ _ _ ?_)
    refine x_ifeqP (tgt := 18) dX4_copy_6 rfl (fun h6 => ?_) (fun h6 => ?_)
    · skip
      refine x_aload_n (i := 0) dX4_copy_18 rfl rfl ?_
      refine x_ldc (v := -1000000001) dX4_copy_19 kc_X4_52 ?_
      refine x_v1i dX4_copy_21 okX4_tell ml_X4_53 rfl rfl (Nat.le_of_ble_eq_true rfl) ⟨by decide, by decide⟩ (Nat.le_of_ble_eq_true rfl) (c_X4_tell hS 0 (by decide) (by decide) (by decide) (fun τ hτ => ?_))
      exact x_ireti dX4_copy_24 rfl (hk τ hτ)
    · skip
      refine x_iload_n (i := 3) dX4_copy_9 rfl rfl ?_
      refine x_iconstN (n := 0) dX4_copy_10 ?_
      refine x_iconstN (n := 3) dX4_copy_11 ?_
      refine x_s3i dX4_copy_12 okX4_isWithin ml_X4_48 (Nat.le_of_ble_eq_true rfl) ⟨by decide, by decide⟩ (Nat.le_of_ble_eq_true rfl) (c_X4_isWithin _ _ _ ?_)
      refine x_ifneP (tgt := 25) dX4_copy_15 rfl (fun h15 => ?_) (fun h15 => ?_)
      · exact absurd ⟨h6, h15⟩ hc
      · skip
        refine x_aload_n (i := 0) dX4_copy_18 rfl rfl ?_
        refine x_ldc (v := -1000000001) dX4_copy_19 kc_X4_52 ?_
        refine x_v1i dX4_copy_21 okX4_tell ml_X4_53 rfl rfl (Nat.le_of_ble_eq_true rfl) ⟨by decide, by decide⟩ (Nat.le_of_ble_eq_true rfl) (c_X4_tell hS 0 (by decide) (by decide) (by decide) (fun τ hτ => ?_))
        exact x_ireti dX4_copy_24 rfl (hk τ hτ)
end
