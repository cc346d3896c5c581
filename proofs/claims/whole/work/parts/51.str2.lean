section
variable {l : Launch} {ad : Nat → Nat} {D : va_G} {cy : Nat → ClassId}
theorem sh0 : ∀ i, i < 14 → nI (xlen.getD i 0) >>> ((0 : Int32) &&& 31) = nI (xlen.getD i 0) := by decide +kernel
theorem sl9 : ∀ i, i < 14 → xlen.getD i 0 ≤ 9 := by decide +kernel
theorem sby : ∀ i, i < 14 → ∀ j, j < xlen.getD i 0 → (((xbyt.getD i []).getD j 0 &&& nI 255).toUInt32 % 65536).toInt32 = (xbyt.getD i []).getD j 0 := by decide +kernel
theorem snr : ∀ i, i < 14 → ∀ j, j < xlen.getD i 0 → narrow .char (.int ((xbyt.getD i []).getD j 0)) = .int ((xbyt.getD i []).getD j 0) := by
  intro i hi j hj
  have h := sby i hi j hj
  have e : (((xbyt.getD i []).getD j 0).toUInt32 % 65536).toInt32 = (xbyt.getD i []).getD j 0 := (by decide +kernel : ∀ i, i < 14 → ∀ j, j < xlen.getD i 0 → (((xbyt.getD i []).getD j 0).toUInt32 % 65536).toInt32 = (xbyt.getD i []).getD j 0) i hi j hj
  show Value.int _ = _
  first
    | exact congrArg Value.int e
    | (congr 1; exact (by decide +kernel : ∀ i, i < 14 → ∀ j, j < xlen.getD i 0 → (((xbyt.getD i []).getD j 0).toUInt32.toUInt16.toUInt32.toInt32) = (xbyt.getD i []).getD j 0) i hi j hj)
theorem c_coder {σ : xH} {K : Int32 → xH → Prop} {i : Nat} (hi : i < 14) (hk : K 0 σ) : Evi l (oC ad D cy) mJ0_coder_7d493 [.ref (1000 + i)] σ K := by
  refine x_enter (ls := [some (.ref (1000 + i))]) rfl ?_
  refine x_gss dJ0_coder_7d493_0 fl_J0_38 ?_
  refine x_ifeq (tgt := 13) dJ0_coder_7d493_3 rfl (fun h => absurd h (by decide)) (fun _ => ?_)
  refine x_aload_n (i := 0) dJ0_coder_7d493_6 rfl rfl ?_
  refine x_gsc hi dJ0_coder_7d493_7 fl_J0_15 ?_
  refine x_goto (tgt := 14) dJ0_coder_7d493_10 rfl ?_
  exact x_bret dJ0_coder_7d493_14 rfl (by decide) hk
theorem c_isLatin1 {σ : xH} {K : Int32 → xH → Prop} {i : Nat} (hi : i < 14) (hk : K (nI 1) σ) : Evi l (oC ad D cy) mJ0_isLatin1_aae02 [.ref (1000 + i)] σ K := by
  refine x_enter (ls := [some (.ref (1000 + i))]) rfl ?_
  refine x_gss dJ0_isLatin1_aae02_0 fl_J0_38 ?_
  refine x_ifeq (tgt := 17) dJ0_isLatin1_aae02_3 rfl (fun h => absurd h (by decide)) (fun _ => ?_)
  refine x_aload_n (i := 0) dJ0_isLatin1_aae02_6 rfl rfl ?_
  refine x_gsc hi dJ0_isLatin1_aae02_7 fl_J0_15 ?_
  refine x_ifne (tgt := 17) dJ0_isLatin1_aae02_10 rfl (fun h => absurd rfl h) (fun _ => ?_)
  refine x_iconstN (n := 1) dJ0_isLatin1_aae02_13 ?_
  refine x_goto (tgt := 18) dJ0_isLatin1_aae02_14 rfl ?_
  exact x_iretz dJ0_isLatin1_aae02_18 rfl (by decide) hk
theorem c_length {σ : xH} {K : Int32 → xH → Prop} {i : Nat} (hi : i < 14) (hk : K (nI (xlen.getD i 0)) σ) : Evi l (oC ad D cy) mJ0_length_8abf5 [.ref (1000 + i)] σ K := by
  refine x_enter (ls := [some (.ref (1000 + i))]) rfl ?_
  refine x_aload_n (i := 0) dJ0_length_8abf5_0 rfl rfl ?_
  refine x_gsv hi dJ0_length_8abf5_1 fl_J0_9 ?_
  refine x_slen (v := nI (xlen.getD i 0)) hi rfl dJ0_length_8abf5_4 ?_
  refine x_aload_n (i := 0) dJ0_length_8abf5_5 rfl rfl ?_
  refine x_w0i dJ0_length_8abf5_6 okJ0_coder_7d493 ml_J0_335 rfl hi (Nat.le_of_ble_eq_true rfl) ⟨by decide, by decide⟩ (Nat.le_of_ble_eq_true rfl) (c_coder hi ?_)
  refine x_ishr dJ0_length_8abf5_9 ?_
  refine x_top (sh0 i hi) ?_
  exact x_ireti dJ0_length_8abf5_10 rfl hk
theorem c_J3ck {σ : xH} {K : Int32 → xH → Prop} {j m : Nat} (hj : j < m) (hm : m < 2 ^ 31) (fv : Value) (hf : xent [.int (nI j), .int (nI m), fv] 3 = [some (.int (nI j)), some (.int (nI m)), some fv]) (hk : K (nI j) σ) : Evi l (oC ad D cy) mJ3_checkIndex_8e157 [.int (nI j), .int (nI m), fv] σ K := by
  refine x_enter (ls := [some (.int (nI j)), some (.int (nI m)), some fv]) hf ?_
  refine x_iload_n (i := 0) dJ3_checkIndex_8e157_0 rfl rfl ?_
  refine x_iflt (tgt := 9) dJ3_checkIndex_8e157_1 rfl (fun h => absurd h (nI_pos (by omega))) (fun _ => ?_)
  refine x_iload_n (i := 0) dJ3_checkIndex_8e157_4 rfl rfl ?_
  refine x_iload_n (i := 1) dJ3_checkIndex_8e157_5 rfl rfl ?_
  refine x_iclt (tgt := 16) dJ3_checkIndex_8e157_6 rfl (fun _ => ?_) (fun h => absurd (nI_lt hj hm) h)
  refine x_iload_n (i := 0) dJ3_checkIndex_8e157_16 rfl rfl ?_
  exact x_ireti dJ3_checkIndex_8e157_17 rfl hk
theorem c_J0ck {σ : xH} {K : xH → Prop} {j m : Nat} (hj : j < m) (hm : m < 2 ^ 31) (hk : K σ) : Evv l (oC ad D cy) mJ0_checkIndex_df160 [.int (nI j), .int (nI m)] σ K := by
  refine x_enter (ls := [some (.int (nI j)), some (.int (nI m))]) rfl ?_
  refine x_iload_n (i := 0) dJ0_checkIndex_df160_0 rfl rfl ?_
  refine x_iload_n (i := 1) dJ0_checkIndex_df160_1 rfl rfl ?_
  refine x_gsf dJ0_checkIndex_df160_2 fl_J0_1053 ?_ ?_
  · refine x_s3i dJ0_checkIndex_df160_5 okJ3_checkIndex_8e157 ml_J0_1059 (Nat.le_of_ble_eq_true rfl) ⟨by decide, by decide⟩ (Nat.le_of_ble_eq_true rfl) (c_J3ck hj hm _ rfl ?_)
    refine x_pop dJ0_checkIndex_df160_8 rfl ?_
    exact x_retv dJ0_checkIndex_df160_9 rfl hk
  · refine x_s3i dJ0_checkIndex_df160_5 okJ3_checkIndex_8e157 ml_J0_1059 (Nat.le_of_ble_eq_true rfl) ⟨by decide, by decide⟩ (Nat.le_of_ble_eq_true rfl) (c_J3ck hj hm _ rfl ?_)
    refine x_pop dJ0_checkIndex_df160_8 rfl ?_
    exact x_retv dJ0_checkIndex_df160_9 rfl hk
theorem c_J1char {σ : xH} {K : Int32 → xH → Prop} {i j : Nat} (hi : i < 14) (hj : j < xlen.getD i 0) (hk : K ((xbyt.getD i []).getD j 0) σ) : Evi l (oC ad D cy) mJ1_charAt_3b067 [.ref (2000 + i), .int (nI j)] σ K := by
  have h9 := sl9 i hi
  refine x_enter (ls := [some (.ref (2000 + i)), some (.int (nI j))]) rfl ?_
  refine x_iload_n (i := 1) dJ1_charAt_3b067_0 rfl rfl ?_
  refine x_aload_n (i := 0) dJ1_charAt_3b067_1 rfl rfl ?_
  refine x_slen (v := nI (xlen.getD i 0)) hi rfl dJ1_charAt_3b067_2 ?_
  refine x_s2v dJ1_charAt_3b067_3 okJ0_checkIndex_df160 ml_J1_9 (Nat.le_of_ble_eq_true rfl) ⟨by decide, by decide⟩ (Nat.le_of_ble_eq_true rfl) (c_J0ck hj (by omega) ?_)
  refine x_aload_n (i := 0) dJ1_charAt_3b067_6 rfl rfl ?_
  refine x_iload_n (i := 1) dJ1_charAt_3b067_7 rfl rfl ?_
  refine x_sbal hi (vp_in_nI hj (by omega)) dJ1_charAt_3b067_8 ?_
  refine x_top (y := (xbyt.getD i []).getD j 0) (by rw [nI_clamp (by omega)]) ?_
  refine x_sipush (v := nI 255) dJ1_charAt_3b067_9 (by decide) ?_
  refine x_iand dJ1_charAt_3b067_12 ?_
  refine x_i2c dJ1_charAt_3b067_13 ?_
  refine x_top (sby i hi j hj) ?_
  exact x_cret dJ1_charAt_3b067_14 rfl (snr i hi j hj) hk
theorem c_charAt {σ : xH} {K : Int32 → xH → Prop} {i j : Nat} (hi : i < 14) (hj : j < xlen.getD i 0) (hk : K ((xbyt.getD i []).getD j 0) σ) : Evi l (oC ad D cy) mJ0_charAt_5068e [.ref (1000 + i), .int (nI j)] σ K := by
  refine x_enter (ls := [some (.ref (1000 + i)), some (.int (nI j))]) rfl ?_
  refine x_aload_n (i := 0) dJ0_charAt_5068e_0 rfl rfl ?_
  refine x_w0i dJ0_charAt_5068e_1 okJ0_isLatin1_aae02 ml_J0_492 rfl hi (Nat.le_of_ble_eq_true rfl) ⟨by decide, by decide⟩ (Nat.le_of_ble_eq_true rfl) (c_isLatin1 hi ?_)
  refine x_ifeq (tgt := 16) dJ0_charAt_5068e_4 rfl (fun h => absurd h (by decide)) (fun _ => ?_)
  refine x_aload_n (i := 0) dJ0_charAt_5068e_7 rfl rfl ?_
  refine x_gsv hi dJ0_charAt_5068e_8 fl_J0_9 ?_
  refine x_iload_n (i := 1) dJ0_charAt_5068e_11 rfl rfl ?_
  refine x_s2i dJ0_charAt_5068e_12 okJ1_charAt_3b067 ml_J0_495 (Nat.le_of_ble_eq_true rfl) ⟨by decide, by decide⟩ (Nat.le_of_ble_eq_true rfl) (c_J1char hi hj ?_)
  exact x_cret dJ0_charAt_5068e_15 rfl (snr i hi j hj) hk
end
