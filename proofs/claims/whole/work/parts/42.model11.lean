section
variable {l : Launch} {ad : Nat → Nat} {D : va_G} {cy : Nat → ClassId}
set_option maxHeartbeats 4000000 in
set_option maxRecDepth 20000 in
theorem l_X5_isSo {K : Int32 → xH → Prop} {σ : xH} {T : Tw} {j z : Nat} {b : Int32} {f : Nat → Int64} {k w : Int32} {r : Nat} (hj : j < 4) (hm : mh σ j b z f) (hz20 : z ≤ 20) (hq : ∀ i, i < 20 → σ.1 5 i = pP T k w r (i + 1)) (hk : K (xb (gJ T f k w r z = true)) σ) : ∀ (n i : Nat) , i + n = z → (gJ T f k w r i = true) → Ex l (oM ad D cy) mX5_isSo 4 [some (.ref 0), some (.int (nI j)), some (.int (nI 1)), some (.int (nI i))] [] σ (xQi K) := by
  intro n
  induction n with
  | zero =>
    intro i  hi eg
    have hi : i = z := by omega
    subst hi
    refine x_iload_n (i := 3) dX5_isSo_4 rfl rfl ?_
    refine x_aload_n (i := 0) dX5_isSo_5 rfl rfl ?_
    refine x_getr (i := 18) dX5_isSo_6 rfl rfl rfl (by decide) fl_X5_41 inX5 ?_
    refine x_iload_n (i := 1) dX5_isSo_9 rfl rfl ?_
    refine x_ialdE dX5_isSo_10 rfl (by omega) (by decide) hm.2.1 ?_
    refine x_icgeN (tgt := 47) (by omega) (by omega) dX5_isSo_11 rfl (fun h11 => ?_) (fun h11 => ?_)
    · skip
      refine x_iload_n (i := 2) dX5_isSo_47 rfl rfl ?_
      exact x_iretz dX5_isSo_48 rfl (by decide) (by rw [xb_t eg] at hk; exact hk)
    · exact absurd h11 (by omega)
  | succ n ih =>
    intro i  hi eg
    skip
    refine x_iload_n (i := 3) dX5_isSo_4 rfl rfl ?_
    refine x_aload_n (i := 0) dX5_isSo_5 rfl rfl ?_
    refine x_getr (i := 18) dX5_isSo_6 rfl rfl rfl (by decide) fl_X5_41 inX5 ?_
    refine x_iload_n (i := 1) dX5_isSo_9 rfl rfl ?_
    refine x_ialdE dX5_isSo_10 rfl (by omega) (by decide) hm.2.1 ?_
    refine x_icgeN (tgt := 47) (by omega) (by omega) dX5_isSo_11 rfl (fun h11 => ?_) (fun h11 => ?_)
    · exact absurd h11 (by omega)
    · skip
      refine x_iload_n (i := 2) dX5_isSo_14 rfl rfl ?_
      refine x_ifeq (tgt := 47) dX5_isSo_15 rfl (fun h15 => ?_) (fun h15 => ?_)
      · exact absurd h15 (by decide)
      · skip
        refine x_aload_n (i := 0) dX5_isSo_18 rfl rfl ?_
        refine x_iload_n (i := 1) dX5_isSo_19 rfl rfl ?_
        refine x_iload_n (i := 3) dX5_isSo_20 rfl rfl ?_
        refine x_v2l dX5_isSo_21 okX5_told ml_X5_226 rfl rfl (Nat.le_of_ble_eq_true rfl) ⟨by decide, by decide⟩ (Nat.le_of_ble_eq_true rfl) (c_X5_told hj hm (by omega) ?_)
        refine x_aload_n (i := 0) dX5_isSo_24 rfl rfl ?_
        refine x_getr (i := 5) dX5_isSo_25 rfl rfl rfl (by decide) fl_X5_22 inX5 ?_
        refine x_iload_n (i := 3) dX5_isSo_28 rfl rfl ?_
        refine x_ialdE dX5_isSo_29 rfl (by omega) (by decide) (hq i (by omega)) ?_
        refine x_i2l dX5_isSo_30 ?_
        refine x_lcmp dX5_isSo_31 ?_
        refine x_ifne (tgt := 39) dX5_isSo_32 rfl (fun h32 => ?_) (fun h32 => ?_)
        · skip
          refine x_iconstN (n := 0) dX5_isSo_39 ?_
          refine y_istore_n (i := 2) (ls2 := [_, _, _, _]) dX5_isSo_40 rfl (by decide) rfl rfl ?_
          refine y_iincN (i := 3) (ls2 := [_, _, _, _]) dX5_isSo_41 rfl (by decide) rfl rfl ?_
          refine x_goto (tgt := 4) dX5_isSo_44 rfl ?_
          skip
          refine x_iload_n (i := 3) dX5_isSo_4 rfl rfl ?_
          refine x_aload_n (i := 0) dX5_isSo_5 rfl rfl ?_
          refine x_getr (i := 18) dX5_isSo_6 rfl rfl rfl (by decide) fl_X5_41 inX5 ?_
          refine x_iload_n (i := 1) dX5_isSo_9 rfl rfl ?_
          refine x_ialdE dX5_isSo_10 rfl (by omega) (by decide) hm.2.1 ?_
          refine x_icgeN (tgt := 47) (by omega) (by omega) dX5_isSo_11 rfl (fun h11_1 => ?_) (fun h11_1 => ?_)
          · skip
            refine x_iload_n (i := 2) dX5_isSo_47 rfl rfl ?_
            exact x_iretz dX5_isSo_48 rfl (by decide) (by rw [xb_f (show ¬ gJ T f k w r z = true by rw [gJ_f T f k w r (i := i + 1) (by rw [gJ, eg, Bool.true_and]; exact decide_eq_false (lcmpN h32)) z (by omega)]; decide)] at hk; exact hk)
          · skip
            refine x_iload_n (i := 2) dX5_isSo_14 rfl rfl ?_
            refine x_ifeq (tgt := 47) dX5_isSo_15 rfl (fun h15_1 => ?_) (fun h15_1 => ?_)
            · skip
              refine x_iload_n (i := 2) dX5_isSo_47 rfl rfl ?_
              exact x_iretz dX5_isSo_48 rfl (by decide) (by rw [xb_f (show ¬ gJ T f k w r z = true by rw [gJ_f T f k w r (i := i + 1) (by rw [gJ, eg, Bool.true_and]; exact decide_eq_false (lcmpN h32)) z (by omega)]; decide)] at hk; exact hk)
            · exact absurd h15_1 (by decide)
        · skip
          refine x_iconstN (n := 1) dX5_isSo_35 ?_
          refine x_goto (tgt := 40) dX5_isSo_36 rfl ?_
          refine y_istore_n (i := 2) (ls2 := [_, _, _, _]) dX5_isSo_40 rfl (by decide) rfl rfl ?_
          refine y_iincN (i := 3) (ls2 := [_, _, _, _]) dX5_isSo_41 rfl (by decide) rfl rfl ?_
          refine x_goto (tgt := 4) dX5_isSo_44 rfl ?_
          exact ih (i + 1) (by omega) (by rw [gJ, eg, Bool.true_and]; exact decide_eq_true (lcmp0 h32))
set_option maxHeartbeats 4000000 in
set_option maxRecDepth 20000 in
theorem c_X5_isSo {σ : xH} {K : Int32 → xH → Prop} {T : Tw} {j z : Nat} {b : Int32} {f : Nat → Int64} {k w : Int32} {r : Nat} (hj : j < 4) (hm : mh σ j b z f) (hz20 : z ≤ 20) (hq : ∀ i, i < 20 → σ.1 5 i = pP T k w r (i + 1)) (hk : K (xb (gJ T f k w r z = true)) σ) : Evi l (oM ad D cy) mX5_isSo [.ref 0, .int (nI j)] σ K := by
  refine x_enter (ls := [some (.ref 0), some (.int (nI j)), none, none]) rfl ?_
  refine x_iconstN (n := 1) dX5_isSo_0 ?_
  refine y_istore_n (i := 2) (ls2 := [_, _, _, _]) dX5_isSo_1 rfl (by decide) rfl rfl ?_
  refine x_iconstN (n := 0) dX5_isSo_2 ?_
  refine y_istore_n (i := 3) (ls2 := [_, _, _, _]) dX5_isSo_3 rfl (by decide) rfl rfl ?_
  exact l_X5_isSo hj hm hz20 hq hk z 0 (by omega) rfl
set_option maxHeartbeats 4000000 in
set_option maxRecDepth 20000 in
theorem l_X5_readI {K : Int32 → xH → Prop} {σ0 : xH} {S : St} (hS : mS σ0 S) (hO : tOk (gT S)) {j r : Nat} (hj : j < 4) (hr : r < 3) (hz20 : gZ S j ≤ 20) (x y : Int32) {k : Nat} (hk6 : k < 6) (c0 : Int32) (hk : ∀ τ, fq σ0 τ → Ex l (oM ad D cy) mX5_read 49 [some (.ref 0), some (.int (nI j)), some (.int x), some (.int (nI r)), some (.int y), some (.int (rdI (gT S) (gN S j) (gZ S j) r k c0 71)), some (.int (nI (k + 1))), none] [] τ (xQi K)) : ∀ (n i : Nat) (σ : xH) (c : Int32), i + n = 71 → (c = rdI (gT S) (gN S j) (gZ S j) r k c0 i) → (fq σ0 σ) → Ex l (oM ad D cy) mX5_read 60 [some (.ref 0), some (.int (nI j)), some (.int x), some (.int (nI r)), some (.int y), some (.int c), some (.int (nI k)), some (.int (nI (10 + i)))] [] σ (xQi K) := by
  intro n
  induction n with
  | zero =>
    intro i σ c hi ec hf
    have hi : i = 71 := by omega
    subst hi
    subst ec
    refine x_iload (i := 7) dX5_read_60 rfl ?_
    refine x_bipush (v := nI 80) dX5_read_62 (by decide) ?_
    refine x_icgtN (tgt := 100) (by omega) (by omega) dX5_read_64 rfl (fun h64 => ?_) (fun h64 => ?_)
    · skip
      refine y_iincN (i := 6) (ls2 := [_, _, _, _, _, _, _, _]) dX5_read_100 rfl (by decide) rfl rfl ?_
      refine x_goto (tgt := 49) dX5_read_103 rfl ?_
      exact x_mask [true, true, true, true, true, true, true, false] <| hk σ hf
    · exact absurd h64 (by omega)
  | succ n ih =>
    intro i σ c hi ec hf
    subst ec
    have hs := (mS_q hS hf).1
    refine x_iload (i := 7) dX5_read_60 rfl ?_
    refine x_bipush (v := nI 80) dX5_read_62 (by decide) ?_
    refine x_icgtN (tgt := 100) (by omega) (by omega) dX5_read_64 rfl (fun h64 => ?_) (fun h64 => ?_)
    · exact absurd h64 (by omega)
    · skip
      refine x_aload_n (i := 0) dX5_read_67 rfl rfl ?_
      refine x_iload (i := 6) dX5_read_68 rfl ?_
      refine x_iload (i := 7) dX5_read_70 rfl ?_
      refine x_iload_n (i := 3) dX5_read_72 rfl rfl ?_
      refine x_v3v dX5_read_73 okX5_goesThrough ml_X5_95 rfl rfl (Nat.le_of_ble_eq_true rfl) ⟨by decide, by decide⟩ (Nat.le_of_ble_eq_true rfl) (c_X5_goesThrough hO hk6 (w := 10 + i) (by omega) (by omega) hr hs (fun τ hq hf1 => ?_))
      refine x_iload (i := 5) dX5_read_76 rfl ?_
      refine x_aload_n (i := 0) dX5_read_78 rfl rfl ?_
      refine x_iload_n (i := 1) dX5_read_79 rfl rfl ?_
      refine x_v1i dX5_read_80 okX5_isSo ml_X5_240 rfl rfl (Nat.le_of_ble_eq_true rfl) ⟨by decide, by decide⟩ (Nat.le_of_ble_eq_true rfl) (c_X5_isSo hj ((mS_q hS (fq_tr hf hf1)).2.2.2.2.2.2.1 j hj) hz20 hq.1 ?_)
      refine x_ifeqP (tgt := 90) dX5_read_83 rfl (fun h83 => ?_) (fun h83 => ?_)
      · skip
        refine x_iconstN (n := 0) dX5_read_90 ?_
        refine x_iadd dX5_read_91 ?_
        refine y_istore (i := 5) (ls2 := [_, _, _, _, _, _, _, _]) dX5_read_92 (by decide) rfl rfl ?_
        refine y_iincN (i := 7) (ls2 := [_, _, _, _, _, _, _, _]) dX5_read_94 rfl (by decide) rfl rfl ?_
        refine x_goto (tgt := 60) dX5_read_97 rfl ?_
        exact ih (i + 1) τ _ (by omega) (by rw [rdI]; first | exact (if_pos h83).symm | (rw [nI_0, Int32.add_zero]; exact (if_neg h83).symm)) (fq_tr hf hf1)
      · skip
        refine x_iconstN (n := 1) dX5_read_86 ?_
        refine x_goto (tgt := 91) dX5_read_87 rfl ?_
        refine x_iadd dX5_read_91 ?_
        refine y_istore (i := 5) (ls2 := [_, _, _, _, _, _, _, _]) dX5_read_92 (by decide) rfl rfl ?_
        refine y_iincN (i := 7) (ls2 := [_, _, _, _, _, _, _, _]) dX5_read_94 rfl (by decide) rfl rfl ?_
        refine x_goto (tgt := 60) dX5_read_97 rfl ?_
        exact ih (i + 1) τ _ (by omega) (by rw [rdI]; first | exact (if_pos h83).symm | (rw [nI_0, Int32.add_zero]; exact (if_neg h83).symm)) (fq_tr hf hf1)
set_option maxHeartbeats 4000000 in
set_option maxRecDepth 20000 in
theorem l_X5_readO {K : Int32 → xH → Prop} {σ0 : xH} {S : St} (hS : mS σ0 S) (hO : tOk (gT S)) {j r : Nat} (hj : j < 4) (hr : r < 3) (hz20 : gZ S j ≤ 20) (x y : Int32) (hk : ∀ τ, mS τ S → K (rdO (gT S) (gN S j) (gZ S j) r 6) τ) : ∀ (n i : Nat) (σ : xH) (c : Int32), i + n = 6 → (c = rdO (gT S) (gN S j) (gZ S j) r i) → (fq σ0 σ) → Ex l (oM ad D cy) mX5_read 49 [some (.ref 0), some (.int (nI j)), some (.int x), some (.int (nI r)), some (.int y), some (.int c), some (.int (nI i)), none] [] σ (xQi K) := by
  intro n
  induction n with
  | zero =>
    intro i σ c hi ec hf
    have hi : i = 6 := by omega
    subst hi
    refine x_iload (i := 6) dX5_read_49 rfl ?_
    refine x_bipush (v := nI 6) dX5_read_51 (by decide) ?_
    refine x_icgeN (tgt := 106) (by omega) (by omega) dX5_read_53 rfl (fun h53 => ?_) (fun h53 => ?_)
    · skip
      refine x_iload (i := 5) dX5_read_106 rfl ?_
      exact x_ireti dX5_read_108 rfl (ec ▸ hk σ (mS_q hS hf))
    · exact absurd h53 (by omega)
  | succ n ih =>
    intro i σ c hi ec hf
    refine x_iload (i := 6) dX5_read_49 rfl ?_
    refine x_bipush (v := nI 6) dX5_read_51 (by decide) ?_
    refine x_icgeN (tgt := 106) (by omega) (by omega) dX5_read_53 rfl (fun h53 => ?_) (fun h53 => ?_)
    · exact absurd h53 (by omega)
    · skip
      refine x_bipush (v := nI 10) dX5_read_56 (by decide) ?_
      refine y_istore (i := 7) (ls2 := [_, _, _, _, _, _, _, _]) dX5_read_58 (by decide) rfl rfl ?_
      exact l_X5_readI (mS_q hS hf) hO hj hr hz20 x y (by omega) c (fun τ hf1 => ih (i + 1) τ _ (by omega) (by rw [ec]; rfl) (fq_tr hf hf1)) 71 0 σ _ rfl rfl (fq_rf σ)
set_option maxHeartbeats 4000000 in
set_option maxRecDepth 20000 in
theorem c_X5_read {σ : xH} {K : Int32 → xH → Prop} {S : St} (hS : mS σ S) (hO : tOk (gT S)) (s d a : Int32) (hk : ∀ τ, mS τ (oRead S s d a).2 → K (oRead S s d a).1 τ) : Evi l (oM ad D cy) mX5_read [.ref 0, .int s, .int d, .int a] σ K := by
  have hs := hS.1
  have h8 := ms_8 hs
  refine x_enter (ls := [some (.ref 0), some (.int s), some (.int d), some (.int a), none, none, none, none]) rfl ?_
  by_cases hc : vR (nI 0) (nI 3) s
  · unfold oRead at hk
    rw [if_pos hc] at hk
    obtain ⟨j, -, hj3, rfl⟩ := vR_of hc (by decide) (by decide)
    have hj : j < 4 := by omega
    have h8j : j < 2 ^ 31 := by omega
    simp only [cn, nI_clamp h8j] at hk
    by_cases h1 : gW S j = 0
    · rw [if_pos h1] at hk
      refine x_aload_n (i := 0) dX5_read_0 rfl rfl ?_
      refine x_iload_n (i := 1) dX5_read_1 rfl rfl ?_
      refine x_aload_n (i := 0) dX5_read_2 rfl rfl ?_
      refine x_iload_n (i := 2) dX5_read_3 rfl rfl ?_
      refine x_iload_n (i := 3) dX5_read_4 rfl rfl ?_
      refine x_v2i dX5_read_5 okX5_areBoth ml_X5_146 rfl rfl (Nat.le_of_ble_eq_true rfl) ⟨by decide, by decide⟩ (Nat.le_of_ble_eq_true rfl) (c_X5_areBoth hs _ _ ?_)
      refine x_v2i dX5_read_8 okX5_wrongWith ml_X5_234 rfl rfl (Nat.le_of_ble_eq_true rfl) ⟨by decide, by decide⟩ (Nat.le_of_ble_eq_true rfl) (c_ww5 hS hj h1 ?_)
      refine y_istore (i := 4) (ls2 := [_, _, _, _, _, _, _, _]) dX5_read_11 (by decide) rfl rfl ?_
      refine x_iload (i := 4) dX5_read_13 rfl ?_
      refine x_iflt (tgt := 25) dX5_read_15 rfl (fun h15 => ?_) (fun h15 => ?_)
      · exact absurd h15 (by decide)
      · skip
        refine x_aload_n (i := 0) dX5_read_18 rfl rfl ?_
        refine x_iload (i := 4) dX5_read_19 rfl ?_
        refine x_v1i dX5_read_21 okX5_no ml_X5_118 rfl rfl (Nat.le_of_ble_eq_true rfl) ⟨by decide, by decide⟩ (Nat.le_of_ble_eq_true rfl) (c_X5_no hS 5 (by decide) (fun τ hτ => ?_))
        exact x_ireti dX5_read_24 rfl (hk τ hτ)
    · rw [if_neg h1] at hk
      have hm := hS.2.2.2.2.2.2.1 j hj
      have hz := hm.2.2.2
      by_cases h2 : vN (tN (gT S)) d ∧ vN 3 a
      · rw [if_pos h2] at hk
        have h22 := h2
        obtain ⟨d, hd, rfl⟩ := vN_of h2.1 (by omega)
        have h8d : d < 2 ^ 31 := by omega
        obtain ⟨r, hr, rfl⟩ := vN_of h2.2 (by decide)
        simp only [nI_clamp h8d, nI_clamp (show r < 2 ^ 31 by omega)] at hk
        by_cases h3 : gZ S j ≤ 20
        · rw [if_pos h3, Nat.min_eq_left h3] at hk
          refine x_aload_n (i := 0) dX5_read_0 rfl rfl ?_
          refine x_iload_n (i := 1) dX5_read_1 rfl rfl ?_
          refine x_aload_n (i := 0) dX5_read_2 rfl rfl ?_
          refine x_iload_n (i := 2) dX5_read_3 rfl rfl ?_
          refine x_iload_n (i := 3) dX5_read_4 rfl rfl ?_
          refine x_v2i dX5_read_5 okX5_areBoth ml_X5_146 rfl rfl (Nat.le_of_ble_eq_true rfl) ⟨by decide, by decide⟩ (Nat.le_of_ble_eq_true rfl) (c_X5_areBoth hs _ _ ?_)
          refine x_v2i dX5_read_8 okX5_wrongWith ml_X5_234 rfl rfl (Nat.le_of_ble_eq_true rfl) ⟨by decide, by decide⟩ (Nat.le_of_ble_eq_true rfl) (c_wwm hS hj h1 h22 ?_)
          refine y_istore (i := 4) (ls2 := [_, _, _, _, _, _, _, _]) dX5_read_11 (by decide) rfl rfl ?_
          refine x_iload (i := 4) dX5_read_13 rfl ?_
          refine x_iflt (tgt := 25) dX5_read_15 rfl (fun h15 => ?_) (fun h15 => ?_)
          · skip
            refine x_aload_n (i := 0) dX5_read_25 rfl rfl ?_
            refine x_getr (i := 18) dX5_read_26 rfl rfl rfl (by decide) fl_X5_41 inX5 ?_
            refine x_iload_n (i := 1) dX5_read_29 rfl rfl ?_
            refine x_ialdE dX5_read_30 rfl (by omega) (by decide) hm.2.1 ?_
            refine x_bipush (v := nI 20) dX5_read_31 (by decide) ?_
            refine x_icleN (tgt := 43) (by omega) (by omega) dX5_read_33 rfl (fun h33 => ?_) (fun h33 => ?_)
            · skip
              refine x_iconstN (n := 0) dX5_read_43 ?_
              refine y_istore (i := 5) (ls2 := [_, _, _, _, _, _, _, _]) dX5_read_44 (by decide) rfl rfl ?_
              refine x_iconstN (n := 0) dX5_read_46 ?_
              refine y_istore (i := 6) (ls2 := [_, _, _, _, _, _, _, _]) dX5_read_47 (by decide) rfl rfl ?_
              exact l_X5_readO hS hO hj hr h3 _ _ hk 6 0 σ _ rfl rfl (fq_rf σ)
            · exact absurd h33 (by omega)
          · exact absurd h15 (by decide)
        · rw [if_neg h3] at hk
          refine x_aload_n (i := 0) dX5_read_0 rfl rfl ?_
          refine x_iload_n (i := 1) dX5_read_1 rfl rfl ?_
          refine x_aload_n (i := 0) dX5_read_2 rfl rfl ?_
          refine x_iload_n (i := 2) dX5_read_3 rfl rfl ?_
          refine x_iload_n (i := 3) dX5_read_4 rfl rfl ?_
          refine x_v2i dX5_read_5 okX5_areBoth ml_X5_146 rfl rfl (Nat.le_of_ble_eq_true rfl) ⟨by decide, by decide⟩ (Nat.le_of_ble_eq_true rfl) (c_X5_areBoth hs _ _ ?_)
          refine x_v2i dX5_read_8 okX5_wrongWith ml_X5_234 rfl rfl (Nat.le_of_ble_eq_true rfl) ⟨by decide, by decide⟩ (Nat.le_of_ble_eq_true rfl) (c_wwm hS hj h1 h22 ?_)
          refine y_istore (i := 4) (ls2 := [_, _, _, _, _, _, _, _]) dX5_read_11 (by decide) rfl rfl ?_
          refine x_iload (i := 4) dX5_read_13 rfl ?_
          refine x_iflt (tgt := 25) dX5_read_15 rfl (fun h15 => ?_) (fun h15 => ?_)
          · skip
            refine x_aload_n (i := 0) dX5_read_25 rfl rfl ?_
            refine x_getr (i := 18) dX5_read_26 rfl rfl rfl (by decide) fl_X5_41 inX5 ?_
            refine x_iload_n (i := 1) dX5_read_29 rfl rfl ?_
            refine x_ialdE dX5_read_30 rfl (by omega) (by decide) hm.2.1 ?_
            refine x_bipush (v := nI 20) dX5_read_31 (by decide) ?_
            refine x_icleN (tgt := 43) (by omega) (by omega) dX5_read_33 rfl (fun h33 => ?_) (fun h33 => ?_)
            · exact absurd h33 h3
            · skip
              refine x_aload_n (i := 0) dX5_read_36 rfl rfl ?_
              refine x_bipush (v := nI 6) dX5_read_37 (by decide) ?_
              refine x_v1i dX5_read_39 okX5_no ml_X5_118 rfl rfl (Nat.le_of_ble_eq_true rfl) ⟨by decide, by decide⟩ (Nat.le_of_ble_eq_true rfl) (c_X5_no hS 6 (by decide) (fun τ hτ => ?_))
              exact x_ireti dX5_read_42 rfl (hk τ hτ)
          · exact absurd h15 (by decide)
      · rw [if_neg h2] at hk
        refine x_aload_n (i := 0) dX5_read_0 rfl rfl ?_
        refine x_iload_n (i := 1) dX5_read_1 rfl rfl ?_
        refine x_aload_n (i := 0) dX5_read_2 rfl rfl ?_
        refine x_iload_n (i := 2) dX5_read_3 rfl rfl ?_
        refine x_iload_n (i := 3) dX5_read_4 rfl rfl ?_
        refine x_v2i dX5_read_5 okX5_areBoth ml_X5_146 rfl rfl (Nat.le_of_ble_eq_true rfl) ⟨by decide, by decide⟩ (Nat.le_of_ble_eq_true rfl) (c_X5_areBoth hs _ _ ?_)
        refine x_v2i dX5_read_8 okX5_wrongWith ml_X5_234 rfl rfl (Nat.le_of_ble_eq_true rfl) ⟨by decide, by decide⟩ (Nat.le_of_ble_eq_true rfl) (c_wwb hS hj h1 h2 ?_)
        refine y_istore (i := 4) (ls2 := [_, _, _, _, _, _, _, _]) dX5_read_11 (by decide) rfl rfl ?_
        refine x_iload (i := 4) dX5_read_13 rfl ?_
        refine x_iflt (tgt := 25) dX5_read_15 rfl (fun h15 => ?_) (fun h15 => ?_)
        · exact absurd h15 (by decide)
        · skip
          refine x_aload_n (i := 0) dX5_read_18 rfl rfl ?_
          refine x_iload (i := 4) dX5_read_19 rfl ?_
          refine x_v1i dX5_read_21 okX5_no ml_X5_118 rfl rfl (Nat.le_of_ble_eq_true rfl) ⟨by decide, by decide⟩ (Nat.le_of_ble_eq_true rfl) (c_X5_no hS 0 (by decide) (fun τ hτ => ?_))
          exact x_ireti dX5_read_24 rfl (hk τ hτ)
  · unfold oRead at hk
    rw [if_neg hc] at hk
    refine x_aload_n (i := 0) dX5_read_0 rfl rfl ?_
    refine x_iload_n (i := 1) dX5_read_1 rfl rfl ?_
    refine x_aload_n (i := 0) dX5_read_2 rfl rfl ?_
    refine x_iload_n (i := 2) dX5_read_3 rfl rfl ?_
    refine x_iload_n (i := 3) dX5_read_4 rfl rfl ?_
    refine x_v2i dX5_read_5 okX5_areBoth ml_X5_146 rfl rfl (Nat.le_of_ble_eq_true rfl) ⟨by decide, by decide⟩ (Nat.le_of_ble_eq_true rfl) (c_X5_areBoth hs _ _ ?_)
    refine x_v2i dX5_read_8 okX5_wrongWith ml_X5_234 rfl rfl (Nat.le_of_ble_eq_true rfl) ⟨by decide, by decide⟩ (Nat.le_of_ble_eq_true rfl) (c_ww0 hc ?_)
    refine y_istore (i := 4) (ls2 := [_, _, _, _, _, _, _, _]) dX5_read_11 (by decide) rfl rfl ?_
    refine x_iload (i := 4) dX5_read_13 rfl ?_
    refine x_iflt (tgt := 25) dX5_read_15 rfl (fun h15 => ?_) (fun h15 => ?_)
    · exact absurd h15 (by decide)
    · skip
      refine x_aload_n (i := 0) dX5_read_18 rfl rfl ?_
      refine x_iload (i := 4) dX5_read_19 rfl ?_
      refine x_v1i dX5_read_21 okX5_no ml_X5_118 rfl rfl (Nat.le_of_ble_eq_true rfl) ⟨by decide, by decide⟩ (Nat.le_of_ble_eq_true rfl) (c_X5_no hS 0 (by decide) (fun τ hτ => ?_))
      exact x_ireti dX5_read_24 rfl (hk τ hτ)
theorem vP_of {z : Nat} (hz : z ≤ 40) {x y : Int32} (hx : ¬ x < 0) (hy : ¬ y < 0) (h : ¬ nI z - y < x) : vP z x y ∧ ∃ f m, x = nI f ∧ y = nI m ∧ f + m ≤ z := by
  obtain ⟨f, hf, rfl⟩ := nI_of hx
  obtain ⟨m, hm, rfl⟩ := nI_of hy
  have e : (nI z - nI m).toInt = (z : Int) - m := by
    rw [Int32.toInt_sub, nI_toInt (by omega), nI_toInt hm]
    exact Int.bmod_eq_of_le (by omega) (by omega)
  have h3 := h
  rw [Int32.lt_iff_toInt_lt, e, nI_toInt hf] at h3
  exact ⟨⟨hx, hy, fun q => by have := (nI_ltI (by omega) hm).mp q; omega, h⟩, f, m, rfl, rfl, by omega⟩
set_option maxHeartbeats 4000000 in
set_option maxRecDepth 20000 in
theorem l_X5_copyA {K : Int32 → xH → Prop} {σ0 : xH} {j t f g m z : Nat} {b : Int32} {F : Nat → Int64} (hj : j < 4) (hm : mh σ0 j b z F) (hfm : f + m ≤ z) (hk : ∀ τ, τ.1 = σ0.1 → τ.2 12 = σ0.2 12 → (∀ q, q < m → τ.2 13 q = F (f + q)) → Ex l (oM ad D cy) mX5_copy 144 [some (.ref 0), some (.int (nI j)), some (.int (nI f)), some (.int (nI t)), some (.int (nI g)), some (.int (nI m)), none] [] τ (xQi K)) : ∀ (n i : Nat) (σ : xH), i + n = m → (σ.1 = σ0.1) → (σ.2 12 = σ0.2 12) → (∀ q, q < i → σ.2 13 q = F (f + q)) → Ex l (oM ad D cy) mX5_copy 115 [some (.ref 0), some (.int (nI j)), some (.int (nI f)), some (.int (nI t)), some (.int (nI g)), some (.int (nI m)), some (.int (nI i))] [] σ (xQi K) := by
  intro n
  induction n with
  | zero =>
    intro i σ hi e1 e2 h3
    have hi : i = m := by omega
    subst hi
    have hz := hm.2.2.2
    refine x_iload (i := 6) dX5_copy_115 rfl ?_
    refine x_iload (i := 5) dX5_copy_117 rfl ?_
    refine x_icgeN (tgt := 144) (by omega) (by omega) dX5_copy_119 rfl (fun h119 => ?_) (fun h119 => ?_)
    · skip
      exact x_mask [true, true, true, true, true, true, false] <| hk σ e1 e2 h3
    · exact absurd h119 (by omega)
  | succ n ih =>
    intro i σ hi e1 e2 h3
    have hz := hm.2.2.2
    have hm1 : mh σ j b z F := ⟨by rw [e1]; exact hm.1, by rw [e1]; exact hm.2.1, fun q hq => by rw [e2]; exact hm.2.2.1 q hq, hz⟩
    refine x_iload (i := 6) dX5_copy_115 rfl ?_
    refine x_iload (i := 5) dX5_copy_117 rfl ?_
    refine x_icgeN (tgt := 144) (by omega) (by omega) dX5_copy_119 rfl (fun h119 => ?_) (fun h119 => ?_)
    · exact absurd h119 (by omega)
    · skip
      refine x_aload_n (i := 0) dX5_copy_122 rfl rfl ?_
      refine x_getr (i := 20) dX5_copy_123 rfl rfl rfl (by decide) fl_X5_48 inX5 ?_
      refine x_iload (i := 6) dX5_copy_126 rfl ?_
      refine x_aload_n (i := 0) dX5_copy_128 rfl rfl ?_
      refine x_iload_n (i := 1) dX5_copy_129 rfl rfl ?_
      refine x_iload_n (i := 2) dX5_copy_130 rfl rfl ?_
      refine x_iload (i := 6) dX5_copy_131 rfl ?_
      refine x_iaddN dX5_copy_133 ?_
      refine x_v2l dX5_copy_134 okX5_told ml_X5_226 rfl rfl (Nat.le_of_ble_eq_true rfl) ⟨by decide, by decide⟩ (Nat.le_of_ble_eq_true rfl) (c_X5_told hj hm1 (by omega) ?_)
      refine x_lastN dX5_copy_137 rfl (by omega) (by decide) ?_
      refine y_iincN (i := 6) (ls2 := [_, _, _, _, _, _, _]) dX5_copy_138 rfl (by decide) rfl rfl ?_
      refine x_goto (tgt := 115) dX5_copy_141 rfl ?_
      exact ih (i + 1) _ (by omega) e1 (by rw [xul_o _ _ (by omega)]; exact e2) (fun q hq => if e : q = i then (by rw [e]; exact xl_s) else (by rw [xl_o e]; exact h3 q (by omega)))
set_option maxHeartbeats 4000000 in
set_option maxRecDepth 20000 in
theorem l_X5_copyB {K : Int32 → xH → Prop} {σ0 : xH} {t g m z : Nat} {b : Int32} {F G : Nat → Int64} {f : Nat} (ht : t < 4) (hm : mh σ0 t b z G) (hgm : g + m ≤ z) (hc : ∀ q, q < m → σ0.2 13 q = F (f + q)) (x y : Int32) (hk : ∀ τ, mh τ t b z (va_cpy F G f g m) → fS2 t σ0 τ → K (nI m) τ) : ∀ (n i : Nat) (σ : xH), i + n = m → (mh σ t b z (va_cpy F G f g i)) → (fS2 t σ0 σ) → (σ.2 13 = σ0.2 13) → Ex l (oM ad D cy) mX5_copy 147 [some (.ref 0), some (.int x), some (.int y), some (.int (nI t)), some (.int (nI g)), some (.int (nI m)), some (.int (nI i))] [] σ (xQi K) := by
  intro n
  induction n with
  | zero =>
    intro i σ hi h1 hf e3
    have hi : i = m := by omega
    subst hi
    have hz := hm.2.2.2
    refine x_iload (i := 6) dX5_copy_147 rfl ?_
    refine x_iload (i := 5) dX5_copy_149 rfl ?_
    refine x_icgeN (tgt := 182) (by omega) (by omega) dX5_copy_151 rfl (fun h151 => ?_) (fun h151 => ?_)
    · skip
      refine x_iload (i := 5) dX5_copy_182 rfl ?_
      exact x_ireti dX5_copy_184 rfl (hk σ h1 hf)
    · exact absurd h151 (by omega)
  | succ n ih =>
    intro i σ hi h1 hf e3
    have hz := hm.2.2.2
    refine x_iload (i := 6) dX5_copy_147 rfl ?_
    refine x_iload (i := 5) dX5_copy_149 rfl ?_
    refine x_icgeN (tgt := 182) (by omega) (by omega) dX5_copy_151 rfl (fun h151 => ?_) (fun h151 => ?_)
    · exact absurd h151 (by omega)
    · skip
      refine x_aload_n (i := 0) dX5_copy_154 rfl rfl ?_
      refine x_getr (i := 19) dX5_copy_155 rfl rfl rfl (by decide) fl_X5_44 inX5 ?_
      refine x_bipush (v := nI 40) dX5_copy_158 (by decide) ?_
      refine x_iload_n (i := 3) dX5_copy_160 rfl rfl ?_
      refine x_imulN dX5_copy_161 ?_
      refine x_iload (i := 4) dX5_copy_162 rfl ?_
      refine x_iaddN dX5_copy_164 ?_
      refine x_iload (i := 6) dX5_copy_165 rfl ?_
      refine x_iaddN dX5_copy_167 ?_
      refine x_aload_n (i := 0) dX5_copy_168 rfl rfl ?_
      refine x_getr (i := 20) dX5_copy_169 rfl rfl rfl (by decide) fl_X5_48 inX5 ?_
      refine x_iload (i := 6) dX5_copy_172 rfl ?_
      refine x_laldE dX5_copy_174 rfl (by omega) (by decide) (show _ = F (f + i) by rw [e3]; exact hc i (by omega)) ?_
      refine x_lastN dX5_copy_175 rfl (by omega) (by decide) ?_
      refine y_iincN (i := 6) (ls2 := [_, _, _, _, _, _, _]) dX5_copy_176 rfl (by decide) rfl rfl ?_
      refine x_goto (tgt := 147) dX5_copy_179 rfl ?_
      refine ih (i + 1) _ (by omega) ?_ (fS2_tr hf ?_) (by rw [xul_o _ _ (by omega)]; exact e3)
      · obtain ⟨a1, a2, a3, a4⟩ := h1
        refine ⟨a1, a2, fun q hq => ?_, a4⟩
        by_cases e : q = g + i
        · rw [show 40 * t + q = 40 * t + g + i by omega, xl_s]
          unfold va_cpy
          rw [if_pos (by omega), show f + (q - g) = f + i by omega]
        · rw [xl_o (by omega), a3 q hq]
          unfold va_cpy
          by_cases e2 : g ≤ q ∧ q < g + i
          · rw [if_pos e2, if_pos (by omega)]
          · rw [if_neg e2, if_neg (by omega)]
      · exact ⟨rfl, fun a ha hn q hq => xl_o (by omega)⟩
set_option maxHeartbeats 4000000 in
set_option maxRecDepth 20000 in
theorem c_X5_copy {σ : xH} {K : Int32 → xH → Prop} {S : St} (hS : mS σ S) (hO : tOk (gT S)) (s f t g m : Int32) (hk : ∀ τ, mS τ (oCopy S s f t g m).2 → K (oCopy S s f t g m).1 τ) : Evi l (oM ad D cy) mX5_copy [.ref 0, .int s, .int f, .int t, .int g, .int m] σ K := by
  have hs := hS.1
  have h8 := ms_8 hs
  refine x_enter (ls := [some (.ref 0), some (.int s), some (.int f), some (.int t), some (.int g), some (.int m), none]) rfl ?_
  by_cases hc : vR (nI 0) (nI 3) s ∧ vR (nI 0) (nI 3) t
  · unfold oCopy at hk
    rw [if_pos hc] at hk
    have hcc := hc
    obtain ⟨j, -, hj3, rfl⟩ := vR_of hc.1 (by decide) (by decide)
    obtain ⟨t, -, ht3, rfl⟩ := vR_of hc.2 (by decide) (by decide)
    have hj : j < 4 := by omega
    have ht : t < 4 := by omega
    simp only [cn, nI_clamp (show j < 2 ^ 31 by omega), nI_clamp (show t < 2 ^ 31 by omega)] at hk
    have hm := hS.2.2.2.2.2.2.1 j hj
    have hn := hS.2.2.2.2.2.2.1 t ht
    have hz := hm.2.2.2
    have hz2 := hn.2.2.2
    by_cases h1 : gW S j = 0 ∨ gW S t = 0
    · rw [if_pos h1] at hk
      refine x_iload_n (i := 1) dX5_copy_0 rfl rfl ?_
      refine x_s1i dX5_copy_1 okX5_isSheet ml_X5_220 (Nat.le_of_ble_eq_true rfl) ⟨by decide, by decide⟩ (Nat.le_of_ble_eq_true rfl) (c_X5_isSheet _ ?_)
      refine x_ifeqP (tgt := 14) dX5_copy_4 rfl (fun h4 => ?_) (fun h4 => ?_)
      · exact absurd hcc.1 h4
      · skip
        refine x_iload_n (i := 3) dX5_copy_7 rfl rfl ?_
        refine x_s1i dX5_copy_8 okX5_isSheet ml_X5_220 (Nat.le_of_ble_eq_true rfl) ⟨by decide, by decide⟩ (Nat.le_of_ble_eq_true rfl) (c_X5_isSheet _ ?_)
        refine x_ifneP (tgt := 20) dX5_copy_11 rfl (fun h11 => ?_) (fun h11 => ?_)
        · skip
          refine x_aload_n (i := 0) dX5_copy_20 rfl rfl ?_
          refine x_getr (i := 17) dX5_copy_21 rfl rfl rfl (by decide) fl_X5_38 inX5 ?_
          refine x_iload_n (i := 1) dX5_copy_24 rfl rfl ?_
          refine x_ialdE dX5_copy_25 rfl (by omega) (by decide) hm.1 ?_
          refine x_ifeq (tgt := 38) dX5_copy_26 rfl (fun h26 => ?_) (fun h26 => ?_)
          · skip
            refine x_aload_n (i := 0) dX5_copy_38 rfl rfl ?_
            refine x_iconstN (n := 5) dX5_copy_39 ?_
            refine x_v1i dX5_copy_40 okX5_no ml_X5_118 rfl rfl (Nat.le_of_ble_eq_true rfl) ⟨by decide, by decide⟩ (Nat.le_of_ble_eq_true rfl) (c_X5_no hS 5 (by decide) (fun τ hτ => ?_))
            exact x_ireti dX5_copy_43 rfl (hk τ hτ)
          · skip
            refine x_aload_n (i := 0) dX5_copy_29 rfl rfl ?_
            refine x_getr (i := 17) dX5_copy_30 rfl rfl rfl (by decide) fl_X5_38 inX5 ?_
            refine x_iload_n (i := 3) dX5_copy_33 rfl rfl ?_
            refine x_ialdE dX5_copy_34 rfl (by omega) (by decide) hn.1 ?_
            refine x_ifne (tgt := 44) dX5_copy_35 rfl (fun h35 => ?_) (fun h35 => ?_)
            · exact absurd h1 (fun z => z.elim h26 h35)
            · skip
              refine x_aload_n (i := 0) dX5_copy_38 rfl rfl ?_
              refine x_iconstN (n := 5) dX5_copy_39 ?_
              refine x_v1i dX5_copy_40 okX5_no ml_X5_118 rfl rfl (Nat.le_of_ble_eq_true rfl) ⟨by decide, by decide⟩ (Nat.le_of_ble_eq_true rfl) (c_X5_no hS 5 (by decide) (fun τ hτ => ?_))
              exact x_ireti dX5_copy_43 rfl (hk τ hτ)
        · exact absurd hcc.2 h11
    · rw [if_neg h1] at hk
      by_cases h2 : gW S j = gW S t
      · rw [if_pos h2] at hk
        by_cases h3 : vP (gZ S j) f m ∧ vP (gZ S t) g m
        · rw [if_pos h3] at hk
          obtain ⟨-, f, m, rfl, rfl, hfm⟩ := vP_of hz h3.1.1 h3.1.2.1 h3.1.2.2.2
          obtain ⟨-, g, m2, rfl, em, hgm⟩ := vP_of hz2 h3.2.1 h3.2.2.1 h3.2.2.2.2
          have em2 : m = m2 := nI_inj (by omega) (by omega) em
          subst em2
          simp only [nI_clamp (show f < 2 ^ 31 by omega), nI_clamp (show g < 2 ^ 31 by omega), nI_clamp (show m < 2 ^ 31 by omega)] at hk
          refine x_iload_n (i := 1) dX5_copy_0 rfl rfl ?_
          refine x_s1i dX5_copy_1 okX5_isSheet ml_X5_220 (Nat.le_of_ble_eq_true rfl) ⟨by decide, by decide⟩ (Nat.le_of_ble_eq_true rfl) (c_X5_isSheet _ ?_)
          refine x_ifeqP (tgt := 14) dX5_copy_4 rfl (fun h4 => ?_) (fun h4 => ?_)
          · exact absurd hcc.1 h4
          · skip
            refine x_iload_n (i := 3) dX5_copy_7 rfl rfl ?_
            refine x_s1i dX5_copy_8 okX5_isSheet ml_X5_220 (Nat.le_of_ble_eq_true rfl) ⟨by decide, by decide⟩ (Nat.le_of_ble_eq_true rfl) (c_X5_isSheet _ ?_)
            refine x_ifneP (tgt := 20) dX5_copy_11 rfl (fun h11 => ?_) (fun h11 => ?_)
            · skip
              refine x_aload_n (i := 0) dX5_copy_20 rfl rfl ?_
              refine x_getr (i := 17) dX5_copy_21 rfl rfl rfl (by decide) fl_X5_38 inX5 ?_
              refine x_iload_n (i := 1) dX5_copy_24 rfl rfl ?_
              refine x_ialdE dX5_copy_25 rfl (by omega) (by decide) hm.1 ?_
              refine x_ifeq (tgt := 38) dX5_copy_26 rfl (fun h26 => ?_) (fun h26 => ?_)
              · exact absurd (Or.inl h26) h1
              · skip
                refine x_aload_n (i := 0) dX5_copy_29 rfl rfl ?_
                refine x_getr (i := 17) dX5_copy_30 rfl rfl rfl (by decide) fl_X5_38 inX5 ?_
                refine x_iload_n (i := 3) dX5_copy_33 rfl rfl ?_
                refine x_ialdE dX5_copy_34 rfl (by omega) (by decide) hn.1 ?_
                refine x_ifne (tgt := 44) dX5_copy_35 rfl (fun h35 => ?_) (fun h35 => ?_)
                · skip
                  refine x_aload_n (i := 0) dX5_copy_44 rfl rfl ?_
                  refine x_getr (i := 17) dX5_copy_45 rfl rfl rfl (by decide) fl_X5_38 inX5 ?_
                  refine x_iload_n (i := 1) dX5_copy_48 rfl rfl ?_
                  refine x_ialdE dX5_copy_49 rfl (by omega) (by decide) hm.1 ?_
                  refine x_aload_n (i := 0) dX5_copy_50 rfl rfl ?_
                  refine x_getr (i := 17) dX5_copy_51 rfl rfl rfl (by decide) fl_X5_38 inX5 ?_
                  refine x_iload_n (i := 3) dX5_copy_54 rfl rfl ?_
                  refine x_ialdE dX5_copy_55 rfl (by omega) (by decide) hn.1 ?_
                  refine x_iceq (tgt := 65) dX5_copy_56 rfl (fun h56 => ?_) (fun h56 => ?_)
                  · skip
                    refine x_iload (i := 5) dX5_copy_65 rfl ?_
                    refine x_iflt (tgt := 106) dX5_copy_67 rfl (fun h67 => ?_) (fun h67 => ?_)
                    · exact absurd h67 h3.1.2.1
                    · skip
                      refine x_iload_n (i := 2) dX5_copy_70 rfl rfl ?_
                      refine x_iflt (tgt := 106) dX5_copy_71 rfl (fun h71 => ?_) (fun h71 => ?_)
                      · exact absurd h71 h3.1.1
                      · skip
                        refine x_iload (i := 4) dX5_copy_74 rfl ?_
                        refine x_iflt (tgt := 106) dX5_copy_76 rfl (fun h76 => ?_) (fun h76 => ?_)
                        · exact absurd h76 h3.2.1
                        · skip
                          refine x_iload_n (i := 2) dX5_copy_79 rfl rfl ?_
                          refine x_aload_n (i := 0) dX5_copy_80 rfl rfl ?_
                          refine x_getr (i := 18) dX5_copy_81 rfl rfl rfl (by decide) fl_X5_41 inX5 ?_
                          refine x_iload_n (i := 1) dX5_copy_84 rfl rfl ?_
                          refine x_ialdE dX5_copy_85 rfl (by omega) (by decide) hm.2.1 ?_
                          refine x_iload (i := 5) dX5_copy_86 rfl ?_
                          refine x_isub dX5_copy_88 ?_
                          refine x_icgt (tgt := 106) dX5_copy_89 rfl (fun h89 => ?_) (fun h89 => ?_)
                          · exact absurd h89 h3.1.2.2.2
                          · skip
                            refine x_iload (i := 4) dX5_copy_92 rfl ?_
                            refine x_aload_n (i := 0) dX5_copy_94 rfl rfl ?_
                            refine x_getr (i := 18) dX5_copy_95 rfl rfl rfl (by decide) fl_X5_41 inX5 ?_
                            refine x_iload_n (i := 3) dX5_copy_98 rfl rfl ?_
                            refine x_ialdE dX5_copy_99 rfl (by omega) (by decide) hn.2.1 ?_
                            refine x_iload (i := 5) dX5_copy_100 rfl ?_
                            refine x_isub dX5_copy_102 ?_
                            refine x_icle (tgt := 112) dX5_copy_103 rfl (fun h103 => ?_) (fun h103 => ?_)
                            · skip
                              refine x_iconstN (n := 0) dX5_copy_112 ?_
                              refine y_istore (i := 6) (ls2 := [_, _, _, _, _, _, _]) dX5_copy_113 (by decide) rfl rfl ?_
                              refine l_X5_copyA hj hm hfm (fun τ e1 e2 h3 => ?_) m 0 σ (by omega) rfl rfl (fun q hq => absurd hq (Nat.not_lt_zero _))
                              refine x_iconstN (n := 0) dX5_copy_144 ?_
                              refine y_istore (i := 6) (ls2 := [_, _, _, _, _, _, _]) dX5_copy_145 (by decide) rfl rfl ?_
                              have hn1 : mh τ t (gW S t) (gZ S t) (gN S t) := ⟨by rw [e1]; exact hn.1, by rw [e1]; exact hn.2.1, fun q hq => by rw [e2]; exact hn.2.2.1 q hq, hz2⟩
                              exact l_X5_copyB ht hn1 hgm h3 _ _ (fun υ hm1 hf1 => hk υ (mS_S2 hS ⟨hf1.1.trans e1, fun i hi hne q hq => (hf1.2 i hi hne q hq).trans (by rw [e2])⟩ hm1)) m 0 τ (by omega) ⟨hn1.1, hn1.2.1, fun q hq => by rw [hn1.2.2.1 q hq]; unfold va_cpy; rw [if_neg (by omega)], hz2⟩ (fS2_rf t τ) rfl
                            · exact absurd h103 (fun z => z (Int32.not_lt.mp h3.2.2.2.2))
                  · exact absurd h2 h56
                · exact absurd (Or.inr h35) h1
            · exact absurd hcc.2 h11
        · rw [if_neg h3] at hk
          refine x_iload_n (i := 1) dX5_copy_0 rfl rfl ?_
          refine x_s1i dX5_copy_1 okX5_isSheet ml_X5_220 (Nat.le_of_ble_eq_true rfl) ⟨by decide, by decide⟩ (Nat.le_of_ble_eq_true rfl) (c_X5_isSheet _ ?_)
          refine x_ifeqP (tgt := 14) dX5_copy_4 rfl (fun h4 => ?_) (fun h4 => ?_)
          · exact absurd hcc.1 h4
          · skip
            refine x_iload_n (i := 3) dX5_copy_7 rfl rfl ?_
            refine x_s1i dX5_copy_8 okX5_isSheet ml_X5_220 (Nat.le_of_ble_eq_true rfl) ⟨by decide, by decide⟩ (Nat.le_of_ble_eq_true rfl) (c_X5_isSheet _ ?_)
            refine x_ifneP (tgt := 20) dX5_copy_11 rfl (fun h11 => ?_) (fun h11 => ?_)
            · skip
              refine x_aload_n (i := 0) dX5_copy_20 rfl rfl ?_
              refine x_getr (i := 17) dX5_copy_21 rfl rfl rfl (by decide) fl_X5_38 inX5 ?_
              refine x_iload_n (i := 1) dX5_copy_24 rfl rfl ?_
              refine x_ialdE dX5_copy_25 rfl (by omega) (by decide) hm.1 ?_
              refine x_ifeq (tgt := 38) dX5_copy_26 rfl (fun h26 => ?_) (fun h26 => ?_)
              · exact absurd (Or.inl h26) h1
              · skip
                refine x_aload_n (i := 0) dX5_copy_29 rfl rfl ?_
                refine x_getr (i := 17) dX5_copy_30 rfl rfl rfl (by decide) fl_X5_38 inX5 ?_
                refine x_iload_n (i := 3) dX5_copy_33 rfl rfl ?_
                refine x_ialdE dX5_copy_34 rfl (by omega) (by decide) hn.1 ?_
                refine x_ifne (tgt := 44) dX5_copy_35 rfl (fun h35 => ?_) (fun h35 => ?_)
                · skip
                  refine x_aload_n (i := 0) dX5_copy_44 rfl rfl ?_
                  refine x_getr (i := 17) dX5_copy_45 rfl rfl rfl (by decide) fl_X5_38 inX5 ?_
                  refine x_iload_n (i := 1) dX5_copy_48 rfl rfl ?_
                  refine x_ialdE dX5_copy_49 rfl (by omega) (by decide) hm.1 ?_
                  refine x_aload_n (i := 0) dX5_copy_50 rfl rfl ?_
                  refine x_getr (i := 17) dX5_copy_51 rfl rfl rfl (by decide) fl_X5_38 inX5 ?_
                  refine x_iload_n (i := 3) dX5_copy_54 rfl rfl ?_
                  refine x_ialdE dX5_copy_55 rfl (by omega) (by decide) hn.1 ?_
                  refine x_iceq (tgt := 65) dX5_copy_56 rfl (fun h56 => ?_) (fun h56 => ?_)
                  · skip
                    refine x_iload (i := 5) dX5_copy_65 rfl ?_
                    refine x_iflt (tgt := 106) dX5_copy_67 rfl (fun h67 => ?_) (fun h67 => ?_)
                    · skip
                      refine x_aload_n (i := 0) dX5_copy_106 rfl rfl ?_
                      refine x_iconstN (n := 0) dX5_copy_107 ?_
                      refine x_v1i dX5_copy_108 okX5_no ml_X5_118 rfl rfl (Nat.le_of_ble_eq_true rfl) ⟨by decide, by decide⟩ (Nat.le_of_ble_eq_true rfl) (c_X5_no hS 0 (by decide) (fun τ hτ => ?_))
                      exact x_ireti dX5_copy_111 rfl (hk τ hτ)
                    · skip
                      refine x_iload_n (i := 2) dX5_copy_70 rfl rfl ?_
                      refine x_iflt (tgt := 106) dX5_copy_71 rfl (fun h71 => ?_) (fun h71 => ?_)
                      · skip
                        refine x_aload_n (i := 0) dX5_copy_106 rfl rfl ?_
                        refine x_iconstN (n := 0) dX5_copy_107 ?_
                        refine x_v1i dX5_copy_108 okX5_no ml_X5_118 rfl rfl (Nat.le_of_ble_eq_true rfl) ⟨by decide, by decide⟩ (Nat.le_of_ble_eq_true rfl) (c_X5_no hS 0 (by decide) (fun τ hτ => ?_))
                        exact x_ireti dX5_copy_111 rfl (hk τ hτ)
                      · skip
                        refine x_iload (i := 4) dX5_copy_74 rfl ?_
                        refine x_iflt (tgt := 106) dX5_copy_76 rfl (fun h76 => ?_) (fun h76 => ?_)
                        · skip
                          refine x_aload_n (i := 0) dX5_copy_106 rfl rfl ?_
                          refine x_iconstN (n := 0) dX5_copy_107 ?_
                          refine x_v1i dX5_copy_108 okX5_no ml_X5_118 rfl rfl (Nat.le_of_ble_eq_true rfl) ⟨by decide, by decide⟩ (Nat.le_of_ble_eq_true rfl) (c_X5_no hS 0 (by decide) (fun τ hτ => ?_))
                          exact x_ireti dX5_copy_111 rfl (hk τ hτ)
                        · skip
                          refine x_iload_n (i := 2) dX5_copy_79 rfl rfl ?_
                          refine x_aload_n (i := 0) dX5_copy_80 rfl rfl ?_
                          refine x_getr (i := 18) dX5_copy_81 rfl rfl rfl (by decide) fl_X5_41 inX5 ?_
                          refine x_iload_n (i := 1) dX5_copy_84 rfl rfl ?_
                          refine x_ialdE dX5_copy_85 rfl (by omega) (by decide) hm.2.1 ?_
                          refine x_iload (i := 5) dX5_copy_86 rfl ?_
                          refine x_isub dX5_copy_88 ?_
                          refine x_icgt (tgt := 106) dX5_copy_89 rfl (fun h89 => ?_) (fun h89 => ?_)
                          · skip
                            refine x_aload_n (i := 0) dX5_copy_106 rfl rfl ?_
                            refine x_iconstN (n := 0) dX5_copy_107 ?_
                            refine x_v1i dX5_copy_108 okX5_no ml_X5_118 rfl rfl (Nat.le_of_ble_eq_true rfl) ⟨by decide, by decide⟩ (Nat.le_of_ble_eq_true rfl) (c_X5_no hS 0 (by decide) (fun τ hτ => ?_))
                            exact x_ireti dX5_copy_111 rfl (hk τ hτ)
                          · skip
                            refine x_iload (i := 4) dX5_copy_92 rfl ?_
                            refine x_aload_n (i := 0) dX5_copy_94 rfl rfl ?_
                            refine x_getr (i := 18) dX5_copy_95 rfl rfl rfl (by decide) fl_X5_41 inX5 ?_
                            refine x_iload_n (i := 3) dX5_copy_98 rfl rfl ?_
                            refine x_ialdE dX5_copy_99 rfl (by omega) (by decide) hn.2.1 ?_
                            refine x_iload (i := 5) dX5_copy_100 rfl ?_
                            refine x_isub dX5_copy_102 ?_
                            refine x_icle (tgt := 112) dX5_copy_103 rfl (fun h103 => ?_) (fun h103 => ?_)
                            · exact absurd ⟨(vP_of hz h71 h67 h89).1, (vP_of hz2 h76 h67 (Int32.not_lt.mpr h103)).1⟩ h3
                            · skip
                              refine x_aload_n (i := 0) dX5_copy_106 rfl rfl ?_
                              refine x_iconstN (n := 0) dX5_copy_107 ?_
                              refine x_v1i dX5_copy_108 okX5_no ml_X5_118 rfl rfl (Nat.le_of_ble_eq_true rfl) ⟨by decide, by decide⟩ (Nat.le_of_ble_eq_true rfl) (c_X5_no hS 0 (by decide) (fun τ hτ => ?_))
                              exact x_ireti dX5_copy_111 rfl (hk τ hτ)
                  · exact absurd h2 h56
                · exact absurd (Or.inr h35) h1
            · exact absurd hcc.2 h11
      · rw [if_neg h2] at hk
        refine x_iload_n (i := 1) dX5_copy_0 rfl rfl ?_
        refine x_s1i dX5_copy_1 okX5_isSheet ml_X5_220 (Nat.le_of_ble_eq_true rfl) ⟨by decide, by decide⟩ (Nat.le_of_ble_eq_true rfl) (c_X5_isSheet _ ?_)
        refine x_ifeqP (tgt := 14) dX5_copy_4 rfl (fun h4 => ?_) (fun h4 => ?_)
        · exact absurd hcc.1 h4
        · skip
          refine x_iload_n (i := 3) dX5_copy_7 rfl rfl ?_
          refine x_s1i dX5_copy_8 okX5_isSheet ml_X5_220 (Nat.le_of_ble_eq_true rfl) ⟨by decide, by decide⟩ (Nat.le_of_ble_eq_true rfl) (c_X5_isSheet _ ?_)
          refine x_ifneP (tgt := 20) dX5_copy_11 rfl (fun h11 => ?_) (fun h11 => ?_)
          · skip
            refine x_aload_n (i := 0) dX5_copy_20 rfl rfl ?_
            refine x_getr (i := 17) dX5_copy_21 rfl rfl rfl (by decide) fl_X5_38 inX5 ?_
            refine x_iload_n (i := 1) dX5_copy_24 rfl rfl ?_
            refine x_ialdE dX5_copy_25 rfl (by omega) (by decide) hm.1 ?_
            refine x_ifeq (tgt := 38) dX5_copy_26 rfl (fun h26 => ?_) (fun h26 => ?_)
            · exact absurd (Or.inl h26) h1
            · skip
              refine x_aload_n (i := 0) dX5_copy_29 rfl rfl ?_
              refine x_getr (i := 17) dX5_copy_30 rfl rfl rfl (by decide) fl_X5_38 inX5 ?_
              refine x_iload_n (i := 3) dX5_copy_33 rfl rfl ?_
              refine x_ialdE dX5_copy_34 rfl (by omega) (by decide) hn.1 ?_
              refine x_ifne (tgt := 44) dX5_copy_35 rfl (fun h35 => ?_) (fun h35 => ?_)
              · skip
                refine x_aload_n (i := 0) dX5_copy_44 rfl rfl ?_
                refine x_getr (i := 17) dX5_copy_45 rfl rfl rfl (by decide) fl_X5_38 inX5 ?_
                refine x_iload_n (i := 1) dX5_copy_48 rfl rfl ?_
                refine x_ialdE dX5_copy_49 rfl (by omega) (by decide) hm.1 ?_
                refine x_aload_n (i := 0) dX5_copy_50 rfl rfl ?_
                refine x_getr (i := 17) dX5_copy_51 rfl rfl rfl (by decide) fl_X5_38 inX5 ?_
                refine x_iload_n (i := 3) dX5_copy_54 rfl rfl ?_
                refine x_ialdE dX5_copy_55 rfl (by omega) (by decide) hn.1 ?_
                refine x_iceq (tgt := 65) dX5_copy_56 rfl (fun h56 => ?_) (fun h56 => ?_)
                · exact absurd h56 h2
                · skip
                  refine x_aload_n (i := 0) dX5_copy_59 rfl rfl ?_
                  refine x_iconstN (n := 2) dX5_copy_60 ?_
                  refine x_v1i dX5_copy_61 okX5_no ml_X5_118 rfl rfl (Nat.le_of_ble_eq_true rfl) ⟨by decide, by decide⟩ (Nat.le_of_ble_eq_true rfl) (c_X5_no hS 2 (by decide) (fun τ hτ => ?_))
                  exact x_ireti dX5_copy_64 rfl (hk τ hτ)
              · exact absurd (Or.inr h35) h1
          · exact absurd hcc.2 h11
  · unfold oCopy at hk
    rw [if_neg hc] at hk
    refine x_iload_n (i := 1) dX5_copy_0 rfl rfl ?_
    refine x_s1i dX5_copy_1 okX5_isSheet ml_X5_220 (Nat.le_of_ble_eq_true rfl) ⟨by decide, by decide⟩ (Nat.le_of_ble_eq_true rfl) (c_X5_isSheet _ ?_)
    refine x_ifeqP (tgt := 14) dX5_copy_4 rfl (fun h4 => ?_) (fun h4 => ?_)
    · skip
      refine x_aload_n (i := 0) dX5_copy_14 rfl rfl ?_
      refine x_iconstN (n := 0) dX5_copy_15 ?_
      refine x_v1i dX5_copy_16 okX5_no ml_X5_118 rfl rfl (Nat.le_of_ble_eq_true rfl) ⟨by decide, by decide⟩ (Nat.le_of_ble_eq_true rfl) (c_X5_no hS 0 (by decide) (fun τ hτ => ?_))
      exact x_ireti dX5_copy_19 rfl (hk τ hτ)
    · skip
      refine x_iload_n (i := 3) dX5_copy_7 rfl rfl ?_
      refine x_s1i dX5_copy_8 okX5_isSheet ml_X5_220 (Nat.le_of_ble_eq_true rfl) ⟨by decide, by decide⟩ (Nat.le_of_ble_eq_true rfl) (c_X5_isSheet _ ?_)
      refine x_ifneP (tgt := 20) dX5_copy_11 rfl (fun h11 => ?_) (fun h11 => ?_)
      · exact absurd ⟨h4, h11⟩ hc
      · skip
        refine x_aload_n (i := 0) dX5_copy_14 rfl rfl ?_
        refine x_iconstN (n := 0) dX5_copy_15 ?_
        refine x_v1i dX5_copy_16 okX5_no ml_X5_118 rfl rfl (Nat.le_of_ble_eq_true rfl) ⟨by decide, by decide⟩ (Nat.le_of_ble_eq_true rfl) (c_X5_no hS 0 (by decide) (fun τ hτ => ?_))
        exact x_ireti dX5_copy_19 rfl (hk τ hτ)
end
