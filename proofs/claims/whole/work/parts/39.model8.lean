section
variable {l : Launch} {ad : Nat → Nat} {D : va_G} {cy : Nat → ClassId}
set_option maxHeartbeats 4000000 in
set_option maxRecDepth 20000 in
theorem l_X5_kind {K : Int32 → xH → Prop} {σ0 : xH} {S : St} (hS : mS σ0 S) (hO : tOk (gT S)) {d r w : Nat} (hd : d < tN (gT S)) (hr : r < 3) (h10 : 10 ≤ w) (h80 : w ≤ 80) (ew : tWs (gT S) d = nI w) (hk : ∀ τ, mS τ S → K (nI (kB (gT S) (nI w) r 5).1) τ) : ∀ (n i : Nat) (σ : xH) (b : Nat) (y : Int32), i + n = 5 → ((b, y) = kB (gT S) (nI w) r i) → (ms σ 1 (gT S)) → (fq σ0 σ) → Ex l (oM ad D cy) mX5_kind 24 [some (.ref 0), some (.int (nI d)), some (.int (nI r)), some (.int (nI b)), some (.int y), some (.int (nI (i + 1)))] [] σ (xQi K) := by
  intro n
  induction n with
  | zero =>
    intro i σ b y hi e hs hf
    have hi : i = 5 := by omega
    subst hi
    refine x_iload (i := 5) dX5_kind_24 rfl ?_
    refine x_bipush (v := nI 6) dX5_kind_26 (by decide) ?_
    refine x_icgeN (tgt := 77) (by omega) (by omega) dX5_kind_28 rfl (fun h28 => ?_) (fun h28 => ?_)
    · skip
      refine x_iload_n (i := 3) dX5_kind_77 rfl rfl ?_
      exact x_ireti dX5_kind_78 rfl (by rw [← e] at hk; exact hk σ (mS_q hS hf))
    · exact absurd h28 (by omega)
  | succ n ih =>
    intro i σ b y hi e hs hf
    have h8 := hO.1
    refine x_iload (i := 5) dX5_kind_24 rfl ?_
    refine x_bipush (v := nI 6) dX5_kind_26 (by decide) ?_
    refine x_icgeN (tgt := 77) (by omega) (by omega) dX5_kind_28 rfl (fun h28 => ?_) (fun h28 => ?_)
    · exact absurd h28 (by omega)
    · skip
      refine x_aload_n (i := 0) dX5_kind_31 rfl rfl ?_
      refine x_iload (i := 5) dX5_kind_32 rfl ?_
      refine x_aload_n (i := 0) dX5_kind_34 rfl rfl ?_
      refine x_iload_n (i := 1) dX5_kind_35 rfl rfl ?_
      refine x_iconstN (n := 1) dX5_kind_36 ?_
      refine x_v2i dX5_kind_37 okX5_get ml_X5_92 rfl rfl (Nat.le_of_ble_eq_true rfl) ⟨by decide, by decide⟩ (Nat.le_of_ble_eq_true rfl) (c_get1 hs hd ?_)
      refine x_top ew ?_
      refine x_iload_n (i := 2) dX5_kind_40 rfl rfl ?_
      refine x_v3v dX5_kind_41 okX5_goesThrough ml_X5_95 rfl rfl (Nat.le_of_ble_eq_true rfl) ⟨by decide, by decide⟩ (Nat.le_of_ble_eq_true rfl) (c_X5_goesThrough hO (k := i + 1) (by omega) h10 h80 hr hs (fun τ hq hf1 => ?_))
      refine x_aload_n (i := 0) dX5_kind_44 rfl rfl ?_
      refine x_getiE (i := 6) dX5_kind_45 rfl rfl rfl (by decide) fl_X5_75 inX5 (show _ = pTime (gT S) (nI (i + 1)) (nI w) r from hq.2.1) ?_
      refine x_iload (i := 4) dX5_kind_48 rfl ?_
      refine x_icge (tgt := 58) dX5_kind_50 rfl (fun h50 => ?_) (fun h50 => ?_)
      · skip
        refine x_iload_n (i := 3) dX5_kind_58 rfl rfl ?_
        refine y_istore_n (i := 3) (ls2 := [_, _, _, _, _, _]) dX5_kind_59 rfl (by decide) rfl rfl ?_
        refine x_iload (i := 4) dX5_kind_60 rfl ?_
        refine x_aload_n (i := 0) dX5_kind_62 rfl rfl ?_
        refine x_getiE (i := 6) dX5_kind_63 rfl rfl rfl (by decide) fl_X5_75 inX5 (show _ = pTime (gT S) (nI (i + 1)) (nI w) r from hq.2.1) ?_
        refine x_s2i dX5_kind_66 okX5_less ml_X5_71 (Nat.le_of_ble_eq_true rfl) ⟨by decide, by decide⟩ (Nat.le_of_ble_eq_true rfl) (c_X5_less _ _ ?_)
        refine y_istore (i := 4) (ls2 := [_, _, _, _, _, _]) dX5_kind_69 (by decide) rfl rfl ?_
        refine y_iincN (i := 5) (ls2 := [_, _, _, _, _, _]) dX5_kind_71 rfl (by decide) rfl rfl ?_
        refine x_goto (tgt := 24) dX5_kind_74 rfl ?_
        refine x_ls (show _ = [some (.ref 0), some (.int (nI d)), some (.int (nI r)), some (.int (nI b)), some (.int y), some (.int (nI (i + 1 + 1)))] by rw [less_le h50]) ?_
        exact ih (i + 1) τ _ _ (by omega) (by rw [kB, ← e]; first | exact (if_pos h50).symm | exact (if_neg h50).symm) (ms_fq hs hf1 (by decide) (by decide)) (fq_tr hf hf1)
      · skip
        refine x_iload (i := 5) dX5_kind_53 rfl ?_
        refine x_goto (tgt := 59) dX5_kind_55 rfl ?_
        refine y_istore_n (i := 3) (ls2 := [_, _, _, _, _, _]) dX5_kind_59 rfl (by decide) rfl rfl ?_
        refine x_iload (i := 4) dX5_kind_60 rfl ?_
        refine x_aload_n (i := 0) dX5_kind_62 rfl rfl ?_
        refine x_getiE (i := 6) dX5_kind_63 rfl rfl rfl (by decide) fl_X5_75 inX5 (show _ = pTime (gT S) (nI (i + 1)) (nI w) r from hq.2.1) ?_
        refine x_s2i dX5_kind_66 okX5_less ml_X5_71 (Nat.le_of_ble_eq_true rfl) ⟨by decide, by decide⟩ (Nat.le_of_ble_eq_true rfl) (c_X5_less _ _ ?_)
        refine y_istore (i := 4) (ls2 := [_, _, _, _, _, _]) dX5_kind_69 (by decide) rfl rfl ?_
        refine y_iincN (i := 5) (ls2 := [_, _, _, _, _, _]) dX5_kind_71 rfl (by decide) rfl rfl ?_
        refine x_goto (tgt := 24) dX5_kind_74 rfl ?_
        refine x_ls (show _ = [some (.ref 0), some (.int (nI d)), some (.int (nI r)), some (.int (nI (i + 1))), some (.int (pTime (gT S) (nI (i + 1)) (nI w) r)), some (.int (nI (i + 1 + 1)))] by rw [less_nle h50]) ?_
        exact ih (i + 1) τ _ _ (by omega) (by rw [kB, ← e]; first | exact (if_pos h50).symm | exact (if_neg h50).symm) (ms_fq hs hf1 (by decide) (by decide)) (fq_tr hf hf1)
set_option maxHeartbeats 4000000 in
set_option maxRecDepth 20000 in
theorem c_X5_kind {σ : xH} {K : Int32 → xH → Prop} {S : St} (hS : mS σ S) (hO : tOk (gT S)) (d a : Int32) (hk : ∀ τ, mS τ (oKind S d a).2 → K (oKind S d a).1 τ) : Evi l (oM ad D cy) mX5_kind [.ref 0, .int d, .int a] σ K := by
  have hs := hS.1
  have h8 := ms_8 hs
  refine x_enter (ls := [some (.ref 0), some (.int d), some (.int a), none, none, none]) rfl ?_
  by_cases hc : vN (tN (gT S)) d ∧ vN 3 a
  · unfold oKind at hk
    rw [if_pos hc] at hk
    obtain ⟨d, hd, rfl⟩ := vN_of hc.1 (by omega)
    have hg := ms_g3 hs hd
    have h8d : d < 2 ^ 31 := by omega
    simp only [cn, nI_clamp h8d] at hk
    obtain ⟨r, hr, rfl⟩ := vN_of hc.2 (by decide)
    simp only [nI_clamp (show r < 2 ^ 31 by omega)] at hk
    obtain ⟨k, hk6, ek⟩ := hO.2.1 d hd
    obtain ⟨w, h10, h80, ew⟩ := hO.2.2.1 d hd
    rw [ew] at hk
    refine x_aload_n (i := 0) dX5_kind_0 rfl rfl ?_
    refine x_iload_n (i := 1) dX5_kind_1 rfl rfl ?_
    refine x_iload_n (i := 2) dX5_kind_2 rfl rfl ?_
    refine x_v2i dX5_kind_3 okX5_areBoth ml_X5_146 rfl rfl (Nat.le_of_ble_eq_true rfl) ⟨by decide, by decide⟩ (Nat.le_of_ble_eq_true rfl) (c_X5_areBoth hs _ _ ?_)
    refine x_ifneP (tgt := 15) dX5_kind_6 rfl (fun h6 => ?_) (fun h6 => ?_)
    · skip
      refine x_iconstN (n := 0) dX5_kind_15 ?_
      refine y_istore_n (i := 3) (ls2 := [_, _, _, _, _, _]) dX5_kind_16 rfl (by decide) rfl rfl ?_
      refine x_ldc (v := nI 99999) dX5_kind_17 kc_X5_165 ?_
      refine y_istore (i := 4) (ls2 := [_, _, _, _, _, _]) dX5_kind_19 (by decide) rfl rfl ?_
      refine x_iconstN (n := 0) dX5_kind_21 ?_
      refine y_istore (i := 5) (ls2 := [_, _, _, _, _, _]) dX5_kind_22 (by decide) rfl rfl ?_
      refine x_iload (i := 5) dX5_kind_24 rfl ?_
      refine x_bipush (v := nI 6) dX5_kind_26 (by decide) ?_
      refine x_icgeN (tgt := 77) (by omega) (by omega) dX5_kind_28 rfl (fun h28 => ?_) (fun h28 => ?_)
      · exact absurd h28 (by decide)
      · skip
        refine x_aload_n (i := 0) dX5_kind_31 rfl rfl ?_
        refine x_iload (i := 5) dX5_kind_32 rfl ?_
        refine x_aload_n (i := 0) dX5_kind_34 rfl rfl ?_
        refine x_iload_n (i := 1) dX5_kind_35 rfl rfl ?_
        refine x_iconstN (n := 1) dX5_kind_36 ?_
        refine x_v2i dX5_kind_37 okX5_get ml_X5_92 rfl rfl (Nat.le_of_ble_eq_true rfl) ⟨by decide, by decide⟩ (Nat.le_of_ble_eq_true rfl) (c_get1 hs (by omega) ?_)
        refine x_top ew ?_
        refine x_iload_n (i := 2) dX5_kind_40 rfl rfl ?_
        refine x_v3v dX5_kind_41 okX5_goesThrough ml_X5_95 rfl rfl (Nat.le_of_ble_eq_true rfl) ⟨by decide, by decide⟩ (Nat.le_of_ble_eq_true rfl) (c_X5_goesThrough hO (k := 0) (by omega) h10 h80 hr hs (fun τ hq hf1 => ?_))
        refine x_aload_n (i := 0) dX5_kind_44 rfl rfl ?_
        refine x_getiE (i := 6) dX5_kind_45 rfl rfl rfl (by decide) fl_X5_75 inX5 (show _ = pTime (gT S) (nI 0) (nI w) r from hq.2.1) ?_
        refine x_iload (i := 4) dX5_kind_48 rfl ?_
        refine x_icge (tgt := 58) dX5_kind_50 rfl (fun h50 => ?_) (fun h50 => ?_)
        · exact absurd h50 (lt_nI (pTime_rng hO (k := 0) (by omega) h10 h80 hr) (by omega) (by omega))
        · skip
          refine x_iload (i := 5) dX5_kind_53 rfl ?_
          refine x_goto (tgt := 59) dX5_kind_55 rfl ?_
          refine y_istore_n (i := 3) (ls2 := [_, _, _, _, _, _]) dX5_kind_59 rfl (by decide) rfl rfl ?_
          refine x_iload (i := 4) dX5_kind_60 rfl ?_
          refine x_aload_n (i := 0) dX5_kind_62 rfl rfl ?_
          refine x_getiE (i := 6) dX5_kind_63 rfl rfl rfl (by decide) fl_X5_75 inX5 (show _ = pTime (gT S) (nI 0) (nI w) r from hq.2.1) ?_
          refine x_s2i dX5_kind_66 okX5_less ml_X5_71 (Nat.le_of_ble_eq_true rfl) ⟨by decide, by decide⟩ (Nat.le_of_ble_eq_true rfl) (c_X5_less _ _ ?_)
          refine y_istore (i := 4) (ls2 := [_, _, _, _, _, _]) dX5_kind_69 (by decide) rfl rfl ?_
          refine y_iincN (i := 5) (ls2 := [_, _, _, _, _, _]) dX5_kind_71 rfl (by decide) rfl rfl ?_
          refine x_goto (tgt := 24) dX5_kind_74 rfl ?_
          refine x_ls (show _ = [some (.ref 0), some (.int (nI d)), some (.int (nI r)), some (.int (nI 0)), some (.int (pTime (gT S) (nI 0) (nI w) r)), some (.int (nI (0 + 1)))] by rw [less_nle h50]) ?_
          exact l_X5_kind hS hO hd hr h10 h80 ew hk 5 0 τ _ _ rfl rfl (ms_fq hs hf1 (by decide) (by decide)) hf1
    · exact absurd hc h6
  · unfold oKind at hk
    rw [if_neg hc] at hk
    refine x_aload_n (i := 0) dX5_kind_0 rfl rfl ?_
    refine x_iload_n (i := 1) dX5_kind_1 rfl rfl ?_
    refine x_iload_n (i := 2) dX5_kind_2 rfl rfl ?_
    refine x_v2i dX5_kind_3 okX5_areBoth ml_X5_146 rfl rfl (Nat.le_of_ble_eq_true rfl) ⟨by decide, by decide⟩ (Nat.le_of_ble_eq_true rfl) (c_X5_areBoth hs _ _ ?_)
    refine x_ifneP (tgt := 15) dX5_kind_6 rfl (fun h6 => ?_) (fun h6 => ?_)
    · exact absurd h6 hc
    · skip
      refine x_aload_n (i := 0) dX5_kind_9 rfl rfl ?_
      refine x_iconstN (n := 0) dX5_kind_10 ?_
      refine x_v1i dX5_kind_11 okX5_no ml_X5_118 rfl rfl (Nat.le_of_ble_eq_true rfl) ⟨by decide, by decide⟩ (Nat.le_of_ble_eq_true rfl) (c_X5_no hS 0 (by decide) (fun τ hτ => ?_))
      exact x_ireti dX5_kind_14 rfl (hk τ hτ)
set_option maxHeartbeats 4000000 in
set_option maxRecDepth 20000 in
theorem l_X5_wish {K : Int32 → xH → Prop} {σ0 : xH} {S : St} (hS : mS σ0 S) (hO : tOk (gT S)) {d r k : Nat} (hd : d < tN (gT S)) (hr : r < 3) (hk6 : k < 6) (ek : tKd (gT S) d = nI k) (t : Int32) (hk : ∀ τ, mS τ (bR10 S (bMin (fun i => !decide (t < pTime (gT S) (nI k) (nI (10 + i)) r)) (fun i => pShake (gT S) (nI k) (nI (10 + i)) r) 71)).2 → K (bR10 S (bMin (fun i => !decide (t < pTime (gT S) (nI k) (nI (10 + i)) r)) (fun i => pShake (gT S) (nI k) (nI (10 + i)) r) 71)).1 τ) : ∀ (n i : Nat) (σ : xH) (b : Int32) (y : Int32), i + n = 71 → (b = bI10 (bMin (fun i => !decide (t < pTime (gT S) (nI k) (nI (10 + i)) r)) (fun i => pShake (gT S) (nI k) (nI (10 + i)) r) i)) → (y = bL (nI 99999) (bMin (fun i => !decide (t < pTime (gT S) (nI k) (nI (10 + i)) r)) (fun i => pShake (gT S) (nI k) (nI (10 + i)) r) i)) → (ms σ 1 (gT S)) → (fq σ0 σ) → Ex l (oM ad D cy) mX5_wish 37 [some (.ref 0), some (.int (nI d)), some (.int (nI r)), some (.int t), some (.int b), some (.int y), some (.int (nI (10 + i))), none] [] σ (xQi K) := by
  intro n
  induction n with
  | zero =>
    intro i σ b y hi eb ey hs hf
    have hi : i = 71 := by omega
    subst hi
    refine x_iload (i := 6) dX5_wish_37 rfl ?_
    refine x_bipush (v := nI 80) dX5_wish_39 (by decide) ?_
    refine x_icgtN (tgt := 117) (by omega) (by omega) dX5_wish_41 rfl (fun h41 => ?_) (fun h41 => ?_)
    · skip
      refine x_iload (i := 4) dX5_wish_117 rfl ?_
      refine x_ifge (tgt := 130) dX5_wish_119 rfl (fun h119 => ?_) (fun h119 => ?_)
      · skip
        refine x_iload (i := 4) dX5_wish_130 rfl ?_
        exact x_ireti dX5_wish_132 rfl (by subst eb; first | (rw [bR10_some h119] at hk; exact hk σ (mS_q hS hf)) | (rw [bR10_none h119 (fun b w h => by have := bMin_b _ _ _ b w h; omega)] at hk; exact hk τ hτ))
      · skip
        refine x_aload_n (i := 0) dX5_wish_122 rfl rfl ?_
        refine x_iconstN (n := 3) dX5_wish_123 ?_
        refine x_v1i dX5_wish_124 okX5_no ml_X5_118 rfl rfl (Nat.le_of_ble_eq_true rfl) ⟨by decide, by decide⟩ (Nat.le_of_ble_eq_true rfl) (c_X5_no (mS_q hS hf) 3 (by decide) (fun τ hτ => ?_))
        refine x_goto (tgt := 132) dX5_wish_127 rfl ?_
        exact x_ireti dX5_wish_132 rfl (by subst eb; first | (rw [bR10_some h119] at hk; exact hk σ (mS_q hS hf)) | (rw [bR10_none h119 (fun b w h => by have := bMin_b _ _ _ b w h; omega)] at hk; exact hk τ hτ))
    · exact absurd h41 (by omega)
  | succ n ih =>
    intro i σ b y hi eb ey hs hf
    subst eb
    subst ey
    have h8 := hO.1
    have hv := lt_nI (c := 99999) (pShake_rng hO hk6 (w := 10 + i) (by omega) (by omega) hr) (by omega) (by omega)
    refine x_iload (i := 6) dX5_wish_37 rfl ?_
    refine x_bipush (v := nI 80) dX5_wish_39 (by decide) ?_
    refine x_icgtN (tgt := 117) (by omega) (by omega) dX5_wish_41 rfl (fun h41 => ?_) (fun h41 => ?_)
    · exact absurd h41 (by omega)
    · skip
      refine x_aload_n (i := 0) dX5_wish_44 rfl rfl ?_
      refine x_aload_n (i := 0) dX5_wish_45 rfl rfl ?_
      refine x_iload_n (i := 1) dX5_wish_46 rfl rfl ?_
      refine x_iconstN (n := 0) dX5_wish_47 ?_
      refine x_v2i dX5_wish_48 okX5_get ml_X5_92 rfl rfl (Nat.le_of_ble_eq_true rfl) ⟨by decide, by decide⟩ (Nat.le_of_ble_eq_true rfl) (c_get0 hs hd ?_)
      refine x_top ek ?_
      refine x_iload (i := 6) dX5_wish_51 rfl ?_
      refine x_iload_n (i := 2) dX5_wish_53 rfl rfl ?_
      refine x_v3v dX5_wish_54 okX5_goesThrough ml_X5_95 rfl rfl (Nat.le_of_ble_eq_true rfl) ⟨by decide, by decide⟩ (Nat.le_of_ble_eq_true rfl) (c_X5_goesThrough hO hk6 (w := 10 + i) (by omega) (by omega) hr hs (fun τ hq hf1 => ?_))
      refine x_aload_n (i := 0) dX5_wish_57 rfl rfl ?_
      refine x_getiE (i := 6) dX5_wish_58 rfl rfl rfl (by decide) fl_X5_75 inX5 (show _ = pTime (gT S) (nI k) (nI (10 + i)) r from hq.2.1) ?_
      refine x_iload_n (i := 3) dX5_wish_61 rfl rfl ?_
      refine x_icgt (tgt := 78) dX5_wish_62 rfl (fun h62 => ?_) (fun h62 => ?_)
      · skip
        refine x_iconstN (n := 0) dX5_wish_78 ?_
        refine y_istore (i := 7) (ls2 := [_, _, _, _, _, _, _, _]) dX5_wish_79 (by decide) rfl rfl ?_
        refine x_iload (i := 7) dX5_wish_81 rfl ?_
        refine x_ifeq (tgt := 91) dX5_wish_83 rfl (fun h83 => ?_) (fun h83 => ?_)
        · skip
          refine x_iload (i := 4) dX5_wish_91 rfl ?_
          refine y_istore (i := 4) (ls2 := [_, _, _, _, _, _, _, _]) dX5_wish_93 (by decide) rfl rfl ?_
          refine x_iload (i := 7) dX5_wish_95 rfl ?_
          refine x_ifeq (tgt := 107) dX5_wish_97 rfl (fun h97 => ?_) (fun h97 => ?_)
          · skip
            refine x_iload (i := 5) dX5_wish_107 rfl ?_
            refine y_istore (i := 5) (ls2 := [_, _, _, _, _, _, _, _]) dX5_wish_109 (by decide) rfl rfl ?_
            refine y_iincN (i := 6) (ls2 := [_, _, _, _, _, _, _, _]) dX5_wish_111 rfl (by decide) rfl rfl ?_
            refine x_goto (tgt := 37) dX5_wish_114 rfl ?_
            have e1 : bMin (fun i => !decide (t < pTime (gT S) (nI k) (nI (10 + i)) r)) (fun i => pShake (gT S) (nI k) (nI (10 + i)) r) (i + 1) = bMin (fun i => !decide (t < pTime (gT S) (nI k) (nI (10 + i)) r)) (fun i => pShake (gT S) (nI k) (nI (10 + i)) r) i := bMin_f (by simpa using h62)
            exact x_mask [true, true, true, true, true, true, true, false] <| ih (i + 1) τ _ _ (by omega) (by rw [e1]) (by rw [e1]) (ms_fq hs hf1 (by decide) (by decide)) (fq_tr hf hf1)
          · exact absurd h97 (by decide)
        · exact absurd h83 (by decide)
      · skip
        refine x_aload_n (i := 0) dX5_wish_65 rfl rfl ?_
        refine x_getiE (i := 7) dX5_wish_66 rfl rfl rfl (by decide) fl_X5_79 inX5 (show _ = pShake (gT S) (nI k) (nI (10 + i)) r from hq.2.2) ?_
        refine x_iload (i := 5) dX5_wish_69 rfl ?_
        refine x_icge (tgt := 78) dX5_wish_71 rfl (fun h71 => ?_) (fun h71 => ?_)
        · skip
          refine x_iconstN (n := 0) dX5_wish_78 ?_
          refine y_istore (i := 7) (ls2 := [_, _, _, _, _, _, _, _]) dX5_wish_79 (by decide) rfl rfl ?_
          refine x_iload (i := 7) dX5_wish_81 rfl ?_
          refine x_ifeq (tgt := 91) dX5_wish_83 rfl (fun h83 => ?_) (fun h83 => ?_)
          · skip
            refine x_iload (i := 4) dX5_wish_91 rfl ?_
            refine y_istore (i := 4) (ls2 := [_, _, _, _, _, _, _, _]) dX5_wish_93 (by decide) rfl rfl ?_
            refine x_iload (i := 7) dX5_wish_95 rfl ?_
            refine x_ifeq (tgt := 107) dX5_wish_97 rfl (fun h97 => ?_) (fun h97 => ?_)
            · skip
              refine x_iload (i := 5) dX5_wish_107 rfl ?_
              refine y_istore (i := 5) (ls2 := [_, _, _, _, _, _, _, _]) dX5_wish_109 (by decide) rfl rfl ?_
              refine y_iincN (i := 6) (ls2 := [_, _, _, _, _, _, _, _]) dX5_wish_111 rfl (by decide) rfl rfl ?_
              refine x_goto (tgt := 37) dX5_wish_114 rfl ?_
              have e0 : bMin (fun i => !decide (t < pTime (gT S) (nI k) (nI (10 + i)) r)) (fun i => pShake (gT S) (nI k) (nI (10 + i)) r) (i + 1) = stMin (bMin (fun i => !decide (t < pTime (gT S) (nI k) (nI (10 + i)) r)) (fun i => pShake (gT S) (nI k) (nI (10 + i)) r) i) i (pShake (gT S) (nI k) (nI (10 + i)) r) := bMin_t (by simpa using h62)
              have e1 := e0.trans (stMin_k hv h71)
              exact x_mask [true, true, true, true, true, true, true, false] <| ih (i + 1) τ _ _ (by omega) (by rw [e1]) (by rw [e1]) (ms_fq hs hf1 (by decide) (by decide)) (fq_tr hf hf1)
            · exact absurd h97 (by decide)
          · exact absurd h83 (by decide)
        · skip
          refine x_iconstN (n := 1) dX5_wish_74 ?_
          refine x_goto (tgt := 79) dX5_wish_75 rfl ?_
          refine y_istore (i := 7) (ls2 := [_, _, _, _, _, _, _, _]) dX5_wish_79 (by decide) rfl rfl ?_
          refine x_iload (i := 7) dX5_wish_81 rfl ?_
          refine x_ifeq (tgt := 91) dX5_wish_83 rfl (fun h83 => ?_) (fun h83 => ?_)
          · exact absurd h83 (by decide)
          · skip
            refine x_iload (i := 6) dX5_wish_86 rfl ?_
            refine x_goto (tgt := 93) dX5_wish_88 rfl ?_
            refine y_istore (i := 4) (ls2 := [_, _, _, _, _, _, _, _]) dX5_wish_93 (by decide) rfl rfl ?_
            refine x_iload (i := 7) dX5_wish_95 rfl ?_
            refine x_ifeq (tgt := 107) dX5_wish_97 rfl (fun h97 => ?_) (fun h97 => ?_)
            · exact absurd h97 (by decide)
            · skip
              refine x_aload_n (i := 0) dX5_wish_100 rfl rfl ?_
              refine x_getiE (i := 7) dX5_wish_101 rfl rfl rfl (by decide) fl_X5_79 inX5 (show _ = pShake (gT S) (nI k) (nI (10 + i)) r from hq.2.2) ?_
              refine x_goto (tgt := 109) dX5_wish_104 rfl ?_
              refine y_istore (i := 5) (ls2 := [_, _, _, _, _, _, _, _]) dX5_wish_109 (by decide) rfl rfl ?_
              refine y_iincN (i := 6) (ls2 := [_, _, _, _, _, _, _, _]) dX5_wish_111 rfl (by decide) rfl rfl ?_
              refine x_goto (tgt := 37) dX5_wish_114 rfl ?_
              have e0 : bMin (fun i => !decide (t < pTime (gT S) (nI k) (nI (10 + i)) r)) (fun i => pShake (gT S) (nI k) (nI (10 + i)) r) (i + 1) = stMin (bMin (fun i => !decide (t < pTime (gT S) (nI k) (nI (10 + i)) r)) (fun i => pShake (gT S) (nI k) (nI (10 + i)) r) i) i (pShake (gT S) (nI k) (nI (10 + i)) r) := bMin_t (by simpa using h62)
              have e1 := e0.trans (stMin_n h71)
              exact x_mask [true, true, true, true, true, true, true, false] <| ih (i + 1) τ _ _ (by omega) (by rw [e1]; rfl) (by rw [e1]; rfl) (ms_fq hs hf1 (by decide) (by decide)) (fq_tr hf hf1)
set_option maxHeartbeats 4000000 in
set_option maxRecDepth 20000 in
theorem c_X5_wish {σ : xH} {K : Int32 → xH → Prop} {S : St} (hS : mS σ S) (hO : tOk (gT S)) (d a t : Int32) (hk : ∀ τ, mS τ (oWish S d a t).2 → K (oWish S d a t).1 τ) : Evi l (oM ad D cy) mX5_wish [.ref 0, .int d, .int a, .int t] σ K := by
  have hs := hS.1
  have h8 := ms_8 hs
  refine x_enter (ls := [some (.ref 0), some (.int d), some (.int a), some (.int t), none, none, none, none]) rfl ?_
  by_cases hc : vN (tN (gT S)) d ∧ vN 3 a ∧ vR (nI 0) (nI 9999) t
  · unfold oWish at hk
    rw [if_pos hc] at hk
    obtain ⟨d, hd, rfl⟩ := vN_of hc.1 (by omega)
    have hg := ms_g3 hs hd
    have h8d : d < 2 ^ 31 := by omega
    simp only [cn, nI_clamp h8d] at hk
    obtain ⟨r, hr, rfl⟩ := vN_of hc.2.1 (by decide)
    simp only [nI_clamp (show r < 2 ^ 31 by omega)] at hk
    obtain ⟨k, hk6, ek⟩ := hO.2.1 d hd
    obtain ⟨w, h10, h80, ew⟩ := hO.2.2.1 d hd
    rw [ek] at hk
    refine x_aload_n (i := 0) dX5_wish_0 rfl rfl ?_
    refine x_iload_n (i := 1) dX5_wish_1 rfl rfl ?_
    refine x_iload_n (i := 2) dX5_wish_2 rfl rfl ?_
    refine x_v2i dX5_wish_3 okX5_areBoth ml_X5_146 rfl rfl (Nat.le_of_ble_eq_true rfl) ⟨by decide, by decide⟩ (Nat.le_of_ble_eq_true rfl) (c_X5_areBoth hs _ _ ?_)
    refine x_ifeqP (tgt := 20) dX5_wish_6 rfl (fun h6 => ?_) (fun h6 => ?_)
    · exact absurd ⟨hc.1, hc.2.1⟩ h6
    · skip
      refine x_iload_n (i := 3) dX5_wish_9 rfl rfl ?_
      refine x_iconstN (n := 0) dX5_wish_10 ?_
      refine x_sipush (v := nI 9999) dX5_wish_11 (by decide) ?_
      refine x_s3i dX5_wish_14 okX5_in1 ml_X5_52 (Nat.le_of_ble_eq_true rfl) ⟨by decide, by decide⟩ (Nat.le_of_ble_eq_true rfl) (c_X5_in1 _ _ _ ?_)
      refine x_ifneP (tgt := 26) dX5_wish_17 rfl (fun h17 => ?_) (fun h17 => ?_)
      · skip
        refine x_iconst (v := -1) dX5_wish_26 (by decide) ?_
        refine y_istore (i := 4) (ls2 := [_, _, _, _, _, _, _, _]) dX5_wish_27 (by decide) rfl rfl ?_
        refine x_ldc (v := nI 99999) dX5_wish_29 kc_X5_165 ?_
        refine y_istore (i := 5) (ls2 := [_, _, _, _, _, _, _, _]) dX5_wish_31 (by decide) rfl rfl ?_
        refine x_bipush (v := nI 10) dX5_wish_33 (by decide) ?_
        refine y_istore (i := 6) (ls2 := [_, _, _, _, _, _, _, _]) dX5_wish_35 (by decide) rfl rfl ?_
        exact l_X5_wish hS hO hd hr hk6 ek t hk 71 0 σ _ _ rfl rfl rfl hs (fq_rf σ)
      · exact absurd hc.2.2 h17
  · unfold oWish at hk
    rw [if_neg hc] at hk
    refine x_aload_n (i := 0) dX5_wish_0 rfl rfl ?_
    refine x_iload_n (i := 1) dX5_wish_1 rfl rfl ?_
    refine x_iload_n (i := 2) dX5_wish_2 rfl rfl ?_
    refine x_v2i dX5_wish_3 okX5_areBoth ml_X5_146 rfl rfl (Nat.le_of_ble_eq_true rfl) ⟨by decide, by decide⟩ (Nat.le_of_ble_eq_true rfl) (c_X5_areBoth hs _ _ ?_)
    refine x_ifeqP (tgt := 20) dX5_wish_6 rfl (fun h6 => ?_) (fun h6 => ?_)
    · skip
      refine x_aload_n (i := 0) dX5_wish_20 rfl rfl ?_
      refine x_iconstN (n := 0) dX5_wish_21 ?_
      refine x_v1i dX5_wish_22 okX5_no ml_X5_118 rfl rfl (Nat.le_of_ble_eq_true rfl) ⟨by decide, by decide⟩ (Nat.le_of_ble_eq_true rfl) (c_X5_no hS 0 (by decide) (fun τ hτ => ?_))
      exact x_ireti dX5_wish_25 rfl (hk τ hτ)
    · skip
      refine x_iload_n (i := 3) dX5_wish_9 rfl rfl ?_
      refine x_iconstN (n := 0) dX5_wish_10 ?_
      refine x_sipush (v := nI 9999) dX5_wish_11 (by decide) ?_
      refine x_s3i dX5_wish_14 okX5_in1 ml_X5_52 (Nat.le_of_ble_eq_true rfl) ⟨by decide, by decide⟩ (Nat.le_of_ble_eq_true rfl) (c_X5_in1 _ _ _ ?_)
      refine x_ifneP (tgt := 26) dX5_wish_17 rfl (fun h17 => ?_) (fun h17 => ?_)
      · exact absurd ⟨h6.1, h6.2, h17⟩ hc
      · skip
        refine x_aload_n (i := 0) dX5_wish_20 rfl rfl ?_
        refine x_iconstN (n := 0) dX5_wish_21 ?_
        refine x_v1i dX5_wish_22 okX5_no ml_X5_118 rfl rfl (Nat.le_of_ble_eq_true rfl) ⟨by decide, by decide⟩ (Nat.le_of_ble_eq_true rfl) (c_X5_no hS 0 (by decide) (fun τ hτ => ?_))
        exact x_ireti dX5_wish_25 rfl (hk τ hτ)
set_option maxHeartbeats 4000000 in
set_option maxRecDepth 20000 in
theorem l_X5_drivesIn {K : Int32 → xH → Prop} {σ : xH} {T U : Tw} (hs : ms σ 1 U) (ha : ms σ 3 T) (hn : tN U = tN T) (p b y r : Int32) (hk : Ex l (oM ad D cy) mX5_drives 100 [some (.ref 0), some (.int p), some (.int b), some (.int y), some (.int r), some (.int (sDiff (tGo U) (tGo T) (tN T))), none] [] σ (xQi K)) : ∀ (n i : Nat) (s : Int32), i + n = tN T → (s = sDiff (tGo U) (tGo T) i) → Ex l (oM ad D cy) mX5_drives 49 [some (.ref 0), some (.int p), some (.int b), some (.int y), some (.int r), some (.int s), some (.int (nI i))] [] σ (xQi K) := by
  intro n
  induction n with
  | zero =>
    intro i s hi es
    have hi : i = tN T := by omega
    subst hi
    have h8 := ms_8 ha
    refine x_iload (i := 6) dX5_drives_49 rfl ?_
    refine x_aload_n (i := 0) dX5_drives_51 rfl rfl ?_
    refine x_getr (i := 0) dX5_drives_52 rfl rfl rfl (by decide) fl_X5_9 inX5 ?_
    refine x_iconstN (n := 2) dX5_drives_55 ?_
    refine x_ialdE dX5_drives_56 rfl (by omega) (by decide) ((ms_n hs).trans (congrArg nI hn)) ?_
    refine x_icgeN (tgt := 100) (by omega) (by omega) dX5_drives_57 rfl (fun h57 => ?_) (fun h57 => ?_)
    · skip
      subst es
      exact x_mask [true, true, true, true, true, true, false] <| hk
    · exact absurd h57 (by omega)
  | succ n ih =>
    intro i s hi es
    have h8 := ms_8 ha
    have hg1 := ms_g3 ha (d := i) (by omega)
    have hg2 := ms_g3 hs (d := i) (by omega)
    refine x_iload (i := 6) dX5_drives_49 rfl ?_
    refine x_aload_n (i := 0) dX5_drives_51 rfl rfl ?_
    refine x_getr (i := 0) dX5_drives_52 rfl rfl rfl (by decide) fl_X5_9 inX5 ?_
    refine x_iconstN (n := 2) dX5_drives_55 ?_
    refine x_ialdE dX5_drives_56 rfl (by omega) (by decide) ((ms_n hs).trans (congrArg nI hn)) ?_
    refine x_icgeN (tgt := 100) (by omega) (by omega) dX5_drives_57 rfl (fun h57 => ?_) (fun h57 => ?_)
    · exact absurd h57 (by omega)
    · skip
      refine x_iload (i := 5) dX5_drives_60 rfl ?_
      refine x_aload_n (i := 0) dX5_drives_62 rfl rfl ?_
      refine x_iload (i := 6) dX5_drives_63 rfl ?_
      refine x_iconstN (n := 2) dX5_drives_65 ?_
      refine x_v2i dX5_drives_66 okX5_get ml_X5_92 rfl rfl (Nat.le_of_ble_eq_true rfl) ⟨by decide, by decide⟩ (Nat.le_of_ble_eq_true rfl) (c_get2 hs (by omega) ?_)
      refine x_aload_n (i := 0) dX5_drives_69 rfl rfl ?_
      refine x_getr (i := 2) dX5_drives_70 rfl rfl rfl (by decide) fl_X5_16 inX5 ?_
      refine x_bipush (v := nI 123) dX5_drives_73 (by decide) ?_
      refine x_iconstN (n := 3) dX5_drives_75 ?_
      refine x_iload (i := 6) dX5_drives_76 rfl ?_
      refine x_imulN dX5_drives_78 ?_
      refine x_iaddN dX5_drives_79 ?_
      refine x_iconstN (n := 2) dX5_drives_80 ?_
      refine x_iaddN dX5_drives_81 ?_
      refine x_ialdE dX5_drives_82 rfl (by omega) (by decide) (ms_go ha (by omega)) ?_
      refine x_iceqN (tgt := 90) (by omega) (by omega) dX5_drives_83 rfl (fun h83 => ?_) (fun h83 => ?_)
      · skip
        refine x_iconstN (n := 0) dX5_drives_90 ?_
        refine x_iadd dX5_drives_91 ?_
        refine y_istore (i := 5) (ls2 := [_, _, _, _, _, _, _]) dX5_drives_92 (by decide) rfl rfl ?_
        refine y_iincN (i := 6) (ls2 := [_, _, _, _, _, _, _]) dX5_drives_94 rfl (by decide) rfl rfl ?_
        refine x_goto (tgt := 49) dX5_drives_97 rfl ?_
        exact ih (i + 1) _ (by omega) (by subst es; first | (rw [show sDiff (tGo U) (tGo T) (i + 1) = _ from if_pos h83, nI_0, Int32.add_zero]) | exact (if_neg h83).symm)
      · skip
        refine x_iconstN (n := 1) dX5_drives_86 ?_
        refine x_goto (tgt := 91) dX5_drives_87 rfl ?_
        refine x_iadd dX5_drives_91 ?_
        refine y_istore (i := 5) (ls2 := [_, _, _, _, _, _, _]) dX5_drives_92 (by decide) rfl rfl ?_
        refine y_iincN (i := 6) (ls2 := [_, _, _, _, _, _, _]) dX5_drives_94 rfl (by decide) rfl rfl ?_
        refine x_goto (tgt := 49) dX5_drives_97 rfl ?_
        exact ih (i + 1) _ (by omega) (by subst es; first | (rw [show sDiff (tGo U) (tGo T) (i + 1) = _ from if_pos h83, nI_0, Int32.add_zero]) | exact (if_neg h83).symm)
set_option maxHeartbeats 4000000 in
set_option maxRecDepth 20000 in
theorem l_X5_drives {K : Int32 → xH → Prop} {σ0 : xH} {S : St} (hS : mS σ0 S) (hO : tOk (gT S)) {p : Nat} (hp : p < 20) (hk : ∀ τ, mS τ S → K (nI (dB (gT S) p 3).1) τ) : ∀ (n i : Nat) (σ : xH) (b : Nat) (y : Int32), i + n = 3 → ((b, y) = dB (gT S) p i) → (ms σ 1 (gT S)) → (fh σ0 σ) → Ex l (oM ad D cy) mX5_drives 20 [some (.ref 0), some (.int (nI p)), some (.int (nI b)), some (.int y), some (.int (nI i)), none, none] [] σ (xQi K) := by
  intro n
  induction n with
  | zero =>
    intro i σ b y hi e hs hf
    have hi : i = 3 := by omega
    subst hi
    refine x_iload (i := 4) dX5_drives_20 rfl ?_
    refine x_iconstN (n := 3) dX5_drives_22 ?_
    refine x_icgeN (tgt := 136) (by omega) (by omega) dX5_drives_23 rfl (fun h23 => ?_) (fun h23 => ?_)
    · skip
      refine x_iload_n (i := 2) dX5_drives_136 rfl rfl ?_
      exact x_ireti dX5_drives_137 rfl (by rw [← e] at hk; exact hk σ (mS_h0 hS hf hs))
    · exact absurd h23 (by omega)
  | succ n ih =>
    intro i σ b y hi e hs hf
    have hO1 := lay_ok hO (i * 20 + p) (v := 1) (by omega)
    refine x_iload (i := 4) dX5_drives_20 rfl ?_
    refine x_iconstN (n := 3) dX5_drives_22 ?_
    refine x_icgeN (tgt := 136) (by omega) (by omega) dX5_drives_23 rfl (fun h23 => ?_) (fun h23 => ?_)
    · exact absurd h23 (by omega)
    · skip
      refine x_aload_n (i := 0) dX5_drives_26 rfl rfl ?_
      refine x_v0v dX5_drives_27 okX5_setsAside ml_X5_153 rfl rfl (Nat.le_of_ble_eq_true rfl) ⟨by decide, by decide⟩ (Nat.le_of_ble_eq_true rfl) (c_X5_setsAside (fun τ1 h1 hf1 => ?_))
      refine x_aload_n (i := 0) dX5_drives_30 rfl rfl ?_
      refine x_iload (i := 4) dX5_drives_31 rfl ?_
      refine x_iload_n (i := 1) dX5_drives_33 rfl rfl ?_
      refine x_iconstN (n := 1) dX5_drives_34 ?_
      refine x_v3v dX5_drives_35 okX5_lies ml_X5_121 rfl rfl (Nat.le_of_ble_eq_true rfl) ⟨by decide, by decide⟩ (Nat.le_of_ble_eq_true rfl) (c_X5_lies (ms_fc hs hf1) (by omega) hp _ (fun τ2 hs2 hf2 => ?_))
      refine x_aload_n (i := 0) dX5_drives_38 rfl rfl ?_
      refine x_iconstN (n := 1) dX5_drives_39 ?_
      refine x_v1v dX5_drives_40 okX5_goes ml_X5_150 rfl rfl (Nat.le_of_ble_eq_true rfl) ⟨by decide, by decide⟩ (Nat.le_of_ble_eq_true rfl) (c_X5_goes hO1 hs2 (m := 1) (by omega) (fun τ3 hs3 hf3 => ?_))
      refine x_iconstN (n := 0) dX5_drives_43 ?_
      refine y_istore (i := 5) (ls2 := [_, _, _, _, _, _, _]) dX5_drives_44 (by decide) rfl rfl ?_
      refine x_iconstN (n := 0) dX5_drives_46 ?_
      refine y_istore (i := 6) (ls2 := [_, _, _, _, _, _, _]) dX5_drives_47 (by decide) rfl rfl ?_
      have ha : ms τ3 3 (gT S) := ms_keep hs (fun j hj => by rw [hf3.2.1 3 (by omega) (by omega) (by omega), hf2.2.1 3 (by omega) (by omega) (by omega), h1 j hj])
      refine l_X5_drivesIn hs3 ha (daysM_n _ 1) _ _ _ _ ?_ (tN (gT S)) 0 _ (by omega) rfl
      refine x_aload_n (i := 0) dX5_drives_100 rfl rfl ?_
      refine x_v0v dX5_drives_101 okX5_laysBack ml_X5_156 rfl rfl (Nat.le_of_ble_eq_true rfl) ⟨by decide, by decide⟩ (Nat.le_of_ble_eq_true rfl) (c_X5_laysBack (fun ω h3 hf4 => ?_))
      refine x_iload (i := 5) dX5_drives_104 rfl ?_
      refine x_iload_n (i := 3) dX5_drives_106 rfl rfl ?_
      refine x_icle (tgt := 115) dX5_drives_107 rfl (fun h107 => ?_) (fun h107 => ?_)
      · skip
        refine x_iload_n (i := 2) dX5_drives_115 rfl rfl ?_
        refine y_istore_n (i := 2) (ls2 := [_, _, _, _, _, _, _]) dX5_drives_116 rfl (by decide) rfl rfl ?_
        skip
        refine x_iload (i := 5) dX5_drives_117 rfl ?_
        refine x_iload_n (i := 3) dX5_drives_119 rfl rfl ?_
        refine x_icle (tgt := 128) dX5_drives_120 rfl (fun h120 => ?_) (fun h120 => ?_)
        · skip
          refine x_iload_n (i := 3) dX5_drives_128 rfl rfl ?_
          refine y_istore_n (i := 3) (ls2 := [_, _, _, _, _, _, _]) dX5_drives_129 rfl (by decide) rfl rfl ?_
          refine y_iincN (i := 4) (ls2 := [_, _, _, _, _, _, _]) dX5_drives_130 rfl (by decide) rfl rfl ?_
          refine x_goto (tgt := 20) dX5_drives_133 rfl ?_
          exact x_mask [true, true, true, true, true, false, false] <| ih (i + 1) ω _ _ (by omega) (by rw [dB, daysC_eq hO1, ← e]; first | exact (if_pos h107).symm | exact (if_neg h107).symm) (ms_keep ha (fun j hj => h3 j hj)) (fh_tr hf (fh_tr (fc_fh hf1 (Or.inr rfl)) (fh_tr (fg_fh hf2) (fh_tr (fg_fh hf3) (fc_fh hf4 (Or.inl rfl))))))
        · exact absurd h107 h120
      · skip
        refine x_iload (i := 4) dX5_drives_110 rfl ?_
        refine x_goto (tgt := 116) dX5_drives_112 rfl ?_
        refine y_istore_n (i := 2) (ls2 := [_, _, _, _, _, _, _]) dX5_drives_116 rfl (by decide) rfl rfl ?_
        skip
        refine x_iload (i := 5) dX5_drives_117 rfl ?_
        refine x_iload_n (i := 3) dX5_drives_119 rfl rfl ?_
        refine x_icle (tgt := 128) dX5_drives_120 rfl (fun h120 => ?_) (fun h120 => ?_)
        · exact absurd h120 h107
        · skip
          refine x_iload (i := 5) dX5_drives_123 rfl ?_
          refine x_goto (tgt := 129) dX5_drives_125 rfl ?_
          refine y_istore_n (i := 3) (ls2 := [_, _, _, _, _, _, _]) dX5_drives_129 rfl (by decide) rfl rfl ?_
          refine y_iincN (i := 4) (ls2 := [_, _, _, _, _, _, _]) dX5_drives_130 rfl (by decide) rfl rfl ?_
          refine x_goto (tgt := 20) dX5_drives_133 rfl ?_
          exact x_mask [true, true, true, true, true, false, false] <| ih (i + 1) ω _ _ (by omega) (by rw [dB, daysC_eq hO1, ← e]; first | exact (if_pos h107).symm | exact (if_neg h107).symm) (ms_keep ha (fun j hj => h3 j hj)) (fh_tr hf (fh_tr (fc_fh hf1 (Or.inr rfl)) (fh_tr (fg_fh hf2) (fh_tr (fg_fh hf3) (fc_fh hf4 (Or.inl rfl))))))
set_option maxHeartbeats 4000000 in
set_option maxRecDepth 20000 in
theorem c_X5_drives {σ : xH} {K : Int32 → xH → Prop} {S : St} (hS : mS σ S) (hO : tOk (gT S)) (p : Int32) (hk : ∀ τ, mS τ (oDrives S p).2 → K (oDrives S p).1 τ) : Evi l (oM ad D cy) mX5_drives [.ref 0, .int p] σ K := by
  have hs := hS.1
  have h8 := ms_8 hs
  refine x_enter (ls := [some (.ref 0), some (.int p), none, none, none, none, none]) rfl ?_
  by_cases hc : vR (nI 0) (nI 19) p
  · unfold oDrives at hk
    rw [if_pos hc] at hk
    have hc0 := hc
    obtain ⟨p, hp0, hp, rfl⟩ := vR_of hc (by decide) (by decide)
    simp only [cn, nI_clamp (show p < 2 ^ 31 by omega)] at hk
    refine x_iload_n (i := 1) dX5_drives_0 rfl rfl ?_
    refine x_s1i dX5_drives_1 okX5_isStretch ml_X5_115 (Nat.le_of_ble_eq_true rfl) ⟨by decide, by decide⟩ (Nat.le_of_ble_eq_true rfl) (c_X5_isStretch _ ?_)
    refine x_ifneP (tgt := 13) dX5_drives_4 rfl (fun h4 => ?_) (fun h4 => ?_)
    · skip
      refine x_iconstN (n := 0) dX5_drives_13 ?_
      refine y_istore_n (i := 2) (ls2 := [_, _, _, _, _, _, _]) dX5_drives_14 rfl (by decide) rfl rfl ?_
      refine x_iconst (v := -1) dX5_drives_15 (by decide) ?_
      refine y_istore_n (i := 3) (ls2 := [_, _, _, _, _, _, _]) dX5_drives_16 rfl (by decide) rfl rfl ?_
      refine x_iconstN (n := 0) dX5_drives_17 ?_
      refine y_istore (i := 4) (ls2 := [_, _, _, _, _, _, _]) dX5_drives_18 (by decide) rfl rfl ?_
      exact l_X5_drives hS hO (by omega) hk 3 0 σ 0 _ rfl rfl hs (fh_rf σ)
    · exact absurd ((vR_vN (by decide)).mp hc) h4
  · unfold oDrives at hk
    rw [if_neg hc] at hk
    refine x_iload_n (i := 1) dX5_drives_0 rfl rfl ?_
    refine x_s1i dX5_drives_1 okX5_isStretch ml_X5_115 (Nat.le_of_ble_eq_true rfl) ⟨by decide, by decide⟩ (Nat.le_of_ble_eq_true rfl) (c_X5_isStretch _ ?_)
    refine x_ifneP (tgt := 13) dX5_drives_4 rfl (fun h4 => ?_) (fun h4 => ?_)
    · exact absurd ((vR_vN (n := 19) (by decide)).mpr h4) hc
    · skip
      refine x_aload_n (i := 0) dX5_drives_7 rfl rfl ?_
      refine x_iconstN (n := 0) dX5_drives_8 ?_
      refine x_v1i dX5_drives_9 okX5_no ml_X5_118 rfl rfl (Nat.le_of_ble_eq_true rfl) ⟨by decide, by decide⟩ (Nat.le_of_ble_eq_true rfl) (c_X5_no hS 0 (by decide) (fun τ hτ => ?_))
      exact x_ireti dX5_drives_12 rfl (hk τ hτ)
theorem ge_m1 {T : Tw} (hO : tOk T) {d : Nat} (hd : d < tN T) : ¬ sSum (fun r => pTime T (tKd T d) (tWs T d) r) 3 ≤ -1 := by
  obtain ⟨k, hk6, ek⟩ := hO.2.1 d hd
  obtain ⟨w, h10, h80, ew⟩ := hO.2.2.1 d hd
  obtain ⟨a, ha, ea⟩ := pTime_rng hO hk6 h10 h80 (r := 0) (by omega)
  obtain ⟨b, hb, eb⟩ := pTime_rng hO hk6 h10 h80 (r := 1) (by omega)
  obtain ⟨c, hc, ec⟩ := pTime_rng hO hk6 h10 h80 (r := 2) (by omega)
  rw [sum3, ek, ew, ea, eb, ec, nI_add, nI_add]
  intro z
  rw [Int32.le_iff_toInt_le, nI_toInt (by omega), show (-1 : Int32).toInt = -1 by decide] at z
  omega
set_option maxHeartbeats 4000000 in
set_option maxRecDepth 20000 in
theorem l_X5_slowest {K : Int32 → xH → Prop} {σ0 : xH} {S : St} (hS : mS σ0 S) (hO : tOk (gT S)) (hk : ∀ τ, mS τ (bR S (bMax (fun d => sSum (fun r => pTime (gT S) (tKd (gT S) d) (tWs (gT S) d) r) 3) (tN (gT S)))).2 → K (bR S (bMax (fun d => sSum (fun r => pTime (gT S) (tKd (gT S) d) (tWs (gT S) d) r) 3) (tN (gT S)))).1 τ) : ∀ (n i : Nat) (σ : xH) (b : Int32) (y : Int32), i + n = tN (gT S) → (b = bI (bMax (fun d => sSum (fun r => pTime (gT S) (tKd (gT S) d) (tWs (gT S) d) r) 3) i)) → (y = bL (-1) (bMax (fun d => sSum (fun r => pTime (gT S) (tKd (gT S) d) (tWs (gT S) d) r) 3) i)) → (ms σ 1 (gT S)) → (fq σ0 σ) → Ex l (oM ad D cy) mX5_slowest 6 [some (.ref 0), some (.int b), some (.int y), some (.int (nI i)), none] [] σ (xQi K) := by
  intro n
  induction n with
  | zero =>
    intro i σ b y hi eb ey hs hf
    have hi : i = tN (gT S) := by omega
    subst hi
    have h8 := hO.1
    refine x_iload_n (i := 3) dX5_slowest_6 rfl rfl ?_
    refine x_aload_n (i := 0) dX5_slowest_7 rfl rfl ?_
    refine x_getr (i := 0) dX5_slowest_8 rfl rfl rfl (by decide) fl_X5_9 inX5 ?_
    refine x_iconstN (n := 2) dX5_slowest_11 ?_
    refine x_ialdE dX5_slowest_12 rfl (by omega) (by decide) (ms_n hs) ?_
    refine x_icgeN (tgt := 69) (by omega) (by omega) dX5_slowest_13 rfl (fun h13 => ?_) (fun h13 => ?_)
    · skip
      refine x_iload_n (i := 1) dX5_slowest_69 rfl rfl ?_
      refine x_ifge (tgt := 81) dX5_slowest_70 rfl (fun h70 => ?_) (fun h70 => ?_)
      · skip
        refine x_iload_n (i := 1) dX5_slowest_81 rfl rfl ?_
        exact x_ireti dX5_slowest_82 rfl (by subst eb; first | (rw [bR_some h70] at hk; exact hk σ (mS_q hS hf)) | (rw [bR_none h70 (fun b w h => by have := bMax_b _ _ b w h; omega)] at hk; exact hk τ hτ))
      · skip
        refine x_aload_n (i := 0) dX5_slowest_73 rfl rfl ?_
        refine x_iconstN (n := 3) dX5_slowest_74 ?_
        refine x_v1i dX5_slowest_75 okX5_no ml_X5_118 rfl rfl (Nat.le_of_ble_eq_true rfl) ⟨by decide, by decide⟩ (Nat.le_of_ble_eq_true rfl) (c_X5_no (mS_q hS hf) 3 (by decide) (fun τ hτ => ?_))
        refine x_goto (tgt := 82) dX5_slowest_78 rfl ?_
        exact x_ireti dX5_slowest_82 rfl (by subst eb; first | (rw [bR_some h70] at hk; exact hk σ (mS_q hS hf)) | (rw [bR_none h70 (fun b w h => by have := bMax_b _ _ b w h; omega)] at hk; exact hk τ hτ))
    · exact absurd h13 (by omega)
  | succ n ih =>
    intro i σ b y hi eb ey hs hf
    have h8 := hO.1
    subst eb
    subst ey
    have hv := ge_m1 hO (d := i) (by omega)
    refine x_iload_n (i := 3) dX5_slowest_6 rfl rfl ?_
    refine x_aload_n (i := 0) dX5_slowest_7 rfl rfl ?_
    refine x_getr (i := 0) dX5_slowest_8 rfl rfl rfl (by decide) fl_X5_9 inX5 ?_
    refine x_iconstN (n := 2) dX5_slowest_11 ?_
    refine x_ialdE dX5_slowest_12 rfl (by omega) (by decide) (ms_n hs) ?_
    refine x_icgeN (tgt := 69) (by omega) (by omega) dX5_slowest_13 rfl (fun h13 => ?_) (fun h13 => ?_)
    · exact absurd h13 (by omega)
    · skip
      refine x_aload_n (i := 0) dX5_slowest_16 rfl rfl ?_
      refine x_iload_n (i := 3) dX5_slowest_17 rfl rfl ?_
      refine x_iconstN (n := 0) dX5_slowest_18 ?_
      refine x_v2i dX5_slowest_19 okX5_tookBy ml_X5_102 rfl rfl (Nat.le_of_ble_eq_true rfl) ⟨by decide, by decide⟩ (Nat.le_of_ble_eq_true rfl) (c_X5_tookBy hO hs (by omega) (by omega) (fun τ1 hf1 => ?_))
      refine x_aload_n (i := 0) dX5_slowest_22 rfl rfl ?_
      refine x_iload_n (i := 3) dX5_slowest_23 rfl rfl ?_
      refine x_iconstN (n := 1) dX5_slowest_24 ?_
      have hs1 := ms_fq hs hf1 (by decide) (by decide)
      refine x_v2i dX5_slowest_25 okX5_tookBy ml_X5_102 rfl rfl (Nat.le_of_ble_eq_true rfl) ⟨by decide, by decide⟩ (Nat.le_of_ble_eq_true rfl) (c_X5_tookBy hO hs1 (by omega) (by omega) (fun τ2 hf2 => ?_))
      refine x_iadd dX5_slowest_28 ?_
      refine x_aload_n (i := 0) dX5_slowest_29 rfl rfl ?_
      refine x_iload_n (i := 3) dX5_slowest_30 rfl rfl ?_
      refine x_iconstN (n := 2) dX5_slowest_31 ?_
      refine x_v2i dX5_slowest_32 okX5_tookBy ml_X5_102 rfl rfl (Nat.le_of_ble_eq_true rfl) ⟨by decide, by decide⟩ (Nat.le_of_ble_eq_true rfl) (c_X5_tookBy hO (ms_fq hs1 hf2 (by decide) (by decide)) (by omega) (by omega) (fun τ3 hf3 => ?_))
      refine x_iadd dX5_slowest_35 ?_
      refine x_top (sum3 (fun r => pTime (gT S) (tKd (gT S) i) (tWs (gT S) i) r)).symm ?_
      refine y_istore (i := 4) (ls2 := [_, _, _, _, _]) dX5_slowest_36 (by decide) rfl rfl ?_
      refine x_iload (i := 4) dX5_slowest_38 rfl ?_
      refine x_iload_n (i := 2) dX5_slowest_40 rfl rfl ?_
      refine x_icle (tgt := 48) dX5_slowest_41 rfl (fun h41 => ?_) (fun h41 => ?_)
      · skip
        refine x_iload_n (i := 1) dX5_slowest_48 rfl rfl ?_
        refine y_istore_n (i := 1) (ls2 := [_, _, _, _, _]) dX5_slowest_49 rfl (by decide) rfl rfl ?_
        skip
        refine x_iload (i := 4) dX5_slowest_50 rfl ?_
        refine x_iload_n (i := 2) dX5_slowest_52 rfl rfl ?_
        refine x_icle (tgt := 61) dX5_slowest_53 rfl (fun h53 => ?_) (fun h53 => ?_)
        · skip
          refine x_iload_n (i := 2) dX5_slowest_61 rfl rfl ?_
          refine y_istore_n (i := 2) (ls2 := [_, _, _, _, _]) dX5_slowest_62 rfl (by decide) rfl rfl ?_
          refine y_iincN (i := 3) (ls2 := [_, _, _, _, _]) dX5_slowest_63 rfl (by decide) rfl rfl ?_
          refine x_goto (tgt := 6) dX5_slowest_66 rfl ?_
          have e0 : bMax (fun d => sSum (fun r => pTime (gT S) (tKd (gT S) d) (tWs (gT S) d) r) 3) (i + 1) = stMax (bMax (fun d => sSum (fun r => pTime (gT S) (tKd (gT S) d) (tWs (gT S) d) r) 3) i) i ((fun d => sSum (fun r => pTime (gT S) (tKd (gT S) d) (tWs (gT S) d) r) 3) i) := rfl
          have e1 := e0.trans (stMax_k hv h41)
          exact x_mask [true, true, true, true, false] <| ih (i + 1) τ3 _ _ (by omega) (by rw [e1]) (by rw [e1]) (ms_fq (ms_fq hs1 hf2 (by decide) (by decide)) hf3 (by decide) (by decide)) (fq_tr hf (fq_tr hf1 (fq_tr hf2 hf3)))
        · exact absurd h41 h53
      · skip
        refine x_iload_n (i := 3) dX5_slowest_44 rfl rfl ?_
        refine x_goto (tgt := 49) dX5_slowest_45 rfl ?_
        refine y_istore_n (i := 1) (ls2 := [_, _, _, _, _]) dX5_slowest_49 rfl (by decide) rfl rfl ?_
        skip
        refine x_iload (i := 4) dX5_slowest_50 rfl ?_
        refine x_iload_n (i := 2) dX5_slowest_52 rfl rfl ?_
        refine x_icle (tgt := 61) dX5_slowest_53 rfl (fun h53 => ?_) (fun h53 => ?_)
        · exact absurd h53 h41
        · skip
          refine x_iload (i := 4) dX5_slowest_56 rfl ?_
          refine x_goto (tgt := 62) dX5_slowest_58 rfl ?_
          refine y_istore_n (i := 2) (ls2 := [_, _, _, _, _]) dX5_slowest_62 rfl (by decide) rfl rfl ?_
          refine y_iincN (i := 3) (ls2 := [_, _, _, _, _]) dX5_slowest_63 rfl (by decide) rfl rfl ?_
          refine x_goto (tgt := 6) dX5_slowest_66 rfl ?_
          have e0 : bMax (fun d => sSum (fun r => pTime (gT S) (tKd (gT S) d) (tWs (gT S) d) r) 3) (i + 1) = stMax (bMax (fun d => sSum (fun r => pTime (gT S) (tKd (gT S) d) (tWs (gT S) d) r) 3) i) i ((fun d => sSum (fun r => pTime (gT S) (tKd (gT S) d) (tWs (gT S) d) r) 3) i) := rfl
          have e1 := e0.trans (stMax_n h41)
          exact x_mask [true, true, true, true, false] <| ih (i + 1) τ3 _ _ (by omega) (by rw [e1]; rfl) (by rw [e1]; rfl) (ms_fq (ms_fq hs1 hf2 (by decide) (by decide)) hf3 (by decide) (by decide)) (fq_tr hf (fq_tr hf1 (fq_tr hf2 hf3)))
set_option maxHeartbeats 4000000 in
set_option maxRecDepth 20000 in
theorem c_X5_slowest {σ : xH} {K : Int32 → xH → Prop} {S : St} (hS : mS σ S) (hO : tOk (gT S))  (hk : ∀ τ, mS τ (oSlowest S).2 → K (oSlowest S).1 τ) : Evi l (oM ad D cy) mX5_slowest [.ref 0] σ K := by
  have hs := hS.1
  have h8 := ms_8 hs
  refine x_enter (ls := [some (.ref 0), none, none, none, none]) rfl ?_
  unfold oSlowest at hk
  refine x_iconst (v := -1) dX5_slowest_0 (by decide) ?_
  refine y_istore_n (i := 1) (ls2 := [_, _, _, _, _]) dX5_slowest_1 rfl (by decide) rfl rfl ?_
  refine x_iconst (v := -1) dX5_slowest_2 (by decide) ?_
  refine y_istore_n (i := 2) (ls2 := [_, _, _, _, _]) dX5_slowest_3 rfl (by decide) rfl rfl ?_
  refine x_iconstN (n := 0) dX5_slowest_4 ?_
  refine y_istore_n (i := 3) (ls2 := [_, _, _, _, _]) dX5_slowest_5 rfl (by decide) rfl rfl ?_
  exact l_X5_slowest hS hO hk (tN (gT S)) 0 σ _ _ (by omega) rfl rfl hs (fq_rf σ)
end
