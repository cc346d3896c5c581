section
variable {l : Launch} {ad : Nat → Nat} {D : va_G} {cy : Nat → ClassId}
set_option maxHeartbeats 4000000 in
set_option maxRecDepth 20000 in
theorem c_X4_tell {σ : xH} {K : Int32 → xH → Prop} {S : St} (hS : cS σ S) {f : Int32} (k : Nat) (hk7 : k < 7) (e : -1000000001 - f = nI k) (e2 : f = fnd k) (hk : ∀ τ, cS τ (tellS S k).2 → K (tellS S k).1 τ) : Evi l (oC ad D cy) mX4_tell [.ref 0, .int f] σ K := by
  refine x_enter (ls := [some (.ref 0), some (.int f), none]) rfl ?_
  refine x_ldc (v := -1000000001) dX4_tell_0 kc_X4_52 ?_
  refine x_iload_n (i := 1) dX4_tell_2 rfl rfl ?_
  refine x_isub dX4_tell_3 ?_
  refine x_top e ?_
  refine y_istore_n (i := 2) (ls2 := [_, _, _]) dX4_tell_4 rfl (by decide) rfl rfl ?_
  refine x_iload_n (i := 2) dX4_tell_5 rfl rfl ?_
  refine x_iconstN (n := 0) dX4_tell_6 ?_
  refine x_bipush (v := nI 6) dX4_tell_7 (by decide) ?_
  refine x_s3i dX4_tell_9 okX4_isWithin ml_X4_48 (Nat.le_of_ble_eq_true rfl) ⟨by decide, by decide⟩ (Nat.le_of_ble_eq_true rfl) (c_X4_isWithin _ _ _ ?_)
  refine x_ifeqP (tgt := 25) dX4_tell_12 rfl (fun h12 => ?_) (fun h12 => ?_)
  · exact absurd (show vR (nI 0) (nI 6) (nI k) from vR_nI (by omega) (by omega) (by decide)) h12
  · skip
    refine x_aload_n (i := 0) dX4_tell_15 rfl rfl ?_
    refine x_getr (i := 5) dX4_tell_16 rfl rfl rfl (by decide) fl_X4_36 inX4 ?_
    refine x_iload_n (i := 2) dX4_tell_19 rfl rfl ?_
    refine x_dup2 dX4_tell_20 rfl rfl ?_
    refine x_ialdE dX4_tell_21 rfl (by omega) (by decide) (hS.2.2.2.2.2.2.2 k hk7) ?_
    refine x_iconstN (n := 1) dX4_tell_22 ?_
    refine x_iadd dX4_tell_23 ?_
    refine x_iastN dX4_tell_24 rfl (by omega) (by decide) ?_
    refine x_iload_n (i := 1) dX4_tell_25 rfl rfl ?_
    exact x_ireti dX4_tell_26 rfl (e2 ▸ hk _ (cS_tell hS hk7))
set_option maxHeartbeats 4000000 in
set_option maxRecDepth 20000 in
theorem c_X4_thing {σ : xH} {K : Int32 → xH → Prop} {S : St} (hS : cS σ S) (a b v : Int32) (hk : ∀ τ, cS τ (oThing S a b v).2 → K (oThing S a b v).1 τ) : Evi l (oC ad D cy) mX4_thing [.ref 0, .int a, .int b, .int v] σ K := by
  have hw := hS.1
  have h8 := tw_8 hw
  refine x_enter (ls := [some (.ref 0), some (.int a), some (.int b), some (.int v), none]) rfl ?_
  by_cases hc : (vN 3 a ∧ vN 20 b) ∧ vR (nI 0) (nI 4) v
  · unfold oThing at hk
    rw [if_pos hc] at hk
    obtain ⟨r, hr, rfl⟩ := vN_of hc.1.1 (by decide)
    obtain ⟨i, hi, rfl⟩ := vN_of hc.1.2 (by decide)
    simp only [cn, nI_clamp (show r < 2 ^ 31 by omega), nI_clamp (show i < 2 ^ 31 by omega)] at hk
    refine x_iload_n (i := 1) dX4_thing_0 rfl rfl ?_
    refine x_iload_n (i := 2) dX4_thing_1 rfl rfl ?_
    refine x_s2i dX4_thing_2 okX4_isStretch ml_X4_44 (Nat.le_of_ble_eq_true rfl) ⟨by decide, by decide⟩ (Nat.le_of_ble_eq_true rfl) (c_X4_isStretch _ _ ?_)
    refine x_ifeqP (tgt := 17) dX4_thing_5 rfl (fun h5 => ?_) (fun h5 => ?_)
    · exact absurd hc.1 h5
    · skip
      refine x_iload_n (i := 3) dX4_thing_8 rfl rfl ?_
      refine x_iconstN (n := 0) dX4_thing_9 ?_
      refine x_iconstN (n := 4) dX4_thing_10 ?_
      refine x_s3i dX4_thing_11 okX4_isWithin ml_X4_48 (Nat.le_of_ble_eq_true rfl) ⟨by decide, by decide⟩ (Nat.le_of_ble_eq_true rfl) (c_X4_isWithin _ _ _ ?_)
      refine x_ifneP (tgt := 24) dX4_thing_14 rfl (fun h14 => ?_) (fun h14 => ?_)
      · skip
        refine x_aload_n (i := 0) dX4_thing_24 rfl rfl ?_
        refine x_getr (i := 0) dX4_thing_25 rfl rfl rfl (by decide) fl_X4_10 inX4 ?_
        refine x_getr (i := 3) dX4_thing_28 (sT0 isT1) rfl rfl (by decide) fl_X4_57 inX3 ?_
        refine x_iload_n (i := 1) dX4_thing_31 rfl rfl ?_
        refine x_iload_n (i := 2) dX4_thing_32 rfl rfl ?_
        refine x_s2i dX4_thing_33 okX4_placeOf ml_X4_60 (Nat.le_of_ble_eq_true rfl) ⟨by decide, by decide⟩ (Nat.le_of_ble_eq_true rfl) (c_X4_placeOf _ _ ?_)
        refine x_ialdE dX4_thing_36 (sT1 isT1) (by omega) (by decide) (tw_th hw (by omega)) ?_
        refine y_istore (i := 4) (ls2 := [_, _, _, _, _]) dX4_thing_37 (by decide) rfl rfl ?_
        refine x_aload_n (i := 0) dX4_thing_39 rfl rfl ?_
        refine x_getr (i := 0) dX4_thing_40 rfl rfl rfl (by decide) fl_X4_10 inX4 ?_
        refine x_iload_n (i := 1) dX4_thing_43 rfl rfl ?_
        refine x_iload_n (i := 2) dX4_thing_44 rfl rfl ?_
        refine x_iload_n (i := 3) dX4_thing_45 rfl rfl ?_
        refine x_v3v dX4_thing_46 okX3_lay ml_X4_64 (sT0 isT1) rfl (Nat.le_of_ble_eq_true rfl) ⟨by decide, by decide⟩ (Nat.le_of_ble_eq_true rfl) (c_X3_lay isT1 hw hr hi _ (fun τ hw1 hf1 => ?_))
        refine x_iload (i := 4) dX4_thing_49 rfl ?_
        exact x_ireti dX4_thing_51 rfl (hk τ (cS_1 hS hf1 hw1))
      · exact absurd hc.2 h14
  · unfold oThing at hk
    rw [if_neg hc] at hk
    refine x_iload_n (i := 1) dX4_thing_0 rfl rfl ?_
    refine x_iload_n (i := 2) dX4_thing_1 rfl rfl ?_
    refine x_s2i dX4_thing_2 okX4_isStretch ml_X4_44 (Nat.le_of_ble_eq_true rfl) ⟨by decide, by decide⟩ (Nat.le_of_ble_eq_true rfl) (c_X4_isStretch _ _ ?_)
    refine x_ifeqP (tgt := 17) dX4_thing_5 rfl (fun h5 => ?_) (fun h5 => ?_)
    · skip
      refine x_aload_n (i := 0) dX4_thing_17 rfl rfl ?_
      refine x_ldc (v := -1000000001) dX4_thing_18 kc_X4_52 ?_
      refine x_v1i dX4_thing_20 okX4_tell ml_X4_53 rfl rfl (Nat.le_of_ble_eq_true rfl) ⟨by decide, by decide⟩ (Nat.le_of_ble_eq_true rfl) (c_X4_tell hS 0 (by decide) (by decide) (by decide) (fun τ hτ => ?_))
      exact x_ireti dX4_thing_23 rfl (hk τ hτ)
    · skip
      refine x_iload_n (i := 3) dX4_thing_8 rfl rfl ?_
      refine x_iconstN (n := 0) dX4_thing_9 ?_
      refine x_iconstN (n := 4) dX4_thing_10 ?_
      refine x_s3i dX4_thing_11 okX4_isWithin ml_X4_48 (Nat.le_of_ble_eq_true rfl) ⟨by decide, by decide⟩ (Nat.le_of_ble_eq_true rfl) (c_X4_isWithin _ _ _ ?_)
      refine x_ifneP (tgt := 24) dX4_thing_14 rfl (fun h14 => ?_) (fun h14 => ?_)
      · exact absurd ⟨h5, h14⟩ hc
      · skip
        refine x_aload_n (i := 0) dX4_thing_17 rfl rfl ?_
        refine x_ldc (v := -1000000001) dX4_thing_18 kc_X4_52 ?_
        refine x_v1i dX4_thing_20 okX4_tell ml_X4_53 rfl rfl (Nat.le_of_ble_eq_true rfl) ⟨by decide, by decide⟩ (Nat.le_of_ble_eq_true rfl) (c_X4_tell hS 0 (by decide) (by decide) (by decide) (fun τ hτ => ?_))
        exact x_ireti dX4_thing_23 rfl (hk τ hτ)
set_option maxHeartbeats 4000000 in
set_option maxRecDepth 20000 in
theorem c_X4_stretch {σ : xH} {K : Int32 → xH → Prop} {S : St} (hS : cS σ S) (a b c : Int32) (hk : ∀ τ, cS τ (oStretch S a b c).2 → K (oStretch S a b c).1 τ) : Evi l (oC ad D cy) mX4_stretch [.ref 0, .int a, .int b, .int c] σ K := by
  have hw := hS.1
  have h8 := tw_8 hw
  refine x_enter (ls := [some (.ref 0), some (.int a), some (.int b), some (.int c), none]) rfl ?_
  by_cases hc : (vN 3 a ∧ vN 20 b) ∧ vR (nI 0) (nI 1) c
  · unfold oStretch at hk
    rw [if_pos hc] at hk
    obtain ⟨r, hr, rfl⟩ := vN_of hc.1.1 (by decide)
    obtain ⟨i, hi, rfl⟩ := vN_of hc.1.2 (by decide)
    simp only [cn, nI_clamp (show r < 2 ^ 31 by omega), nI_clamp (show i < 2 ^ 31 by omega)] at hk
    refine x_iload_n (i := 1) dX4_stretch_0 rfl rfl ?_
    refine x_iload_n (i := 2) dX4_stretch_1 rfl rfl ?_
    refine x_s2i dX4_stretch_2 okX4_isStretch ml_X4_44 (Nat.le_of_ble_eq_true rfl) ⟨by decide, by decide⟩ (Nat.le_of_ble_eq_true rfl) (c_X4_isStretch _ _ ?_)
    refine x_ifeqP (tgt := 17) dX4_stretch_5 rfl (fun h5 => ?_) (fun h5 => ?_)
    · exact absurd hc.1 h5
    · skip
      refine x_iload_n (i := 3) dX4_stretch_8 rfl rfl ?_
      refine x_iconstN (n := 0) dX4_stretch_9 ?_
      refine x_iconstN (n := 1) dX4_stretch_10 ?_
      refine x_s3i dX4_stretch_11 okX4_isWithin ml_X4_48 (Nat.le_of_ble_eq_true rfl) ⟨by decide, by decide⟩ (Nat.le_of_ble_eq_true rfl) (c_X4_isWithin _ _ _ ?_)
      refine x_ifneP (tgt := 24) dX4_stretch_14 rfl (fun h14 => ?_) (fun h14 => ?_)
      · skip
        refine x_iload_n (i := 1) dX4_stretch_24 rfl rfl ?_
        refine x_iload_n (i := 2) dX4_stretch_25 rfl rfl ?_
        refine x_s2i dX4_stretch_26 okX4_placeOf ml_X4_60 (Nat.le_of_ble_eq_true rfl) ⟨by decide, by decide⟩ (Nat.le_of_ble_eq_true rfl) (c_X4_placeOf _ _ ?_)
        refine y_istore (i := 4) (ls2 := [_, _, _, _, _]) dX4_stretch_29 (by decide) rfl rfl ?_
        refine x_iload_n (i := 3) dX4_stretch_31 rfl rfl ?_
        refine x_ifne (tgt := 48) dX4_stretch_32 rfl (fun h32 => ?_) (fun h32 => ?_)
        · skip
          refine x_aload_n (i := 0) dX4_stretch_48 rfl rfl ?_
          refine x_getr (i := 0) dX4_stretch_49 rfl rfl rfl (by decide) fl_X4_10 inX4 ?_
          refine x_getr (i := 4) dX4_stretch_52 (sT0 isT1) rfl rfl (by decide) fl_X4_68 inX3 ?_
          refine x_iload (i := 4) dX4_stretch_55 rfl ?_
          refine x_ialdE dX4_stretch_57 (sT2 isT1) (by omega) (by decide) (tw_ag hw (by omega)) ?_
          exact x_ireti dX4_stretch_58 rfl (by first | (rw [if_pos h32] at hk; exact hk σ hS) | (rw [if_neg h32] at hk; exact hk σ hS))
        · skip
          refine x_aload_n (i := 0) dX4_stretch_35 rfl rfl ?_
          refine x_getr (i := 0) dX4_stretch_36 rfl rfl rfl (by decide) fl_X4_10 inX4 ?_
          refine x_getr (i := 3) dX4_stretch_39 (sT0 isT1) rfl rfl (by decide) fl_X4_57 inX3 ?_
          refine x_iload (i := 4) dX4_stretch_42 rfl ?_
          refine x_ialdE dX4_stretch_44 (sT1 isT1) (by omega) (by decide) (tw_th hw (by omega)) ?_
          refine x_goto (tgt := 58) dX4_stretch_45 rfl ?_
          exact x_ireti dX4_stretch_58 rfl (by first | (rw [if_pos h32] at hk; exact hk σ hS) | (rw [if_neg h32] at hk; exact hk σ hS))
      · exact absurd hc.2 h14
  · unfold oStretch at hk
    rw [if_neg hc] at hk
    refine x_iload_n (i := 1) dX4_stretch_0 rfl rfl ?_
    refine x_iload_n (i := 2) dX4_stretch_1 rfl rfl ?_
    refine x_s2i dX4_stretch_2 okX4_isStretch ml_X4_44 (Nat.le_of_ble_eq_true rfl) ⟨by decide, by decide⟩ (Nat.le_of_ble_eq_true rfl) (c_X4_isStretch _ _ ?_)
    refine x_ifeqP (tgt := 17) dX4_stretch_5 rfl (fun h5 => ?_) (fun h5 => ?_)
    · skip
      refine x_aload_n (i := 0) dX4_stretch_17 rfl rfl ?_
      refine x_ldc (v := -1000000001) dX4_stretch_18 kc_X4_52 ?_
      refine x_v1i dX4_stretch_20 okX4_tell ml_X4_53 rfl rfl (Nat.le_of_ble_eq_true rfl) ⟨by decide, by decide⟩ (Nat.le_of_ble_eq_true rfl) (c_X4_tell hS 0 (by decide) (by decide) (by decide) (fun τ hτ => ?_))
      exact x_ireti dX4_stretch_23 rfl (hk τ hτ)
    · skip
      refine x_iload_n (i := 3) dX4_stretch_8 rfl rfl ?_
      refine x_iconstN (n := 0) dX4_stretch_9 ?_
      refine x_iconstN (n := 1) dX4_stretch_10 ?_
      refine x_s3i dX4_stretch_11 okX4_isWithin ml_X4_48 (Nat.le_of_ble_eq_true rfl) ⟨by decide, by decide⟩ (Nat.le_of_ble_eq_true rfl) (c_X4_isWithin _ _ _ ?_)
      refine x_ifneP (tgt := 24) dX4_stretch_14 rfl (fun h14 => ?_) (fun h14 => ?_)
      · exact absurd ⟨h5, h14⟩ hc
      · skip
        refine x_aload_n (i := 0) dX4_stretch_17 rfl rfl ?_
        refine x_ldc (v := -1000000001) dX4_stretch_18 kc_X4_52 ?_
        refine x_v1i dX4_stretch_20 okX4_tell ml_X4_53 rfl rfl (Nat.le_of_ble_eq_true rfl) ⟨by decide, by decide⟩ (Nat.le_of_ble_eq_true rfl) (c_X4_tell hS 0 (by decide) (by decide) (by decide) (fun τ hτ => ?_))
        exact x_ireti dX4_stretch_23 rfl (hk τ hτ)
theorem tw_setIn {σ : xH} {t : Nat} {T : Tw} (h : tw σ t T) (v : Int32) : tw (xpi σ t 1 v) t (setIn T v) := by
  obtain ⟨h1, h2, h3, h4, h5, h6, h7, h8, h9, h10⟩ := h
  exact ⟨by simpa [xui, upd, tDay, setIn] using h1, by simp [xui, upd, setIn], by simpa [xui, upd, tN, setIn] using h3, fun j hj => by simpa [tTh, setIn, xui] using h4 j hj, fun j hj => by simpa [tAg, setIn, xui] using h5 j hj, fun d hd => by simpa [tKd, tN, setIn, xui] using h6 d hd, fun d hd => by simpa [tWs, tN, setIn, xui] using h7 d hd, fun d hd => by simpa [tGo, tN, setIn, xui] using h8 d hd, h9, h10⟩
theorem tw_setKd {σ : xH} {t : Nat} {T : Tw} (h : tw σ t T) (d : Nat) (v : Int32) : tw (xpi σ (t + 3) d v) t (setKd T d v) := by
  obtain ⟨h1, h2, h3, h4, h5, h6, h7, h8, h9, h10⟩ := h
  refine ⟨by simpa [xui, tDay, setKd] using h1, by simpa [xui, tIn, setKd] using h2, by simpa [xui, tN, setKd] using h3, fun j hj => by simpa [tTh, setKd, xui] using h4 j hj, fun j hj => by simpa [tAg, setKd, xui] using h5 j hj, fun q hq => ?_, fun q hq => by simpa [tWs, tN, setKd, xui] using h7 q hq, fun q hq => by simpa [tGo, tN, setKd, xui] using h8 q hq, h9, h10⟩
  by_cases e : q = d
  · simp [xui, upd, setKd, tKd, e]
  · have := h6 q hq
    simp [xui, upd, setKd, tKd, e]
    exact this
theorem tw_setWs {σ : xH} {t : Nat} {T : Tw} (h : tw σ t T) (d : Nat) (v : Int32) : tw (xpi σ (t + 4) d v) t (setWs T d v) := by
  obtain ⟨h1, h2, h3, h4, h5, h6, h7, h8, h9, h10⟩ := h
  refine ⟨by simpa [xui, tDay, setWs] using h1, by simpa [xui, tIn, setWs] using h2, by simpa [xui, tN, setWs] using h3, fun j hj => by simpa [tTh, setWs, xui] using h4 j hj, fun j hj => by simpa [tAg, setWs, xui] using h5 j hj, fun q hq => by simpa [tKd, tN, setWs, xui] using h6 q hq, fun q hq => ?_, fun q hq => by simpa [tGo, tN, setWs, xui] using h8 q hq, h9, h10⟩
  by_cases e : q = d
  · simp [xui, upd, setWs, tWs, e]
  · have := h7 q hq
    simp [xui, upd, setWs, tWs, e]
    exact this
theorem tw_setGo {σ : xH} {t : Nat} {T : Tw} (h : tw σ t T) (d : Nat) {r : Nat} (hr : r < 3) : tw (xpi σ (t + 5) d (nI r)) t (setGo T d r) := by
  obtain ⟨h1, h2, h3, h4, h5, h6, h7, h8, h9, h10⟩ := h
  refine ⟨by simpa [xui, tDay, setGo] using h1, by simpa [xui, tIn, setGo] using h2, by simpa [xui, tN, setGo] using h3, fun j hj => by simpa [tTh, setGo, xui] using h4 j hj, fun j hj => by simpa [tAg, setGo, xui] using h5 j hj, fun q hq => by simpa [tKd, tN, setGo, xui] using h6 q hq, fun q hq => by simpa [tWs, tN, setGo, xui] using h7 q hq, fun q hq => ?_, h9, fun q hq => ?_⟩
  · by_cases e : q = d
    · simp [xui, upd, updn, setGo, tGo, e]
    · have := h8 q hq
      simp [xui, upd, updn, setGo, tGo, e]
      exact this
  · by_cases e : q = d
    · simp [updn, setGo, tGo, e, hr]
    · have := h10 q hq
      simp [updn, setGo, tGo, e]
      exact this
set_option maxHeartbeats 4000000 in
set_option maxRecDepth 20000 in
theorem c_X4_high {σ : xH} {K : Int32 → xH → Prop} {S : St} (hS : cS σ S) (v : Int32) (hk : ∀ τ, cS τ (oHigh S v).2 → K (oHigh S v).1 τ) : Evi l (oC ad D cy) mX4_high [.ref 0, .int v] σ K := by
  have hw := hS.1
  have h8 := tw_8 hw
  refine x_enter (ls := [some (.ref 0), some (.int v), none]) rfl ?_
  by_cases hc : vR (nI 1) (nI 6) v
  · unfold oHigh at hk
    rw [if_pos hc] at hk
    refine x_iload_n (i := 1) dX4_high_0 rfl rfl ?_
    refine x_iconstN (n := 1) dX4_high_1 ?_
    refine x_bipush (v := nI 6) dX4_high_2 (by decide) ?_
    refine x_s3i dX4_high_4 okX4_isWithin ml_X4_48 (Nat.le_of_ble_eq_true rfl) ⟨by decide, by decide⟩ (Nat.le_of_ble_eq_true rfl) (c_X4_isWithin _ _ _ ?_)
    refine x_ifneP (tgt := 17) dX4_high_7 rfl (fun h7 => ?_) (fun h7 => ?_)
    · skip
      refine x_aload_n (i := 0) dX4_high_17 rfl rfl ?_
      refine x_getr (i := 0) dX4_high_18 rfl rfl rfl (by decide) fl_X4_10 inX4 ?_
      refine x_getiE (i := 1) dX4_high_21 (sT0 isT1) rfl rfl (by decide) fl_X4_71 inX3 (tw_in hw) ?_
      refine y_istore_n (i := 2) (ls2 := [_, _, _]) dX4_high_24 rfl (by decide) rfl rfl ?_
      refine x_aload_n (i := 0) dX4_high_25 rfl rfl ?_
      refine x_getr (i := 0) dX4_high_26 rfl rfl rfl (by decide) fl_X4_10 inX4 ?_
      refine x_iload_n (i := 1) dX4_high_29 rfl rfl ?_
      refine x_puti (i := 1) (ty := .int) dX4_high_30 (sT0 isT1) rfl rfl (by decide) fl_X4_71 inX3 tyX3_ok nmX3 rfl rfl rfl rfl ?_
      refine x_iload_n (i := 2) dX4_high_33 rfl rfl ?_
      exact x_ireti dX4_high_34 rfl (hk _ (cS_1 hS (fr_ui (by omega) (by omega)) (tw_setIn hw _)))
    · exact absurd hc h7
  · unfold oHigh at hk
    rw [if_neg hc] at hk
    refine x_iload_n (i := 1) dX4_high_0 rfl rfl ?_
    refine x_iconstN (n := 1) dX4_high_1 ?_
    refine x_bipush (v := nI 6) dX4_high_2 (by decide) ?_
    refine x_s3i dX4_high_4 okX4_isWithin ml_X4_48 (Nat.le_of_ble_eq_true rfl) ⟨by decide, by decide⟩ (Nat.le_of_ble_eq_true rfl) (c_X4_isWithin _ _ _ ?_)
    refine x_ifneP (tgt := 17) dX4_high_7 rfl (fun h7 => ?_) (fun h7 => ?_)
    · exact absurd h7 hc
    · skip
      refine x_aload_n (i := 0) dX4_high_10 rfl rfl ?_
      refine x_ldc (v := -1000000001) dX4_high_11 kc_X4_52 ?_
      refine x_v1i dX4_high_13 okX4_tell ml_X4_53 rfl rfl (Nat.le_of_ble_eq_true rfl) ⟨by decide, by decide⟩ (Nat.le_of_ble_eq_true rfl) (c_X4_tell hS 0 (by decide) (by decide) (by decide) (fun τ hτ => ?_))
      exact x_ireti dX4_high_16 rfl (hk τ hτ)
set_option maxHeartbeats 4000000 in
set_option maxRecDepth 20000 in
theorem c_X4_street {σ : xH} {K : Int32 → xH → Prop} {S : St} (hS : cS σ S) (a c : Int32) (hk : ∀ τ, cS τ (oStreet S a c).2 → K (oStreet S a c).1 τ) : Evi l (oC ad D cy) mX4_street [.ref 0, .int a, .int c] σ K := by
  have hw := hS.1
  have h8 := tw_8 hw
  refine x_enter (ls := [some (.ref 0), some (.int a), some (.int c)]) rfl ?_
  by_cases hc : vN 3 a
  · unfold oStreet at hk
    rw [if_pos hc] at hk
    obtain ⟨r, hr, rfl⟩ := vN_of hc (by decide)
    simp only [cn, nI_clamp (show r < 2 ^ 31 by omega)] at hk
    refine x_iload_n (i := 1) dX4_street_0 rfl rfl ?_
    refine x_s1i dX4_street_1 okX4_isStreet ml_X4_75 (Nat.le_of_ble_eq_true rfl) ⟨by decide, by decide⟩ (Nat.le_of_ble_eq_true rfl) (c_X4_isStreet _ ?_)
    refine x_ifneP (tgt := 14) dX4_street_4 rfl (fun h4 => ?_) (fun h4 => ?_)
    · skip
      refine x_iload_n (i := 2) dX4_street_14 rfl rfl ?_
      refine x_tsw4 (nI 0) (nI 1) (nI 2) (nI 3) 44 53 62 71 80 dX4_street_15 (by decide) (by decide) (fun h15 => ?_) (fun h15 => ?_) (fun h15 => ?_) (fun h15 => ?_) (fun h15_0 h15_1 h15_2 h15_3 => ?_)
      · skip
        refine x_aload_n (i := 0) dX4_street_44 rfl rfl ?_
        refine x_getr (i := 0) dX4_street_45 rfl rfl rfl (by decide) fl_X4_10 inX4 ?_
        refine x_iload_n (i := 1) dX4_street_48 rfl rfl ?_
        refine x_v1i dX4_street_49 okX3_stretchesWithThing ml_X4_79 (sT0 isT1) rfl (Nat.le_of_ble_eq_true rfl) ⟨by decide, by decide⟩ (Nat.le_of_ble_eq_true rfl) (c_X3_stretchesWithThing isT1 hw hr ?_)
        exact x_ireti dX4_street_52 rfl (by subst h15; exact hk σ hS)
      · skip
        refine x_aload_n (i := 0) dX4_street_53 rfl rfl ?_
        refine x_getr (i := 0) dX4_street_54 rfl rfl rfl (by decide) fl_X4_10 inX4 ?_
        refine x_iload_n (i := 1) dX4_street_57 rfl rfl ?_
        refine x_v1i dX4_street_58 okX3_bumpsIn ml_X4_82 (sT0 isT1) rfl (Nat.le_of_ble_eq_true rfl) ⟨by decide, by decide⟩ (Nat.le_of_ble_eq_true rfl) (c_X3_bumpsIn isT1 hw hr ?_)
        exact x_ireti dX4_street_61 rfl (by subst h15; exact hk σ hS)
      · skip
        refine x_aload_n (i := 0) dX4_street_62 rfl rfl ?_
        refine x_getr (i := 0) dX4_street_63 rfl rfl rfl (by decide) fl_X4_10 inX4 ?_
        refine x_iload_n (i := 1) dX4_street_66 rfl rfl ?_
        refine x_v1i dX4_street_67 okX3_whoGoesIn ml_X4_85 (sT0 isT1) rfl (Nat.le_of_ble_eq_true rfl) ⟨by decide, by decide⟩ (Nat.le_of_ble_eq_true rfl) (c_X3_whoGoesIn isT1 hw hr ?_)
        exact x_ireti dX4_street_70 rfl (by subst h15; exact hk σ hS)
      · skip
        refine x_aload_n (i := 0) dX4_street_71 rfl rfl ?_
        refine x_getr (i := 0) dX4_street_72 rfl rfl rfl (by decide) fl_X4_10 inX4 ?_
        refine x_iload_n (i := 1) dX4_street_75 rfl rfl ?_
        refine x_v1i dX4_street_76 okX3_shakingIn ml_X4_88 (sT0 isT1) rfl (Nat.le_of_ble_eq_true rfl) ⟨by decide, by decide⟩ (Nat.le_of_ble_eq_true rfl) (c_X3_shakingIn isT1 hw hr ?_)
        exact x_ireti dX4_street_79 rfl (by subst h15; exact hk σ hS)
      · skip
        refine x_aload_n (i := 0) dX4_street_80 rfl rfl ?_
        refine x_ldc (v := -1000000001) dX4_street_81 kc_X4_52 ?_
        refine x_v1i dX4_street_83 okX4_tell ml_X4_53 rfl rfl (Nat.le_of_ble_eq_true rfl) ⟨by decide, by decide⟩ (Nat.le_of_ble_eq_true rfl) (c_X4_tell hS 0 (by decide) (by decide) (by decide) (fun τ hτ => ?_))
        exact x_ireti dX4_street_86 rfl (by rw [if_neg h15_0, if_neg h15_1, if_neg h15_2, if_neg h15_3] at hk; exact hk τ hτ)
    · exact absurd hc h4
  · unfold oStreet at hk
    rw [if_neg hc] at hk
    refine x_iload_n (i := 1) dX4_street_0 rfl rfl ?_
    refine x_s1i dX4_street_1 okX4_isStreet ml_X4_75 (Nat.le_of_ble_eq_true rfl) ⟨by decide, by decide⟩ (Nat.le_of_ble_eq_true rfl) (c_X4_isStreet _ ?_)
    refine x_ifneP (tgt := 14) dX4_street_4 rfl (fun h4 => ?_) (fun h4 => ?_)
    · exact absurd h4 hc
    · skip
      refine x_aload_n (i := 0) dX4_street_7 rfl rfl ?_
      refine x_ldc (v := -1000000001) dX4_street_8 kc_X4_52 ?_
      refine x_v1i dX4_street_10 okX4_tell ml_X4_53 rfl rfl (Nat.le_of_ble_eq_true rfl) ⟨by decide, by decide⟩ (Nat.le_of_ble_eq_true rfl) (c_X4_tell hS 0 (by decide) (by decide) (by decide) (fun τ hτ => ?_))
      exact x_ireti dX4_street_13 rfl (hk τ hτ)
set_option maxHeartbeats 4000000 in
set_option maxRecDepth 20000 in
theorem c_X4_now {σ : xH} {K : Int32 → xH → Prop} {S : St} (hS : cS σ S) (c : Int32) (hk : ∀ τ, cS τ (oNow S c).2 → K (oNow S c).1 τ) : Evi l (oC ad D cy) mX4_now [.ref 0, .int c] σ K := by
  have hw := hS.1
  have h8 := tw_8 hw
  refine x_enter (ls := [some (.ref 0), some (.int c)]) rfl ?_
  unfold oNow at hk
  refine x_iload_n (i := 1) dX4_now_0 rfl rfl ?_
  refine x_tsw4 (nI 0) (nI 1) (nI 2) (nI 3) 32 40 48 56 64 dX4_now_1 (by decide) (by decide) (fun h1 => ?_) (fun h1 => ?_) (fun h1 => ?_) (fun h1 => ?_) (fun h1_0 h1_1 h1_2 h1_3 => ?_)
  · skip
    refine x_aload_n (i := 0) dX4_now_32 rfl rfl ?_
    refine x_getr (i := 0) dX4_now_33 rfl rfl rfl (by decide) fl_X4_10 inX4 ?_
    refine x_getiE (i := 0) dX4_now_36 (sT0 isT1) rfl rfl (by decide) fl_X4_91 inX3 (tw_day hw) ?_
    exact x_ireti dX4_now_39 rfl (by subst h1; exact hk σ hS)
  · skip
    refine x_aload_n (i := 0) dX4_now_40 rfl rfl ?_
    refine x_getr (i := 0) dX4_now_41 rfl rfl rfl (by decide) fl_X4_10 inX4 ?_
    refine x_getiE (i := 1) dX4_now_44 (sT0 isT1) rfl rfl (by decide) fl_X4_71 inX3 (tw_in hw) ?_
    exact x_ireti dX4_now_47 rfl (by subst h1; exact hk σ hS)
  · skip
    refine x_aload_n (i := 0) dX4_now_48 rfl rfl ?_
    refine x_getr (i := 0) dX4_now_49 rfl rfl rfl (by decide) fl_X4_10 inX4 ?_
    refine x_v0i dX4_now_52 okX3_shakingOfAll ml_X4_94 (sT0 isT1) rfl (Nat.le_of_ble_eq_true rfl) ⟨by decide, by decide⟩ (Nat.le_of_ble_eq_true rfl) (c_X3_shakingOfAll isT1 hw ?_)
    exact x_ireti dX4_now_55 rfl (by subst h1; exact hk σ hS)
  · skip
    refine x_aload_n (i := 0) dX4_now_56 rfl rfl ?_
    refine x_getr (i := 0) dX4_now_57 rfl rfl rfl (by decide) fl_X4_10 inX4 ?_
    refine x_v0i dX4_now_60 okX3_timeOfAll ml_X4_98 (sT0 isT1) rfl (Nat.le_of_ble_eq_true rfl) ⟨by decide, by decide⟩ (Nat.le_of_ble_eq_true rfl) (c_X3_timeOfAll isT1 hw ?_)
    exact x_ireti dX4_now_63 rfl (by subst h1; exact hk σ hS)
  · skip
    refine x_aload_n (i := 0) dX4_now_64 rfl rfl ?_
    refine x_ldc (v := -1000000001) dX4_now_65 kc_X4_52 ?_
    refine x_v1i dX4_now_67 okX4_tell ml_X4_53 rfl rfl (Nat.le_of_ble_eq_true rfl) ⟨by decide, by decide⟩ (Nat.le_of_ble_eq_true rfl) (c_X4_tell hS 0 (by decide) (by decide) (by decide) (fun τ hτ => ?_))
    exact x_ireti dX4_now_70 rfl (by rw [if_neg h1_0, if_neg h1_1, if_neg h1_2, if_neg h1_3] at hk; exact hk τ hτ)
set_option maxHeartbeats 4000000 in
set_option maxRecDepth 20000 in
theorem c_X4_count {σ : xH} {K : Int32 → xH → Prop} {S : St} (hS : cS σ S) (c : Int32) (hk : ∀ τ, cS τ (oCount S c).2 → K (oCount S c).1 τ) : Evi l (oC ad D cy) mX4_count [.ref 0, .int c] σ K := by
  have hw := hS.1
  have h8 := tw_8 hw
  refine x_enter (ls := [some (.ref 0), some (.int c)]) rfl ?_
  unfold oCount at hk
  refine x_iload_n (i := 1) dX4_count_0 rfl rfl ?_
  refine x_tsw4 (nI 0) (nI 1) (nI 2) (nI 3) 32 40 48 56 64 dX4_count_1 (by decide) (by decide) (fun h1 => ?_) (fun h1 => ?_) (fun h1 => ?_) (fun h1 => ?_) (fun h1_0 h1_1 h1_2 h1_3 => ?_)
  · skip
    refine x_aload_n (i := 0) dX4_count_32 rfl rfl ?_
    refine x_getr (i := 0) dX4_count_33 rfl rfl rfl (by decide) fl_X4_10 inX4 ?_
    refine x_getiE (i := 2) dX4_count_36 (sT0 isT1) rfl rfl (by decide) fl_X4_104 inX3 (tw_n hw) ?_
    exact x_ireti dX4_count_39 rfl (by subst h1; exact hk σ hS)
  · skip
    refine x_aload_n (i := 0) dX4_count_40 rfl rfl ?_
    refine x_getr (i := 3) dX4_count_41 rfl rfl rfl (by decide) fl_X4_25 inX4 ?_
    refine x_getiE (i := 1) dX4_count_44 rfl rfl rfl (by decide) fl_X4_172 inX2 hS.2.2.2.1 ?_
    exact x_ireti dX4_count_47 rfl (by subst h1; exact hk σ hS)
  · skip
    refine x_aload_n (i := 0) dX4_count_48 rfl rfl ?_
    refine x_getr (i := 0) dX4_count_49 rfl rfl rfl (by decide) fl_X4_10 inX4 ?_
    refine x_v0i dX4_count_52 okX3_bumpsInAll ml_X4_224 (sT0 isT1) rfl (Nat.le_of_ble_eq_true rfl) ⟨by decide, by decide⟩ (Nat.le_of_ble_eq_true rfl) (c_X3_bumpsInAll isT1 hw ?_)
    exact x_ireti dX4_count_55 rfl (by subst h1; exact hk σ hS)
  · skip
    refine x_aload_n (i := 0) dX4_count_56 rfl rfl ?_
    refine x_getr (i := 0) dX4_count_57 rfl rfl rfl (by decide) fl_X4_10 inX4 ?_
    refine x_v0i dX4_count_60 okX3_wishesOfAll ml_X4_227 (sT0 isT1) rfl (Nat.le_of_ble_eq_true rfl) ⟨by decide, by decide⟩ (Nat.le_of_ble_eq_true rfl) (c_X3_wishesOfAll isT1 hw ?_)
    exact x_ireti dX4_count_63 rfl (by subst h1; exact hk σ hS)
  · skip
    refine x_aload_n (i := 0) dX4_count_64 rfl rfl ?_
    refine x_ldc (v := -1000000001) dX4_count_65 kc_X4_52 ?_
    refine x_v1i dX4_count_67 okX4_tell ml_X4_53 rfl rfl (Nat.le_of_ble_eq_true rfl) ⟨by decide, by decide⟩ (Nat.le_of_ble_eq_true rfl) (c_X4_tell hS 0 (by decide) (by decide) (by decide) (fun τ hτ => ?_))
    exact x_ireti dX4_count_70 rfl (by rw [if_neg h1_0, if_neg h1_1, if_neg h1_2, if_neg h1_3] at hk; exact hk τ hτ)
set_option maxHeartbeats 4000000 in
set_option maxRecDepth 20000 in
theorem c_X4_driver {σ : xH} {K : Int32 → xH → Prop} {S : St} (hS : cS σ S) (k : Int32) (hk : ∀ τ, cS τ (oDriver S k).2 → K (oDriver S k).1 τ) : Evi l (oC ad D cy) mX4_driver [.ref 0, .int k] σ K := by
  have hw := hS.1
  have h8 := tw_8 hw
  refine x_enter (ls := [some (.ref 0), some (.int k)]) rfl ?_
  by_cases hc : vN 6 k
  · unfold oDriver at hk
    rw [if_pos hc] at hk
    refine x_iload_n (i := 1) dX4_driver_0 rfl rfl ?_
    refine x_s1i dX4_driver_1 okX4_isKind ml_X4_101 (Nat.le_of_ble_eq_true rfl) ⟨by decide, by decide⟩ (Nat.le_of_ble_eq_true rfl) (c_X4_isKind _ ?_)
    refine x_ifneP (tgt := 14) dX4_driver_4 rfl (fun h4 => ?_) (fun h4 => ?_)
    · skip
      refine x_aload_n (i := 0) dX4_driver_14 rfl rfl ?_
      refine x_getr (i := 0) dX4_driver_15 rfl rfl rfl (by decide) fl_X4_10 inX4 ?_
      refine x_getiE (i := 2) dX4_driver_18 (sT0 isT1) rfl rfl (by decide) fl_X4_104 inX3 (tw_n hw) ?_
      refine x_bipush (v := nI 8) dX4_driver_21 (by decide) ?_
      refine x_icltN (tgt := 33) (by omega) (by omega) dX4_driver_23 rfl (fun h23 => ?_) (fun h23 => ?_)
      · skip
        refine x_aload_n (i := 0) dX4_driver_33 rfl rfl ?_
        refine x_getr (i := 0) dX4_driver_34 rfl rfl rfl (by decide) fl_X4_10 inX4 ?_
        refine x_iload_n (i := 1) dX4_driver_37 rfl rfl ?_
        refine x_v1i dX4_driver_38 okX3_addDriver ml_X4_108 (sT0 isT1) rfl (Nat.le_of_ble_eq_true rfl) ⟨by decide, by decide⟩ (Nat.le_of_ble_eq_true rfl) (c_X3_addDriver isT1 hw h23 _ (fun τ hw1 hf1 => ?_))
        exact x_ireti dX4_driver_41 rfl (by rw [if_pos h23] at hk; exact hk τ (cS_1 hS hf1 hw1))
      · skip
        refine x_aload_n (i := 0) dX4_driver_26 rfl rfl ?_
        refine x_ldc (v := -1000000002) dX4_driver_27 kc_X4_107 ?_
        refine x_v1i dX4_driver_29 okX4_tell ml_X4_53 rfl rfl (Nat.le_of_ble_eq_true rfl) ⟨by decide, by decide⟩ (Nat.le_of_ble_eq_true rfl) (c_X4_tell hS 1 (by decide) (by decide) (by decide) (fun τ hτ => ?_))
        exact x_ireti dX4_driver_32 rfl (by rw [if_neg (by omega)] at hk; exact hk τ hτ)
    · exact absurd hc h4
  · unfold oDriver at hk
    rw [if_neg hc] at hk
    refine x_iload_n (i := 1) dX4_driver_0 rfl rfl ?_
    refine x_s1i dX4_driver_1 okX4_isKind ml_X4_101 (Nat.le_of_ble_eq_true rfl) ⟨by decide, by decide⟩ (Nat.le_of_ble_eq_true rfl) (c_X4_isKind _ ?_)
    refine x_ifneP (tgt := 14) dX4_driver_4 rfl (fun h4 => ?_) (fun h4 => ?_)
    · exact absurd h4 hc
    · skip
      refine x_aload_n (i := 0) dX4_driver_7 rfl rfl ?_
      refine x_ldc (v := -1000000001) dX4_driver_8 kc_X4_52 ?_
      refine x_v1i dX4_driver_10 okX4_tell ml_X4_53 rfl rfl (Nat.le_of_ble_eq_true rfl) ⟨by decide, by decide⟩ (Nat.le_of_ble_eq_true rfl) (c_X4_tell hS 0 (by decide) (by decide) (by decide) (fun τ hτ => ?_))
      exact x_ireti dX4_driver_13 rfl (hk τ hτ)
set_option maxHeartbeats 4000000 in
set_option maxRecDepth 20000 in
theorem c_X4_of {σ : xH} {K : Int32 → xH → Prop} {S : St} (hS : cS σ S) (d c : Int32) (hk : ∀ τ, cS τ (oOf S d c).2 → K (oOf S d c).1 τ) : Evi l (oC ad D cy) mX4_of [.ref 0, .int d, .int c] σ K := by
  have hw := hS.1
  have h8 := tw_8 hw
  refine x_enter (ls := [some (.ref 0), some (.int d), some (.int c), none, none, none]) rfl ?_
  by_cases hc : vN (tN (gT S)) d
  · unfold oOf at hk
    rw [if_pos hc] at hk
    obtain ⟨d, hd, rfl⟩ := vN_of hc (by omega)
    simp only [cn, nI_clamp (show d < 2 ^ 31 by omega)] at hk
    have hg := tw_g3 hw hd
    refine x_aload_n (i := 0) dX4_of_0 rfl rfl ?_
    refine x_getr (i := 0) dX4_of_1 rfl rfl rfl (by decide) fl_X4_10 inX4 ?_
    refine x_iload_n (i := 1) dX4_of_4 rfl rfl ?_
    refine x_v1i dX4_of_5 okX3_hasDriver ml_X4_111 (sT0 isT1) rfl (Nat.le_of_ble_eq_true rfl) ⟨by decide, by decide⟩ (Nat.le_of_ble_eq_true rfl) (c_X3_hasDriver isT1 hw _ ?_)
    refine x_ifneP (tgt := 18) dX4_of_8 rfl (fun h8 => ?_) (fun h8 => ?_)
    · skip
      refine x_aload_n (i := 0) dX4_of_18 rfl rfl ?_
      refine x_getr (i := 0) dX4_of_19 rfl rfl rfl (by decide) fl_X4_10 inX4 ?_
      refine x_getr (i := 5) dX4_of_22 (sT0 isT1) rfl rfl (by decide) fl_X4_114 inX3 ?_
      refine x_iload_n (i := 1) dX4_of_25 rfl rfl ?_
      refine x_ialdE dX4_of_26 (sT3 isT1) (by omega) (by decide) (tw_kd hw (by omega)) ?_
      refine y_istore_n (i := 3) (ls2 := [_, _, _, _, _, _]) dX4_of_27 rfl (by decide) rfl rfl ?_
      refine x_aload_n (i := 0) dX4_of_28 rfl rfl ?_
      refine x_getr (i := 0) dX4_of_29 rfl rfl rfl (by decide) fl_X4_10 inX4 ?_
      refine x_getr (i := 6) dX4_of_32 (sT0 isT1) rfl rfl (by decide) fl_X4_117 inX3 ?_
      refine x_iload_n (i := 1) dX4_of_35 rfl rfl ?_
      refine x_ialdE dX4_of_36 (sT4 isT1) (by omega) (by decide) (tw_ws hw (by omega)) ?_
      refine y_istore (i := 4) (ls2 := [_, _, _, _, _, _]) dX4_of_37 (by decide) rfl rfl ?_
      refine x_aload_n (i := 0) dX4_of_39 rfl rfl ?_
      refine x_getr (i := 0) dX4_of_40 rfl rfl rfl (by decide) fl_X4_10 inX4 ?_
      refine x_getr (i := 7) dX4_of_43 (sT0 isT1) rfl rfl (by decide) fl_X4_120 inX3 ?_
      refine x_iload_n (i := 1) dX4_of_46 rfl rfl ?_
      refine x_ialdE dX4_of_47 (sT5 isT1) (by omega) (by decide) (tw_go hw (by omega)) ?_
      refine y_istore (i := 5) (ls2 := [_, _, _, _, _, _]) dX4_of_48 (by decide) rfl rfl ?_
      refine x_iload_n (i := 2) dX4_of_50 rfl rfl ?_
      refine x_tsw6 (nI 0) (nI 1) (nI 2) (nI 3) (nI 4) (nI 5) 88 90 93 96 101 114 127 dX4_of_51 (by decide) (by decide) (fun h51 => ?_) (fun h51 => ?_) (fun h51 => ?_) (fun h51 => ?_) (fun h51 => ?_) (fun h51 => ?_) (fun h51_0 h51_1 h51_2 h51_3 h51_4 h51_5 => ?_)
      · skip
        refine x_iload_n (i := 3) dX4_of_88 rfl rfl ?_
        exact x_ireti dX4_of_89 rfl (by subst h51; exact hk σ hS)
      · skip
        refine x_iload (i := 4) dX4_of_90 rfl ?_
        exact x_ireti dX4_of_92 rfl (by subst h51; exact hk σ hS)
      · skip
        refine x_iload (i := 5) dX4_of_93 rfl ?_
        exact x_ireti dX4_of_95 rfl (by subst h51; exact hk σ hS)
      · skip
        refine x_iload_n (i := 3) dX4_of_96 rfl rfl ?_
        refine x_s1i dX4_of_97 okX0_hurries ml_X4_123 (Nat.le_of_ble_eq_true rfl) ⟨by decide, by decide⟩ (Nat.le_of_ble_eq_true rfl) (c_X0_hurries _ ?_)
        exact x_ireti dX4_of_100 rfl (by subst h51; exact hk σ hS)
      · skip
        refine x_aload_n (i := 0) dX4_of_101 rfl rfl ?_
        refine x_getr (i := 0) dX4_of_102 rfl rfl rfl (by decide) fl_X4_10 inX4 ?_
        refine x_iload_n (i := 3) dX4_of_105 rfl rfl ?_
        refine x_iload (i := 4) dX4_of_106 rfl ?_
        refine x_iload (i := 5) dX4_of_108 rfl ?_
        refine x_v3i dX4_of_110 okX3_timeFor ml_X4_128 (sT0 isT1) rfl (Nat.le_of_ble_eq_true rfl) ⟨by decide, by decide⟩ (Nat.le_of_ble_eq_true rfl) (c_X3_timeFor isT1 hw _ _ (by omega) ?_)
        exact x_ireti dX4_of_113 rfl (by subst h51; exact hk σ hS)
      · skip
        refine x_aload_n (i := 0) dX4_of_114 rfl rfl ?_
        refine x_getr (i := 0) dX4_of_115 rfl rfl rfl (by decide) fl_X4_10 inX4 ?_
        refine x_iload_n (i := 3) dX4_of_118 rfl rfl ?_
        refine x_iload (i := 4) dX4_of_119 rfl ?_
        refine x_iload (i := 5) dX4_of_121 rfl ?_
        refine x_v3i dX4_of_123 okX3_shakingBy ml_X4_132 (sT0 isT1) rfl (Nat.le_of_ble_eq_true rfl) ⟨by decide, by decide⟩ (Nat.le_of_ble_eq_true rfl) (c_X3_shakingBy isT1 hw _ _ (by omega) ?_)
        exact x_ireti dX4_of_126 rfl (by subst h51; exact hk σ hS)
      · skip
        refine x_aload_n (i := 0) dX4_of_127 rfl rfl ?_
        refine x_ldc (v := -1000000001) dX4_of_128 kc_X4_52 ?_
        refine x_v1i dX4_of_130 okX4_tell ml_X4_53 rfl rfl (Nat.le_of_ble_eq_true rfl) ⟨by decide, by decide⟩ (Nat.le_of_ble_eq_true rfl) (c_X4_tell hS 0 (by decide) (by decide) (by decide) (fun τ hτ => ?_))
        exact x_ireti dX4_of_133 rfl (by rw [if_neg h51_0, if_neg h51_1, if_neg h51_2, if_neg h51_3, if_neg h51_4, if_neg h51_5] at hk; exact hk τ hτ)
    · exact absurd hc h8
  · unfold oOf at hk
    rw [if_neg hc] at hk
    refine x_aload_n (i := 0) dX4_of_0 rfl rfl ?_
    refine x_getr (i := 0) dX4_of_1 rfl rfl rfl (by decide) fl_X4_10 inX4 ?_
    refine x_iload_n (i := 1) dX4_of_4 rfl rfl ?_
    refine x_v1i dX4_of_5 okX3_hasDriver ml_X4_111 (sT0 isT1) rfl (Nat.le_of_ble_eq_true rfl) ⟨by decide, by decide⟩ (Nat.le_of_ble_eq_true rfl) (c_X3_hasDriver isT1 hw _ ?_)
    refine x_ifneP (tgt := 18) dX4_of_8 rfl (fun h8 => ?_) (fun h8 => ?_)
    · exact absurd h8 hc
    · skip
      refine x_aload_n (i := 0) dX4_of_11 rfl rfl ?_
      refine x_ldc (v := -1000000001) dX4_of_12 kc_X4_52 ?_
      refine x_v1i dX4_of_14 okX4_tell ml_X4_53 rfl rfl (Nat.le_of_ble_eq_true rfl) ⟨by decide, by decide⟩ (Nat.le_of_ble_eq_true rfl) (c_X4_tell hS 0 (by decide) (by decide) (by decide) (fun τ hτ => ?_))
      exact x_ireti dX4_of_17 rfl (hk τ hτ)
end
