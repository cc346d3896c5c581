section
variable {l : Launch} {ad : Nat → Nat} {D : va_G} {cy : Nat → ClassId}
set_option maxHeartbeats 4000000 in
set_option maxRecDepth 20000 in
theorem l_X4_lower {K : Int32 → xH → Prop} {σ0 : xH} {S : St} (hS : cS σ0 S) {m : Nat} (hm : m ≤ 100) (v : Int32) (o : Option Nat) (hk : ∀ τ, cS τ (oR S o).2 → K (oR S o).1 τ) : ∀ (c : Nat) (σ : xH), c ≤ 6 → o = loF (gT S) m v c → fr 13 σ0 σ → Ex l (oC ad D cy) mX4_lower 30 [some (.ref 0), some (.int (nI m)), some (.int v), some (.int (nI c))] [] σ (xQi K) := by
  intro c
  induction c with
  | zero =>
    intro σ hc eo hf
    refine x_iload_n (i := 3) dX4_lower_30 rfl rfl ?_
    refine x_iconstN (n := 1) dX4_lower_31 ?_
    refine x_icltN (tgt := 81) (by omega) (by omega) dX4_lower_32 rfl (fun h32 => ?_) (fun h32 => ?_)
    · skip
      refine x_aload_n (i := 0) dX4_lower_81 rfl rfl ?_
      refine x_ldc (v := -1000000004) dX4_lower_82 kc_X4_160 ?_
      refine x_v1i dX4_lower_84 okX4_tell ml_X4_53 rfl rfl (Nat.le_of_ble_eq_true rfl) ⟨by decide, by decide⟩ (Nat.le_of_ble_eq_true rfl) (c_X4_tell (cS_13 hS hf) 3 (by decide) (by decide) (by decide) (fun τ hτ => ?_))
      exact x_ireti dX4_lower_87 rfl (by subst eo; exact hk τ hτ)
    · exact absurd h32 (by omega)
  | succ c ih =>
    intro σ hc eo hf
    have hP := (cS_13 hS hf).1
    refine x_iload_n (i := 3) dX4_lower_30 rfl rfl ?_
    refine x_iconstN (n := 1) dX4_lower_31 ?_
    refine x_icltN (tgt := 81) (by omega) (by omega) dX4_lower_32 rfl (fun h32 => ?_) (fun h32 => ?_)
    · exact absurd h32 (by omega)
    · skip
      refine x_aload_n (i := 0) dX4_lower_35 rfl rfl ?_
      refine x_getr (i := 2) dX4_lower_36 rfl rfl rfl (by decide) fl_X4_19 inX4 ?_
      refine x_aload_n (i := 0) dX4_lower_39 rfl rfl ?_
      refine x_getr (i := 0) dX4_lower_40 rfl rfl rfl (by decide) fl_X4_10 inX4 ?_
      refine x_v1v dX4_lower_43 okX3_becomeLike ml_X4_152 (sT0 isT13) rfl (Nat.le_of_ble_eq_true rfl) ⟨by decide, by decide⟩ (Nat.le_of_ble_eq_true rfl) (c_X3_becomeLike isT13 isT1 hP (by omega) (fun τ1 hw1 hf1 => ?_))
      refine x_aload_n (i := 0) dX4_lower_46 rfl rfl ?_
      refine x_getr (i := 2) dX4_lower_47 rfl rfl rfl (by decide) fl_X4_19 inX4 ?_
      refine x_iload_n (i := 3) dX4_lower_50 rfl rfl ?_
      refine x_puti (i := 1) (ty := .int) dX4_lower_51 (sT0 isT13) rfl rfl (by decide) fl_X4_71 inX3 tyX3_ok nmX3 rfl rfl rfl rfl ?_
      refine x_aload_n (i := 0) dX4_lower_54 rfl rfl ?_
      refine x_getr (i := 2) dX4_lower_55 rfl rfl rfl (by decide) fl_X4_19 inX4 ?_
      refine x_iload_n (i := 1) dX4_lower_58 rfl rfl ?_
      refine x_v1v dX4_lower_59 okX3_letDaysGo ml_X4_148 (sT0 isT13) rfl (Nat.le_of_ble_eq_true rfl) ⟨by decide, by decide⟩ (Nat.le_of_ble_eq_true rfl) (c_X3_letDaysGo isT13 (tw_setIn hw1 _) hm (fun τ3 hw3 hf3 => ?_))
      refine x_aload_n (i := 0) dX4_lower_62 rfl rfl ?_
      refine x_getr (i := 2) dX4_lower_63 rfl rfl rfl (by decide) fl_X4_19 inX4 ?_
      refine x_v0i dX4_lower_66 okX3_shakingOfAll ml_X4_94 (sT0 isT13) rfl (Nat.le_of_ble_eq_true rfl) ⟨by decide, by decide⟩ (Nat.le_of_ble_eq_true rfl) (c_X3_shakingOfAll isT13 hw3 ?_)
      refine x_iload_n (i := 2) dX4_lower_69 rfl rfl ?_
      refine x_icgt (tgt := 75) dX4_lower_70 rfl (fun h70 => ?_) (fun h70 => ?_)
      · skip
        refine y_iincD (i := 3) (ls2 := [_, _, _, _]) dX4_lower_75 rfl (by decide) rfl rfl ?_
        refine x_goto (tgt := 30) dX4_lower_78 rfl ?_
        exact ih τ3 (by omega) (eo.trans (if_pos h70)) (fr_tr hf (fr_tr hf1 (fr_tr (fr_ui (by omega) (by omega)) hf3)))
      · skip
        refine x_iload_n (i := 3) dX4_lower_73 rfl rfl ?_
        exact x_ireti dX4_lower_74 rfl (by have e : o = some (c + 1) := eo.trans (if_neg h70); subst e; exact hk τ3 (cS_13 hS (fr_tr hf (fr_tr hf1 (fr_tr (fr_ui (by omega) (by omega)) hf3)))))
set_option maxHeartbeats 4000000 in
set_option maxRecDepth 20000 in
theorem c_X4_lower {σ : xH} {K : Int32 → xH → Prop} {S : St} (hS : cS σ S) (m v : Int32) (hk : ∀ τ, cS τ (oLower S m v).2 → K (oLower S m v).1 τ) : Evi l (oC ad D cy) mX4_lower [.ref 0, .int m, .int v] σ K := by
  have hw := hS.1
  have h8 := tw_8 hw
  refine x_enter (ls := [some (.ref 0), some (.int m), some (.int v), none]) rfl ?_
  by_cases hc : vR (nI 0) (nI 20) m ∧ vR (nI 0) (nI 99999) v
  · unfold oLower at hk
    rw [if_pos hc] at hk
    obtain ⟨m, hm0, hm, rfl⟩ := vR_of hc.1 (by decide) (by decide)
    simp only [cn, nI_clamp (show m < 2 ^ 31 by omega)] at hk
    refine x_iload_n (i := 1) dX4_lower_0 rfl rfl ?_
    refine x_iconstN (n := 0) dX4_lower_1 ?_
    refine x_bipush (v := nI 20) dX4_lower_2 (by decide) ?_
    refine x_s3i dX4_lower_4 okX4_isWithin ml_X4_48 (Nat.le_of_ble_eq_true rfl) ⟨by decide, by decide⟩ (Nat.le_of_ble_eq_true rfl) (c_X4_isWithin _ _ _ ?_)
    refine x_ifeqP (tgt := 20) dX4_lower_7 rfl (fun h7 => ?_) (fun h7 => ?_)
    · exact absurd hc.1 h7
    · skip
      refine x_iload_n (i := 2) dX4_lower_10 rfl rfl ?_
      refine x_iconstN (n := 0) dX4_lower_11 ?_
      refine x_ldc (v := nI 99999) dX4_lower_12 kc_X4_164 ?_
      refine x_s3i dX4_lower_14 okX4_isWithin ml_X4_48 (Nat.le_of_ble_eq_true rfl) ⟨by decide, by decide⟩ (Nat.le_of_ble_eq_true rfl) (c_X4_isWithin _ _ _ ?_)
      refine x_ifneP (tgt := 27) dX4_lower_17 rfl (fun h17 => ?_) (fun h17 => ?_)
      · skip
        refine x_bipush (v := nI 6) dX4_lower_27 (by decide) ?_
        refine y_istore_n (i := 3) (ls2 := [_, _, _, _]) dX4_lower_29 rfl (by decide) rfl rfl ?_
        exact l_X4_lower hS (by omega) v _ hk 6 σ (by omega) rfl (fr_rf 13 σ)
      · exact absurd hc.2 h17
  · unfold oLower at hk
    rw [if_neg hc] at hk
    refine x_iload_n (i := 1) dX4_lower_0 rfl rfl ?_
    refine x_iconstN (n := 0) dX4_lower_1 ?_
    refine x_bipush (v := nI 20) dX4_lower_2 (by decide) ?_
    refine x_s3i dX4_lower_4 okX4_isWithin ml_X4_48 (Nat.le_of_ble_eq_true rfl) ⟨by decide, by decide⟩ (Nat.le_of_ble_eq_true rfl) (c_X4_isWithin _ _ _ ?_)
    refine x_ifeqP (tgt := 20) dX4_lower_7 rfl (fun h7 => ?_) (fun h7 => ?_)
    · skip
      refine x_aload_n (i := 0) dX4_lower_20 rfl rfl ?_
      refine x_ldc (v := -1000000001) dX4_lower_21 kc_X4_52 ?_
      refine x_v1i dX4_lower_23 okX4_tell ml_X4_53 rfl rfl (Nat.le_of_ble_eq_true rfl) ⟨by decide, by decide⟩ (Nat.le_of_ble_eq_true rfl) (c_X4_tell hS 0 (by decide) (by decide) (by decide) (fun τ hτ => ?_))
      exact x_ireti dX4_lower_26 rfl (hk τ hτ)
    · skip
      refine x_iload_n (i := 2) dX4_lower_10 rfl rfl ?_
      refine x_iconstN (n := 0) dX4_lower_11 ?_
      refine x_ldc (v := nI 99999) dX4_lower_12 kc_X4_164 ?_
      refine x_s3i dX4_lower_14 okX4_isWithin ml_X4_48 (Nat.le_of_ble_eq_true rfl) ⟨by decide, by decide⟩ (Nat.le_of_ble_eq_true rfl) (c_X4_isWithin _ _ _ ?_)
      refine x_ifneP (tgt := 27) dX4_lower_17 rfl (fun h17 => ?_) (fun h17 => ?_)
      · exact absurd ⟨h7, h17⟩ hc
      · skip
        refine x_aload_n (i := 0) dX4_lower_20 rfl rfl ?_
        refine x_ldc (v := -1000000001) dX4_lower_21 kc_X4_52 ?_
        refine x_v1i dX4_lower_23 okX4_tell ml_X4_53 rfl rfl (Nat.le_of_ble_eq_true rfl) ⟨by decide, by decide⟩ (Nat.le_of_ble_eq_true rfl) (c_X4_tell hS 0 (by decide) (by decide) (by decide) (fun τ hτ => ?_))
        exact x_ireti dX4_lower_26 rfl (hk τ hτ)
set_option maxHeartbeats 4000000 in
set_option maxRecDepth 20000 in
theorem l_X4_kind {K : Int32 → xH → Prop} {σ : xH} {S : St} (hS : cS σ S) {d r : Nat} (hd : d < tN (gT S)) (hr : r < 3) (hk : ∀ τ, cS τ S → K (nI (kB (gT S) (tWs (gT S) d) r 5).1) τ) : ∀ (n i : Nat) (b : Nat) (y : Int32), i + n = 5 → ((b, y) = kB (gT S) (tWs (gT S) d) r i) → Ex l (oC ad D cy) mX4_kind 50 [some (.ref 0), some (.int (nI d)), some (.int (nI r)), some (.int (nI b)), some (.int y), some (.int (nI (i + 1))), none] [] σ (xQi K) := by
  intro n
  induction n with
  | zero =>
    intro i b y hi e
    have hi : i = 5 := by omega
    subst hi
    refine x_iload (i := 5) dX4_kind_50 rfl ?_
    refine x_bipush (v := nI 6) dX4_kind_52 (by decide) ?_
    refine x_icgeN (tgt := 98) (by omega) (by omega) dX4_kind_54 rfl (fun h54 => ?_) (fun h54 => ?_)
    · skip
      refine x_iload_n (i := 3) dX4_kind_98 rfl rfl ?_
      exact x_ireti dX4_kind_99 rfl (by rw [← e] at hk; exact hk σ hS)
    · exact absurd h54 (by omega)
  | succ n ih =>
    intro i b y hi e
    have hw := hS.1
    have h8 := tw_8 hw
    refine x_iload (i := 5) dX4_kind_50 rfl ?_
    refine x_bipush (v := nI 6) dX4_kind_52 (by decide) ?_
    refine x_icgeN (tgt := 98) (by omega) (by omega) dX4_kind_54 rfl (fun h54 => ?_) (fun h54 => ?_)
    · exact absurd h54 (by omega)
    · skip
      refine x_aload_n (i := 0) dX4_kind_57 rfl rfl ?_
      refine x_getr (i := 0) dX4_kind_58 rfl rfl rfl (by decide) fl_X4_10 inX4 ?_
      refine x_iload (i := 5) dX4_kind_61 rfl ?_
      refine x_aload_n (i := 0) dX4_kind_63 rfl rfl ?_
      refine x_getr (i := 0) dX4_kind_64 rfl rfl rfl (by decide) fl_X4_10 inX4 ?_
      refine x_getr (i := 6) dX4_kind_67 (sT0 isT1) rfl rfl (by decide) fl_X4_117 inX3 ?_
      refine x_iload_n (i := 1) dX4_kind_70 rfl rfl ?_
      refine x_ialdE dX4_kind_71 (sT4 isT1) (by omega) (by decide) (tw_ws hw hd) ?_
      refine x_iload_n (i := 2) dX4_kind_72 rfl rfl ?_
      refine x_v3i dX4_kind_73 okX3_timeFor ml_X4_128 (sT0 isT1) rfl (Nat.le_of_ble_eq_true rfl) ⟨by decide, by decide⟩ (Nat.le_of_ble_eq_true rfl) (c_X3_timeFor isT1 hw _ _ hr ?_)
      refine y_istore (i := 6) (ls2 := [_, _, _, _, _, _, _]) dX4_kind_76 (by decide) rfl rfl ?_
      refine x_iload (i := 6) dX4_kind_78 rfl ?_
      refine x_iload (i := 4) dX4_kind_80 rfl ?_
      refine x_icge (tgt := 92) dX4_kind_82 rfl (fun h82 => ?_) (fun h82 => ?_)
      · skip
        refine y_iincN (i := 5) (ls2 := [_, _, _, _, _, _, _]) dX4_kind_92 rfl (by decide) rfl rfl ?_
        refine x_goto (tgt := 50) dX4_kind_95 rfl ?_
        exact x_mask [true, true, true, true, true, true, false] <| ih (i + 1) _ _ (by omega) (by rw [kB, ← e]; first | exact (if_pos h82).symm | exact (if_neg h82).symm)
      · skip
        refine x_iload (i := 5) dX4_kind_85 rfl ?_
        refine y_istore_n (i := 3) (ls2 := [_, _, _, _, _, _, _]) dX4_kind_87 rfl (by decide) rfl rfl ?_
        refine x_iload (i := 6) dX4_kind_88 rfl ?_
        refine y_istore (i := 4) (ls2 := [_, _, _, _, _, _, _]) dX4_kind_90 (by decide) rfl rfl ?_
        refine y_iincN (i := 5) (ls2 := [_, _, _, _, _, _, _]) dX4_kind_92 rfl (by decide) rfl rfl ?_
        refine x_goto (tgt := 50) dX4_kind_95 rfl ?_
        exact x_mask [true, true, true, true, true, true, false] <| ih (i + 1) _ _ (by omega) (by rw [kB, ← e]; first | exact (if_pos h82).symm | exact (if_neg h82).symm)
set_option maxHeartbeats 4000000 in
set_option maxRecDepth 20000 in
theorem c_X4_kind {σ : xH} {K : Int32 → xH → Prop} {S : St} (hS : cS σ S) (d a : Int32) (hk : ∀ τ, cS τ (oKind S d a).2 → K (oKind S d a).1 τ) : Evi l (oC ad D cy) mX4_kind [.ref 0, .int d, .int a] σ K := by
  have hw := hS.1
  have h8 := tw_8 hw
  refine x_enter (ls := [some (.ref 0), some (.int d), some (.int a), none, none, none, none]) rfl ?_
  by_cases hc : vN (tN (gT S)) d ∧ vN 3 a
  · unfold oKind at hk
    rw [if_pos hc] at hk
    obtain ⟨d, hd, rfl⟩ := vN_of hc.1 (by omega)
    have hg := tw_g3 hw hd
    have h8d : d < 2 ^ 31 := by omega
    simp only [cn, nI_clamp h8d] at hk
    obtain ⟨r, hr, rfl⟩ := vN_of hc.2 (by decide)
    simp only [nI_clamp (show r < 2 ^ 31 by omega)] at hk
    refine x_aload_n (i := 0) dX4_kind_0 rfl rfl ?_
    refine x_getr (i := 0) dX4_kind_1 rfl rfl rfl (by decide) fl_X4_10 inX4 ?_
    refine x_iload_n (i := 1) dX4_kind_4 rfl rfl ?_
    refine x_v1i dX4_kind_5 okX3_hasDriver ml_X4_111 (sT0 isT1) rfl (Nat.le_of_ble_eq_true rfl) ⟨by decide, by decide⟩ (Nat.le_of_ble_eq_true rfl) (c_X3_hasDriver isT1 hw _ ?_)
    refine x_ifeqP (tgt := 18) dX4_kind_8 rfl (fun h8 => ?_) (fun h8 => ?_)
    · exact absurd hc.1 h8
    · skip
      refine x_iload_n (i := 2) dX4_kind_11 rfl rfl ?_
      refine x_s1i dX4_kind_12 okX4_isStreet ml_X4_75 (Nat.le_of_ble_eq_true rfl) ⟨by decide, by decide⟩ (Nat.le_of_ble_eq_true rfl) (c_X4_isStreet _ ?_)
      refine x_ifneP (tgt := 25) dX4_kind_15 rfl (fun h15 => ?_) (fun h15 => ?_)
      · skip
        refine x_iconstN (n := 0) dX4_kind_25 ?_
        refine y_istore_n (i := 3) (ls2 := [_, _, _, _, _, _, _]) dX4_kind_26 rfl (by decide) rfl rfl ?_
        refine x_aload_n (i := 0) dX4_kind_27 rfl rfl ?_
        refine x_getr (i := 0) dX4_kind_28 rfl rfl rfl (by decide) fl_X4_10 inX4 ?_
        refine x_iconstN (n := 0) dX4_kind_31 ?_
        refine x_aload_n (i := 0) dX4_kind_32 rfl rfl ?_
        refine x_getr (i := 0) dX4_kind_33 rfl rfl rfl (by decide) fl_X4_10 inX4 ?_
        refine x_getr (i := 6) dX4_kind_36 (sT0 isT1) rfl rfl (by decide) fl_X4_117 inX3 ?_
        refine x_iload_n (i := 1) dX4_kind_39 rfl rfl ?_
        refine x_ialdE dX4_kind_40 (sT4 isT1) (by omega) (by decide) (tw_ws hw (by omega)) ?_
        refine x_iload_n (i := 2) dX4_kind_41 rfl rfl ?_
        refine x_v3i dX4_kind_42 okX3_timeFor ml_X4_128 (sT0 isT1) rfl (Nat.le_of_ble_eq_true rfl) ⟨by decide, by decide⟩ (Nat.le_of_ble_eq_true rfl) (c_X3_timeFor isT1 hw _ _ hr ?_)
        refine y_istore (i := 4) (ls2 := [_, _, _, _, _, _, _]) dX4_kind_45 (by decide) rfl rfl ?_
        refine x_iconstN (n := 1) dX4_kind_47 ?_
        refine y_istore (i := 5) (ls2 := [_, _, _, _, _, _, _]) dX4_kind_48 (by decide) rfl rfl ?_
        exact l_X4_kind hS hd hr hk 5 0 _ _ rfl rfl
      · exact absurd hc.2 h15
  · unfold oKind at hk
    rw [if_neg hc] at hk
    refine x_aload_n (i := 0) dX4_kind_0 rfl rfl ?_
    refine x_getr (i := 0) dX4_kind_1 rfl rfl rfl (by decide) fl_X4_10 inX4 ?_
    refine x_iload_n (i := 1) dX4_kind_4 rfl rfl ?_
    refine x_v1i dX4_kind_5 okX3_hasDriver ml_X4_111 (sT0 isT1) rfl (Nat.le_of_ble_eq_true rfl) ⟨by decide, by decide⟩ (Nat.le_of_ble_eq_true rfl) (c_X3_hasDriver isT1 hw _ ?_)
    refine x_ifeqP (tgt := 18) dX4_kind_8 rfl (fun h8 => ?_) (fun h8 => ?_)
    · skip
      refine x_aload_n (i := 0) dX4_kind_18 rfl rfl ?_
      refine x_ldc (v := -1000000001) dX4_kind_19 kc_X4_52 ?_
      refine x_v1i dX4_kind_21 okX4_tell ml_X4_53 rfl rfl (Nat.le_of_ble_eq_true rfl) ⟨by decide, by decide⟩ (Nat.le_of_ble_eq_true rfl) (c_X4_tell hS 0 (by decide) (by decide) (by decide) (fun τ hτ => ?_))
      exact x_ireti dX4_kind_24 rfl (hk τ hτ)
    · skip
      refine x_iload_n (i := 2) dX4_kind_11 rfl rfl ?_
      refine x_s1i dX4_kind_12 okX4_isStreet ml_X4_75 (Nat.le_of_ble_eq_true rfl) ⟨by decide, by decide⟩ (Nat.le_of_ble_eq_true rfl) (c_X4_isStreet _ ?_)
      refine x_ifneP (tgt := 25) dX4_kind_15 rfl (fun h15 => ?_) (fun h15 => ?_)
      · exact absurd ⟨h8, h15⟩ hc
      · skip
        refine x_aload_n (i := 0) dX4_kind_18 rfl rfl ?_
        refine x_ldc (v := -1000000001) dX4_kind_19 kc_X4_52 ?_
        refine x_v1i dX4_kind_21 okX4_tell ml_X4_53 rfl rfl (Nat.le_of_ble_eq_true rfl) ⟨by decide, by decide⟩ (Nat.le_of_ble_eq_true rfl) (c_X4_tell hS 0 (by decide) (by decide) (by decide) (fun τ hτ => ?_))
        exact x_ireti dX4_kind_24 rfl (hk τ hτ)
def bI10 (o : Bs) : Int32 := match o with
  | none => -1
  | some (b, _) => nI (10 + b)
def bR10 (S : St) (o : Bs) : Int32 × St := match o with
  | none => tellS S 3
  | some (b, _) => (nI (10 + b), S)
theorem bI10_lt {o : Bs} (hb : ∀ b w, o = some (b, w) → b < 100) : bI10 o < 0 ↔ bI o < 0 := by
  match o, hb with
  | none, _ => exact Iff.rfl
  | some (b, w), hb =>
    have := hb b w rfl
    exact ⟨fun z => absurd z (nI_pos (by omega)), fun z => absurd z (nI_pos (by omega))⟩
theorem bR10_some {S : St} {o : Bs} (h : 0 ≤ bI10 o) : bR10 S o = (bI10 o, S) := by
  match o, h with
  | none, h => exact absurd h (by decide)
  | some (b, w), _ => rfl
theorem bR10_none {S : St} {o : Bs} (h : ¬ 0 ≤ bI10 o) (hb : ∀ b w, o = some (b, w) → b < 100) : bR10 S o = tellS S 3 := by
  match o, h with
  | none, _ => rfl
  | some (b, w), h => exact absurd (nI_pos' (by have := hb b w rfl; omega)) h
set_option maxHeartbeats 4000000 in
set_option maxRecDepth 20000 in
theorem l_X4_wish {K : Int32 → xH → Prop} {σ : xH} {S : St} (hS : cS σ S) {d r : Nat} (t : Int32) (hr : r < 3) (hk : ∀ τ, cS τ (bR10 S (bMin (fun i => !decide (t < pTime (gT S) (tKd (gT S) d) (nI (10 + i)) r)) (fun i => pShake (gT S) (tKd (gT S) d) (nI (10 + i)) r) 71)).2 → K (bR10 S (bMin (fun i => !decide (t < pTime (gT S) (tKd (gT S) d) (nI (10 + i)) r)) (fun i => pShake (gT S) (tKd (gT S) d) (nI (10 + i)) r) 71)).1 τ) : ∀ (n i : Nat) (x : Int32) (y : Int32), i + n = 71 → (x = bI10 (bMin (fun i => !decide (t < pTime (gT S) (tKd (gT S) d) (nI (10 + i)) r)) (fun i => pShake (gT S) (tKd (gT S) d) (nI (10 + i)) r) i)) → (y = bV (bMin (fun i => !decide (t < pTime (gT S) (tKd (gT S) d) (nI (10 + i)) r)) (fun i => pShake (gT S) (tKd (gT S) d) (nI (10 + i)) r) i)) → Ex l (oC ad D cy) mX4_wish 57 [some (.ref 0), some (.int (nI d)), some (.int (nI r)), some (.int t), some (.int (tKd (gT S) d)), some (.int x), some (.int y), some (.int (nI (10 + i))), none] [] σ (xQi K) := by
  intro n
  induction n with
  | zero =>
    intro i x y hi ex ey
    have hi : i = 71 := by omega
    subst hi
    subst ex ey
    refine x_iload (i := 7) dX4_wish_57 rfl ?_
    refine x_bipush (v := nI 80) dX4_wish_59 (by decide) ?_
    refine x_icgtN (tgt := 120) (by omega) (by omega) dX4_wish_61 rfl (fun h61 => ?_) (fun h61 => ?_)
    · skip
      refine x_iload (i := 5) dX4_wish_120 rfl ?_
      refine x_ifge (tgt := 134) dX4_wish_122 rfl (fun h122 => ?_) (fun h122 => ?_)
      · skip
        refine x_iload (i := 5) dX4_wish_134 rfl ?_
        exact x_ireti dX4_wish_136 rfl (by first | (rw [bR10_some h122] at hk; exact hk σ hS) | (rw [bR10_none h122 (fun b w h => by have := bMin_b _ _ 71 b w h; omega)] at hk; exact hk τ hτ))
      · skip
        refine x_aload_n (i := 0) dX4_wish_125 rfl rfl ?_
        refine x_ldc (v := -1000000004) dX4_wish_126 kc_X4_160 ?_
        refine x_v1i dX4_wish_128 okX4_tell ml_X4_53 rfl rfl (Nat.le_of_ble_eq_true rfl) ⟨by decide, by decide⟩ (Nat.le_of_ble_eq_true rfl) (c_X4_tell hS 3 (by decide) (by decide) (by decide) (fun τ hτ => ?_))
        refine x_goto (tgt := 136) dX4_wish_131 rfl ?_
        exact x_ireti dX4_wish_136 rfl (by first | (rw [bR10_some h122] at hk; exact hk σ hS) | (rw [bR10_none h122 (fun b w h => by have := bMin_b _ _ 71 b w h; omega)] at hk; exact hk τ hτ))
    · exact absurd h61 (by omega)
  | succ n ih =>
    intro i x y hi ex ey
    subst ex ey
    have hw := hS.1
    refine x_iload (i := 7) dX4_wish_57 rfl ?_
    refine x_bipush (v := nI 80) dX4_wish_59 (by decide) ?_
    refine x_icgtN (tgt := 120) (by omega) (by omega) dX4_wish_61 rfl (fun h61 => ?_) (fun h61 => ?_)
    · exact absurd h61 (by omega)
    · skip
      refine x_aload_n (i := 0) dX4_wish_64 rfl rfl ?_
      refine x_getr (i := 0) dX4_wish_65 rfl rfl rfl (by decide) fl_X4_10 inX4 ?_
      refine x_iload (i := 4) dX4_wish_68 rfl ?_
      refine x_iload (i := 7) dX4_wish_70 rfl ?_
      refine x_iload_n (i := 2) dX4_wish_72 rfl rfl ?_
      refine x_v3i dX4_wish_73 okX3_timeFor ml_X4_128 (sT0 isT1) rfl (Nat.le_of_ble_eq_true rfl) ⟨by decide, by decide⟩ (Nat.le_of_ble_eq_true rfl) (c_X3_timeFor isT1 hw _ _ hr ?_)
      refine x_iload_n (i := 3) dX4_wish_76 rfl rfl ?_
      refine x_icgt (tgt := 114) dX4_wish_77 rfl (fun h77 => ?_) (fun h77 => ?_)
      · skip
        refine y_iincN (i := 7) (ls2 := [_, _, _, _, _, _, _, _, _]) dX4_wish_114 rfl (by decide) rfl rfl ?_
        refine x_goto (tgt := 57) dX4_wish_117 rfl ?_
        have e1 : bMin (fun i => !decide (t < pTime (gT S) (tKd (gT S) d) (nI (10 + i)) r)) (fun i => pShake (gT S) (tKd (gT S) d) (nI (10 + i)) r) (i + 1) = bMin (fun i => !decide (t < pTime (gT S) (tKd (gT S) d) (nI (10 + i)) r)) (fun i => pShake (gT S) (tKd (gT S) d) (nI (10 + i)) r) i := bMin_f (by simpa using h77)
        exact x_mask [true, true, true, true, true, true, true, true, false] <| ih (i + 1) _ _ (by omega) (by rw [e1]) (by rw [e1])
      · skip
        refine x_aload_n (i := 0) dX4_wish_80 rfl rfl ?_
        refine x_getr (i := 0) dX4_wish_81 rfl rfl rfl (by decide) fl_X4_10 inX4 ?_
        refine x_iload (i := 4) dX4_wish_84 rfl ?_
        refine x_iload (i := 7) dX4_wish_86 rfl ?_
        refine x_iload_n (i := 2) dX4_wish_88 rfl rfl ?_
        refine x_v3i dX4_wish_89 okX3_shakingBy ml_X4_132 (sT0 isT1) rfl (Nat.le_of_ble_eq_true rfl) ⟨by decide, by decide⟩ (Nat.le_of_ble_eq_true rfl) (c_X3_shakingBy isT1 hw _ _ hr ?_)
        refine y_istore (i := 8) (ls2 := [_, _, _, _, _, _, _, _, _]) dX4_wish_92 (by decide) rfl rfl ?_
        refine x_iload (i := 5) dX4_wish_94 rfl ?_
        refine x_iflt (tgt := 106) dX4_wish_96 rfl (fun h96 => ?_) (fun h96 => ?_)
        · skip
          refine x_iload (i := 7) dX4_wish_106 rfl ?_
          refine y_istore (i := 5) (ls2 := [_, _, _, _, _, _, _, _, _]) dX4_wish_108 (by decide) rfl rfl ?_
          refine x_iload (i := 8) dX4_wish_110 rfl ?_
          refine y_istore (i := 6) (ls2 := [_, _, _, _, _, _, _, _, _]) dX4_wish_112 (by decide) rfl rfl ?_
          refine y_iincN (i := 7) (ls2 := [_, _, _, _, _, _, _, _, _]) dX4_wish_114 rfl (by decide) rfl rfl ?_
          refine x_goto (tgt := 57) dX4_wish_117 rfl ?_
          have e0 : bMin (fun i => !decide (t < pTime (gT S) (tKd (gT S) d) (nI (10 + i)) r)) (fun i => pShake (gT S) (tKd (gT S) d) (nI (10 + i)) r) (i + 1) = stMin (bMin (fun i => !decide (t < pTime (gT S) (tKd (gT S) d) (nI (10 + i)) r)) (fun i => pShake (gT S) (tKd (gT S) d) (nI (10 + i)) r) i) i ((fun i => pShake (gT S) (tKd (gT S) d) (nI (10 + i)) r) i) := bMin_t (by simpa using h77)
          have e1 := e0.trans (stMin_lt (i := i) (v := (fun i => pShake (gT S) (tKd (gT S) d) (nI (10 + i)) r) i) ((bI10_lt (fun b w h => by have := bMin_b (fun i => !decide (t < pTime (gT S) (tKd (gT S) d) (nI (10 + i)) r)) (fun i => pShake (gT S) (tKd (gT S) d) (nI (10 + i)) r) i b w h; omega)).mp h96) (fun b w h => by have := bMin_b (fun i => !decide (t < pTime (gT S) (tKd (gT S) d) (nI (10 + i)) r)) (fun i => pShake (gT S) (tKd (gT S) d) (nI (10 + i)) r) i b w h; omega))
          exact x_mask [true, true, true, true, true, true, true, true, false] <| ih (i + 1) _ _ (by omega) (by rw [e1]; rfl) (by rw [e1]; rfl)
        · skip
          refine x_iload (i := 8) dX4_wish_99 rfl ?_
          refine x_iload (i := 6) dX4_wish_101 rfl ?_
          refine x_icge (tgt := 114) dX4_wish_103 rfl (fun h103 => ?_) (fun h103 => ?_)
          · skip
            refine y_iincN (i := 7) (ls2 := [_, _, _, _, _, _, _, _, _]) dX4_wish_114 rfl (by decide) rfl rfl ?_
            refine x_goto (tgt := 57) dX4_wish_117 rfl ?_
            have e0 : bMin (fun i => !decide (t < pTime (gT S) (tKd (gT S) d) (nI (10 + i)) r)) (fun i => pShake (gT S) (tKd (gT S) d) (nI (10 + i)) r) (i + 1) = stMin (bMin (fun i => !decide (t < pTime (gT S) (tKd (gT S) d) (nI (10 + i)) r)) (fun i => pShake (gT S) (tKd (gT S) d) (nI (10 + i)) r) i) i ((fun i => pShake (gT S) (tKd (gT S) d) (nI (10 + i)) r) i) := bMin_t (by simpa using h77)
            have e1 := e0.trans (stMin_ge (i := i) (v := (fun i => pShake (gT S) (tKd (gT S) d) (nI (10 + i)) r) i) (fun z => h96 ((bI10_lt (fun b w h => by have := bMin_b (fun i => !decide (t < pTime (gT S) (tKd (gT S) d) (nI (10 + i)) r)) (fun i => pShake (gT S) (tKd (gT S) d) (nI (10 + i)) r) i b w h; omega)).mpr z)) h103)
            exact x_mask [true, true, true, true, true, true, true, true, false] <| ih (i + 1) _ _ (by omega) (by rw [e1]) (by rw [e1])
          · skip
            refine x_iload (i := 7) dX4_wish_106 rfl ?_
            refine y_istore (i := 5) (ls2 := [_, _, _, _, _, _, _, _, _]) dX4_wish_108 (by decide) rfl rfl ?_
            refine x_iload (i := 8) dX4_wish_110 rfl ?_
            refine y_istore (i := 6) (ls2 := [_, _, _, _, _, _, _, _, _]) dX4_wish_112 (by decide) rfl rfl ?_
            refine y_iincN (i := 7) (ls2 := [_, _, _, _, _, _, _, _, _]) dX4_wish_114 rfl (by decide) rfl rfl ?_
            refine x_goto (tgt := 57) dX4_wish_117 rfl ?_
            have e0 : bMin (fun i => !decide (t < pTime (gT S) (tKd (gT S) d) (nI (10 + i)) r)) (fun i => pShake (gT S) (tKd (gT S) d) (nI (10 + i)) r) (i + 1) = stMin (bMin (fun i => !decide (t < pTime (gT S) (tKd (gT S) d) (nI (10 + i)) r)) (fun i => pShake (gT S) (tKd (gT S) d) (nI (10 + i)) r) i) i ((fun i => pShake (gT S) (tKd (gT S) d) (nI (10 + i)) r) i) := bMin_t (by simpa using h77)
            have e1 := e0.trans (stMin_up (i := i) (v := (fun i => pShake (gT S) (tKd (gT S) d) (nI (10 + i)) r) i) (fun z => h96 ((bI10_lt (fun b w h => by have := bMin_b (fun i => !decide (t < pTime (gT S) (tKd (gT S) d) (nI (10 + i)) r)) (fun i => pShake (gT S) (tKd (gT S) d) (nI (10 + i)) r) i b w h; omega)).mpr z)) h103)
            exact x_mask [true, true, true, true, true, true, true, true, false] <| ih (i + 1) _ _ (by omega) (by rw [e1]; rfl) (by rw [e1]; rfl)
set_option maxHeartbeats 4000000 in
set_option maxRecDepth 20000 in
theorem c_X4_wish {σ : xH} {K : Int32 → xH → Prop} {S : St} (hS : cS σ S) (d a t : Int32) (hk : ∀ τ, cS τ (oWish S d a t).2 → K (oWish S d a t).1 τ) : Evi l (oC ad D cy) mX4_wish [.ref 0, .int d, .int a, .int t] σ K := by
  have hw := hS.1
  have h8 := tw_8 hw
  refine x_enter (ls := [some (.ref 0), some (.int d), some (.int a), some (.int t), none, none, none, none, none]) rfl ?_
  by_cases hc : vN (tN (gT S)) d ∧ vN 3 a ∧ vR (nI 0) (nI 9999) t
  · unfold oWish at hk
    rw [if_pos hc] at hk
    obtain ⟨d, hd, rfl⟩ := vN_of hc.1 (by omega)
    have hg := tw_g3 hw hd
    have h8d : d < 2 ^ 31 := by omega
    simp only [cn, nI_clamp h8d] at hk
    obtain ⟨r, hr, rfl⟩ := vN_of hc.2.1 (by decide)
    simp only [nI_clamp (show r < 2 ^ 31 by omega)] at hk
    refine x_aload_n (i := 0) dX4_wish_0 rfl rfl ?_
    refine x_getr (i := 0) dX4_wish_1 rfl rfl rfl (by decide) fl_X4_10 inX4 ?_
    refine x_iload_n (i := 1) dX4_wish_4 rfl rfl ?_
    refine x_v1i dX4_wish_5 okX3_hasDriver ml_X4_111 (sT0 isT1) rfl (Nat.le_of_ble_eq_true rfl) ⟨by decide, by decide⟩ (Nat.le_of_ble_eq_true rfl) (c_X3_hasDriver isT1 hw _ ?_)
    refine x_ifeqP (tgt := 29) dX4_wish_8 rfl (fun h8 => ?_) (fun h8 => ?_)
    · exact absurd hc.1 h8
    · skip
      refine x_iload_n (i := 2) dX4_wish_11 rfl rfl ?_
      refine x_s1i dX4_wish_12 okX4_isStreet ml_X4_75 (Nat.le_of_ble_eq_true rfl) ⟨by decide, by decide⟩ (Nat.le_of_ble_eq_true rfl) (c_X4_isStreet _ ?_)
      refine x_ifeqP (tgt := 29) dX4_wish_15 rfl (fun h15 => ?_) (fun h15 => ?_)
      · exact absurd hc.2.1 h15
      · skip
        refine x_iload_n (i := 3) dX4_wish_18 rfl rfl ?_
        refine x_iconstN (n := 0) dX4_wish_19 ?_
        refine x_sipush (v := nI 9999) dX4_wish_20 (by decide) ?_
        refine x_s3i dX4_wish_23 okX4_isWithin ml_X4_48 (Nat.le_of_ble_eq_true rfl) ⟨by decide, by decide⟩ (Nat.le_of_ble_eq_true rfl) (c_X4_isWithin _ _ _ ?_)
        refine x_ifneP (tgt := 36) dX4_wish_26 rfl (fun h26 => ?_) (fun h26 => ?_)
        · skip
          refine x_aload_n (i := 0) dX4_wish_36 rfl rfl ?_
          refine x_getr (i := 0) dX4_wish_37 rfl rfl rfl (by decide) fl_X4_10 inX4 ?_
          refine x_getr (i := 5) dX4_wish_40 (sT0 isT1) rfl rfl (by decide) fl_X4_114 inX3 ?_
          refine x_iload_n (i := 1) dX4_wish_43 rfl rfl ?_
          refine x_ialdE dX4_wish_44 (sT3 isT1) (by omega) (by decide) (tw_kd hw (by omega)) ?_
          refine y_istore (i := 4) (ls2 := [_, _, _, _, _, _, _, _, _]) dX4_wish_45 (by decide) rfl rfl ?_
          refine x_iconst (v := -1) dX4_wish_47 (by decide) ?_
          refine y_istore (i := 5) (ls2 := [_, _, _, _, _, _, _, _, _]) dX4_wish_48 (by decide) rfl rfl ?_
          refine x_iconstN (n := 0) dX4_wish_50 ?_
          refine y_istore (i := 6) (ls2 := [_, _, _, _, _, _, _, _, _]) dX4_wish_51 (by decide) rfl rfl ?_
          refine x_bipush (v := nI 10) dX4_wish_53 (by decide) ?_
          refine y_istore (i := 7) (ls2 := [_, _, _, _, _, _, _, _, _]) dX4_wish_55 (by decide) rfl rfl ?_
          exact l_X4_wish hS t hr hk 71 0 _ _ rfl rfl rfl
        · exact absurd hc.2.2 h26
  · unfold oWish at hk
    rw [if_neg hc] at hk
    refine x_aload_n (i := 0) dX4_wish_0 rfl rfl ?_
    refine x_getr (i := 0) dX4_wish_1 rfl rfl rfl (by decide) fl_X4_10 inX4 ?_
    refine x_iload_n (i := 1) dX4_wish_4 rfl rfl ?_
    refine x_v1i dX4_wish_5 okX3_hasDriver ml_X4_111 (sT0 isT1) rfl (Nat.le_of_ble_eq_true rfl) ⟨by decide, by decide⟩ (Nat.le_of_ble_eq_true rfl) (c_X3_hasDriver isT1 hw _ ?_)
    refine x_ifeqP (tgt := 29) dX4_wish_8 rfl (fun h8 => ?_) (fun h8 => ?_)
    · skip
      refine x_aload_n (i := 0) dX4_wish_29 rfl rfl ?_
      refine x_ldc (v := -1000000001) dX4_wish_30 kc_X4_52 ?_
      refine x_v1i dX4_wish_32 okX4_tell ml_X4_53 rfl rfl (Nat.le_of_ble_eq_true rfl) ⟨by decide, by decide⟩ (Nat.le_of_ble_eq_true rfl) (c_X4_tell hS 0 (by decide) (by decide) (by decide) (fun τ hτ => ?_))
      exact x_ireti dX4_wish_35 rfl (hk τ hτ)
    · skip
      refine x_iload_n (i := 2) dX4_wish_11 rfl rfl ?_
      refine x_s1i dX4_wish_12 okX4_isStreet ml_X4_75 (Nat.le_of_ble_eq_true rfl) ⟨by decide, by decide⟩ (Nat.le_of_ble_eq_true rfl) (c_X4_isStreet _ ?_)
      refine x_ifeqP (tgt := 29) dX4_wish_15 rfl (fun h15 => ?_) (fun h15 => ?_)
      · skip
        refine x_aload_n (i := 0) dX4_wish_29 rfl rfl ?_
        refine x_ldc (v := -1000000001) dX4_wish_30 kc_X4_52 ?_
        refine x_v1i dX4_wish_32 okX4_tell ml_X4_53 rfl rfl (Nat.le_of_ble_eq_true rfl) ⟨by decide, by decide⟩ (Nat.le_of_ble_eq_true rfl) (c_X4_tell hS 0 (by decide) (by decide) (by decide) (fun τ hτ => ?_))
        exact x_ireti dX4_wish_35 rfl (hk τ hτ)
      · skip
        refine x_iload_n (i := 3) dX4_wish_18 rfl rfl ?_
        refine x_iconstN (n := 0) dX4_wish_19 ?_
        refine x_sipush (v := nI 9999) dX4_wish_20 (by decide) ?_
        refine x_s3i dX4_wish_23 okX4_isWithin ml_X4_48 (Nat.le_of_ble_eq_true rfl) ⟨by decide, by decide⟩ (Nat.le_of_ble_eq_true rfl) (c_X4_isWithin _ _ _ ?_)
        refine x_ifneP (tgt := 36) dX4_wish_26 rfl (fun h26 => ?_) (fun h26 => ?_)
        · exact absurd ⟨h8, h15, h26⟩ hc
        · skip
          refine x_aload_n (i := 0) dX4_wish_29 rfl rfl ?_
          refine x_ldc (v := -1000000001) dX4_wish_30 kc_X4_52 ?_
          refine x_v1i dX4_wish_32 okX4_tell ml_X4_53 rfl rfl (Nat.le_of_ble_eq_true rfl) ⟨by decide, by decide⟩ (Nat.le_of_ble_eq_true rfl) (c_X4_tell hS 0 (by decide) (by decide) (by decide) (fun τ hτ => ?_))
          exact x_ireti dX4_wish_35 rfl (hk τ hτ)
set_option maxHeartbeats 4000000 in
set_option maxRecDepth 20000 in
theorem l_X4_drives {K : Int32 → xH → Prop} {σ0 : xH} {S : St} (hS : cS σ0 S) {p : Nat} (hp : p < 20) (hk : ∀ τ, cS τ S → K (nI (dB (gT S) p 3).1) τ) : ∀ (n i : Nat) (σ : xH) (b : Nat) (y : Int32), i + n = 3 → ((b, y) = dB (gT S) p i) → (fr 13 σ0 σ) → Ex l (oC ad D cy) mX4_drives 24 [some (.ref 0), some (.int (nI p)), some (.int (nI b)), some (.int y), some (.int (nI i)), none] [] σ (xQi K) := by
  intro n
  induction n with
  | zero =>
    intro i σ b y hi e hf
    have hi : i = 3 := by omega
    subst hi
    refine x_iload (i := 4) dX4_drives_24 rfl ?_
    refine x_iconstN (n := 3) dX4_drives_26 ?_
    refine x_icgeN (tgt := 91) (by omega) (by omega) dX4_drives_27 rfl (fun h27 => ?_) (fun h27 => ?_)
    · skip
      refine x_iload_n (i := 2) dX4_drives_91 rfl rfl ?_
      exact x_ireti dX4_drives_92 rfl (by rw [← e] at hk; exact hk σ (cS_13 hS hf))
    · exact absurd h27 (by omega)
  | succ n ih =>
    intro i σ b y hi e hf
    have hP := (cS_13 hS hf).1
    refine x_iload (i := 4) dX4_drives_24 rfl ?_
    refine x_iconstN (n := 3) dX4_drives_26 ?_
    refine x_icgeN (tgt := 91) (by omega) (by omega) dX4_drives_27 rfl (fun h27 => ?_) (fun h27 => ?_)
    · exact absurd h27 (by omega)
    · skip
      refine x_aload_n (i := 0) dX4_drives_30 rfl rfl ?_
      refine x_getr (i := 2) dX4_drives_31 rfl rfl rfl (by decide) fl_X4_19 inX4 ?_
      refine x_aload_n (i := 0) dX4_drives_34 rfl rfl ?_
      refine x_getr (i := 0) dX4_drives_35 rfl rfl rfl (by decide) fl_X4_10 inX4 ?_
      refine x_v1v dX4_drives_38 okX3_becomeLike ml_X4_152 (sT0 isT13) rfl (Nat.le_of_ble_eq_true rfl) ⟨by decide, by decide⟩ (Nat.le_of_ble_eq_true rfl) (c_X3_becomeLike isT13 isT1 hP (by omega) (fun τ1 hw1 hf1 => ?_))
      refine x_aload_n (i := 0) dX4_drives_41 rfl rfl ?_
      refine x_getr (i := 2) dX4_drives_42 rfl rfl rfl (by decide) fl_X4_19 inX4 ?_
      refine x_iload (i := 4) dX4_drives_45 rfl ?_
      refine x_iload_n (i := 1) dX4_drives_47 rfl rfl ?_
      refine x_iconstN (n := 1) dX4_drives_48 ?_
      refine x_v3v dX4_drives_49 okX3_lay ml_X4_64 (sT0 isT13) rfl (Nat.le_of_ble_eq_true rfl) ⟨by decide, by decide⟩ (Nat.le_of_ble_eq_true rfl) (c_X3_lay isT13 hw1 (by omega) hp _ (fun τ2 hw2 hf2 => ?_))
      refine x_aload_n (i := 0) dX4_drives_52 rfl rfl ?_
      refine x_getr (i := 2) dX4_drives_53 rfl rfl rfl (by decide) fl_X4_19 inX4 ?_
      refine x_iconstN (n := 1) dX4_drives_56 ?_
      refine x_v1v dX4_drives_57 okX3_letDaysGo ml_X4_148 (sT0 isT13) rfl (Nat.le_of_ble_eq_true rfl) ⟨by decide, by decide⟩ (Nat.le_of_ble_eq_true rfl) (c_X3_letDaysGo isT13 hw2 (m := 1) (by omega) (fun τ3 hw3 hf3 => ?_))
      refine x_aload_n (i := 0) dX4_drives_60 rfl rfl ?_
      refine x_getr (i := 2) dX4_drives_61 rfl rfl rfl (by decide) fl_X4_19 inX4 ?_
      refine x_aload_n (i := 0) dX4_drives_64 rfl rfl ?_
      refine x_getr (i := 0) dX4_drives_65 rfl rfl rfl (by decide) fl_X4_10 inX4 ?_
      have hQ := (cS_13 hS (fr_tr hf (fr_tr hf1 (fr_tr hf2 hf3)))).1
      refine x_v1i dX4_drives_68 okX3_howManyGoElsewhere ml_X4_165 (sT0 isT13) rfl (Nat.le_of_ble_eq_true rfl) ⟨by decide, by decide⟩ (Nat.le_of_ble_eq_true rfl) (c_X3_howManyGoElsewhere isT13 hw3 isT1 hQ (daysC_n _ 1).symm ?_)
      refine y_istore (i := 5) (ls2 := [_, _, _, _, _, _]) dX4_drives_71 (by decide) rfl rfl ?_
      refine x_iload (i := 5) dX4_drives_73 rfl ?_
      refine x_iload_n (i := 3) dX4_drives_75 rfl rfl ?_
      refine x_icle (tgt := 85) dX4_drives_76 rfl (fun h76 => ?_) (fun h76 => ?_)
      · skip
        refine y_iincN (i := 4) (ls2 := [_, _, _, _, _, _]) dX4_drives_85 rfl (by decide) rfl rfl ?_
        refine x_goto (tgt := 24) dX4_drives_88 rfl ?_
        exact x_mask [true, true, true, true, true, false] <| ih (i + 1) _ _ _ (by omega) (by rw [dB, ← e]; first | exact (if_pos h76).symm | exact (if_neg h76).symm) (fr_tr hf (fr_tr hf1 (fr_tr hf2 hf3)))
      · skip
        refine x_iload (i := 4) dX4_drives_79 rfl ?_
        refine y_istore_n (i := 2) (ls2 := [_, _, _, _, _, _]) dX4_drives_81 rfl (by decide) rfl rfl ?_
        refine x_iload (i := 5) dX4_drives_82 rfl ?_
        refine y_istore_n (i := 3) (ls2 := [_, _, _, _, _, _]) dX4_drives_84 rfl (by decide) rfl rfl ?_
        refine y_iincN (i := 4) (ls2 := [_, _, _, _, _, _]) dX4_drives_85 rfl (by decide) rfl rfl ?_
        refine x_goto (tgt := 24) dX4_drives_88 rfl ?_
        exact x_mask [true, true, true, true, true, false] <| ih (i + 1) _ _ _ (by omega) (by rw [dB, ← e]; first | exact (if_pos h76).symm | exact (if_neg h76).symm) (fr_tr hf (fr_tr hf1 (fr_tr hf2 hf3)))
set_option maxHeartbeats 4000000 in
set_option maxRecDepth 20000 in
theorem c_X4_drives {σ : xH} {K : Int32 → xH → Prop} {S : St} (hS : cS σ S) (p : Int32) (hk : ∀ τ, cS τ (oDrives S p).2 → K (oDrives S p).1 τ) : Evi l (oC ad D cy) mX4_drives [.ref 0, .int p] σ K := by
  have hw := hS.1
  have h8 := tw_8 hw
  refine x_enter (ls := [some (.ref 0), some (.int p), none, none, none, none]) rfl ?_
  by_cases hc : vR (nI 0) (nI 19) p
  · unfold oDrives at hk
    rw [if_pos hc] at hk
    obtain ⟨p, hp0, hp, rfl⟩ := vR_of hc (by decide) (by decide)
    simp only [cn, nI_clamp (show p < 2 ^ 31 by omega)] at hk
    refine x_iload_n (i := 1) dX4_drives_0 rfl rfl ?_
    refine x_iconstN (n := 0) dX4_drives_1 ?_
    refine x_bipush (v := nI 19) dX4_drives_2 (by decide) ?_
    refine x_s3i dX4_drives_4 okX4_isWithin ml_X4_48 (Nat.le_of_ble_eq_true rfl) ⟨by decide, by decide⟩ (Nat.le_of_ble_eq_true rfl) (c_X4_isWithin _ _ _ ?_)
    refine x_ifneP (tgt := 17) dX4_drives_7 rfl (fun h7 => ?_) (fun h7 => ?_)
    · skip
      refine x_iconstN (n := 0) dX4_drives_17 ?_
      refine y_istore_n (i := 2) (ls2 := [_, _, _, _, _, _]) dX4_drives_18 rfl (by decide) rfl rfl ?_
      refine x_iconst (v := -1) dX4_drives_19 (by decide) ?_
      refine y_istore_n (i := 3) (ls2 := [_, _, _, _, _, _]) dX4_drives_20 rfl (by decide) rfl rfl ?_
      refine x_iconstN (n := 0) dX4_drives_21 ?_
      refine y_istore (i := 4) (ls2 := [_, _, _, _, _, _]) dX4_drives_22 (by decide) rfl rfl ?_
      exact l_X4_drives hS (by omega) hk 3 0 σ _ _ rfl rfl (fr_rf 13 σ)
    · exact absurd hc h7
  · unfold oDrives at hk
    rw [if_neg hc] at hk
    refine x_iload_n (i := 1) dX4_drives_0 rfl rfl ?_
    refine x_iconstN (n := 0) dX4_drives_1 ?_
    refine x_bipush (v := nI 19) dX4_drives_2 (by decide) ?_
    refine x_s3i dX4_drives_4 okX4_isWithin ml_X4_48 (Nat.le_of_ble_eq_true rfl) ⟨by decide, by decide⟩ (Nat.le_of_ble_eq_true rfl) (c_X4_isWithin _ _ _ ?_)
    refine x_ifneP (tgt := 17) dX4_drives_7 rfl (fun h7 => ?_) (fun h7 => ?_)
    · exact absurd h7 hc
    · skip
      refine x_aload_n (i := 0) dX4_drives_10 rfl rfl ?_
      refine x_ldc (v := -1000000001) dX4_drives_11 kc_X4_52 ?_
      refine x_v1i dX4_drives_13 okX4_tell ml_X4_53 rfl rfl (Nat.le_of_ble_eq_true rfl) ⟨by decide, by decide⟩ (Nat.le_of_ble_eq_true rfl) (c_X4_tell hS 0 (by decide) (by decide) (by decide) (fun τ hτ => ?_))
      exact x_ireti dX4_drives_16 rfl (hk τ hτ)
set_option maxHeartbeats 4000000 in
set_option maxRecDepth 20000 in
theorem l_X4_slowest {K : Int32 → xH → Prop} {σ : xH} {S : St} (hS : cS σ S) (hk : ∀ τ, cS τ (oSlowest S).2 → K (oSlowest S).1 τ) : ∀ (n i : Nat) (x : Int32) (y : Int32), i + n = tN (gT S) → (x = bI (bMax (fun d => sSum (fun r => pTime (gT S) (tKd (gT S) d) (tWs (gT S) d) r) 3) i)) → (y = bV (bMax (fun d => sSum (fun r => pTime (gT S) (tKd (gT S) d) (tWs (gT S) d) r) 3) i)) → Ex l (oC ad D cy) mX4_slowest 6 [some (.ref 0), some (.int x), some (.int y), some (.int (nI i)), none] [] σ (xQi K) := by
  intro n
  induction n with
  | zero =>
    intro i x y hi ex ey
    have hi : i = tN (gT S) := by omega
    subst hi
    subst ex ey
    have h8 := tw_8 hS.1
    unfold oSlowest at hk
    refine x_iload_n (i := 3) dX4_slowest_6 rfl rfl ?_
    refine x_aload_n (i := 0) dX4_slowest_7 rfl rfl ?_
    refine x_getr (i := 0) dX4_slowest_8 rfl rfl rfl (by decide) fl_X4_10 inX4 ?_
    refine x_getiE (i := 2) dX4_slowest_11 (sT0 isT1) rfl rfl (by decide) fl_X4_104 inX3 (tw_n hS.1) ?_
    refine x_icgeN (tgt := 48) (by omega) (by omega) dX4_slowest_14 rfl (fun h14 => ?_) (fun h14 => ?_)
    · skip
      refine x_iload_n (i := 1) dX4_slowest_48 rfl rfl ?_
      refine x_ifge (tgt := 61) dX4_slowest_49 rfl (fun h49 => ?_) (fun h49 => ?_)
      · skip
        refine x_iload_n (i := 1) dX4_slowest_61 rfl rfl ?_
        exact x_ireti dX4_slowest_62 rfl (by first | (rw [bR_some h49] at hk; exact hk σ (hS)) | (rw [bR_none h49 (fun b w h => by have := bMax_b _ _ b w h; omega)] at hk; exact hk τ hτ))
      · skip
        refine x_aload_n (i := 0) dX4_slowest_52 rfl rfl ?_
        refine x_ldc (v := -1000000004) dX4_slowest_53 kc_X4_160 ?_
        refine x_v1i dX4_slowest_55 okX4_tell ml_X4_53 rfl rfl (Nat.le_of_ble_eq_true rfl) ⟨by decide, by decide⟩ (Nat.le_of_ble_eq_true rfl) (c_X4_tell hS 3 (by decide) (by decide) (by decide) (fun τ hτ => ?_))
        refine x_goto (tgt := 62) dX4_slowest_58 rfl ?_
        exact x_ireti dX4_slowest_62 rfl (by first | (rw [bR_some h49] at hk; exact hk σ (hS)) | (rw [bR_none h49 (fun b w h => by have := bMax_b _ _ b w h; omega)] at hk; exact hk τ hτ))
    · exact absurd h14 (by omega)
  | succ n ih =>
    intro i x y hi ex ey
    subst ex ey
    have hw := hS.1
    have h8 := tw_8 hw
    refine x_iload_n (i := 3) dX4_slowest_6 rfl rfl ?_
    refine x_aload_n (i := 0) dX4_slowest_7 rfl rfl ?_
    refine x_getr (i := 0) dX4_slowest_8 rfl rfl rfl (by decide) fl_X4_10 inX4 ?_
    refine x_getiE (i := 2) dX4_slowest_11 (sT0 isT1) rfl rfl (by decide) fl_X4_104 inX3 (tw_n hS.1) ?_
    refine x_icgeN (tgt := 48) (by omega) (by omega) dX4_slowest_14 rfl (fun h14 => ?_) (fun h14 => ?_)
    · exact absurd h14 (by omega)
    · skip
      refine x_aload_n (i := 0) dX4_slowest_17 rfl rfl ?_
      refine x_getr (i := 0) dX4_slowest_18 rfl rfl rfl (by decide) fl_X4_10 inX4 ?_
      refine x_iload_n (i := 3) dX4_slowest_21 rfl rfl ?_
      refine x_v1i dX4_slowest_22 okX3_timeInAllStreets ml_X4_169 (sT0 isT1) rfl (Nat.le_of_ble_eq_true rfl) ⟨by decide, by decide⟩ (Nat.le_of_ble_eq_true rfl) (c_X3_timeInAllStreets isT1 hw (by omega) ?_)
      refine y_istore (i := 4) (ls2 := [_, _, _, _, _]) dX4_slowest_25 (by decide) rfl rfl ?_
      refine x_iload_n (i := 1) dX4_slowest_27 rfl rfl ?_
      refine x_iflt (tgt := 37) dX4_slowest_28 rfl (fun h28 => ?_) (fun h28 => ?_)
      · skip
        refine x_iload_n (i := 3) dX4_slowest_37 rfl rfl ?_
        refine y_istore_n (i := 1) (ls2 := [_, _, _, _, _]) dX4_slowest_38 rfl (by decide) rfl rfl ?_
        refine x_iload (i := 4) dX4_slowest_39 rfl ?_
        refine y_istore_n (i := 2) (ls2 := [_, _, _, _, _]) dX4_slowest_41 rfl (by decide) rfl rfl ?_
        refine y_iincN (i := 3) (ls2 := [_, _, _, _, _]) dX4_slowest_42 rfl (by decide) rfl rfl ?_
        refine x_goto (tgt := 6) dX4_slowest_45 rfl ?_
        have e0 : bMax (fun d => sSum (fun r => pTime (gT S) (tKd (gT S) d) (tWs (gT S) d) r) 3) (i + 1) = stMax (bMax (fun d => sSum (fun r => pTime (gT S) (tKd (gT S) d) (tWs (gT S) d) r) 3) i) i ((fun d => sSum (fun r => pTime (gT S) (tKd (gT S) d) (tWs (gT S) d) r) 3) i) := rfl
        have e1 := e0.trans (stMax_lt (i := i) (v := (fun d => sSum (fun r => pTime (gT S) (tKd (gT S) d) (tWs (gT S) d) r) 3) i) h28 (fun b w h => by have := bMax_b (fun d => sSum (fun r => pTime (gT S) (tKd (gT S) d) (tWs (gT S) d) r) 3) i b w h; omega))
        exact x_mask [true, true, true, true, false] <| ih (i + 1) _ _ (by omega) (by rw [e1]; rfl) (by rw [e1]; rfl)
      · skip
        refine x_iload (i := 4) dX4_slowest_31 rfl ?_
        refine x_iload_n (i := 2) dX4_slowest_33 rfl rfl ?_
        refine x_icle (tgt := 42) dX4_slowest_34 rfl (fun h34 => ?_) (fun h34 => ?_)
        · skip
          refine y_iincN (i := 3) (ls2 := [_, _, _, _, _]) dX4_slowest_42 rfl (by decide) rfl rfl ?_
          refine x_goto (tgt := 6) dX4_slowest_45 rfl ?_
          have e0 : bMax (fun d => sSum (fun r => pTime (gT S) (tKd (gT S) d) (tWs (gT S) d) r) 3) (i + 1) = stMax (bMax (fun d => sSum (fun r => pTime (gT S) (tKd (gT S) d) (tWs (gT S) d) r) 3) i) i ((fun d => sSum (fun r => pTime (gT S) (tKd (gT S) d) (tWs (gT S) d) r) 3) i) := rfl
          have e1 := e0.trans (stMax_ge (i := i) (v := (fun d => sSum (fun r => pTime (gT S) (tKd (gT S) d) (tWs (gT S) d) r) 3) i) h28 h34)
          exact x_mask [true, true, true, true, false] <| ih (i + 1) _ _ (by omega) (by rw [e1]) (by rw [e1])
        · skip
          refine x_iload_n (i := 3) dX4_slowest_37 rfl rfl ?_
          refine y_istore_n (i := 1) (ls2 := [_, _, _, _, _]) dX4_slowest_38 rfl (by decide) rfl rfl ?_
          refine x_iload (i := 4) dX4_slowest_39 rfl ?_
          refine y_istore_n (i := 2) (ls2 := [_, _, _, _, _]) dX4_slowest_41 rfl (by decide) rfl rfl ?_
          refine y_iincN (i := 3) (ls2 := [_, _, _, _, _]) dX4_slowest_42 rfl (by decide) rfl rfl ?_
          refine x_goto (tgt := 6) dX4_slowest_45 rfl ?_
          have e0 : bMax (fun d => sSum (fun r => pTime (gT S) (tKd (gT S) d) (tWs (gT S) d) r) 3) (i + 1) = stMax (bMax (fun d => sSum (fun r => pTime (gT S) (tKd (gT S) d) (tWs (gT S) d) r) 3) i) i ((fun d => sSum (fun r => pTime (gT S) (tKd (gT S) d) (tWs (gT S) d) r) 3) i) := rfl
          have e1 := e0.trans (stMax_up (i := i) (v := (fun d => sSum (fun r => pTime (gT S) (tKd (gT S) d) (tWs (gT S) d) r) 3) i) h28 h34)
          exact x_mask [true, true, true, true, false] <| ih (i + 1) _ _ (by omega) (by rw [e1]; rfl) (by rw [e1]; rfl)
set_option maxHeartbeats 4000000 in
set_option maxRecDepth 20000 in
theorem c_X4_slowest {σ : xH} {K : Int32 → xH → Prop} {S : St} (hS : cS σ S)  (hk : ∀ τ, cS τ (oSlowest S).2 → K (oSlowest S).1 τ) : Evi l (oC ad D cy) mX4_slowest [.ref 0] σ K := by
  have hw := hS.1
  have h8 := tw_8 hw
  refine x_enter (ls := [some (.ref 0), none, none, none, none]) rfl ?_
  refine x_iconst (v := -1) dX4_slowest_0 (by decide) ?_
  refine y_istore_n (i := 1) (ls2 := [_, _, _, _, _]) dX4_slowest_1 rfl (by decide) rfl rfl ?_
  refine x_iconstN (n := 0) dX4_slowest_2 ?_
  refine y_istore_n (i := 2) (ls2 := [_, _, _, _, _]) dX4_slowest_3 rfl (by decide) rfl rfl ?_
  refine x_iconstN (n := 0) dX4_slowest_4 ?_
  refine y_istore_n (i := 3) (ls2 := [_, _, _, _, _]) dX4_slowest_5 rfl (by decide) rfl rfl ?_
  exact l_X4_slowest hS hk (tN (gT S)) 0 _ _ (by omega) rfl rfl
end
