section
variable {l : Launch} {ad : Nat → Nat} {D : va_G} {cy : Nat → ClassId}
def pDi (b : Nat → Int32) (L s d : Nat) (T : Tw) : Pr := if isW b L s 7 = true then (if num b L (nx b L s) 0 2 then (true, nx b L (nx b L s), setGo T d (vS b L (nx b L s))) else (false, nx b L s, T)) else (true, s, T)
def pDw (b : Nat → Int32) (L s d : Nat) (T : Tw) : Pr := if isW b L s 6 = true then (if num b L (nx b L s) 10 80 then pDi b L (nx b L (nx b L s)) d (setWs T d (nI (vS b L (nx b L s)))) else (false, nx b L s, T)) else pDi b L s d T
def pDr (b : Nat → Int32) (L s : Nat) (T : Tw) (k : Int32) : Pr := if tN T < 8 then pDw b L (nx b L s) (tN T) (addT T k) else (false, s, T)
set_option maxHeartbeats 4000000 in
set_option maxRecDepth 20000 in
theorem l_dri {σ : xH} {K : Int32 → xH → Prop} {b : Nat → Int32} {L s d : Nat} {T : Tw} (h : pc σ b L s T) (hd : d < tN T) (x : Int32) (hk : ∀ τ, pc τ b L (pDi b L s d T).2.1 (pDi b L s d T).2.2 → fp σ τ → K (xb ((pDi b L s d T).1 = true)) τ) : Ex l (oC ad D cy) mX2_takeDriver 61 [some (.ref 19), some (.ref 13), some (.int x), some (.int (nI d))] [] σ (xQi K) := by
  have h8 := tw_8 h.2.2.1
  refine x_aload_n (i := 0) dX2_takeDriver_61 rfl rfl ?_
  refine x_ldcs (i := 7) rfl rfl dX2_takeDriver_62 ?_
  refine x_v1i dX2_takeDriver_64 okX2_isWord ml_X2_51 rfl rfl (Nat.le_of_ble_eq_true rfl) ⟨by decide, by decide⟩ (Nat.le_of_ble_eq_true rfl) (c_X2_isWord (w := 7) (by decide) h.1 h.2.1 h.2.2.2 ?_)
  refine x_ifeqP (tgt := 99) dX2_takeDriver_67 rfl (fun h67 => ?_) (fun h67 => ?_)
  · skip
    refine x_iconstN (n := 1) dX2_takeDriver_99 ?_
    exact x_iretz dX2_takeDriver_100 rfl (by decide) (by have e : pDi b L s d T = (true, s, T) := if_neg h67; rw [e] at hk; exact hk σ h (fp_rf σ))
  · skip
    refine x_aload_n (i := 0) dX2_takeDriver_70 rfl rfl ?_
    refine x_v0v dX2_takeDriver_71 okX2_nextToken ml_X2_22 rfl rfl (Nat.le_of_ble_eq_true rfl) ⟨by decide, by decide⟩ (Nat.le_of_ble_eq_true rfl) (c_next h (fun τ1 h1 hf1 => ?_))
    refine x_aload_n (i := 0) dX2_takeDriver_74 rfl rfl ?_
    refine x_iconstN (n := 0) dX2_takeDriver_75 ?_
    refine x_iconstN (n := 2) dX2_takeDriver_76 ?_
    refine x_v2i dX2_takeDriver_77 okX2_isNumber ml_X2_55 rfl rfl (Nat.le_of_ble_eq_true rfl) ⟨by decide, by decide⟩ (Nat.le_of_ble_eq_true rfl) (c_num h1 (by decide) (by decide) (fun p _ hp => ?_))
    refine x_ifneP (tgt := 85) dX2_takeDriver_80 rfl (fun h80 => ?_) (fun h80 => ?_)
    · skip
      have n1 := hp.mp h80
      have n2 := n1.2.2
      refine x_aload_n (i := 1) dX2_takeDriver_85 rfl rfl ?_
      refine x_getr (i := 7) dX2_takeDriver_86 (sT0 isT13) rfl rfl (by decide) fl_X2_81 inX3 ?_
      refine x_iload_n (i := 3) dX2_takeDriver_89 rfl rfl ?_
      refine x_aload_n (i := 0) dX2_takeDriver_90 rfl rfl ?_
      refine x_getiE (i := 5) dX2_takeDriver_91 rfl rfl rfl (by decide) fl_X2_59 inX2 h1.2.1.2.2.2 ?_
      refine x_iastN dX2_takeDriver_94 (sT5 isT13) (by omega) (by decide) ?_
      have h4 := pc_fr h1 (fr_ui (t := 13) (k := 18) (by omega) (by omega)) (tw_setGo h1.2.2.1 d (show vS b L (nx b L s) < 3 by omega))
      refine x_aload_n (i := 0) dX2_takeDriver_95 rfl rfl ?_
      refine x_v0v dX2_takeDriver_96 okX2_nextToken ml_X2_22 rfl rfl (Nat.le_of_ble_eq_true rfl) ⟨by decide, by decide⟩ (Nat.le_of_ble_eq_true rfl) (c_next h4 (fun τ3 h3 hf3 => ?_))
      refine x_iconstN (n := 1) dX2_takeDriver_99 ?_
      exact x_iretz dX2_takeDriver_100 rfl (by decide) (by have e : pDi b L s d T = _ := (if_pos h67).trans (if_pos n1); rw [e] at hk; exact hk τ3 h3 (fp_tr hf1 (fp_tr (fr_fp (fr_ui (by omega) (by omega))) hf3)))
    · skip
      refine x_iconstN (n := 0) dX2_takeDriver_83 ?_
      exact x_iretz dX2_takeDriver_84 rfl (by decide) (by have e : pDi b L s d T = (false, nx b L s, T) := (if_pos h67).trans (if_neg (fun z => h80 (hp.mpr z))); rw [e] at hk; exact hk τ1 h1 hf1)
set_option maxHeartbeats 4000000 in
set_option maxRecDepth 20000 in
theorem l_drw {σ : xH} {K : Int32 → xH → Prop} {b : Nat → Int32} {L s d : Nat} {T : Tw} (h : pc σ b L s T) (hd : d < tN T) (x : Int32) (hk : ∀ τ, pc τ b L (pDw b L s d T).2.1 (pDw b L s d T).2.2 → fp σ τ → K (xb ((pDw b L s d T).1 = true)) τ) : Ex l (oC ad D cy) mX2_takeDriver 21 [some (.ref 19), some (.ref 13), some (.int x), some (.int (nI d))] [] σ (xQi K) := by
  have h8 := tw_8 h.2.2.1
  refine x_aload_n (i := 0) dX2_takeDriver_21 rfl rfl ?_
  refine x_ldcs (i := 6) rfl rfl dX2_takeDriver_22 ?_
  refine x_v1i dX2_takeDriver_24 okX2_isWord ml_X2_51 rfl rfl (Nat.le_of_ble_eq_true rfl) ⟨by decide, by decide⟩ (Nat.le_of_ble_eq_true rfl) (c_X2_isWord (w := 6) (by decide) h.1 h.2.1 h.2.2.2 ?_)
  refine x_ifeqP (tgt := 61) dX2_takeDriver_27 rfl (fun h27 => ?_) (fun h27 => ?_)
  · skip
    have e : pDw b L s d T = pDi b L s d T := if_neg h27
    rw [e] at hk
    exact l_dri h hd x hk
  · skip
    refine x_aload_n (i := 0) dX2_takeDriver_30 rfl rfl ?_
    refine x_v0v dX2_takeDriver_31 okX2_nextToken ml_X2_22 rfl rfl (Nat.le_of_ble_eq_true rfl) ⟨by decide, by decide⟩ (Nat.le_of_ble_eq_true rfl) (c_next h (fun τ1 h1 hf1 => ?_))
    refine x_aload_n (i := 0) dX2_takeDriver_34 rfl rfl ?_
    refine x_bipush (v := nI 10) dX2_takeDriver_35 (by decide) ?_
    refine x_bipush (v := nI 80) dX2_takeDriver_37 (by decide) ?_
    refine x_v2i dX2_takeDriver_39 okX2_isNumber ml_X2_55 rfl rfl (Nat.le_of_ble_eq_true rfl) ⟨by decide, by decide⟩ (Nat.le_of_ble_eq_true rfl) (c_num h1 (by decide) (by decide) (fun p _ hp => ?_))
    refine x_ifneP (tgt := 47) dX2_takeDriver_42 rfl (fun h42 => ?_) (fun h42 => ?_)
    · skip
      have n1 := hp.mp h42
      have n2 := n1.2.2
      refine x_aload_n (i := 1) dX2_takeDriver_47 rfl rfl ?_
      refine x_getr (i := 6) dX2_takeDriver_48 (sT0 isT13) rfl rfl (by decide) fl_X2_76 inX3 ?_
      refine x_iload_n (i := 3) dX2_takeDriver_51 rfl rfl ?_
      refine x_aload_n (i := 0) dX2_takeDriver_52 rfl rfl ?_
      refine x_getiE (i := 5) dX2_takeDriver_53 rfl rfl rfl (by decide) fl_X2_59 inX2 h1.2.1.2.2.2 ?_
      refine x_iastN dX2_takeDriver_56 (sT4 isT13) (by omega) (by decide) ?_
      have h4 := pc_fr h1 (fr_ui (t := 13) (k := 17) (by omega) (by omega)) (tw_setWs h1.2.2.1 d (nI (vS b L (nx b L s))))
      refine x_aload_n (i := 0) dX2_takeDriver_57 rfl rfl ?_
      refine x_v0v dX2_takeDriver_58 okX2_nextToken ml_X2_22 rfl rfl (Nat.le_of_ble_eq_true rfl) ⟨by decide, by decide⟩ (Nat.le_of_ble_eq_true rfl) (c_next h4 (fun τ3 h3 hf3 => ?_))
      have e : pDw b L s d T = _ := (if_pos h27).trans (if_pos n1)
      rw [e] at hk
      exact l_dri h3 hd x (fun τ a f => hk τ a (fp_tr hf1 (fp_tr (fr_fp (fr_ui (by omega) (by omega))) (fp_tr hf3 f))))
    · skip
      refine x_iconstN (n := 0) dX2_takeDriver_45 ?_
      exact x_iretz dX2_takeDriver_46 rfl (by decide) (by have e : pDw b L s d T = (false, nx b L s, T) := (if_pos h27).trans (if_neg (fun z => h42 (hp.mpr z))); rw [e] at hk; exact hk τ1 h1 hf1)
set_option maxHeartbeats 4000000 in
set_option maxRecDepth 20000 in
theorem c_X2_takeDriver {σ : xH} {K : Int32 → xH → Prop} {b : Nat → Int32} {L s : Nat} {T : Tw} (h : pc σ b L s T) (x : Int32) (hk : ∀ τ, pc τ b L (pDr b L s T x).2.1 (pDr b L s T x).2.2 → fp σ τ → K (xb ((pDr b L s T x).1 = true)) τ) : Evi l (oC ad D cy) mX2_takeDriver [.ref 19, .ref 13, .int x] σ K := by
  refine x_enter (ls := [some (.ref 19), some (.ref 13), some (.int x), none]) rfl ?_
  have h8 := tw_8 h.2.2.1
  refine x_aload_n (i := 1) dX2_takeDriver_0 rfl rfl ?_
  refine x_getiE (i := 2) dX2_takeDriver_1 (sT0 isT13) rfl rfl (by decide) fl_X2_67 inX3 (tw_n h.2.2.1) ?_
  refine x_bipush (v := nI 8) dX2_takeDriver_4 (by decide) ?_
  refine x_icltN (tgt := 11) (by omega) (by omega) dX2_takeDriver_6 rfl (fun h6 => ?_) (fun h6 => ?_)
  · skip
    refine x_aload_n (i := 1) dX2_takeDriver_11 rfl rfl ?_
    refine x_iload_n (i := 2) dX2_takeDriver_12 rfl rfl ?_
    refine x_v1i dX2_takeDriver_13 okX3_addDriver ml_X2_70 (sT0 isT13) rfl (Nat.le_of_ble_eq_true rfl) ⟨by decide, by decide⟩ (Nat.le_of_ble_eq_true rfl) (c_X3_addDriver isT13 h.2.2.1 h6 _ (fun τ1 hw1 hf1 => ?_))
    refine y_istore_n (i := 3) (ls2 := [_, _, _, _]) dX2_takeDriver_16 rfl (by decide) rfl rfl ?_
    refine x_aload_n (i := 0) dX2_takeDriver_17 rfl rfl ?_
    refine x_v0v dX2_takeDriver_18 okX2_nextToken ml_X2_22 rfl rfl (Nat.le_of_ble_eq_true rfl) ⟨by decide, by decide⟩ (Nat.le_of_ble_eq_true rfl) (c_next (pc_fr h hf1 hw1) (fun τ2 h2 hf2 => ?_))
    have e : pDr b L s T x = _ := if_pos h6
    rw [e] at hk
    exact l_drw h2 (Nat.lt_succ_self _) x (fun τ a f => hk τ a (fp_tr (fr_fp hf1) (fp_tr hf2 f)))
  · skip
    refine x_iconstN (n := 0) dX2_takeDriver_9 ?_
    exact x_iretz dX2_takeDriver_10 rfl (by decide) (by have e : pDr b L s T x = (false, s, T) := if_neg (by omega); rw [e] at hk; exact hk σ h (fp_rf σ))
end
