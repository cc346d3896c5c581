section
variable {l : Launch} {ad : Nat → Nat} {D : va_G} {cy : Nat → ClassId}
abbrev Pr : Type := Bool × Nat × Tw
def pTh (b : Nat → Int32) (L s : Nat) (T : Tw) (v : Int32) : Pr := if num b L (nx b L s) 0 2 then (if num b L (nx b L (nx b L s)) 0 19 then (true, nx b L (nx b L (nx b L s)), layT T (vS b L (nx b L s) * 20 + vS b L (nx b L (nx b L s))) v) else (false, nx b L (nx b L s), T)) else (false, nx b L s, T)
set_option maxHeartbeats 4000000 in
set_option maxRecDepth 20000 in
theorem c_X2_takeThing {σ : xH} {K : Int32 → xH → Prop} {b : Nat → Int32} {L s : Nat} {T : Tw} (h : pc σ b L s T) (v : Int32) (hk : ∀ τ, pc τ b L (pTh b L s T v).2.1 (pTh b L s T v).2.2 → fp σ τ → K (xb ((pTh b L s T v).1 = true)) τ) : Evi l (oC ad D cy) mX2_takeThing [.ref 19, .ref 13, .int v] σ K := by
  refine x_enter (ls := [some (.ref 19), some (.ref 13), some (.int v), none]) rfl ?_
  refine x_aload_n (i := 0) dX2_takeThing_0 rfl rfl ?_
  refine x_v0v dX2_takeThing_1 okX2_nextToken ml_X2_22 rfl rfl (Nat.le_of_ble_eq_true rfl) ⟨by decide, by decide⟩ (Nat.le_of_ble_eq_true rfl) (c_next h (fun τ1 h1 hf1 => ?_))
  refine x_aload_n (i := 0) dX2_takeThing_4 rfl rfl ?_
  refine x_iconstN (n := 0) dX2_takeThing_5 ?_
  refine x_iconstN (n := 2) dX2_takeThing_6 ?_
  refine x_v2i dX2_takeThing_7 okX2_isNumber ml_X2_55 rfl rfl (Nat.le_of_ble_eq_true rfl) ⟨by decide, by decide⟩ (Nat.le_of_ble_eq_true rfl) (c_num h1 (by decide) (by decide) (fun p _ hp => ?_))
  refine x_ifneP (tgt := 15) dX2_takeThing_10 rfl (fun h10 => ?_) (fun h10 => ?_)
  · skip
    have n1 := hp.mp h10
    refine x_aload_n (i := 0) dX2_takeThing_15 rfl rfl ?_
    refine x_getiE (i := 5) dX2_takeThing_16 rfl rfl rfl (by decide) fl_X2_59 inX2 h1.2.1.2.2.2 ?_
    refine y_istore_n (i := 3) (ls2 := [_, _, _, _]) dX2_takeThing_19 rfl (by decide) rfl rfl ?_
    refine x_aload_n (i := 0) dX2_takeThing_20 rfl rfl ?_
    refine x_v0v dX2_takeThing_21 okX2_nextToken ml_X2_22 rfl rfl (Nat.le_of_ble_eq_true rfl) ⟨by decide, by decide⟩ (Nat.le_of_ble_eq_true rfl) (c_next h1 (fun τ2 h2 hf2 => ?_))
    refine x_aload_n (i := 0) dX2_takeThing_24 rfl rfl ?_
    refine x_iconstN (n := 0) dX2_takeThing_25 ?_
    refine x_bipush (v := nI 19) dX2_takeThing_26 (by decide) ?_
    refine x_v2i dX2_takeThing_28 okX2_isNumber ml_X2_55 rfl rfl (Nat.le_of_ble_eq_true rfl) ⟨by decide, by decide⟩ (Nat.le_of_ble_eq_true rfl) (c_num h2 (by decide) (by decide) (fun p _ hp => ?_))
    refine x_ifneP (tgt := 36) dX2_takeThing_31 rfl (fun h31 => ?_) (fun h31 => ?_)
    · skip
      have n2 := hp.mp h31
      refine x_aload_n (i := 1) dX2_takeThing_36 rfl rfl ?_
      refine x_iload_n (i := 3) dX2_takeThing_37 rfl rfl ?_
      refine x_aload_n (i := 0) dX2_takeThing_38 rfl rfl ?_
      refine x_getiE (i := 5) dX2_takeThing_39 rfl rfl rfl (by decide) fl_X2_59 inX2 h2.2.1.2.2.2 ?_
      refine x_iload_n (i := 2) dX2_takeThing_42 rfl rfl ?_
      refine x_v3v dX2_takeThing_43 okX3_lay ml_X2_84 (sT0 isT13) rfl (Nat.le_of_ble_eq_true rfl) ⟨by decide, by decide⟩ (Nat.le_of_ble_eq_true rfl) (c_X3_lay isT13 h2.2.2.1 (by omega) (by omega) _ (fun τ4 hw4 hf4 => ?_))
      have h4 := pc_fr h2 hf4 hw4
      refine x_aload_n (i := 0) dX2_takeThing_46 rfl rfl ?_
      refine x_v0v dX2_takeThing_47 okX2_nextToken ml_X2_22 rfl rfl (Nat.le_of_ble_eq_true rfl) ⟨by decide, by decide⟩ (Nat.le_of_ble_eq_true rfl) (c_next h4 (fun τ3 h3 hf3 => ?_))
      refine x_iconstN (n := 1) dX2_takeThing_50 ?_
      exact x_iretz dX2_takeThing_51 rfl (by decide) (by have e : pTh b L s T v = _ := (if_pos n1).trans (if_pos n2); rw [e] at hk; exact hk τ3 h3 (fp_tr hf1 (fp_tr hf2 (fp_tr (fr_fp hf4) hf3))))
    · skip
      refine x_iconstN (n := 0) dX2_takeThing_34 ?_
      exact x_iretz dX2_takeThing_35 rfl (by decide) (by have e : pTh b L s T v = (false, nx b L (nx b L s), T) := (if_pos n1).trans (if_neg (fun z => h31 (hp.mpr z))); rw [e] at hk; exact hk τ2 h2 (fp_tr hf1 hf2))
  · skip
    refine x_iconstN (n := 0) dX2_takeThing_13 ?_
    exact x_iretz dX2_takeThing_14 rfl (by decide) (by have e : pTh b L s T v = (false, nx b L s, T) := if_neg (fun z => h10 (hp.mpr z)); rw [e] at hk; exact hk τ1 h1 hf1)
end
