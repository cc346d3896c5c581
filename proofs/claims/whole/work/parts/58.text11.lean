section
variable {l : Launch} {ad : Nat → Nat} {D : va_G} {cy : Nat → ClassId}
theorem cS_fp0 {σ τ : xH} {S : St} (h : cS σ S) (f : fp σ τ) : cS (xpi τ 19 1 (nI 0)) (pTape S 0 (gB S)) := by
  obtain ⟨h1, h2, h3, h4, h5, h6, h7, h8⟩ := h
  have key : ∀ q, (q < 13 ∨ 19 < q) → (xpi τ 19 1 (nI 0)).1 q = σ.1 q := fun q hq => (xui_o _ _ (by omega)).trans (f.2 q hq)
  refine ⟨tw_keep h1 (fun j hj => key _ (by omega)), by rw [key 0 (by omega)]; exact h2, fun U hU => tw_keep (h3 U hU) (fun j hj => key _ (by omega)), xp_s, fun i hi => absurd hi (Nat.not_lt_zero _), Nat.zero_le _, fun j hj => sh_keep (h7 j hj) (key _ (by omega)) (congrFun f.1 _), fun i hi => by rw [key 30 (by omega)]; exact h8 i hi⟩
set_option maxHeartbeats 4000000 in
set_option maxRecDepth 20000 in
theorem c_X4_town {σ : xH} {K : Int32 → xH → Prop} {S : St} (hS : cS σ S)  (hk : ∀ τ, cS τ (oTown S).2 → K (oTown S).1 τ) : Evi l (oC ad D cy) mX4_town [.ref 0] σ K := by
  have hw := hS.1
  have h8 := tw_8 hw
  refine x_enter (ls := [some (.ref 0), none]) rfl ?_
  have hp0 := hS.2.2.2.1
  unfold oTown at hk
  refine x_aload_n (i := 0) dX4_town_0 rfl rfl ?_
  refine x_getr (i := 2) dX4_town_1 rfl rfl rfl (by decide) fl_X4_19 inX4 ?_
  refine x_aload_n (i := 0) dX4_town_4 rfl rfl ?_
  refine x_getr (i := 0) dX4_town_5 rfl rfl rfl (by decide) fl_X4_10 inX4 ?_
  refine x_v1v dX4_town_8 okX3_becomeLike ml_X4_152 (sT0 isT13) rfl (Nat.le_of_ble_eq_true rfl) ⟨by decide, by decide⟩ (Nat.le_of_ble_eq_true rfl) (c_X3_becomeLike isT13 isT1 hw (by omega) (fun τ hw1 hf1 => ?_))
  refine x_aload_n (i := 0) dX4_town_11 rfl rfl ?_
  refine x_getr (i := 3) dX4_town_12 rfl rfl rfl (by decide) fl_X4_25 inX4 ?_
  refine x_aload_n (i := 0) dX4_town_15 rfl rfl ?_
  refine x_getr (i := 2) dX4_town_16 rfl rfl rfl (by decide) fl_X4_19 inX4 ?_
  have hS1 := cS_13 hS hf1
  refine x_v1i dX4_town_19 okX2_tellInto ml_X4_179 rfl rfl (Nat.le_of_ble_eq_true rfl) ⟨by decide, by decide⟩ (Nat.le_of_ble_eq_true rfl) (c_X2_tellInto (b := gB S) (L := gL S) ⟨hS1.2.2.2.1, hS1.2.2.2.2.1, hS1.2.2.2.2.2.1⟩ hw1 (fun υ hw2 hf2 => ?_))
  refine y_istore_n (i := 1) (ls2 := [_, _]) dX4_town_22 rfl (by decide) rfl rfl ?_
  refine x_aload_n (i := 0) dX4_town_23 rfl rfl ?_
  refine x_getr (i := 3) dX4_town_24 rfl rfl rfl (by decide) fl_X4_25 inX4 ?_
  refine x_iconstN (n := 0) dX4_town_27 ?_
  refine x_puti (i := 1) (ty := .int) dX4_town_28 rfl rfl rfl (by decide) fl_X4_172 inX2 tyX2_ok nmX2 rfl rfl rfl rfl ?_
  refine x_iload_n (i := 1) dX4_town_31 rfl rfl ?_
  refine x_iflt (tgt := 46) dX4_town_32 rfl (fun h32 => ?_) (fun h32 => ?_)
  · skip
    refine x_iload_n (i := 1) dX4_town_46 rfl rfl ?_
    exact x_ireti dX4_town_47 rfl (by first | (rw [if_pos h32] at hk; exact hk _ (cS_fp0 hS1 hf2)) | (rw [if_neg h32] at hk; exact hk ω (cS_1 (cS_fp0 hS1 hf2) hf4 hw4)))
  · skip
    refine x_aload_n (i := 0) dX4_town_35 rfl rfl ?_
    refine x_getr (i := 0) dX4_town_36 rfl rfl rfl (by decide) fl_X4_10 inX4 ?_
    refine x_aload_n (i := 0) dX4_town_39 rfl rfl ?_
    refine x_getr (i := 2) dX4_town_40 rfl rfl rfl (by decide) fl_X4_19 inX4 ?_
    have hw3 : tw (xpi υ 19 1 (nI 0)) 13 (pTn (gB S) (gL S) (gT S)).2 := tw_keep hw2 (fun j hj => xui_o _ _ (by omega))
    refine x_v1v dX4_town_43 okX3_becomeLike ml_X4_152 (sT0 isT1) rfl (Nat.le_of_ble_eq_true rfl) ⟨by decide, by decide⟩ (Nat.le_of_ble_eq_true rfl) (c_X3_becomeLike isT1 isT13 hw3 (by omega) (fun ω hw4 hf4 => ?_))
    refine x_iload_n (i := 1) dX4_town_46 rfl rfl ?_
    exact x_ireti dX4_town_47 rfl (by first | (rw [if_pos h32] at hk; exact hk _ (cS_fp0 hS1 hf2)) | (rw [if_neg h32] at hk; exact hk ω (cS_1 (cS_fp0 hS1 hf2) hf4 hw4)))
end
