section
variable {l : Launch} {ad : Nat → Nat} {D : va_G} {cy : Nat → ClassId}
def pIt (b : Nat → Int32) (L s : Nat) (T : Tw) : Pr := if kS b L s = 1 then (if kN b L s < 0 then (if tNm b L s < 0 then (if isW b L s 13 = true then (if num b L (nx b L s) 1 6 then (true, nx b L (nx b L s), setIn T (nI (vS b L (nx b L s)))) else (false, nx b L s, T)) else (false, s, T)) else pTh b L s T (tNm b L s)) else pDr b L s T (kN b L s)) else (false, s, T)
def pAll (b : Nat → Int32) (L : Nat) : Nat → Nat → Tw → Nat → Int32 × Tw
  | 0, s, T, _ => (-1 - nI s, T)
  | f + 1, s, T, m => if (pIt b L s T).1 = true then (if kS b L (pIt b L s T).2.1 = 0 then (nI m, (pIt b L s T).2.2) else if kS b L (pIt b L s T).2.1 = 3 then pAll b L f (nx b L (pIt b L s T).2.1) (pIt b L s T).2.2 (m + 1) else (-1 - nI (pIt b L s T).2.1, (pIt b L s T).2.2)) else (-1 - nI (pIt b L s T).2.1, (pIt b L s T).2.2)
set_option maxHeartbeats 4000000 in
set_option maxRecDepth 20000 in
theorem c_X2_takeItem {σ : xH} {K : Int32 → xH → Prop} {b : Nat → Int32} {L s : Nat} {T : Tw} (h : pc σ b L s T) (hk : ∀ τ, pc τ b L (pIt b L s T).2.1 (pIt b L s T).2.2 → fp σ τ → K (xb ((pIt b L s T).1 = true)) τ) : Evi l (oC ad D cy) mX2_takeItem [.ref 19, .ref 13] σ K := by
  refine x_enter (ls := [some (.ref 19), some (.ref 13), none, none]) rfl ?_
  have h4 := kS_4 b L s
  refine x_aload_n (i := 0) dX2_takeItem_0 rfl rfl ?_
  refine x_getiE (i := 2) dX2_takeItem_1 rfl rfl rfl (by decide) fl_X2_32 inX2 h.2.1.1 ?_
  refine x_iconstN (n := 1) dX2_takeItem_4 ?_
  refine x_iceqN (tgt := 10) (by omega) (by omega) dX2_takeItem_5 rfl (fun h5 => ?_) (fun h5 => ?_)
  · skip
    refine x_aload_n (i := 0) dX2_takeItem_10 rfl rfl ?_
    refine x_v0i dX2_takeItem_11 okX2_kindNamed ml_X2_35 rfl rfl (Nat.le_of_ble_eq_true rfl) ⟨by decide, by decide⟩ (Nat.le_of_ble_eq_true rfl) (c_X2_kindNamed h ?_)
    refine y_istore_n (i := 2) (ls2 := [_, _, _, _]) dX2_takeItem_14 rfl (by decide) rfl rfl ?_
    refine x_iload_n (i := 2) dX2_takeItem_15 rfl rfl ?_
    refine x_iflt (tgt := 26) dX2_takeItem_16 rfl (fun h16 => ?_) (fun h16 => ?_)
    · skip
      refine x_aload_n (i := 0) dX2_takeItem_26 rfl rfl ?_
      refine x_v0i dX2_takeItem_27 okX2_thingNamed ml_X2_43 rfl rfl (Nat.le_of_ble_eq_true rfl) ⟨by decide, by decide⟩ (Nat.le_of_ble_eq_true rfl) (c_X2_thingNamed h ?_)
      refine y_istore_n (i := 3) (ls2 := [_, _, _, _]) dX2_takeItem_30 rfl (by decide) rfl rfl ?_
      refine x_iload_n (i := 3) dX2_takeItem_31 rfl rfl ?_
      refine x_iflt (tgt := 42) dX2_takeItem_32 rfl (fun h32 => ?_) (fun h32 => ?_)
      · skip
        refine x_aload_n (i := 0) dX2_takeItem_42 rfl rfl ?_
        refine x_ldcs (i := 13) rfl rfl dX2_takeItem_43 ?_
        refine x_v1i dX2_takeItem_45 okX2_isWord ml_X2_51 rfl rfl (Nat.le_of_ble_eq_true rfl) ⟨by decide, by decide⟩ (Nat.le_of_ble_eq_true rfl) (c_X2_isWord (w := 13) (by decide) h.1 h.2.1 h.2.2.2 ?_)
        refine x_ifneP (tgt := 53) dX2_takeItem_48 rfl (fun h48 => ?_) (fun h48 => ?_)
        · skip
          refine x_aload_n (i := 0) dX2_takeItem_53 rfl rfl ?_
          refine x_v0v dX2_takeItem_54 okX2_nextToken ml_X2_22 rfl rfl (Nat.le_of_ble_eq_true rfl) ⟨by decide, by decide⟩ (Nat.le_of_ble_eq_true rfl) (c_next h (fun τ1 h1 hf1 => ?_))
          refine x_aload_n (i := 0) dX2_takeItem_57 rfl rfl ?_
          refine x_iconstN (n := 1) dX2_takeItem_58 ?_
          refine x_bipush (v := nI 6) dX2_takeItem_59 (by decide) ?_
          refine x_v2i dX2_takeItem_61 okX2_isNumber ml_X2_55 rfl rfl (Nat.le_of_ble_eq_true rfl) ⟨by decide, by decide⟩ (Nat.le_of_ble_eq_true rfl) (c_num h1 (by decide) (by decide) (fun p _ hp => ?_))
          refine x_ifneP (tgt := 69) dX2_takeItem_64 rfl (fun h64 => ?_) (fun h64 => ?_)
          · skip
            have n1 := hp.mp h64
            refine x_aload_n (i := 1) dX2_takeItem_69 rfl rfl ?_
            refine x_aload_n (i := 0) dX2_takeItem_70 rfl rfl ?_
            refine x_getiE (i := 5) dX2_takeItem_71 rfl rfl rfl (by decide) fl_X2_59 inX2 h1.2.1.2.2.2 ?_
            refine x_puti (i := 1) (ty := .int) dX2_takeItem_74 (sT0 isT13) rfl rfl (by decide) fl_X2_62 inX3 tyX3_ok nmX3 rfl rfl rfl rfl ?_
            have h9 := pc_fr h1 (fr_ui (t := 13) (k := 13) (by omega) (by omega)) (tw_setIn h1.2.2.1 (nI (vS b L (nx b L s))))
            refine x_aload_n (i := 0) dX2_takeItem_77 rfl rfl ?_
            refine x_v0v dX2_takeItem_78 okX2_nextToken ml_X2_22 rfl rfl (Nat.le_of_ble_eq_true rfl) ⟨by decide, by decide⟩ (Nat.le_of_ble_eq_true rfl) (c_next h9 (fun τ3 h3 hf3 => ?_))
            refine x_iconstN (n := 1) dX2_takeItem_81 ?_
            exact x_iretz dX2_takeItem_82 rfl (by decide) (by have e : pIt b L s T = _ := (if_pos h5).trans ((if_pos h16).trans ((if_pos h32).trans ((if_pos h48).trans (if_pos n1)))); rw [e] at hk; exact hk τ3 h3 (fp_tr hf1 (fp_tr (fr_fp (fr_ui (by omega) (by omega))) hf3)))
          · skip
            refine x_iconstN (n := 0) dX2_takeItem_67 ?_
            exact x_iretz dX2_takeItem_68 rfl (by decide) (by have e : pIt b L s T = (false, nx b L s, T) := (if_pos h5).trans ((if_pos h16).trans ((if_pos h32).trans ((if_pos h48).trans (if_neg (fun z => h64 (hp.mpr z)))))); rw [e] at hk; exact hk τ1 h1 hf1)
        · skip
          refine x_iconstN (n := 0) dX2_takeItem_51 ?_
          exact x_iretz dX2_takeItem_52 rfl (by decide) (by have e : pIt b L s T = (false, s, T) := (if_pos h5).trans ((if_pos h16).trans ((if_pos h32).trans (if_neg h48))); rw [e] at hk; exact hk σ h (fp_rf σ))
      · skip
        refine x_aload_n (i := 0) dX2_takeItem_35 rfl rfl ?_
        refine x_aload_n (i := 1) dX2_takeItem_36 rfl rfl ?_
        refine x_iload_n (i := 3) dX2_takeItem_37 rfl rfl ?_
        refine x_v2i dX2_takeItem_38 okX2_takeThing ml_X2_46 rfl rfl (Nat.le_of_ble_eq_true rfl) ⟨by decide, by decide⟩ (Nat.le_of_ble_eq_true rfl) (c_X2_takeThing h _ (fun τ1 a1 f1 => ?_))
        exact x_iretz dX2_takeItem_41 rfl (xb_01 _) (by have e : pIt b L s T = _ := (if_pos h5).trans ((if_pos h16).trans (if_neg h32)); rw [e] at hk; exact hk τ1 a1 f1)
    · skip
      refine x_aload_n (i := 0) dX2_takeItem_19 rfl rfl ?_
      refine x_aload_n (i := 1) dX2_takeItem_20 rfl rfl ?_
      refine x_iload_n (i := 2) dX2_takeItem_21 rfl rfl ?_
      refine x_v2i dX2_takeItem_22 okX2_takeDriver ml_X2_39 rfl rfl (Nat.le_of_ble_eq_true rfl) ⟨by decide, by decide⟩ (Nat.le_of_ble_eq_true rfl) (c_X2_takeDriver h _ (fun τ1 a1 f1 => ?_))
      exact x_iretz dX2_takeItem_25 rfl (xb_01 _) (by have e : pIt b L s T = _ := (if_pos h5).trans (if_neg h16); rw [e] at hk; exact hk τ1 a1 f1)
  · skip
    refine x_iconstN (n := 0) dX2_takeItem_8 ?_
    exact x_iretz dX2_takeItem_9 rfl (by decide) (by have e : pIt b L s T = (false, s, T) := if_neg h5; rw [e] at hk; exact hk σ h (fp_rf σ))
set_option maxHeartbeats 4000000 in
set_option maxRecDepth 20000 in
theorem l_X2_tellInto {σ0 : xH} {K : Int32 → xH → Prop} {b : Nat → Int32} {L : Nat} : ∀ (f s m : Nat) (T : Tw) (σ : xH), m + f = 121 → pc σ b L s T → fp σ0 σ → (∀ τ, tw τ 13 (pAll b L f s T m).2 → fp σ0 τ → K (pAll b L f s T m).1 τ) → Ex l (oC ad D cy) mX2_tellInto 11 [some (.ref 19), some (.ref 13), some (.int (nI m))] [] σ (xQi K) := by
  intro f
  induction f with
  | zero =>
    intro s m T σ hm h hf hk
    refine x_iload_n (i := 2) dX2_tellInto_11 rfl rfl ?_
    refine x_bipush (v := nI 120) dX2_tellInto_12 (by decide) ?_
    refine x_icgtN (tgt := 66) (by omega) (by omega) dX2_tellInto_14 rfl (fun h14 => ?_) (fun h14 => ?_)
    · skip
      refine x_iconst (v := -1) dX2_tellInto_66 (by decide) ?_
      refine x_aload_n (i := 0) dX2_tellInto_67 rfl rfl ?_
      refine x_getiE (i := 3) dX2_tellInto_68 rfl rfl rfl (by decide) fl_X2_29 inX2 h.2.1.2.1 ?_
      refine x_isub dX2_tellInto_71 ?_
      exact x_ireti dX2_tellInto_72 rfl (hk σ h.2.2.1 hf)
    · exact absurd h14 (by omega)
  | succ f ih =>
    intro s m T σ hm h hf hk
    rw [pAll] at hk
    refine x_iload_n (i := 2) dX2_tellInto_11 rfl rfl ?_
    refine x_bipush (v := nI 120) dX2_tellInto_12 (by decide) ?_
    refine x_icgtN (tgt := 66) (by omega) (by omega) dX2_tellInto_14 rfl (fun h14 => ?_) (fun h14 => ?_)
    · exact absurd h14 (by omega)
    · skip
      refine x_aload_n (i := 0) dX2_tellInto_17 rfl rfl ?_
      refine x_aload_n (i := 1) dX2_tellInto_18 rfl rfl ?_
      refine x_v1i dX2_tellInto_19 okX2_takeItem ml_X2_25 rfl rfl (Nat.le_of_ble_eq_true rfl) ⟨by decide, by decide⟩ (Nat.le_of_ble_eq_true rfl) (c_X2_takeItem h (fun τ1 a1 f1 => ?_))
      refine x_ifneP (tgt := 32) dX2_tellInto_22 rfl (fun h22 => ?_) (fun h22 => ?_)
      · skip
        have h4 := kS_4 b L (pIt b L s T).2.1
        refine x_aload_n (i := 0) dX2_tellInto_32 rfl rfl ?_
        refine x_getiE (i := 2) dX2_tellInto_33 rfl rfl rfl (by decide) fl_X2_32 inX2 a1.2.1.1 ?_
        refine x_ifne (tgt := 41) dX2_tellInto_36 rfl (fun h36 => ?_) (fun h36 => ?_)
        · skip
          have hz : ¬ kS b L (pIt b L s T).2.1 = 0 := fun z => h36 (by rw [z]; rfl)
          refine x_aload_n (i := 0) dX2_tellInto_41 rfl rfl ?_
          refine x_getiE (i := 2) dX2_tellInto_42 rfl rfl rfl (by decide) fl_X2_32 inX2 a1.2.1.1 ?_
          refine x_iconstN (n := 3) dX2_tellInto_45 ?_
          refine x_iceqN (tgt := 56) (by omega) (by omega) dX2_tellInto_46 rfl (fun h46 => ?_) (fun h46 => ?_)
          · skip
            refine x_aload_n (i := 0) dX2_tellInto_56 rfl rfl ?_
            refine x_v0v dX2_tellInto_57 okX2_nextToken ml_X2_22 rfl rfl (Nat.le_of_ble_eq_true rfl) ⟨by decide, by decide⟩ (Nat.le_of_ble_eq_true rfl) (c_next a1 (fun τ2 h2 hf2 => ?_))
            refine y_iincN (i := 2) (ls2 := [_, _, _]) dX2_tellInto_60 rfl (by decide) rfl rfl ?_
            refine x_goto (tgt := 11) dX2_tellInto_63 rfl ?_
            rw [if_pos h22, if_neg hz, if_pos h46] at hk
            exact ih _ (m + 1) _ τ2 (by omega) h2 (fp_tr hf (fp_tr f1 hf2)) hk
          · skip
            refine x_iconst (v := -1) dX2_tellInto_49 (by decide) ?_
            refine x_aload_n (i := 0) dX2_tellInto_50 rfl rfl ?_
            refine x_getiE (i := 3) dX2_tellInto_51 rfl rfl rfl (by decide) fl_X2_29 inX2 a1.2.1.2.1 ?_
            refine x_isub dX2_tellInto_54 ?_
            exact x_ireti dX2_tellInto_55 rfl (by rw [if_pos h22, if_neg hz, if_neg h46] at hk; exact hk τ1 a1.2.2.1 (fp_tr hf f1))
        · skip
          refine x_iload_n (i := 2) dX2_tellInto_39 rfl rfl ?_
          exact x_ireti dX2_tellInto_40 rfl (by rw [if_pos h22, if_pos (nI0 (by omega) h36)] at hk; exact hk τ1 a1.2.2.1 (fp_tr hf f1))
      · skip
        refine x_iconst (v := -1) dX2_tellInto_25 (by decide) ?_
        refine x_aload_n (i := 0) dX2_tellInto_26 rfl rfl ?_
        refine x_getiE (i := 3) dX2_tellInto_27 rfl rfl rfl (by decide) fl_X2_29 inX2 a1.2.1.2.1 ?_
        refine x_isub dX2_tellInto_30 ?_
        exact x_ireti dX2_tellInto_31 rfl (by rw [if_neg h22] at hk; exact hk τ1 a1.2.2.1 (fp_tr hf f1))
end
