section
variable {l : Launch} {ad : Nat → Nat} {D : va_G} {cy : Nat → ClassId}
set_option maxHeartbeats 4000000 in
set_option maxRecDepth 20000 in
theorem c_X5_wipe {σ : xH} {K : Int32 → xH → Prop} {S : St} (hS : mS σ S) (hO : tOk (gT S))  (hk : ∀ τ, mS τ (oWipe S).2 → K (oWipe S).1 τ) : Evi l (oM ad D cy) mX5_wipe [.ref 0] σ K := by
  have hs := hS.1
  have h8 := ms_8 hs
  refine x_enter (ls := [some (.ref 0), none]) rfl ?_
  refine x_aload_n (i := 0) dX5_wipe_0 rfl rfl ?_
  refine x_getiE (i := 9) dX5_wipe_1 rfl rfl rfl (by decide) fl_X5_166 inX5 hS.2.2.2.1 ?_
  refine y_istore_n (i := 1) (ls2 := [_, _]) dX5_wipe_4 rfl (by decide) rfl rfl ?_
  refine x_aload_n (i := 0) dX5_wipe_5 rfl rfl ?_
  refine x_iconstN (n := 0) dX5_wipe_6 ?_
  refine x_puti (i := 9) (ty := .int) dX5_wipe_7 rfl rfl rfl (by decide) fl_X5_166 inX5 tyX5_ok nmX5 rfl rfl rfl rfl ?_
  refine x_iload_n (i := 1) dX5_wipe_10 rfl rfl ?_
  exact x_ireti dX5_wipe_11 rfl (hk _ (mS_tape hS rfl (fun q h0 _ => xui_o _ _ h0) (fun i hi => by simp [xui, upd, hi]) (by simp [xui, upd]) (fun i hi => absurd hi (Nat.not_lt_zero _)) (by omega)))
set_option maxHeartbeats 4000000 in
set_option maxRecDepth 20000 in
theorem l_X5_image {K : Int32 → xH → Prop} {σ0 : xH} (hk : ∀ τ, (∀ j, j < 147 → τ.1 2 j = σ0.1 1 j) → fc 2 σ0 τ → K 1 (xpi τ 0 3 (nI 1))) : ∀ (n i : Nat) (σ : xH), i + n = 147 → (∀ j, j < i → σ.1 2 j = σ0.1 1 j) → (fc 2 σ0 σ) → Ex l (oM ad D cy) mX5_image 2 [some (.ref 0), some (.int (nI i))] [] σ (xQi K) := by
  intro n
  induction n with
  | zero =>
    intro i σ hi h1 hf
    have hi : i = 147 := by omega
    subst hi
    refine x_iload_n (i := 1) dX5_image_2 rfl rfl ?_
    refine x_sipush (v := nI 147) dX5_image_3 (by decide) ?_
    refine x_icgeN (tgt := 27) (by omega) (by omega) dX5_image_6 rfl (fun h6 => ?_) (fun h6 => ?_)
    · skip
      refine x_aload_n (i := 0) dX5_image_27 rfl rfl ?_
      refine x_iconstN (n := 1) dX5_image_28 ?_
      refine x_puti (i := 3) (ty := .boolean) dX5_image_29 rfl rfl rfl (by decide) fl_X5_243 inX5 tyX5_ok nmX5 rfl rfl rfl rfl ?_
      refine x_iconstN (n := 1) dX5_image_32 ?_
      exact x_ireti dX5_image_33 rfl (hk σ h1 hf)
    · exact absurd h6 (by omega)
  | succ n ih =>
    intro i σ hi h1 hf
    refine x_iload_n (i := 1) dX5_image_2 rfl rfl ?_
    refine x_sipush (v := nI 147) dX5_image_3 (by decide) ?_
    refine x_icgeN (tgt := 27) (by omega) (by omega) dX5_image_6 rfl (fun h6 => ?_) (fun h6 => ?_)
    · exact absurd h6 (by omega)
    · skip
      refine x_aload_n (i := 0) dX5_image_9 rfl rfl ?_
      refine x_getr (i := 1) dX5_image_10 rfl rfl rfl (by decide) fl_X5_13 inX5 ?_
      refine x_iload_n (i := 1) dX5_image_13 rfl rfl ?_
      refine x_aload_n (i := 0) dX5_image_14 rfl rfl ?_
      refine x_getr (i := 0) dX5_image_15 rfl rfl rfl (by decide) fl_X5_9 inX5 ?_
      refine x_iload_n (i := 1) dX5_image_18 rfl rfl ?_
      refine x_ialdE dX5_image_19 rfl (by omega) (by decide) (show _ = σ0.1 1 i by rw [hf.2 1 (by decide)]) ?_
      refine x_iastN dX5_image_20 rfl (by omega) (by decide) ?_
      refine y_iincN (i := 1) (ls2 := [_, _]) dX5_image_21 rfl (by decide) rfl rfl ?_
      refine x_goto (tgt := 2) dX5_image_24 rfl ?_
      exact ih (i + 1) _ (by omega) (fun j hj => by rw [xui_s]; unfold upd; exact if e : j = i then (by rw [if_pos e, e]) else (by rw [if_neg e]; exact h1 j (by omega))) ⟨hf.1, fun q hq => (xui_o _ _ hq).trans (hf.2 q hq)⟩
set_option maxHeartbeats 4000000 in
set_option maxRecDepth 20000 in
theorem c_X5_image {σ : xH} {K : Int32 → xH → Prop} {S : St} (hS : mS σ S) (hO : tOk (gT S))  (hk : ∀ τ, mS τ (oImage S).2 → K (oImage S).1 τ) : Evi l (oM ad D cy) mX5_image [.ref 0] σ K := by
  have hs := hS.1
  have h8 := ms_8 hs
  refine x_enter (ls := [some (.ref 0), none]) rfl ?_
  refine x_iconstN (n := 0) dX5_image_0 ?_
  refine y_istore_n (i := 1) (ls2 := [_, _]) dX5_image_1 rfl (by decide) rfl rfl ?_
  exact l_X5_image (fun τ h1 hf => hk _ (mS_kept (k := some (gT S)) hS hf.1 (fun q h0 h2 => (xui_o _ _ h0).trans (hf.2 q h2)) (fun i hi => by rw [xp_o hi, hf.2 0 (by omega)]) (by rw [xp_s]; rfl) (fun U hU => by
        have hU : gT S = U := Option.some.inj hU
        subst hU
        exact ms_keep hs (fun i hi => by rw [xui_o _ _ (by omega)]; exact h1 i hi)))) 147 0 σ rfl (fun j hj => absurd hj (Nat.not_lt_zero _)) ⟨rfl, fun _ _ => rfl⟩
set_option maxHeartbeats 4000000 in
set_option maxRecDepth 20000 in
theorem l_X5_undo {K : Int32 → xH → Prop} {σ0 : xH} {U : Tw} (hu : ms σ0 2 U) (hk : ∀ τ, ms τ 1 U → fc 1 σ0 τ → K (nI (tN U)) τ) : ∀ (n i : Nat) (σ : xH), i + n = 147 → (∀ j, j < i → σ.1 1 j = σ0.1 2 j) → (fc 1 σ0 σ) → Ex l (oM ad D cy) mX5_undo 15 [some (.ref 0), some (.int (nI i))] [] σ (xQi K) := by
  intro n
  induction n with
  | zero =>
    intro i σ hi h1 hf
    have hi : i = 147 := by omega
    subst hi
    refine x_iload_n (i := 1) dX5_undo_15 rfl rfl ?_
    refine x_sipush (v := nI 147) dX5_undo_16 (by decide) ?_
    refine x_icgeN (tgt := 40) (by omega) (by omega) dX5_undo_19 rfl (fun h19 => ?_) (fun h19 => ?_)
    · skip
      have hu1 : ms σ 1 U := ms_keep hu h1
      refine x_aload_n (i := 0) dX5_undo_40 rfl rfl ?_
      refine x_getr (i := 0) dX5_undo_41 rfl rfl rfl (by decide) fl_X5_9 inX5 ?_
      refine x_iconstN (n := 2) dX5_undo_44 ?_
      refine x_ialdE dX5_undo_45 rfl (by omega) (by decide) (ms_n hu1) ?_
      exact x_ireti dX5_undo_46 rfl (hk σ hu1 hf)
    · exact absurd h19 (by omega)
  | succ n ih =>
    intro i σ hi h1 hf
    refine x_iload_n (i := 1) dX5_undo_15 rfl rfl ?_
    refine x_sipush (v := nI 147) dX5_undo_16 (by decide) ?_
    refine x_icgeN (tgt := 40) (by omega) (by omega) dX5_undo_19 rfl (fun h19 => ?_) (fun h19 => ?_)
    · exact absurd h19 (by omega)
    · skip
      refine x_aload_n (i := 0) dX5_undo_22 rfl rfl ?_
      refine x_getr (i := 0) dX5_undo_23 rfl rfl rfl (by decide) fl_X5_9 inX5 ?_
      refine x_iload_n (i := 1) dX5_undo_26 rfl rfl ?_
      refine x_aload_n (i := 0) dX5_undo_27 rfl rfl ?_
      refine x_getr (i := 1) dX5_undo_28 rfl rfl rfl (by decide) fl_X5_13 inX5 ?_
      refine x_iload_n (i := 1) dX5_undo_31 rfl rfl ?_
      refine x_ialdE dX5_undo_32 rfl (by omega) (by decide) (show _ = σ0.1 2 i by rw [hf.2 2 (by decide)]) ?_
      refine x_iastN dX5_undo_33 rfl (by omega) (by decide) ?_
      refine y_iincN (i := 1) (ls2 := [_, _]) dX5_undo_34 rfl (by decide) rfl rfl ?_
      refine x_goto (tgt := 15) dX5_undo_37 rfl ?_
      exact ih (i + 1) _ (by omega) (fun j hj => by rw [xui_s]; unfold upd; exact if e : j = i then (by rw [if_pos e, e]) else (by rw [if_neg e]; exact h1 j (by omega))) ⟨hf.1, fun q hq => (xui_o _ _ hq).trans (hf.2 q hq)⟩
set_option maxHeartbeats 4000000 in
set_option maxRecDepth 20000 in
theorem c_X5_undo {σ : xH} {K : Int32 → xH → Prop} {S : St} (hS : mS σ S) (hO : tOk (gT S))  (hk : ∀ τ, mS τ (oUndo S).2 → K (oUndo S).1 τ) : Evi l (oM ad D cy) mX5_undo [.ref 0] σ K := by
  have hs := hS.1
  have h8 := ms_8 hs
  refine x_enter (ls := [some (.ref 0), none]) rfl ?_
  unfold oUndo at hk
  match hg : gK S with
  | none =>
    rw [hg] at hk
    refine x_aload_n (i := 0) dX5_undo_0 rfl rfl ?_
    refine x_getiE (i := 3) dX5_undo_1 rfl rfl rfl (by decide) fl_X5_243 inX5 hS.2.1 ?_
    refine x_ifneP (tgt := 13) dX5_undo_4 rfl (fun h4 => ?_) (fun h4 => ?_)
    · exact absurd (show (gK S).isSome = true from h4) (by rw [hg]; decide)
    · skip
      refine x_aload_n (i := 0) dX5_undo_7 rfl rfl ?_
      refine x_iconstN (n := 3) dX5_undo_8 ?_
      refine x_v1i dX5_undo_9 okX5_no ml_X5_118 rfl rfl (Nat.le_of_ble_eq_true rfl) ⟨by decide, by decide⟩ (Nat.le_of_ble_eq_true rfl) (c_X5_no hS 3 (by decide) (fun τ hτ => ?_))
      exact x_ireti dX5_undo_12 rfl (hk τ hτ)
  | some U =>
    rw [hg] at hk
    have hu := hS.2.2.1 U hg
    refine x_aload_n (i := 0) dX5_undo_0 rfl rfl ?_
    refine x_getiE (i := 3) dX5_undo_1 rfl rfl rfl (by decide) fl_X5_243 inX5 hS.2.1 ?_
    refine x_ifneP (tgt := 13) dX5_undo_4 rfl (fun h4 => ?_) (fun h4 => ?_)
    · skip
      refine x_iconstN (n := 0) dX5_undo_13 ?_
      refine y_istore_n (i := 1) (ls2 := [_, _]) dX5_undo_14 rfl (by decide) rfl rfl ?_
      exact l_X5_undo hu (fun τ hu1 hf => hk τ (mS_g hS (fc_fg hf) hu1)) 147 0 σ rfl (fun j hj => absurd hj (Nat.not_lt_zero _)) ⟨rfl, fun _ _ => rfl⟩
    · exact absurd (show (gK S).isSome = true by rw [hg]; rfl) h4
set_option maxHeartbeats 4000000 in
set_option maxRecDepth 20000 in
theorem c_X5_tear {σ : xH} {K : Int32 → xH → Prop} {S : St} (hS : mS σ S) (hO : tOk (gT S))  (hk : ∀ τ, mS τ (oTear S).2 → K (oTear S).1 τ) : Evi l (oM ad D cy) mX5_tear [.ref 0] σ K := by
  have hs := hS.1
  have h8 := ms_8 hs
  refine x_enter (ls := [some (.ref 0), none]) rfl ?_
  refine x_aload_n (i := 0) dX5_tear_0 rfl rfl ?_
  refine x_getiE (i := 3) dX5_tear_1 rfl rfl rfl (by decide) fl_X5_243 inX5 hS.2.1 ?_
  refine x_ifeqP (tgt := 11) dX5_tear_4 rfl (fun h4 => ?_) (fun h4 => ?_)
  · skip
    refine x_iconstN (n := 0) dX5_tear_11 ?_
    refine y_istore_n (i := 1) (ls2 := [_, _]) dX5_tear_12 rfl (by decide) rfl rfl ?_
    refine x_aload_n (i := 0) dX5_tear_13 rfl rfl ?_
    refine x_iconstN (n := 0) dX5_tear_14 ?_
    refine x_puti (i := 3) (ty := .boolean) dX5_tear_15 rfl rfl rfl (by decide) fl_X5_243 inX5 tyX5_ok nmX5 rfl rfl rfl rfl ?_
    refine x_iload_n (i := 1) dX5_tear_18 rfl rfl ?_
    exact x_ireti dX5_tear_19 rfl (by have e : (oTear S).1 = _ := (by first | exact xb_t h4 | exact xb_f h4); rw [e] at hk; exact hk _ (mS_kept (k := none) hS rfl (fun q h0 h2 => xui_o _ _ h0) (fun i hi => xp_o hi) (by rw [xp_s]; rfl) (fun U hU => by cases hU)))
  · skip
    refine x_iconstN (n := 1) dX5_tear_7 ?_
    refine x_goto (tgt := 12) dX5_tear_8 rfl ?_
    refine y_istore_n (i := 1) (ls2 := [_, _]) dX5_tear_12 rfl (by decide) rfl rfl ?_
    refine x_aload_n (i := 0) dX5_tear_13 rfl rfl ?_
    refine x_iconstN (n := 0) dX5_tear_14 ?_
    refine x_puti (i := 3) (ty := .boolean) dX5_tear_15 rfl rfl rfl (by decide) fl_X5_243 inX5 tyX5_ok nmX5 rfl rfl rfl rfl ?_
    refine x_iload_n (i := 1) dX5_tear_18 rfl rfl ?_
    exact x_ireti dX5_tear_19 rfl (by have e : (oTear S).1 = _ := (by first | exact xb_t h4 | exact xb_f h4); rw [e] at hk; exact hk _ (mS_kept (k := none) hS rfl (fun q h0 h2 => xui_o _ _ h0) (fun i hi => xp_o hi) (by rw [xp_s]; rfl) (fun U hU => by cases hU)))
set_option maxHeartbeats 4000000 in
set_option maxRecDepth 20000 in
theorem l_X5_bumpsIn {K : Int32 → xH → Prop} {σ : xH} {T : Tw} (hs : ms σ 1 T) {r : Nat} (hr : r < 3) (hk : K (pBump T r) σ) : ∀ (n i : Nat) (s : Int32), i + n = 20 → (s = sBump (fun i => tTh T (r * 20 + i)) i) → Ex l (oM ad D cy) mX5_bumpsIn 4 [some (.ref 0), some (.int (nI r)), some (.int s), some (.int (nI i))] [] σ (xQi K) := by
  intro n
  induction n with
  | zero =>
    intro i s hi es
    have hi : i = 20 := by omega
    subst hi
    refine x_iload_n (i := 3) dX5_bumpsIn_4 rfl rfl ?_
    refine x_bipush (v := nI 20) dX5_bumpsIn_5 (by decide) ?_
    refine x_icgeN (tgt := 41) (by omega) (by omega) dX5_bumpsIn_7 rfl (fun h7 => ?_) (fun h7 => ?_)
    · skip
      refine x_iload_n (i := 2) dX5_bumpsIn_41 rfl rfl ?_
      exact x_ireti dX5_bumpsIn_42 rfl (es ▸ hk)
    · exact absurd h7 (by omega)
  | succ n ih =>
    intro i s hi es
    refine x_iload_n (i := 3) dX5_bumpsIn_4 rfl rfl ?_
    refine x_bipush (v := nI 20) dX5_bumpsIn_5 (by decide) ?_
    refine x_icgeN (tgt := 41) (by omega) (by omega) dX5_bumpsIn_7 rfl (fun h7 => ?_) (fun h7 => ?_)
    · exact absurd h7 (by omega)
    · skip
      refine x_iload_n (i := 2) dX5_bumpsIn_10 rfl rfl ?_
      refine x_aload_n (i := 0) dX5_bumpsIn_11 rfl rfl ?_
      refine x_getr (i := 0) dX5_bumpsIn_12 rfl rfl rfl (by decide) fl_X5_9 inX5 ?_
      refine x_iconstN (n := 3) dX5_bumpsIn_15 ?_
      refine x_bipush (v := nI 20) dX5_bumpsIn_16 (by decide) ?_
      refine x_iload_n (i := 1) dX5_bumpsIn_18 rfl rfl ?_
      refine x_imulN dX5_bumpsIn_19 ?_
      refine x_iaddN dX5_bumpsIn_20 ?_
      refine x_iload_n (i := 3) dX5_bumpsIn_21 rfl rfl ?_
      refine x_iaddN dX5_bumpsIn_22 ?_
      refine x_ialdE dX5_bumpsIn_23 rfl (by omega) (by decide) (ms_th2 hs (by omega)) ?_
      refine x_iconstN (n := 1) dX5_bumpsIn_24 ?_
      refine x_icne (tgt := 32) dX5_bumpsIn_25 rfl (fun h25 => ?_) (fun h25 => ?_)
      · skip
        refine x_iconstN (n := 0) dX5_bumpsIn_32 ?_
        refine x_iadd dX5_bumpsIn_33 ?_
        refine y_istore_n (i := 2) (ls2 := [_, _, _, _]) dX5_bumpsIn_34 rfl (by decide) rfl rfl ?_
        refine y_iincN (i := 3) (ls2 := [_, _, _, _]) dX5_bumpsIn_35 rfl (by decide) rfl rfl ?_
        refine x_goto (tgt := 4) dX5_bumpsIn_38 rfl ?_
        exact ih (i + 1) _ (by omega) (by rw [es]; first | (rw [show sBump (fun i => tTh T (r * 20 + i)) (i + 1) = _ from if_pos h25]) | (rw [show sBump (fun i => tTh T (r * 20 + i)) (i + 1) = _ from if_neg h25, nI_0, Int32.add_zero]))
      · skip
        refine x_iconstN (n := 1) dX5_bumpsIn_28 ?_
        refine x_goto (tgt := 33) dX5_bumpsIn_29 rfl ?_
        refine x_iadd dX5_bumpsIn_33 ?_
        refine y_istore_n (i := 2) (ls2 := [_, _, _, _]) dX5_bumpsIn_34 rfl (by decide) rfl rfl ?_
        refine y_iincN (i := 3) (ls2 := [_, _, _, _]) dX5_bumpsIn_35 rfl (by decide) rfl rfl ?_
        refine x_goto (tgt := 4) dX5_bumpsIn_38 rfl ?_
        exact ih (i + 1) _ (by omega) (by rw [es]; first | (rw [show sBump (fun i => tTh T (r * 20 + i)) (i + 1) = _ from if_pos h25]) | (rw [show sBump (fun i => tTh T (r * 20 + i)) (i + 1) = _ from if_neg h25, nI_0, Int32.add_zero]))
set_option maxHeartbeats 4000000 in
set_option maxRecDepth 20000 in
theorem c_X5_bumpsIn {σ : xH} {K : Int32 → xH → Prop} {T : Tw} (hs : ms σ 1 T) {r : Nat} (hr : r < 3) (hk : K (pBump T r) σ) : Evi l (oM ad D cy) mX5_bumpsIn [.ref 0, .int (nI r)] σ K := by
  refine x_enter (ls := [some (.ref 0), some (.int (nI r)), none, none]) rfl ?_
  refine x_iconstN (n := 0) dX5_bumpsIn_0 ?_
  refine y_istore_n (i := 2) (ls2 := [_, _, _, _]) dX5_bumpsIn_1 rfl (by decide) rfl rfl ?_
  refine x_iconstN (n := 0) dX5_bumpsIn_2 ?_
  refine y_istore_n (i := 3) (ls2 := [_, _, _, _]) dX5_bumpsIn_3 rfl (by decide) rfl rfl ?_
  exact l_X5_bumpsIn hs hr hk 20 0 _ rfl rfl
set_option maxHeartbeats 4000000 in
set_option maxRecDepth 20000 in
theorem l_X5_thingsIn {K : Int32 → xH → Prop} {σ : xH} {T : Tw} (hs : ms σ 1 T) {r : Nat} (hr : r < 3) (hk : K (pSet T r) σ) : ∀ (n i : Nat) (s : Int32), i + n = 20 → (s = sSet (fun i => tTh T (r * 20 + i)) i) → Ex l (oM ad D cy) mX5_thingsIn 4 [some (.ref 0), some (.int (nI r)), some (.int s), some (.int (nI i))] [] σ (xQi K) := by
  intro n
  induction n with
  | zero =>
    intro i s hi es
    have hi : i = 20 := by omega
    subst hi
    refine x_iload_n (i := 3) dX5_thingsIn_4 rfl rfl ?_
    refine x_bipush (v := nI 20) dX5_thingsIn_5 (by decide) ?_
    refine x_icgeN (tgt := 42) (by omega) (by omega) dX5_thingsIn_7 rfl (fun h7 => ?_) (fun h7 => ?_)
    · skip
      refine x_iload_n (i := 2) dX5_thingsIn_42 rfl rfl ?_
      exact x_ireti dX5_thingsIn_43 rfl (es ▸ hk)
    · exact absurd h7 (by omega)
  | succ n ih =>
    intro i s hi es
    refine x_iload_n (i := 3) dX5_thingsIn_4 rfl rfl ?_
    refine x_bipush (v := nI 20) dX5_thingsIn_5 (by decide) ?_
    refine x_icgeN (tgt := 42) (by omega) (by omega) dX5_thingsIn_7 rfl (fun h7 => ?_) (fun h7 => ?_)
    · exact absurd h7 (by omega)
    · skip
      refine x_iload_n (i := 2) dX5_thingsIn_10 rfl rfl ?_
      refine x_aload_n (i := 0) dX5_thingsIn_11 rfl rfl ?_
      refine x_getr (i := 0) dX5_thingsIn_12 rfl rfl rfl (by decide) fl_X5_9 inX5 ?_
      refine x_iconstN (n := 3) dX5_thingsIn_15 ?_
      refine x_bipush (v := nI 20) dX5_thingsIn_16 (by decide) ?_
      refine x_iload_n (i := 1) dX5_thingsIn_18 rfl rfl ?_
      refine x_imulN dX5_thingsIn_19 ?_
      refine x_iaddN dX5_thingsIn_20 ?_
      refine x_iload_n (i := 3) dX5_thingsIn_21 rfl rfl ?_
      refine x_iaddN dX5_thingsIn_22 ?_
      refine x_ialdE dX5_thingsIn_23 rfl (by omega) (by decide) (ms_th2 hs (by omega)) ?_
      refine x_ifne (tgt := 31) dX5_thingsIn_24 rfl (fun h24 => ?_) (fun h24 => ?_)
      · skip
        refine x_iconstN (n := 1) dX5_thingsIn_31 ?_
        refine x_iload_n (i := 3) dX5_thingsIn_32 rfl rfl ?_
        refine x_ishl dX5_thingsIn_33 ?_
        refine x_ior dX5_thingsIn_34 ?_
        refine y_istore_n (i := 2) (ls2 := [_, _, _, _]) dX5_thingsIn_35 rfl (by decide) rfl rfl ?_
        refine y_iincN (i := 3) (ls2 := [_, _, _, _]) dX5_thingsIn_36 rfl (by decide) rfl rfl ?_
        refine x_goto (tgt := 4) dX5_thingsIn_39 rfl ?_
        exact ih (i + 1) _ (by omega) (by rw [es]; first | (rw [show sSet (fun i => tTh T (r * 20 + i)) (i + 1) = _ from if_pos h24, nI_0, Int32.or_zero]) | (rw [show sSet (fun i => tTh T (r * 20 + i)) (i + 1) = _ from if_neg h24]))
      · skip
        refine x_iconstN (n := 0) dX5_thingsIn_27 ?_
        refine x_goto (tgt := 34) dX5_thingsIn_28 rfl ?_
        refine x_ior dX5_thingsIn_34 ?_
        refine y_istore_n (i := 2) (ls2 := [_, _, _, _]) dX5_thingsIn_35 rfl (by decide) rfl rfl ?_
        refine y_iincN (i := 3) (ls2 := [_, _, _, _]) dX5_thingsIn_36 rfl (by decide) rfl rfl ?_
        refine x_goto (tgt := 4) dX5_thingsIn_39 rfl ?_
        exact ih (i + 1) _ (by omega) (by rw [es]; first | (rw [show sSet (fun i => tTh T (r * 20 + i)) (i + 1) = _ from if_pos h24, nI_0, Int32.or_zero]) | (rw [show sSet (fun i => tTh T (r * 20 + i)) (i + 1) = _ from if_neg h24]))
set_option maxHeartbeats 4000000 in
set_option maxRecDepth 20000 in
theorem c_X5_thingsIn {σ : xH} {K : Int32 → xH → Prop} {T : Tw} (hs : ms σ 1 T) {r : Nat} (hr : r < 3) (hk : K (pSet T r) σ) : Evi l (oM ad D cy) mX5_thingsIn [.ref 0, .int (nI r)] σ K := by
  refine x_enter (ls := [some (.ref 0), some (.int (nI r)), none, none]) rfl ?_
  refine x_iconstN (n := 0) dX5_thingsIn_0 ?_
  refine y_istore_n (i := 2) (ls2 := [_, _, _, _]) dX5_thingsIn_1 rfl (by decide) rfl rfl ?_
  refine x_iconstN (n := 0) dX5_thingsIn_2 ?_
  refine y_istore_n (i := 3) (ls2 := [_, _, _, _]) dX5_thingsIn_3 rfl (by decide) rfl rfl ?_
  exact l_X5_thingsIn hs hr hk 20 0 _ rfl rfl
set_option maxHeartbeats 4000000 in
set_option maxRecDepth 20000 in
theorem l_X5_count {K : Int32 → xH → Prop} {σ : xH} {T : Tw} (hs : ms σ 1 T) (c : Int32) (hk : Ex l (oM ad D cy) mX5_count 29 [some (.ref 0), some (.int c), some (.int (sSum (tWs T) (tN T))), none] [] σ (xQi K)) : ∀ (n i : Nat) (s : Int32), i + n = tN T → (s = sSum (tWs T) i) → Ex l (oM ad D cy) mX5_count 4 [some (.ref 0), some (.int c), some (.int s), some (.int (nI i))] [] σ (xQi K) := by
  intro n
  induction n with
  | zero =>
    intro i s hi es
    have hi : i = tN T := by omega
    subst hi
    have h8 := ms_8 hs
    refine x_iload_n (i := 3) dX5_count_4 rfl rfl ?_
    refine x_aload_n (i := 0) dX5_count_5 rfl rfl ?_
    refine x_getr (i := 0) dX5_count_6 rfl rfl rfl (by decide) fl_X5_9 inX5 ?_
    refine x_iconstN (n := 2) dX5_count_9 ?_
    refine x_ialdE dX5_count_10 rfl (by omega) (by decide) (ms_n hs) ?_
    refine x_icgeN (tgt := 29) (by omega) (by omega) dX5_count_11 rfl (fun h11 => ?_) (fun h11 => ?_)
    · skip
      exact x_mask [true, true, true, false] <| es ▸ hk
    · exact absurd h11 (by omega)
  | succ n ih =>
    intro i s hi es
    have h8 := ms_8 hs
    refine x_iload_n (i := 3) dX5_count_4 rfl rfl ?_
    refine x_aload_n (i := 0) dX5_count_5 rfl rfl ?_
    refine x_getr (i := 0) dX5_count_6 rfl rfl rfl (by decide) fl_X5_9 inX5 ?_
    refine x_iconstN (n := 2) dX5_count_9 ?_
    refine x_ialdE dX5_count_10 rfl (by omega) (by decide) (ms_n hs) ?_
    refine x_icgeN (tgt := 29) (by omega) (by omega) dX5_count_11 rfl (fun h11 => ?_) (fun h11 => ?_)
    · exact absurd h11 (by omega)
    · skip
      refine x_iload_n (i := 2) dX5_count_14 rfl rfl ?_
      refine x_aload_n (i := 0) dX5_count_15 rfl rfl ?_
      refine x_iload_n (i := 3) dX5_count_16 rfl rfl ?_
      refine x_iconstN (n := 1) dX5_count_17 ?_
      refine x_v2i dX5_count_18 okX5_get ml_X5_92 rfl rfl (Nat.le_of_ble_eq_true rfl) ⟨by decide, by decide⟩ (Nat.le_of_ble_eq_true rfl) (c_get1 hs (by omega) ?_)
      refine x_iadd dX5_count_21 ?_
      refine y_istore_n (i := 2) (ls2 := [_, _, _, _]) dX5_count_22 rfl (by decide) rfl rfl ?_
      refine y_iincN (i := 3) (ls2 := [_, _, _, _]) dX5_count_23 rfl (by decide) rfl rfl ?_
      refine x_goto (tgt := 4) dX5_count_26 rfl ?_
      exact ih (i + 1) _ (by omega) (by rw [es]; rfl)
theorem sum3 (f : Nat → Int32) : sSum f 3 = f 0 + f 1 + f 2 := by
  show nI 0 + f 0 + f 1 + f 2 = _
  rw [nI_0, Int32.zero_add]
set_option maxHeartbeats 4000000 in
set_option maxRecDepth 20000 in
theorem c_X5_count {σ : xH} {K : Int32 → xH → Prop} {S : St} (hS : mS σ S) (hO : tOk (gT S)) (c : Int32) (hk : ∀ τ, mS τ (oCount S c).2 → K (oCount S c).1 τ) : Evi l (oM ad D cy) mX5_count [.ref 0, .int c] σ K := by
  have hs := hS.1
  have h8 := ms_8 hs
  refine x_enter (ls := [some (.ref 0), some (.int c), none, none]) rfl ?_
  unfold oCount at hk
  refine x_iconstN (n := 0) dX5_count_0 ?_
  refine y_istore_n (i := 2) (ls2 := [_, _, _, _]) dX5_count_1 rfl (by decide) rfl rfl ?_
  refine x_iconstN (n := 0) dX5_count_2 ?_
  refine y_istore_n (i := 3) (ls2 := [_, _, _, _]) dX5_count_3 rfl (by decide) rfl rfl ?_
  refine l_X5_count hs c ?_ (tN (gT S)) 0 _ (by omega) rfl
  refine x_iload_n (i := 1) dX5_count_29 rfl rfl ?_
  refine x_tsw4 (nI 0) (nI 1) (nI 2) (nI 3) 60 67 72 90 92 dX5_count_30 (by decide) (by decide) (fun h30 => ?_) (fun h30 => ?_) (fun h30 => ?_) (fun h30 => ?_) (fun h30_0 h30_1 h30_2 h30_3 => ?_)
  · skip
    refine x_aload_n (i := 0) dX5_count_60 rfl rfl ?_
    refine x_getr (i := 0) dX5_count_61 rfl rfl rfl (by decide) fl_X5_9 inX5 ?_
    refine x_iconstN (n := 2) dX5_count_64 ?_
    refine x_ialdE dX5_count_65 rfl (by omega) (by decide) (ms_n hs) ?_
    exact x_ireti dX5_count_66 rfl (by subst h30; first | exact hk σ hS | exact (sum3 _ ▸ hk σ hS))
  · skip
    refine x_aload_n (i := 0) dX5_count_67 rfl rfl ?_
    refine x_getiE (i := 9) dX5_count_68 rfl rfl rfl (by decide) fl_X5_166 inX5 hS.2.2.2.1 ?_
    exact x_ireti dX5_count_71 rfl (by subst h30; first | exact hk σ hS | exact (sum3 _ ▸ hk σ hS))
  · skip
    refine x_aload_n (i := 0) dX5_count_72 rfl rfl ?_
    refine x_iconstN (n := 0) dX5_count_73 ?_
    refine x_v1i dX5_count_74 okX5_bumpsIn ml_X5_127 rfl rfl (Nat.le_of_ble_eq_true rfl) ⟨by decide, by decide⟩ (Nat.le_of_ble_eq_true rfl) (c_X5_bumpsIn hs (r := 0) (by omega) ?_)
    refine x_aload_n (i := 0) dX5_count_77 rfl rfl ?_
    refine x_iconstN (n := 1) dX5_count_78 ?_
    refine x_v1i dX5_count_79 okX5_bumpsIn ml_X5_127 rfl rfl (Nat.le_of_ble_eq_true rfl) ⟨by decide, by decide⟩ (Nat.le_of_ble_eq_true rfl) (c_X5_bumpsIn hs (r := 1) (by omega) ?_)
    refine x_iadd dX5_count_82 ?_
    refine x_aload_n (i := 0) dX5_count_83 rfl rfl ?_
    refine x_iconstN (n := 2) dX5_count_84 ?_
    refine x_v1i dX5_count_85 okX5_bumpsIn ml_X5_127 rfl rfl (Nat.le_of_ble_eq_true rfl) ⟨by decide, by decide⟩ (Nat.le_of_ble_eq_true rfl) (c_X5_bumpsIn hs (r := 2) (by omega) ?_)
    refine x_iadd dX5_count_88 ?_
    exact x_ireti dX5_count_89 rfl (by subst h30; first | exact hk σ hS | exact (sum3 _ ▸ hk σ hS))
  · skip
    refine x_iload_n (i := 2) dX5_count_90 rfl rfl ?_
    exact x_ireti dX5_count_91 rfl (by subst h30; first | exact hk σ hS | exact (sum3 _ ▸ hk σ hS))
  · skip
    refine x_aload_n (i := 0) dX5_count_92 rfl rfl ?_
    refine x_iconstN (n := 0) dX5_count_93 ?_
    refine x_v1i dX5_count_94 okX5_no ml_X5_118 rfl rfl (Nat.le_of_ble_eq_true rfl) ⟨by decide, by decide⟩ (Nat.le_of_ble_eq_true rfl) (c_X5_no hS 0 (by decide) (fun τ hτ => ?_))
    exact x_ireti dX5_count_97 rfl (by rw [if_neg h30_0, if_neg h30_1, if_neg h30_2, if_neg h30_3] at hk; exact hk τ hτ)
def stS (S : St) (w : Int32) : Nat → Int32
  | 0 => nI 0
  | i + 1 => if w = -1 ∨ w = nI i then stS S w i + gF S i else stS S w i
theorem stS_all (S : St) : ∀ i, stS S (-1) i = sSum (gF S) i := by
  intro i
  induction i with
  | zero => rfl
  | succ i ih => rw [stS, if_pos (Or.inl rfl), ih]; rfl
theorem stS_one (S : St) {j : Nat} (hj : j < 7) : ∀ i, i ≤ 7 → stS S (nI j) i = if j < i then gF S j else nI 0 := by
  intro i
  induction i with
  | zero => intro _; rfl
  | succ i ih =>
    intro hi
    rw [stS, ih (by omega)]
    by_cases e : j = i
    · subst e
      rw [if_pos (Or.inr rfl), if_neg (Nat.lt_irrefl _), if_pos (Nat.lt_succ_self _), nI_0, Int32.zero_add]
    · have n1 : ¬ (nI j = -1 ∨ nI j = nI i) := fun z => z.elim (fun z => nI_pos (show j < 2 ^ 31 by omega) (by rw [z]; decide)) (fun z => e (nI_inj (by omega) (by omega) z))
      rw [if_neg n1]
      by_cases g : j < i
      · rw [if_pos g, if_pos (by omega)]
      · rw [if_neg g, if_neg (by omega)]
theorem m1_of {w : Int32} (h : vR (-1) (nI 6) w) (hl : w < 0) : w = -1 := by
  have h1 := h.1
  have e : (-1 : Int32).toInt = -1 := by decide
  have e0 : (0 : Int32).toInt = 0 := by decide
  rw [Int32.lt_iff_toInt_lt] at h1 hl
  exact Int32.toInt_inj.mp (by omega)
set_option maxHeartbeats 4000000 in
set_option maxRecDepth 20000 in
theorem l_X5_status {K : Int32 → xH → Prop} {σ : xH} {S : St} (hS : mS σ S) (w : Int32) (hk : K (stS S w 7) σ) : ∀ (n i : Nat) (s : Int32), i + n = 7 → (s = stS S w i) → Ex l (oM ad D cy) mX5_status 20 [some (.ref 0), some (.int w), some (.int s), some (.int (nI i))] [] σ (xQi K) := by
  intro n
  induction n with
  | zero =>
    intro i s hi es
    have hi : i = 7 := by omega
    subst hi
    refine x_iload_n (i := 3) dX5_status_20 rfl rfl ?_
    refine x_bipush (v := nI 7) dX5_status_21 (by decide) ?_
    refine x_icgeN (tgt := 55) (by omega) (by omega) dX5_status_23 rfl (fun h23 => ?_) (fun h23 => ?_)
    · skip
      refine x_iload_n (i := 2) dX5_status_55 rfl rfl ?_
      exact x_ireti dX5_status_56 rfl (es ▸ hk)
    · exact absurd h23 (by omega)
  | succ n ih =>
    intro i s hi es
    refine x_iload_n (i := 3) dX5_status_20 rfl rfl ?_
    refine x_bipush (v := nI 7) dX5_status_21 (by decide) ?_
    refine x_icgeN (tgt := 55) (by omega) (by omega) dX5_status_23 rfl (fun h23 => ?_) (fun h23 => ?_)
    · exact absurd h23 (by omega)
    · skip
      refine x_iload_n (i := 2) dX5_status_26 rfl rfl ?_
      refine x_iload_n (i := 1) dX5_status_27 rfl rfl ?_
      refine x_iconst (v := -1) dX5_status_28 (by decide) ?_
      refine x_iceq (tgt := 37) dX5_status_29 rfl (fun h29 => ?_) (fun h29 => ?_)
      · skip
        refine x_aload_n (i := 0) dX5_status_37 rfl rfl ?_
        refine x_getr (i := 4) dX5_status_38 rfl rfl rfl (by decide) fl_X5_19 inX5 ?_
        refine x_iload_n (i := 3) dX5_status_41 rfl rfl ?_
        refine x_ialdE dX5_status_42 rfl (by omega) (by decide) (hS.2.2.2.2.2.2.2.1 i (by omega)) ?_
        refine x_goto (tgt := 47) dX5_status_43 rfl ?_
        refine x_iadd dX5_status_47 ?_
        refine y_istore_n (i := 2) (ls2 := [_, _, _, _]) dX5_status_48 rfl (by decide) rfl rfl ?_
        refine y_iincN (i := 3) (ls2 := [_, _, _, _]) dX5_status_49 rfl (by decide) rfl rfl ?_
        refine x_goto (tgt := 20) dX5_status_52 rfl ?_
        exact ih (i + 1) _ (by omega) (by rw [es, stS]; first | rw [if_pos (Or.inl h29)] | rw [if_pos (Or.inr h34)] | (rw [if_neg (fun z => z.elim h29 h34), nI_0, Int32.add_zero]))
      · skip
        refine x_iload_n (i := 1) dX5_status_32 rfl rfl ?_
        refine x_iload_n (i := 3) dX5_status_33 rfl rfl ?_
        refine x_icne (tgt := 46) dX5_status_34 rfl (fun h34 => ?_) (fun h34 => ?_)
        · skip
          refine x_iconstN (n := 0) dX5_status_46 ?_
          refine x_iadd dX5_status_47 ?_
          refine y_istore_n (i := 2) (ls2 := [_, _, _, _]) dX5_status_48 rfl (by decide) rfl rfl ?_
          refine y_iincN (i := 3) (ls2 := [_, _, _, _]) dX5_status_49 rfl (by decide) rfl rfl ?_
          refine x_goto (tgt := 20) dX5_status_52 rfl ?_
          exact ih (i + 1) _ (by omega) (by rw [es, stS]; first | rw [if_pos (Or.inl h29)] | rw [if_pos (Or.inr h34)] | (rw [if_neg (fun z => z.elim h29 h34), nI_0, Int32.add_zero]))
        · skip
          refine x_aload_n (i := 0) dX5_status_37 rfl rfl ?_
          refine x_getr (i := 4) dX5_status_38 rfl rfl rfl (by decide) fl_X5_19 inX5 ?_
          refine x_iload_n (i := 3) dX5_status_41 rfl rfl ?_
          refine x_ialdE dX5_status_42 rfl (by omega) (by decide) (hS.2.2.2.2.2.2.2.1 i (by omega)) ?_
          refine x_goto (tgt := 47) dX5_status_43 rfl ?_
          refine x_iadd dX5_status_47 ?_
          refine y_istore_n (i := 2) (ls2 := [_, _, _, _]) dX5_status_48 rfl (by decide) rfl rfl ?_
          refine y_iincN (i := 3) (ls2 := [_, _, _, _]) dX5_status_49 rfl (by decide) rfl rfl ?_
          refine x_goto (tgt := 20) dX5_status_52 rfl ?_
          exact ih (i + 1) _ (by omega) (by rw [es, stS]; first | rw [if_pos (Or.inl h29)] | rw [if_pos (Or.inr h34)] | (rw [if_neg (fun z => z.elim h29 h34), nI_0, Int32.add_zero]))
set_option maxHeartbeats 4000000 in
set_option maxRecDepth 20000 in
theorem c_X5_status {σ : xH} {K : Int32 → xH → Prop} {S : St} (hS : mS σ S) (hO : tOk (gT S)) (w : Int32) (hk : ∀ τ, mS τ (oStatus S w).2 → K (oStatus S w).1 τ) : Evi l (oM ad D cy) mX5_status [.ref 0, .int w] σ K := by
  have hs := hS.1
  have h8 := ms_8 hs
  refine x_enter (ls := [some (.ref 0), some (.int w), none, none]) rfl ?_
  by_cases hc : vR (-1) (nI 6) w
  · unfold oStatus at hk
    rw [if_pos hc] at hk
    refine x_iload_n (i := 1) dX5_status_0 rfl rfl ?_
    refine x_iconst (v := -1) dX5_status_1 (by decide) ?_
    refine x_bipush (v := nI 6) dX5_status_2 (by decide) ?_
    refine x_s3i dX5_status_4 okX5_in1 ml_X5_52 (Nat.le_of_ble_eq_true rfl) ⟨by decide, by decide⟩ (Nat.le_of_ble_eq_true rfl) (c_X5_in1 _ _ _ ?_)
    refine x_ifneP (tgt := 16) dX5_status_7 rfl (fun h7 => ?_) (fun h7 => ?_)
    · skip
      refine x_iconstN (n := 0) dX5_status_16 ?_
      refine y_istore_n (i := 2) (ls2 := [_, _, _, _]) dX5_status_17 rfl (by decide) rfl rfl ?_
      refine x_iconstN (n := 0) dX5_status_18 ?_
      refine y_istore_n (i := 3) (ls2 := [_, _, _, _]) dX5_status_19 rfl (by decide) rfl rfl ?_
      by_cases h0 : w < 0
      · rw [if_pos h0] at hk
        have e1 := m1_of hc h0
        subst e1
        exact l_X5_status hS _ (stS_all S 7 ▸ hk σ hS) 7 0 _ rfl rfl
      · rw [if_neg h0] at hk
        obtain ⟨j, hj, rfl⟩ := nI_of h0
        have hj7 : j < 7 := by
          have := hc.2
          exact Nat.not_le.mp (fun z => this (nI_lt (by omega) hj))
        simp only [cn, nI_clamp hj] at hk
        exact l_X5_status hS _ (by rw [stS_one S hj7 7 (by omega), if_pos hj7]; exact hk σ hS) 7 0 _ rfl rfl
    · exact absurd hc h7
  · unfold oStatus at hk
    rw [if_neg hc] at hk
    refine x_iload_n (i := 1) dX5_status_0 rfl rfl ?_
    refine x_iconst (v := -1) dX5_status_1 (by decide) ?_
    refine x_bipush (v := nI 6) dX5_status_2 (by decide) ?_
    refine x_s3i dX5_status_4 okX5_in1 ml_X5_52 (Nat.le_of_ble_eq_true rfl) ⟨by decide, by decide⟩ (Nat.le_of_ble_eq_true rfl) (c_X5_in1 _ _ _ ?_)
    refine x_ifneP (tgt := 16) dX5_status_7 rfl (fun h7 => ?_) (fun h7 => ?_)
    · exact absurd h7 hc
    · skip
      refine x_aload_n (i := 0) dX5_status_10 rfl rfl ?_
      refine x_iconstN (n := 0) dX5_status_11 ?_
      refine x_v1i dX5_status_12 okX5_no ml_X5_118 rfl rfl (Nat.le_of_ble_eq_true rfl) ⟨by decide, by decide⟩ (Nat.le_of_ble_eq_true rfl) (c_X5_no hS 0 (by decide) (fun τ hτ => ?_))
      exact x_ireti dX5_status_15 rfl (hk τ hτ)
end
