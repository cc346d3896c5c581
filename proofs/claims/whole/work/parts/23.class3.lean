section
variable {l : Launch} {ad : Nat → Nat} {D : va_G} {cy : Nat → ClassId}
def fByte (x : Int32) (k : Nat) : Int32 := (x.toUInt32 >>> ((nI (8 * k)).toUInt32 &&& Int32.toUInt32 31)).toInt32 &&& nI 255
def tellL (S : St) (k : Nat) : Int64 × St := ((fnd k).toInt64, pFd S k)
def oStatus (S : St) (w : Int32) : Int32 × St := if vR (-1) (nI 6) w then (if w < 0 then (sSum (gF S) 7, S) else (gF S (cn w), S)) else tellS S 0
def oFeed (S : St) (x m : Int32) : Int32 × St := if vR (nI 1) (nI 4) m then (if gL S + cn m ≤ 120 then (nI (gL S + cn m), pTape S (gL S + cn m) (fun i => if gL S ≤ i ∧ i < gL S + cn m then fByte x (gL S + cn m - 1 - i) else gB S i)) else tellS S 1) else tellS S 0
def oSheet (S : St) (s b m : Int32) : Int32 × St := if vR (nI 0) (nI 3) s ∧ (b = 0 ∨ b = nI 8 ∨ b = nI 16 ∨ b = nI 64) then (if 0 ≤ m then (if m ≤ nI 40 then (nI (if b = 0 then 0 else cn m), pSh S (cn s) b (if b = 0 then 0 else cn m) (fun _ => 0)) else tellS S 0) else tellS S 6) else tellS S 0
def oWrite (S : St) (s i : Int32) (v : Int64) : Int64 × St := if vR (nI 0) (nI 3) s then (if gW S (cn s) = 0 then tellL S 5 else if vN (gZ S (cn s)) i then (gN S (cn s) (cn i), pSh S (cn s) (gW S (cn s)) (gZ S (cn s)) (vp_updL (gN S (cn s)) (cn i) (sBits (gW S (cn s)) v))) else tellL S 0) else tellL S 0
abbrev vP (z : Nat) (x y : Int32) : Prop := ¬ x < 0 ∧ ¬ y < 0 ∧ ¬ nI z < y ∧ ¬ nI z - y < x
def oCopy (S : St) (s f t g m : Int32) : Int32 × St := if vR (nI 0) (nI 3) s ∧ vR (nI 0) (nI 3) t then (if gW S (cn s) = 0 ∨ gW S (cn t) = 0 then tellS S 5 else if gW S (cn s) = gW S (cn t) then (if vP (gZ S (cn s)) f m ∧ vP (gZ S (cn t)) g m then (m, pSh S (cn t) (gW S (cn t)) (gZ S (cn t)) (va_cpy (gN S (cn s)) (gN S (cn t)) (cn f) (cn g) (cn m))) else tellS S 0) else tellS S 2) else tellS S 0
theorem tw_keep {σ τ : xH} {u : Nat} {T : Tw} (h : tw σ u T) (e : ∀ j, j ≤ 5 → τ.1 (u + j) = σ.1 (u + j)) : tw τ u T := by
  have e0 : τ.1 u = σ.1 u := e 0 (by omega)
  refine ⟨?_, ?_, ?_, ?_, ?_, ?_, ?_, ?_, h.2.2.2.2.2.2.2.2⟩
  · rw [e0]; exact tw_day h
  · rw [e0]; exact tw_in h
  · rw [e0]; exact tw_n h
  · intro i hi; rw [e 1 (by omega)]; exact tw_th h hi
  · intro i hi; rw [e 2 (by omega)]; exact tw_ag h hi
  · intro i hi; rw [e 3 (by omega)]; exact tw_kd h hi
  · intro i hi; rw [e 4 (by omega)]; exact tw_ws h hi
  · intro i hi; rw [e 5 (by omega)]; exact tw_go h hi
theorem cS_S {σ τ : xH} {S : St} (h : cS σ S) {j m : Nat} {b : Int32} {f : Nat → Int64} (hj : j < 4) (g : frS j σ τ) (hs : sh τ j b m f) : cS τ (pSh S j b m f) := by
  obtain ⟨h1, h2, h3, h4, h5, h6, h7, h8⟩ := h
  refine ⟨tw_keep h1 (fun q hq => g.1 _ (by omega)), by rw [g.1 0 (by omega)]; exact h2, fun U hU => tw_keep (h3 U hU) (fun q hq => g.1 _ (by omega)), by rw [g.1 19 (by omega)]; exact h4, fun i hi => by rw [g.1 20 (by omega)]; exact h5 i hi, h6, fun q hq => ?_, fun i hi => by rw [g.1 30 (by omega)]; exact h8 i hi⟩
  by_cases e : q = j
  · subst e
    simpa [pSh, gW, gZ, gN, upd, updn] using hs
  · have := sh_keep (h7 q hq) (g.1 _ (by omega)) (g.2 _ (by omega))
    simpa [pSh, gW, gZ, gN, upd, updn, e] using this
theorem hp_of {z : Nat} (hz : z ≤ 40) {f m : Int32} (h : vP z f m) : ∃ x y, f = nI x ∧ m = nI y ∧ x + y ≤ z := by
  obtain ⟨x, hx, rfl⟩ := nI_of h.1
  obtain ⟨y, hy, rfl⟩ := nI_of h.2.1
  have h1 : y ≤ z := Nat.not_lt.mp fun q => h.2.2.1 ((nI_ltI (by omega) hy).mpr q)
  have h2 := h.2.2.2
  rw [pk_sub h1] at h2
  have h3 : x ≤ z - y := Nat.not_lt.mp fun q => h2 ((nI_ltI (by omega) hx).mpr q)
  exact ⟨x, y, rfl, rfl, by omega⟩
theorem nI_inj {a b : Nat} (ha : a < 2 ^ 31) (hb : b < 2 ^ 31) (h : nI a = nI b) : a = b := (nI_eq ha hb).mp h
theorem cS_tape {σ τ : xH} {S : St} (h : cS σ S) (h2 : τ.2 = σ.2) (h1 : ∀ q, q ≠ 19 → q ≠ 20 → τ.1 q = σ.1 q) {n : Nat} {b : Nat → Int32} (hn : n ≤ 120) (g1 : τ.1 19 1 = nI n) (g2 : ∀ i, i < n → τ.1 20 i = b i) : cS τ (pTape S n b) := by
  obtain ⟨k1, k2, k3, k4, k5, k6, k7, k8⟩ := h
  exact ⟨tw_keep k1 (fun q hq => h1 _ (by omega) (by omega)), by rw [h1 0 (by omega) (by omega)]; exact k2, fun U hU => tw_keep (k3 U hU) (fun q hq => h1 _ (by omega) (by omega)), g1, g2, hn, fun q hq => sh_keep (k7 q hq) (h1 _ (by omega) (by omega)) (by rw [h2]), fun i hi => by rw [h1 30 (by omega) (by omega)]; exact k8 i hi⟩
set_option maxHeartbeats 4000000 in
set_option maxRecDepth 20000 in
theorem c_X4_wipe {σ : xH} {K : Int32 → xH → Prop} {S : St} (hS : cS σ S)  (hk : ∀ τ, cS τ (oWipe S).2 → K (oWipe S).1 τ) : Evi l (oC ad D cy) mX4_wipe [.ref 0] σ K := by
  have hw := hS.1
  have h8 := tw_8 hw
  refine x_enter (ls := [some (.ref 0), none]) rfl ?_
  refine x_aload_n (i := 0) dX4_wipe_0 rfl rfl ?_
  refine x_getr (i := 3) dX4_wipe_1 rfl rfl rfl (by decide) fl_X4_25 inX4 ?_
  refine x_getiE (i := 1) dX4_wipe_4 rfl rfl rfl (by decide) fl_X4_172 inX2 hS.2.2.2.1 ?_
  refine y_istore_n (i := 1) (ls2 := [_, _]) dX4_wipe_7 rfl (by decide) rfl rfl ?_
  refine x_aload_n (i := 0) dX4_wipe_8 rfl rfl ?_
  refine x_getr (i := 3) dX4_wipe_9 rfl rfl rfl (by decide) fl_X4_25 inX4 ?_
  refine x_iconstN (n := 0) dX4_wipe_12 ?_
  refine x_puti (i := 1) (ty := .int) dX4_wipe_13 rfl rfl rfl (by decide) fl_X4_172 inX2 tyX2_ok nmX2 rfl rfl rfl rfl ?_
  refine x_iload_n (i := 1) dX4_wipe_16 rfl rfl ?_
  exact x_ireti dX4_wipe_17 rfl (hk _ (cS_tape (τ := xpi σ 19 1 (nI 0)) hS rfl (fun q h1 h2 => xui_o _ _ h1) (by omega) (by simp [xui, upd]) (fun i hi => absurd hi (Nat.not_lt_zero _))))
theorem cS_kept {σ τ υ : xH} {S : St} (h : cS σ S) (f : fr 7 σ τ) {U : Tw} (hu : tw τ 7 U) (e : υ = xpi τ 0 6 (nI 1)) : cS υ (pK S (some U)) := by
  subst e
  obtain ⟨k1, k2, k3, k4, k5, k6, k7, k8⟩ := h
  have g : ∀ q, q ≠ 0 → (xpi τ 0 6 (nI 1)).1 q = τ.1 q := fun q hq => xui_o _ _ hq
  refine ⟨tw_keep k1 (fun q hq => (g _ (by omega)).trans (f.2 _ (by omega))), by rw [xui_s]; simp [upd, pK, gK, xb], fun V hV => ?_, by rw [g 19 (by omega), f.2 19 (by omega)]; exact k4, fun i hi => by rw [g 20 (by omega), f.2 20 (by omega)]; exact k5 i hi, k6, fun q hq => sh_keep (k7 q hq) ((g _ (by omega)).trans (f.2 _ (by omega))) (by show τ.2 _ = _; rw [f.1]), fun i hi => by rw [g 30 (by omega), f.2 30 (by omega)]; exact k8 i hi⟩
  cases (Option.some.inj hV)
  exact tw_keep hu (fun q hq => g _ (by omega))
theorem cS_torn {σ : xH} {S : St} (h : cS σ S) : cS (xpi σ 0 6 (nI 0)) (pK S none) := by
  obtain ⟨k1, k2, k3, k4, k5, k6, k7, k8⟩ := h
  have g : ∀ q, q ≠ 0 → (xpi σ 0 6 (nI 0)).1 q = σ.1 q := fun q hq => xui_o _ _ hq
  exact ⟨tw_keep k1 (fun q hq => g _ (by omega)), by rw [xui_s]; simp [upd, pK, gK, xb], fun V hV => (by cases hV), by rw [g 19 (by omega)]; exact k4, fun i hi => by rw [g 20 (by omega)]; exact k5 i hi, k6, fun q hq => sh_keep (k7 q hq) (g _ (by omega)) rfl, fun i hi => by rw [g 30 (by omega)]; exact k8 i hi⟩
set_option maxHeartbeats 4000000 in
set_option maxRecDepth 20000 in
theorem c_X4_image {σ : xH} {K : Int32 → xH → Prop} {S : St} (hS : cS σ S)  (hk : ∀ τ, cS τ (oImage S).2 → K (oImage S).1 τ) : Evi l (oC ad D cy) mX4_image [.ref 0] σ K := by
  have hw := hS.1
  have h8 := tw_8 hw
  refine x_enter (ls := [some (.ref 0)]) rfl ?_
  refine x_aload_n (i := 0) dX4_image_0 rfl rfl ?_
  refine x_getr (i := 1) dX4_image_1 rfl rfl rfl (by decide) fl_X4_16 inX4 ?_
  refine x_aload_n (i := 0) dX4_image_4 rfl rfl ?_
  refine x_getr (i := 0) dX4_image_5 rfl rfl rfl (by decide) fl_X4_10 inX4 ?_
  refine x_v1v dX4_image_8 okX3_becomeLike ml_X4_152 (sT0 isT7) rfl (Nat.le_of_ble_eq_true rfl) ⟨by decide, by decide⟩ (Nat.le_of_ble_eq_true rfl) (c_X3_becomeLike isT7 isT1 hw (by omega) (fun τ hw1 hf1 => ?_))
  refine x_aload_n (i := 0) dX4_image_11 rfl rfl ?_
  refine x_iconstN (n := 1) dX4_image_12 ?_
  refine x_puti (i := 6) (ty := .boolean) dX4_image_13 rfl rfl rfl (by decide) fl_X4_40 inX4 tyX4_ok nmX4 rfl rfl rfl rfl ?_
  refine x_iconstN (n := 1) dX4_image_16 ?_
  exact x_ireti dX4_image_17 rfl (hk _ (cS_kept hS hf1 hw1 rfl))
set_option maxHeartbeats 4000000 in
set_option maxRecDepth 20000 in
theorem c_X4_undo {σ : xH} {K : Int32 → xH → Prop} {S : St} (hS : cS σ S)  (hk : ∀ τ, cS τ (oUndo S).2 → K (oUndo S).1 τ) : Evi l (oC ad D cy) mX4_undo [.ref 0] σ K := by
  have hw := hS.1
  have h8 := tw_8 hw
  refine x_enter (ls := [some (.ref 0)]) rfl ?_
  unfold oUndo at hk
  cases hg : gK S with
  | none =>
    rw [hg] at hk
    refine x_aload_n (i := 0) dX4_undo_0 rfl rfl ?_
    refine x_getiE (i := 6) dX4_undo_1 rfl rfl rfl (by decide) fl_X4_40 inX4 hS.2.1 ?_
    refine x_ifneP (tgt := 14) dX4_undo_4 rfl (fun h4 => ?_) (fun h4 => ?_)
    · exact absurd (show (gK S).isSome = true from h4) (by rw [hg]; decide)
    · skip
      refine x_aload_n (i := 0) dX4_undo_7 rfl rfl ?_
      refine x_ldc (v := -1000000004) dX4_undo_8 kc_X4_160 ?_
      refine x_v1i dX4_undo_10 okX4_tell ml_X4_53 rfl rfl (Nat.le_of_ble_eq_true rfl) ⟨by decide, by decide⟩ (Nat.le_of_ble_eq_true rfl) (c_X4_tell hS 3 (by decide) (by decide) (by decide) (fun τ hτ => ?_))
      exact x_ireti dX4_undo_13 rfl (hk τ hτ)
  | some U =>
    rw [hg] at hk
    have hu := hS.2.2.1 U hg
    refine x_aload_n (i := 0) dX4_undo_0 rfl rfl ?_
    refine x_getiE (i := 6) dX4_undo_1 rfl rfl rfl (by decide) fl_X4_40 inX4 hS.2.1 ?_
    refine x_ifneP (tgt := 14) dX4_undo_4 rfl (fun h4 => ?_) (fun h4 => ?_)
    · skip
      refine x_aload_n (i := 0) dX4_undo_14 rfl rfl ?_
      refine x_getr (i := 0) dX4_undo_15 rfl rfl rfl (by decide) fl_X4_10 inX4 ?_
      refine x_aload_n (i := 0) dX4_undo_18 rfl rfl ?_
      refine x_getr (i := 1) dX4_undo_19 rfl rfl rfl (by decide) fl_X4_16 inX4 ?_
      refine x_v1v dX4_undo_22 okX3_becomeLike ml_X4_152 (sT0 isT1) rfl (Nat.le_of_ble_eq_true rfl) ⟨by decide, by decide⟩ (Nat.le_of_ble_eq_true rfl) (c_X3_becomeLike isT1 isT7 hu (by omega) (fun τ hw1 hf1 => ?_))
      refine x_aload_n (i := 0) dX4_undo_25 rfl rfl ?_
      refine x_getr (i := 0) dX4_undo_26 rfl rfl rfl (by decide) fl_X4_10 inX4 ?_
      refine x_getiE (i := 2) dX4_undo_29 (sT0 isT1) rfl rfl (by decide) fl_X4_104 inX3 (tw_n hw1) ?_
      exact x_ireti dX4_undo_32 rfl (hk _ (cS_1 hS hf1 hw1))
    · exact absurd (show (gK S).isSome = true by rw [hg]; rfl) h4
set_option maxHeartbeats 4000000 in
set_option maxRecDepth 20000 in
theorem c_X4_tear {σ : xH} {K : Int32 → xH → Prop} {S : St} (hS : cS σ S)  (hk : ∀ τ, cS τ (oTear S).2 → K (oTear S).1 τ) : Evi l (oC ad D cy) mX4_tear [.ref 0] σ K := by
  have hw := hS.1
  have h8 := tw_8 hw
  refine x_enter (ls := [some (.ref 0), none]) rfl ?_
  refine x_aload_n (i := 0) dX4_tear_0 rfl rfl ?_
  refine x_getiE (i := 6) dX4_tear_1 rfl rfl rfl (by decide) fl_X4_40 inX4 hS.2.1 ?_
  refine x_ifeqP (tgt := 11) dX4_tear_4 rfl (fun h4 => ?_) (fun h4 => ?_)
  · skip
    refine x_iconstN (n := 0) dX4_tear_11 ?_
    refine y_istore_n (i := 1) (ls2 := [_, _]) dX4_tear_12 rfl (by decide) rfl rfl ?_
    refine x_aload_n (i := 0) dX4_tear_13 rfl rfl ?_
    refine x_iconstN (n := 0) dX4_tear_14 ?_
    refine x_puti (i := 6) (ty := .boolean) dX4_tear_15 rfl rfl rfl (by decide) fl_X4_40 inX4 tyX4_ok nmX4 rfl rfl rfl rfl ?_
    refine x_iload_n (i := 1) dX4_tear_18 rfl rfl ?_
    exact x_ireti dX4_tear_19 rfl (by have e : (oTear S).1 = _ := (by first | exact xb_t h4 | exact xb_f h4); rw [e] at hk; exact hk _ (cS_torn hS))
  · skip
    refine x_iconstN (n := 1) dX4_tear_7 ?_
    refine x_goto (tgt := 12) dX4_tear_8 rfl ?_
    refine y_istore_n (i := 1) (ls2 := [_, _]) dX4_tear_12 rfl (by decide) rfl rfl ?_
    refine x_aload_n (i := 0) dX4_tear_13 rfl rfl ?_
    refine x_iconstN (n := 0) dX4_tear_14 ?_
    refine x_puti (i := 6) (ty := .boolean) dX4_tear_15 rfl rfl rfl (by decide) fl_X4_40 inX4 tyX4_ok nmX4 rfl rfl rfl rfl ?_
    refine x_iload_n (i := 1) dX4_tear_18 rfl rfl ?_
    exact x_ireti dX4_tear_19 rfl (by have e : (oTear S).1 = _ := (by first | exact xb_t h4 | exact xb_f h4); rw [e] at hk; exact hk _ (cS_torn hS))
set_option maxHeartbeats 4000000 in
set_option maxRecDepth 20000 in
theorem l_X4_status {σ : xH} {K : Int32 → xH → Prop} {S : St} (hS : cS σ S) (hk : ∀ τ, cS τ S → K (sSum (gF S) 7) τ) (w : Int32) : ∀ (n i : Nat) (s : Int32), i + n = 7 → s = sSum (gF S) i → Ex l (oC ad D cy) mX4_status 32 [some (.ref 0), some (.int w), some (.int s), some (.int (nI i))] [] σ (xQi K) := by
  intro n
  induction n with
  | zero =>
    intro i s hi e_s
    have hi : i = 7 := by omega
    subst hi
    refine x_iload_n (i := 3) dX4_status_32 rfl rfl ?_
    refine x_bipush (v := nI 7) dX4_status_33 (by decide) ?_
    refine x_icgeN (tgt := 53) (by omega) (by omega) dX4_status_35 rfl (fun h35 => ?_) (fun h35 => ?_)
    · skip
      refine x_iload_n (i := 2) dX4_status_53 rfl rfl ?_
      exact x_ireti dX4_status_54 rfl (e_s ▸ hk σ hS)
    · exact absurd h35 (by omega)
  | succ n ih =>
    intro i s hi e_s
    refine x_iload_n (i := 3) dX4_status_32 rfl rfl ?_
    refine x_bipush (v := nI 7) dX4_status_33 (by decide) ?_
    refine x_icgeN (tgt := 53) (by omega) (by omega) dX4_status_35 rfl (fun h35 => ?_) (fun h35 => ?_)
    · exact absurd h35 (by omega)
    · skip
      refine x_iload_n (i := 2) dX4_status_38 rfl rfl ?_
      refine x_aload_n (i := 0) dX4_status_39 rfl rfl ?_
      refine x_getr (i := 5) dX4_status_40 rfl rfl rfl (by decide) fl_X4_36 inX4 ?_
      refine x_iload_n (i := 3) dX4_status_43 rfl rfl ?_
      refine x_ialdE dX4_status_44 rfl (by omega) (by decide) (hS.2.2.2.2.2.2.2 i (by omega)) ?_
      refine x_iadd dX4_status_45 ?_
      refine y_istore_n (i := 2) (ls2 := [_, _, _, _]) dX4_status_46 rfl (by decide) rfl rfl ?_
      refine y_iincN (i := 3) (ls2 := [_, _, _, _]) dX4_status_47 rfl (by decide) rfl rfl ?_
      refine x_goto (tgt := 32) dX4_status_50 rfl ?_
      exact ih (i + 1) _ (by omega) (by rw [e_s]; rfl)
set_option maxHeartbeats 4000000 in
set_option maxRecDepth 20000 in
theorem c_X4_status {σ : xH} {K : Int32 → xH → Prop} {S : St} (hS : cS σ S) (w : Int32) (hk : ∀ τ, cS τ (oStatus S w).2 → K (oStatus S w).1 τ) : Evi l (oC ad D cy) mX4_status [.ref 0, .int w] σ K := by
  have hw := hS.1
  have h8 := tw_8 hw
  refine x_enter (ls := [some (.ref 0), some (.int w), none, none]) rfl ?_
  by_cases hc : vR (-1) (nI 6) w
-- set_option maxHeartbeats 4000000 in
-- set_option maxRecDepth 20000 in
  · unfold oStatus at hk
    rw [if_pos hc] at hk
    refine x_iload_n (i := 1) dX4_status_0 rfl rfl ?_
    refine x_iconst (v := -1) dX4_status_1 (by decide) ?_
    refine x_bipush (v := nI 6) dX4_status_2 (by decide) ?_
    refine x_s3i dX4_status_4 okX4_isWithin ml_X4_48 (Nat.le_of_ble_eq_true rfl) ⟨by decide, by decide⟩ (Nat.le_of_ble_eq_true rfl) (c_X4_isWithin _ _ _ ?_)
    refine x_ifneP (tgt := 17) dX4_status_7 rfl (fun h7 => ?_) (fun h7 => ?_)
    · skip
      refine x_iload_n (i := 1) dX4_status_17 rfl rfl ?_
      refine x_iflt (tgt := 28) dX4_status_18 rfl (fun h18 => ?_) (fun h18 => ?_)
      · skip
        refine x_iconstN (n := 0) dX4_status_28 ?_
        refine y_istore_n (i := 2) (ls2 := [_, _, _, _]) dX4_status_29 rfl (by decide) rfl rfl ?_
        refine x_iconstN (n := 0) dX4_status_30 ?_
        refine y_istore_n (i := 3) (ls2 := [_, _, _, _]) dX4_status_31 rfl (by decide) rfl rfl ?_
        rw [if_pos h18] at hk
        exact l_X4_status hS hk _ 7 0 _ rfl rfl
      · skip
        obtain ⟨j, hj, rfl⟩ := nI_of h18
        have hj6 : j ≤ 6 := Nat.not_lt.mp fun q => hc.2 ((nI_ltI (by decide) hj).mpr q)
        simp only [cn, nI_clamp hj, if_neg h18] at hk
        refine x_aload_n (i := 0) dX4_status_21 rfl rfl ?_
        refine x_getr (i := 5) dX4_status_22 rfl rfl rfl (by decide) fl_X4_36 inX4 ?_
        refine x_iload_n (i := 1) dX4_status_25 rfl rfl ?_
        refine x_ialdE dX4_status_26 rfl (by omega) (by decide) (hS.2.2.2.2.2.2.2 j (by omega)) ?_
        exact x_ireti dX4_status_27 rfl (hk σ hS)
    · exact absurd hc h7
  · unfold oStatus at hk
    rw [if_neg hc] at hk
    refine x_iload_n (i := 1) dX4_status_0 rfl rfl ?_
    refine x_iconst (v := -1) dX4_status_1 (by decide) ?_
    refine x_bipush (v := nI 6) dX4_status_2 (by decide) ?_
    refine x_s3i dX4_status_4 okX4_isWithin ml_X4_48 (Nat.le_of_ble_eq_true rfl) ⟨by decide, by decide⟩ (Nat.le_of_ble_eq_true rfl) (c_X4_isWithin _ _ _ ?_)
    refine x_ifneP (tgt := 17) dX4_status_7 rfl (fun h7 => ?_) (fun h7 => ?_)
    · exact absurd h7 hc
    · skip
      refine x_aload_n (i := 0) dX4_status_10 rfl rfl ?_
      refine x_ldc (v := -1000000001) dX4_status_11 kc_X4_52 ?_
      refine x_v1i dX4_status_13 okX4_tell ml_X4_53 rfl rfl (Nat.le_of_ble_eq_true rfl) ⟨by decide, by decide⟩ (Nat.le_of_ble_eq_true rfl) (c_X4_tell hS 0 (by decide) (by decide) (by decide) (fun τ hτ => ?_))
      exact x_ireti dX4_status_16 rfl (hk τ hτ)
/-- the tape, so far as it is written: c bytes are still to come -/
def tpB (S : St) (x : Int32) (m c : Nat) : Nat → Int32 := fun i => if gL S ≤ i ∧ i < gL S + m - c then fByte x (gL S + m - 1 - i) else gB S i
set_option maxHeartbeats 4000000 in
set_option maxRecDepth 20000 in
theorem l_X2_append {σ0 : xH} {K : xH → Prop} {S : St} {m : Nat} (hm : gL S + m ≤ 120) (x : Int32) (y : Int32) (hk : ∀ τ, τ.2 = σ0.2 → (∀ q, q ≠ 19 → q ≠ 20 → τ.1 q = σ0.1 q) → τ.1 19 1 = nI (gL S + m) → (∀ i, i < gL S + m → τ.1 20 i = tpB S x m 0 i) → K τ) : ∀ (c : Nat) (σ : xH), c ≤ m → σ.2 = σ0.2 → (∀ q, q ≠ 19 → q ≠ 20 → σ.1 q = σ0.1 q) → σ.1 19 1 = nI (gL S + m - c) → (∀ i, i < gL S + m - c → σ.1 20 i = tpB S x m c i) → Ex l (oC ad D cy) mX2_append 4 [some (.ref 19), some (.int x), some (.int y), some (.int (nI c - nI 1))] [] σ (xQv K) := by
  intro c
  induction c with
  | zero =>
    intro σ hc h1 h2 h3 h4
    refine x_iload_n (i := 3) dX2_append_4 rfl rfl ?_
    refine x_iflt (tgt := 52) dX2_append_5 rfl (fun h5 => ?_) (fun h5 => ?_)
    · skip
      exact x_retv dX2_append_52 rfl (hk σ h1 h2 h3 h4)
    · exact absurd (show nI 0 - nI 1 < 0 by decide) h5
  | succ c ih =>
    intro σ hc h1 h2 h3 h4
    rw [show nI (c + 1) - nI 1 = nI c from (pk_sub (by omega)).trans (by rw [Nat.add_sub_cancel])]
    refine x_iload_n (i := 3) dX2_append_4 rfl rfl ?_
    refine x_iflt (tgt := 52) dX2_append_5 rfl (fun h5 => ?_) (fun h5 => ?_)
    · exact absurd h5 (nI_pos (by omega))
    · skip
      refine x_aload_n (i := 0) dX2_append_8 rfl rfl ?_
      refine x_getiE (i := 1) dX2_append_9 rfl rfl rfl (by decide) fl_X2_15 inX2 h3 ?_
      refine x_bipush (v := nI 120) dX2_append_12 (by decide) ?_
      refine x_icgeN (tgt := 52) (by omega) (by omega) dX2_append_14 rfl (fun h14 => ?_) (fun h14 => ?_)
      · exact absurd h14 (by omega)
      · skip
        refine x_aload_n (i := 0) dX2_append_17 rfl rfl ?_
        refine x_getr (i := 0) dX2_append_18 rfl rfl rfl (by decide) fl_X2_9 inX2 ?_
        refine x_aload_n (i := 0) dX2_append_21 rfl rfl ?_
        refine x_getiE (i := 1) dX2_append_22 rfl rfl rfl (by decide) fl_X2_15 inX2 h3 ?_
        refine x_iload_n (i := 1) dX2_append_25 rfl rfl ?_
        refine x_bipush (v := nI 8) dX2_append_26 (by decide) ?_
        refine x_iload_n (i := 3) dX2_append_28 rfl rfl ?_
        refine x_imulN dX2_append_29 ?_
        refine x_iushr dX2_append_30 ?_
        refine x_sipush (v := nI 255) dX2_append_31 (by decide) ?_
        refine x_iand dX2_append_34 ?_
        refine x_iastN dX2_append_35 rfl (by omega) (by decide) ?_
        refine x_aload_n (i := 0) dX2_append_36 rfl rfl ?_
        refine x_dup dX2_append_37 rfl ?_
        refine x_getiE (i := 1) dX2_append_38 rfl rfl rfl (by decide) fl_X2_15 inX2 (show _ = nI (gL S + m - (c + 1)) by simp (disch := omega) only [xui_o]; exact h3) ?_
        refine x_iconstN (n := 1) dX2_append_41 ?_
        refine x_iaddN dX2_append_42 ?_
        refine x_puti (i := 1) (ty := .int) dX2_append_43 rfl rfl rfl (by decide) fl_X2_15 inX2 tyX2_ok nmX2 rfl rfl rfl rfl ?_
        refine y_iinc (i := 3) (ls2 := [_, _, _, _]) dX2_append_46 rfl rfl (by decide) rfl rfl ?_
        refine x_goto (tgt := 4) dX2_append_49 rfl ?_
        refine x_ls (ls' := [some (.ref 19), some (.int x), some (.int y), some (.int (nI c - nI 1))]) (by rw [Int32.sub_eq_add_neg, show -nI 1 = Int32.ofInt (-1) by decide]) (ih _ (by omega) h1 (fun q g1 g2 => ?_) ?_ (fun i hi => ?_))
        · simp (disch := omega) only [xui_o]; exact h2 q g1 g2
        · simp only [xui_s, upd, if_pos]; congr 1; omega
        · simp (disch := omega) only [xui_o, xui_s, upd]
          by_cases e : i = gL S + m - (c + 1)
          · rw [if_pos e]; unfold tpB; rw [if_pos ⟨by omega, hi⟩, e, show gL S + m - 1 - (gL S + m - (c + 1)) = c by omega]; rfl
          · rw [if_neg e, h4 i (by omega)]; unfold tpB
            by_cases e2 : gL S ≤ i
            · rw [if_pos ⟨e2, by omega⟩, if_pos ⟨e2, hi⟩]
            · rw [if_neg (fun z => e2 z.1), if_neg (fun z => e2 z.1)]
set_option maxHeartbeats 4000000 in
set_option maxRecDepth 20000 in
theorem c_X2_append {σ : xH} {K : xH → Prop} {S : St} (hS : cS σ S) {m : Nat} (h1m : 1 ≤ m) (hm : gL S + m ≤ 120) (x : Int32) (hk : ∀ τ, τ.2 = σ.2 → (∀ q, q ≠ 19 → q ≠ 20 → τ.1 q = σ.1 q) → τ.1 19 1 = nI (gL S + m) → (∀ i, i < gL S + m → τ.1 20 i = tpB S x m 0 i) → K τ) : Evv l (oC ad D cy) mX2_append [.ref 19, .int x, .int (nI m)] σ K := by
  refine x_enter (ls := [some (.ref 19), some (.int x), some (.int (nI m)), none]) rfl ?_
  refine x_iload_n (i := 2) dX2_append_0 rfl rfl ?_
  refine x_iconstN (n := 1) dX2_append_1 ?_
  refine x_isub dX2_append_2 ?_
  refine y_istore_n (i := 3) (ls2 := [_, _, _, _]) dX2_append_3 rfl (by decide) rfl rfl ?_
  exact l_X2_append hm x _ hk m σ (Nat.le_refl _) rfl (fun _ _ _ => rfl) (by rw [Nat.add_sub_cancel]; exact hS.2.2.2.1) (fun i hi => by unfold tpB; rw [if_neg (fun z => by omega)]; exact hS.2.2.2.2.1 i (by omega))
set_option maxHeartbeats 4000000 in
set_option maxRecDepth 20000 in
theorem c_X4_feed {σ : xH} {K : Int32 → xH → Prop} {S : St} (hS : cS σ S) (x m : Int32) (hk : ∀ τ, cS τ (oFeed S x m).2 → K (oFeed S x m).1 τ) : Evi l (oC ad D cy) mX4_feed [.ref 0, .int x, .int m] σ K := by
  have hw := hS.1
  have h8 := tw_8 hw
  refine x_enter (ls := [some (.ref 0), some (.int x), some (.int m)]) rfl ?_
  by_cases hc : vR (nI 1) (nI 4) m
  · unfold oFeed at hk
    rw [if_pos hc] at hk
    have hL := hS.2.2.2.2.2.1
    obtain ⟨m, hm0, hm, rfl⟩ := vR_of hc (by decide) (by decide)
    simp only [cn, nI_clamp (show m < 2 ^ 31 by omega)] at hk
    refine x_iload_n (i := 2) dX4_feed_0 rfl rfl ?_
    refine x_iconstN (n := 1) dX4_feed_1 ?_
    refine x_iconstN (n := 4) dX4_feed_2 ?_
    refine x_s3i dX4_feed_3 okX4_isWithin ml_X4_48 (Nat.le_of_ble_eq_true rfl) ⟨by decide, by decide⟩ (Nat.le_of_ble_eq_true rfl) (c_X4_isWithin _ _ _ ?_)
    refine x_ifneP (tgt := 16) dX4_feed_6 rfl (fun h6 => ?_) (fun h6 => ?_)
    · skip
      refine x_aload_n (i := 0) dX4_feed_16 rfl rfl ?_
      refine x_getr (i := 3) dX4_feed_17 rfl rfl rfl (by decide) fl_X4_25 inX4 ?_
      refine x_getiE (i := 1) dX4_feed_20 rfl rfl rfl (by decide) fl_X4_172 inX2 hS.2.2.2.1 ?_
      refine x_iload_n (i := 2) dX4_feed_23 rfl rfl ?_
      refine x_iaddN dX4_feed_24 ?_
      refine x_bipush (v := nI 120) dX4_feed_25 (by decide) ?_
      refine x_icleN (tgt := 37) (by omega) (by omega) dX4_feed_27 rfl (fun h27 => ?_) (fun h27 => ?_)
      · skip
        refine x_aload_n (i := 0) dX4_feed_37 rfl rfl ?_
        refine x_getr (i := 3) dX4_feed_38 rfl rfl rfl (by decide) fl_X4_25 inX4 ?_
        refine x_iload_n (i := 1) dX4_feed_41 rfl rfl ?_
        refine x_iload_n (i := 2) dX4_feed_42 rfl rfl ?_
        refine x_v2v dX4_feed_43 okX2_append ml_X4_175 rfl rfl (Nat.le_of_ble_eq_true rfl) ⟨by decide, by decide⟩ (Nat.le_of_ble_eq_true rfl) (c_X2_append hS hm0 (by omega) _ (fun τ g1 g2 g3 g4 => ?_))
        refine x_aload_n (i := 0) dX4_feed_46 rfl rfl ?_
        refine x_getr (i := 3) dX4_feed_47 rfl rfl rfl (by decide) fl_X4_25 inX4 ?_
        refine x_getiE (i := 1) dX4_feed_50 rfl rfl rfl (by decide) fl_X4_172 inX2 g3 ?_
        exact x_ireti dX4_feed_53 rfl (by rw [if_pos h27] at hk; exact hk τ (cS_tape hS g1 g2 h27 g3 g4))
      · skip
        refine x_aload_n (i := 0) dX4_feed_30 rfl rfl ?_
        refine x_ldc (v := -1000000002) dX4_feed_31 kc_X4_107 ?_
        refine x_v1i dX4_feed_33 okX4_tell ml_X4_53 rfl rfl (Nat.le_of_ble_eq_true rfl) ⟨by decide, by decide⟩ (Nat.le_of_ble_eq_true rfl) (c_X4_tell hS 1 (by decide) (by decide) (by decide) (fun τ hτ => ?_))
        exact x_ireti dX4_feed_36 rfl (by rw [if_neg (by omega)] at hk; exact hk τ hτ)
    · exact absurd hc h6
  · unfold oFeed at hk
    rw [if_neg hc] at hk
    refine x_iload_n (i := 2) dX4_feed_0 rfl rfl ?_
    refine x_iconstN (n := 1) dX4_feed_1 ?_
    refine x_iconstN (n := 4) dX4_feed_2 ?_
    refine x_s3i dX4_feed_3 okX4_isWithin ml_X4_48 (Nat.le_of_ble_eq_true rfl) ⟨by decide, by decide⟩ (Nat.le_of_ble_eq_true rfl) (c_X4_isWithin _ _ _ ?_)
    refine x_ifneP (tgt := 16) dX4_feed_6 rfl (fun h6 => ?_) (fun h6 => ?_)
    · exact absurd h6 hc
    · skip
      refine x_aload_n (i := 0) dX4_feed_9 rfl rfl ?_
      refine x_ldc (v := -1000000001) dX4_feed_10 kc_X4_52 ?_
      refine x_v1i dX4_feed_12 okX4_tell ml_X4_53 rfl rfl (Nat.le_of_ble_eq_true rfl) ⟨by decide, by decide⟩ (Nat.le_of_ble_eq_true rfl) (c_X4_tell hS 0 (by decide) (by decide) (by decide) (fun τ hτ => ?_))
      exact x_ireti dX4_feed_15 rfl (hk τ hτ)
end
