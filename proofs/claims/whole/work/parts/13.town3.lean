section
variable {l : Launch} {ad : Nat → Nat} {D : va_G} {cy : Nat → ClassId}
theorem xui_s (σ : xH) (k : Nat) (f : Nat → Int32) : (xui σ k f).1 k = f := by simp [xui]
theorem xui_o (σ : xH) {k q : Nat} (f : Nat → Int32) (h : q ≠ k) : (xui σ k f).1 q = σ.1 q := by simp [xui, h]
theorem xui_2 (σ : xH) (k : Nat) (f : Nat → Int32) : (xui σ k f).2 = σ.2 := rfl
theorem xul_s (σ : xH) (k : Nat) (f : Nat → Int64) : (xul σ k f).2 k = f := by simp [xul]
theorem xul_o (σ : xH) {k q : Nat} (f : Nat → Int64) (h : q ≠ k) : (xul σ k f).2 q = σ.2 q := by simp [xul, h]
theorem xul_1 (σ : xH) (k : Nat) (f : Nat → Int64) : (xul σ k f).1 = σ.1 := rfl
theorem cl0 : (nI 0).toNatClampNeg = 0 := by decide
theorem cl8 : (nI 8).toNatClampNeg = 8 := by decide
theorem cl60 : (nI 60).toNatClampNeg = 60 := by decide
set_option maxHeartbeats 4000000 in
set_option maxRecDepth 20000 in
theorem c_X3_becomeLike {σ : xH} {K : xH → Prop} {t : Nat} (hT : isT t) {u : Nat} {U : Tw} (hU : isT u) (hu : tw σ u U) (hd : t + 5 < u ∨ u + 5 < t) (hk : ∀ τ, tw τ t U → fr t σ τ → K τ) : Evv l (oC ad D cy) mX3_becomeLike [.ref t, .ref u] σ K := by
  refine x_enter (ls := [some (.ref t), some (.ref u)]) rfl ?_
  refine x_aload_n (i := 0) dX3_becomeLike_0 rfl rfl ?_
  refine x_aload_n (i := 1) dX3_becomeLike_1 rfl rfl ?_
  refine x_getiE (i := 0) dX3_becomeLike_2 (sT0 hU) rfl rfl (by decide) fl_X3_9 inX3 (show _ = tDay U by first | exact tw_day hu | (rw [← tw_day hu]; simp (disch := omega) [xui_s, xui_o, upd])) ?_
  refine x_puti (i := 0) (ty := .int) dX3_becomeLike_5 (sT0 hT) rfl rfl (by decide) fl_X3_9 inX3 tyX3_ok nmX3 rfl rfl rfl rfl ?_
  refine x_aload_n (i := 0) dX3_becomeLike_8 rfl rfl ?_
  refine x_aload_n (i := 1) dX3_becomeLike_9 rfl rfl ?_
  refine x_getiE (i := 1) dX3_becomeLike_10 (sT0 hU) rfl rfl (by decide) fl_X3_15 inX3 (show _ = tIn U by first | exact tw_in hu | (rw [← tw_in hu]; simp (disch := omega) [xui_s, xui_o, upd])) ?_
  refine x_puti (i := 1) (ty := .int) dX3_becomeLike_13 (sT0 hT) rfl rfl (by decide) fl_X3_15 inX3 tyX3_ok nmX3 rfl rfl rfl rfl ?_
  refine x_aload_n (i := 0) dX3_becomeLike_16 rfl rfl ?_
  refine x_aload_n (i := 1) dX3_becomeLike_17 rfl rfl ?_
  refine x_getiE (i := 2) dX3_becomeLike_18 (sT0 hU) rfl rfl (by decide) fl_X3_18 inX3 (show _ = nI (tN U) by first | exact tw_n hu | (rw [← tw_n hu]; simp (disch := omega) [xui_s, xui_o, upd])) ?_
  refine x_puti (i := 2) (ty := .int) dX3_becomeLike_21 (sT0 hT) rfl rfl (by decide) fl_X3_18 inX3 tyX3_ok nmX3 rfl rfl rfl rfl ?_
  refine x_aload_n (i := 1) dX3_becomeLike_24 rfl rfl ?_
  refine x_getr (i := 3) dX3_becomeLike_25 (sT0 hU) rfl rfl (by decide) fl_X3_21 inX3 ?_
  refine x_iconstN (n := 0) dX3_becomeLike_28 ?_
  refine x_aload_n (i := 0) dX3_becomeLike_29 rfl rfl ?_
  refine x_getr (i := 3) dX3_becomeLike_30 (sT0 hT) rfl rfl (by decide) fl_X3_21 inX3 ?_
  refine x_iconstN (n := 0) dX3_becomeLike_33 ?_
  refine x_bipush (v := nI 60) dX3_becomeLike_34 (by decide) ?_
  refine x_acpi dX3_becomeLike_36 ml_X3_37 nm_java_lang_System_arraycopy sm_java_lang_System_arraycopy in_J10 (sT1 hU) (sT1 hT) (by decide) (by decide) (by decide) (by decide) (by decide) (by decide) (Nat.le_of_ble_eq_true rfl) ?_
  refine x_aload_n (i := 1) dX3_becomeLike_39 rfl rfl ?_
  refine x_getr (i := 4) dX3_becomeLike_40 (sT0 hU) rfl rfl (by decide) fl_X3_25 inX3 ?_
  refine x_iconstN (n := 0) dX3_becomeLike_43 ?_
  refine x_aload_n (i := 0) dX3_becomeLike_44 rfl rfl ?_
  refine x_getr (i := 4) dX3_becomeLike_45 (sT0 hT) rfl rfl (by decide) fl_X3_25 inX3 ?_
  refine x_iconstN (n := 0) dX3_becomeLike_48 ?_
  refine x_bipush (v := nI 60) dX3_becomeLike_49 (by decide) ?_
  refine x_acpi dX3_becomeLike_51 ml_X3_37 nm_java_lang_System_arraycopy sm_java_lang_System_arraycopy in_J10 (sT2 hU) (sT2 hT) (by decide) (by decide) (by decide) (by decide) (by decide) (by decide) (Nat.le_of_ble_eq_true rfl) ?_
  refine x_aload_n (i := 1) dX3_becomeLike_54 rfl rfl ?_
  refine x_getr (i := 5) dX3_becomeLike_55 (sT0 hU) rfl rfl (by decide) fl_X3_28 inX3 ?_
  refine x_iconstN (n := 0) dX3_becomeLike_58 ?_
  refine x_aload_n (i := 0) dX3_becomeLike_59 rfl rfl ?_
  refine x_getr (i := 5) dX3_becomeLike_60 (sT0 hT) rfl rfl (by decide) fl_X3_28 inX3 ?_
  refine x_iconstN (n := 0) dX3_becomeLike_63 ?_
  refine x_bipush (v := nI 8) dX3_becomeLike_64 (by decide) ?_
  refine x_acpi dX3_becomeLike_66 ml_X3_37 nm_java_lang_System_arraycopy sm_java_lang_System_arraycopy in_J10 (sT3 hU) (sT3 hT) (by decide) (by decide) (by decide) (by decide) (by decide) (by decide) (Nat.le_of_ble_eq_true rfl) ?_
  refine x_aload_n (i := 1) dX3_becomeLike_69 rfl rfl ?_
  refine x_getr (i := 6) dX3_becomeLike_70 (sT0 hU) rfl rfl (by decide) fl_X3_31 inX3 ?_
  refine x_iconstN (n := 0) dX3_becomeLike_73 ?_
  refine x_aload_n (i := 0) dX3_becomeLike_74 rfl rfl ?_
  refine x_getr (i := 6) dX3_becomeLike_75 (sT0 hT) rfl rfl (by decide) fl_X3_31 inX3 ?_
  refine x_iconstN (n := 0) dX3_becomeLike_78 ?_
  refine x_bipush (v := nI 8) dX3_becomeLike_79 (by decide) ?_
  refine x_acpi dX3_becomeLike_81 ml_X3_37 nm_java_lang_System_arraycopy sm_java_lang_System_arraycopy in_J10 (sT4 hU) (sT4 hT) (by decide) (by decide) (by decide) (by decide) (by decide) (by decide) (Nat.le_of_ble_eq_true rfl) ?_
  refine x_aload_n (i := 1) dX3_becomeLike_84 rfl rfl ?_
  refine x_getr (i := 7) dX3_becomeLike_85 (sT0 hU) rfl rfl (by decide) fl_X3_34 inX3 ?_
  refine x_iconstN (n := 0) dX3_becomeLike_88 ?_
  refine x_aload_n (i := 0) dX3_becomeLike_89 rfl rfl ?_
  refine x_getr (i := 7) dX3_becomeLike_90 (sT0 hT) rfl rfl (by decide) fl_X3_34 inX3 ?_
  refine x_iconstN (n := 0) dX3_becomeLike_93 ?_
  refine x_bipush (v := nI 8) dX3_becomeLike_94 (by decide) ?_
  refine x_acpi dX3_becomeLike_96 ml_X3_37 nm_java_lang_System_arraycopy sm_java_lang_System_arraycopy in_J10 (sT5 hU) (sT5 hT) (by decide) (by decide) (by decide) (by decide) (by decide) (by decide) (Nat.le_of_ble_eq_true rfl) ?_
  exact x_retv dX3_becomeLike_99 rfl (hk _ ⟨by simp (disch := omega) [xui_s, xui_o, upd, va_cpy, cl0, cl8, cl60, xui_2], by simp (disch := omega) [xui_s, xui_o, upd, va_cpy, cl0, cl8, cl60, xui_2], by simp (disch := omega) [xui_s, xui_o, upd, va_cpy, cl0, cl8, cl60, xui_2], fun i hi => by rw [← tw_th hu hi]; simp (disch := omega) [xui_s, xui_o, upd, va_cpy, cl0, cl8, cl60, hi], fun i hi => by rw [← tw_ag hu hi]; simp (disch := omega) [xui_s, xui_o, upd, va_cpy, cl0, cl8, cl60, hi], fun d h => by have := tw_8 hu; have h9 : d < 8 := (by omega); rw [← tw_kd hu h]; simp (disch := omega) [xui_s, xui_o, upd, va_cpy, cl0, cl8, cl60, h9], fun d h => by have := tw_8 hu; have h9 : d < 8 := (by omega); rw [← tw_ws hu h]; simp (disch := omega) [xui_s, xui_o, upd, va_cpy, cl0, cl8, cl60, h9], fun d h => by have := tw_8 hu; have h9 : d < 8 := (by omega); rw [← tw_go hu h]; simp (disch := omega) [xui_s, xui_o, upd, va_cpy, cl0, cl8, cl60, h9], tw_8 hu, fun d h => tw_g3 hu h⟩ ⟨rfl, fun q hq => by simp (disch := omega) [xui_o]⟩)
/-- sheet j: its bits, size, numbers -/
def sh (σ : xH) (j : Nat) (b : Int32) (m : Nat) (f : Nat → Int64) : Prop := σ.1 (22 + 2 * j) 0 = b ∧ σ.1 (22 + 2 * j) 1 = nI m ∧ (∀ i, i < 40 → σ.2 (23 + 2 * j) i = f i) ∧ m ≤ 40
/-- only sheet j has changed -/
def frS (j : Nat) (σ τ : xH) : Prop := (∀ q, q ≠ 22 + 2 * j → τ.1 q = σ.1 q) ∧ ∀ q, q ≠ 23 + 2 * j → τ.2 q = σ.2 q
theorem frS_rf (j : Nat) (σ : xH) : frS j σ σ := ⟨fun _ _ => rfl, fun _ _ => rfl⟩
theorem frS_tr {j : Nat} {σ τ υ : xH} (h : frS j σ τ) (g : frS j τ υ) : frS j σ υ := ⟨fun q hq => (g.1 q hq).trans (h.1 q hq), fun q hq => (g.2 q hq).trans (h.2 q hq)⟩
/-- a number of so many bits -/
def sBits (b : Int32) (v : Int64) : Int64 := if b = nI 8 then v.toInt32.toInt8.toInt32.toInt64 else if b = nI 16 then v.toInt32.toInt16.toInt32.toInt64 else v
theorem sh_put {σ : xH} {j m i : Nat} {b : Int32} {f : Nat → Int64} (h : sh σ j b m f) (v : Int64) : sh (xpl σ (23 + 2 * j) i v) j b m (vp_updL f i v) := by
  obtain ⟨h1, h2, h3, h4⟩ := h
  refine ⟨h1, h2, fun q hq => ?_, h4⟩
  by_cases e : q = i
  · simp [xul, vp_updL, e]
  · simp [xul, vp_updL, e, h3 q hq]
theorem frS_put {σ : xH} {j i : Nat} {v : Int64} : frS j σ (xpl σ (23 + 2 * j) i v) := ⟨fun _ _ => rfl, fun q hq => by simp [xul, hq]⟩
set_option maxHeartbeats 4000000 in
set_option maxRecDepth 20000 in
theorem c_X1_hasPart {σ : xH} {K : Int32 → xH → Prop} {j m : Nat} {b : Int32} {f : Nat → Int64} (hj : j < 4) (hs : sh σ j b m f) (x y : Int32) (hk : K (xb (¬ x < 0 ∧ ¬ y < 0 ∧ ¬ nI m < y ∧ ¬ nI m - y < x)) σ) : Evi l (oC ad D cy) mX1_hasPart [.ref (22 + 2 * j), .int x, .int y] σ K := by
  refine x_enter (ls := [some (.ref (22 + 2 * j)), some (.int x), some (.int y)]) rfl ?_
  refine x_iload_n (i := 1) dX1_hasPart_0 rfl rfl ?_
  refine x_iflt (tgt := 30) dX1_hasPart_1 rfl (fun h1 => ?_) (fun h1 => ?_)
  · skip
    refine x_iconstN (n := 0) dX1_hasPart_30 ?_
    exact x_iretz dX1_hasPart_31 rfl (by decide) (by simpa (decide := true) [xb, h1] using hk)
  · skip
    refine x_iload_n (i := 2) dX1_hasPart_4 rfl rfl ?_
    refine x_iflt (tgt := 30) dX1_hasPart_5 rfl (fun h5 => ?_) (fun h5 => ?_)
    · skip
      refine x_iconstN (n := 0) dX1_hasPart_30 ?_
      exact x_iretz dX1_hasPart_31 rfl (by decide) (by simpa (decide := true) [xb, h1, h5] using hk)
    · skip
      refine x_iload_n (i := 2) dX1_hasPart_8 rfl rfl ?_
      refine x_aload_n (i := 0) dX1_hasPart_9 rfl rfl ?_
      refine x_getiE (i := 1) dX1_hasPart_10 (sS0 hj) rfl rfl (by decide) fl_X1_15 inX1 hs.2.1 ?_
      refine x_icgt (tgt := 30) dX1_hasPart_13 rfl (fun h13 => ?_) (fun h13 => ?_)
      · skip
        refine x_iconstN (n := 0) dX1_hasPart_30 ?_
        exact x_iretz dX1_hasPart_31 rfl (by decide) (by simpa (decide := true) [xb, h1, h5, h13] using hk)
      · skip
        refine x_iload_n (i := 1) dX1_hasPart_16 rfl rfl ?_
        refine x_aload_n (i := 0) dX1_hasPart_17 rfl rfl ?_
        refine x_getiE (i := 1) dX1_hasPart_18 (sS0 hj) rfl rfl (by decide) fl_X1_15 inX1 hs.2.1 ?_
        refine x_iload_n (i := 2) dX1_hasPart_21 rfl rfl ?_
        refine x_isub dX1_hasPart_22 ?_
        refine x_icgt (tgt := 30) dX1_hasPart_23 rfl (fun h23 => ?_) (fun h23 => ?_)
        · skip
          refine x_iconstN (n := 0) dX1_hasPart_30 ?_
          exact x_iretz dX1_hasPart_31 rfl (by decide) (by simpa (decide := true) [xb, h1, h5, h13, h23] using hk)
        · skip
          refine x_iconstN (n := 1) dX1_hasPart_26 ?_
          refine x_goto (tgt := 31) dX1_hasPart_27 rfl ?_
          exact x_iretz dX1_hasPart_31 rfl (by decide) (by simpa (decide := true) [xb, h1, h5, h13, h23] using hk)
set_option maxHeartbeats 4000000 in
set_option maxRecDepth 20000 in
theorem c_X1_put {σ : xH} {K : xH → Prop} {j m : Nat} {b : Int32} {f : Nat → Int64} (hj : j < 4) (hs : sh σ j b m f) {i : Nat} (hi : i < 40) (v : Int64) (hk : ∀ τ, sh τ j b m (vp_updL f i (sBits b v)) → frS j σ τ → K τ) : Evv l (oC ad D cy) mX1_put [.ref (22 + 2 * j), .int (nI i), .long v] σ K := by
  refine x_enter (ls := [some (.ref (22 + 2 * j)), some (.int (nI i)), some (.long v), none]) rfl ?_
  refine x_aload_n (i := 0) dX1_put_0 rfl rfl ?_
  refine x_getiE (i := 0) dX1_put_1 (sS0 hj) rfl rfl (by decide) fl_X1_9 inX1 hs.1 ?_
  refine x_bipush (v := nI 8) dX1_put_4 (by decide) ?_
  refine x_icne (tgt := 22) dX1_put_6 rfl (fun h6 => ?_) (fun h6 => ?_)
  · skip
    refine x_aload_n (i := 0) dX1_put_22 rfl rfl ?_
    refine x_getiE (i := 0) dX1_put_23 (sS0 hj) rfl rfl (by decide) fl_X1_9 inX1 hs.1 ?_
    refine x_bipush (v := nI 16) dX1_put_26 (by decide) ?_
    refine x_icne (tgt := 44) dX1_put_28 rfl (fun h28 => ?_) (fun h28 => ?_)
    · skip
      refine x_aload_n (i := 0) dX1_put_44 rfl rfl ?_
      refine x_getr (i := 2) dX1_put_45 (sS0 hj) rfl rfl (by decide) fl_X1_18 inX1 ?_
      refine x_iload_n (i := 1) dX1_put_48 rfl rfl ?_
      refine x_lload_n (i := 2) dX1_put_49 rfl rfl ?_
      refine x_lastN dX1_put_50 (sS1 hj) (by omega) (by decide) ?_
      exact x_retv dX1_put_51 rfl (hk _ (by have := sh_put (i := i) hs (sBits b v); simpa (decide := true) [sBits, h6, h28] using this) frS_put)
    · skip
      refine x_aload_n (i := 0) dX1_put_31 rfl rfl ?_
      refine x_getr (i := 2) dX1_put_32 (sS0 hj) rfl rfl (by decide) fl_X1_18 inX1 ?_
      refine x_iload_n (i := 1) dX1_put_35 rfl rfl ?_
      refine x_lload_n (i := 2) dX1_put_36 rfl rfl ?_
      refine x_l2i dX1_put_37 ?_
      refine x_i2s dX1_put_38 ?_
      refine x_i2l dX1_put_39 ?_
      refine x_lastN dX1_put_40 (sS1 hj) (by omega) (by decide) ?_
      refine x_goto (tgt := 51) dX1_put_41 rfl ?_
      exact x_retv dX1_put_51 rfl (hk _ (by have := sh_put (i := i) hs (sBits b v); simpa (decide := true) [sBits, h6, h28] using this) frS_put)
  · skip
    refine x_aload_n (i := 0) dX1_put_9 rfl rfl ?_
    refine x_getr (i := 2) dX1_put_10 (sS0 hj) rfl rfl (by decide) fl_X1_18 inX1 ?_
    refine x_iload_n (i := 1) dX1_put_13 rfl rfl ?_
    refine x_lload_n (i := 2) dX1_put_14 rfl rfl ?_
    refine x_l2i dX1_put_15 ?_
    refine x_i2b dX1_put_16 ?_
    refine x_i2l dX1_put_17 ?_
    refine x_lastN dX1_put_18 (sS1 hj) (by omega) (by decide) ?_
    refine x_goto (tgt := 51) dX1_put_19 rfl ?_
    exact x_retv dX1_put_51 rfl (hk _ (by have := sh_put (i := i) hs (sBits b v); simpa (decide := true) [sBits, h6] using this) frS_put)
set_option maxHeartbeats 4000000 in
set_option maxRecDepth 20000 in
theorem l_X1_become {σ0 : xH} {K : xH → Prop} {j m : Nat} {b : Int32} (hj : j < 4) (hm : m ≤ 40) (hk : ∀ τ, sh τ j b m (fun _ => 0) → frS j σ0 τ → K τ) (x y : Int32) : ∀ (n i : Nat) (σ : xH), i + n = 40 → σ.1 (22 + 2 * j) 0 = b → σ.1 (22 + 2 * j) 1 = nI m → (∀ q, q < i → σ.2 (23 + 2 * j) q = 0) → frS j σ0 σ → Ex l (oC ad D cy) mX1_become 12 [some (.ref (22 + 2 * j)), some (.int x), some (.int y), some (.int (nI i))] [] σ (xQv K) := by
  intro n
  induction n with
  | zero =>
    intro i σ hi h1 h2 h3 hf
    have hi : i = 40 := by omega
    subst hi
    refine x_iload_n (i := 3) dX1_become_12 rfl rfl ?_
    refine x_bipush (v := nI 40) dX1_become_13 (by decide) ?_
    refine x_icgeN (tgt := 31) (by omega) (by omega) dX1_become_15 rfl (fun h15 => ?_) (fun h15 => ?_)
    · skip
      exact x_retv dX1_become_31 rfl (hk σ ⟨h1, h2, h3, hm⟩ hf)
    · exact absurd h15 (by omega)
  | succ n ih =>
    intro i σ hi h1 h2 h3 hf
    refine x_iload_n (i := 3) dX1_become_12 rfl rfl ?_
    refine x_bipush (v := nI 40) dX1_become_13 (by decide) ?_
    refine x_icgeN (tgt := 31) (by omega) (by omega) dX1_become_15 rfl (fun h15 => ?_) (fun h15 => ?_)
    · exact absurd h15 (by omega)
    · skip
      refine x_aload_n (i := 0) dX1_become_18 rfl rfl ?_
      refine x_getr (i := 2) dX1_become_19 (sS0 hj) rfl rfl (by decide) fl_X1_18 inX1 ?_
      refine x_iload_n (i := 3) dX1_become_22 rfl rfl ?_
      refine x_lconst (v := 0) dX1_become_23 (by decide) ?_
      refine x_lastN dX1_become_24 (sS1 hj) (by omega) (by decide) ?_
      refine y_iincN (i := 3) (ls2 := [_, _, _, _]) dX1_become_25 rfl (by decide) rfl rfl ?_
      refine x_goto (tgt := 12) dX1_become_28 rfl ?_
      exact ih (i + 1) _ (by omega) h1 h2 (fun q hq => if e : q = i then (by simp [xul, vp_updL, e]) else (by simp [xul, vp_updL, e]; exact h3 q (by omega))) (frS_tr hf frS_put)
set_option maxHeartbeats 4000000 in
set_option maxRecDepth 20000 in
theorem c_X1_become {σ : xH} {K : xH → Prop} {j m : Nat} (hj : j < 4) (hm : m ≤ 40) (b : Int32) (hk : ∀ τ, sh τ j b m (fun _ => 0) → frS j σ τ → K τ) : Evv l (oC ad D cy) mX1_become [.ref (22 + 2 * j), .int b, .int (nI m)] σ K := by
  refine x_enter (ls := [some (.ref (22 + 2 * j)), some (.int b), some (.int (nI m)), none]) rfl ?_
  refine x_aload_n (i := 0) dX1_become_0 rfl rfl ?_
  refine x_iload_n (i := 1) dX1_become_1 rfl rfl ?_
  refine x_puti (i := 0) (ty := .int) dX1_become_2 (sS0 hj) rfl rfl (by decide) fl_X1_9 inX1 tyX1_ok nmX1 rfl rfl rfl rfl ?_
  refine x_aload_n (i := 0) dX1_become_5 rfl rfl ?_
  refine x_iload_n (i := 2) dX1_become_6 rfl rfl ?_
  refine x_puti (i := 1) (ty := .int) dX1_become_7 (sS0 hj) rfl rfl (by decide) fl_X1_15 inX1 tyX1_ok nmX1 rfl rfl rfl rfl ?_
  refine x_iconstN (n := 0) dX1_become_10 ?_
  refine y_istore_n (i := 3) (ls2 := [_, _, _, _]) dX1_become_11 rfl (by decide) rfl rfl ?_
  exact l_X1_become hj hm hk _ _ 40 0 _ rfl (by simp [xui, upd]) (by simp [xui, upd]) (fun q hq => absurd hq (Nat.not_lt_zero _)) ⟨fun q hq => by simp [xui, hq], fun q hq => rfl⟩
end
