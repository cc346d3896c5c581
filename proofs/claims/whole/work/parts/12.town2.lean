section
variable {l : Launch} {ad : Nat → Nat} {D : va_G} {cy : Nat → ClassId}
def updn (f : Nat → Nat) (k x : Nat) : Nat → Nat := fun j => if j = k then x else f j
/-- a thing is laid; one more driver; the ages, as far as i, a day older -/
def layT (T : Tw) (p : Nat) (v : Int32) : Tw := (tDay T, tIn T, tN T, upd (tTh T) p v, upd (tAg T) p (nI 0), tKd T, tWs T, tGo T)
def addT (T : Tw) (k : Int32) : Tw := (tDay T, tIn T, tN T + 1, tTh T, tAg T, upd (tKd T) (tN T) k, upd (tWs T) (tN T) (nI 40), updn (tGo T) (tN T) 0)
def agF (T : Tw) (i : Nat) : Nat → Int32 := fun j => if j < i ∧ tTh T j = nI 4 ∧ ¬ nI 999 ≤ tAg T j then tAg T j + nI 1 else tAg T j
def agS (T : Tw) (i : Nat) : Tw := (tDay T, tIn T, tN T, tTh T, agF T i, tKd T, tWs T, tGo T)
theorem fr_ui {t k : Nat} {σ : xH} {f : Nat → Int32} (h1 : t ≤ k) (h2 : k ≤ t + 5) : fr t σ (xui σ k f) := ⟨rfl, fun q hq => by
  show (if q = k then f else σ.1 q) = σ.1 q
  rw [if_neg (by omega)]⟩
theorem tw_lay {σ : xH} {t : Nat} {T : Tw} (h : tw σ t T) (p : Nat) (v : Int32) : tw (xpi (xpi σ (t + 1) p v) (t + 2) p (nI 0)) t (layT T p v) := by
  obtain ⟨h1, h2, h3, h4, h5, h6, h7, h8, h9, h10⟩ := h
  refine ⟨?_, ?_, ?_, ?_, ?_, ?_, ?_, ?_, h9, h10⟩
  · simpa [tDay, tIn, tN, tTh, tAg, tKd, tWs, tGo, layT, addT, agS, xui] using h1
  · simpa [tDay, tIn, tN, tTh, tAg, tKd, tWs, tGo, layT, addT, agS, xui] using h2
  · simpa [tDay, tIn, tN, tTh, tAg, tKd, tWs, tGo, layT, addT, agS, xui] using h3
  · intro i hi
    by_cases e : i = p
    · simp [tDay, tIn, tN, tTh, tAg, tKd, tWs, tGo, agS, xui, upd, layT, e]
    · simp [tDay, tIn, tN, tTh, tAg, tKd, tWs, tGo, agS, xui, upd, layT, e, h4 i hi]
  · intro i hi
    by_cases e : i = p
    · simp [tDay, tIn, tN, tTh, tAg, tKd, tWs, tGo, agS, xui, upd, layT, e]
    · simp [tDay, tIn, tN, tTh, tAg, tKd, tWs, tGo, agS, xui, upd, layT, e, h5 i hi]
  · intro d hd; simpa [tDay, tIn, tN, tTh, tAg, tKd, tWs, tGo, layT, addT, agS, xui] using h6 d hd
  · intro d hd; simpa [tDay, tIn, tN, tTh, tAg, tKd, tWs, tGo, layT, addT, agS, xui] using h7 d hd
  · intro d hd; simpa [tDay, tIn, tN, tTh, tAg, tKd, tWs, tGo, layT, addT, agS, xui] using h8 d hd
theorem tw_add {σ : xH} {t : Nat} {T : Tw} (h : tw σ t T) (k : Int32) (hn : tN T < 8) : tw (xpi (xpi (xpi (xpi σ (t + 3) (tN T) k) (t + 4) (tN T) (nI 40)) (t + 5) (tN T) (nI 0)) t 2 (nI (tN T + 1))) t (addT T k) := by
  obtain ⟨h1, h2, h3, h4, h5, h6, h7, h8, h9, h10⟩ := h
  refine ⟨?_, ?_, ?_, ?_, ?_, ?_, ?_, ?_, Nat.succ_le_of_lt hn, ?_⟩
  · simpa [tDay, tIn, tN, tTh, tAg, tKd, tWs, tGo, layT, addT, agS, xui, upd] using h1
  · simpa [tDay, tIn, tN, tTh, tAg, tKd, tWs, tGo, layT, addT, agS, xui, upd] using h2
  · simp [tDay, tIn, tN, tTh, tAg, tKd, tWs, tGo, agS, xui, upd, addT]
  · intro i hi; simpa [tDay, tIn, tN, tTh, tAg, tKd, tWs, tGo, layT, addT, agS, xui] using h4 i hi
  · intro i hi; simpa [tDay, tIn, tN, tTh, tAg, tKd, tWs, tGo, layT, addT, agS, xui] using h5 i hi
  · intro d hd
    by_cases e : d = tN T
    · simp [tDay, tIn, tN, tTh, tAg, tKd, tWs, tGo, agS, xui, upd, addT, e]
    · have hd : d < tN T + 1 := hd
      simp [tDay, tIn, tN, tTh, tAg, tKd, tWs, tGo, agS, xui, upd, addT, e, h6 d (by omega)]
  · intro d hd
    by_cases e : d = tN T
    · simp [tDay, tIn, tN, tTh, tAg, tKd, tWs, tGo, agS, xui, upd, addT, e]
    · have hd : d < tN T + 1 := hd
      simp [tDay, tIn, tN, tTh, tAg, tKd, tWs, tGo, agS, xui, upd, addT, e, h7 d (by omega)]
  · intro d hd
    by_cases e : d = tN T
    · simp [tDay, tIn, tN, tTh, tAg, tKd, tWs, tGo, agS, xui, upd, updn, addT, e]
    · have hd : d < tN T + 1 := hd
      simp [tDay, tIn, tN, tTh, tAg, tKd, tWs, tGo, agS, xui, upd, updn, addT, e, h8 d (by omega)]
  · intro d hd
    by_cases e : d = tN T
    · simp [tDay, tIn, tN, tTh, tAg, tKd, tWs, tGo, updn, addT, e]
    · have hd : d < tN T + 1 := hd
      simpa [tDay, tIn, tN, tTh, tAg, tKd, tWs, tGo, updn, addT, e] using h10 d (by omega)
/-- a paint has ended among the first i -/
def agE (T : Tw) : Nat → Bool
  | 0 => false
  | i + 1 => agE T i || decide (tTh T i = nI 4 ∧ ¬ nI 999 ≤ tAg T i ∧ tAg T i + nI 1 = nI 21)
theorem agS_0 {σ : xH} {t : Nat} {T : Tw} (h : tw σ t T) : tw σ t (agS T 0) := by
  obtain ⟨h1, h2, h3, h4, h5, h6, h7, h8, h9, h10⟩ := h
  exact ⟨h1, h2, h3, h4, fun i hi => by simpa [tDay, tIn, tN, tTh, tAg, tKd, tWs, tGo, agS, agF] using h5 i hi, h6, h7, h8, h9, h10⟩
theorem agS_same {σ : xH} {t i : Nat} {T : Tw} (h : tw σ t (agS T i)) (hc : ¬ (tTh T i = nI 4 ∧ ¬ nI 999 ≤ tAg T i)) : tw σ t (agS T (i + 1)) := by
  obtain ⟨h1, h2, h3, h4, h5, h6, h7, h8, h9, h10⟩ := h
  refine ⟨h1, h2, h3, h4, fun j hj => (h5 j hj).trans ?_, h6, h7, h8, h9, h10⟩
  show agF T i j = agF T (i + 1) j
  unfold agF
  by_cases e : j = i
  · subst e
    rw [if_neg (fun z => absurd z.1 (Nat.lt_irrefl _)), if_neg (fun z => hc z.2)]
  · have : (j < i + 1) ↔ j < i := by omega
    simp only [this]
theorem agS_up {σ : xH} {t i : Nat} {T : Tw} (hi : i < 60) (h : tw σ t (agS T i)) (hc : tTh T i = nI 4 ∧ ¬ nI 999 ≤ tAg T i) : tw (xpi σ (t + 2) i (tAg T i + nI 1)) t (agS T (i + 1)) := by
  obtain ⟨h1, h2, h3, h4, h5, h6, h7, h8, h9, h10⟩ := h
  refine ⟨by simpa [tDay, tIn, tN, tTh, tAg, tKd, tWs, tGo, layT, addT, agS, xui] using h1, by simpa [tDay, tIn, tN, tTh, tAg, tKd, tWs, tGo, layT, addT, agS, xui] using h2, by simpa [tDay, tIn, tN, tTh, tAg, tKd, tWs, tGo, layT, addT, agS, xui] using h3, fun j hj => by simpa [tDay, tIn, tN, tTh, tAg, tKd, tWs, tGo, layT, addT, agS, xui] using h4 j hj, fun j hj => ?_, fun d hd => by simpa [tDay, tIn, tN, tTh, tAg, tKd, tWs, tGo, layT, addT, agS, xui] using h6 d hd, fun d hd => by simpa [tDay, tIn, tN, tTh, tAg, tKd, tWs, tGo, layT, addT, agS, xui] using h7 d hd, fun d hd => by simpa [tDay, tIn, tN, tTh, tAg, tKd, tWs, tGo, layT, addT, agS, xui] using h8 d hd, h9, h10⟩
  show _ = agF T (i + 1) j
  by_cases e : j = i
  · subst e
    simp only [xui, if_pos, upd]
    unfold agF
    rw [if_pos ⟨Nat.lt_succ_self _, hc⟩]
  · have e2 : agF T (i + 1) j = agF T i j := by
      unfold agF
      have : (j < i + 1) ↔ j < i := by omega
      simp only [this]
    rw [e2, ← show σ.1 (t + 2) j = agF T i j from h5 j hj]
    simp [tDay, tIn, tN, tTh, tAg, tKd, tWs, tGo, agS, xui, upd, e]
theorem agF_at (T : Tw) (i : Nat) : agF T i i = tAg T i := by unfold agF; rw [if_neg (fun z => absurd z.1 (Nat.lt_irrefl _))]
set_option maxHeartbeats 4000000 in
set_option maxRecDepth 20000 in
theorem c_X3_lay {σ : xH} {K : xH → Prop} {t : Nat} {T : Tw} (hT : isT t) (hw : tw σ t T) {r i : Nat} (hr : r < 3) (hi : i < 20) (v : Int32) (hk : ∀ τ, tw τ t (layT T (r * 20 + i) v) → fr t σ τ → K τ) : Evv l (oC ad D cy) mX3_lay [.ref t, .int (nI r), .int (nI i), .int v] σ K := by
  refine x_enter (ls := [some (.ref t), some (.int (nI r)), some (.int (nI i)), some (.int v), none]) rfl ?_
  refine x_iload_n (i := 1) dX3_lay_0 rfl rfl ?_
  refine x_iload_n (i := 2) dX3_lay_1 rfl rfl ?_
  refine x_pi rfl rfl rfl dX3_lay_2 okX4_placeOf (Nat.le_of_ble_eq_true rfl) ⟨by decide, by decide⟩ (Nat.le_of_ble_eq_true rfl) (c_X4_placeOf _ _ ?_)
  refine y_istore (i := 4) (ls2 := [_, _, _, _, _]) dX3_lay_5 (by decide) rfl rfl ?_
  refine x_aload_n (i := 0) dX3_lay_7 rfl rfl ?_
  refine x_getr (i := 3) dX3_lay_8 (sT0 hT) rfl rfl (by decide) fl_X3_21 inX3 ?_
  refine x_iload (i := 4) dX3_lay_11 rfl ?_
  refine x_iload_n (i := 3) dX3_lay_13 rfl rfl ?_
  refine x_iastN dX3_lay_14 (sT1 hT) (by omega) (by decide) ?_
  refine x_aload_n (i := 0) dX3_lay_15 rfl rfl ?_
  refine x_getr (i := 4) dX3_lay_16 (sT0 hT) rfl rfl (by decide) fl_X3_25 inX3 ?_
  refine x_iload (i := 4) dX3_lay_19 rfl ?_
  refine x_iconstN (n := 0) dX3_lay_21 ?_
  refine x_iastN dX3_lay_22 (sT2 hT) (by omega) (by decide) ?_
  exact x_retv dX3_lay_23 rfl (hk _ (tw_lay hw _ _) (fr_tr (fr_ui (by omega) (by omega)) (fr_ui (by omega) (by omega))))
set_option maxHeartbeats 4000000 in
set_option maxRecDepth 20000 in
theorem c_X3_addDriver {σ : xH} {K : Int32 → xH → Prop} {t : Nat} {T : Tw} (hT : isT t) (hw : tw σ t T) (hn : tN T < 8) (k : Int32) (hk : ∀ τ, tw τ t (addT T k) → fr t σ τ → K (nI (tN T)) τ) : Evi l (oC ad D cy) mX3_addDriver [.ref t, .int k] σ K := by
  refine x_enter (ls := [some (.ref t), some (.int k), none]) rfl ?_
  refine x_aload_n (i := 0) dX3_addDriver_0 rfl rfl ?_
  refine x_getiE (i := 2) dX3_addDriver_1 (sT0 hT) rfl rfl (by decide) fl_X3_18 inX3 (tw_n hw) ?_
  refine y_istore_n (i := 2) (ls2 := [_, _, _]) dX3_addDriver_4 rfl (by decide) rfl rfl ?_
  refine x_iload_n (i := 2) dX3_addDriver_5 rfl rfl ?_
  refine x_bipush (v := nI 8) dX3_addDriver_6 (by decide) ?_
  refine x_icgeN (tgt := 40) (by omega) (by omega) dX3_addDriver_8 rfl (fun h8 => ?_) (fun h8 => ?_)
  · exact absurd h8 (by omega)
  · skip
    refine x_aload_n (i := 0) dX3_addDriver_11 rfl rfl ?_
    refine x_getr (i := 5) dX3_addDriver_12 (sT0 hT) rfl rfl (by decide) fl_X3_28 inX3 ?_
    refine x_iload_n (i := 2) dX3_addDriver_15 rfl rfl ?_
    refine x_iload_n (i := 1) dX3_addDriver_16 rfl rfl ?_
    refine x_iastN dX3_addDriver_17 (sT3 hT) (by omega) (by decide) ?_
    refine x_aload_n (i := 0) dX3_addDriver_18 rfl rfl ?_
    refine x_getr (i := 6) dX3_addDriver_19 (sT0 hT) rfl rfl (by decide) fl_X3_31 inX3 ?_
    refine x_iload_n (i := 2) dX3_addDriver_22 rfl rfl ?_
    refine x_bipush (v := nI 40) dX3_addDriver_23 (by decide) ?_
    refine x_iastN dX3_addDriver_25 (sT4 hT) (by omega) (by decide) ?_
    refine x_aload_n (i := 0) dX3_addDriver_26 rfl rfl ?_
    refine x_getr (i := 7) dX3_addDriver_27 (sT0 hT) rfl rfl (by decide) fl_X3_34 inX3 ?_
    refine x_iload_n (i := 2) dX3_addDriver_30 rfl rfl ?_
    refine x_iconstN (n := 0) dX3_addDriver_31 ?_
    refine x_iastN dX3_addDriver_32 (sT5 hT) (by omega) (by decide) ?_
    refine x_aload_n (i := 0) dX3_addDriver_33 rfl rfl ?_
    refine x_iload_n (i := 2) dX3_addDriver_34 rfl rfl ?_
    refine x_iconstN (n := 1) dX3_addDriver_35 ?_
    refine x_iaddN dX3_addDriver_36 ?_
    refine x_puti (i := 2) (ty := .int) dX3_addDriver_37 (sT0 hT) rfl rfl (by decide) fl_X3_18 inX3 tyX3_ok nmX3 rfl rfl rfl rfl ?_
    refine x_iload_n (i := 2) dX3_addDriver_40 rfl rfl ?_
    exact x_ireti dX3_addDriver_41 rfl (hk _ (tw_add hw _ hn) (fr_tr (fr_tr (fr_tr (fr_ui (by omega) (by omega)) (fr_ui (by omega) (by omega))) (fr_ui (by omega) (by omega))) (fr_ui (by omega) (by omega))))
set_option maxHeartbeats 4000000 in
set_option maxRecDepth 20000 in
theorem l_X3_agePaint {σ0 : xH} {K : Int32 → xH → Prop} {t : Nat} {T : Tw} (hT : isT t) (hk : ∀ τ, tw τ t (agS T 60) → fr t σ0 τ → K (xb (agE T 60 = true)) τ) : ∀ (n i : Nat) (σ : xH) (s : Int32), i + n = 60 → tw σ t (agS T i) → fr t σ0 σ → s = xb (agE T i = true) → Ex l (oC ad D cy) mX3_agePaint 4 [some (.ref t), some (.int s), some (.int (nI i))] [] σ (xQi K) := by
  intro n
  induction n with
  | zero =>
    intro i σ s hi hw hf e_s
    have hi : i = 60 := by omega
    subst hi
    refine x_iload_n (i := 2) dX3_agePaint_4 rfl rfl ?_
    refine x_bipush (v := nI 60) dX3_agePaint_5 (by decide) ?_
    refine x_icgeN (tgt := 61) (by omega) (by omega) dX3_agePaint_7 rfl (fun h7 => ?_) (fun h7 => ?_)
    · skip
      refine x_iload_n (i := 1) dX3_agePaint_61 rfl rfl ?_
      exact x_iretz dX3_agePaint_62 rfl (e_s ▸ xb_01 _) (e_s ▸ hk σ hw hf)
    · exact absurd h7 (by omega)
  | succ n ih =>
    intro i σ s hi hw hf e_s
    refine x_iload_n (i := 2) dX3_agePaint_4 rfl rfl ?_
    refine x_bipush (v := nI 60) dX3_agePaint_5 (by decide) ?_
    refine x_icgeN (tgt := 61) (by omega) (by omega) dX3_agePaint_7 rfl (fun h7 => ?_) (fun h7 => ?_)
    · exact absurd h7 (by omega)
    · skip
      refine x_aload_n (i := 0) dX3_agePaint_10 rfl rfl ?_
      refine x_getr (i := 3) dX3_agePaint_11 (sT0 hT) rfl rfl (by decide) fl_X3_21 inX3 ?_
      refine x_iload_n (i := 2) dX3_agePaint_14 rfl rfl ?_
      refine x_ialdE dX3_agePaint_15 (sT1 hT) (by omega) (by decide) (tw_th hw (by omega)) ?_
      refine x_iconstN (n := 4) dX3_agePaint_16 ?_
      refine x_icne (tgt := 55) dX3_agePaint_17 rfl (fun h17 => ?_) (fun h17 => ?_)
      · skip
        refine y_iincN (i := 2) (ls2 := [_, _, _]) dX3_agePaint_55 rfl (by decide) rfl rfl ?_
        refine x_goto (tgt := 4) dX3_agePaint_58 rfl ?_
        exact ih (i + 1) _ _ (by omega) (agS_same hw (fun z => h17 z.1)) hf (by subst e_s; simp only [show agE T (i + 1) = agE T i by simp [agE, show ¬ tTh T i = nI 4 from h17]])
      · skip
        refine x_aload_n (i := 0) dX3_agePaint_20 rfl rfl ?_
        refine x_getr (i := 4) dX3_agePaint_21 (sT0 hT) rfl rfl (by decide) fl_X3_25 inX3 ?_
        refine x_iload_n (i := 2) dX3_agePaint_24 rfl rfl ?_
        refine x_ialdE dX3_agePaint_25 (sT2 hT) (by omega) (by decide) ((tw_ag hw (by omega)).trans (agF_at T i)) ?_
        refine x_sipush (v := nI 999) dX3_agePaint_26 (by decide) ?_
        refine x_icge (tgt := 55) dX3_agePaint_29 rfl (fun h29 => ?_) (fun h29 => ?_)
        · skip
          refine y_iincN (i := 2) (ls2 := [_, _, _]) dX3_agePaint_55 rfl (by decide) rfl rfl ?_
          refine x_goto (tgt := 4) dX3_agePaint_58 rfl ?_
          exact ih (i + 1) _ _ (by omega) (agS_same hw (fun z => z.2 h29)) hf (by subst e_s; simp only [show agE T (i + 1) = agE T i by simp [agE, show nI 999 ≤ tAg T i from h29]])
        · skip
          refine x_aload_n (i := 0) dX3_agePaint_32 rfl rfl ?_
          refine x_getr (i := 4) dX3_agePaint_33 (sT0 hT) rfl rfl (by decide) fl_X3_25 inX3 ?_
          refine x_iload_n (i := 2) dX3_agePaint_36 rfl rfl ?_
          refine x_dup2 dX3_agePaint_37 rfl rfl ?_
          refine x_ialdE dX3_agePaint_38 (sT2 hT) (by omega) (by decide) ((tw_ag hw (by omega)).trans (agF_at T i)) ?_
          refine x_iconstN (n := 1) dX3_agePaint_39 ?_
          refine x_iadd dX3_agePaint_40 ?_
          refine x_iastN dX3_agePaint_41 (sT2 hT) (by omega) (by decide) ?_
          refine x_aload_n (i := 0) dX3_agePaint_42 rfl rfl ?_
          refine x_getr (i := 4) dX3_agePaint_43 (sT0 hT) rfl rfl (by decide) fl_X3_25 inX3 ?_
          refine x_iload_n (i := 2) dX3_agePaint_46 rfl rfl ?_
          refine x_ialdE dX3_agePaint_47 (sT2 hT) (by omega) (by decide) (show _ = tAg T i + nI 1 by simp [xui, upd]) ?_
          refine x_bipush (v := nI 21) dX3_agePaint_48 (by decide) ?_
          refine x_icne (tgt := 55) dX3_agePaint_50 rfl (fun h50 => ?_) (fun h50 => ?_)
          · skip
            refine y_iincN (i := 2) (ls2 := [_, _, _]) dX3_agePaint_55 rfl (by decide) rfl rfl ?_
            refine x_goto (tgt := 4) dX3_agePaint_58 rfl ?_
            exact ih (i + 1) _ _ (by omega) (agS_up (by omega) hw ⟨h17, h29⟩) (fr_tr hf (fr_ui (by omega) (by omega))) (by subst e_s; simp [agE, show tTh T i = nI 4 from h17, show ¬ nI 999 ≤ tAg T i from h29, show ¬ tAg T i + nI 1 = nI 21 from h50])
          · skip
            refine x_iconstN (n := 1) dX3_agePaint_53 ?_
            refine y_istore_n (i := 1) (ls2 := [_, _, _]) dX3_agePaint_54 rfl (by decide) rfl rfl ?_
            refine y_iincN (i := 2) (ls2 := [_, _, _]) dX3_agePaint_55 rfl (by decide) rfl rfl ?_
            refine x_goto (tgt := 4) dX3_agePaint_58 rfl ?_
            exact ih (i + 1) _ _ (by omega) (agS_up (by omega) hw ⟨h17, h29⟩) (fr_tr hf (fr_ui (by omega) (by omega))) ((xb_t (show agE T (i + 1) = true by simp [agE, show tTh T i = nI 4 from h17, show ¬ nI 999 ≤ tAg T i from h29, show tAg T i + nI 1 = nI 21 from h50])).symm)
set_option maxHeartbeats 4000000 in
set_option maxRecDepth 20000 in
theorem c_X3_agePaint {σ : xH} {K : Int32 → xH → Prop} {t : Nat} {T : Tw} (hT : isT t) (hw : tw σ t T) (hk : ∀ τ, tw τ t (agS T 60) → fr t σ τ → K (xb (agE T 60 = true)) τ) : Evi l (oC ad D cy) mX3_agePaint [.ref t] σ K := by
  refine x_enter (ls := [some (.ref t), none, none]) rfl ?_
  refine x_iconstN (n := 0) dX3_agePaint_0 ?_
  refine y_istore_n (i := 1) (ls2 := [_, _, _]) dX3_agePaint_1 rfl (by decide) rfl rfl ?_
  refine x_iconstN (n := 0) dX3_agePaint_2 ?_
  refine y_istore_n (i := 2) (ls2 := [_, _, _]) dX3_agePaint_3 rfl (by decide) rfl rfl ?_
  exact l_X3_agePaint hT hk 60 0 σ _ rfl (agS_0 hw) (fr_rf t σ) rfl
/-- which street one chooses: the own one first, then by numbers -/
def ch (T : Tw) (k w : Int32) (b : Nat) : Nat → Nat × Int32
  | 0 => (b, pTime T k w b)
  | r + 1 => if (ch T k w b r).2 ≤ pTime T k w r then ch T k w b r else (r, pTime T k w r)
def cho (T : Tw) (d : Nat) : Nat := (ch T (tKd T d) (tWs T d) (tGo T d) 3).1
theorem ch_lt (T : Tw) (k w : Int32) (b : Nat) (hb : b < 3) : ∀ r, r ≤ 3 → (ch T k w b r).1 < 3 := by
  intro r
  induction r with
  | zero => intro _; exact hb
  | succ r ih =>
    intro h
    rw [ch]
    split
    · exact ih (by omega)
    · show r < 3; omega
/-- those below i have chosen -/
def chA (T : Tw) (i : Nat) : Tw := (tDay T, tIn T, tN T, tTh T, tAg T, tKd T, tWs T, fun d => if d < i then cho T d else tGo T d)
theorem chA_0 {σ : xH} {t : Nat} {T : Tw} (h : tw σ t T) : tw σ t (chA T 0) := by
  obtain ⟨h1, h2, h3, h4, h5, h6, h7, h8, h9, h10⟩ := h
  exact ⟨h1, h2, h3, h4, h5, h6, h7, fun d hd => by simpa [tN, tGo, chA] using h8 d hd, h9, fun d hd => by simpa [tN, tGo, chA] using h10 d hd⟩
theorem chA_up {σ : xH} {t i : Nat} {T : Tw} (hi : i < tN T) (h : tw σ t (chA T i)) (hg : tGo T i < 3) : tw (xpi σ (t + 5) i (nI (cho T i))) t (chA T (i + 1)) := by
  obtain ⟨h1, h2, h3, h4, h5, h6, h7, h8, h9, h10⟩ := h
  refine ⟨by simpa [tDay, chA, xui] using h1, by simpa [tIn, chA, xui] using h2, by simpa [tN, chA, xui] using h3, fun j hj => by simpa [tTh, chA, xui] using h4 j hj, fun j hj => by simpa [tAg, chA, xui] using h5 j hj, fun d hd => by simpa [tKd, tN, chA, xui] using h6 d hd, fun d hd => by simpa [tWs, tN, chA, xui] using h7 d hd, fun d hd => ?_, h9, fun d hd => ?_⟩
  · by_cases e : d = i
    · subst e
      simp [xui, upd, chA, tGo]
    · have h := h8 d hd
      have e2 : (d < i + 1) ↔ d < i := by omega
      simp only [xui, upd, e, chA, tGo, if_false, if_true, e2]
      simpa [chA, tGo] using h
  · by_cases e : d = i
    · subst e
      simp only [chA, tGo, Nat.lt_succ_self, if_true]
      exact ch_lt _ _ _ _ hg 3 (Nat.le_refl _)
    · have h := h10 d hd
      have e2 : (d < i + 1) ↔ d < i := by omega
      simp only [chA, tGo, e2]
      simpa [chA, tGo] using h
theorem chA_at (T : Tw) (i : Nat) : tGo (chA T i) i = tGo T i := by simp [chA, tGo]
set_option maxHeartbeats 4000000 in
set_option maxRecDepth 20000 in
theorem l_X3_choose {σ : xH} {K : xH → Prop} {t : Nat} {T : Tw} (hT : isT t) {i : Nat} (hw : tw σ t (chA T i)) (hi : i < tN T) (hg : tGo T i < 3) (hk : ∀ τ, tw τ t (chA T (i + 1)) → fr t σ τ → K τ) : ∀ (n r b : Nat) (s : Int32), r + n = 3 → (b, s) = ch T (tKd T i) (tWs T i) (tGo T i) r → b < 3 → Ex l (oC ad D cy) mX3_chooseStreet 35 [some (.ref t), some (.int (nI i)), some (.int (tKd T i)), some (.int (tWs T i)), some (.int (nI b)), some (.int s), some (.int (nI r)), none] [] σ (xQv K) := by
  have h8 : tN (chA T i) ≤ 8 := tw_8 hw
  have h8 : tN T ≤ 8 := h8
  intro n
  induction n with
  | zero =>
    intro r b s hr e hb
    have hr : r = 3 := by omega
    subst hr
    refine x_iload (i := 6) dX3_chooseStreet_35 rfl ?_
    refine x_iconstN (n := 3) dX3_chooseStreet_37 ?_
    refine x_icgeN (tgt := 72) (by omega) (by omega) dX3_chooseStreet_38 rfl (fun h38 => ?_) (fun h38 => ?_)
    · skip
      refine x_aload_n (i := 0) dX3_chooseStreet_72 rfl rfl ?_
      refine x_getr (i := 7) dX3_chooseStreet_73 (sT0 hT) rfl rfl (by decide) fl_X3_34 inX3 ?_
      refine x_iload_n (i := 1) dX3_chooseStreet_76 rfl rfl ?_
      refine x_iload (i := 4) dX3_chooseStreet_77 rfl ?_
      refine x_iastN dX3_chooseStreet_79 (sT5 hT) (by omega) (by decide) ?_
      exact x_retv dX3_chooseStreet_80 rfl (hk _ (by have := chA_up hi hw hg; rw [cho, ← e] at this; exact this) (fr_ui (by omega) (by omega)))
    · exact absurd h38 (by omega)
  | succ n ih =>
    intro r b s hr e hb
    have hlt := ch_lt T (tKd T i) (tWs T i) (tGo T i) hg (r + 1) (by omega)
    have e2 : ch T (tKd T i) (tWs T i) (tGo T i) (r + 1) = if s ≤ pTime T (tKd T i) (tWs T i) r then (b, s) else (r, pTime T (tKd T i) (tWs T i) r) := by rw [ch, ← e]
    refine x_iload (i := 6) dX3_chooseStreet_35 rfl ?_
    refine x_iconstN (n := 3) dX3_chooseStreet_37 ?_
    refine x_icgeN (tgt := 72) (by omega) (by omega) dX3_chooseStreet_38 rfl (fun h38 => ?_) (fun h38 => ?_)
    · exact absurd h38 (by omega)
    · skip
      refine x_aload_n (i := 0) dX3_chooseStreet_41 rfl rfl ?_
      refine x_iload_n (i := 2) dX3_chooseStreet_42 rfl rfl ?_
      refine x_iload_n (i := 3) dX3_chooseStreet_43 rfl rfl ?_
      refine x_iload (i := 6) dX3_chooseStreet_44 rfl ?_
      refine x_v3i dX3_chooseStreet_46 okX3_timeFor ml_X3_88 (sT0 hT) rfl (Nat.le_of_ble_eq_true rfl) ⟨by decide, by decide⟩ (Nat.le_of_ble_eq_true rfl) (c_X3_timeFor hT hw _ _ (by omega) ?_)
      refine y_istore (i := 7) (ls2 := [_, _, _, _, _, _, _, _]) dX3_chooseStreet_49 (by decide) rfl rfl ?_
      refine x_iload (i := 7) dX3_chooseStreet_51 rfl ?_
      refine x_iload (i := 5) dX3_chooseStreet_53 rfl ?_
      refine x_icge (tgt := 66) dX3_chooseStreet_55 rfl (fun h55 => ?_) (fun h55 => ?_)
      · skip
        refine y_iincN (i := 6) (ls2 := [_, _, _, _, _, _, _, _]) dX3_chooseStreet_66 rfl (by decide) rfl rfl ?_
        refine x_goto (tgt := 35) dX3_chooseStreet_69 rfl ?_
        exact x_mask [true, true, true, true, true, true, true, false] <| ih (r + 1) _ _ (by omega) (by first | exact ((if_pos h55).symm.trans e2.symm) | exact ((if_neg h55).symm.trans e2.symm)) (by omega)
      · skip
        refine x_iload (i := 6) dX3_chooseStreet_58 rfl ?_
        refine y_istore (i := 4) (ls2 := [_, _, _, _, _, _, _, _]) dX3_chooseStreet_60 (by decide) rfl rfl ?_
        refine x_iload (i := 7) dX3_chooseStreet_62 rfl ?_
        refine y_istore (i := 5) (ls2 := [_, _, _, _, _, _, _, _]) dX3_chooseStreet_64 (by decide) rfl rfl ?_
        refine y_iincN (i := 6) (ls2 := [_, _, _, _, _, _, _, _]) dX3_chooseStreet_66 rfl (by decide) rfl rfl ?_
        refine x_goto (tgt := 35) dX3_chooseStreet_69 rfl ?_
        exact x_mask [true, true, true, true, true, true, true, false] <| ih (r + 1) _ _ (by omega) (by first | exact ((if_pos h55).symm.trans e2.symm) | exact ((if_neg h55).symm.trans e2.symm)) (by omega)
set_option maxHeartbeats 4000000 in
set_option maxRecDepth 20000 in
theorem c_X3_chooseStreet {σ : xH} {K : xH → Prop} {t : Nat} {T : Tw} (hT : isT t) {i : Nat} (hw : tw σ t (chA T i)) (hi : i < tN T) (hg : tGo T i < 3) (hk : ∀ τ, tw τ t (chA T (i + 1)) → fr t σ τ → K τ) : Evv l (oC ad D cy) mX3_chooseStreet [.ref t, .int (nI i)] σ K := by
  refine x_enter (ls := [some (.ref t), some (.int (nI i)), none, none, none, none, none, none]) rfl ?_
  have h8 : tN (chA T i) ≤ 8 := tw_8 hw
  have h8 : tN T ≤ 8 := h8
  refine x_aload_n (i := 0) dX3_chooseStreet_0 rfl rfl ?_
  refine x_getr (i := 5) dX3_chooseStreet_1 (sT0 hT) rfl rfl (by decide) fl_X3_28 inX3 ?_
  refine x_iload_n (i := 1) dX3_chooseStreet_4 rfl rfl ?_
  refine x_ialdE dX3_chooseStreet_5 (sT3 hT) (by omega) (by decide) (tw_kd hw (d := i) hi) ?_
  refine y_istore_n (i := 2) (ls2 := [_, _, _, _, _, _, _, _]) dX3_chooseStreet_6 rfl (by decide) rfl rfl ?_
  refine x_aload_n (i := 0) dX3_chooseStreet_7 rfl rfl ?_
  refine x_getr (i := 6) dX3_chooseStreet_8 (sT0 hT) rfl rfl (by decide) fl_X3_31 inX3 ?_
  refine x_iload_n (i := 1) dX3_chooseStreet_11 rfl rfl ?_
  refine x_ialdE dX3_chooseStreet_12 (sT4 hT) (by omega) (by decide) (tw_ws hw (d := i) hi) ?_
  refine y_istore_n (i := 3) (ls2 := [_, _, _, _, _, _, _, _]) dX3_chooseStreet_13 rfl (by decide) rfl rfl ?_
  refine x_aload_n (i := 0) dX3_chooseStreet_14 rfl rfl ?_
  refine x_getr (i := 7) dX3_chooseStreet_15 (sT0 hT) rfl rfl (by decide) fl_X3_34 inX3 ?_
  refine x_iload_n (i := 1) dX3_chooseStreet_18 rfl rfl ?_
  refine x_ialdE dX3_chooseStreet_19 (sT5 hT) (by omega) (by decide) ((tw_go hw (d := i) hi).trans (congrArg nI (chA_at T i))) ?_
  refine y_istore (i := 4) (ls2 := [_, _, _, _, _, _, _, _]) dX3_chooseStreet_20 (by decide) rfl rfl ?_
  refine x_aload_n (i := 0) dX3_chooseStreet_22 rfl rfl ?_
  refine x_iload_n (i := 2) dX3_chooseStreet_23 rfl rfl ?_
  refine x_iload_n (i := 3) dX3_chooseStreet_24 rfl rfl ?_
  refine x_iload (i := 4) dX3_chooseStreet_25 rfl ?_
  refine x_v3i dX3_chooseStreet_27 okX3_timeFor ml_X3_88 (sT0 hT) rfl (Nat.le_of_ble_eq_true rfl) ⟨by decide, by decide⟩ (Nat.le_of_ble_eq_true rfl) (c_X3_timeFor hT hw _ _ (by omega) ?_)
  refine y_istore (i := 5) (ls2 := [_, _, _, _, _, _, _, _]) dX3_chooseStreet_30 (by decide) rfl rfl ?_
  refine x_iconstN (n := 0) dX3_chooseStreet_32 ?_
  refine y_istore (i := 6) (ls2 := [_, _, _, _, _, _, _, _]) dX3_chooseStreet_33 (by decide) rfl rfl ?_
  exact l_X3_choose hT hw hi hg hk 3 0 _ _ rfl rfl hg
theorem nI0 {i : Nat} (hi : i < 2 ^ 31) (h : nI i = 0) : i = 0 := (nI_eq hi (by decide)).mp h
def incD (T : Tw) : Tw := (tDay T + nI 1, tIn T, tN T, tTh T, tAg T, tKd T, tWs T, tGo T)
theorem tw_inc {σ : xH} {t : Nat} {T : Tw} (h : tw σ t T) : tw (xpi σ t 0 (tDay T + nI 1)) t (incD T) := by
  obtain ⟨h1, h2, h3, h4, h5, h6, h7, h8, h9, h10⟩ := h
  exact ⟨by simp [xui, upd, incD], by simpa [xui, upd, tIn, incD] using h2, by simpa [xui, upd, tN, incD] using h3, fun j hj => by simpa [tTh, incD, xui] using h4 j hj, fun j hj => by simpa [tAg, incD, xui] using h5 j hj, fun d hd => by simpa [tKd, tN, incD, xui] using h6 d hd, fun d hd => by simpa [tWs, tN, incD, xui] using h7 d hd, fun d hd => by simpa [tGo, tN, incD, xui] using h8 d hd, h9, h10⟩
/-- a day as the class lets it go: a choice is only made where b says so or a paint has ended -/
def dayC (b : Int32) (T : Tw) : Tw := incD (if ¬ b = 0 ∨ agE T 60 = true then chA (agS T 60) (tN T) else agS T 60)
def daysC (T : Tw) : Nat → Tw
  | 0 => T
  | i + 1 => dayC (if i = 0 then nI 1 else nI 0) (daysC T i)
set_option maxHeartbeats 4000000 in
set_option maxRecDepth 20000 in
theorem l_X3_dayEnd {σ : xH} {K : xH → Prop} {t : Nat} {T : Tw} (hT : isT t) (hw : tw σ t T) (b s : Int32) (v : Option Value) (hk : ∀ τ, tw τ t (incD T) → fr t σ τ → K τ) :  Ex l (oC ad D cy) mX3_letDayGo 34 [some (.ref t), some (.int b), some (.int s), v] [] σ (xQv K) := by
  refine x_aload_n (i := 0) dX3_letDayGo_34 rfl rfl ?_
  refine x_dup dX3_letDayGo_35 rfl ?_
  refine x_getiE (i := 0) dX3_letDayGo_36 (sT0 hT) rfl rfl (by decide) fl_X3_9 inX3 (tw_day hw) ?_
  refine x_iconstN (n := 1) dX3_letDayGo_39 ?_
  refine x_iadd dX3_letDayGo_40 ?_
  refine x_puti (i := 0) (ty := .int) dX3_letDayGo_41 (sT0 hT) rfl rfl (by decide) fl_X3_9 inX3 tyX3_ok nmX3 rfl rfl rfl rfl ?_
  exact x_retv dX3_letDayGo_44 rfl (hk _ (tw_inc hw) (fr_ui (by omega) (by omega)))
set_option maxHeartbeats 4000000 in
set_option maxRecDepth 20000 in
theorem l_X3_dayLoop {σ0 : xH} {K : xH → Prop} {t : Nat} {T : Tw} (hT : isT t) (b s : Int32) (hg3 : ∀ d, d < tN T → tGo T d < 3) (h8 : tN T ≤ 8) (hk : ∀ τ, tw τ t (incD (chA T (tN T))) → fr t σ0 τ → K τ) : ∀ (n i : Nat) (σ : xH), i + n = tN T → tw σ t (chA T i) → fr t σ0 σ → Ex l (oC ad D cy) mX3_letDayGo 15 [some (.ref t), some (.int b), some (.int s), some (.int (nI i))] [] σ (xQv K) := by
  intro n
  induction n with
  | zero =>
    intro i σ hi hw hf
    have hi : i = tN T := by omega
    subst hi
    refine x_iload_n (i := 3) dX3_letDayGo_15 rfl rfl ?_
    refine x_aload_n (i := 0) dX3_letDayGo_16 rfl rfl ?_
    refine x_getiE (i := 2) dX3_letDayGo_17 (sT0 hT) rfl rfl (by decide) fl_X3_18 inX3 ((tw_n hw).trans rfl : _ = nI (tN T)) ?_
    refine x_icgeN (tgt := 34) (by omega) (by omega) dX3_letDayGo_20 rfl (fun h20 => ?_) (fun h20 => ?_)
    · skip
      exact l_X3_dayEnd hT hw b s _ (fun τ h1 h2 => hk τ h1 (fr_tr hf h2))
    · exact absurd h20 (by omega)
  | succ n ih =>
    intro i σ hi hw hf
    refine x_iload_n (i := 3) dX3_letDayGo_15 rfl rfl ?_
    refine x_aload_n (i := 0) dX3_letDayGo_16 rfl rfl ?_
    refine x_getiE (i := 2) dX3_letDayGo_17 (sT0 hT) rfl rfl (by decide) fl_X3_18 inX3 ((tw_n hw).trans rfl : _ = nI (tN T)) ?_
    refine x_icgeN (tgt := 34) (by omega) (by omega) dX3_letDayGo_20 rfl (fun h20 => ?_) (fun h20 => ?_)
    · exact absurd h20 (by omega)
    · skip
      refine x_aload_n (i := 0) dX3_letDayGo_23 rfl rfl ?_
      refine x_iload_n (i := 3) dX3_letDayGo_24 rfl rfl ?_
      refine x_v1v dX3_letDayGo_25 okX3_chooseStreet ml_X3_99 (sT0 hT) rfl (Nat.le_of_ble_eq_true rfl) ⟨by decide, by decide⟩ (Nat.le_of_ble_eq_true rfl) (c_X3_chooseStreet hT hw (by omega) (hg3 _ (by omega)) (fun τ hw2 hf2 => ?_))
      refine y_iincN (i := 3) (ls2 := [_, _, _, _]) dX3_letDayGo_28 rfl (by decide) rfl rfl ?_
      refine x_goto (tgt := 15) dX3_letDayGo_31 rfl ?_
      exact ih (i + 1) τ (by omega) hw2 (fr_tr hf hf2)
set_option maxHeartbeats 4000000 in
set_option maxRecDepth 20000 in
theorem c_X3_letDayGo {σ : xH} {K : xH → Prop} {t : Nat} {T : Tw} (hT : isT t) (hw : tw σ t T) (b : Int32) (hk : ∀ τ, tw τ t (dayC b T) → fr t σ τ → K τ) : Evv l (oC ad D cy) mX3_letDayGo [.ref t, .int b] σ K := by
  refine x_enter (ls := [some (.ref t), some (.int b), none, none]) rfl ?_
  refine x_aload_n (i := 0) dX3_letDayGo_0 rfl rfl ?_
  refine x_v0i dX3_letDayGo_1 okX3_agePaint ml_X3_95 (sT0 hT) rfl (Nat.le_of_ble_eq_true rfl) ⟨by decide, by decide⟩ (Nat.le_of_ble_eq_true rfl) (c_X3_agePaint hT hw (fun τ hw1 hf1 => ?_))
  refine y_istore_n (i := 2) (ls2 := [_, _, _, _]) dX3_letDayGo_4 rfl (by decide) rfl rfl ?_
  refine x_iload_n (i := 1) dX3_letDayGo_5 rfl rfl ?_
  refine x_ifne (tgt := 13) dX3_letDayGo_6 rfl (fun h6 => ?_) (fun h6 => ?_)
  · skip
    refine x_iconstN (n := 0) dX3_letDayGo_13 ?_
    refine y_istore_n (i := 3) (ls2 := [_, _, _, _]) dX3_letDayGo_14 rfl (by decide) rfl rfl ?_
    exact l_X3_dayLoop hT _ _ (fun d hd => tw_g3 hw1 hd) (tw_8 hw1) (fun τ2 h1 h2 => hk τ2 (by have e : dayC b T = incD (chA (agS T 60) (tN T)) := congrArg incD (if_pos (by first | exact Or.inl h6 | exact Or.inr h10)); rw [e]; exact h1) (fr_tr hf1 h2)) (tN T) 0 τ (by show 0 + tN T = tN T; omega) (chA_0 hw1) (fr_rf t τ)
  · skip
    refine x_iload_n (i := 2) dX3_letDayGo_9 rfl rfl ?_
    refine x_ifeqP (tgt := 34) dX3_letDayGo_10 rfl (fun h10 => ?_) (fun h10 => ?_)
    · skip
      exact l_X3_dayEnd hT hw1 _ _ _ (fun τ2 h1 h2 => hk τ2 (by have e : dayC b T = incD (agS T 60) := congrArg incD (if_neg (fun z => z.elim (fun q => q h6) (fun q => h10 q))); rw [e]; exact h1) (fr_tr hf1 h2))
    · skip
      refine x_iconstN (n := 0) dX3_letDayGo_13 ?_
      refine y_istore_n (i := 3) (ls2 := [_, _, _, _]) dX3_letDayGo_14 rfl (by decide) rfl rfl ?_
      exact l_X3_dayLoop hT _ _ (fun d hd => tw_g3 hw1 hd) (tw_8 hw1) (fun τ2 h1 h2 => hk τ2 (by have e : dayC b T = incD (chA (agS T 60) (tN T)) := congrArg incD (if_pos (by first | exact Or.inl h6 | exact Or.inr h10)); rw [e]; exact h1) (fr_tr hf1 h2)) (tN T) 0 τ (by show 0 + tN T = tN T; omega) (chA_0 hw1) (fr_rf t τ)
set_option maxHeartbeats 4000000 in
set_option maxRecDepth 20000 in
theorem l_X3_days {σ0 : xH} {K : xH → Prop} {t : Nat} {T : Tw} (hT : isT t) {m : Nat} (hm : m ≤ 100) (hk : ∀ τ, tw τ t (daysC T m) → fr t σ0 τ → K τ) : ∀ (n i : Nat) (σ : xH), i + n = m → tw σ t (daysC T i) → fr t σ0 σ → Ex l (oC ad D cy) mX3_letDaysGo 2 [some (.ref t), some (.int (nI m)), some (.int (nI i))] [] σ (xQv K) := by
  intro n
  induction n with
  | zero =>
    intro i σ hi hw hf
    have hi : i = m := by omega
    subst hi
    refine x_iload_n (i := 2) dX3_letDaysGo_2 rfl rfl ?_
    refine x_iload_n (i := 1) dX3_letDaysGo_3 rfl rfl ?_
    refine x_icgeN (tgt := 26) (by omega) (by omega) dX3_letDaysGo_4 rfl (fun h4 => ?_) (fun h4 => ?_)
    · skip
      exact x_retv dX3_letDaysGo_26 rfl (hk σ hw hf)
    · exact absurd h4 (by omega)
  | succ n ih =>
    intro i σ hi hw hf
    refine x_iload_n (i := 2) dX3_letDaysGo_2 rfl rfl ?_
    refine x_iload_n (i := 1) dX3_letDaysGo_3 rfl rfl ?_
    refine x_icgeN (tgt := 26) (by omega) (by omega) dX3_letDaysGo_4 rfl (fun h4 => ?_) (fun h4 => ?_)
    · exact absurd h4 (by omega)
    · skip
      refine x_aload_n (i := 0) dX3_letDaysGo_7 rfl rfl ?_
      refine x_iload_n (i := 2) dX3_letDaysGo_8 rfl rfl ?_
      refine x_ifne (tgt := 16) dX3_letDaysGo_9 rfl (fun h9 => ?_) (fun h9 => ?_)
      · skip
        refine x_iconstN (n := 0) dX3_letDaysGo_16 ?_
        refine x_v1v dX3_letDaysGo_17 okX3_letDayGo ml_X3_91 (sT0 hT) rfl (Nat.le_of_ble_eq_true rfl) ⟨by decide, by decide⟩ (Nat.le_of_ble_eq_true rfl) (c_X3_letDayGo hT hw _ (fun τ hw2 hf2 => ?_))
        refine y_iincN (i := 2) (ls2 := [_, _, _]) dX3_letDaysGo_20 rfl (by decide) rfl rfl ?_
        refine x_goto (tgt := 2) dX3_letDaysGo_23 rfl ?_
        exact ih (i + 1) τ (by omega) (by rw [daysC]; first | (rw [if_pos (nI0 (by omega) h9)]; exact hw2) | (rw [if_neg (fun z => h9 (by rw [z]; rfl))]; exact hw2)) (fr_tr hf hf2)
      · skip
        refine x_iconstN (n := 1) dX3_letDaysGo_12 ?_
        refine x_goto (tgt := 17) dX3_letDaysGo_13 rfl ?_
        refine x_v1v dX3_letDaysGo_17 okX3_letDayGo ml_X3_91 (sT0 hT) rfl (Nat.le_of_ble_eq_true rfl) ⟨by decide, by decide⟩ (Nat.le_of_ble_eq_true rfl) (c_X3_letDayGo hT hw _ (fun τ hw2 hf2 => ?_))
        refine y_iincN (i := 2) (ls2 := [_, _, _]) dX3_letDaysGo_20 rfl (by decide) rfl rfl ?_
        refine x_goto (tgt := 2) dX3_letDaysGo_23 rfl ?_
        exact ih (i + 1) τ (by omega) (by rw [daysC]; first | (rw [if_pos (nI0 (by omega) h9)]; exact hw2) | (rw [if_neg (fun z => h9 (by rw [z]; rfl))]; exact hw2)) (fr_tr hf hf2)
set_option maxHeartbeats 4000000 in
set_option maxRecDepth 20000 in
theorem c_X3_letDaysGo {σ : xH} {K : xH → Prop} {t : Nat} {T : Tw} (hT : isT t) (hw : tw σ t T) {m : Nat} (hm : m ≤ 100) (hk : ∀ τ, tw τ t (daysC T m) → fr t σ τ → K τ) : Evv l (oC ad D cy) mX3_letDaysGo [.ref t, .int (nI m)] σ K := by
  refine x_enter (ls := [some (.ref t), some (.int (nI m)), none]) rfl ?_
  refine x_iconstN (n := 0) dX3_letDaysGo_0 ?_
  refine y_istore_n (i := 2) (ls2 := [_, _, _]) dX3_letDaysGo_1 rfl (by decide) rfl rfl ?_
  exact l_X3_days hT hm hk m 0 σ (by omega) hw (fr_rf t σ)
theorem dayC_n (b : Int32) (T : Tw) : tN (dayC b T) = tN T := by
  unfold dayC
  split <;> rfl
theorem daysC_n (T : Tw) : ∀ m, tN (daysC T m) = tN T := by
  intro m
  induction m with
  | zero => rfl
  | succ m ih => rw [daysC, dayC_n]; exact ih
theorem tw_like {σ : xH} {t u : Nat} {U : Tw} (h : tw σ u U) (hd : t + 5 < u ∨ u + 5 < t) : tw (xui (xui (xui (xui (xui (xpi (xpi (xpi σ t 0 (tDay U)) t 1 (tIn U)) t 2 (nI (tN U))) (t + 1) (va_cpy (σ.1 (u + 1)) (σ.1 (t + 1)) 0 0 60)) (t + 2) (va_cpy (σ.1 (u + 2)) (σ.1 (t + 2)) 0 0 60)) (t + 3) (va_cpy (σ.1 (u + 3)) (σ.1 (t + 3)) 0 0 8)) (t + 4) (va_cpy (σ.1 (u + 4)) (σ.1 (t + 4)) 0 0 8)) (t + 5) (va_cpy (σ.1 (u + 5)) (σ.1 (t + 5)) 0 0 8)) t U := by
  obtain ⟨h1, h2, h3, h4, h5, h6, h7, h8, h9, h10⟩ := h
  refine ⟨by simp [xui, upd], by simp [xui, upd], by simp [xui, upd], fun j hj => ?_, fun j hj => ?_, fun d hd => ?_, fun d hd => ?_, fun d hd => ?_, h9, h10⟩
  · simp only [xui, if_pos]
    rw [← h4 j hj]
    simp [va_cpy, hj]
  · simp only [xui, if_pos]
    rw [← h5 j hj]
    simp [va_cpy, hj]
  · have : d < 8 := by omega
    rw [← h6 d hd]
    simp [xui, va_cpy, this]
  · have : d < 8 := by omega
    rw [← h7 d hd]
    simp [xui, va_cpy, this]
  · have : d < 8 := by omega
    rw [← h8 d hd]
    simp [xui, va_cpy, this]
end
